theorem dX0_init_0 : decode cX0_init 0 = .ok (.aload_n 0, 1) := by decide +kernel
theorem dX0_init_1 : decode cX0_init 1 = .ok (.invokespecial 3, 3) := by decide +kernel
theorem dX0_init_4 : decode cX0_init 4 = .ok (.aload_n 0, 1) := by decide +kernel
theorem dX0_init_5 : decode cX0_init 5 = .ok (.iconst 4, 1) := by decide +kernel
theorem dX0_init_6 : decode cX0_init 6 = .ok (.newarray .long, 2) := by decide +kernel
theorem dX0_init_8 : decode cX0_init 8 = .ok (.putfield 11, 3) := by decide +kernel
theorem dX0_init_11 : decode cX0_init 11 = .ok (.return_, 1) := by decide +kernel
set_option maxRecDepth 20000 in
theorem ggX0_has_X4_isCell : GoodIn wsX0_has wsX4_isCell := goodIn_r _ [4] (by decide +kernel) (by decide +kernel)
set_option maxRecDepth 20000 in
theorem gX0_has_X4_isCell_n15 : GoodIn wsX0_has (wsX4_isCell) := ggX0_has_X4_isCell
theorem dX0_has_0 : decode cX0_has 0 = .ok (.iload_n 1, 1) := by decide +kernel
theorem dX0_has_1 : decode cX0_has 1 = .ok (.invokestatic 15, 3) := by decide +kernel
theorem dX0_has_4 : decode cX0_has 4 = .ok (.ifCond .eq 28, 3) := by decide +kernel
theorem dX0_has_7 : decode cX0_has 7 = .ok (.aload_n 0, 1) := by decide +kernel
theorem dX0_has_8 : decode cX0_has 8 = .ok (.getfield 11, 3) := by decide +kernel
theorem dX0_has_11 : decode cX0_has 11 = .ok (.iload_n 1, 1) := by decide +kernel
theorem dX0_has_12 : decode cX0_has 12 = .ok (.bipush 6, 2) := by decide +kernel
theorem dX0_has_14 : decode cX0_has 14 = .ok (.ishr, 1) := by decide +kernel
theorem dX0_has_15 : decode cX0_has 15 = .ok (.laload, 1) := by decide +kernel
theorem dX0_has_16 : decode cX0_has 16 = .ok (.lconst 1, 1) := by decide +kernel
theorem dX0_has_17 : decode cX0_has 17 = .ok (.iload_n 1, 1) := by decide +kernel
theorem dX0_has_18 : decode cX0_has 18 = .ok (.bipush 63, 2) := by decide +kernel
theorem dX0_has_20 : decode cX0_has 20 = .ok (.iand, 1) := by decide +kernel
theorem dX0_has_21 : decode cX0_has 21 = .ok (.lshl, 1) := by decide +kernel
theorem dX0_has_22 : decode cX0_has 22 = .ok (.land, 1) := by decide +kernel
theorem dX0_has_23 : decode cX0_has 23 = .ok (.lconst 0, 1) := by decide +kernel
theorem dX0_has_24 : decode cX0_has 24 = .ok (.lcmp, 1) := by decide +kernel
theorem dX0_has_25 : decode cX0_has 25 = .ok (.ifCond .eq 7, 3) := by decide +kernel
theorem dX0_has_28 : decode cX0_has 28 = .ok (.iconst 1, 1) := by decide +kernel
theorem dX0_has_29 : decode cX0_has 29 = .ok (.goto 4, 3) := by decide +kernel
theorem dX0_has_32 : decode cX0_has 32 = .ok (.iconst 0, 1) := by decide +kernel
theorem dX0_has_33 : decode cX0_has 33 = .ok (.ireturn, 1) := by decide +kernel
set_option maxRecDepth 20000 in
theorem ggX0_add_X4_isCell : GoodIn wsX0_add wsX4_isCell := goodIn_r _ [4] (by decide +kernel) (by decide +kernel)
set_option maxRecDepth 20000 in
theorem gX0_add_X4_isCell_n15 : GoodIn wsX0_add (wsX4_isCell) := ggX0_add_X4_isCell
theorem dX0_add_0 : decode cX0_add 0 = .ok (.iload_n 1, 1) := by decide +kernel
theorem dX0_add_1 : decode cX0_add 1 = .ok (.invokestatic 15, 3) := by decide +kernel
theorem dX0_add_4 : decode cX0_add 4 = .ok (.ifCond .eq 21, 3) := by decide +kernel
theorem dX0_add_7 : decode cX0_add 7 = .ok (.aload_n 0, 1) := by decide +kernel
theorem dX0_add_8 : decode cX0_add 8 = .ok (.getfield 11, 3) := by decide +kernel
theorem dX0_add_11 : decode cX0_add 11 = .ok (.iload_n 1, 1) := by decide +kernel
theorem dX0_add_12 : decode cX0_add 12 = .ok (.bipush 6, 2) := by decide +kernel
theorem dX0_add_14 : decode cX0_add 14 = .ok (.ishr, 1) := by decide +kernel
theorem dX0_add_15 : decode cX0_add 15 = .ok (.dup2, 1) := by decide +kernel
theorem dX0_add_16 : decode cX0_add 16 = .ok (.laload, 1) := by decide +kernel
theorem dX0_add_17 : decode cX0_add 17 = .ok (.lconst 1, 1) := by decide +kernel
theorem dX0_add_18 : decode cX0_add 18 = .ok (.iload_n 1, 1) := by decide +kernel
theorem dX0_add_19 : decode cX0_add 19 = .ok (.bipush 63, 2) := by decide +kernel
theorem dX0_add_21 : decode cX0_add 21 = .ok (.iand, 1) := by decide +kernel
theorem dX0_add_22 : decode cX0_add 22 = .ok (.lshl, 1) := by decide +kernel
theorem dX0_add_23 : decode cX0_add 23 = .ok (.lor, 1) := by decide +kernel
theorem dX0_add_24 : decode cX0_add 24 = .ok (.lastore, 1) := by decide +kernel
theorem dX0_add_25 : decode cX0_add 25 = .ok (.return_, 1) := by decide +kernel
set_option maxRecDepth 20000 in
theorem ggX0_drop_X4_isCell : GoodIn wsX0_drop wsX4_isCell := goodIn_r _ [5] (by decide +kernel) (by decide +kernel)
set_option maxRecDepth 20000 in
theorem gX0_drop_X4_isCell_n15 : GoodIn wsX0_drop (wsX4_isCell) := ggX0_drop_X4_isCell
theorem dX0_drop_0 : decode cX0_drop 0 = .ok (.iload_n 1, 1) := by decide +kernel
theorem dX0_drop_1 : decode cX0_drop 1 = .ok (.invokestatic 15, 3) := by decide +kernel
theorem dX0_drop_4 : decode cX0_drop 4 = .ok (.ifCond .eq 25, 3) := by decide +kernel
theorem dX0_drop_7 : decode cX0_drop 7 = .ok (.aload_n 0, 1) := by decide +kernel
theorem dX0_drop_8 : decode cX0_drop 8 = .ok (.getfield 11, 3) := by decide +kernel
theorem dX0_drop_11 : decode cX0_drop 11 = .ok (.iload_n 1, 1) := by decide +kernel
theorem dX0_drop_12 : decode cX0_drop 12 = .ok (.bipush 6, 2) := by decide +kernel
theorem dX0_drop_14 : decode cX0_drop 14 = .ok (.ishr, 1) := by decide +kernel
theorem dX0_drop_15 : decode cX0_drop 15 = .ok (.dup2, 1) := by decide +kernel
theorem dX0_drop_16 : decode cX0_drop 16 = .ok (.laload, 1) := by decide +kernel
theorem dX0_drop_17 : decode cX0_drop 17 = .ok (.lconst 1, 1) := by decide +kernel
theorem dX0_drop_18 : decode cX0_drop 18 = .ok (.iload_n 1, 1) := by decide +kernel
theorem dX0_drop_19 : decode cX0_drop 19 = .ok (.bipush 63, 2) := by decide +kernel
theorem dX0_drop_21 : decode cX0_drop 21 = .ok (.iand, 1) := by decide +kernel
theorem dX0_drop_22 : decode cX0_drop 22 = .ok (.lshl, 1) := by decide +kernel
theorem dX0_drop_23 : decode cX0_drop 23 = .ok (.ldc2_w 19, 3) := by decide +kernel
theorem dX0_drop_26 : decode cX0_drop 26 = .ok (.lxor, 1) := by decide +kernel
theorem dX0_drop_27 : decode cX0_drop 27 = .ok (.land, 1) := by decide +kernel
theorem dX0_drop_28 : decode cX0_drop 28 = .ok (.lastore, 1) := by decide +kernel
theorem dX0_drop_29 : decode cX0_drop 29 = .ok (.return_, 1) := by decide +kernel
theorem dX0_dropAllOf_0 : decode cX0_dropAllOf 0 = .ok (.iconst 0, 1) := by decide +kernel
theorem dX0_dropAllOf_1 : decode cX0_dropAllOf 1 = .ok (.istore_n 2, 1) := by decide +kernel
theorem dX0_dropAllOf_2 : decode cX0_dropAllOf 2 = .ok (.iload_n 2, 1) := by decide +kernel
theorem dX0_dropAllOf_3 : decode cX0_dropAllOf 3 = .ok (.iconst 4, 1) := by decide +kernel
theorem dX0_dropAllOf_4 : decode cX0_dropAllOf 4 = .ok (.if_icmp .ge 28, 3) := by decide +kernel
theorem dX0_dropAllOf_7 : decode cX0_dropAllOf 7 = .ok (.aload_n 0, 1) := by decide +kernel
theorem dX0_dropAllOf_8 : decode cX0_dropAllOf 8 = .ok (.getfield 11, 3) := by decide +kernel
theorem dX0_dropAllOf_11 : decode cX0_dropAllOf 11 = .ok (.iload_n 2, 1) := by decide +kernel
theorem dX0_dropAllOf_12 : decode cX0_dropAllOf 12 = .ok (.dup2, 1) := by decide +kernel
theorem dX0_dropAllOf_13 : decode cX0_dropAllOf 13 = .ok (.laload, 1) := by decide +kernel
theorem dX0_dropAllOf_14 : decode cX0_dropAllOf 14 = .ok (.aload_n 1, 1) := by decide +kernel
theorem dX0_dropAllOf_15 : decode cX0_dropAllOf 15 = .ok (.getfield 11, 3) := by decide +kernel
theorem dX0_dropAllOf_18 : decode cX0_dropAllOf 18 = .ok (.iload_n 2, 1) := by decide +kernel
theorem dX0_dropAllOf_19 : decode cX0_dropAllOf 19 = .ok (.laload, 1) := by decide +kernel
theorem dX0_dropAllOf_20 : decode cX0_dropAllOf 20 = .ok (.ldc2_w 19, 3) := by decide +kernel
theorem dX0_dropAllOf_23 : decode cX0_dropAllOf 23 = .ok (.lxor, 1) := by decide +kernel
theorem dX0_dropAllOf_24 : decode cX0_dropAllOf 24 = .ok (.land, 1) := by decide +kernel
theorem dX0_dropAllOf_25 : decode cX0_dropAllOf 25 = .ok (.lastore, 1) := by decide +kernel
theorem dX0_dropAllOf_26 : decode cX0_dropAllOf 26 = .ok (.iinc 2 1, 3) := by decide +kernel
theorem dX0_dropAllOf_29 : decode cX0_dropAllOf 29 = .ok (.goto (-27), 3) := by decide +kernel
theorem dX0_dropAllOf_32 : decode cX0_dropAllOf 32 = .ok (.return_, 1) := by decide +kernel
theorem dX0_become_0 : decode cX0_become 0 = .ok (.aload_n 1, 1) := by decide +kernel
theorem dX0_become_1 : decode cX0_become 1 = .ok (.getfield 11, 3) := by decide +kernel
theorem dX0_become_4 : decode cX0_become 4 = .ok (.iconst 0, 1) := by decide +kernel
theorem dX0_become_5 : decode cX0_become 5 = .ok (.aload_n 0, 1) := by decide +kernel
theorem dX0_become_6 : decode cX0_become 6 = .ok (.getfield 11, 3) := by decide +kernel
theorem dX0_become_9 : decode cX0_become 9 = .ok (.iconst 0, 1) := by decide +kernel
theorem dX0_become_10 : decode cX0_become 10 = .ok (.iconst 4, 1) := by decide +kernel
theorem dX0_become_11 : decode cX0_become 11 = .ok (.invokestatic 21, 3) := by decide +kernel
theorem dX0_become_14 : decode cX0_become 14 = .ok (.return_, 1) := by decide +kernel
set_option maxRecDepth 20000 in
theorem ggX0_size_X0_sizeWithin : GoodIn wsX0_size wsX0_sizeWithin := goodIn_r _ [5, 6, 7, 8, 9, 4, 10, 11, 12, 13, 14, 15, 16, 17, 18] (by decide +kernel) (by decide +kernel)
set_option maxRecDepth 20000 in
theorem gX0_size_X0_sizeWithin : GoodIn wsX0_size (wsV RX0 27 RX0 yX0_sizeWithin wsX0_sizeWithin) := goodIn_app (goodIn_of _ (by decide +kernel)) ggX0_size_X0_sizeWithin
theorem dX0_size_0 : decode cX0_size 0 = .ok (.aload_n 0, 1) := by decide +kernel
theorem dX0_size_1 : decode cX0_size 1 = .ok (.iconst 0, 1) := by decide +kernel
theorem dX0_size_2 : decode cX0_size 2 = .ok (.sipush 256, 3) := by decide +kernel
theorem dX0_size_5 : decode cX0_size 5 = .ok (.invokevirtual 27, 3) := by decide +kernel
theorem dX0_size_8 : decode cX0_size 8 = .ok (.ireturn, 1) := by decide +kernel
set_option maxRecDepth 20000 in
theorem ggX0_sizeWithin_X0_bitsBelow : GoodIn wsX0_sizeWithin wsX0_bitsBelow := goodIn_r _ [6, 2] (by decide +kernel) (by decide +kernel)
set_option maxRecDepth 20000 in
theorem gX0_sizeWithin_X0_bitsBelow : GoodIn wsX0_sizeWithin (va_wsS RX0 31 yX0_bitsBelow wsX0_bitsBelow) := goodIn_app (goodIn_of _ (by decide +kernel)) ggX0_sizeWithin_X0_bitsBelow
set_option maxRecDepth 20000 in
theorem ggX0_sizeWithin_J13_bitCount_95d88 : GoodIn wsX0_sizeWithin wsJ13_bitCount_95d88 := goodIn_r _ [10, 11, 12, 13] (by decide +kernel) (by decide +kernel)
set_option maxRecDepth 20000 in
theorem gX0_sizeWithin_J13_bitCount_95d88 : GoodIn wsX0_sizeWithin (va_wsS RX0 35 yJ13_bitCount_95d88 wsJ13_bitCount_95d88) := goodIn_app (goodIn_of _ (by decide +kernel)) ggX0_sizeWithin_J13_bitCount_95d88
theorem dX0_sizeWithin_0 : decode cX0_sizeWithin 0 = .ok (.iconst 0, 1) := by decide +kernel
theorem dX0_sizeWithin_1 : decode cX0_sizeWithin 1 = .ok (.istore_n 3, 1) := by decide +kernel
theorem dX0_sizeWithin_2 : decode cX0_sizeWithin 2 = .ok (.iconst 0, 1) := by decide +kernel
theorem dX0_sizeWithin_3 : decode cX0_sizeWithin 3 = .ok (.istore 4, 2) := by decide +kernel
theorem dX0_sizeWithin_5 : decode cX0_sizeWithin 5 = .ok (.iload 4, 2) := by decide +kernel
theorem dX0_sizeWithin_7 : decode cX0_sizeWithin 7 = .ok (.iconst 4, 1) := by decide +kernel
theorem dX0_sizeWithin_8 : decode cX0_sizeWithin 8 = .ok (.if_icmp .ge 49, 3) := by decide +kernel
theorem dX0_sizeWithin_11 : decode cX0_sizeWithin 11 = .ok (.iload 4, 2) := by decide +kernel
theorem dX0_sizeWithin_13 : decode cX0_sizeWithin 13 = .ok (.bipush 64, 2) := by decide +kernel
theorem dX0_sizeWithin_15 : decode cX0_sizeWithin 15 = .ok (.imul, 1) := by decide +kernel
theorem dX0_sizeWithin_16 : decode cX0_sizeWithin 16 = .ok (.istore 5, 2) := by decide +kernel
theorem dX0_sizeWithin_18 : decode cX0_sizeWithin 18 = .ok (.iload_n 3, 1) := by decide +kernel
theorem dX0_sizeWithin_19 : decode cX0_sizeWithin 19 = .ok (.aload_n 0, 1) := by decide +kernel
theorem dX0_sizeWithin_20 : decode cX0_sizeWithin 20 = .ok (.getfield 11, 3) := by decide +kernel
theorem dX0_sizeWithin_23 : decode cX0_sizeWithin 23 = .ok (.iload 4, 2) := by decide +kernel
theorem dX0_sizeWithin_25 : decode cX0_sizeWithin 25 = .ok (.laload, 1) := by decide +kernel
theorem dX0_sizeWithin_26 : decode cX0_sizeWithin 26 = .ok (.iload_n 2, 1) := by decide +kernel
theorem dX0_sizeWithin_27 : decode cX0_sizeWithin 27 = .ok (.iload 5, 2) := by decide +kernel
theorem dX0_sizeWithin_29 : decode cX0_sizeWithin 29 = .ok (.isub, 1) := by decide +kernel
theorem dX0_sizeWithin_30 : decode cX0_sizeWithin 30 = .ok (.invokestatic 31, 3) := by decide +kernel
theorem dX0_sizeWithin_33 : decode cX0_sizeWithin 33 = .ok (.land, 1) := by decide +kernel
theorem dX0_sizeWithin_34 : decode cX0_sizeWithin 34 = .ok (.iload_n 1, 1) := by decide +kernel
theorem dX0_sizeWithin_35 : decode cX0_sizeWithin 35 = .ok (.iload 5, 2) := by decide +kernel
theorem dX0_sizeWithin_37 : decode cX0_sizeWithin 37 = .ok (.isub, 1) := by decide +kernel
theorem dX0_sizeWithin_38 : decode cX0_sizeWithin 38 = .ok (.invokestatic 31, 3) := by decide +kernel
theorem dX0_sizeWithin_41 : decode cX0_sizeWithin 41 = .ok (.ldc2_w 19, 3) := by decide +kernel
theorem dX0_sizeWithin_44 : decode cX0_sizeWithin 44 = .ok (.lxor, 1) := by decide +kernel
theorem dX0_sizeWithin_45 : decode cX0_sizeWithin 45 = .ok (.land, 1) := by decide +kernel
theorem dX0_sizeWithin_46 : decode cX0_sizeWithin 46 = .ok (.invokestatic 35, 3) := by decide +kernel
theorem dX0_sizeWithin_49 : decode cX0_sizeWithin 49 = .ok (.iadd, 1) := by decide +kernel
theorem dX0_sizeWithin_50 : decode cX0_sizeWithin 50 = .ok (.istore_n 3, 1) := by decide +kernel
theorem dX0_sizeWithin_51 : decode cX0_sizeWithin 51 = .ok (.iinc 4 1, 3) := by decide +kernel
theorem dX0_sizeWithin_54 : decode cX0_sizeWithin 54 = .ok (.goto (-49), 3) := by decide +kernel
theorem dX0_sizeWithin_57 : decode cX0_sizeWithin 57 = .ok (.iload_n 3, 1) := by decide +kernel
theorem dX0_sizeWithin_58 : decode cX0_sizeWithin 58 = .ok (.ireturn, 1) := by decide +kernel
theorem dX0_bitsBelow_0 : decode cX0_bitsBelow 0 = .ok (.iload_n 0, 1) := by decide +kernel
theorem dX0_bitsBelow_1 : decode cX0_bitsBelow 1 = .ok (.ifCond .gt 5, 3) := by decide +kernel
theorem dX0_bitsBelow_4 : decode cX0_bitsBelow 4 = .ok (.lconst 0, 1) := by decide +kernel
theorem dX0_bitsBelow_5 : decode cX0_bitsBelow 5 = .ok (.lreturn, 1) := by decide +kernel
theorem dX0_bitsBelow_6 : decode cX0_bitsBelow 6 = .ok (.iload_n 0, 1) := by decide +kernel
theorem dX0_bitsBelow_7 : decode cX0_bitsBelow 7 = .ok (.bipush 64, 2) := by decide +kernel
theorem dX0_bitsBelow_9 : decode cX0_bitsBelow 9 = .ok (.if_icmp .ge 11, 3) := by decide +kernel
theorem dX0_bitsBelow_12 : decode cX0_bitsBelow 12 = .ok (.lconst 1, 1) := by decide +kernel
theorem dX0_bitsBelow_13 : decode cX0_bitsBelow 13 = .ok (.iload_n 0, 1) := by decide +kernel
theorem dX0_bitsBelow_14 : decode cX0_bitsBelow 14 = .ok (.lshl, 1) := by decide +kernel
theorem dX0_bitsBelow_15 : decode cX0_bitsBelow 15 = .ok (.lconst 1, 1) := by decide +kernel
theorem dX0_bitsBelow_16 : decode cX0_bitsBelow 16 = .ok (.lsub, 1) := by decide +kernel
theorem dX0_bitsBelow_17 : decode cX0_bitsBelow 17 = .ok (.goto 6, 3) := by decide +kernel
theorem dX0_bitsBelow_20 : decode cX0_bitsBelow 20 = .ok (.ldc2_w 19, 3) := by decide +kernel
theorem dX0_bitsBelow_23 : decode cX0_bitsBelow 23 = .ok (.lreturn, 1) := by decide +kernel
set_option maxRecDepth 20000 in
theorem ggX1_init_X2_init : GoodIn wsX1_init wsX2_init := goodIn_r _ [11, 12, 2, 3, 13, 14, 15, 16, 17, 18, 19, 20, 21, 22, 23, 24, 25, 26, 27, 28, 29, 30, 31, 35, 36, 37, 38, 39, 40, 41, 42, 43, 44, 45] (by decide +kernel) (by decide +kernel)
set_option maxRecDepth 20000 in
theorem gX1_init_X2_init_n24 : GoodIn wsX1_init (wsX2_init) := ggX1_init_X2_init
theorem dX1_init_0 : decode cX1_init 0 = .ok (.aload_n 0, 1) := by decide +kernel
theorem dX1_init_1 : decode cX1_init 1 = .ok (.invokespecial 3, 3) := by decide +kernel
theorem dX1_init_4 : decode cX1_init 4 = .ok (.aload_n 0, 1) := by decide +kernel
theorem dX1_init_5 : decode cX1_init 5 = .ok (.bipush 24, 2) := by decide +kernel
theorem dX1_init_7 : decode cX1_init 7 = .ok (.anewarray 9, 3) := by decide +kernel
theorem dX1_init_10 : decode cX1_init 10 = .ok (.putfield 11, 3) := by decide +kernel
theorem dX1_init_13 : decode cX1_init 13 = .ok (.aload_n 0, 1) := by decide +kernel
theorem dX1_init_14 : decode cX1_init 14 = .ok (.iconst 0, 1) := by decide +kernel
theorem dX1_init_15 : decode cX1_init 15 = .ok (.putfield 17, 3) := by decide +kernel
theorem dX1_init_18 : decode cX1_init 18 = .ok (.aload_n 0, 1) := by decide +kernel
theorem dX1_init_19 : decode cX1_init 19 = .ok (.iconst 0, 1) := by decide +kernel
theorem dX1_init_20 : decode cX1_init 20 = .ok (.putfield 21, 3) := by decide +kernel
theorem dX1_init_23 : decode cX1_init 23 = .ok (.iconst 0, 1) := by decide +kernel
theorem dX1_init_24 : decode cX1_init 24 = .ok (.istore_n 1, 1) := by decide +kernel
theorem dX1_init_25 : decode cX1_init 25 = .ok (.iload_n 1, 1) := by decide +kernel
theorem dX1_init_26 : decode cX1_init 26 = .ok (.bipush 24, 2) := by decide +kernel
theorem dX1_init_28 : decode cX1_init 28 = .ok (.if_icmp .ge 22, 3) := by decide +kernel
theorem dX1_init_31 : decode cX1_init 31 = .ok (.aload_n 0, 1) := by decide +kernel
theorem dX1_init_32 : decode cX1_init 32 = .ok (.getfield 11, 3) := by decide +kernel
theorem dX1_init_35 : decode cX1_init 35 = .ok (.iload_n 1, 1) := by decide +kernel
theorem dX1_init_36 : decode cX1_init 36 = .ok (.new 9, 3) := by decide +kernel
theorem dX1_init_39 : decode cX1_init 39 = .ok (.dup, 1) := by decide +kernel
theorem dX1_init_40 : decode cX1_init 40 = .ok (.invokespecial 24, 3) := by decide +kernel
theorem dX1_init_43 : decode cX1_init 43 = .ok (.aastore, 1) := by decide +kernel
theorem dX1_init_44 : decode cX1_init 44 = .ok (.iinc 1 1, 3) := by decide +kernel
theorem dX1_init_47 : decode cX1_init 47 = .ok (.goto (-22), 3) := by decide +kernel
theorem dX1_init_50 : decode cX1_init 50 = .ok (.return_, 1) := by decide +kernel
set_option maxRecDepth 20000 in
theorem ggX1_keep_X2_become : GoodIn wsX1_keep wsX2_become := goodIn_r _ [12, 13, 14, 15, 16, 17, 18, 19, 20, 21, 22, 23, 24, 25, 26, 27, 28, 29, 30, 31, 32, 33, 37, 38, 39, 40, 41, 42, 43, 44, 45, 46, 47] (by decide +kernel) (by decide +kernel)
set_option maxRecDepth 20000 in
theorem gX1_keep_X2_become : GoodIn wsX1_keep (wsV RX1 25 RX2 yX2_become wsX2_become) := goodIn_app (goodIn_of _ (by decide +kernel)) ggX1_keep_X2_become
theorem dX1_keep_0 : decode cX1_keep 0 = .ok (.aload_n 0, 1) := by decide +kernel
theorem dX1_keep_1 : decode cX1_keep 1 = .ok (.getfield 11, 3) := by decide +kernel
theorem dX1_keep_4 : decode cX1_keep 4 = .ok (.aload_n 0, 1) := by decide +kernel
theorem dX1_keep_5 : decode cX1_keep 5 = .ok (.getfield 17, 3) := by decide +kernel
theorem dX1_keep_8 : decode cX1_keep 8 = .ok (.aaload, 1) := by decide +kernel
theorem dX1_keep_9 : decode cX1_keep 9 = .ok (.aload_n 1, 1) := by decide +kernel
theorem dX1_keep_10 : decode cX1_keep 10 = .ok (.invokevirtual 25, 3) := by decide +kernel
theorem dX1_keep_13 : decode cX1_keep 13 = .ok (.aload_n 0, 1) := by decide +kernel
theorem dX1_keep_14 : decode cX1_keep 14 = .ok (.aload_n 0, 1) := by decide +kernel
theorem dX1_keep_15 : decode cX1_keep 15 = .ok (.getfield 17, 3) := by decide +kernel
theorem dX1_keep_18 : decode cX1_keep 18 = .ok (.iconst 1, 1) := by decide +kernel
theorem dX1_keep_19 : decode cX1_keep 19 = .ok (.iadd, 1) := by decide +kernel
theorem dX1_keep_20 : decode cX1_keep 20 = .ok (.bipush 24, 2) := by decide +kernel
theorem dX1_keep_22 : decode cX1_keep 22 = .ok (.if_icmp .ge 12, 3) := by decide +kernel
theorem dX1_keep_25 : decode cX1_keep 25 = .ok (.aload_n 0, 1) := by decide +kernel
theorem dX1_keep_26 : decode cX1_keep 26 = .ok (.getfield 17, 3) := by decide +kernel
theorem dX1_keep_29 : decode cX1_keep 29 = .ok (.iconst 1, 1) := by decide +kernel
theorem dX1_keep_30 : decode cX1_keep 30 = .ok (.iadd, 1) := by decide +kernel
theorem dX1_keep_31 : decode cX1_keep 31 = .ok (.goto 4, 3) := by decide +kernel
theorem dX1_keep_34 : decode cX1_keep 34 = .ok (.iconst 0, 1) := by decide +kernel
theorem dX1_keep_35 : decode cX1_keep 35 = .ok (.putfield 17, 3) := by decide +kernel
theorem dX1_keep_38 : decode cX1_keep 38 = .ok (.aload_n 0, 1) := by decide +kernel
theorem dX1_keep_39 : decode cX1_keep 39 = .ok (.bipush 24, 2) := by decide +kernel
theorem dX1_keep_41 : decode cX1_keep 41 = .ok (.aload_n 0, 1) := by decide +kernel
theorem dX1_keep_42 : decode cX1_keep 42 = .ok (.getfield 21, 3) := by decide +kernel
theorem dX1_keep_45 : decode cX1_keep 45 = .ok (.iconst 1, 1) := by decide +kernel
theorem dX1_keep_46 : decode cX1_keep 46 = .ok (.iadd, 1) := by decide +kernel
theorem dX1_keep_47 : decode cX1_keep 47 = .ok (.invokestatic 29, 3) := by decide +kernel
theorem dX1_keep_50 : decode cX1_keep 50 = .ok (.putfield 21, 3) := by decide +kernel
theorem dX1_keep_53 : decode cX1_keep 53 = .ok (.return_, 1) := by decide +kernel
set_option maxRecDepth 20000 in
theorem ggX1_takeBack_X2_become : GoodIn wsX1_takeBack wsX2_become := goodIn_r _ [8, 9, 10, 11, 12, 13, 14, 15, 16, 17, 18, 19, 20, 21, 22, 23, 24, 25, 26, 27, 28, 29, 33, 34, 35, 36, 37, 38, 39, 40, 41, 42, 43] (by decide +kernel) (by decide +kernel)
set_option maxRecDepth 20000 in
theorem gX1_takeBack_X2_become : GoodIn wsX1_takeBack (wsV RX1 25 RX2 yX2_become wsX2_become) := goodIn_app (goodIn_of _ (by decide +kernel)) ggX1_takeBack_X2_become
theorem dX1_takeBack_0 : decode cX1_takeBack 0 = .ok (.aload_n 0, 1) := by decide +kernel
theorem dX1_takeBack_1 : decode cX1_takeBack 1 = .ok (.getfield 21, 3) := by decide +kernel
theorem dX1_takeBack_4 : decode cX1_takeBack 4 = .ok (.ifCond .le 48, 3) := by decide +kernel
theorem dX1_takeBack_7 : decode cX1_takeBack 7 = .ok (.aload_n 0, 1) := by decide +kernel
theorem dX1_takeBack_8 : decode cX1_takeBack 8 = .ok (.aload_n 0, 1) := by decide +kernel
theorem dX1_takeBack_9 : decode cX1_takeBack 9 = .ok (.getfield 17, 3) := by decide +kernel
theorem dX1_takeBack_12 : decode cX1_takeBack 12 = .ok (.ifCond .le 12, 3) := by decide +kernel
theorem dX1_takeBack_15 : decode cX1_takeBack 15 = .ok (.aload_n 0, 1) := by decide +kernel
theorem dX1_takeBack_16 : decode cX1_takeBack 16 = .ok (.getfield 17, 3) := by decide +kernel
theorem dX1_takeBack_19 : decode cX1_takeBack 19 = .ok (.iconst 1, 1) := by decide +kernel
theorem dX1_takeBack_20 : decode cX1_takeBack 20 = .ok (.isub, 1) := by decide +kernel
theorem dX1_takeBack_21 : decode cX1_takeBack 21 = .ok (.goto 5, 3) := by decide +kernel
theorem dX1_takeBack_24 : decode cX1_takeBack 24 = .ok (.bipush 23, 2) := by decide +kernel
theorem dX1_takeBack_26 : decode cX1_takeBack 26 = .ok (.putfield 17, 3) := by decide +kernel
theorem dX1_takeBack_29 : decode cX1_takeBack 29 = .ok (.aload_n 0, 1) := by decide +kernel
theorem dX1_takeBack_30 : decode cX1_takeBack 30 = .ok (.dup, 1) := by decide +kernel
theorem dX1_takeBack_31 : decode cX1_takeBack 31 = .ok (.getfield 21, 3) := by decide +kernel
theorem dX1_takeBack_34 : decode cX1_takeBack 34 = .ok (.iconst 1, 1) := by decide +kernel
theorem dX1_takeBack_35 : decode cX1_takeBack 35 = .ok (.isub, 1) := by decide +kernel
theorem dX1_takeBack_36 : decode cX1_takeBack 36 = .ok (.putfield 21, 3) := by decide +kernel
theorem dX1_takeBack_39 : decode cX1_takeBack 39 = .ok (.aload_n 1, 1) := by decide +kernel
theorem dX1_takeBack_40 : decode cX1_takeBack 40 = .ok (.aload_n 0, 1) := by decide +kernel
theorem dX1_takeBack_41 : decode cX1_takeBack 41 = .ok (.getfield 11, 3) := by decide +kernel
theorem dX1_takeBack_44 : decode cX1_takeBack 44 = .ok (.aload_n 0, 1) := by decide +kernel
theorem dX1_takeBack_45 : decode cX1_takeBack 45 = .ok (.getfield 17, 3) := by decide +kernel
theorem dX1_takeBack_48 : decode cX1_takeBack 48 = .ok (.aaload, 1) := by decide +kernel
theorem dX1_takeBack_49 : decode cX1_takeBack 49 = .ok (.invokevirtual 25, 3) := by decide +kernel
theorem dX1_takeBack_52 : decode cX1_takeBack 52 = .ok (.return_, 1) := by decide +kernel
set_option maxRecDepth 20000 in
theorem ggX2_init_X0_init : GoodIn wsX2_init wsX0_init := goodIn_r _ [20, 21, 2, 3, 4, 22, 33] (by decide +kernel) (by decide +kernel)
set_option maxRecDepth 20000 in
theorem gX2_init_X0_init_n24 : GoodIn wsX2_init (wsX0_init) := ggX2_init_X0_init
theorem dX2_init_0 : decode cX2_init 0 = .ok (.aload_n 0, 1) := by decide +kernel
theorem dX2_init_1 : decode cX2_init 1 = .ok (.invokespecial 3, 3) := by decide +kernel
theorem dX2_init_4 : decode cX2_init 4 = .ok (.aload_n 0, 1) := by decide +kernel
theorem dX2_init_5 : decode cX2_init 5 = .ok (.sipush 256, 3) := by decide +kernel
theorem dX2_init_8 : decode cX2_init 8 = .ok (.newarray .long, 2) := by decide +kernel
theorem dX2_init_10 : decode cX2_init 10 = .ok (.putfield 9, 3) := by decide +kernel
theorem dX2_init_13 : decode cX2_init 13 = .ok (.aload_n 0, 1) := by decide +kernel
theorem dX2_init_14 : decode cX2_init 14 = .ok (.bipush 8, 2) := by decide +kernel
theorem dX2_init_16 : decode cX2_init 16 = .ok (.newarray .long, 2) := by decide +kernel
theorem dX2_init_18 : decode cX2_init 18 = .ok (.putfield 15, 3) := by decide +kernel
theorem dX2_init_21 : decode cX2_init 21 = .ok (.aload_n 0, 1) := by decide +kernel
theorem dX2_init_22 : decode cX2_init 22 = .ok (.bipush 7, 2) := by decide +kernel
theorem dX2_init_24 : decode cX2_init 24 = .ok (.newarray .int, 2) := by decide +kernel
theorem dX2_init_26 : decode cX2_init 26 = .ok (.putfield 18, 3) := by decide +kernel
theorem dX2_init_29 : decode cX2_init 29 = .ok (.aload_n 0, 1) := by decide +kernel
theorem dX2_init_30 : decode cX2_init 30 = .ok (.new 22, 3) := by decide +kernel
theorem dX2_init_33 : decode cX2_init 33 = .ok (.dup, 1) := by decide +kernel
theorem dX2_init_34 : decode cX2_init 34 = .ok (.invokespecial 24, 3) := by decide +kernel
theorem dX2_init_37 : decode cX2_init 37 = .ok (.putfield 25, 3) := by decide +kernel
theorem dX2_init_40 : decode cX2_init 40 = .ok (.aload_n 0, 1) := by decide +kernel
theorem dX2_init_41 : decode cX2_init 41 = .ok (.new 22, 3) := by decide +kernel
theorem dX2_init_44 : decode cX2_init 44 = .ok (.dup, 1) := by decide +kernel
theorem dX2_init_45 : decode cX2_init 45 = .ok (.invokespecial 24, 3) := by decide +kernel
theorem dX2_init_48 : decode cX2_init 48 = .ok (.putfield 29, 3) := by decide +kernel
theorem dX2_init_51 : decode cX2_init 51 = .ok (.aload_n 0, 1) := by decide +kernel
theorem dX2_init_52 : decode cX2_init 52 = .ok (.new 22, 3) := by decide +kernel
theorem dX2_init_55 : decode cX2_init 55 = .ok (.dup, 1) := by decide +kernel
theorem dX2_init_56 : decode cX2_init 56 = .ok (.invokespecial 24, 3) := by decide +kernel
theorem dX2_init_59 : decode cX2_init 59 = .ok (.putfield 32, 3) := by decide +kernel
theorem dX2_init_62 : decode cX2_init 62 = .ok (.aload_n 0, 1) := by decide +kernel
theorem dX2_init_63 : decode cX2_init 63 = .ok (.new 22, 3) := by decide +kernel
theorem dX2_init_66 : decode cX2_init 66 = .ok (.dup, 1) := by decide +kernel
theorem dX2_init_67 : decode cX2_init 67 = .ok (.invokespecial 24, 3) := by decide +kernel
theorem dX2_init_70 : decode cX2_init 70 = .ok (.putfield 35, 3) := by decide +kernel
theorem dX2_init_73 : decode cX2_init 73 = .ok (.aload_n 0, 1) := by decide +kernel
theorem dX2_init_74 : decode cX2_init 74 = .ok (.iconst 0, 1) := by decide +kernel
theorem dX2_init_75 : decode cX2_init 75 = .ok (.putfield 38, 3) := by decide +kernel
theorem dX2_init_78 : decode cX2_init 78 = .ok (.aload_n 0, 1) := by decide +kernel
theorem dX2_init_79 : decode cX2_init 79 = .ok (.iconst 0, 1) := by decide +kernel
theorem dX2_init_80 : decode cX2_init 80 = .ok (.putfield 42, 3) := by decide +kernel
theorem dX2_init_83 : decode cX2_init 83 = .ok (.aload_n 0, 1) := by decide +kernel
theorem dX2_init_84 : decode cX2_init 84 = .ok (.iconst 0, 1) := by decide +kernel
theorem dX2_init_85 : decode cX2_init 85 = .ok (.putfield 46, 3) := by decide +kernel
theorem dX2_init_88 : decode cX2_init 88 = .ok (.return_, 1) := by decide +kernel
set_option maxRecDepth 20000 in
theorem ggX2_become_X0_become : GoodIn wsX2_become wsX0_become := goodIn_r _ [19, 20, 21, 3, 4, 5, 32] (by decide +kernel) (by decide +kernel)
set_option maxRecDepth 20000 in
theorem gX2_become_X0_become : GoodIn wsX2_become (wsV RX2 55 RX0 yX0_become wsX0_become) := goodIn_app (goodIn_of _ (by decide +kernel)) ggX2_become_X0_become
theorem dX2_become_0 : decode cX2_become 0 = .ok (.aload_n 1, 1) := by decide +kernel
theorem dX2_become_1 : decode cX2_become 1 = .ok (.getfield 9, 3) := by decide +kernel
theorem dX2_become_4 : decode cX2_become 4 = .ok (.iconst 0, 1) := by decide +kernel
theorem dX2_become_5 : decode cX2_become 5 = .ok (.aload_n 0, 1) := by decide +kernel
theorem dX2_become_6 : decode cX2_become 6 = .ok (.getfield 9, 3) := by decide +kernel
theorem dX2_become_9 : decode cX2_become 9 = .ok (.iconst 0, 1) := by decide +kernel
theorem dX2_become_10 : decode cX2_become 10 = .ok (.sipush 256, 3) := by decide +kernel
theorem dX2_become_13 : decode cX2_become 13 = .ok (.invokestatic 49, 3) := by decide +kernel
theorem dX2_become_16 : decode cX2_become 16 = .ok (.aload_n 1, 1) := by decide +kernel
theorem dX2_become_17 : decode cX2_become 17 = .ok (.getfield 15, 3) := by decide +kernel
theorem dX2_become_20 : decode cX2_become 20 = .ok (.iconst 0, 1) := by decide +kernel
theorem dX2_become_21 : decode cX2_become 21 = .ok (.aload_n 0, 1) := by decide +kernel
theorem dX2_become_22 : decode cX2_become 22 = .ok (.getfield 15, 3) := by decide +kernel
theorem dX2_become_25 : decode cX2_become 25 = .ok (.iconst 0, 1) := by decide +kernel
theorem dX2_become_26 : decode cX2_become 26 = .ok (.bipush 8, 2) := by decide +kernel
theorem dX2_become_28 : decode cX2_become 28 = .ok (.invokestatic 49, 3) := by decide +kernel
theorem dX2_become_31 : decode cX2_become 31 = .ok (.aload_n 1, 1) := by decide +kernel
theorem dX2_become_32 : decode cX2_become 32 = .ok (.getfield 18, 3) := by decide +kernel
theorem dX2_become_35 : decode cX2_become 35 = .ok (.iconst 0, 1) := by decide +kernel
theorem dX2_become_36 : decode cX2_become 36 = .ok (.aload_n 0, 1) := by decide +kernel
theorem dX2_become_37 : decode cX2_become 37 = .ok (.getfield 18, 3) := by decide +kernel
theorem dX2_become_40 : decode cX2_become 40 = .ok (.iconst 0, 1) := by decide +kernel
theorem dX2_become_41 : decode cX2_become 41 = .ok (.bipush 7, 2) := by decide +kernel
theorem dX2_become_43 : decode cX2_become 43 = .ok (.invokestatic 49, 3) := by decide +kernel
theorem dX2_become_46 : decode cX2_become 46 = .ok (.aload_n 0, 1) := by decide +kernel
theorem dX2_become_47 : decode cX2_become 47 = .ok (.getfield 25, 3) := by decide +kernel
theorem dX2_become_50 : decode cX2_become 50 = .ok (.aload_n 1, 1) := by decide +kernel
theorem dX2_become_51 : decode cX2_become 51 = .ok (.getfield 25, 3) := by decide +kernel
theorem dX2_become_54 : decode cX2_become 54 = .ok (.invokevirtual 55, 3) := by decide +kernel
theorem dX2_become_57 : decode cX2_become 57 = .ok (.aload_n 0, 1) := by decide +kernel
theorem dX2_become_58 : decode cX2_become 58 = .ok (.getfield 29, 3) := by decide +kernel
theorem dX2_become_61 : decode cX2_become 61 = .ok (.aload_n 1, 1) := by decide +kernel
theorem dX2_become_62 : decode cX2_become 62 = .ok (.getfield 29, 3) := by decide +kernel
theorem dX2_become_65 : decode cX2_become 65 = .ok (.invokevirtual 55, 3) := by decide +kernel
theorem dX2_become_68 : decode cX2_become 68 = .ok (.aload_n 0, 1) := by decide +kernel
theorem dX2_become_69 : decode cX2_become 69 = .ok (.getfield 32, 3) := by decide +kernel
theorem dX2_become_72 : decode cX2_become 72 = .ok (.aload_n 1, 1) := by decide +kernel
theorem dX2_become_73 : decode cX2_become 73 = .ok (.getfield 32, 3) := by decide +kernel
theorem dX2_become_76 : decode cX2_become 76 = .ok (.invokevirtual 55, 3) := by decide +kernel
theorem dX2_become_79 : decode cX2_become 79 = .ok (.aload_n 0, 1) := by decide +kernel
theorem dX2_become_80 : decode cX2_become 80 = .ok (.getfield 35, 3) := by decide +kernel
theorem dX2_become_83 : decode cX2_become 83 = .ok (.aload_n 1, 1) := by decide +kernel
theorem dX2_become_84 : decode cX2_become 84 = .ok (.getfield 35, 3) := by decide +kernel
theorem dX2_become_87 : decode cX2_become 87 = .ok (.invokevirtual 55, 3) := by decide +kernel
theorem dX2_become_90 : decode cX2_become 90 = .ok (.aload_n 0, 1) := by decide +kernel
theorem dX2_become_91 : decode cX2_become 91 = .ok (.aload_n 1, 1) := by decide +kernel
theorem dX2_become_92 : decode cX2_become 92 = .ok (.getfield 38, 3) := by decide +kernel
theorem dX2_become_95 : decode cX2_become 95 = .ok (.putfield 38, 3) := by decide +kernel
theorem dX2_become_98 : decode cX2_become 98 = .ok (.aload_n 0, 1) := by decide +kernel
theorem dX2_become_99 : decode cX2_become 99 = .ok (.aload_n 1, 1) := by decide +kernel
theorem dX2_become_100 : decode cX2_become 100 = .ok (.getfield 42, 3) := by decide +kernel
theorem dX2_become_103 : decode cX2_become 103 = .ok (.putfield 42, 3) := by decide +kernel
theorem dX2_become_106 : decode cX2_become 106 = .ok (.aload_n 0, 1) := by decide +kernel
theorem dX2_become_107 : decode cX2_become 107 = .ok (.aload_n 1, 1) := by decide +kernel
theorem dX2_become_108 : decode cX2_become 108 = .ok (.getfield 46, 3) := by decide +kernel
theorem dX2_become_111 : decode cX2_become 111 = .ok (.putfield 46, 3) := by decide +kernel
theorem dX2_become_114 : decode cX2_become 114 = .ok (.return_, 1) := by decide +kernel
set_option maxRecDepth 20000 in
theorem ggX2_useOf_X0_has : GoodIn wsX2_useOf wsX0_has := goodIn_r _ [7, 8, 9, 10, 11, 22] (by decide +kernel) (by decide +kernel)
set_option maxRecDepth 20000 in
theorem gX2_useOf_X0_has : GoodIn wsX2_useOf (wsV RX2 59 RX0 yX0_has wsX0_has) := goodIn_app (goodIn_of _ (by decide +kernel)) ggX2_useOf_X0_has
theorem dX2_useOf_0 : decode cX2_useOf 0 = .ok (.aload_n 0, 1) := by decide +kernel
theorem dX2_useOf_1 : decode cX2_useOf 1 = .ok (.getfield 25, 3) := by decide +kernel
theorem dX2_useOf_4 : decode cX2_useOf 4 = .ok (.iload_n 1, 1) := by decide +kernel
theorem dX2_useOf_5 : decode cX2_useOf 5 = .ok (.invokevirtual 59, 3) := by decide +kernel
theorem dX2_useOf_8 : decode cX2_useOf 8 = .ok (.ifCond .eq 5, 3) := by decide +kernel
theorem dX2_useOf_11 : decode cX2_useOf 11 = .ok (.iconst 1, 1) := by decide +kernel
theorem dX2_useOf_12 : decode cX2_useOf 12 = .ok (.ireturn, 1) := by decide +kernel
theorem dX2_useOf_13 : decode cX2_useOf 13 = .ok (.aload_n 0, 1) := by decide +kernel
theorem dX2_useOf_14 : decode cX2_useOf 14 = .ok (.getfield 29, 3) := by decide +kernel
theorem dX2_useOf_17 : decode cX2_useOf 17 = .ok (.iload_n 1, 1) := by decide +kernel
theorem dX2_useOf_18 : decode cX2_useOf 18 = .ok (.invokevirtual 59, 3) := by decide +kernel
theorem dX2_useOf_21 : decode cX2_useOf 21 = .ok (.ifCond .eq 7, 3) := by decide +kernel
theorem dX2_useOf_24 : decode cX2_useOf 24 = .ok (.iconst 2, 1) := by decide +kernel
theorem dX2_useOf_25 : decode cX2_useOf 25 = .ok (.goto 4, 3) := by decide +kernel
theorem dX2_useOf_28 : decode cX2_useOf 28 = .ok (.iconst 0, 1) := by decide +kernel
theorem dX2_useOf_29 : decode cX2_useOf 29 = .ok (.ireturn, 1) := by decide +kernel
set_option maxRecDepth 20000 in
theorem ggX2_firstFreeRow_X2_useOf : GoodIn wsX2_firstFreeRow wsX2_useOf := goodIn_r _ [5, 6, 7, 8, 9, 10, 11, 12, 13, 14, 15, 16, 17, 18, 19, 20, 21, 22, 23, 24, 25, 26, 27] (by decide +kernel) (by decide +kernel)
set_option maxRecDepth 20000 in
theorem gX2_firstFreeRow_X2_useOf : GoodIn wsX2_firstFreeRow (wsV RX2 63 RX2 yX2_useOf wsX2_useOf) := goodIn_app (goodIn_of _ (by decide +kernel)) ggX2_firstFreeRow_X2_useOf
theorem dX2_firstFreeRow_0 : decode cX2_firstFreeRow 0 = .ok (.iconst 0, 1) := by decide +kernel
theorem dX2_firstFreeRow_1 : decode cX2_firstFreeRow 1 = .ok (.istore_n 2, 1) := by decide +kernel
theorem dX2_firstFreeRow_2 : decode cX2_firstFreeRow 2 = .ok (.iconst 0, 1) := by decide +kernel
theorem dX2_firstFreeRow_3 : decode cX2_firstFreeRow 3 = .ok (.istore_n 3, 1) := by decide +kernel
theorem dX2_firstFreeRow_4 : decode cX2_firstFreeRow 4 = .ok (.iload_n 3, 1) := by decide +kernel
theorem dX2_firstFreeRow_5 : decode cX2_firstFreeRow 5 = .ok (.sipush 256, 3) := by decide +kernel
theorem dX2_firstFreeRow_8 : decode cX2_firstFreeRow 8 = .ok (.if_icmp .ge 36, 3) := by decide +kernel
theorem dX2_firstFreeRow_11 : decode cX2_firstFreeRow 11 = .ok (.aload_n 0, 1) := by decide +kernel
theorem dX2_firstFreeRow_12 : decode cX2_firstFreeRow 12 = .ok (.iload_n 3, 1) := by decide +kernel
theorem dX2_firstFreeRow_13 : decode cX2_firstFreeRow 13 = .ok (.invokevirtual 63, 3) := by decide +kernel
theorem dX2_firstFreeRow_16 : decode cX2_firstFreeRow 16 = .ok (.ifCond .ne 9, 3) := by decide +kernel
theorem dX2_firstFreeRow_19 : decode cX2_firstFreeRow 19 = .ok (.iload_n 2, 1) := by decide +kernel
theorem dX2_firstFreeRow_20 : decode cX2_firstFreeRow 20 = .ok (.iconst 1, 1) := by decide +kernel
theorem dX2_firstFreeRow_21 : decode cX2_firstFreeRow 21 = .ok (.iadd, 1) := by decide +kernel
theorem dX2_firstFreeRow_22 : decode cX2_firstFreeRow 22 = .ok (.goto 4, 3) := by decide +kernel
theorem dX2_firstFreeRow_25 : decode cX2_firstFreeRow 25 = .ok (.iconst 0, 1) := by decide +kernel
theorem dX2_firstFreeRow_26 : decode cX2_firstFreeRow 26 = .ok (.istore_n 2, 1) := by decide +kernel
theorem dX2_firstFreeRow_27 : decode cX2_firstFreeRow 27 = .ok (.iload_n 2, 1) := by decide +kernel
theorem dX2_firstFreeRow_28 : decode cX2_firstFreeRow 28 = .ok (.iload_n 1, 1) := by decide +kernel
theorem dX2_firstFreeRow_29 : decode cX2_firstFreeRow 29 = .ok (.if_icmp .ne 9, 3) := by decide +kernel
theorem dX2_firstFreeRow_32 : decode cX2_firstFreeRow 32 = .ok (.iload_n 3, 1) := by decide +kernel
theorem dX2_firstFreeRow_33 : decode cX2_firstFreeRow 33 = .ok (.iload_n 1, 1) := by decide +kernel
theorem dX2_firstFreeRow_34 : decode cX2_firstFreeRow 34 = .ok (.isub, 1) := by decide +kernel
theorem dX2_firstFreeRow_35 : decode cX2_firstFreeRow 35 = .ok (.iconst 1, 1) := by decide +kernel
theorem dX2_firstFreeRow_36 : decode cX2_firstFreeRow 36 = .ok (.iadd, 1) := by decide +kernel
theorem dX2_firstFreeRow_37 : decode cX2_firstFreeRow 37 = .ok (.ireturn, 1) := by decide +kernel
theorem dX2_firstFreeRow_38 : decode cX2_firstFreeRow 38 = .ok (.iinc 3 1, 3) := by decide +kernel
theorem dX2_firstFreeRow_41 : decode cX2_firstFreeRow 41 = .ok (.goto (-37), 3) := by decide +kernel
theorem dX2_firstFreeRow_44 : decode cX2_firstFreeRow 44 = .ok (.iconst (-1), 1) := by decide +kernel
theorem dX2_firstFreeRow_45 : decode cX2_firstFreeRow 45 = .ok (.ireturn, 1) := by decide +kernel
set_option maxRecDepth 20000 in
theorem ggX2_giveOut_X0_add : GoodIn wsX2_giveOut wsX0_add := goodIn_r _ [8, 9, 10, 11, 12, 28] (by decide +kernel) (by decide +kernel)
set_option maxRecDepth 20000 in
theorem gX2_giveOut_X0_add : GoodIn wsX2_giveOut (wsV RX2 67 RX0 yX0_add wsX0_add) := goodIn_app (goodIn_of _ (by decide +kernel)) ggX2_giveOut_X0_add
set_option maxRecDepth 20000 in
theorem ggX2_giveOut_X3_ofNumber : GoodIn wsX2_giveOut wsX3_ofNumber := goodIn_r _ [16, 17] (by decide +kernel) (by decide +kernel)
set_option maxRecDepth 20000 in
theorem gX2_giveOut_X3_ofNumber : GoodIn wsX2_giveOut (va_wsS RX2 71 yX3_ofNumber wsX3_ofNumber) := goodIn_app (goodIn_of _ (by decide +kernel)) ggX2_giveOut_X3_ofNumber
theorem dX2_giveOut_0 : decode cX2_giveOut 0 = .ok (.aload_n 0, 1) := by decide +kernel
theorem dX2_giveOut_1 : decode cX2_giveOut 1 = .ok (.getfield 35, 3) := by decide +kernel
theorem dX2_giveOut_4 : decode cX2_giveOut 4 = .ok (.iload_n 1, 1) := by decide +kernel
theorem dX2_giveOut_5 : decode cX2_giveOut 5 = .ok (.invokevirtual 67, 3) := by decide +kernel
theorem dX2_giveOut_8 : decode cX2_giveOut 8 = .ok (.iload_n 1, 1) := by decide +kernel
theorem dX2_giveOut_9 : decode cX2_giveOut 9 = .ok (.istore_n 3, 1) := by decide +kernel
theorem dX2_giveOut_10 : decode cX2_giveOut 10 = .ok (.iload_n 3, 1) := by decide +kernel
theorem dX2_giveOut_11 : decode cX2_giveOut 11 = .ok (.iload_n 2, 1) := by decide +kernel
theorem dX2_giveOut_12 : decode cX2_giveOut 12 = .ok (.if_icmp .ge 27, 3) := by decide +kernel
theorem dX2_giveOut_15 : decode cX2_giveOut 15 = .ok (.aload_n 0, 1) := by decide +kernel
theorem dX2_giveOut_16 : decode cX2_giveOut 16 = .ok (.getfield 25, 3) := by decide +kernel
theorem dX2_giveOut_19 : decode cX2_giveOut 19 = .ok (.iload_n 3, 1) := by decide +kernel
theorem dX2_giveOut_20 : decode cX2_giveOut 20 = .ok (.invokevirtual 67, 3) := by decide +kernel
theorem dX2_giveOut_23 : decode cX2_giveOut 23 = .ok (.aload_n 0, 1) := by decide +kernel
theorem dX2_giveOut_24 : decode cX2_giveOut 24 = .ok (.getfield 9, 3) := by decide +kernel
theorem dX2_giveOut_27 : decode cX2_giveOut 27 = .ok (.iload_n 3, 1) := by decide +kernel
theorem dX2_giveOut_28 : decode cX2_giveOut 28 = .ok (.iconst 0, 1) := by decide +kernel
theorem dX2_giveOut_29 : decode cX2_giveOut 29 = .ok (.invokestatic 71, 3) := by decide +kernel
theorem dX2_giveOut_32 : decode cX2_giveOut 32 = .ok (.lastore, 1) := by decide +kernel
theorem dX2_giveOut_33 : decode cX2_giveOut 33 = .ok (.iinc 3 1, 3) := by decide +kernel
theorem dX2_giveOut_36 : decode cX2_giveOut 36 = .ok (.goto (-26), 3) := by decide +kernel
theorem dX2_giveOut_39 : decode cX2_giveOut 39 = .ok (.return_, 1) := by decide +kernel
set_option maxRecDepth 20000 in
theorem ggX2_giveBack_X0_drop : GoodIn wsX2_giveBack wsX0_drop := goodIn_r _ [8, 9, 10, 11, 12, 13, 28] (by decide +kernel) (by decide +kernel)
set_option maxRecDepth 20000 in
theorem gX2_giveBack_X0_drop : GoodIn wsX2_giveBack (wsV RX2 77 RX0 yX0_drop wsX0_drop) := goodIn_app (goodIn_of _ (by decide +kernel)) ggX2_giveBack_X0_drop
set_option maxRecDepth 20000 in
theorem ggX2_giveBack_X0_add : GoodIn wsX2_giveBack wsX0_add := goodIn_r _ [17, 9, 11, 12, 13, 28] (by decide +kernel) (by decide +kernel)
set_option maxRecDepth 20000 in
theorem gX2_giveBack_X0_add : GoodIn wsX2_giveBack (wsV RX2 67 RX0 yX0_add wsX0_add) := goodIn_app (goodIn_of _ (by decide +kernel)) ggX2_giveBack_X0_add
theorem dX2_giveBack_0 : decode cX2_giveBack 0 = .ok (.aload_n 0, 1) := by decide +kernel
theorem dX2_giveBack_1 : decode cX2_giveBack 1 = .ok (.getfield 35, 3) := by decide +kernel
theorem dX2_giveBack_4 : decode cX2_giveBack 4 = .ok (.iload_n 1, 1) := by decide +kernel
theorem dX2_giveBack_5 : decode cX2_giveBack 5 = .ok (.invokevirtual 77, 3) := by decide +kernel
theorem dX2_giveBack_8 : decode cX2_giveBack 8 = .ok (.iload_n 1, 1) := by decide +kernel
theorem dX2_giveBack_9 : decode cX2_giveBack 9 = .ok (.istore_n 3, 1) := by decide +kernel
theorem dX2_giveBack_10 : decode cX2_giveBack 10 = .ok (.iload_n 3, 1) := by decide +kernel
theorem dX2_giveBack_11 : decode cX2_giveBack 11 = .ok (.iload_n 2, 1) := by decide +kernel
theorem dX2_giveBack_12 : decode cX2_giveBack 12 = .ok (.if_icmp .ge 25, 3) := by decide +kernel
theorem dX2_giveBack_15 : decode cX2_giveBack 15 = .ok (.aload_n 0, 1) := by decide +kernel
theorem dX2_giveBack_16 : decode cX2_giveBack 16 = .ok (.getfield 25, 3) := by decide +kernel
theorem dX2_giveBack_19 : decode cX2_giveBack 19 = .ok (.iload_n 3, 1) := by decide +kernel
theorem dX2_giveBack_20 : decode cX2_giveBack 20 = .ok (.invokevirtual 77, 3) := by decide +kernel
theorem dX2_giveBack_23 : decode cX2_giveBack 23 = .ok (.aload_n 0, 1) := by decide +kernel
theorem dX2_giveBack_24 : decode cX2_giveBack 24 = .ok (.getfield 29, 3) := by decide +kernel
theorem dX2_giveBack_27 : decode cX2_giveBack 27 = .ok (.iload_n 3, 1) := by decide +kernel
theorem dX2_giveBack_28 : decode cX2_giveBack 28 = .ok (.invokevirtual 67, 3) := by decide +kernel
theorem dX2_giveBack_31 : decode cX2_giveBack 31 = .ok (.iinc 3 1, 3) := by decide +kernel
theorem dX2_giveBack_34 : decode cX2_giveBack 34 = .ok (.goto (-24), 3) := by decide +kernel
theorem dX2_giveBack_37 : decode cX2_giveBack 37 = .ok (.return_, 1) := by decide +kernel
set_option maxRecDepth 20000 in
theorem ggX2_isRange_X0_has : GoodIn wsX2_isRange wsX0_has := goodIn_r _ [7, 8, 9, 10, 11, 27] (by decide +kernel) (by decide +kernel)
set_option maxRecDepth 20000 in
theorem gX2_isRange_X0_has : GoodIn wsX2_isRange (wsV RX2 59 RX0 yX0_has wsX0_has) := goodIn_app (goodIn_of _ (by decide +kernel)) ggX2_isRange_X0_has
set_option maxRecDepth 20000 in
theorem ggX2_isRange_X2_rangeTo : GoodIn wsX2_isRange wsX2_rangeTo := goodIn_r _ [16, 1, 2, 3, 4, 5, 6, 7, 8, 9, 10, 11, 17, 18, 19, 20, 21, 22, 23, 24, 25, 26, 27] (by decide +kernel) (by decide +kernel)
set_option maxRecDepth 20000 in
theorem gX2_isRange_X2_rangeTo : GoodIn wsX2_isRange (wsV RX2 80 RX2 yX2_rangeTo wsX2_rangeTo) := goodIn_app (goodIn_of _ (by decide +kernel)) ggX2_isRange_X2_rangeTo
theorem dX2_isRange_0 : decode cX2_isRange 0 = .ok (.aload_n 0, 1) := by decide +kernel
theorem dX2_isRange_1 : decode cX2_isRange 1 = .ok (.getfield 25, 3) := by decide +kernel
theorem dX2_isRange_4 : decode cX2_isRange 4 = .ok (.iload_n 1, 1) := by decide +kernel
theorem dX2_isRange_5 : decode cX2_isRange 5 = .ok (.invokevirtual 59, 3) := by decide +kernel
theorem dX2_isRange_8 : decode cX2_isRange 8 = .ok (.ifCond .eq 27, 3) := by decide +kernel
theorem dX2_isRange_11 : decode cX2_isRange 11 = .ok (.aload_n 0, 1) := by decide +kernel
theorem dX2_isRange_12 : decode cX2_isRange 12 = .ok (.getfield 35, 3) := by decide +kernel
theorem dX2_isRange_15 : decode cX2_isRange 15 = .ok (.iload_n 1, 1) := by decide +kernel
theorem dX2_isRange_16 : decode cX2_isRange 16 = .ok (.invokevirtual 59, 3) := by decide +kernel
theorem dX2_isRange_19 : decode cX2_isRange 19 = .ok (.ifCond .eq 16, 3) := by decide +kernel
theorem dX2_isRange_22 : decode cX2_isRange 22 = .ok (.aload_n 0, 1) := by decide +kernel
theorem dX2_isRange_23 : decode cX2_isRange 23 = .ok (.iload_n 1, 1) := by decide +kernel
theorem dX2_isRange_24 : decode cX2_isRange 24 = .ok (.invokevirtual 80, 3) := by decide +kernel
theorem dX2_isRange_27 : decode cX2_isRange 27 = .ok (.iload_n 2, 1) := by decide +kernel
theorem dX2_isRange_28 : decode cX2_isRange 28 = .ok (.if_icmp .ne 7, 3) := by decide +kernel
theorem dX2_isRange_31 : decode cX2_isRange 31 = .ok (.iconst 1, 1) := by decide +kernel
theorem dX2_isRange_32 : decode cX2_isRange 32 = .ok (.goto 4, 3) := by decide +kernel
theorem dX2_isRange_35 : decode cX2_isRange 35 = .ok (.iconst 0, 1) := by decide +kernel
theorem dX2_isRange_36 : decode cX2_isRange 36 = .ok (.ireturn, 1) := by decide +kernel
set_option maxRecDepth 20000 in
theorem ggX2_rangeFrom_X0_has : GoodIn wsX2_rangeFrom wsX0_has := goodIn_r _ [6, 7, 8, 9, 10, 21] (by decide +kernel) (by decide +kernel)
set_option maxRecDepth 20000 in
theorem gX2_rangeFrom_X0_has : GoodIn wsX2_rangeFrom (wsV RX2 59 RX0 yX0_has wsX0_has) := goodIn_app (goodIn_of _ (by decide +kernel)) ggX2_rangeFrom_X0_has
theorem dX2_rangeFrom_0 : decode cX2_rangeFrom 0 = .ok (.iload_n 1, 1) := by decide +kernel
theorem dX2_rangeFrom_1 : decode cX2_rangeFrom 1 = .ok (.istore_n 2, 1) := by decide +kernel
theorem dX2_rangeFrom_2 : decode cX2_rangeFrom 2 = .ok (.iload_n 2, 1) := by decide +kernel
theorem dX2_rangeFrom_3 : decode cX2_rangeFrom 3 = .ok (.ifCond .le 20, 3) := by decide +kernel
theorem dX2_rangeFrom_6 : decode cX2_rangeFrom 6 = .ok (.aload_n 0, 1) := by decide +kernel
theorem dX2_rangeFrom_7 : decode cX2_rangeFrom 7 = .ok (.getfield 35, 3) := by decide +kernel
theorem dX2_rangeFrom_10 : decode cX2_rangeFrom 10 = .ok (.iload_n 2, 1) := by decide +kernel
theorem dX2_rangeFrom_11 : decode cX2_rangeFrom 11 = .ok (.invokevirtual 59, 3) := by decide +kernel
theorem dX2_rangeFrom_14 : decode cX2_rangeFrom 14 = .ok (.ifCond .ne 9, 3) := by decide +kernel
theorem dX2_rangeFrom_17 : decode cX2_rangeFrom 17 = .ok (.iinc 2 (-1), 3) := by decide +kernel
theorem dX2_rangeFrom_20 : decode cX2_rangeFrom 20 = .ok (.goto (-18), 3) := by decide +kernel
theorem dX2_rangeFrom_23 : decode cX2_rangeFrom 23 = .ok (.iload_n 2, 1) := by decide +kernel
theorem dX2_rangeFrom_24 : decode cX2_rangeFrom 24 = .ok (.ireturn, 1) := by decide +kernel
set_option maxRecDepth 20000 in
theorem ggX2_rangeTo_X0_has : GoodIn wsX2_rangeTo wsX0_has := goodIn_r _ [7, 8, 9, 10, 11, 22] (by decide +kernel) (by decide +kernel)
set_option maxRecDepth 20000 in
theorem gX2_rangeTo_X0_has : GoodIn wsX2_rangeTo (wsV RX2 59 RX0 yX0_has wsX0_has) := goodIn_app (goodIn_of _ (by decide +kernel)) ggX2_rangeTo_X0_has
theorem dX2_rangeTo_0 : decode cX2_rangeTo 0 = .ok (.iload_n 1, 1) := by decide +kernel
theorem dX2_rangeTo_1 : decode cX2_rangeTo 1 = .ok (.iconst 1, 1) := by decide +kernel
theorem dX2_rangeTo_2 : decode cX2_rangeTo 2 = .ok (.iadd, 1) := by decide +kernel
theorem dX2_rangeTo_3 : decode cX2_rangeTo 3 = .ok (.istore_n 2, 1) := by decide +kernel
theorem dX2_rangeTo_4 : decode cX2_rangeTo 4 = .ok (.iload_n 2, 1) := by decide +kernel
theorem dX2_rangeTo_5 : decode cX2_rangeTo 5 = .ok (.sipush 256, 3) := by decide +kernel
theorem dX2_rangeTo_8 : decode cX2_rangeTo 8 = .ok (.if_icmp .ge 31, 3) := by decide +kernel
theorem dX2_rangeTo_11 : decode cX2_rangeTo 11 = .ok (.aload_n 0, 1) := by decide +kernel
theorem dX2_rangeTo_12 : decode cX2_rangeTo 12 = .ok (.getfield 25, 3) := by decide +kernel
theorem dX2_rangeTo_15 : decode cX2_rangeTo 15 = .ok (.iload_n 2, 1) := by decide +kernel
theorem dX2_rangeTo_16 : decode cX2_rangeTo 16 = .ok (.invokevirtual 59, 3) := by decide +kernel
theorem dX2_rangeTo_19 : decode cX2_rangeTo 19 = .ok (.ifCond .eq 20, 3) := by decide +kernel
theorem dX2_rangeTo_22 : decode cX2_rangeTo 22 = .ok (.aload_n 0, 1) := by decide +kernel
theorem dX2_rangeTo_23 : decode cX2_rangeTo 23 = .ok (.getfield 35, 3) := by decide +kernel
theorem dX2_rangeTo_26 : decode cX2_rangeTo 26 = .ok (.iload_n 2, 1) := by decide +kernel
theorem dX2_rangeTo_27 : decode cX2_rangeTo 27 = .ok (.invokevirtual 59, 3) := by decide +kernel
theorem dX2_rangeTo_30 : decode cX2_rangeTo 30 = .ok (.ifCond .ne 9, 3) := by decide +kernel
theorem dX2_rangeTo_33 : decode cX2_rangeTo 33 = .ok (.iinc 2 1, 3) := by decide +kernel
theorem dX2_rangeTo_36 : decode cX2_rangeTo 36 = .ok (.goto (-32), 3) := by decide +kernel
theorem dX2_rangeTo_39 : decode cX2_rangeTo 39 = .ok (.iload_n 2, 1) := by decide +kernel
theorem dX2_rangeTo_40 : decode cX2_rangeTo 40 = .ok (.ireturn, 1) := by decide +kernel
set_option maxRecDepth 20000 in
theorem ggX2_pointersIn_X3_isPointer : GoodIn wsX2_pointersIn wsX3_isPointer := goodIn_r _ [5] (by decide +kernel) (by decide +kernel)
set_option maxRecDepth 20000 in
theorem gX2_pointersIn_X3_isPointer : GoodIn wsX2_pointersIn (va_wsS RX2 83 yX3_isPointer wsX3_isPointer) := goodIn_app (goodIn_of _ (by decide +kernel)) ggX2_pointersIn_X3_isPointer
set_option maxRecDepth 20000 in
theorem ggX2_pointersIn_X4_oneIf : GoodIn wsX2_pointersIn wsX4_oneIf := goodIn_r _ [8] (by decide +kernel) (by decide +kernel)
set_option maxRecDepth 20000 in
theorem gX2_pointersIn_X4_oneIf_n87 : GoodIn wsX2_pointersIn (wsX4_oneIf) := ggX2_pointersIn_X4_oneIf
theorem dX2_pointersIn_0 : decode cX2_pointersIn 0 = .ok (.iconst 0, 1) := by decide +kernel
theorem dX2_pointersIn_1 : decode cX2_pointersIn 1 = .ok (.istore_n 3, 1) := by decide +kernel
theorem dX2_pointersIn_2 : decode cX2_pointersIn 2 = .ok (.iload_n 1, 1) := by decide +kernel
theorem dX2_pointersIn_3 : decode cX2_pointersIn 3 = .ok (.istore 4, 2) := by decide +kernel
theorem dX2_pointersIn_5 : decode cX2_pointersIn 5 = .ok (.iload 4, 2) := by decide +kernel
theorem dX2_pointersIn_7 : decode cX2_pointersIn 7 = .ok (.iload_n 2, 1) := by decide +kernel
theorem dX2_pointersIn_8 : decode cX2_pointersIn 8 = .ok (.if_icmp .ge 25, 3) := by decide +kernel
theorem dX2_pointersIn_11 : decode cX2_pointersIn 11 = .ok (.iload_n 3, 1) := by decide +kernel
theorem dX2_pointersIn_12 : decode cX2_pointersIn 12 = .ok (.aload_n 0, 1) := by decide +kernel
theorem dX2_pointersIn_13 : decode cX2_pointersIn 13 = .ok (.getfield 9, 3) := by decide +kernel
theorem dX2_pointersIn_16 : decode cX2_pointersIn 16 = .ok (.iload 4, 2) := by decide +kernel
theorem dX2_pointersIn_18 : decode cX2_pointersIn 18 = .ok (.laload, 1) := by decide +kernel
theorem dX2_pointersIn_19 : decode cX2_pointersIn 19 = .ok (.invokestatic 83, 3) := by decide +kernel
theorem dX2_pointersIn_22 : decode cX2_pointersIn 22 = .ok (.invokestatic 87, 3) := by decide +kernel
theorem dX2_pointersIn_25 : decode cX2_pointersIn 25 = .ok (.iadd, 1) := by decide +kernel
theorem dX2_pointersIn_26 : decode cX2_pointersIn 26 = .ok (.istore_n 3, 1) := by decide +kernel
theorem dX2_pointersIn_27 : decode cX2_pointersIn 27 = .ok (.iinc 4 1, 3) := by decide +kernel
theorem dX2_pointersIn_30 : decode cX2_pointersIn 30 = .ok (.goto (-25), 3) := by decide +kernel
theorem dX2_pointersIn_33 : decode cX2_pointersIn 33 = .ok (.iload_n 3, 1) := by decide +kernel
theorem dX2_pointersIn_34 : decode cX2_pointersIn 34 = .ok (.ireturn, 1) := by decide +kernel
theorem dX2_isSeen_0 : decode cX2_isSeen 0 = .ok (.iload_n 1, 1) := by decide +kernel
theorem dX2_isSeen_1 : decode cX2_isSeen 1 = .ok (.aload_n 0, 1) := by decide +kernel
theorem dX2_isSeen_2 : decode cX2_isSeen 2 = .ok (.getfield 42, 3) := by decide +kernel
theorem dX2_isSeen_5 : decode cX2_isSeen 5 = .ok (.if_icmp .ge 7, 3) := by decide +kernel
theorem dX2_isSeen_8 : decode cX2_isSeen 8 = .ok (.iconst 1, 1) := by decide +kernel
theorem dX2_isSeen_9 : decode cX2_isSeen 9 = .ok (.goto 4, 3) := by decide +kernel
theorem dX2_isSeen_12 : decode cX2_isSeen 12 = .ok (.iconst 0, 1) := by decide +kernel
theorem dX2_isSeen_13 : decode cX2_isSeen 13 = .ok (.ireturn, 1) := by decide +kernel
theorem dX2_isDirty_0 : decode cX2_isDirty 0 = .ok (.aload_n 0, 1) := by decide +kernel
theorem dX2_isDirty_1 : decode cX2_isDirty 1 = .ok (.getfield 46, 3) := by decide +kernel
theorem dX2_isDirty_4 : decode cX2_isDirty 4 = .ok (.iload_n 1, 1) := by decide +kernel
theorem dX2_isDirty_5 : decode cX2_isDirty 5 = .ok (.ishr, 1) := by decide +kernel
theorem dX2_isDirty_6 : decode cX2_isDirty 6 = .ok (.iconst 1, 1) := by decide +kernel
theorem dX2_isDirty_7 : decode cX2_isDirty 7 = .ok (.iand, 1) := by decide +kernel
theorem dX2_isDirty_8 : decode cX2_isDirty 8 = .ok (.ifCond .eq 7, 3) := by decide +kernel
theorem dX2_isDirty_11 : decode cX2_isDirty 11 = .ok (.iconst 1, 1) := by decide +kernel
theorem dX2_isDirty_12 : decode cX2_isDirty 12 = .ok (.goto 4, 3) := by decide +kernel
theorem dX2_isDirty_15 : decode cX2_isDirty 15 = .ok (.iconst 0, 1) := by decide +kernel
theorem dX2_isDirty_16 : decode cX2_isDirty 16 = .ok (.ireturn, 1) := by decide +kernel
set_option maxRecDepth 20000 in
theorem ggX2_isStale_X3_isPointer : GoodIn wsX2_isStale wsX3_isPointer := goodIn_r _ [5] (by decide +kernel) (by decide +kernel)
set_option maxRecDepth 20000 in
theorem gX2_isStale_X3_isPointer : GoodIn wsX2_isStale (va_wsS RX2 83 yX3_isPointer wsX3_isPointer) := goodIn_app (goodIn_of _ (by decide +kernel)) ggX2_isStale_X3_isPointer
set_option maxRecDepth 20000 in
theorem ggX2_isStale_X3_from : GoodIn wsX2_isStale wsX3_from := goodIn_r _ [8] (by decide +kernel) (by decide +kernel)
set_option maxRecDepth 20000 in
theorem gX2_isStale_X3_from : GoodIn wsX2_isStale (va_wsS RX2 91 yX3_from wsX3_from) := goodIn_app (goodIn_of _ (by decide +kernel)) ggX2_isStale_X3_from
set_option maxRecDepth 20000 in
theorem ggX2_isStale_X3_to : GoodIn wsX2_isStale wsX3_to := goodIn_r _ [11] (by decide +kernel) (by decide +kernel)
set_option maxRecDepth 20000 in
theorem gX2_isStale_X3_to : GoodIn wsX2_isStale (va_wsS RX2 95 yX3_to wsX3_to) := goodIn_app (goodIn_of _ (by decide +kernel)) ggX2_isStale_X3_to
set_option maxRecDepth 20000 in
theorem ggX2_isStale_X0_sizeWithin : GoodIn wsX2_isStale wsX0_sizeWithin := goodIn_r _ [16, 17, 18, 19, 20, 15, 21, 22, 23, 24, 25, 26, 27, 28, 39] (by decide +kernel) (by decide +kernel)
set_option maxRecDepth 20000 in
theorem gX2_isStale_X0_sizeWithin : GoodIn wsX2_isStale (wsV RX2 98 RX0 yX0_sizeWithin wsX0_sizeWithin) := goodIn_app (goodIn_of _ (by decide +kernel)) ggX2_isStale_X0_sizeWithin
theorem dX2_isStale_0 : decode cX2_isStale 0 = .ok (.lload_n 1, 1) := by decide +kernel
theorem dX2_isStale_1 : decode cX2_isStale 1 = .ok (.invokestatic 83, 3) := by decide +kernel
theorem dX2_isStale_4 : decode cX2_isStale 4 = .ok (.ifCond .eq 25, 3) := by decide +kernel
theorem dX2_isStale_7 : decode cX2_isStale 7 = .ok (.aload_n 0, 1) := by decide +kernel
theorem dX2_isStale_8 : decode cX2_isStale 8 = .ok (.getfield 32, 3) := by decide +kernel
theorem dX2_isStale_11 : decode cX2_isStale 11 = .ok (.lload_n 1, 1) := by decide +kernel
theorem dX2_isStale_12 : decode cX2_isStale 12 = .ok (.invokestatic 91, 3) := by decide +kernel
theorem dX2_isStale_15 : decode cX2_isStale 15 = .ok (.lload_n 1, 1) := by decide +kernel
theorem dX2_isStale_16 : decode cX2_isStale 16 = .ok (.invokestatic 95, 3) := by decide +kernel
theorem dX2_isStale_19 : decode cX2_isStale 19 = .ok (.invokevirtual 98, 3) := by decide +kernel
theorem dX2_isStale_22 : decode cX2_isStale 22 = .ok (.ifCond .le 7, 3) := by decide +kernel
theorem dX2_isStale_25 : decode cX2_isStale 25 = .ok (.iconst 1, 1) := by decide +kernel
theorem dX2_isStale_26 : decode cX2_isStale 26 = .ok (.goto 4, 3) := by decide +kernel
theorem dX2_isStale_29 : decode cX2_isStale 29 = .ok (.iconst 0, 1) := by decide +kernel
theorem dX2_isStale_30 : decode cX2_isStale 30 = .ok (.ireturn, 1) := by decide +kernel
set_option maxRecDepth 20000 in
theorem ggX2_lookUp_X2_isStale : GoodIn wsX2_lookUp wsX2_isStale := goodIn_r _ [7, 8, 9, 10, 11, 12, 13, 14, 15, 16, 17, 18, 19, 20, 21, 22, 23, 24, 25, 26, 27, 28, 29, 30, 31, 32, 33, 34, 35, 43, 44, 45, 46, 47, 48, 49, 50, 51, 52, 53] (by decide +kernel) (by decide +kernel)
set_option maxRecDepth 20000 in
theorem gX2_lookUp_X2_isStale : GoodIn wsX2_lookUp (wsV RX2 102 RX2 yX2_isStale wsX2_isStale) := goodIn_app (goodIn_of _ (by decide +kernel)) ggX2_lookUp_X2_isStale
set_option maxRecDepth 20000 in
theorem ggX2_lookUp_X3_at : GoodIn wsX2_lookUp wsX3_at := goodIn_r _ [38] (by decide +kernel) (by decide +kernel)
set_option maxRecDepth 20000 in
theorem gX2_lookUp_X3_at : GoodIn wsX2_lookUp (va_wsS RX2 105 yX3_at wsX3_at) := goodIn_app (goodIn_of _ (by decide +kernel)) ggX2_lookUp_X3_at
set_option maxRecDepth 20000 in
theorem ggX2_lookUp_X3_ofNumber : GoodIn wsX2_lookUp wsX3_ofNumber := goodIn_r _ [41, 42] (by decide +kernel) (by decide +kernel)
set_option maxRecDepth 20000 in
theorem gX2_lookUp_X3_ofNumber : GoodIn wsX2_lookUp (va_wsS RX2 71 yX3_ofNumber wsX3_ofNumber) := goodIn_app (goodIn_of _ (by decide +kernel)) ggX2_lookUp_X3_ofNumber
theorem dX2_lookUp_0 : decode cX2_lookUp 0 = .ok (.aload_n 0, 1) := by decide +kernel
theorem dX2_lookUp_1 : decode cX2_lookUp 1 = .ok (.getfield 9, 3) := by decide +kernel
theorem dX2_lookUp_4 : decode cX2_lookUp 4 = .ok (.iload_n 1, 1) := by decide +kernel
theorem dX2_lookUp_5 : decode cX2_lookUp 5 = .ok (.laload, 1) := by decide +kernel
theorem dX2_lookUp_6 : decode cX2_lookUp 6 = .ok (.lstore_n 2, 1) := by decide +kernel
theorem dX2_lookUp_7 : decode cX2_lookUp 7 = .ok (.aload_n 0, 1) := by decide +kernel
theorem dX2_lookUp_8 : decode cX2_lookUp 8 = .ok (.lload_n 2, 1) := by decide +kernel
theorem dX2_lookUp_9 : decode cX2_lookUp 9 = .ok (.invokevirtual 102, 3) := by decide +kernel
theorem dX2_lookUp_12 : decode cX2_lookUp 12 = .ok (.ifCond .ne 5, 3) := by decide +kernel
theorem dX2_lookUp_15 : decode cX2_lookUp 15 = .ok (.lload_n 2, 1) := by decide +kernel
theorem dX2_lookUp_16 : decode cX2_lookUp 16 = .ok (.lreturn, 1) := by decide +kernel
theorem dX2_lookUp_17 : decode cX2_lookUp 17 = .ok (.aload_n 0, 1) := by decide +kernel
theorem dX2_lookUp_18 : decode cX2_lookUp 18 = .ok (.getfield 18, 3) := by decide +kernel
theorem dX2_lookUp_21 : decode cX2_lookUp 21 = .ok (.iconst 3, 1) := by decide +kernel
theorem dX2_lookUp_22 : decode cX2_lookUp 22 = .ok (.dup2, 1) := by decide +kernel
theorem dX2_lookUp_23 : decode cX2_lookUp 23 = .ok (.iaload, 1) := by decide +kernel
theorem dX2_lookUp_24 : decode cX2_lookUp 24 = .ok (.iconst 1, 1) := by decide +kernel
theorem dX2_lookUp_25 : decode cX2_lookUp 25 = .ok (.iadd, 1) := by decide +kernel
theorem dX2_lookUp_26 : decode cX2_lookUp 26 = .ok (.iastore, 1) := by decide +kernel
theorem dX2_lookUp_27 : decode cX2_lookUp 27 = .ok (.lload_n 2, 1) := by decide +kernel
theorem dX2_lookUp_28 : decode cX2_lookUp 28 = .ok (.invokestatic 105, 3) := by decide +kernel
theorem dX2_lookUp_31 : decode cX2_lookUp 31 = .ok (.invokestatic 71, 3) := by decide +kernel
theorem dX2_lookUp_34 : decode cX2_lookUp 34 = .ok (.lreturn, 1) := by decide +kernel
set_option maxRecDepth 20000 in
theorem ggX2_layDown_X3_isPointer : GoodIn wsX2_layDown wsX3_isPointer := goodIn_r _ [6] (by decide +kernel) (by decide +kernel)
set_option maxRecDepth 20000 in
theorem gX2_layDown_X3_isPointer : GoodIn wsX2_layDown (va_wsS RX2 83 yX3_isPointer wsX3_isPointer) := goodIn_app (goodIn_of _ (by decide +kernel)) ggX2_layDown_X3_isPointer
set_option maxRecDepth 20000 in
theorem ggX2_layDown_X2_isSeen : GoodIn wsX2_layDown wsX2_isSeen := goodIn_r _ [11, 12, 13, 14, 15, 16, 17, 18, 19, 20, 21, 22] (by decide +kernel) (by decide +kernel)
set_option maxRecDepth 20000 in
theorem gX2_layDown_X2_isSeen : GoodIn wsX2_layDown (wsV RX2 108 RX2 yX2_isSeen wsX2_isSeen) := goodIn_app (goodIn_of _ (by decide +kernel)) ggX2_layDown_X2_isSeen
theorem dX2_layDown_0 : decode cX2_layDown 0 = .ok (.aload_n 0, 1) := by decide +kernel
theorem dX2_layDown_1 : decode cX2_layDown 1 = .ok (.getfield 9, 3) := by decide +kernel
theorem dX2_layDown_4 : decode cX2_layDown 4 = .ok (.iload_n 1, 1) := by decide +kernel
theorem dX2_layDown_5 : decode cX2_layDown 5 = .ok (.lload_n 2, 1) := by decide +kernel
theorem dX2_layDown_6 : decode cX2_layDown 6 = .ok (.lastore, 1) := by decide +kernel
theorem dX2_layDown_7 : decode cX2_layDown 7 = .ok (.iload_n 1, 1) := by decide +kernel
theorem dX2_layDown_8 : decode cX2_layDown 8 = .ok (.bipush 16, 2) := by decide +kernel
theorem dX2_layDown_10 : decode cX2_layDown 10 = .ok (.idiv, 1) := by decide +kernel
theorem dX2_layDown_11 : decode cX2_layDown 11 = .ok (.istore 4, 2) := by decide +kernel
theorem dX2_layDown_13 : decode cX2_layDown 13 = .ok (.lload_n 2, 1) := by decide +kernel
theorem dX2_layDown_14 : decode cX2_layDown 14 = .ok (.invokestatic 83, 3) := by decide +kernel
theorem dX2_layDown_17 : decode cX2_layDown 17 = .ok (.ifCond .eq 25, 3) := by decide +kernel
theorem dX2_layDown_20 : decode cX2_layDown 20 = .ok (.aload_n 0, 1) := by decide +kernel
theorem dX2_layDown_21 : decode cX2_layDown 21 = .ok (.iload 4, 2) := by decide +kernel
theorem dX2_layDown_23 : decode cX2_layDown 23 = .ok (.invokevirtual 108, 3) := by decide +kernel
theorem dX2_layDown_26 : decode cX2_layDown 26 = .ok (.ifCond .eq 16, 3) := by decide +kernel
theorem dX2_layDown_29 : decode cX2_layDown 29 = .ok (.aload_n 0, 1) := by decide +kernel
theorem dX2_layDown_30 : decode cX2_layDown 30 = .ok (.dup, 1) := by decide +kernel
theorem dX2_layDown_31 : decode cX2_layDown 31 = .ok (.getfield 46, 3) := by decide +kernel
theorem dX2_layDown_34 : decode cX2_layDown 34 = .ok (.iconst 1, 1) := by decide +kernel
theorem dX2_layDown_35 : decode cX2_layDown 35 = .ok (.iload 4, 2) := by decide +kernel
theorem dX2_layDown_37 : decode cX2_layDown 37 = .ok (.ishl, 1) := by decide +kernel
theorem dX2_layDown_38 : decode cX2_layDown 38 = .ok (.ior, 1) := by decide +kernel
theorem dX2_layDown_39 : decode cX2_layDown 39 = .ok (.putfield 46, 3) := by decide +kernel
theorem dX2_layDown_42 : decode cX2_layDown 42 = .ok (.return_, 1) := by decide +kernel
set_option maxRecDepth 20000 in
theorem ggX2_beginSweep_X0_become : GoodIn wsX2_beginSweep wsX0_become := goodIn_r _ [8, 9, 10, 11, 12, 13, 43] (by decide +kernel) (by decide +kernel)
set_option maxRecDepth 20000 in
theorem gX2_beginSweep_X0_become : GoodIn wsX2_beginSweep (wsV RX2 55 RX0 yX0_become wsX0_become) := goodIn_app (goodIn_of _ (by decide +kernel)) ggX2_beginSweep_X0_become
set_option maxRecDepth 20000 in
theorem ggX2_beginSweep_X0_size : GoodIn wsX2_beginSweep wsX0_size := goodIn_r _ [17, 18, 19, 20, 7, 21, 9, 22, 23, 24, 25, 26, 27, 28, 29, 30, 31, 32, 43] (by decide +kernel) (by decide +kernel)
set_option maxRecDepth 20000 in
theorem gX2_beginSweep_X0_size : GoodIn wsX2_beginSweep (wsV RX2 111 RX0 yX0_size wsX0_size) := goodIn_app (goodIn_of _ (by decide +kernel)) ggX2_beginSweep_X0_size
theorem dX2_beginSweep_0 : decode cX2_beginSweep 0 = .ok (.aload_n 0, 1) := by decide +kernel
theorem dX2_beginSweep_1 : decode cX2_beginSweep 1 = .ok (.iconst 1, 1) := by decide +kernel
theorem dX2_beginSweep_2 : decode cX2_beginSweep 2 = .ok (.putfield 38, 3) := by decide +kernel
theorem dX2_beginSweep_5 : decode cX2_beginSweep 5 = .ok (.aload_n 0, 1) := by decide +kernel
theorem dX2_beginSweep_6 : decode cX2_beginSweep 6 = .ok (.getfield 32, 3) := by decide +kernel
theorem dX2_beginSweep_9 : decode cX2_beginSweep 9 = .ok (.aload_n 0, 1) := by decide +kernel
theorem dX2_beginSweep_10 : decode cX2_beginSweep 10 = .ok (.getfield 29, 3) := by decide +kernel
theorem dX2_beginSweep_13 : decode cX2_beginSweep 13 = .ok (.invokevirtual 55, 3) := by decide +kernel
theorem dX2_beginSweep_16 : decode cX2_beginSweep 16 = .ok (.aload_n 0, 1) := by decide +kernel
theorem dX2_beginSweep_17 : decode cX2_beginSweep 17 = .ok (.getfield 32, 3) := by decide +kernel
theorem dX2_beginSweep_20 : decode cX2_beginSweep 20 = .ok (.invokevirtual 111, 3) := by decide +kernel
theorem dX2_beginSweep_23 : decode cX2_beginSweep 23 = .ok (.ireturn, 1) := by decide +kernel
set_option maxRecDepth 20000 in
theorem ggX2_lookAtNextPages_X2_cleanPage : GoodIn wsX2_lookAtNextPages wsX2_cleanPage := goodIn_r _ [11, 12, 13, 14, 15, 10, 16, 17, 18, 19, 20, 21, 22, 23, 24, 25, 26, 27, 28, 29, 30, 31, 32, 33, 34, 35, 36, 37, 38, 39, 40, 41, 42, 43, 44, 45, 46, 47, 48, 49, 50, 51, 52, 53, 54, 55, 56, 57, 58, 59, 60, 61, 62, 63, 64, 65, 66] (by decide +kernel) (by decide +kernel)
set_option maxRecDepth 20000 in
theorem gX2_lookAtNextPages_X2_cleanPage : GoodIn wsX2_lookAtNextPages (wsV RX2 120 RX2 yX2_cleanPage wsX2_cleanPage) := goodIn_app (goodIn_of _ (by decide +kernel)) ggX2_lookAtNextPages_X2_cleanPage
theorem dX2_lookAtNextPages_0 : decode cX2_lookAtNextPages 0 = .ok (.bipush 16, 2) := by decide +kernel
theorem dX2_lookAtNextPages_2 : decode cX2_lookAtNextPages 2 = .ok (.aload_n 0, 1) := by decide +kernel
theorem dX2_lookAtNextPages_3 : decode cX2_lookAtNextPages 3 = .ok (.getfield 42, 3) := by decide +kernel
theorem dX2_lookAtNextPages_6 : decode cX2_lookAtNextPages 6 = .ok (.iload_n 1, 1) := by decide +kernel
theorem dX2_lookAtNextPages_7 : decode cX2_lookAtNextPages 7 = .ok (.iadd, 1) := by decide +kernel
theorem dX2_lookAtNextPages_8 : decode cX2_lookAtNextPages 8 = .ok (.invokestatic 115, 3) := by decide +kernel
theorem dX2_lookAtNextPages_11 : decode cX2_lookAtNextPages 11 = .ok (.istore_n 2, 1) := by decide +kernel
theorem dX2_lookAtNextPages_12 : decode cX2_lookAtNextPages 12 = .ok (.iconst 0, 1) := by decide +kernel
theorem dX2_lookAtNextPages_13 : decode cX2_lookAtNextPages 13 = .ok (.istore_n 3, 1) := by decide +kernel
theorem dX2_lookAtNextPages_14 : decode cX2_lookAtNextPages 14 = .ok (.aload_n 0, 1) := by decide +kernel
theorem dX2_lookAtNextPages_15 : decode cX2_lookAtNextPages 15 = .ok (.getfield 42, 3) := by decide +kernel
theorem dX2_lookAtNextPages_18 : decode cX2_lookAtNextPages 18 = .ok (.istore 4, 2) := by decide +kernel
theorem dX2_lookAtNextPages_20 : decode cX2_lookAtNextPages 20 = .ok (.iload 4, 2) := by decide +kernel
theorem dX2_lookAtNextPages_22 : decode cX2_lookAtNextPages 22 = .ok (.iload_n 2, 1) := by decide +kernel
theorem dX2_lookAtNextPages_23 : decode cX2_lookAtNextPages 23 = .ok (.if_icmp .ge 18, 3) := by decide +kernel
theorem dX2_lookAtNextPages_26 : decode cX2_lookAtNextPages 26 = .ok (.iload_n 3, 1) := by decide +kernel
theorem dX2_lookAtNextPages_27 : decode cX2_lookAtNextPages 27 = .ok (.aload_n 0, 1) := by decide +kernel
theorem dX2_lookAtNextPages_28 : decode cX2_lookAtNextPages 28 = .ok (.iload 4, 2) := by decide +kernel
theorem dX2_lookAtNextPages_30 : decode cX2_lookAtNextPages 30 = .ok (.invokevirtual 120, 3) := by decide +kernel
theorem dX2_lookAtNextPages_33 : decode cX2_lookAtNextPages 33 = .ok (.iadd, 1) := by decide +kernel
theorem dX2_lookAtNextPages_34 : decode cX2_lookAtNextPages 34 = .ok (.istore_n 3, 1) := by decide +kernel
theorem dX2_lookAtNextPages_35 : decode cX2_lookAtNextPages 35 = .ok (.iinc 4 1, 3) := by decide +kernel
theorem dX2_lookAtNextPages_38 : decode cX2_lookAtNextPages 38 = .ok (.goto (-18), 3) := by decide +kernel
theorem dX2_lookAtNextPages_41 : decode cX2_lookAtNextPages 41 = .ok (.aload_n 0, 1) := by decide +kernel
theorem dX2_lookAtNextPages_42 : decode cX2_lookAtNextPages 42 = .ok (.getfield 18, 3) := by decide +kernel
theorem dX2_lookAtNextPages_45 : decode cX2_lookAtNextPages 45 = .ok (.iconst 4, 1) := by decide +kernel
theorem dX2_lookAtNextPages_46 : decode cX2_lookAtNextPages 46 = .ok (.dup2, 1) := by decide +kernel
theorem dX2_lookAtNextPages_47 : decode cX2_lookAtNextPages 47 = .ok (.iaload, 1) := by decide +kernel
theorem dX2_lookAtNextPages_48 : decode cX2_lookAtNextPages 48 = .ok (.iload_n 2, 1) := by decide +kernel
theorem dX2_lookAtNextPages_49 : decode cX2_lookAtNextPages 49 = .ok (.aload_n 0, 1) := by decide +kernel
theorem dX2_lookAtNextPages_50 : decode cX2_lookAtNextPages 50 = .ok (.getfield 42, 3) := by decide +kernel
theorem dX2_lookAtNextPages_53 : decode cX2_lookAtNextPages 53 = .ok (.isub, 1) := by decide +kernel
theorem dX2_lookAtNextPages_54 : decode cX2_lookAtNextPages 54 = .ok (.iadd, 1) := by decide +kernel
theorem dX2_lookAtNextPages_55 : decode cX2_lookAtNextPages 55 = .ok (.iastore, 1) := by decide +kernel
theorem dX2_lookAtNextPages_56 : decode cX2_lookAtNextPages 56 = .ok (.aload_n 0, 1) := by decide +kernel
theorem dX2_lookAtNextPages_57 : decode cX2_lookAtNextPages 57 = .ok (.getfield 18, 3) := by decide +kernel
theorem dX2_lookAtNextPages_60 : decode cX2_lookAtNextPages 60 = .ok (.iconst 0, 1) := by decide +kernel
theorem dX2_lookAtNextPages_61 : decode cX2_lookAtNextPages 61 = .ok (.dup2, 1) := by decide +kernel
theorem dX2_lookAtNextPages_62 : decode cX2_lookAtNextPages 62 = .ok (.iaload, 1) := by decide +kernel
theorem dX2_lookAtNextPages_63 : decode cX2_lookAtNextPages 63 = .ok (.iload_n 3, 1) := by decide +kernel
theorem dX2_lookAtNextPages_64 : decode cX2_lookAtNextPages 64 = .ok (.iadd, 1) := by decide +kernel
theorem dX2_lookAtNextPages_65 : decode cX2_lookAtNextPages 65 = .ok (.iastore, 1) := by decide +kernel
theorem dX2_lookAtNextPages_66 : decode cX2_lookAtNextPages 66 = .ok (.aload_n 0, 1) := by decide +kernel
theorem dX2_lookAtNextPages_67 : decode cX2_lookAtNextPages 67 = .ok (.iload_n 2, 1) := by decide +kernel
theorem dX2_lookAtNextPages_68 : decode cX2_lookAtNextPages 68 = .ok (.putfield 42, 3) := by decide +kernel
theorem dX2_lookAtNextPages_71 : decode cX2_lookAtNextPages 71 = .ok (.iload_n 3, 1) := by decide +kernel
theorem dX2_lookAtNextPages_72 : decode cX2_lookAtNextPages 72 = .ok (.ireturn, 1) := by decide +kernel
set_option maxRecDepth 20000 in
theorem ggX2_finishSweep_X2_isDirty : GoodIn wsX2_finishSweep wsX2_isDirty := goodIn_r _ [12, 7, 69, 70, 71, 72, 73, 74, 75, 76, 77, 78] (by decide +kernel) (by decide +kernel)
set_option maxRecDepth 20000 in
theorem gX2_finishSweep_X2_isDirty : GoodIn wsX2_finishSweep (wsV RX2 123 RX2 yX2_isDirty wsX2_isDirty) := goodIn_app (goodIn_of _ (by decide +kernel)) ggX2_finishSweep_X2_isDirty
set_option maxRecDepth 20000 in
theorem ggX2_finishSweep_X2_cleanPage : GoodIn wsX2_finishSweep wsX2_cleanPage := goodIn_r _ [16, 17, 18, 19, 20, 11, 21, 22, 23, 24, 25, 3, 26, 27, 28, 29, 30, 31, 32, 33, 34, 35, 36, 37, 38, 39, 40, 41, 42, 43, 44, 45, 46, 47, 48, 49, 50, 51, 52, 53, 54, 55, 56, 57, 58, 59, 69, 70, 71, 72, 73, 74, 75, 76, 77, 78, 79] (by decide +kernel) (by decide +kernel)
set_option maxRecDepth 20000 in
theorem gX2_finishSweep_X2_cleanPage : GoodIn wsX2_finishSweep (wsV RX2 120 RX2 yX2_cleanPage wsX2_cleanPage) := goodIn_app (goodIn_of _ (by decide +kernel)) ggX2_finishSweep_X2_cleanPage
set_option maxRecDepth 20000 in
theorem ggX2_finishSweep_X2_clean : GoodIn wsX2_finishSweep wsX2_clean := goodIn_r _ [21, 22, 23, 24, 11, 25, 3, 26, 27, 28, 29, 30, 31, 32, 33, 34, 35, 36, 37, 38, 39, 40, 41, 42, 43, 44, 45, 46, 47, 48, 49, 50, 51, 52, 53, 54, 55, 56, 57, 58, 59, 69, 70, 71, 72, 73, 74, 75, 76, 77, 78, 79] (by decide +kernel) (by decide +kernel)
set_option maxRecDepth 20000 in
theorem gX2_finishSweep_X2_clean : GoodIn wsX2_finishSweep (wsV RX2 126 RX2 yX2_clean wsX2_clean) := goodIn_app (goodIn_of _ (by decide +kernel)) ggX2_finishSweep_X2_clean
set_option maxRecDepth 20000 in
theorem ggX2_finishSweep_X0_size : GoodIn wsX2_finishSweep wsX0_size := goodIn_r _ [63, 64, 37, 38, 39, 40, 41, 42, 43, 44, 45, 46, 47, 48, 49, 50, 51, 52, 79] (by decide +kernel) (by decide +kernel)
set_option maxRecDepth 20000 in
theorem gX2_finishSweep_X0_size : GoodIn wsX2_finishSweep (wsV RX2 111 RX0 yX0_size wsX0_size) := goodIn_app (goodIn_of _ (by decide +kernel)) ggX2_finishSweep_X0_size
set_option maxRecDepth 20000 in
theorem ggX2_finishSweep_X0_dropAllOf : GoodIn wsX2_finishSweep wsX0_dropAllOf := goodIn_r _ [68, 41, 42, 79] (by decide +kernel) (by decide +kernel)
set_option maxRecDepth 20000 in
theorem gX2_finishSweep_X0_dropAllOf : GoodIn wsX2_finishSweep (wsV RX2 130 RX0 yX0_dropAllOf wsX0_dropAllOf) := goodIn_app (goodIn_of _ (by decide +kernel)) ggX2_finishSweep_X0_dropAllOf
theorem dX2_finishSweep_0 : decode cX2_finishSweep 0 = .ok (.iconst 0, 1) := by decide +kernel
theorem dX2_finishSweep_1 : decode cX2_finishSweep 1 = .ok (.istore_n 1, 1) := by decide +kernel
theorem dX2_finishSweep_2 : decode cX2_finishSweep 2 = .ok (.iload_n 1, 1) := by decide +kernel
theorem dX2_finishSweep_3 : decode cX2_finishSweep 3 = .ok (.bipush 16, 2) := by decide +kernel
theorem dX2_finishSweep_5 : decode cX2_finishSweep 5 = .ok (.if_icmp .ge 41, 3) := by decide +kernel
theorem dX2_finishSweep_8 : decode cX2_finishSweep 8 = .ok (.aload_n 0, 1) := by decide +kernel
theorem dX2_finishSweep_9 : decode cX2_finishSweep 9 = .ok (.iload_n 1, 1) := by decide +kernel
theorem dX2_finishSweep_10 : decode cX2_finishSweep 10 = .ok (.invokevirtual 123, 3) := by decide +kernel
theorem dX2_finishSweep_13 : decode cX2_finishSweep 13 = .ok (.ifCond .eq 27, 3) := by decide +kernel
theorem dX2_finishSweep_16 : decode cX2_finishSweep 16 = .ok (.aload_n 0, 1) := by decide +kernel
theorem dX2_finishSweep_17 : decode cX2_finishSweep 17 = .ok (.getfield 18, 3) := by decide +kernel
theorem dX2_finishSweep_20 : decode cX2_finishSweep 20 = .ok (.iconst 1, 1) := by decide +kernel
theorem dX2_finishSweep_21 : decode cX2_finishSweep 21 = .ok (.dup2, 1) := by decide +kernel
theorem dX2_finishSweep_22 : decode cX2_finishSweep 22 = .ok (.iaload, 1) := by decide +kernel
theorem dX2_finishSweep_23 : decode cX2_finishSweep 23 = .ok (.aload_n 0, 1) := by decide +kernel
theorem dX2_finishSweep_24 : decode cX2_finishSweep 24 = .ok (.iload_n 1, 1) := by decide +kernel
theorem dX2_finishSweep_25 : decode cX2_finishSweep 25 = .ok (.invokevirtual 120, 3) := by decide +kernel
theorem dX2_finishSweep_28 : decode cX2_finishSweep 28 = .ok (.iadd, 1) := by decide +kernel
theorem dX2_finishSweep_29 : decode cX2_finishSweep 29 = .ok (.iastore, 1) := by decide +kernel
theorem dX2_finishSweep_30 : decode cX2_finishSweep 30 = .ok (.aload_n 0, 1) := by decide +kernel
theorem dX2_finishSweep_31 : decode cX2_finishSweep 31 = .ok (.getfield 18, 3) := by decide +kernel
theorem dX2_finishSweep_34 : decode cX2_finishSweep 34 = .ok (.iconst 5, 1) := by decide +kernel
theorem dX2_finishSweep_35 : decode cX2_finishSweep 35 = .ok (.dup2, 1) := by decide +kernel
theorem dX2_finishSweep_36 : decode cX2_finishSweep 36 = .ok (.iaload, 1) := by decide +kernel
theorem dX2_finishSweep_37 : decode cX2_finishSweep 37 = .ok (.iconst 1, 1) := by decide +kernel
theorem dX2_finishSweep_38 : decode cX2_finishSweep 38 = .ok (.iadd, 1) := by decide +kernel
theorem dX2_finishSweep_39 : decode cX2_finishSweep 39 = .ok (.iastore, 1) := by decide +kernel
theorem dX2_finishSweep_40 : decode cX2_finishSweep 40 = .ok (.iinc 1 1, 3) := by decide +kernel
theorem dX2_finishSweep_43 : decode cX2_finishSweep 43 = .ok (.goto (-41), 3) := by decide +kernel
theorem dX2_finishSweep_46 : decode cX2_finishSweep 46 = .ok (.aload_n 0, 1) := by decide +kernel
theorem dX2_finishSweep_47 : decode cX2_finishSweep 47 = .ok (.getfield 18, 3) := by decide +kernel
theorem dX2_finishSweep_50 : decode cX2_finishSweep 50 = .ok (.iconst 2, 1) := by decide +kernel
theorem dX2_finishSweep_51 : decode cX2_finishSweep 51 = .ok (.dup2, 1) := by decide +kernel
theorem dX2_finishSweep_52 : decode cX2_finishSweep 52 = .ok (.iaload, 1) := by decide +kernel
theorem dX2_finishSweep_53 : decode cX2_finishSweep 53 = .ok (.aload_n 0, 1) := by decide +kernel
theorem dX2_finishSweep_54 : decode cX2_finishSweep 54 = .ok (.aload_n 0, 1) := by decide +kernel
theorem dX2_finishSweep_55 : decode cX2_finishSweep 55 = .ok (.getfield 15, 3) := by decide +kernel
theorem dX2_finishSweep_58 : decode cX2_finishSweep 58 = .ok (.iconst 0, 1) := by decide +kernel
theorem dX2_finishSweep_59 : decode cX2_finishSweep 59 = .ok (.bipush 8, 2) := by decide +kernel
theorem dX2_finishSweep_61 : decode cX2_finishSweep 61 = .ok (.invokevirtual 126, 3) := by decide +kernel
theorem dX2_finishSweep_64 : decode cX2_finishSweep 64 = .ok (.iadd, 1) := by decide +kernel
theorem dX2_finishSweep_65 : decode cX2_finishSweep 65 = .ok (.iastore, 1) := by decide +kernel
theorem dX2_finishSweep_66 : decode cX2_finishSweep 66 = .ok (.aload_n 0, 1) := by decide +kernel
theorem dX2_finishSweep_67 : decode cX2_finishSweep 67 = .ok (.getfield 18, 3) := by decide +kernel
theorem dX2_finishSweep_70 : decode cX2_finishSweep 70 = .ok (.bipush 6, 2) := by decide +kernel
theorem dX2_finishSweep_72 : decode cX2_finishSweep 72 = .ok (.dup2, 1) := by decide +kernel
theorem dX2_finishSweep_73 : decode cX2_finishSweep 73 = .ok (.iaload, 1) := by decide +kernel
theorem dX2_finishSweep_74 : decode cX2_finishSweep 74 = .ok (.iconst 1, 1) := by decide +kernel
theorem dX2_finishSweep_75 : decode cX2_finishSweep 75 = .ok (.iadd, 1) := by decide +kernel
theorem dX2_finishSweep_76 : decode cX2_finishSweep 76 = .ok (.iastore, 1) := by decide +kernel
theorem dX2_finishSweep_77 : decode cX2_finishSweep 77 = .ok (.aload_n 0, 1) := by decide +kernel
theorem dX2_finishSweep_78 : decode cX2_finishSweep 78 = .ok (.getfield 32, 3) := by decide +kernel
theorem dX2_finishSweep_81 : decode cX2_finishSweep 81 = .ok (.invokevirtual 111, 3) := by decide +kernel
theorem dX2_finishSweep_84 : decode cX2_finishSweep 84 = .ok (.istore_n 1, 1) := by decide +kernel
theorem dX2_finishSweep_85 : decode cX2_finishSweep 85 = .ok (.aload_n 0, 1) := by decide +kernel
theorem dX2_finishSweep_86 : decode cX2_finishSweep 86 = .ok (.getfield 29, 3) := by decide +kernel
theorem dX2_finishSweep_89 : decode cX2_finishSweep 89 = .ok (.aload_n 0, 1) := by decide +kernel
theorem dX2_finishSweep_90 : decode cX2_finishSweep 90 = .ok (.getfield 32, 3) := by decide +kernel
theorem dX2_finishSweep_93 : decode cX2_finishSweep 93 = .ok (.invokevirtual 130, 3) := by decide +kernel
theorem dX2_finishSweep_96 : decode cX2_finishSweep 96 = .ok (.aload_n 0, 1) := by decide +kernel
theorem dX2_finishSweep_97 : decode cX2_finishSweep 97 = .ok (.getfield 32, 3) := by decide +kernel
theorem dX2_finishSweep_100 : decode cX2_finishSweep 100 = .ok (.aload_n 0, 1) := by decide +kernel
theorem dX2_finishSweep_101 : decode cX2_finishSweep 101 = .ok (.getfield 32, 3) := by decide +kernel
theorem dX2_finishSweep_104 : decode cX2_finishSweep 104 = .ok (.invokevirtual 130, 3) := by decide +kernel
theorem dX2_finishSweep_107 : decode cX2_finishSweep 107 = .ok (.aload_n 0, 1) := by decide +kernel
theorem dX2_finishSweep_108 : decode cX2_finishSweep 108 = .ok (.iconst 0, 1) := by decide +kernel
theorem dX2_finishSweep_109 : decode cX2_finishSweep 109 = .ok (.putfield 38, 3) := by decide +kernel
theorem dX2_finishSweep_112 : decode cX2_finishSweep 112 = .ok (.aload_n 0, 1) := by decide +kernel
theorem dX2_finishSweep_113 : decode cX2_finishSweep 113 = .ok (.iconst 0, 1) := by decide +kernel
theorem dX2_finishSweep_114 : decode cX2_finishSweep 114 = .ok (.putfield 42, 3) := by decide +kernel
theorem dX2_finishSweep_117 : decode cX2_finishSweep 117 = .ok (.aload_n 0, 1) := by decide +kernel
theorem dX2_finishSweep_118 : decode cX2_finishSweep 118 = .ok (.iconst 0, 1) := by decide +kernel
theorem dX2_finishSweep_119 : decode cX2_finishSweep 119 = .ok (.putfield 46, 3) := by decide +kernel
theorem dX2_finishSweep_122 : decode cX2_finishSweep 122 = .ok (.iload_n 1, 1) := by decide +kernel
theorem dX2_finishSweep_123 : decode cX2_finishSweep 123 = .ok (.ireturn, 1) := by decide +kernel
set_option maxRecDepth 20000 in
theorem ggX2_cleanPage_X2_clean : GoodIn wsX2_cleanPage wsX2_clean := goodIn_r _ [6, 7, 8, 9, 5, 10, 11, 12, 13, 14, 15, 16, 17, 18, 19, 20, 21, 22, 23, 24, 25, 26, 27, 28, 29, 30, 31, 32, 33, 34, 35, 36, 37, 38, 39, 40, 41, 42, 43, 44, 45, 46, 47, 48, 49, 50, 51, 52, 53, 54, 55, 56] (by decide +kernel) (by decide +kernel)
set_option maxRecDepth 20000 in
theorem gX2_cleanPage_X2_clean : GoodIn wsX2_cleanPage (wsV RX2 126 RX2 yX2_clean wsX2_clean) := goodIn_app (goodIn_of _ (by decide +kernel)) ggX2_cleanPage_X2_clean
theorem dX2_cleanPage_0 : decode cX2_cleanPage 0 = .ok (.iload_n 1, 1) := by decide +kernel
theorem dX2_cleanPage_1 : decode cX2_cleanPage 1 = .ok (.bipush 16, 2) := by decide +kernel
theorem dX2_cleanPage_3 : decode cX2_cleanPage 3 = .ok (.imul, 1) := by decide +kernel
theorem dX2_cleanPage_4 : decode cX2_cleanPage 4 = .ok (.istore_n 2, 1) := by decide +kernel
theorem dX2_cleanPage_5 : decode cX2_cleanPage 5 = .ok (.aload_n 0, 1) := by decide +kernel
theorem dX2_cleanPage_6 : decode cX2_cleanPage 6 = .ok (.aload_n 0, 1) := by decide +kernel
theorem dX2_cleanPage_7 : decode cX2_cleanPage 7 = .ok (.getfield 9, 3) := by decide +kernel
theorem dX2_cleanPage_10 : decode cX2_cleanPage 10 = .ok (.iload_n 2, 1) := by decide +kernel
theorem dX2_cleanPage_11 : decode cX2_cleanPage 11 = .ok (.iload_n 2, 1) := by decide +kernel
theorem dX2_cleanPage_12 : decode cX2_cleanPage 12 = .ok (.bipush 16, 2) := by decide +kernel
theorem dX2_cleanPage_14 : decode cX2_cleanPage 14 = .ok (.iadd, 1) := by decide +kernel
theorem dX2_cleanPage_15 : decode cX2_cleanPage 15 = .ok (.invokevirtual 126, 3) := by decide +kernel
theorem dX2_cleanPage_18 : decode cX2_cleanPage 18 = .ok (.ireturn, 1) := by decide +kernel
set_option maxRecDepth 20000 in
theorem ggX2_clean_X2_isStale : GoodIn wsX2_clean wsX2_isStale := goodIn_r _ [5, 6, 7, 8, 9, 10, 11, 12, 13, 14, 15, 16, 17, 18, 19, 20, 21, 22, 23, 24, 25, 26, 27, 28, 29, 30, 31, 32, 33, 41, 42, 43, 44, 45, 46, 47, 48, 49, 50, 51] (by decide +kernel) (by decide +kernel)
set_option maxRecDepth 20000 in
theorem gX2_clean_X2_isStale : GoodIn wsX2_clean (wsV RX2 102 RX2 yX2_isStale wsX2_isStale) := goodIn_app (goodIn_of _ (by decide +kernel)) ggX2_clean_X2_isStale
set_option maxRecDepth 20000 in
theorem ggX2_clean_X3_at : GoodIn wsX2_clean wsX3_at := goodIn_r _ [36] (by decide +kernel) (by decide +kernel)
set_option maxRecDepth 20000 in
theorem gX2_clean_X3_at : GoodIn wsX2_clean (va_wsS RX2 105 yX3_at wsX3_at) := goodIn_app (goodIn_of _ (by decide +kernel)) ggX2_clean_X3_at
set_option maxRecDepth 20000 in
theorem ggX2_clean_X3_ofNumber : GoodIn wsX2_clean wsX3_ofNumber := goodIn_r _ [39, 40] (by decide +kernel) (by decide +kernel)
set_option maxRecDepth 20000 in
theorem gX2_clean_X3_ofNumber : GoodIn wsX2_clean (va_wsS RX2 71 yX3_ofNumber wsX3_ofNumber) := goodIn_app (goodIn_of _ (by decide +kernel)) ggX2_clean_X3_ofNumber
theorem dX2_clean_0 : decode cX2_clean 0 = .ok (.iconst 0, 1) := by decide +kernel
theorem dX2_clean_1 : decode cX2_clean 1 = .ok (.istore 4, 2) := by decide +kernel
theorem dX2_clean_3 : decode cX2_clean 3 = .ok (.iload_n 2, 1) := by decide +kernel
theorem dX2_clean_4 : decode cX2_clean 4 = .ok (.istore 5, 2) := by decide +kernel
theorem dX2_clean_6 : decode cX2_clean 6 = .ok (.iload 5, 2) := by decide +kernel
theorem dX2_clean_8 : decode cX2_clean 8 = .ok (.iload_n 3, 1) := by decide +kernel
theorem dX2_clean_9 : decode cX2_clean 9 = .ok (.if_icmp .ge 37, 3) := by decide +kernel
theorem dX2_clean_12 : decode cX2_clean 12 = .ok (.aload_n 0, 1) := by decide +kernel
theorem dX2_clean_13 : decode cX2_clean 13 = .ok (.aload_n 1, 1) := by decide +kernel
theorem dX2_clean_14 : decode cX2_clean 14 = .ok (.iload 5, 2) := by decide +kernel
theorem dX2_clean_16 : decode cX2_clean 16 = .ok (.laload, 1) := by decide +kernel
theorem dX2_clean_17 : decode cX2_clean 17 = .ok (.invokevirtual 102, 3) := by decide +kernel
theorem dX2_clean_20 : decode cX2_clean 20 = .ok (.ifCond .eq 20, 3) := by decide +kernel
theorem dX2_clean_23 : decode cX2_clean 23 = .ok (.aload_n 1, 1) := by decide +kernel
theorem dX2_clean_24 : decode cX2_clean 24 = .ok (.iload 5, 2) := by decide +kernel
theorem dX2_clean_26 : decode cX2_clean 26 = .ok (.aload_n 1, 1) := by decide +kernel
theorem dX2_clean_27 : decode cX2_clean 27 = .ok (.iload 5, 2) := by decide +kernel
theorem dX2_clean_29 : decode cX2_clean 29 = .ok (.laload, 1) := by decide +kernel
theorem dX2_clean_30 : decode cX2_clean 30 = .ok (.invokestatic 105, 3) := by decide +kernel
theorem dX2_clean_33 : decode cX2_clean 33 = .ok (.invokestatic 71, 3) := by decide +kernel
theorem dX2_clean_36 : decode cX2_clean 36 = .ok (.lastore, 1) := by decide +kernel
theorem dX2_clean_37 : decode cX2_clean 37 = .ok (.iinc 4 1, 3) := by decide +kernel
theorem dX2_clean_40 : decode cX2_clean 40 = .ok (.iinc 5 1, 3) := by decide +kernel
theorem dX2_clean_43 : decode cX2_clean 43 = .ok (.goto (-37), 3) := by decide +kernel
theorem dX2_clean_46 : decode cX2_clean 46 = .ok (.iload 4, 2) := by decide +kernel
theorem dX2_clean_48 : decode cX2_clean 48 = .ok (.ireturn, 1) := by decide +kernel
theorem dX3_ofNumber_0 : decode cX3_ofNumber 0 = .ok (.iload_n 0, 1) := by decide +kernel
theorem dX3_ofNumber_1 : decode cX3_ofNumber 1 = .ok (.i2l, 1) := by decide +kernel
theorem dX3_ofNumber_2 : decode cX3_ofNumber 2 = .ok (.ldc2_w 11, 3) := by decide +kernel
theorem dX3_ofNumber_5 : decode cX3_ofNumber 5 = .ok (.land, 1) := by decide +kernel
theorem dX3_ofNumber_6 : decode cX3_ofNumber 6 = .ok (.lreturn, 1) := by decide +kernel
set_option maxRecDepth 20000 in
theorem ggX3_ofPointer_X3_ofNumber : GoodIn wsX3_ofPointer wsX3_ofNumber := goodIn_r _ [5, 6] (by decide +kernel) (by decide +kernel)
set_option maxRecDepth 20000 in
theorem gX3_ofPointer_X3_ofNumber : GoodIn wsX3_ofPointer (va_wsS RX3 13 yX3_ofNumber wsX3_ofNumber) := goodIn_app (goodIn_of _ (by decide +kernel)) ggX3_ofPointer_X3_ofNumber
theorem dX3_ofPointer_0 : decode cX3_ofPointer 0 = .ok (.iload_n 2, 1) := by decide +kernel
theorem dX3_ofPointer_1 : decode cX3_ofPointer 1 = .ok (.invokestatic 13, 3) := by decide +kernel
theorem dX3_ofPointer_4 : decode cX3_ofPointer 4 = .ok (.iload_n 0, 1) := by decide +kernel
theorem dX3_ofPointer_5 : decode cX3_ofPointer 5 = .ok (.i2l, 1) := by decide +kernel
theorem dX3_ofPointer_6 : decode cX3_ofPointer 6 = .ok (.bipush 32, 2) := by decide +kernel
theorem dX3_ofPointer_8 : decode cX3_ofPointer 8 = .ok (.lshl, 1) := by decide +kernel
theorem dX3_ofPointer_9 : decode cX3_ofPointer 9 = .ok (.lor, 1) := by decide +kernel
theorem dX3_ofPointer_10 : decode cX3_ofPointer 10 = .ok (.iload_n 1, 1) := by decide +kernel
theorem dX3_ofPointer_11 : decode cX3_ofPointer 11 = .ok (.i2l, 1) := by decide +kernel
theorem dX3_ofPointer_12 : decode cX3_ofPointer 12 = .ok (.bipush 41, 2) := by decide +kernel
theorem dX3_ofPointer_14 : decode cX3_ofPointer 14 = .ok (.lshl, 1) := by decide +kernel
theorem dX3_ofPointer_15 : decode cX3_ofPointer 15 = .ok (.lor, 1) := by decide +kernel
theorem dX3_ofPointer_16 : decode cX3_ofPointer 16 = .ok (.iload_n 3, 1) := by decide +kernel
theorem dX3_ofPointer_17 : decode cX3_ofPointer 17 = .ok (.i2l, 1) := by decide +kernel
theorem dX3_ofPointer_18 : decode cX3_ofPointer 18 = .ok (.bipush 50, 2) := by decide +kernel
theorem dX3_ofPointer_20 : decode cX3_ofPointer 20 = .ok (.lshl, 1) := by decide +kernel
theorem dX3_ofPointer_21 : decode cX3_ofPointer 21 = .ok (.lor, 1) := by decide +kernel
theorem dX3_ofPointer_22 : decode cX3_ofPointer 22 = .ok (.ldc2_w 17, 3) := by decide +kernel
theorem dX3_ofPointer_25 : decode cX3_ofPointer 25 = .ok (.lor, 1) := by decide +kernel
theorem dX3_ofPointer_26 : decode cX3_ofPointer 26 = .ok (.lreturn, 1) := by decide +kernel
theorem dX3_isPointer_0 : decode cX3_isPointer 0 = .ok (.lload_n 0, 1) := by decide +kernel
theorem dX3_isPointer_1 : decode cX3_isPointer 1 = .ok (.bipush 52, 2) := by decide +kernel
theorem dX3_isPointer_3 : decode cX3_isPointer 3 = .ok (.lushr, 1) := by decide +kernel
theorem dX3_isPointer_4 : decode cX3_isPointer 4 = .ok (.lconst 0, 1) := by decide +kernel
theorem dX3_isPointer_5 : decode cX3_isPointer 5 = .ok (.lcmp, 1) := by decide +kernel
theorem dX3_isPointer_6 : decode cX3_isPointer 6 = .ok (.ifCond .eq 7, 3) := by decide +kernel
theorem dX3_isPointer_9 : decode cX3_isPointer 9 = .ok (.iconst 1, 1) := by decide +kernel
theorem dX3_isPointer_10 : decode cX3_isPointer 10 = .ok (.goto 4, 3) := by decide +kernel
theorem dX3_isPointer_13 : decode cX3_isPointer 13 = .ok (.iconst 0, 1) := by decide +kernel
theorem dX3_isPointer_14 : decode cX3_isPointer 14 = .ok (.ireturn, 1) := by decide +kernel
theorem dX3_at_0 : decode cX3_at 0 = .ok (.lload_n 0, 1) := by decide +kernel
theorem dX3_at_1 : decode cX3_at 1 = .ok (.l2i, 1) := by decide +kernel
theorem dX3_at_2 : decode cX3_at 2 = .ok (.ireturn, 1) := by decide +kernel
theorem dX3_from_0 : decode cX3_from 0 = .ok (.lload_n 0, 1) := by decide +kernel
theorem dX3_from_1 : decode cX3_from 1 = .ok (.bipush 32, 2) := by decide +kernel
theorem dX3_from_3 : decode cX3_from 3 = .ok (.lushr, 1) := by decide +kernel
theorem dX3_from_4 : decode cX3_from 4 = .ok (.l2i, 1) := by decide +kernel
theorem dX3_from_5 : decode cX3_from 5 = .ok (.sipush 511, 3) := by decide +kernel
theorem dX3_from_8 : decode cX3_from 8 = .ok (.iand, 1) := by decide +kernel
theorem dX3_from_9 : decode cX3_from 9 = .ok (.ireturn, 1) := by decide +kernel
theorem dX3_to_0 : decode cX3_to 0 = .ok (.lload_n 0, 1) := by decide +kernel
theorem dX3_to_1 : decode cX3_to 1 = .ok (.bipush 41, 2) := by decide +kernel
theorem dX3_to_3 : decode cX3_to 3 = .ok (.lushr, 1) := by decide +kernel
theorem dX3_to_4 : decode cX3_to 4 = .ok (.l2i, 1) := by decide +kernel
theorem dX3_to_5 : decode cX3_to 5 = .ok (.sipush 511, 3) := by decide +kernel
theorem dX3_to_8 : decode cX3_to 8 = .ok (.iand, 1) := by decide +kernel
theorem dX3_to_9 : decode cX3_to 9 = .ok (.ireturn, 1) := by decide +kernel
theorem dX3_rights_0 : decode cX3_rights 0 = .ok (.lload_n 0, 1) := by decide +kernel
theorem dX3_rights_1 : decode cX3_rights 1 = .ok (.bipush 50, 2) := by decide +kernel
theorem dX3_rights_3 : decode cX3_rights 3 = .ok (.lushr, 1) := by decide +kernel
theorem dX3_rights_4 : decode cX3_rights 4 = .ok (.l2i, 1) := by decide +kernel
theorem dX3_rights_5 : decode cX3_rights 5 = .ok (.iconst 3, 1) := by decide +kernel
theorem dX3_rights_6 : decode cX3_rights 6 = .ok (.iand, 1) := by decide +kernel
theorem dX3_rights_7 : decode cX3_rights 7 = .ok (.ireturn, 1) := by decide +kernel
set_option maxRecDepth 20000 in
theorem ggX3_covers_X3_at : GoodIn wsX3_covers wsX3_at := goodIn_r _ [4] (by decide +kernel) (by decide +kernel)
set_option maxRecDepth 20000 in
theorem gX3_covers_X3_at : GoodIn wsX3_covers (va_wsS RX3 19 yX3_at wsX3_at) := goodIn_app (goodIn_of _ (by decide +kernel)) ggX3_covers_X3_at
set_option maxRecDepth 20000 in
theorem ggX3_covers_X3_from : GoodIn wsX3_covers wsX3_from := goodIn_r _ [7] (by decide +kernel) (by decide +kernel)
set_option maxRecDepth 20000 in
theorem gX3_covers_X3_from : GoodIn wsX3_covers (va_wsS RX3 23 yX3_from wsX3_from) := goodIn_app (goodIn_of _ (by decide +kernel)) ggX3_covers_X3_from
set_option maxRecDepth 20000 in
theorem ggX3_covers_X3_to : GoodIn wsX3_covers wsX3_to := goodIn_r _ [10] (by decide +kernel) (by decide +kernel)
set_option maxRecDepth 20000 in
theorem gX3_covers_X3_to : GoodIn wsX3_covers (va_wsS RX3 26 yX3_to wsX3_to) := goodIn_app (goodIn_of _ (by decide +kernel)) ggX3_covers_X3_to
theorem dX3_covers_0 : decode cX3_covers 0 = .ok (.lload_n 0, 1) := by decide +kernel
theorem dX3_covers_1 : decode cX3_covers 1 = .ok (.invokestatic 19, 3) := by decide +kernel
theorem dX3_covers_4 : decode cX3_covers 4 = .ok (.i2l, 1) := by decide +kernel
theorem dX3_covers_5 : decode cX3_covers 5 = .ok (.iload_n 2, 1) := by decide +kernel
theorem dX3_covers_6 : decode cX3_covers 6 = .ok (.i2l, 1) := by decide +kernel
theorem dX3_covers_7 : decode cX3_covers 7 = .ok (.ladd, 1) := by decide +kernel
theorem dX3_covers_8 : decode cX3_covers 8 = .ok (.lstore 4, 2) := by decide +kernel
theorem dX3_covers_10 : decode cX3_covers 10 = .ok (.lload 4, 2) := by decide +kernel
theorem dX3_covers_12 : decode cX3_covers 12 = .ok (.lload_n 0, 1) := by decide +kernel
theorem dX3_covers_13 : decode cX3_covers 13 = .ok (.invokestatic 23, 3) := by decide +kernel
theorem dX3_covers_16 : decode cX3_covers 16 = .ok (.i2l, 1) := by decide +kernel
theorem dX3_covers_17 : decode cX3_covers 17 = .ok (.lcmp, 1) := by decide +kernel
theorem dX3_covers_18 : decode cX3_covers 18 = .ok (.ifCond .lt 21, 3) := by decide +kernel
theorem dX3_covers_21 : decode cX3_covers 21 = .ok (.lload 4, 2) := by decide +kernel
theorem dX3_covers_23 : decode cX3_covers 23 = .ok (.iload_n 3, 1) := by decide +kernel
theorem dX3_covers_24 : decode cX3_covers 24 = .ok (.i2l, 1) := by decide +kernel
theorem dX3_covers_25 : decode cX3_covers 25 = .ok (.ladd, 1) := by decide +kernel
theorem dX3_covers_26 : decode cX3_covers 26 = .ok (.lload_n 0, 1) := by decide +kernel
theorem dX3_covers_27 : decode cX3_covers 27 = .ok (.invokestatic 26, 3) := by decide +kernel
theorem dX3_covers_30 : decode cX3_covers 30 = .ok (.i2l, 1) := by decide +kernel
theorem dX3_covers_31 : decode cX3_covers 31 = .ok (.lcmp, 1) := by decide +kernel
theorem dX3_covers_32 : decode cX3_covers 32 = .ok (.ifCond .gt 7, 3) := by decide +kernel
theorem dX3_covers_35 : decode cX3_covers 35 = .ok (.iconst 1, 1) := by decide +kernel
theorem dX3_covers_36 : decode cX3_covers 36 = .ok (.goto 4, 3) := by decide +kernel
theorem dX3_covers_39 : decode cX3_covers 39 = .ok (.iconst 0, 1) := by decide +kernel
theorem dX3_covers_40 : decode cX3_covers 40 = .ok (.ireturn, 1) := by decide +kernel
set_option maxRecDepth 20000 in
theorem ggX4_init_X2_init : GoodIn wsX4_init wsX2_init := goodIn_r _ [15, 16, 2, 3, 12, 17, 18, 19, 20, 21, 22, 23, 24, 25, 26, 27, 28, 29, 30, 31, 32, 33, 34, 43, 44, 45, 46, 47, 48, 49, 50, 51, 52, 59] (by decide +kernel) (by decide +kernel)
set_option maxRecDepth 20000 in
theorem gX4_init_X2_init_n11 : GoodIn wsX4_init (wsX2_init) := ggX4_init_X2_init
set_option maxRecDepth 20000 in
theorem ggX4_init_X1_init : GoodIn wsX4_init wsX1_init := goodIn_r _ [37, 38, 2, 3, 39, 40, 41, 42, 5, 6, 14, 15, 16, 12, 17, 18, 19, 20, 21, 22, 23, 24, 25, 26, 27, 28, 29, 30, 31, 32, 33, 34, 56, 57, 58, 43, 44, 45, 46, 47, 48, 49, 50, 51, 52, 59] (by decide +kernel) (by decide +kernel)
set_option maxRecDepth 20000 in
theorem gX4_init_X1_init : GoodIn wsX4_init (wsX1_init) := ggX4_init_X1_init
theorem dX4_init_0 : decode cX4_init 0 = .ok (.aload_n 0, 1) := by decide +kernel
theorem dX4_init_1 : decode cX4_init 1 = .ok (.invokespecial 3, 3) := by decide +kernel
theorem dX4_init_4 : decode cX4_init 4 = .ok (.aload_n 0, 1) := by decide +kernel
theorem dX4_init_5 : decode cX4_init 5 = .ok (.new 9, 3) := by decide +kernel
theorem dX4_init_8 : decode cX4_init 8 = .ok (.dup, 1) := by decide +kernel
theorem dX4_init_9 : decode cX4_init 9 = .ok (.invokespecial 11, 3) := by decide +kernel
theorem dX4_init_12 : decode cX4_init 12 = .ok (.putfield 12, 3) := by decide +kernel
theorem dX4_init_15 : decode cX4_init 15 = .ok (.aload_n 0, 1) := by decide +kernel
theorem dX4_init_16 : decode cX4_init 16 = .ok (.new 16, 3) := by decide +kernel
theorem dX4_init_19 : decode cX4_init 19 = .ok (.dup, 1) := by decide +kernel
theorem dX4_init_20 : decode cX4_init 20 = .ok (.invokespecial 18, 3) := by decide +kernel
theorem dX4_init_23 : decode cX4_init 23 = .ok (.putfield 19, 3) := by decide +kernel
theorem dX4_init_26 : decode cX4_init 26 = .ok (.aload_n 0, 1) := by decide +kernel
theorem dX4_init_27 : decode cX4_init 27 = .ok (.bipush 64, 2) := by decide +kernel
theorem dX4_init_29 : decode cX4_init 29 = .ok (.newarray .long, 2) := by decide +kernel
theorem dX4_init_31 : decode cX4_init 31 = .ok (.putfield 23, 3) := by decide +kernel
theorem dX4_init_34 : decode cX4_init 34 = .ok (.return_, 1) := by decide +kernel
set_option maxRecDepth 20000 in
theorem ggX4_give_X4_isRegister : GoodIn wsX4_give wsX4_isRegister := goodIn_r _ [7] (by decide +kernel) (by decide +kernel)
set_option maxRecDepth 20000 in
theorem gX4_give_X4_isRegister : GoodIn wsX4_give (va_wsS RX4 27 yX4_isRegister wsX4_isRegister) := goodIn_app (goodIn_of _ (by decide +kernel)) ggX4_give_X4_isRegister
set_option maxRecDepth 20000 in
theorem ggX4_give_X2_firstFreeRow : GoodIn wsX4_give wsX2_firstFreeRow := goodIn_r _ [12, 13, 14, 15, 11, 16, 17, 18, 19, 20, 21, 22, 23, 24, 25, 6, 26, 81, 82, 83, 84, 85, 86, 87, 88, 89, 90, 91] (by decide +kernel) (by decide +kernel)
set_option maxRecDepth 20000 in
theorem gX4_give_X2_firstFreeRow : GoodIn wsX4_give (wsV RX4 31 RX2 yX2_firstFreeRow wsX2_firstFreeRow) := goodIn_app (goodIn_of _ (by decide +kernel)) ggX4_give_X2_firstFreeRow
set_option maxRecDepth 20000 in
theorem ggX4_give_X1_keep : GoodIn wsX4_give wsX1_keep := goodIn_r _ [31, 32, 33, 34, 35, 36, 37, 38, 39, 40, 41, 11, 42, 43, 44, 45, 46, 47, 48, 49, 17, 18, 50, 51, 52, 53, 54, 55, 56, 57, 22, 58, 24, 59, 92, 93, 94, 81, 82, 83, 84, 85, 86, 87, 88, 89, 90, 91] (by decide +kernel) (by decide +kernel)
set_option maxRecDepth 20000 in
theorem gX4_give_X1_keep : GoodIn wsX4_give (wsV RX4 35 RX1 yX1_keep wsX1_keep) := goodIn_app (goodIn_of _ (by decide +kernel)) ggX4_give_X1_keep
set_option maxRecDepth 20000 in
theorem ggX4_give_X2_giveOut : GoodIn wsX4_give wsX2_giveOut := goodIn_r _ [63, 51, 17, 43, 64, 65, 66, 22, 67, 24, 25, 6, 26, 68, 69, 70, 71, 72, 81, 82, 83, 84, 85, 86, 87, 88, 89, 90, 91] (by decide +kernel) (by decide +kernel)
set_option maxRecDepth 20000 in
theorem gX4_give_X2_giveOut : GoodIn wsX4_give (wsV RX4 39 RX2 yX2_giveOut wsX2_giveOut) := goodIn_app (goodIn_of _ (by decide +kernel)) ggX4_give_X2_giveOut
set_option maxRecDepth 20000 in
theorem ggX4_give_X3_ofPointer : GoodIn wsX4_give wsX3_ofPointer := goodIn_r _ [75, 76, 77, 69, 70, 71, 72] (by decide +kernel) (by decide +kernel)
set_option maxRecDepth 20000 in
theorem gX4_give_X3_ofPointer : GoodIn wsX4_give (va_wsS RX4 46 yX3_ofPointer wsX3_ofPointer) := goodIn_app (goodIn_of _ (by decide +kernel)) ggX4_give_X3_ofPointer
theorem dX4_give_0 : decode cX4_give 0 = .ok (.iload_n 1, 1) := by decide +kernel
theorem dX4_give_1 : decode cX4_give 1 = .ok (.invokestatic 27, 3) := by decide +kernel
theorem dX4_give_4 : decode cX4_give 4 = .ok (.ifCond .eq 14, 3) := by decide +kernel
theorem dX4_give_7 : decode cX4_give 7 = .ok (.iload_n 2, 1) := by decide +kernel
theorem dX4_give_8 : decode cX4_give 8 = .ok (.iconst 1, 1) := by decide +kernel
theorem dX4_give_9 : decode cX4_give 9 = .ok (.if_icmp .lt 9, 3) := by decide +kernel
theorem dX4_give_12 : decode cX4_give 12 = .ok (.iload_n 2, 1) := by decide +kernel
theorem dX4_give_13 : decode cX4_give 13 = .ok (.bipush 64, 2) := by decide +kernel
theorem dX4_give_15 : decode cX4_give 15 = .ok (.if_icmp .le 5, 3) := by decide +kernel
theorem dX4_give_18 : decode cX4_give 18 = .ok (.iconst (-1), 1) := by decide +kernel
theorem dX4_give_19 : decode cX4_give 19 = .ok (.ireturn, 1) := by decide +kernel
theorem dX4_give_20 : decode cX4_give 20 = .ok (.aload_n 0, 1) := by decide +kernel
theorem dX4_give_21 : decode cX4_give 21 = .ok (.getfield 12, 3) := by decide +kernel
theorem dX4_give_24 : decode cX4_give 24 = .ok (.iload_n 2, 1) := by decide +kernel
theorem dX4_give_25 : decode cX4_give 25 = .ok (.invokevirtual 31, 3) := by decide +kernel
theorem dX4_give_28 : decode cX4_give 28 = .ok (.istore_n 3, 1) := by decide +kernel
theorem dX4_give_29 : decode cX4_give 29 = .ok (.iload_n 3, 1) := by decide +kernel
theorem dX4_give_30 : decode cX4_give 30 = .ok (.ifCond .ge 6, 3) := by decide +kernel
theorem dX4_give_33 : decode cX4_give 33 = .ok (.bipush (-3), 2) := by decide +kernel
theorem dX4_give_35 : decode cX4_give 35 = .ok (.ireturn, 1) := by decide +kernel
theorem dX4_give_36 : decode cX4_give 36 = .ok (.aload_n 0, 1) := by decide +kernel
theorem dX4_give_37 : decode cX4_give 37 = .ok (.getfield 19, 3) := by decide +kernel
theorem dX4_give_40 : decode cX4_give 40 = .ok (.aload_n 0, 1) := by decide +kernel
theorem dX4_give_41 : decode cX4_give 41 = .ok (.getfield 12, 3) := by decide +kernel
theorem dX4_give_44 : decode cX4_give 44 = .ok (.invokevirtual 35, 3) := by decide +kernel
theorem dX4_give_47 : decode cX4_give 47 = .ok (.aload_n 0, 1) := by decide +kernel
theorem dX4_give_48 : decode cX4_give 48 = .ok (.getfield 12, 3) := by decide +kernel
theorem dX4_give_51 : decode cX4_give 51 = .ok (.iload_n 3, 1) := by decide +kernel
theorem dX4_give_52 : decode cX4_give 52 = .ok (.iload_n 3, 1) := by decide +kernel
theorem dX4_give_53 : decode cX4_give 53 = .ok (.iload_n 2, 1) := by decide +kernel
theorem dX4_give_54 : decode cX4_give 54 = .ok (.iadd, 1) := by decide +kernel
theorem dX4_give_55 : decode cX4_give 55 = .ok (.invokevirtual 39, 3) := by decide +kernel
theorem dX4_give_58 : decode cX4_give 58 = .ok (.aload_n 0, 1) := by decide +kernel
theorem dX4_give_59 : decode cX4_give 59 = .ok (.getfield 12, 3) := by decide +kernel
theorem dX4_give_62 : decode cX4_give 62 = .ok (.getfield 43, 3) := by decide +kernel
theorem dX4_give_65 : decode cX4_give 65 = .ok (.iload_n 1, 1) := by decide +kernel
theorem dX4_give_66 : decode cX4_give 66 = .ok (.iload_n 3, 1) := by decide +kernel
theorem dX4_give_67 : decode cX4_give 67 = .ok (.iload_n 3, 1) := by decide +kernel
theorem dX4_give_68 : decode cX4_give 68 = .ok (.iload_n 2, 1) := by decide +kernel
theorem dX4_give_69 : decode cX4_give 69 = .ok (.iadd, 1) := by decide +kernel
theorem dX4_give_70 : decode cX4_give 70 = .ok (.iload_n 3, 1) := by decide +kernel
theorem dX4_give_71 : decode cX4_give 71 = .ok (.iconst 3, 1) := by decide +kernel
theorem dX4_give_72 : decode cX4_give 72 = .ok (.invokestatic 46, 3) := by decide +kernel
theorem dX4_give_75 : decode cX4_give 75 = .ok (.lastore, 1) := by decide +kernel
theorem dX4_give_76 : decode cX4_give 76 = .ok (.iload_n 3, 1) := by decide +kernel
theorem dX4_give_77 : decode cX4_give 77 = .ok (.ireturn, 1) := by decide +kernel
set_option maxRecDepth 20000 in
theorem ggX4_back_X4_isRegister : GoodIn wsX4_back wsX4_isRegister := goodIn_r _ [7] (by decide +kernel) (by decide +kernel)
set_option maxRecDepth 20000 in
theorem gX4_back_X4_isRegister : GoodIn wsX4_back (va_wsS RX4 27 yX4_isRegister wsX4_isRegister) := goodIn_app (goodIn_of _ (by decide +kernel)) ggX4_back_X4_isRegister
set_option maxRecDepth 20000 in
theorem ggX4_back_X3_isPointer : GoodIn wsX4_back wsX3_isPointer := goodIn_r _ [11] (by decide +kernel) (by decide +kernel)
set_option maxRecDepth 20000 in
theorem gX4_back_X3_isPointer : GoodIn wsX4_back (va_wsS RX4 52 yX3_isPointer wsX3_isPointer) := goodIn_app (goodIn_of _ (by decide +kernel)) ggX4_back_X3_isPointer
set_option maxRecDepth 20000 in
theorem ggX4_back_X3_from : GoodIn wsX4_back wsX3_from := goodIn_r _ [14] (by decide +kernel) (by decide +kernel)
set_option maxRecDepth 20000 in
theorem gX4_back_X3_from : GoodIn wsX4_back (va_wsS RX4 56 yX3_from wsX3_from) := goodIn_app (goodIn_of _ (by decide +kernel)) ggX4_back_X3_from
set_option maxRecDepth 20000 in
theorem ggX4_back_X3_to : GoodIn wsX4_back wsX3_to := goodIn_r _ [17] (by decide +kernel) (by decide +kernel)
set_option maxRecDepth 20000 in
theorem gX4_back_X3_to : GoodIn wsX4_back (va_wsS RX4 60 yX3_to wsX3_to) := goodIn_app (goodIn_of _ (by decide +kernel)) ggX4_back_X3_to
set_option maxRecDepth 20000 in
theorem ggX4_back_X2_isRange : GoodIn wsX4_back wsX2_isRange := goodIn_r _ [22, 23, 24, 25, 26, 27, 28, 29, 30, 31, 6, 32, 33, 34, 35, 21, 36, 86, 87, 88, 89, 90, 91, 92, 93, 94, 95, 96] (by decide +kernel) (by decide +kernel)
set_option maxRecDepth 20000 in
theorem gX4_back_X2_isRange : GoodIn wsX4_back (wsV RX4 63 RX2 yX2_isRange wsX2_isRange) := goodIn_app (goodIn_of _ (by decide +kernel)) ggX4_back_X2_isRange
set_option maxRecDepth 20000 in
theorem ggX4_back_X1_keep : GoodIn wsX4_back wsX1_keep := goodIn_r _ [41, 42, 43, 44, 45, 46, 47, 48, 49, 50, 51, 21, 52, 53, 54, 55, 56, 57, 58, 59, 23, 60, 61, 24, 62, 63, 64, 65, 66, 67, 28, 68, 30, 69, 97, 98, 99, 86, 87, 88, 89, 90, 91, 92, 93, 94, 95, 96] (by decide +kernel) (by decide +kernel)
set_option maxRecDepth 20000 in
theorem gX4_back_X1_keep : GoodIn wsX4_back (wsV RX4 35 RX1 yX1_keep wsX1_keep) := goodIn_app (goodIn_of _ (by decide +kernel)) ggX4_back_X1_keep
set_option maxRecDepth 20000 in
theorem ggX4_back_X2_giveBack : GoodIn wsX4_back wsX2_giveBack := goodIn_r _ [73, 24, 23, 60, 74, 75, 76, 28, 77, 30, 78, 31, 6, 32, 79, 80, 81, 82, 86, 87, 88, 89, 90, 91, 92, 93, 94, 95, 96] (by decide +kernel) (by decide +kernel)
set_option maxRecDepth 20000 in
theorem gX4_back_X2_giveBack : GoodIn wsX4_back (wsV RX4 67 RX2 yX2_giveBack wsX2_giveBack) := goodIn_app (goodIn_of _ (by decide +kernel)) ggX4_back_X2_giveBack
theorem dX4_back_0 : decode cX4_back 0 = .ok (.iload_n 1, 1) := by decide +kernel
theorem dX4_back_1 : decode cX4_back 1 = .ok (.invokestatic 27, 3) := by decide +kernel
theorem dX4_back_4 : decode cX4_back 4 = .ok (.ifCond .ne 5, 3) := by decide +kernel
theorem dX4_back_7 : decode cX4_back 7 = .ok (.iconst (-1), 1) := by decide +kernel
theorem dX4_back_8 : decode cX4_back 8 = .ok (.ireturn, 1) := by decide +kernel
theorem dX4_back_9 : decode cX4_back 9 = .ok (.aload_n 0, 1) := by decide +kernel
theorem dX4_back_10 : decode cX4_back 10 = .ok (.getfield 12, 3) := by decide +kernel
theorem dX4_back_13 : decode cX4_back 13 = .ok (.getfield 43, 3) := by decide +kernel
theorem dX4_back_16 : decode cX4_back 16 = .ok (.iload_n 1, 1) := by decide +kernel
theorem dX4_back_17 : decode cX4_back 17 = .ok (.laload, 1) := by decide +kernel
theorem dX4_back_18 : decode cX4_back 18 = .ok (.lstore_n 2, 1) := by decide +kernel
theorem dX4_back_19 : decode cX4_back 19 = .ok (.lload_n 2, 1) := by decide +kernel
theorem dX4_back_20 : decode cX4_back 20 = .ok (.invokestatic 52, 3) := by decide +kernel
theorem dX4_back_23 : decode cX4_back 23 = .ok (.ifCond .ne 6, 3) := by decide +kernel
theorem dX4_back_26 : decode cX4_back 26 = .ok (.bipush (-11), 2) := by decide +kernel
theorem dX4_back_28 : decode cX4_back 28 = .ok (.ireturn, 1) := by decide +kernel
theorem dX4_back_29 : decode cX4_back 29 = .ok (.lload_n 2, 1) := by decide +kernel
theorem dX4_back_30 : decode cX4_back 30 = .ok (.invokestatic 56, 3) := by decide +kernel
theorem dX4_back_33 : decode cX4_back 33 = .ok (.istore 4, 2) := by decide +kernel
theorem dX4_back_35 : decode cX4_back 35 = .ok (.lload_n 2, 1) := by decide +kernel
theorem dX4_back_36 : decode cX4_back 36 = .ok (.invokestatic 60, 3) := by decide +kernel
theorem dX4_back_39 : decode cX4_back 39 = .ok (.istore 5, 2) := by decide +kernel
theorem dX4_back_41 : decode cX4_back 41 = .ok (.aload_n 0, 1) := by decide +kernel
theorem dX4_back_42 : decode cX4_back 42 = .ok (.getfield 12, 3) := by decide +kernel
theorem dX4_back_45 : decode cX4_back 45 = .ok (.iload 4, 2) := by decide +kernel
theorem dX4_back_47 : decode cX4_back 47 = .ok (.iload 5, 2) := by decide +kernel
theorem dX4_back_49 : decode cX4_back 49 = .ok (.invokevirtual 63, 3) := by decide +kernel
theorem dX4_back_52 : decode cX4_back 52 = .ok (.ifCond .ne 6, 3) := by decide +kernel
theorem dX4_back_55 : decode cX4_back 55 = .ok (.bipush (-2), 2) := by decide +kernel
theorem dX4_back_57 : decode cX4_back 57 = .ok (.ireturn, 1) := by decide +kernel
theorem dX4_back_58 : decode cX4_back 58 = .ok (.aload_n 0, 1) := by decide +kernel
theorem dX4_back_59 : decode cX4_back 59 = .ok (.getfield 19, 3) := by decide +kernel
theorem dX4_back_62 : decode cX4_back 62 = .ok (.aload_n 0, 1) := by decide +kernel
theorem dX4_back_63 : decode cX4_back 63 = .ok (.getfield 12, 3) := by decide +kernel
theorem dX4_back_66 : decode cX4_back 66 = .ok (.invokevirtual 35, 3) := by decide +kernel
theorem dX4_back_69 : decode cX4_back 69 = .ok (.aload_n 0, 1) := by decide +kernel
theorem dX4_back_70 : decode cX4_back 70 = .ok (.getfield 12, 3) := by decide +kernel
theorem dX4_back_73 : decode cX4_back 73 = .ok (.iload 4, 2) := by decide +kernel
theorem dX4_back_75 : decode cX4_back 75 = .ok (.iload 5, 2) := by decide +kernel
theorem dX4_back_77 : decode cX4_back 77 = .ok (.invokevirtual 67, 3) := by decide +kernel
theorem dX4_back_80 : decode cX4_back 80 = .ok (.iload 5, 2) := by decide +kernel
theorem dX4_back_82 : decode cX4_back 82 = .ok (.iload 4, 2) := by decide +kernel
theorem dX4_back_84 : decode cX4_back 84 = .ok (.isub, 1) := by decide +kernel
theorem dX4_back_85 : decode cX4_back 85 = .ok (.ireturn, 1) := by decide +kernel
set_option maxRecDepth 20000 in
theorem ggX4_number_X4_isRegister : GoodIn wsX4_number wsX4_isRegister := goodIn_r _ [7] (by decide +kernel) (by decide +kernel)
set_option maxRecDepth 20000 in
theorem gX4_number_X4_isRegister : GoodIn wsX4_number (va_wsS RX4 27 yX4_isRegister wsX4_isRegister) := goodIn_app (goodIn_of _ (by decide +kernel)) ggX4_number_X4_isRegister
set_option maxRecDepth 20000 in
theorem ggX4_number_X1_keep : GoodIn wsX4_number wsX1_keep := goodIn_r _ [12, 13, 14, 15, 16, 17, 18, 19, 20, 21, 22, 23, 24, 25, 26, 27, 28, 29, 30, 31, 32, 33, 34, 35, 36, 37, 38, 39, 40, 41, 42, 43, 44, 45, 64, 65, 66, 54, 55, 56, 57, 58, 59, 60, 61, 62, 63, 67] (by decide +kernel) (by decide +kernel)
set_option maxRecDepth 20000 in
theorem gX4_number_X1_keep : GoodIn wsX4_number (wsV RX4 35 RX1 yX1_keep wsX1_keep) := goodIn_app (goodIn_of _ (by decide +kernel)) ggX4_number_X1_keep
set_option maxRecDepth 20000 in
theorem ggX4_number_X3_ofNumber : GoodIn wsX4_number wsX3_ofNumber := goodIn_r _ [49, 50] (by decide +kernel) (by decide +kernel)
set_option maxRecDepth 20000 in
theorem gX4_number_X3_ofNumber : GoodIn wsX4_number (va_wsS RX4 70 yX3_ofNumber wsX3_ofNumber) := goodIn_app (goodIn_of _ (by decide +kernel)) ggX4_number_X3_ofNumber
theorem dX4_number_0 : decode cX4_number 0 = .ok (.iload_n 1, 1) := by decide +kernel
theorem dX4_number_1 : decode cX4_number 1 = .ok (.invokestatic 27, 3) := by decide +kernel
theorem dX4_number_4 : decode cX4_number 4 = .ok (.ifCond .ne 5, 3) := by decide +kernel
theorem dX4_number_7 : decode cX4_number 7 = .ok (.iconst (-1), 1) := by decide +kernel
theorem dX4_number_8 : decode cX4_number 8 = .ok (.ireturn, 1) := by decide +kernel
theorem dX4_number_9 : decode cX4_number 9 = .ok (.aload_n 0, 1) := by decide +kernel
theorem dX4_number_10 : decode cX4_number 10 = .ok (.getfield 19, 3) := by decide +kernel
theorem dX4_number_13 : decode cX4_number 13 = .ok (.aload_n 0, 1) := by decide +kernel
theorem dX4_number_14 : decode cX4_number 14 = .ok (.getfield 12, 3) := by decide +kernel
theorem dX4_number_17 : decode cX4_number 17 = .ok (.invokevirtual 35, 3) := by decide +kernel
theorem dX4_number_20 : decode cX4_number 20 = .ok (.aload_n 0, 1) := by decide +kernel
theorem dX4_number_21 : decode cX4_number 21 = .ok (.getfield 12, 3) := by decide +kernel
theorem dX4_number_24 : decode cX4_number 24 = .ok (.getfield 43, 3) := by decide +kernel
theorem dX4_number_27 : decode cX4_number 27 = .ok (.iload_n 1, 1) := by decide +kernel
theorem dX4_number_28 : decode cX4_number 28 = .ok (.iload_n 2, 1) := by decide +kernel
theorem dX4_number_29 : decode cX4_number 29 = .ok (.invokestatic 70, 3) := by decide +kernel
theorem dX4_number_32 : decode cX4_number 32 = .ok (.lastore, 1) := by decide +kernel
theorem dX4_number_33 : decode cX4_number 33 = .ok (.iconst 0, 1) := by decide +kernel
theorem dX4_number_34 : decode cX4_number 34 = .ok (.ireturn, 1) := by decide +kernel
set_option maxRecDepth 20000 in
theorem ggX4_copy_X4_isRegister : GoodIn wsX4_copy wsX4_isRegister := goodIn_r _ [7] (by decide +kernel) (by decide +kernel)
set_option maxRecDepth 20000 in
theorem gX4_copy_X4_isRegister : GoodIn wsX4_copy (va_wsS RX4 27 yX4_isRegister wsX4_isRegister) := goodIn_app (goodIn_of _ (by decide +kernel)) ggX4_copy_X4_isRegister
set_option maxRecDepth 20000 in
theorem ggX4_copy_X1_keep : GoodIn wsX4_copy wsX1_keep := goodIn_r _ [12, 13, 14, 15, 16, 17, 18, 19, 20, 21, 22, 23, 24, 25, 26, 27, 28, 29, 30, 31, 32, 33, 34, 35, 36, 37, 38, 39, 40, 41, 42, 43, 44, 45, 59, 60, 61, 49, 50, 51, 52, 53, 54, 55, 56, 57, 58, 62] (by decide +kernel) (by decide +kernel)
set_option maxRecDepth 20000 in
theorem gX4_copy_X1_keep : GoodIn wsX4_copy (wsV RX4 35 RX1 yX1_keep wsX1_keep) := goodIn_app (goodIn_of _ (by decide +kernel)) ggX4_copy_X1_keep
theorem dX4_copy_0 : decode cX4_copy 0 = .ok (.iload_n 1, 1) := by decide +kernel
theorem dX4_copy_1 : decode cX4_copy 1 = .ok (.invokestatic 27, 3) := by decide +kernel
theorem dX4_copy_4 : decode cX4_copy 4 = .ok (.ifCond .eq 10, 3) := by decide +kernel
theorem dX4_copy_7 : decode cX4_copy 7 = .ok (.iload_n 2, 1) := by decide +kernel
theorem dX4_copy_8 : decode cX4_copy 8 = .ok (.invokestatic 27, 3) := by decide +kernel
theorem dX4_copy_11 : decode cX4_copy 11 = .ok (.ifCond .ne 5, 3) := by decide +kernel
theorem dX4_copy_14 : decode cX4_copy 14 = .ok (.iconst (-1), 1) := by decide +kernel
theorem dX4_copy_15 : decode cX4_copy 15 = .ok (.ireturn, 1) := by decide +kernel
theorem dX4_copy_16 : decode cX4_copy 16 = .ok (.aload_n 0, 1) := by decide +kernel
theorem dX4_copy_17 : decode cX4_copy 17 = .ok (.getfield 19, 3) := by decide +kernel
theorem dX4_copy_20 : decode cX4_copy 20 = .ok (.aload_n 0, 1) := by decide +kernel
theorem dX4_copy_21 : decode cX4_copy 21 = .ok (.getfield 12, 3) := by decide +kernel
theorem dX4_copy_24 : decode cX4_copy 24 = .ok (.invokevirtual 35, 3) := by decide +kernel
theorem dX4_copy_27 : decode cX4_copy 27 = .ok (.aload_n 0, 1) := by decide +kernel
theorem dX4_copy_28 : decode cX4_copy 28 = .ok (.getfield 12, 3) := by decide +kernel
theorem dX4_copy_31 : decode cX4_copy 31 = .ok (.getfield 43, 3) := by decide +kernel
theorem dX4_copy_34 : decode cX4_copy 34 = .ok (.iload_n 1, 1) := by decide +kernel
theorem dX4_copy_35 : decode cX4_copy 35 = .ok (.aload_n 0, 1) := by decide +kernel
theorem dX4_copy_36 : decode cX4_copy 36 = .ok (.getfield 12, 3) := by decide +kernel
theorem dX4_copy_39 : decode cX4_copy 39 = .ok (.getfield 43, 3) := by decide +kernel
theorem dX4_copy_42 : decode cX4_copy 42 = .ok (.iload_n 2, 1) := by decide +kernel
theorem dX4_copy_43 : decode cX4_copy 43 = .ok (.laload, 1) := by decide +kernel
theorem dX4_copy_44 : decode cX4_copy 44 = .ok (.lastore, 1) := by decide +kernel
theorem dX4_copy_45 : decode cX4_copy 45 = .ok (.iconst 0, 1) := by decide +kernel
theorem dX4_copy_46 : decode cX4_copy 46 = .ok (.ireturn, 1) := by decide +kernel
set_option maxRecDepth 20000 in
theorem ggX4_move_X4_isRegister : GoodIn wsX4_move wsX4_isRegister := goodIn_r _ [9] (by decide +kernel) (by decide +kernel)
set_option maxRecDepth 20000 in
theorem gX4_move_X4_isRegister : GoodIn wsX4_move (va_wsS RX4 27 yX4_isRegister wsX4_isRegister) := goodIn_app (goodIn_of _ (by decide +kernel)) ggX4_move_X4_isRegister
set_option maxRecDepth 20000 in
theorem ggX4_move_X3_isPointer : GoodIn wsX4_move wsX3_isPointer := goodIn_r _ [13] (by decide +kernel) (by decide +kernel)
set_option maxRecDepth 20000 in
theorem gX4_move_X3_isPointer : GoodIn wsX4_move (va_wsS RX4 52 yX3_isPointer wsX3_isPointer) := goodIn_app (goodIn_of _ (by decide +kernel)) ggX4_move_X3_isPointer
set_option maxRecDepth 20000 in
theorem ggX4_move_X1_keep : GoodIn wsX4_move wsX1_keep := goodIn_r _ [18, 19, 20, 21, 22, 23, 24, 25, 26, 27, 28, 29, 30, 31, 32, 33, 34, 35, 36, 37, 38, 39, 40, 41, 42, 43, 44, 45, 46, 47, 48, 49, 50, 51, 85, 86, 87, 75, 76, 77, 78, 79, 80, 81, 82, 83, 84, 88] (by decide +kernel) (by decide +kernel)
set_option maxRecDepth 20000 in
theorem gX4_move_X1_keep : GoodIn wsX4_move (wsV RX4 35 RX1 yX1_keep wsX1_keep) := goodIn_app (goodIn_of _ (by decide +kernel)) ggX4_move_X1_keep
set_option maxRecDepth 20000 in
theorem ggX4_move_X3_at : GoodIn wsX4_move wsX3_at := goodIn_r _ [54] (by decide +kernel) (by decide +kernel)
set_option maxRecDepth 20000 in
theorem gX4_move_X3_at : GoodIn wsX4_move (va_wsS RX4 76 yX3_at wsX3_at) := goodIn_app (goodIn_of _ (by decide +kernel)) ggX4_move_X3_at
set_option maxRecDepth 20000 in
theorem ggX4_move_X3_from : GoodIn wsX4_move wsX3_from := goodIn_r _ [57] (by decide +kernel) (by decide +kernel)
set_option maxRecDepth 20000 in
theorem gX4_move_X3_from : GoodIn wsX4_move (va_wsS RX4 56 yX3_from wsX3_from) := goodIn_app (goodIn_of _ (by decide +kernel)) ggX4_move_X3_from
set_option maxRecDepth 20000 in
theorem ggX4_move_X3_to : GoodIn wsX4_move wsX3_to := goodIn_r _ [60] (by decide +kernel) (by decide +kernel)
set_option maxRecDepth 20000 in
theorem gX4_move_X3_to : GoodIn wsX4_move (va_wsS RX4 60 yX3_to wsX3_to) := goodIn_app (goodIn_of _ (by decide +kernel)) ggX4_move_X3_to
set_option maxRecDepth 20000 in
theorem ggX4_move_X3_rights : GoodIn wsX4_move wsX3_rights := goodIn_r _ [63] (by decide +kernel) (by decide +kernel)
set_option maxRecDepth 20000 in
theorem gX4_move_X3_rights : GoodIn wsX4_move (va_wsS RX4 79 yX3_rights wsX3_rights) := goodIn_app (goodIn_of _ (by decide +kernel)) ggX4_move_X3_rights
set_option maxRecDepth 20000 in
theorem ggX4_move_X3_ofPointer : GoodIn wsX4_move wsX3_ofPointer := goodIn_r _ [66, 67, 68, 69, 12, 70, 71] (by decide +kernel) (by decide +kernel)
set_option maxRecDepth 20000 in
theorem gX4_move_X3_ofPointer : GoodIn wsX4_move (va_wsS RX4 46 yX3_ofPointer wsX3_ofPointer) := goodIn_app (goodIn_of _ (by decide +kernel)) ggX4_move_X3_ofPointer
theorem dX4_move_0 : decode cX4_move 0 = .ok (.iload_n 1, 1) := by decide +kernel
theorem dX4_move_1 : decode cX4_move 1 = .ok (.invokestatic 27, 3) := by decide +kernel
theorem dX4_move_4 : decode cX4_move 4 = .ok (.ifCond .ne 6, 3) := by decide +kernel
theorem dX4_move_7 : decode cX4_move 7 = .ok (.ldc 74, 2) := by decide +kernel
theorem dX4_move_9 : decode cX4_move 9 = .ok (.ireturn, 1) := by decide +kernel
theorem dX4_move_10 : decode cX4_move 10 = .ok (.aload_n 0, 1) := by decide +kernel
theorem dX4_move_11 : decode cX4_move 11 = .ok (.getfield 12, 3) := by decide +kernel
theorem dX4_move_14 : decode cX4_move 14 = .ok (.getfield 43, 3) := by decide +kernel
theorem dX4_move_17 : decode cX4_move 17 = .ok (.iload_n 1, 1) := by decide +kernel
theorem dX4_move_18 : decode cX4_move 18 = .ok (.laload, 1) := by decide +kernel
theorem dX4_move_19 : decode cX4_move 19 = .ok (.lstore_n 3, 1) := by decide +kernel
theorem dX4_move_20 : decode cX4_move 20 = .ok (.lload_n 3, 1) := by decide +kernel
theorem dX4_move_21 : decode cX4_move 21 = .ok (.invokestatic 52, 3) := by decide +kernel
theorem dX4_move_24 : decode cX4_move 24 = .ok (.ifCond .ne 6, 3) := by decide +kernel
theorem dX4_move_27 : decode cX4_move 27 = .ok (.ldc 75, 2) := by decide +kernel
theorem dX4_move_29 : decode cX4_move 29 = .ok (.ireturn, 1) := by decide +kernel
theorem dX4_move_30 : decode cX4_move 30 = .ok (.aload_n 0, 1) := by decide +kernel
theorem dX4_move_31 : decode cX4_move 31 = .ok (.getfield 19, 3) := by decide +kernel
theorem dX4_move_34 : decode cX4_move 34 = .ok (.aload_n 0, 1) := by decide +kernel
theorem dX4_move_35 : decode cX4_move 35 = .ok (.getfield 12, 3) := by decide +kernel
theorem dX4_move_38 : decode cX4_move 38 = .ok (.invokevirtual 35, 3) := by decide +kernel
theorem dX4_move_41 : decode cX4_move 41 = .ok (.lload_n 3, 1) := by decide +kernel
theorem dX4_move_42 : decode cX4_move 42 = .ok (.invokestatic 76, 3) := by decide +kernel
theorem dX4_move_45 : decode cX4_move 45 = .ok (.iload_n 2, 1) := by decide +kernel
theorem dX4_move_46 : decode cX4_move 46 = .ok (.iadd, 1) := by decide +kernel
theorem dX4_move_47 : decode cX4_move 47 = .ok (.istore 5, 2) := by decide +kernel
theorem dX4_move_49 : decode cX4_move 49 = .ok (.aload_n 0, 1) := by decide +kernel
theorem dX4_move_50 : decode cX4_move 50 = .ok (.getfield 12, 3) := by decide +kernel
theorem dX4_move_53 : decode cX4_move 53 = .ok (.getfield 43, 3) := by decide +kernel
theorem dX4_move_56 : decode cX4_move 56 = .ok (.iload_n 1, 1) := by decide +kernel
theorem dX4_move_57 : decode cX4_move 57 = .ok (.lload_n 3, 1) := by decide +kernel
theorem dX4_move_58 : decode cX4_move 58 = .ok (.invokestatic 56, 3) := by decide +kernel
theorem dX4_move_61 : decode cX4_move 61 = .ok (.lload_n 3, 1) := by decide +kernel
theorem dX4_move_62 : decode cX4_move 62 = .ok (.invokestatic 60, 3) := by decide +kernel
theorem dX4_move_65 : decode cX4_move 65 = .ok (.iload 5, 2) := by decide +kernel
theorem dX4_move_67 : decode cX4_move 67 = .ok (.lload_n 3, 1) := by decide +kernel
theorem dX4_move_68 : decode cX4_move 68 = .ok (.invokestatic 79, 3) := by decide +kernel
theorem dX4_move_71 : decode cX4_move 71 = .ok (.invokestatic 46, 3) := by decide +kernel
theorem dX4_move_74 : decode cX4_move 74 = .ok (.lastore, 1) := by decide +kernel
theorem dX4_move_75 : decode cX4_move 75 = .ok (.iload 5, 2) := by decide +kernel
theorem dX4_move_77 : decode cX4_move 77 = .ok (.ireturn, 1) := by decide +kernel
set_option maxRecDepth 20000 in
theorem ggX4_narrow_X4_isRegister : GoodIn wsX4_narrow wsX4_isRegister := goodIn_r _ [7] (by decide +kernel) (by decide +kernel)
set_option maxRecDepth 20000 in
theorem gX4_narrow_X4_isRegister : GoodIn wsX4_narrow (va_wsS RX4 27 yX4_isRegister wsX4_isRegister) := goodIn_app (goodIn_of _ (by decide +kernel)) ggX4_narrow_X4_isRegister
set_option maxRecDepth 20000 in
theorem ggX4_narrow_X3_isPointer : GoodIn wsX4_narrow wsX3_isPointer := goodIn_r _ [11] (by decide +kernel) (by decide +kernel)
set_option maxRecDepth 20000 in
theorem gX4_narrow_X3_isPointer : GoodIn wsX4_narrow (va_wsS RX4 52 yX3_isPointer wsX3_isPointer) := goodIn_app (goodIn_of _ (by decide +kernel)) ggX4_narrow_X3_isPointer
set_option maxRecDepth 20000 in
theorem ggX4_narrow_X3_covers : GoodIn wsX4_narrow wsX3_covers := goodIn_r _ [14, 15, 16, 10, 17, 18, 19, 20, 21, 22, 23] (by decide +kernel) (by decide +kernel)
set_option maxRecDepth 20000 in
theorem gX4_narrow_X3_covers : GoodIn wsX4_narrow (va_wsS RX4 82 yX3_covers wsX3_covers) := goodIn_app (goodIn_of _ (by decide +kernel)) ggX4_narrow_X3_covers
set_option maxRecDepth 20000 in
theorem ggX4_narrow_X1_keep : GoodIn wsX4_narrow wsX1_keep := goodIn_r _ [28, 29, 30, 31, 32, 33, 34, 35, 36, 37, 38, 39, 40, 41, 42, 43, 44, 45, 46, 47, 48, 49, 50, 51, 52, 53, 54, 55, 56, 57, 58, 59, 60, 61, 87, 88, 89, 77, 78, 79, 80, 81, 82, 83, 84, 85, 86, 90] (by decide +kernel) (by decide +kernel)
set_option maxRecDepth 20000 in
theorem gX4_narrow_X1_keep : GoodIn wsX4_narrow (wsV RX4 35 RX1 yX1_keep wsX1_keep) := goodIn_app (goodIn_of _ (by decide +kernel)) ggX4_narrow_X1_keep
set_option maxRecDepth 20000 in
theorem ggX4_narrow_X3_at : GoodIn wsX4_narrow wsX3_at := goodIn_r _ [17] (by decide +kernel) (by decide +kernel)
set_option maxRecDepth 20000 in
theorem gX4_narrow_X3_at : GoodIn wsX4_narrow (va_wsS RX4 76 yX3_at wsX3_at) := goodIn_app (goodIn_of _ (by decide +kernel)) ggX4_narrow_X3_at
set_option maxRecDepth 20000 in
theorem ggX4_narrow_X3_rights : GoodIn wsX4_narrow wsX3_rights := goodIn_r _ [65] (by decide +kernel) (by decide +kernel)
set_option maxRecDepth 20000 in
theorem gX4_narrow_X3_rights : GoodIn wsX4_narrow (va_wsS RX4 79 yX3_rights wsX3_rights) := goodIn_app (goodIn_of _ (by decide +kernel)) ggX4_narrow_X3_rights
set_option maxRecDepth 20000 in
theorem ggX4_narrow_X3_ofPointer : GoodIn wsX4_narrow wsX3_ofPointer := goodIn_r _ [68, 69, 70, 71, 10, 72, 73] (by decide +kernel) (by decide +kernel)
set_option maxRecDepth 20000 in
theorem gX4_narrow_X3_ofPointer : GoodIn wsX4_narrow (va_wsS RX4 46 yX3_ofPointer wsX3_ofPointer) := goodIn_app (goodIn_of _ (by decide +kernel)) ggX4_narrow_X3_ofPointer
theorem dX4_narrow_0 : decode cX4_narrow 0 = .ok (.iload_n 1, 1) := by decide +kernel
theorem dX4_narrow_1 : decode cX4_narrow 1 = .ok (.invokestatic 27, 3) := by decide +kernel
theorem dX4_narrow_4 : decode cX4_narrow 4 = .ok (.ifCond .eq 26, 3) := by decide +kernel
theorem dX4_narrow_7 : decode cX4_narrow 7 = .ok (.iload_n 2, 1) := by decide +kernel
theorem dX4_narrow_8 : decode cX4_narrow 8 = .ok (.invokestatic 27, 3) := by decide +kernel
theorem dX4_narrow_11 : decode cX4_narrow 11 = .ok (.ifCond .eq 19, 3) := by decide +kernel
theorem dX4_narrow_14 : decode cX4_narrow 14 = .ok (.iload_n 3, 1) := by decide +kernel
theorem dX4_narrow_15 : decode cX4_narrow 15 = .ok (.iconst 1, 1) := by decide +kernel
theorem dX4_narrow_16 : decode cX4_narrow 16 = .ok (.if_icmp .lt 14, 3) := by decide +kernel
theorem dX4_narrow_19 : decode cX4_narrow 19 = .ok (.iload 4, 2) := by decide +kernel
theorem dX4_narrow_21 : decode cX4_narrow 21 = .ok (.ifCond .lt 9, 3) := by decide +kernel
theorem dX4_narrow_24 : decode cX4_narrow 24 = .ok (.iload 4, 2) := by decide +kernel
theorem dX4_narrow_26 : decode cX4_narrow 26 = .ok (.iconst 3, 1) := by decide +kernel
theorem dX4_narrow_27 : decode cX4_narrow 27 = .ok (.if_icmp .le 5, 3) := by decide +kernel
theorem dX4_narrow_30 : decode cX4_narrow 30 = .ok (.iconst (-1), 1) := by decide +kernel
theorem dX4_narrow_31 : decode cX4_narrow 31 = .ok (.ireturn, 1) := by decide +kernel
theorem dX4_narrow_32 : decode cX4_narrow 32 = .ok (.aload_n 0, 1) := by decide +kernel
theorem dX4_narrow_33 : decode cX4_narrow 33 = .ok (.getfield 12, 3) := by decide +kernel
theorem dX4_narrow_36 : decode cX4_narrow 36 = .ok (.getfield 43, 3) := by decide +kernel
theorem dX4_narrow_39 : decode cX4_narrow 39 = .ok (.iload_n 2, 1) := by decide +kernel
theorem dX4_narrow_40 : decode cX4_narrow 40 = .ok (.laload, 1) := by decide +kernel
theorem dX4_narrow_41 : decode cX4_narrow 41 = .ok (.lstore 5, 2) := by decide +kernel
theorem dX4_narrow_43 : decode cX4_narrow 43 = .ok (.lload 5, 2) := by decide +kernel
theorem dX4_narrow_45 : decode cX4_narrow 45 = .ok (.invokestatic 52, 3) := by decide +kernel
theorem dX4_narrow_48 : decode cX4_narrow 48 = .ok (.ifCond .ne 6, 3) := by decide +kernel
theorem dX4_narrow_51 : decode cX4_narrow 51 = .ok (.bipush (-11), 2) := by decide +kernel
theorem dX4_narrow_53 : decode cX4_narrow 53 = .ok (.ireturn, 1) := by decide +kernel
theorem dX4_narrow_54 : decode cX4_narrow 54 = .ok (.lload 5, 2) := by decide +kernel
theorem dX4_narrow_56 : decode cX4_narrow 56 = .ok (.iconst 0, 1) := by decide +kernel
theorem dX4_narrow_57 : decode cX4_narrow 57 = .ok (.iload_n 3, 1) := by decide +kernel
theorem dX4_narrow_58 : decode cX4_narrow 58 = .ok (.invokestatic 82, 3) := by decide +kernel
theorem dX4_narrow_61 : decode cX4_narrow 61 = .ok (.ifCond .ne 6, 3) := by decide +kernel
theorem dX4_narrow_64 : decode cX4_narrow 64 = .ok (.bipush (-13), 2) := by decide +kernel
theorem dX4_narrow_66 : decode cX4_narrow 66 = .ok (.ireturn, 1) := by decide +kernel
theorem dX4_narrow_67 : decode cX4_narrow 67 = .ok (.aload_n 0, 1) := by decide +kernel
theorem dX4_narrow_68 : decode cX4_narrow 68 = .ok (.getfield 19, 3) := by decide +kernel
theorem dX4_narrow_71 : decode cX4_narrow 71 = .ok (.aload_n 0, 1) := by decide +kernel
theorem dX4_narrow_72 : decode cX4_narrow 72 = .ok (.getfield 12, 3) := by decide +kernel
theorem dX4_narrow_75 : decode cX4_narrow 75 = .ok (.invokevirtual 35, 3) := by decide +kernel
theorem dX4_narrow_78 : decode cX4_narrow 78 = .ok (.lload 5, 2) := by decide +kernel
theorem dX4_narrow_80 : decode cX4_narrow 80 = .ok (.invokestatic 76, 3) := by decide +kernel
theorem dX4_narrow_83 : decode cX4_narrow 83 = .ok (.istore 7, 2) := by decide +kernel
theorem dX4_narrow_85 : decode cX4_narrow 85 = .ok (.aload_n 0, 1) := by decide +kernel
theorem dX4_narrow_86 : decode cX4_narrow 86 = .ok (.getfield 12, 3) := by decide +kernel
theorem dX4_narrow_89 : decode cX4_narrow 89 = .ok (.getfield 43, 3) := by decide +kernel
theorem dX4_narrow_92 : decode cX4_narrow 92 = .ok (.iload_n 1, 1) := by decide +kernel
theorem dX4_narrow_93 : decode cX4_narrow 93 = .ok (.iload 7, 2) := by decide +kernel
theorem dX4_narrow_95 : decode cX4_narrow 95 = .ok (.iload 7, 2) := by decide +kernel
theorem dX4_narrow_97 : decode cX4_narrow 97 = .ok (.iload_n 3, 1) := by decide +kernel
theorem dX4_narrow_98 : decode cX4_narrow 98 = .ok (.iadd, 1) := by decide +kernel
theorem dX4_narrow_99 : decode cX4_narrow 99 = .ok (.iload 7, 2) := by decide +kernel
theorem dX4_narrow_101 : decode cX4_narrow 101 = .ok (.lload 5, 2) := by decide +kernel
theorem dX4_narrow_103 : decode cX4_narrow 103 = .ok (.invokestatic 79, 3) := by decide +kernel
theorem dX4_narrow_106 : decode cX4_narrow 106 = .ok (.iload 4, 2) := by decide +kernel
theorem dX4_narrow_108 : decode cX4_narrow 108 = .ok (.iand, 1) := by decide +kernel
theorem dX4_narrow_109 : decode cX4_narrow 109 = .ok (.invokestatic 46, 3) := by decide +kernel
theorem dX4_narrow_112 : decode cX4_narrow 112 = .ok (.lastore, 1) := by decide +kernel
theorem dX4_narrow_113 : decode cX4_narrow 113 = .ok (.iload 7, 2) := by decide +kernel
theorem dX4_narrow_115 : decode cX4_narrow 115 = .ok (.ireturn, 1) := by decide +kernel
set_option maxRecDepth 20000 in
theorem ggX4_look_X4_isRegister : GoodIn wsX4_look wsX4_isRegister := goodIn_r _ [7] (by decide +kernel) (by decide +kernel)
set_option maxRecDepth 20000 in
theorem gX4_look_X4_isRegister : GoodIn wsX4_look (va_wsS RX4 27 yX4_isRegister wsX4_isRegister) := goodIn_app (goodIn_of _ (by decide +kernel)) ggX4_look_X4_isRegister
set_option maxRecDepth 20000 in
theorem ggX4_look_X4_faultOf : GoodIn wsX4_look wsX4_faultOf := goodIn_r _ [10, 11, 12, 13, 14, 15, 16, 17, 18, 19, 20, 21, 22, 23, 24, 25, 26, 27, 28, 29] (by decide +kernel) (by decide +kernel)
set_option maxRecDepth 20000 in
theorem gX4_look_X4_faultOf : GoodIn wsX4_look (va_wsS RX4 86 yX4_faultOf wsX4_faultOf) := goodIn_app (goodIn_of _ (by decide +kernel)) ggX4_look_X4_faultOf
set_option maxRecDepth 20000 in
theorem ggX4_look_X1_keep : GoodIn wsX4_look wsX1_keep := goodIn_r _ [34, 35, 36, 37, 38, 39, 40, 41, 42, 43, 44, 45, 46, 47, 48, 49, 50, 51, 52, 53, 54, 55, 56, 57, 58, 59, 60, 61, 62, 63, 64, 65, 66, 67, 116, 117, 118, 106, 107, 108, 109, 110, 111, 112, 113, 114, 115, 119] (by decide +kernel) (by decide +kernel)
set_option maxRecDepth 20000 in
theorem gX4_look_X1_keep : GoodIn wsX4_look (wsV RX4 35 RX1 yX1_keep wsX1_keep) := goodIn_app (goodIn_of _ (by decide +kernel)) ggX4_look_X1_keep
set_option maxRecDepth 20000 in
theorem ggX4_look_X3_at : GoodIn wsX4_look wsX3_at := goodIn_r _ [23] (by decide +kernel) (by decide +kernel)
set_option maxRecDepth 20000 in
theorem gX4_look_X3_at : GoodIn wsX4_look (va_wsS RX4 76 yX3_at wsX3_at) := goodIn_app (goodIn_of _ (by decide +kernel)) ggX4_look_X3_at
set_option maxRecDepth 20000 in
theorem ggX4_look_X2_lookUp : GoodIn wsX4_look wsX2_lookUp := goodIn_r _ [72, 47, 53, 73, 74, 75, 45, 76, 56, 77, 12, 13, 14, 78, 25, 26, 79, 28, 29, 80, 81, 82, 64, 83, 66, 84, 85, 86, 87, 88, 89, 90, 91, 92, 93, 94, 95, 22, 23, 96, 97, 98, 99, 106, 107, 108, 109, 110, 111, 112, 113, 114, 115, 119] (by decide +kernel) (by decide +kernel)
set_option maxRecDepth 20000 in
theorem gX4_look_X2_lookUp : GoodIn wsX4_look (wsV RX4 90 RX2 yX2_lookUp wsX2_lookUp) := goodIn_app (goodIn_of _ (by decide +kernel)) ggX4_look_X2_lookUp
set_option maxRecDepth 20000 in
theorem ggX4_look_X3_isPointer : GoodIn wsX4_look wsX3_isPointer := goodIn_r _ [14] (by decide +kernel) (by decide +kernel)
set_option maxRecDepth 20000 in
theorem gX4_look_X3_isPointer : GoodIn wsX4_look (va_wsS RX4 52 yX3_isPointer wsX3_isPointer) := goodIn_app (goodIn_of _ (by decide +kernel)) ggX4_look_X3_isPointer
set_option maxRecDepth 20000 in
theorem ggX4_look_X4_oneIf : GoodIn wsX4_look wsX4_oneIf := goodIn_r _ [102] (by decide +kernel) (by decide +kernel)
set_option maxRecDepth 20000 in
theorem gX4_look_X4_oneIf : GoodIn wsX4_look (va_wsS RX4 93 yX4_oneIf wsX4_oneIf) := goodIn_app (goodIn_of _ (by decide +kernel)) ggX4_look_X4_oneIf
theorem dX4_look_0 : decode cX4_look 0 = .ok (.iload_n 1, 1) := by decide +kernel
theorem dX4_look_1 : decode cX4_look 1 = .ok (.invokestatic 27, 3) := by decide +kernel
theorem dX4_look_4 : decode cX4_look 4 = .ok (.ifCond .eq 10, 3) := by decide +kernel
theorem dX4_look_7 : decode cX4_look 7 = .ok (.iload_n 2, 1) := by decide +kernel
theorem dX4_look_8 : decode cX4_look 8 = .ok (.invokestatic 27, 3) := by decide +kernel
theorem dX4_look_11 : decode cX4_look 11 = .ok (.ifCond .ne 5, 3) := by decide +kernel
theorem dX4_look_14 : decode cX4_look 14 = .ok (.iconst (-1), 1) := by decide +kernel
theorem dX4_look_15 : decode cX4_look 15 = .ok (.ireturn, 1) := by decide +kernel
theorem dX4_look_16 : decode cX4_look 16 = .ok (.aload_n 0, 1) := by decide +kernel
theorem dX4_look_17 : decode cX4_look 17 = .ok (.getfield 12, 3) := by decide +kernel
theorem dX4_look_20 : decode cX4_look 20 = .ok (.getfield 43, 3) := by decide +kernel
theorem dX4_look_23 : decode cX4_look 23 = .ok (.iload_n 2, 1) := by decide +kernel
theorem dX4_look_24 : decode cX4_look 24 = .ok (.laload, 1) := by decide +kernel
theorem dX4_look_25 : decode cX4_look 25 = .ok (.lstore 4, 2) := by decide +kernel
theorem dX4_look_27 : decode cX4_look 27 = .ok (.lload 4, 2) := by decide +kernel
theorem dX4_look_29 : decode cX4_look 29 = .ok (.iconst 1, 1) := by decide +kernel
theorem dX4_look_30 : decode cX4_look 30 = .ok (.iload_n 3, 1) := by decide +kernel
theorem dX4_look_31 : decode cX4_look 31 = .ok (.iconst 1, 1) := by decide +kernel
theorem dX4_look_32 : decode cX4_look 32 = .ok (.invokestatic 86, 3) := by decide +kernel
theorem dX4_look_35 : decode cX4_look 35 = .ok (.istore 6, 2) := by decide +kernel
theorem dX4_look_37 : decode cX4_look 37 = .ok (.iload 6, 2) := by decide +kernel
theorem dX4_look_39 : decode cX4_look 39 = .ok (.ifCond .eq 6, 3) := by decide +kernel
theorem dX4_look_42 : decode cX4_look 42 = .ok (.iload 6, 2) := by decide +kernel
theorem dX4_look_44 : decode cX4_look 44 = .ok (.ireturn, 1) := by decide +kernel
theorem dX4_look_45 : decode cX4_look 45 = .ok (.aload_n 0, 1) := by decide +kernel
theorem dX4_look_46 : decode cX4_look 46 = .ok (.getfield 19, 3) := by decide +kernel
theorem dX4_look_49 : decode cX4_look 49 = .ok (.aload_n 0, 1) := by decide +kernel
theorem dX4_look_50 : decode cX4_look 50 = .ok (.getfield 12, 3) := by decide +kernel
theorem dX4_look_53 : decode cX4_look 53 = .ok (.invokevirtual 35, 3) := by decide +kernel
theorem dX4_look_56 : decode cX4_look 56 = .ok (.aload_n 0, 1) := by decide +kernel
theorem dX4_look_57 : decode cX4_look 57 = .ok (.getfield 12, 3) := by decide +kernel
theorem dX4_look_60 : decode cX4_look 60 = .ok (.lload 4, 2) := by decide +kernel
theorem dX4_look_62 : decode cX4_look 62 = .ok (.invokestatic 76, 3) := by decide +kernel
theorem dX4_look_65 : decode cX4_look 65 = .ok (.iload_n 3, 1) := by decide +kernel
theorem dX4_look_66 : decode cX4_look 66 = .ok (.iadd, 1) := by decide +kernel
theorem dX4_look_67 : decode cX4_look 67 = .ok (.invokevirtual 90, 3) := by decide +kernel
theorem dX4_look_70 : decode cX4_look 70 = .ok (.lstore 7, 2) := by decide +kernel
theorem dX4_look_72 : decode cX4_look 72 = .ok (.aload_n 0, 1) := by decide +kernel
theorem dX4_look_73 : decode cX4_look 73 = .ok (.getfield 12, 3) := by decide +kernel
theorem dX4_look_76 : decode cX4_look 76 = .ok (.getfield 43, 3) := by decide +kernel
theorem dX4_look_79 : decode cX4_look 79 = .ok (.iload_n 1, 1) := by decide +kernel
theorem dX4_look_80 : decode cX4_look 80 = .ok (.lload 7, 2) := by decide +kernel
theorem dX4_look_82 : decode cX4_look 82 = .ok (.lastore, 1) := by decide +kernel
theorem dX4_look_83 : decode cX4_look 83 = .ok (.lload 7, 2) := by decide +kernel
theorem dX4_look_85 : decode cX4_look 85 = .ok (.invokestatic 52, 3) := by decide +kernel
theorem dX4_look_88 : decode cX4_look 88 = .ok (.invokestatic 93, 3) := by decide +kernel
theorem dX4_look_91 : decode cX4_look 91 = .ok (.ireturn, 1) := by decide +kernel
set_option maxRecDepth 20000 in
theorem ggX4_lay_X4_isRegister : GoodIn wsX4_lay wsX4_isRegister := goodIn_r _ [7] (by decide +kernel) (by decide +kernel)
set_option maxRecDepth 20000 in
theorem gX4_lay_X4_isRegister : GoodIn wsX4_lay (va_wsS RX4 27 yX4_isRegister wsX4_isRegister) := goodIn_app (goodIn_of _ (by decide +kernel)) ggX4_lay_X4_isRegister
set_option maxRecDepth 20000 in
theorem ggX4_lay_X4_faultOf : GoodIn wsX4_lay wsX4_faultOf := goodIn_r _ [10, 11, 12, 13, 14, 15, 16, 17, 18, 19, 20, 21, 22, 23, 24, 25, 26, 27, 28, 29] (by decide +kernel) (by decide +kernel)
set_option maxRecDepth 20000 in
theorem gX4_lay_X4_faultOf : GoodIn wsX4_lay (va_wsS RX4 86 yX4_faultOf wsX4_faultOf) := goodIn_app (goodIn_of _ (by decide +kernel)) ggX4_lay_X4_faultOf
set_option maxRecDepth 20000 in
theorem ggX4_lay_X1_keep : GoodIn wsX4_lay wsX1_keep := goodIn_r _ [34, 35, 36, 37, 38, 39, 40, 41, 42, 43, 44, 45, 46, 47, 48, 49, 50, 51, 52, 53, 54, 55, 56, 57, 58, 59, 60, 61, 62, 63, 64, 65, 66, 67, 91, 92, 93, 81, 82, 83, 84, 85, 86, 87, 88, 89, 90, 94] (by decide +kernel) (by decide +kernel)
set_option maxRecDepth 20000 in
theorem gX4_lay_X1_keep : GoodIn wsX4_lay (wsV RX4 35 RX1 yX1_keep wsX1_keep) := goodIn_app (goodIn_of _ (by decide +kernel)) ggX4_lay_X1_keep
set_option maxRecDepth 20000 in
theorem ggX4_lay_X3_at : GoodIn wsX4_lay wsX3_at := goodIn_r _ [23] (by decide +kernel) (by decide +kernel)
set_option maxRecDepth 20000 in
theorem gX4_lay_X3_at : GoodIn wsX4_lay (va_wsS RX4 76 yX3_at wsX3_at) := goodIn_app (goodIn_of _ (by decide +kernel)) ggX4_lay_X3_at
set_option maxRecDepth 20000 in
theorem ggX4_lay_X2_layDown : GoodIn wsX4_lay wsX2_layDown := goodIn_r _ [72, 47, 60, 73, 12, 13, 14, 74, 75, 76, 45, 77, 59, 81, 82, 83, 84, 85, 86, 87, 88, 89, 90] (by decide +kernel) (by decide +kernel)
set_option maxRecDepth 20000 in
theorem gX4_lay_X2_layDown : GoodIn wsX4_lay (wsV RX4 97 RX2 yX2_layDown wsX2_layDown) := goodIn_app (goodIn_of _ (by decide +kernel)) ggX4_lay_X2_layDown
theorem dX4_lay_0 : decode cX4_lay 0 = .ok (.iload_n 1, 1) := by decide +kernel
theorem dX4_lay_1 : decode cX4_lay 1 = .ok (.invokestatic 27, 3) := by decide +kernel
theorem dX4_lay_4 : decode cX4_lay 4 = .ok (.ifCond .eq 10, 3) := by decide +kernel
theorem dX4_lay_7 : decode cX4_lay 7 = .ok (.iload_n 3, 1) := by decide +kernel
theorem dX4_lay_8 : decode cX4_lay 8 = .ok (.invokestatic 27, 3) := by decide +kernel
theorem dX4_lay_11 : decode cX4_lay 11 = .ok (.ifCond .ne 5, 3) := by decide +kernel
theorem dX4_lay_14 : decode cX4_lay 14 = .ok (.iconst (-1), 1) := by decide +kernel
theorem dX4_lay_15 : decode cX4_lay 15 = .ok (.ireturn, 1) := by decide +kernel
theorem dX4_lay_16 : decode cX4_lay 16 = .ok (.aload_n 0, 1) := by decide +kernel
theorem dX4_lay_17 : decode cX4_lay 17 = .ok (.getfield 12, 3) := by decide +kernel
theorem dX4_lay_20 : decode cX4_lay 20 = .ok (.getfield 43, 3) := by decide +kernel
theorem dX4_lay_23 : decode cX4_lay 23 = .ok (.iload_n 1, 1) := by decide +kernel
theorem dX4_lay_24 : decode cX4_lay 24 = .ok (.laload, 1) := by decide +kernel
theorem dX4_lay_25 : decode cX4_lay 25 = .ok (.lstore 4, 2) := by decide +kernel
theorem dX4_lay_27 : decode cX4_lay 27 = .ok (.lload 4, 2) := by decide +kernel
theorem dX4_lay_29 : decode cX4_lay 29 = .ok (.iconst 2, 1) := by decide +kernel
theorem dX4_lay_30 : decode cX4_lay 30 = .ok (.iload_n 2, 1) := by decide +kernel
theorem dX4_lay_31 : decode cX4_lay 31 = .ok (.iconst 1, 1) := by decide +kernel
theorem dX4_lay_32 : decode cX4_lay 32 = .ok (.invokestatic 86, 3) := by decide +kernel
theorem dX4_lay_35 : decode cX4_lay 35 = .ok (.istore 6, 2) := by decide +kernel
theorem dX4_lay_37 : decode cX4_lay 37 = .ok (.iload 6, 2) := by decide +kernel
theorem dX4_lay_39 : decode cX4_lay 39 = .ok (.ifCond .eq 6, 3) := by decide +kernel
theorem dX4_lay_42 : decode cX4_lay 42 = .ok (.iload 6, 2) := by decide +kernel
theorem dX4_lay_44 : decode cX4_lay 44 = .ok (.ireturn, 1) := by decide +kernel
theorem dX4_lay_45 : decode cX4_lay 45 = .ok (.aload_n 0, 1) := by decide +kernel
theorem dX4_lay_46 : decode cX4_lay 46 = .ok (.getfield 19, 3) := by decide +kernel
theorem dX4_lay_49 : decode cX4_lay 49 = .ok (.aload_n 0, 1) := by decide +kernel
theorem dX4_lay_50 : decode cX4_lay 50 = .ok (.getfield 12, 3) := by decide +kernel
theorem dX4_lay_53 : decode cX4_lay 53 = .ok (.invokevirtual 35, 3) := by decide +kernel
theorem dX4_lay_56 : decode cX4_lay 56 = .ok (.lload 4, 2) := by decide +kernel
theorem dX4_lay_58 : decode cX4_lay 58 = .ok (.invokestatic 76, 3) := by decide +kernel
theorem dX4_lay_61 : decode cX4_lay 61 = .ok (.iload_n 2, 1) := by decide +kernel
theorem dX4_lay_62 : decode cX4_lay 62 = .ok (.iadd, 1) := by decide +kernel
theorem dX4_lay_63 : decode cX4_lay 63 = .ok (.istore 7, 2) := by decide +kernel
theorem dX4_lay_65 : decode cX4_lay 65 = .ok (.aload_n 0, 1) := by decide +kernel
theorem dX4_lay_66 : decode cX4_lay 66 = .ok (.getfield 12, 3) := by decide +kernel
theorem dX4_lay_69 : decode cX4_lay 69 = .ok (.iload 7, 2) := by decide +kernel
theorem dX4_lay_71 : decode cX4_lay 71 = .ok (.aload_n 0, 1) := by decide +kernel
theorem dX4_lay_72 : decode cX4_lay 72 = .ok (.getfield 12, 3) := by decide +kernel
theorem dX4_lay_75 : decode cX4_lay 75 = .ok (.getfield 43, 3) := by decide +kernel
theorem dX4_lay_78 : decode cX4_lay 78 = .ok (.iload_n 3, 1) := by decide +kernel
theorem dX4_lay_79 : decode cX4_lay 79 = .ok (.laload, 1) := by decide +kernel
theorem dX4_lay_80 : decode cX4_lay 80 = .ok (.invokevirtual 97, 3) := by decide +kernel
theorem dX4_lay_83 : decode cX4_lay 83 = .ok (.iload 7, 2) := by decide +kernel
theorem dX4_lay_85 : decode cX4_lay 85 = .ok (.ireturn, 1) := by decide +kernel
set_option maxRecDepth 20000 in
theorem ggX4_block_X4_isRegister : GoodIn wsX4_block wsX4_isRegister := goodIn_r _ [7] (by decide +kernel) (by decide +kernel)
set_option maxRecDepth 20000 in
theorem gX4_block_X4_isRegister : GoodIn wsX4_block (va_wsS RX4 27 yX4_isRegister wsX4_isRegister) := goodIn_app (goodIn_of _ (by decide +kernel)) ggX4_block_X4_isRegister
set_option maxRecDepth 20000 in
theorem ggX4_block_X4_faultOf : GoodIn wsX4_block wsX4_faultOf := goodIn_r _ [10, 11, 12, 13, 14, 15, 16, 17, 18, 19, 20, 21, 22, 23, 24, 25, 26, 27, 28, 29] (by decide +kernel) (by decide +kernel)
set_option maxRecDepth 20000 in
theorem gX4_block_X4_faultOf : GoodIn wsX4_block (va_wsS RX4 86 yX4_faultOf wsX4_faultOf) := goodIn_app (goodIn_of _ (by decide +kernel)) ggX4_block_X4_faultOf
set_option maxRecDepth 20000 in
theorem ggX4_block_X1_keep : GoodIn wsX4_block wsX1_keep := goodIn_r _ [34, 35, 36, 37, 38, 39, 40, 41, 42, 43, 44, 45, 46, 47, 48, 49, 50, 51, 52, 53, 54, 55, 56, 57, 58, 59, 60, 61, 62, 63, 64, 65, 66, 67, 126, 127, 128, 116, 117, 118, 119, 120, 121, 122, 123, 124, 125, 129] (by decide +kernel) (by decide +kernel)
set_option maxRecDepth 20000 in
theorem gX4_block_X1_keep : GoodIn wsX4_block (wsV RX4 35 RX1 yX1_keep wsX1_keep) := goodIn_app (goodIn_of _ (by decide +kernel)) ggX4_block_X1_keep
set_option maxRecDepth 20000 in
theorem ggX4_block_X3_at : GoodIn wsX4_block wsX3_at := goodIn_r _ [23] (by decide +kernel) (by decide +kernel)
set_option maxRecDepth 20000 in
theorem gX4_block_X3_at : GoodIn wsX4_block (va_wsS RX4 76 yX3_at wsX3_at) := goodIn_app (goodIn_of _ (by decide +kernel)) ggX4_block_X3_at
set_option maxRecDepth 20000 in
theorem ggX4_block_X4_carry : GoodIn wsX4_block wsX4_carry := goodIn_r _ [72, 73, 1, 74, 75, 76, 45, 77, 47, 53, 78, 79, 80, 81, 56, 82, 12, 13, 14, 83, 25, 26, 84, 28, 29, 85, 86, 87, 64, 88, 66, 89, 90, 91, 92, 93, 94, 95, 96, 97, 98, 99, 100, 22, 23, 101, 102, 103, 104, 105, 106, 107, 108, 60, 109, 110, 111, 112, 59, 113, 114, 115, 116, 117, 118, 119, 120, 121, 122, 123, 124, 125, 129] (by decide +kernel) (by decide +kernel)
set_option maxRecDepth 20000 in
theorem gX4_block_X4_carry : GoodIn wsX4_block (wsV RX4 101 RX4 yX4_carry wsX4_carry) := goodIn_app (goodIn_of _ (by decide +kernel)) ggX4_block_X4_carry
theorem dX4_block_0 : decode cX4_block 0 = .ok (.iload_n 1, 1) := by decide +kernel
theorem dX4_block_1 : decode cX4_block 1 = .ok (.invokestatic 27, 3) := by decide +kernel
theorem dX4_block_4 : decode cX4_block 4 = .ok (.ifCond .eq 23, 3) := by decide +kernel
theorem dX4_block_7 : decode cX4_block 7 = .ok (.iload_n 3, 1) := by decide +kernel
theorem dX4_block_8 : decode cX4_block 8 = .ok (.invokestatic 27, 3) := by decide +kernel
theorem dX4_block_11 : decode cX4_block 11 = .ok (.ifCond .eq 16, 3) := by decide +kernel
theorem dX4_block_14 : decode cX4_block 14 = .ok (.iload 5, 2) := by decide +kernel
theorem dX4_block_16 : decode cX4_block 16 = .ok (.iconst 1, 1) := by decide +kernel
theorem dX4_block_17 : decode cX4_block 17 = .ok (.if_icmp .lt 10, 3) := by decide +kernel
theorem dX4_block_20 : decode cX4_block 20 = .ok (.iload 5, 2) := by decide +kernel
theorem dX4_block_22 : decode cX4_block 22 = .ok (.bipush 64, 2) := by decide +kernel
theorem dX4_block_24 : decode cX4_block 24 = .ok (.if_icmp .le 5, 3) := by decide +kernel
theorem dX4_block_27 : decode cX4_block 27 = .ok (.iconst (-1), 1) := by decide +kernel
theorem dX4_block_28 : decode cX4_block 28 = .ok (.ireturn, 1) := by decide +kernel
theorem dX4_block_29 : decode cX4_block 29 = .ok (.aload_n 0, 1) := by decide +kernel
theorem dX4_block_30 : decode cX4_block 30 = .ok (.getfield 12, 3) := by decide +kernel
theorem dX4_block_33 : decode cX4_block 33 = .ok (.getfield 43, 3) := by decide +kernel
theorem dX4_block_36 : decode cX4_block 36 = .ok (.iload_n 1, 1) := by decide +kernel
theorem dX4_block_37 : decode cX4_block 37 = .ok (.laload, 1) := by decide +kernel
theorem dX4_block_38 : decode cX4_block 38 = .ok (.lstore 6, 2) := by decide +kernel
theorem dX4_block_40 : decode cX4_block 40 = .ok (.lload 6, 2) := by decide +kernel
theorem dX4_block_42 : decode cX4_block 42 = .ok (.iconst 2, 1) := by decide +kernel
theorem dX4_block_43 : decode cX4_block 43 = .ok (.iload_n 2, 1) := by decide +kernel
theorem dX4_block_44 : decode cX4_block 44 = .ok (.iload 5, 2) := by decide +kernel
theorem dX4_block_46 : decode cX4_block 46 = .ok (.invokestatic 86, 3) := by decide +kernel
theorem dX4_block_49 : decode cX4_block 49 = .ok (.istore 8, 2) := by decide +kernel
theorem dX4_block_51 : decode cX4_block 51 = .ok (.iload 8, 2) := by decide +kernel
theorem dX4_block_53 : decode cX4_block 53 = .ok (.ifCond .eq 6, 3) := by decide +kernel
theorem dX4_block_56 : decode cX4_block 56 = .ok (.iload 8, 2) := by decide +kernel
theorem dX4_block_58 : decode cX4_block 58 = .ok (.ireturn, 1) := by decide +kernel
theorem dX4_block_59 : decode cX4_block 59 = .ok (.aload_n 0, 1) := by decide +kernel
theorem dX4_block_60 : decode cX4_block 60 = .ok (.getfield 12, 3) := by decide +kernel
theorem dX4_block_63 : decode cX4_block 63 = .ok (.getfield 43, 3) := by decide +kernel
theorem dX4_block_66 : decode cX4_block 66 = .ok (.iload_n 3, 1) := by decide +kernel
theorem dX4_block_67 : decode cX4_block 67 = .ok (.laload, 1) := by decide +kernel
theorem dX4_block_68 : decode cX4_block 68 = .ok (.lstore 9, 2) := by decide +kernel
theorem dX4_block_70 : decode cX4_block 70 = .ok (.lload 9, 2) := by decide +kernel
theorem dX4_block_72 : decode cX4_block 72 = .ok (.iconst 1, 1) := by decide +kernel
theorem dX4_block_73 : decode cX4_block 73 = .ok (.iload 4, 2) := by decide +kernel
theorem dX4_block_75 : decode cX4_block 75 = .ok (.iload 5, 2) := by decide +kernel
theorem dX4_block_77 : decode cX4_block 77 = .ok (.invokestatic 86, 3) := by decide +kernel
theorem dX4_block_80 : decode cX4_block 80 = .ok (.istore 8, 2) := by decide +kernel
theorem dX4_block_82 : decode cX4_block 82 = .ok (.iload 8, 2) := by decide +kernel
theorem dX4_block_84 : decode cX4_block 84 = .ok (.ifCond .eq 6, 3) := by decide +kernel
theorem dX4_block_87 : decode cX4_block 87 = .ok (.iload 8, 2) := by decide +kernel
theorem dX4_block_89 : decode cX4_block 89 = .ok (.ireturn, 1) := by decide +kernel
theorem dX4_block_90 : decode cX4_block 90 = .ok (.aload_n 0, 1) := by decide +kernel
theorem dX4_block_91 : decode cX4_block 91 = .ok (.getfield 19, 3) := by decide +kernel
theorem dX4_block_94 : decode cX4_block 94 = .ok (.aload_n 0, 1) := by decide +kernel
theorem dX4_block_95 : decode cX4_block 95 = .ok (.getfield 12, 3) := by decide +kernel
theorem dX4_block_98 : decode cX4_block 98 = .ok (.invokevirtual 35, 3) := by decide +kernel
theorem dX4_block_101 : decode cX4_block 101 = .ok (.aload_n 0, 1) := by decide +kernel
theorem dX4_block_102 : decode cX4_block 102 = .ok (.lload 6, 2) := by decide +kernel
theorem dX4_block_104 : decode cX4_block 104 = .ok (.invokestatic 76, 3) := by decide +kernel
theorem dX4_block_107 : decode cX4_block 107 = .ok (.iload_n 2, 1) := by decide +kernel
theorem dX4_block_108 : decode cX4_block 108 = .ok (.iadd, 1) := by decide +kernel
theorem dX4_block_109 : decode cX4_block 109 = .ok (.lload 9, 2) := by decide +kernel
theorem dX4_block_111 : decode cX4_block 111 = .ok (.invokestatic 76, 3) := by decide +kernel
theorem dX4_block_114 : decode cX4_block 114 = .ok (.iload 4, 2) := by decide +kernel
theorem dX4_block_116 : decode cX4_block 116 = .ok (.iadd, 1) := by decide +kernel
theorem dX4_block_117 : decode cX4_block 117 = .ok (.iload 5, 2) := by decide +kernel
theorem dX4_block_119 : decode cX4_block 119 = .ok (.invokevirtual 101, 3) := by decide +kernel
theorem dX4_block_122 : decode cX4_block 122 = .ok (.iload 5, 2) := by decide +kernel
theorem dX4_block_124 : decode cX4_block 124 = .ok (.ireturn, 1) := by decide +kernel
set_option maxRecDepth 20000 in
theorem ggX4_sweep_X1_keep : GoodIn wsX4_sweep wsX1_keep := goodIn_r _ [8, 9, 10, 11, 12, 13, 14, 15, 16, 17, 18, 19, 20, 21, 22, 23, 24, 25, 26, 27, 28, 29, 30, 31, 32, 33, 34, 35, 36, 37, 38, 39, 40, 41, 78, 79, 80, 68, 69, 70, 71, 72, 73, 74, 75, 76, 77, 81] (by decide +kernel) (by decide +kernel)
set_option maxRecDepth 20000 in
theorem gX4_sweep_X1_keep : GoodIn wsX4_sweep (wsV RX4 35 RX1 yX1_keep wsX1_keep) := goodIn_app (goodIn_of _ (by decide +kernel)) ggX4_sweep_X1_keep
set_option maxRecDepth 20000 in
theorem ggX4_sweep_X2_beginSweep : GoodIn wsX4_sweep wsX2_beginSweep := goodIn_r _ [45, 32, 30, 29, 35, 36, 37, 38, 39, 40, 41, 23, 24, 25, 46, 47, 48, 49, 50, 51, 52, 53, 54, 55, 56, 57, 58, 59, 60, 61, 62, 63, 64, 68, 69, 70, 71, 72, 73, 74, 75, 76, 77, 81] (by decide +kernel) (by decide +kernel)
set_option maxRecDepth 20000 in
theorem gX4_sweep_X2_beginSweep : GoodIn wsX4_sweep (wsV RX4 109 RX2 yX2_beginSweep wsX2_beginSweep) := goodIn_app (goodIn_of _ (by decide +kernel)) ggX4_sweep_X2_beginSweep
theorem dX4_sweep_0 : decode cX4_sweep 0 = .ok (.aload_n 0, 1) := by decide +kernel
theorem dX4_sweep_1 : decode cX4_sweep 1 = .ok (.getfield 12, 3) := by decide +kernel
theorem dX4_sweep_4 : decode cX4_sweep 4 = .ok (.getfield 105, 3) := by decide +kernel
theorem dX4_sweep_7 : decode cX4_sweep 7 = .ok (.ifCond .eq 6, 3) := by decide +kernel
theorem dX4_sweep_10 : decode cX4_sweep 10 = .ok (.bipush (-2), 2) := by decide +kernel
theorem dX4_sweep_12 : decode cX4_sweep 12 = .ok (.ireturn, 1) := by decide +kernel
theorem dX4_sweep_13 : decode cX4_sweep 13 = .ok (.aload_n 0, 1) := by decide +kernel
theorem dX4_sweep_14 : decode cX4_sweep 14 = .ok (.getfield 19, 3) := by decide +kernel
theorem dX4_sweep_17 : decode cX4_sweep 17 = .ok (.aload_n 0, 1) := by decide +kernel
theorem dX4_sweep_18 : decode cX4_sweep 18 = .ok (.getfield 12, 3) := by decide +kernel
theorem dX4_sweep_21 : decode cX4_sweep 21 = .ok (.invokevirtual 35, 3) := by decide +kernel
theorem dX4_sweep_24 : decode cX4_sweep 24 = .ok (.aload_n 0, 1) := by decide +kernel
theorem dX4_sweep_25 : decode cX4_sweep 25 = .ok (.getfield 12, 3) := by decide +kernel
theorem dX4_sweep_28 : decode cX4_sweep 28 = .ok (.invokevirtual 109, 3) := by decide +kernel
theorem dX4_sweep_31 : decode cX4_sweep 31 = .ok (.ireturn, 1) := by decide +kernel
set_option maxRecDepth 20000 in
theorem ggX4_step_X1_keep : GoodIn wsX4_step wsX1_keep := goodIn_r _ [8, 9, 10, 11, 12, 13, 14, 15, 16, 17, 18, 19, 20, 21, 22, 23, 24, 25, 26, 27, 28, 29, 30, 31, 32, 33, 34, 35, 36, 37, 38, 39, 40, 41, 104, 105, 106, 94, 95, 96, 97, 98, 99, 100, 101, 102, 103, 107] (by decide +kernel) (by decide +kernel)
set_option maxRecDepth 20000 in
theorem gX4_step_X1_keep : GoodIn wsX4_step (wsV RX4 35 RX1 yX1_keep wsX1_keep) := goodIn_app (goodIn_of _ (by decide +kernel)) ggX4_step_X1_keep
set_option maxRecDepth 20000 in
theorem ggX4_step_X2_lookAtNextPages : GoodIn wsX4_step wsX2_lookAtNextPages := goodIn_r _ [45, 33, 46, 13, 14, 15, 27, 47, 48, 49, 19, 50, 21, 51, 52, 53, 54, 55, 56, 57, 58, 30, 59, 60, 61, 62, 63, 64, 65, 66, 67, 68, 69, 70, 71, 38, 72, 40, 73, 74, 75, 76, 77, 78, 79, 80, 81, 82, 83, 84, 85, 86, 87, 88, 89, 90, 94, 95, 96, 97, 98, 99, 100, 101, 102, 103, 107] (by decide +kernel) (by decide +kernel)
set_option maxRecDepth 20000 in
theorem gX4_step_X2_lookAtNextPages : GoodIn wsX4_step (wsV RX4 113 RX2 yX2_lookAtNextPages wsX2_lookAtNextPages) := goodIn_app (goodIn_of _ (by decide +kernel)) ggX4_step_X2_lookAtNextPages
theorem dX4_step_0 : decode cX4_step 0 = .ok (.iload_n 1, 1) := by decide +kernel
theorem dX4_step_1 : decode cX4_step 1 = .ok (.iconst 1, 1) := by decide +kernel
theorem dX4_step_2 : decode cX4_step 2 = .ok (.if_icmp .lt 9, 3) := by decide +kernel
theorem dX4_step_5 : decode cX4_step 5 = .ok (.iload_n 1, 1) := by decide +kernel
theorem dX4_step_6 : decode cX4_step 6 = .ok (.bipush 16, 2) := by decide +kernel
theorem dX4_step_8 : decode cX4_step 8 = .ok (.if_icmp .le 5, 3) := by decide +kernel
theorem dX4_step_11 : decode cX4_step 11 = .ok (.iconst (-1), 1) := by decide +kernel
theorem dX4_step_12 : decode cX4_step 12 = .ok (.ireturn, 1) := by decide +kernel
theorem dX4_step_13 : decode cX4_step 13 = .ok (.aload_n 0, 1) := by decide +kernel
theorem dX4_step_14 : decode cX4_step 14 = .ok (.getfield 12, 3) := by decide +kernel
theorem dX4_step_17 : decode cX4_step 17 = .ok (.getfield 105, 3) := by decide +kernel
theorem dX4_step_20 : decode cX4_step 20 = .ok (.ifCond .ne 6, 3) := by decide +kernel
theorem dX4_step_23 : decode cX4_step 23 = .ok (.bipush (-2), 2) := by decide +kernel
theorem dX4_step_25 : decode cX4_step 25 = .ok (.ireturn, 1) := by decide +kernel
theorem dX4_step_26 : decode cX4_step 26 = .ok (.aload_n 0, 1) := by decide +kernel
theorem dX4_step_27 : decode cX4_step 27 = .ok (.getfield 19, 3) := by decide +kernel
theorem dX4_step_30 : decode cX4_step 30 = .ok (.aload_n 0, 1) := by decide +kernel
theorem dX4_step_31 : decode cX4_step 31 = .ok (.getfield 12, 3) := by decide +kernel
theorem dX4_step_34 : decode cX4_step 34 = .ok (.invokevirtual 35, 3) := by decide +kernel
theorem dX4_step_37 : decode cX4_step 37 = .ok (.aload_n 0, 1) := by decide +kernel
theorem dX4_step_38 : decode cX4_step 38 = .ok (.getfield 12, 3) := by decide +kernel
theorem dX4_step_41 : decode cX4_step 41 = .ok (.iload_n 1, 1) := by decide +kernel
theorem dX4_step_42 : decode cX4_step 42 = .ok (.invokevirtual 113, 3) := by decide +kernel
theorem dX4_step_45 : decode cX4_step 45 = .ok (.ireturn, 1) := by decide +kernel
set_option maxRecDepth 20000 in
theorem ggX4_end_X1_keep : GoodIn wsX4_end wsX1_keep := goodIn_r _ [9, 10, 11, 12, 13, 14, 15, 16, 17, 18, 19, 20, 21, 22, 23, 24, 25, 26, 27, 28, 29, 30, 31, 32, 33, 34, 35, 36, 37, 38, 39, 40, 41, 42, 117, 118, 119, 107, 108, 109, 110, 111, 112, 113, 114, 115, 116, 120] (by decide +kernel) (by decide +kernel)
set_option maxRecDepth 20000 in
theorem gX4_end_X1_keep : GoodIn wsX4_end (wsV RX4 35 RX1 yX1_keep wsX1_keep) := goodIn_app (goodIn_of _ (by decide +kernel)) ggX4_end_X1_keep
set_option maxRecDepth 20000 in
theorem ggX4_end_X2_finishSweep : GoodIn wsX4_end wsX2_finishSweep := goodIn_r _ [46, 28, 27, 31, 30, 33, 34, 35, 47, 48, 49, 20, 50, 51, 52, 53, 54, 22, 55, 56, 57, 58, 59, 60, 61, 62, 63, 64, 65, 66, 67, 68, 69, 70, 71, 72, 73, 74, 75, 39, 76, 41, 77, 78, 79, 80, 81, 82, 83, 84, 85, 86, 87, 88, 89, 90, 91, 92, 93, 94, 95, 96, 97, 98, 99, 100, 101, 102, 103, 107, 108, 109, 110, 111, 112, 113, 114, 115, 116, 120] (by decide +kernel) (by decide +kernel)
set_option maxRecDepth 20000 in
theorem gX4_end_X2_finishSweep : GoodIn wsX4_end (wsV RX4 120 RX2 yX2_finishSweep wsX2_finishSweep) := goodIn_app (goodIn_of _ (by decide +kernel)) ggX4_end_X2_finishSweep
theorem dX4_end_0 : decode cX4_end 0 = .ok (.aload_n 0, 1) := by decide +kernel
theorem dX4_end_1 : decode cX4_end 1 = .ok (.getfield 12, 3) := by decide +kernel
theorem dX4_end_4 : decode cX4_end 4 = .ok (.getfield 105, 3) := by decide +kernel
theorem dX4_end_7 : decode cX4_end 7 = .ok (.ifCond .eq 15, 3) := by decide +kernel
theorem dX4_end_10 : decode cX4_end 10 = .ok (.aload_n 0, 1) := by decide +kernel
theorem dX4_end_11 : decode cX4_end 11 = .ok (.getfield 12, 3) := by decide +kernel
theorem dX4_end_14 : decode cX4_end 14 = .ok (.getfield 116, 3) := by decide +kernel
theorem dX4_end_17 : decode cX4_end 17 = .ok (.bipush 16, 2) := by decide +kernel
theorem dX4_end_19 : decode cX4_end 19 = .ok (.if_icmp .ge 6, 3) := by decide +kernel
theorem dX4_end_22 : decode cX4_end 22 = .ok (.bipush (-2), 2) := by decide +kernel
theorem dX4_end_24 : decode cX4_end 24 = .ok (.ireturn, 1) := by decide +kernel
theorem dX4_end_25 : decode cX4_end 25 = .ok (.aload_n 0, 1) := by decide +kernel
theorem dX4_end_26 : decode cX4_end 26 = .ok (.getfield 19, 3) := by decide +kernel
theorem dX4_end_29 : decode cX4_end 29 = .ok (.aload_n 0, 1) := by decide +kernel
theorem dX4_end_30 : decode cX4_end 30 = .ok (.getfield 12, 3) := by decide +kernel
theorem dX4_end_33 : decode cX4_end 33 = .ok (.invokevirtual 35, 3) := by decide +kernel
theorem dX4_end_36 : decode cX4_end 36 = .ok (.aload_n 0, 1) := by decide +kernel
theorem dX4_end_37 : decode cX4_end 37 = .ok (.getfield 12, 3) := by decide +kernel
theorem dX4_end_40 : decode cX4_end 40 = .ok (.invokevirtual 120, 3) := by decide +kernel
theorem dX4_end_43 : decode cX4_end 43 = .ok (.ireturn, 1) := by decide +kernel
set_option maxRecDepth 20000 in
theorem ggX4_told_X4_isRegister : GoodIn wsX4_told wsX4_isRegister := goodIn_r _ [8] (by decide +kernel) (by decide +kernel)
set_option maxRecDepth 20000 in
theorem gX4_told_X4_isRegister : GoodIn wsX4_told (va_wsS RX4 27 yX4_isRegister wsX4_isRegister) := goodIn_app (goodIn_of _ (by decide +kernel)) ggX4_told_X4_isRegister
set_option maxRecDepth 20000 in
theorem ggX4_told_X4_toldOf : GoodIn wsX4_told wsX4_toldOf := goodIn_r _ [12, 1, 4, 13, 14, 15, 16, 17, 18, 7, 19, 20, 21, 22, 23, 24, 25, 26, 27, 28, 29, 30, 31, 32, 33, 34, 35, 36, 37, 38, 39, 40, 41, 42, 43, 44, 45, 46, 47, 48, 49, 50, 51, 52, 53, 54, 55, 56, 57, 71, 72, 73, 74, 75, 76, 77, 78, 79, 80, 81, 82, 83, 84] (by decide +kernel) (by decide +kernel)
set_option maxRecDepth 20000 in
theorem gX4_told_X4_toldOf : GoodIn wsX4_told (wsV RX4 123 RX4 yX4_toldOf wsX4_toldOf) := goodIn_app (goodIn_of _ (by decide +kernel)) ggX4_told_X4_toldOf
set_option maxRecDepth 20000 in
theorem ggX4_told_X4_isCell : GoodIn wsX4_told wsX4_isCell := goodIn_r _ [60] (by decide +kernel) (by decide +kernel)
set_option maxRecDepth 20000 in
theorem gX4_told_X4_isCell : GoodIn wsX4_told (va_wsS RX4 127 yX4_isCell wsX4_isCell) := goodIn_app (goodIn_of _ (by decide +kernel)) ggX4_told_X4_isCell
set_option maxRecDepth 20000 in
theorem ggX4_told_X2_useOf : GoodIn wsX4_told wsX2_useOf := goodIn_r _ [64, 65, 66, 67, 68, 69, 44, 70, 46, 59, 7, 60, 74, 75, 76, 77, 78, 79, 80, 81, 82, 83, 84] (by decide +kernel) (by decide +kernel)
set_option maxRecDepth 20000 in
theorem gX4_told_X2_useOf : GoodIn wsX4_told (wsV RX4 133 RX2 yX2_useOf wsX2_useOf) := goodIn_app (goodIn_of _ (by decide +kernel)) ggX4_told_X2_useOf
theorem dX4_told_0 : decode cX4_told 0 = .ok (.iload_n 1, 1) := by decide +kernel
theorem dX4_told_1 : decode cX4_told 1 = .ok (.ifCond .ne 26, 3) := by decide +kernel
theorem dX4_told_4 : decode cX4_told 4 = .ok (.iload_n 2, 1) := by decide +kernel
theorem dX4_told_5 : decode cX4_told 5 = .ok (.invokestatic 27, 3) := by decide +kernel
theorem dX4_told_8 : decode cX4_told 8 = .ok (.ifCond .eq 19, 3) := by decide +kernel
theorem dX4_told_11 : decode cX4_told 11 = .ok (.aload_n 0, 1) := by decide +kernel
theorem dX4_told_12 : decode cX4_told 12 = .ok (.aload_n 0, 1) := by decide +kernel
theorem dX4_told_13 : decode cX4_told 13 = .ok (.getfield 12, 3) := by decide +kernel
theorem dX4_told_16 : decode cX4_told 16 = .ok (.getfield 43, 3) := by decide +kernel
theorem dX4_told_19 : decode cX4_told 19 = .ok (.iload_n 2, 1) := by decide +kernel
theorem dX4_told_20 : decode cX4_told 20 = .ok (.laload, 1) := by decide +kernel
theorem dX4_told_21 : decode cX4_told 21 = .ok (.iconst 0, 1) := by decide +kernel
theorem dX4_told_22 : decode cX4_told 22 = .ok (.iload_n 3, 1) := by decide +kernel
theorem dX4_told_23 : decode cX4_told 23 = .ok (.invokevirtual 123, 3) := by decide +kernel
theorem dX4_told_26 : decode cX4_told 26 = .ok (.ireturn, 1) := by decide +kernel
theorem dX4_told_27 : decode cX4_told 27 = .ok (.iload_n 1, 1) := by decide +kernel
theorem dX4_told_28 : decode cX4_told 28 = .ok (.iconst 1, 1) := by decide +kernel
theorem dX4_told_29 : decode cX4_told 29 = .ok (.if_icmp .ne 33, 3) := by decide +kernel
theorem dX4_told_32 : decode cX4_told 32 = .ok (.iload_n 2, 1) := by decide +kernel
theorem dX4_told_33 : decode cX4_told 33 = .ok (.invokestatic 127, 3) := by decide +kernel
theorem dX4_told_36 : decode cX4_told 36 = .ok (.ifCond .eq 26, 3) := by decide +kernel
theorem dX4_told_39 : decode cX4_told 39 = .ok (.aload_n 0, 1) := by decide +kernel
theorem dX4_told_40 : decode cX4_told 40 = .ok (.aload_n 0, 1) := by decide +kernel
theorem dX4_told_41 : decode cX4_told 41 = .ok (.getfield 12, 3) := by decide +kernel
theorem dX4_told_44 : decode cX4_told 44 = .ok (.getfield 130, 3) := by decide +kernel
theorem dX4_told_47 : decode cX4_told 47 = .ok (.iload_n 2, 1) := by decide +kernel
theorem dX4_told_48 : decode cX4_told 48 = .ok (.laload, 1) := by decide +kernel
theorem dX4_told_49 : decode cX4_told 49 = .ok (.aload_n 0, 1) := by decide +kernel
theorem dX4_told_50 : decode cX4_told 50 = .ok (.getfield 12, 3) := by decide +kernel
theorem dX4_told_53 : decode cX4_told 53 = .ok (.iload_n 2, 1) := by decide +kernel
theorem dX4_told_54 : decode cX4_told 54 = .ok (.invokevirtual 133, 3) := by decide +kernel
theorem dX4_told_57 : decode cX4_told 57 = .ok (.iload_n 3, 1) := by decide +kernel
theorem dX4_told_58 : decode cX4_told 58 = .ok (.invokevirtual 123, 3) := by decide +kernel
theorem dX4_told_61 : decode cX4_told 61 = .ok (.ireturn, 1) := by decide +kernel
theorem dX4_told_62 : decode cX4_told 62 = .ok (.ldc 74, 2) := by decide +kernel
theorem dX4_told_64 : decode cX4_told 64 = .ok (.ireturn, 1) := by decide +kernel
set_option maxRecDepth 20000 in
theorem ggX4_page_X2_isSeen : GoodIn wsX4_page wsX2_isSeen := goodIn_r _ [8, 9, 48, 49, 50, 51, 52, 53, 54, 55, 56, 57] (by decide +kernel) (by decide +kernel)
set_option maxRecDepth 20000 in
theorem gX4_page_X2_isSeen : GoodIn wsX4_page (wsV RX4 136 RX2 yX2_isSeen wsX2_isSeen) := goodIn_app (goodIn_of _ (by decide +kernel)) ggX4_page_X2_isSeen
set_option maxRecDepth 20000 in
theorem ggX4_page_X4_oneIf : GoodIn wsX4_page wsX4_oneIf := goodIn_r _ [13] (by decide +kernel) (by decide +kernel)
set_option maxRecDepth 20000 in
theorem gX4_page_X4_oneIf : GoodIn wsX4_page (va_wsS RX4 93 yX4_oneIf wsX4_oneIf) := goodIn_app (goodIn_of _ (by decide +kernel)) ggX4_page_X4_oneIf
set_option maxRecDepth 20000 in
theorem ggX4_page_X2_isDirty : GoodIn wsX4_page wsX2_isDirty := goodIn_r _ [17, 18, 48, 49, 50, 51, 52, 53, 54, 55, 56, 57] (by decide +kernel) (by decide +kernel)
set_option maxRecDepth 20000 in
theorem gX4_page_X2_isDirty : GoodIn wsX4_page (wsV RX4 139 RX2 yX2_isDirty wsX2_isDirty) := goodIn_app (goodIn_of _ (by decide +kernel)) ggX4_page_X2_isDirty
set_option maxRecDepth 20000 in
theorem ggX4_page_X2_pointersIn : GoodIn wsX4_page wsX2_pointersIn := goodIn_r _ [22, 23, 24, 25, 26, 27, 11, 12, 13, 48, 49, 50, 51, 52, 53, 54, 55, 56, 57] (by decide +kernel) (by decide +kernel)
set_option maxRecDepth 20000 in
theorem gX4_page_X2_pointersIn : GoodIn wsX4_page (wsV RX4 142 RX2 yX2_pointersIn wsX2_pointersIn) := goodIn_app (goodIn_of _ (by decide +kernel)) ggX4_page_X2_pointersIn
set_option maxRecDepth 20000 in
theorem ggX4_page_X0_sizeWithin : GoodIn wsX4_page wsX0_sizeWithin := goodIn_r _ [32, 33, 34, 35, 36, 31, 37, 38, 39, 40, 41, 42, 43, 44, 58] (by decide +kernel) (by decide +kernel)
set_option maxRecDepth 20000 in
theorem gX4_page_X0_sizeWithin : GoodIn wsX4_page (wsV RX4 150 RX0 yX0_sizeWithin wsX0_sizeWithin) := goodIn_app (goodIn_of _ (by decide +kernel)) ggX4_page_X0_sizeWithin
theorem dX4_page_0 : decode cX4_page 0 = .ok (.iload_n 1, 1) := by decide +kernel
theorem dX4_page_1 : decode cX4_page 1 = .ok (.ifCond .lt 9, 3) := by decide +kernel
theorem dX4_page_4 : decode cX4_page 4 = .ok (.iload_n 1, 1) := by decide +kernel
theorem dX4_page_5 : decode cX4_page 5 = .ok (.bipush 16, 2) := by decide +kernel
theorem dX4_page_7 : decode cX4_page 7 = .ok (.if_icmp .lt 5, 3) := by decide +kernel
theorem dX4_page_10 : decode cX4_page 10 = .ok (.iconst (-1), 1) := by decide +kernel
theorem dX4_page_11 : decode cX4_page 11 = .ok (.ireturn, 1) := by decide +kernel
theorem dX4_page_12 : decode cX4_page 12 = .ok (.iload_n 1, 1) := by decide +kernel
theorem dX4_page_13 : decode cX4_page 13 = .ok (.bipush 16, 2) := by decide +kernel
theorem dX4_page_15 : decode cX4_page 15 = .ok (.imul, 1) := by decide +kernel
theorem dX4_page_16 : decode cX4_page 16 = .ok (.istore_n 3, 1) := by decide +kernel
theorem dX4_page_17 : decode cX4_page 17 = .ok (.iload_n 3, 1) := by decide +kernel
theorem dX4_page_18 : decode cX4_page 18 = .ok (.bipush 16, 2) := by decide +kernel
theorem dX4_page_20 : decode cX4_page 20 = .ok (.iadd, 1) := by decide +kernel
theorem dX4_page_21 : decode cX4_page 21 = .ok (.istore 4, 2) := by decide +kernel
theorem dX4_page_23 : decode cX4_page 23 = .ok (.iload_n 2, 1) := by decide +kernel
theorem dX4_page_24 : decode cX4_page 24 = .ok (.tableswitch 99 0 4 #[36, 48, 60, 71, 85], 36) := by decide +kernel
theorem dX4_page_60 : decode cX4_page 60 = .ok (.aload_n 0, 1) := by decide +kernel
theorem dX4_page_61 : decode cX4_page 61 = .ok (.getfield 12, 3) := by decide +kernel
theorem dX4_page_64 : decode cX4_page 64 = .ok (.iload_n 1, 1) := by decide +kernel
theorem dX4_page_65 : decode cX4_page 65 = .ok (.invokevirtual 136, 3) := by decide +kernel
theorem dX4_page_68 : decode cX4_page 68 = .ok (.invokestatic 93, 3) := by decide +kernel
theorem dX4_page_71 : decode cX4_page 71 = .ok (.ireturn, 1) := by decide +kernel
theorem dX4_page_72 : decode cX4_page 72 = .ok (.aload_n 0, 1) := by decide +kernel
theorem dX4_page_73 : decode cX4_page 73 = .ok (.getfield 12, 3) := by decide +kernel
theorem dX4_page_76 : decode cX4_page 76 = .ok (.iload_n 1, 1) := by decide +kernel
theorem dX4_page_77 : decode cX4_page 77 = .ok (.invokevirtual 139, 3) := by decide +kernel
theorem dX4_page_80 : decode cX4_page 80 = .ok (.invokestatic 93, 3) := by decide +kernel
theorem dX4_page_83 : decode cX4_page 83 = .ok (.ireturn, 1) := by decide +kernel
theorem dX4_page_84 : decode cX4_page 84 = .ok (.aload_n 0, 1) := by decide +kernel
theorem dX4_page_85 : decode cX4_page 85 = .ok (.getfield 12, 3) := by decide +kernel
theorem dX4_page_88 : decode cX4_page 88 = .ok (.iload_n 3, 1) := by decide +kernel
theorem dX4_page_89 : decode cX4_page 89 = .ok (.iload 4, 2) := by decide +kernel
theorem dX4_page_91 : decode cX4_page 91 = .ok (.invokevirtual 142, 3) := by decide +kernel
theorem dX4_page_94 : decode cX4_page 94 = .ok (.ireturn, 1) := by decide +kernel
theorem dX4_page_95 : decode cX4_page 95 = .ok (.aload_n 0, 1) := by decide +kernel
theorem dX4_page_96 : decode cX4_page 96 = .ok (.getfield 12, 3) := by decide +kernel
theorem dX4_page_99 : decode cX4_page 99 = .ok (.getfield 146, 3) := by decide +kernel
theorem dX4_page_102 : decode cX4_page 102 = .ok (.iload_n 3, 1) := by decide +kernel
theorem dX4_page_103 : decode cX4_page 103 = .ok (.iload 4, 2) := by decide +kernel
theorem dX4_page_105 : decode cX4_page 105 = .ok (.invokevirtual 150, 3) := by decide +kernel
theorem dX4_page_108 : decode cX4_page 108 = .ok (.ireturn, 1) := by decide +kernel
theorem dX4_page_109 : decode cX4_page 109 = .ok (.aload_n 0, 1) := by decide +kernel
theorem dX4_page_110 : decode cX4_page 110 = .ok (.getfield 12, 3) := by decide +kernel
theorem dX4_page_113 : decode cX4_page 113 = .ok (.getfield 155, 3) := by decide +kernel
theorem dX4_page_116 : decode cX4_page 116 = .ok (.iload_n 3, 1) := by decide +kernel
theorem dX4_page_117 : decode cX4_page 117 = .ok (.iload 4, 2) := by decide +kernel
theorem dX4_page_119 : decode cX4_page 119 = .ok (.invokevirtual 150, 3) := by decide +kernel
theorem dX4_page_122 : decode cX4_page 122 = .ok (.ireturn, 1) := by decide +kernel
theorem dX4_page_123 : decode cX4_page 123 = .ok (.iconst (-1), 1) := by decide +kernel
theorem dX4_page_124 : decode cX4_page 124 = .ok (.ireturn, 1) := by decide +kernel
set_option maxRecDepth 20000 in
theorem ggX4_range_X4_isCell : GoodIn wsX4_range wsX4_isCell := goodIn_r _ [6] (by decide +kernel) (by decide +kernel)
set_option maxRecDepth 20000 in
theorem gX4_range_X4_isCell : GoodIn wsX4_range (va_wsS RX4 127 yX4_isCell wsX4_isCell) := goodIn_app (goodIn_of _ (by decide +kernel)) ggX4_range_X4_isCell
set_option maxRecDepth 20000 in
theorem ggX4_range_X0_has : GoodIn wsX4_range wsX0_has := goodIn_r _ [11, 12, 4, 5, 6, 38] (by decide +kernel) (by decide +kernel)
set_option maxRecDepth 20000 in
theorem gX4_range_X0_has : GoodIn wsX4_range (wsV RX4 158 RX0 yX0_has wsX0_has) := goodIn_app (goodIn_of _ (by decide +kernel)) ggX4_range_X0_has
set_option maxRecDepth 20000 in
theorem ggX4_range_X2_rangeFrom : GoodIn wsX4_range wsX2_rangeFrom := goodIn_r _ [17, 18, 19, 8, 9, 10, 11, 12, 4, 5, 6, 28, 29, 30, 31, 32, 33, 34, 35, 36, 37, 38] (by decide +kernel) (by decide +kernel)
set_option maxRecDepth 20000 in
theorem gX4_range_X2_rangeFrom : GoodIn wsX4_range (wsV RX4 161 RX2 yX2_rangeFrom wsX2_rangeFrom) := goodIn_app (goodIn_of _ (by decide +kernel)) ggX4_range_X2_rangeFrom
set_option maxRecDepth 20000 in
theorem ggX4_range_X2_rangeTo : GoodIn wsX4_range wsX2_rangeTo := goodIn_r _ [23, 24, 18, 19, 8, 9, 10, 11, 12, 4, 5, 6, 28, 29, 30, 31, 32, 33, 34, 35, 36, 37, 38] (by decide +kernel) (by decide +kernel)
set_option maxRecDepth 20000 in
theorem gX4_range_X2_rangeTo : GoodIn wsX4_range (wsV RX4 164 RX2 yX2_rangeTo wsX2_rangeTo) := goodIn_app (goodIn_of _ (by decide +kernel)) ggX4_range_X2_rangeTo
theorem dX4_range_0 : decode cX4_range 0 = .ok (.iload_n 1, 1) := by decide +kernel
theorem dX4_range_1 : decode cX4_range 1 = .ok (.invokestatic 127, 3) := by decide +kernel
theorem dX4_range_4 : decode cX4_range 4 = .ok (.ifCond .eq 12, 3) := by decide +kernel
theorem dX4_range_7 : decode cX4_range 7 = .ok (.iload_n 2, 1) := by decide +kernel
theorem dX4_range_8 : decode cX4_range 8 = .ok (.ifCond .lt 8, 3) := by decide +kernel
theorem dX4_range_11 : decode cX4_range 11 = .ok (.iload_n 2, 1) := by decide +kernel
theorem dX4_range_12 : decode cX4_range 12 = .ok (.iconst 1, 1) := by decide +kernel
theorem dX4_range_13 : decode cX4_range 13 = .ok (.if_icmp .le 5, 3) := by decide +kernel
theorem dX4_range_16 : decode cX4_range 16 = .ok (.iconst (-1), 1) := by decide +kernel
theorem dX4_range_17 : decode cX4_range 17 = .ok (.ireturn, 1) := by decide +kernel
theorem dX4_range_18 : decode cX4_range 18 = .ok (.aload_n 0, 1) := by decide +kernel
theorem dX4_range_19 : decode cX4_range 19 = .ok (.getfield 12, 3) := by decide +kernel
theorem dX4_range_22 : decode cX4_range 22 = .ok (.getfield 146, 3) := by decide +kernel
theorem dX4_range_25 : decode cX4_range 25 = .ok (.iload_n 1, 1) := by decide +kernel
theorem dX4_range_26 : decode cX4_range 26 = .ok (.invokevirtual 158, 3) := by decide +kernel
theorem dX4_range_29 : decode cX4_range 29 = .ok (.ifCond .ne 6, 3) := by decide +kernel
theorem dX4_range_32 : decode cX4_range 32 = .ok (.bipush (-4), 2) := by decide +kernel
theorem dX4_range_34 : decode cX4_range 34 = .ok (.ireturn, 1) := by decide +kernel
theorem dX4_range_35 : decode cX4_range 35 = .ok (.aload_n 0, 1) := by decide +kernel
theorem dX4_range_36 : decode cX4_range 36 = .ok (.getfield 12, 3) := by decide +kernel
theorem dX4_range_39 : decode cX4_range 39 = .ok (.iload_n 1, 1) := by decide +kernel
theorem dX4_range_40 : decode cX4_range 40 = .ok (.invokevirtual 161, 3) := by decide +kernel
theorem dX4_range_43 : decode cX4_range 43 = .ok (.istore_n 3, 1) := by decide +kernel
theorem dX4_range_44 : decode cX4_range 44 = .ok (.iload_n 2, 1) := by decide +kernel
theorem dX4_range_45 : decode cX4_range 45 = .ok (.ifCond .ne 7, 3) := by decide +kernel
theorem dX4_range_48 : decode cX4_range 48 = .ok (.iload_n 3, 1) := by decide +kernel
theorem dX4_range_49 : decode cX4_range 49 = .ok (.goto 13, 3) := by decide +kernel
theorem dX4_range_52 : decode cX4_range 52 = .ok (.aload_n 0, 1) := by decide +kernel
theorem dX4_range_53 : decode cX4_range 53 = .ok (.getfield 12, 3) := by decide +kernel
theorem dX4_range_56 : decode cX4_range 56 = .ok (.iload_n 1, 1) := by decide +kernel
theorem dX4_range_57 : decode cX4_range 57 = .ok (.invokevirtual 164, 3) := by decide +kernel
theorem dX4_range_60 : decode cX4_range 60 = .ok (.iload_n 3, 1) := by decide +kernel
theorem dX4_range_61 : decode cX4_range 61 = .ok (.isub, 1) := by decide +kernel
theorem dX4_range_62 : decode cX4_range 62 = .ok (.ireturn, 1) := by decide +kernel
set_option maxRecDepth 20000 in
theorem ggX4_undo_X1_takeBack : GoodIn wsX4_undo wsX1_takeBack := goodIn_r _ [8, 9, 10, 11, 12, 13, 14, 15, 16, 17, 18, 19, 20, 21, 22, 23, 24, 25, 26, 27, 28, 29, 30, 31, 32, 33, 34, 35, 36, 37, 41, 42, 43, 44, 45, 46, 47, 48, 49, 50, 51, 52, 53, 54] (by decide +kernel) (by decide +kernel)
set_option maxRecDepth 20000 in
theorem gX4_undo_X1_takeBack : GoodIn wsX4_undo (wsV RX4 170 RX1 yX1_takeBack wsX1_takeBack) := goodIn_app (goodIn_of _ (by decide +kernel)) ggX4_undo_X1_takeBack
theorem dX4_undo_0 : decode cX4_undo 0 = .ok (.aload_n 0, 1) := by decide +kernel
theorem dX4_undo_1 : decode cX4_undo 1 = .ok (.getfield 19, 3) := by decide +kernel
theorem dX4_undo_4 : decode cX4_undo 4 = .ok (.getfield 167, 3) := by decide +kernel
theorem dX4_undo_7 : decode cX4_undo 7 = .ok (.ifCond .ne 6, 3) := by decide +kernel
theorem dX4_undo_10 : decode cX4_undo 10 = .ok (.bipush (-2), 2) := by decide +kernel
theorem dX4_undo_12 : decode cX4_undo 12 = .ok (.ireturn, 1) := by decide +kernel
theorem dX4_undo_13 : decode cX4_undo 13 = .ok (.aload_n 0, 1) := by decide +kernel
theorem dX4_undo_14 : decode cX4_undo 14 = .ok (.getfield 19, 3) := by decide +kernel
theorem dX4_undo_17 : decode cX4_undo 17 = .ok (.aload_n 0, 1) := by decide +kernel
theorem dX4_undo_18 : decode cX4_undo 18 = .ok (.getfield 12, 3) := by decide +kernel
theorem dX4_undo_21 : decode cX4_undo 21 = .ok (.invokevirtual 170, 3) := by decide +kernel
theorem dX4_undo_24 : decode cX4_undo 24 = .ok (.iconst 1, 1) := by decide +kernel
theorem dX4_undo_25 : decode cX4_undo 25 = .ok (.ireturn, 1) := by decide +kernel
set_option maxRecDepth 20000 in
theorem ggX4_count_X0_size : GoodIn wsX4_count wsX0_size := goodIn_r _ [14, 15, 16, 17, 13, 18, 19, 20, 21, 22, 23, 24, 25, 26, 27, 28, 29, 30, 51] (by decide +kernel) (by decide +kernel)
set_option maxRecDepth 20000 in
theorem gX4_count_X0_size : GoodIn wsX4_count (wsV RX4 177 RX0 yX0_size wsX0_size) := goodIn_app (goodIn_of _ (by decide +kernel)) ggX4_count_X0_size
set_option maxRecDepth 20000 in
theorem ggX4_count_X4_oneIf : GoodIn wsX4_count wsX4_oneIf := goodIn_r _ [34] (by decide +kernel) (by decide +kernel)
set_option maxRecDepth 20000 in
theorem gX4_count_X4_oneIf : GoodIn wsX4_count (va_wsS RX4 93 yX4_oneIf wsX4_oneIf) := goodIn_app (goodIn_of _ (by decide +kernel)) ggX4_count_X4_oneIf
theorem dX4_count_0 : decode cX4_count 0 = .ok (.iload_n 1, 1) := by decide +kernel
theorem dX4_count_1 : decode cX4_count 1 = .ok (.iconst 5, 1) := by decide +kernel
theorem dX4_count_2 : decode cX4_count 2 = .ok (.if_icmp .lt 21, 3) := by decide +kernel
theorem dX4_count_5 : decode cX4_count 5 = .ok (.iload_n 1, 1) := by decide +kernel
theorem dX4_count_6 : decode cX4_count 6 = .ok (.bipush 12, 2) := by decide +kernel
theorem dX4_count_8 : decode cX4_count 8 = .ok (.if_icmp .ge 15, 3) := by decide +kernel
theorem dX4_count_11 : decode cX4_count 11 = .ok (.aload_n 0, 1) := by decide +kernel
theorem dX4_count_12 : decode cX4_count 12 = .ok (.getfield 12, 3) := by decide +kernel
theorem dX4_count_15 : decode cX4_count 15 = .ok (.getfield 173, 3) := by decide +kernel
theorem dX4_count_18 : decode cX4_count 18 = .ok (.iload_n 1, 1) := by decide +kernel
theorem dX4_count_19 : decode cX4_count 19 = .ok (.iconst 5, 1) := by decide +kernel
theorem dX4_count_20 : decode cX4_count 20 = .ok (.isub, 1) := by decide +kernel
theorem dX4_count_21 : decode cX4_count 21 = .ok (.iaload, 1) := by decide +kernel
theorem dX4_count_22 : decode cX4_count 22 = .ok (.ireturn, 1) := by decide +kernel
theorem dX4_count_23 : decode cX4_count 23 = .ok (.aload_n 0, 1) := by decide +kernel
theorem dX4_count_24 : decode cX4_count 24 = .ok (.getfield 12, 3) := by decide +kernel
theorem dX4_count_27 : decode cX4_count 27 = .ok (.getfield 146, 3) := by decide +kernel
theorem dX4_count_30 : decode cX4_count 30 = .ok (.invokevirtual 177, 3) := by decide +kernel
theorem dX4_count_33 : decode cX4_count 33 = .ok (.istore_n 2, 1) := by decide +kernel
theorem dX4_count_34 : decode cX4_count 34 = .ok (.aload_n 0, 1) := by decide +kernel
theorem dX4_count_35 : decode cX4_count 35 = .ok (.getfield 12, 3) := by decide +kernel
theorem dX4_count_38 : decode cX4_count 38 = .ok (.getfield 155, 3) := by decide +kernel
theorem dX4_count_41 : decode cX4_count 41 = .ok (.invokevirtual 177, 3) := by decide +kernel
theorem dX4_count_44 : decode cX4_count 44 = .ok (.istore_n 3, 1) := by decide +kernel
theorem dX4_count_45 : decode cX4_count 45 = .ok (.iload_n 1, 1) := by decide +kernel
theorem dX4_count_46 : decode cX4_count 46 = .ok (.tableswitch 123 0 13 #[70, 78, 80, 82, 93, 123, 123, 123, 123, 123, 123, 123, 104, 115], 70) := by decide +kernel
theorem dX4_count_116 : decode cX4_count 116 = .ok (.sipush 256, 3) := by decide +kernel
theorem dX4_count_119 : decode cX4_count 119 = .ok (.iload_n 2, 1) := by decide +kernel
theorem dX4_count_120 : decode cX4_count 120 = .ok (.isub, 1) := by decide +kernel
theorem dX4_count_121 : decode cX4_count 121 = .ok (.iload_n 3, 1) := by decide +kernel
theorem dX4_count_122 : decode cX4_count 122 = .ok (.isub, 1) := by decide +kernel
theorem dX4_count_123 : decode cX4_count 123 = .ok (.ireturn, 1) := by decide +kernel
theorem dX4_count_124 : decode cX4_count 124 = .ok (.iload_n 2, 1) := by decide +kernel
theorem dX4_count_125 : decode cX4_count 125 = .ok (.ireturn, 1) := by decide +kernel
theorem dX4_count_126 : decode cX4_count 126 = .ok (.iload_n 3, 1) := by decide +kernel
theorem dX4_count_127 : decode cX4_count 127 = .ok (.ireturn, 1) := by decide +kernel
theorem dX4_count_128 : decode cX4_count 128 = .ok (.aload_n 0, 1) := by decide +kernel
theorem dX4_count_129 : decode cX4_count 129 = .ok (.getfield 12, 3) := by decide +kernel
theorem dX4_count_132 : decode cX4_count 132 = .ok (.getfield 179, 3) := by decide +kernel
theorem dX4_count_135 : decode cX4_count 135 = .ok (.invokevirtual 177, 3) := by decide +kernel
theorem dX4_count_138 : decode cX4_count 138 = .ok (.ireturn, 1) := by decide +kernel
theorem dX4_count_139 : decode cX4_count 139 = .ok (.aload_n 0, 1) := by decide +kernel
theorem dX4_count_140 : decode cX4_count 140 = .ok (.getfield 12, 3) := by decide +kernel
theorem dX4_count_143 : decode cX4_count 143 = .ok (.getfield 182, 3) := by decide +kernel
theorem dX4_count_146 : decode cX4_count 146 = .ok (.invokevirtual 177, 3) := by decide +kernel
theorem dX4_count_149 : decode cX4_count 149 = .ok (.ireturn, 1) := by decide +kernel
theorem dX4_count_150 : decode cX4_count 150 = .ok (.aload_n 0, 1) := by decide +kernel
theorem dX4_count_151 : decode cX4_count 151 = .ok (.getfield 12, 3) := by decide +kernel
theorem dX4_count_154 : decode cX4_count 154 = .ok (.getfield 105, 3) := by decide +kernel
theorem dX4_count_157 : decode cX4_count 157 = .ok (.invokestatic 93, 3) := by decide +kernel
theorem dX4_count_160 : decode cX4_count 160 = .ok (.ireturn, 1) := by decide +kernel
theorem dX4_count_161 : decode cX4_count 161 = .ok (.aload_n 0, 1) := by decide +kernel
theorem dX4_count_162 : decode cX4_count 162 = .ok (.getfield 19, 3) := by decide +kernel
theorem dX4_count_165 : decode cX4_count 165 = .ok (.getfield 167, 3) := by decide +kernel
theorem dX4_count_168 : decode cX4_count 168 = .ok (.ireturn, 1) := by decide +kernel
theorem dX4_count_169 : decode cX4_count 169 = .ok (.iconst (-1), 1) := by decide +kernel
theorem dX4_count_170 : decode cX4_count 170 = .ok (.ireturn, 1) := by decide +kernel
set_option maxRecDepth 20000 in
theorem ggX4_carry_X2_lookUp : GoodIn wsX4_carry wsX2_lookUp := goodIn_r _ [7, 8, 9, 10, 11, 12, 6, 13, 14, 15, 16, 17, 18, 19, 20, 21, 22, 23, 24, 25, 26, 27, 28, 29, 30, 31, 32, 33, 34, 35, 36, 37, 38, 39, 40, 41, 42, 43, 44, 45, 46, 47, 48, 62, 63, 64, 65, 66, 67, 68, 69, 70, 71, 72] (by decide +kernel) (by decide +kernel)
set_option maxRecDepth 20000 in
theorem gX4_carry_X2_lookUp : GoodIn wsX4_carry (wsV RX4 90 RX2 yX2_lookUp wsX2_lookUp) := goodIn_app (goodIn_of _ (by decide +kernel)) ggX4_carry_X2_lookUp
set_option maxRecDepth 20000 in
theorem ggX4_carry_X2_layDown : GoodIn wsX4_carry wsX2_layDown := goodIn_r _ [52, 8, 53, 15, 16, 17, 18, 54, 55, 56, 6, 57, 58, 62, 63, 64, 65, 66, 67, 68, 69, 70, 71] (by decide +kernel) (by decide +kernel)
set_option maxRecDepth 20000 in
theorem gX4_carry_X2_layDown : GoodIn wsX4_carry (wsV RX4 97 RX2 yX2_layDown wsX2_layDown) := goodIn_app (goodIn_of _ (by decide +kernel)) ggX4_carry_X2_layDown
theorem dX4_carry_0 : decode cX4_carry 0 = .ok (.iconst 0, 1) := by decide +kernel
theorem dX4_carry_1 : decode cX4_carry 1 = .ok (.istore 4, 2) := by decide +kernel
theorem dX4_carry_3 : decode cX4_carry 3 = .ok (.iload 4, 2) := by decide +kernel
theorem dX4_carry_5 : decode cX4_carry 5 = .ok (.iload_n 3, 1) := by decide +kernel
theorem dX4_carry_6 : decode cX4_carry 6 = .ok (.if_icmp .ge 27, 3) := by decide +kernel
theorem dX4_carry_9 : decode cX4_carry 9 = .ok (.aload_n 0, 1) := by decide +kernel
theorem dX4_carry_10 : decode cX4_carry 10 = .ok (.getfield 23, 3) := by decide +kernel
theorem dX4_carry_13 : decode cX4_carry 13 = .ok (.iload 4, 2) := by decide +kernel
theorem dX4_carry_15 : decode cX4_carry 15 = .ok (.aload_n 0, 1) := by decide +kernel
theorem dX4_carry_16 : decode cX4_carry 16 = .ok (.getfield 12, 3) := by decide +kernel
theorem dX4_carry_19 : decode cX4_carry 19 = .ok (.iload_n 2, 1) := by decide +kernel
theorem dX4_carry_20 : decode cX4_carry 20 = .ok (.iload 4, 2) := by decide +kernel
theorem dX4_carry_22 : decode cX4_carry 22 = .ok (.iadd, 1) := by decide +kernel
theorem dX4_carry_23 : decode cX4_carry 23 = .ok (.invokevirtual 90, 3) := by decide +kernel
theorem dX4_carry_26 : decode cX4_carry 26 = .ok (.lastore, 1) := by decide +kernel
theorem dX4_carry_27 : decode cX4_carry 27 = .ok (.iinc 4 1, 3) := by decide +kernel
theorem dX4_carry_30 : decode cX4_carry 30 = .ok (.goto (-27), 3) := by decide +kernel
theorem dX4_carry_33 : decode cX4_carry 33 = .ok (.iconst 0, 1) := by decide +kernel
theorem dX4_carry_34 : decode cX4_carry 34 = .ok (.istore 4, 2) := by decide +kernel
theorem dX4_carry_36 : decode cX4_carry 36 = .ok (.iload 4, 2) := by decide +kernel
theorem dX4_carry_38 : decode cX4_carry 38 = .ok (.iload_n 3, 1) := by decide +kernel
theorem dX4_carry_39 : decode cX4_carry 39 = .ok (.if_icmp .ge 27, 3) := by decide +kernel
theorem dX4_carry_42 : decode cX4_carry 42 = .ok (.aload_n 0, 1) := by decide +kernel
theorem dX4_carry_43 : decode cX4_carry 43 = .ok (.getfield 12, 3) := by decide +kernel
theorem dX4_carry_46 : decode cX4_carry 46 = .ok (.iload_n 1, 1) := by decide +kernel
theorem dX4_carry_47 : decode cX4_carry 47 = .ok (.iload 4, 2) := by decide +kernel
theorem dX4_carry_49 : decode cX4_carry 49 = .ok (.iadd, 1) := by decide +kernel
theorem dX4_carry_50 : decode cX4_carry 50 = .ok (.aload_n 0, 1) := by decide +kernel
theorem dX4_carry_51 : decode cX4_carry 51 = .ok (.getfield 23, 3) := by decide +kernel
theorem dX4_carry_54 : decode cX4_carry 54 = .ok (.iload 4, 2) := by decide +kernel
theorem dX4_carry_56 : decode cX4_carry 56 = .ok (.laload, 1) := by decide +kernel
theorem dX4_carry_57 : decode cX4_carry 57 = .ok (.invokevirtual 97, 3) := by decide +kernel
theorem dX4_carry_60 : decode cX4_carry 60 = .ok (.iinc 4 1, 3) := by decide +kernel
theorem dX4_carry_63 : decode cX4_carry 63 = .ok (.goto (-27), 3) := by decide +kernel
theorem dX4_carry_66 : decode cX4_carry 66 = .ok (.return_, 1) := by decide +kernel
set_option maxRecDepth 20000 in
theorem ggX4_toldOf_X3_isPointer : GoodIn wsX4_toldOf wsX3_isPointer := goodIn_r _ [6] (by decide +kernel) (by decide +kernel)
set_option maxRecDepth 20000 in
theorem gX4_toldOf_X3_isPointer : GoodIn wsX4_toldOf (va_wsS RX4 52 yX3_isPointer wsX3_isPointer) := goodIn_app (goodIn_of _ (by decide +kernel)) ggX4_toldOf_X3_isPointer
set_option maxRecDepth 20000 in
theorem ggX4_toldOf_X4_oneIf : GoodIn wsX4_toldOf wsX4_oneIf := goodIn_r _ [10] (by decide +kernel) (by decide +kernel)
set_option maxRecDepth 20000 in
theorem gX4_toldOf_X4_oneIf : GoodIn wsX4_toldOf (va_wsS RX4 93 yX4_oneIf wsX4_oneIf) := goodIn_app (goodIn_of _ (by decide +kernel)) ggX4_toldOf_X4_oneIf
set_option maxRecDepth 20000 in
theorem ggX4_toldOf_X3_at : GoodIn wsX4_toldOf wsX3_at := goodIn_r _ [13] (by decide +kernel) (by decide +kernel)
set_option maxRecDepth 20000 in
theorem gX4_toldOf_X3_at : GoodIn wsX4_toldOf (va_wsS RX4 76 yX3_at wsX3_at) := goodIn_app (goodIn_of _ (by decide +kernel)) ggX4_toldOf_X3_at
set_option maxRecDepth 20000 in
theorem ggX4_toldOf_X3_from : GoodIn wsX4_toldOf wsX3_from := goodIn_r _ [16] (by decide +kernel) (by decide +kernel)
set_option maxRecDepth 20000 in
theorem gX4_toldOf_X3_from : GoodIn wsX4_toldOf (va_wsS RX4 56 yX3_from wsX3_from) := goodIn_app (goodIn_of _ (by decide +kernel)) ggX4_toldOf_X3_from
set_option maxRecDepth 20000 in
theorem ggX4_toldOf_X3_to : GoodIn wsX4_toldOf wsX3_to := goodIn_r _ [19] (by decide +kernel) (by decide +kernel)
set_option maxRecDepth 20000 in
theorem gX4_toldOf_X3_to : GoodIn wsX4_toldOf (va_wsS RX4 60 yX3_to wsX3_to) := goodIn_app (goodIn_of _ (by decide +kernel)) ggX4_toldOf_X3_to
set_option maxRecDepth 20000 in
theorem ggX4_toldOf_X3_rights : GoodIn wsX4_toldOf wsX3_rights := goodIn_r _ [22] (by decide +kernel) (by decide +kernel)
set_option maxRecDepth 20000 in
theorem gX4_toldOf_X3_rights : GoodIn wsX4_toldOf (va_wsS RX4 79 yX3_rights wsX3_rights) := goodIn_app (goodIn_of _ (by decide +kernel)) ggX4_toldOf_X3_rights
set_option maxRecDepth 20000 in
theorem ggX4_toldOf_X2_isStale : GoodIn wsX4_toldOf wsX2_isStale := goodIn_r _ [27, 28, 29, 4, 5, 6, 30, 15, 16, 31, 18, 19, 32, 33, 34, 35, 36, 37, 38, 39, 40, 41, 42, 43, 44, 45, 46, 47, 48, 52, 53, 54, 55, 56, 57, 58, 59, 60, 61, 62] (by decide +kernel) (by decide +kernel)
set_option maxRecDepth 20000 in
theorem gX4_toldOf_X2_isStale : GoodIn wsX4_toldOf (wsV RX4 185 RX2 yX2_isStale wsX2_isStale) := goodIn_app (goodIn_of _ (by decide +kernel)) ggX4_toldOf_X2_isStale
theorem dX4_toldOf_0 : decode cX4_toldOf 0 = .ok (.iload 4, 2) := by decide +kernel
theorem dX4_toldOf_2 : decode cX4_toldOf 2 = .ok (.tableswitch 84 0 6 #[42, 50, 55, 60, 65, 70, 72], 42) := by decide +kernel
theorem dX4_toldOf_44 : decode cX4_toldOf 44 = .ok (.lload_n 1, 1) := by decide +kernel
theorem dX4_toldOf_45 : decode cX4_toldOf 45 = .ok (.invokestatic 52, 3) := by decide +kernel
theorem dX4_toldOf_48 : decode cX4_toldOf 48 = .ok (.invokestatic 93, 3) := by decide +kernel
theorem dX4_toldOf_51 : decode cX4_toldOf 51 = .ok (.ireturn, 1) := by decide +kernel
theorem dX4_toldOf_52 : decode cX4_toldOf 52 = .ok (.lload_n 1, 1) := by decide +kernel
theorem dX4_toldOf_53 : decode cX4_toldOf 53 = .ok (.invokestatic 76, 3) := by decide +kernel
theorem dX4_toldOf_56 : decode cX4_toldOf 56 = .ok (.ireturn, 1) := by decide +kernel
theorem dX4_toldOf_57 : decode cX4_toldOf 57 = .ok (.lload_n 1, 1) := by decide +kernel
theorem dX4_toldOf_58 : decode cX4_toldOf 58 = .ok (.invokestatic 56, 3) := by decide +kernel
theorem dX4_toldOf_61 : decode cX4_toldOf 61 = .ok (.ireturn, 1) := by decide +kernel
theorem dX4_toldOf_62 : decode cX4_toldOf 62 = .ok (.lload_n 1, 1) := by decide +kernel
theorem dX4_toldOf_63 : decode cX4_toldOf 63 = .ok (.invokestatic 60, 3) := by decide +kernel
theorem dX4_toldOf_66 : decode cX4_toldOf 66 = .ok (.ireturn, 1) := by decide +kernel
theorem dX4_toldOf_67 : decode cX4_toldOf 67 = .ok (.lload_n 1, 1) := by decide +kernel
theorem dX4_toldOf_68 : decode cX4_toldOf 68 = .ok (.invokestatic 79, 3) := by decide +kernel
theorem dX4_toldOf_71 : decode cX4_toldOf 71 = .ok (.ireturn, 1) := by decide +kernel
theorem dX4_toldOf_72 : decode cX4_toldOf 72 = .ok (.iload_n 3, 1) := by decide +kernel
theorem dX4_toldOf_73 : decode cX4_toldOf 73 = .ok (.ireturn, 1) := by decide +kernel
theorem dX4_toldOf_74 : decode cX4_toldOf 74 = .ok (.aload_n 0, 1) := by decide +kernel
theorem dX4_toldOf_75 : decode cX4_toldOf 75 = .ok (.getfield 12, 3) := by decide +kernel
theorem dX4_toldOf_78 : decode cX4_toldOf 78 = .ok (.lload_n 1, 1) := by decide +kernel
theorem dX4_toldOf_79 : decode cX4_toldOf 79 = .ok (.invokevirtual 185, 3) := by decide +kernel
theorem dX4_toldOf_82 : decode cX4_toldOf 82 = .ok (.invokestatic 93, 3) := by decide +kernel
theorem dX4_toldOf_85 : decode cX4_toldOf 85 = .ok (.ireturn, 1) := by decide +kernel
theorem dX4_toldOf_86 : decode cX4_toldOf 86 = .ok (.ldc 74, 2) := by decide +kernel
theorem dX4_toldOf_88 : decode cX4_toldOf 88 = .ok (.ireturn, 1) := by decide +kernel
set_option maxRecDepth 20000 in
theorem ggX4_faultOf_X3_isPointer : GoodIn wsX4_faultOf wsX3_isPointer := goodIn_r _ [4] (by decide +kernel) (by decide +kernel)
set_option maxRecDepth 20000 in
theorem gX4_faultOf_X3_isPointer : GoodIn wsX4_faultOf (va_wsS RX4 52 yX3_isPointer wsX3_isPointer) := goodIn_app (goodIn_of _ (by decide +kernel)) ggX4_faultOf_X3_isPointer
set_option maxRecDepth 20000 in
theorem ggX4_faultOf_X3_rights : GoodIn wsX4_faultOf wsX3_rights := goodIn_r _ [7] (by decide +kernel) (by decide +kernel)
set_option maxRecDepth 20000 in
theorem gX4_faultOf_X3_rights : GoodIn wsX4_faultOf (va_wsS RX4 79 yX3_rights wsX3_rights) := goodIn_app (goodIn_of _ (by decide +kernel)) ggX4_faultOf_X3_rights
set_option maxRecDepth 20000 in
theorem ggX4_faultOf_X3_covers : GoodIn wsX4_faultOf wsX3_covers := goodIn_r _ [10, 11, 12, 3, 13, 14, 15, 16, 17, 18, 19] (by decide +kernel) (by decide +kernel)
set_option maxRecDepth 20000 in
theorem gX4_faultOf_X3_covers : GoodIn wsX4_faultOf (va_wsS RX4 82 yX3_covers wsX3_covers) := goodIn_app (goodIn_of _ (by decide +kernel)) ggX4_faultOf_X3_covers
theorem dX4_faultOf_0 : decode cX4_faultOf 0 = .ok (.lload_n 0, 1) := by decide +kernel
theorem dX4_faultOf_1 : decode cX4_faultOf 1 = .ok (.invokestatic 52, 3) := by decide +kernel
theorem dX4_faultOf_4 : decode cX4_faultOf 4 = .ok (.ifCond .ne 6, 3) := by decide +kernel
theorem dX4_faultOf_7 : decode cX4_faultOf 7 = .ok (.bipush (-11), 2) := by decide +kernel
theorem dX4_faultOf_9 : decode cX4_faultOf 9 = .ok (.ireturn, 1) := by decide +kernel
theorem dX4_faultOf_10 : decode cX4_faultOf 10 = .ok (.lload_n 0, 1) := by decide +kernel
theorem dX4_faultOf_11 : decode cX4_faultOf 11 = .ok (.invokestatic 79, 3) := by decide +kernel
theorem dX4_faultOf_14 : decode cX4_faultOf 14 = .ok (.iload_n 2, 1) := by decide +kernel
theorem dX4_faultOf_15 : decode cX4_faultOf 15 = .ok (.iand, 1) := by decide +kernel
theorem dX4_faultOf_16 : decode cX4_faultOf 16 = .ok (.ifCond .ne 6, 3) := by decide +kernel
theorem dX4_faultOf_19 : decode cX4_faultOf 19 = .ok (.bipush (-12), 2) := by decide +kernel
theorem dX4_faultOf_21 : decode cX4_faultOf 21 = .ok (.ireturn, 1) := by decide +kernel
theorem dX4_faultOf_22 : decode cX4_faultOf 22 = .ok (.lload_n 0, 1) := by decide +kernel
theorem dX4_faultOf_23 : decode cX4_faultOf 23 = .ok (.iload_n 3, 1) := by decide +kernel
theorem dX4_faultOf_24 : decode cX4_faultOf 24 = .ok (.iload 4, 2) := by decide +kernel
theorem dX4_faultOf_26 : decode cX4_faultOf 26 = .ok (.invokestatic 82, 3) := by decide +kernel
theorem dX4_faultOf_29 : decode cX4_faultOf 29 = .ok (.ifCond .eq 7, 3) := by decide +kernel
theorem dX4_faultOf_32 : decode cX4_faultOf 32 = .ok (.iconst 0, 1) := by decide +kernel
theorem dX4_faultOf_33 : decode cX4_faultOf 33 = .ok (.goto 5, 3) := by decide +kernel
theorem dX4_faultOf_36 : decode cX4_faultOf 36 = .ok (.bipush (-13), 2) := by decide +kernel
theorem dX4_faultOf_38 : decode cX4_faultOf 38 = .ok (.ireturn, 1) := by decide +kernel
theorem dX4_isRegister_0 : decode cX4_isRegister 0 = .ok (.iload_n 0, 1) := by decide +kernel
theorem dX4_isRegister_1 : decode cX4_isRegister 1 = .ok (.ifCond .lt 13, 3) := by decide +kernel
theorem dX4_isRegister_4 : decode cX4_isRegister 4 = .ok (.iload_n 0, 1) := by decide +kernel
theorem dX4_isRegister_5 : decode cX4_isRegister 5 = .ok (.bipush 8, 2) := by decide +kernel
theorem dX4_isRegister_7 : decode cX4_isRegister 7 = .ok (.if_icmp .ge 7, 3) := by decide +kernel
theorem dX4_isRegister_10 : decode cX4_isRegister 10 = .ok (.iconst 1, 1) := by decide +kernel
theorem dX4_isRegister_11 : decode cX4_isRegister 11 = .ok (.goto 4, 3) := by decide +kernel
theorem dX4_isRegister_14 : decode cX4_isRegister 14 = .ok (.iconst 0, 1) := by decide +kernel
theorem dX4_isRegister_15 : decode cX4_isRegister 15 = .ok (.ireturn, 1) := by decide +kernel
theorem dX4_isCell_0 : decode cX4_isCell 0 = .ok (.iload_n 0, 1) := by decide +kernel
theorem dX4_isCell_1 : decode cX4_isCell 1 = .ok (.ifCond .lt 14, 3) := by decide +kernel
theorem dX4_isCell_4 : decode cX4_isCell 4 = .ok (.iload_n 0, 1) := by decide +kernel
theorem dX4_isCell_5 : decode cX4_isCell 5 = .ok (.sipush 256, 3) := by decide +kernel
theorem dX4_isCell_8 : decode cX4_isCell 8 = .ok (.if_icmp .ge 7, 3) := by decide +kernel
theorem dX4_isCell_11 : decode cX4_isCell 11 = .ok (.iconst 1, 1) := by decide +kernel
theorem dX4_isCell_12 : decode cX4_isCell 12 = .ok (.goto 4, 3) := by decide +kernel
theorem dX4_isCell_15 : decode cX4_isCell 15 = .ok (.iconst 0, 1) := by decide +kernel
theorem dX4_isCell_16 : decode cX4_isCell 16 = .ok (.ireturn, 1) := by decide +kernel
theorem dX4_oneIf_0 : decode cX4_oneIf 0 = .ok (.iload_n 0, 1) := by decide +kernel
theorem dX4_oneIf_1 : decode cX4_oneIf 1 = .ok (.ifCond .eq 7, 3) := by decide +kernel
theorem dX4_oneIf_4 : decode cX4_oneIf 4 = .ok (.iconst 1, 1) := by decide +kernel
theorem dX4_oneIf_5 : decode cX4_oneIf 5 = .ok (.goto 4, 3) := by decide +kernel
theorem dX4_oneIf_8 : decode cX4_oneIf 8 = .ok (.iconst 0, 1) := by decide +kernel
theorem dX4_oneIf_9 : decode cX4_oneIf 9 = .ok (.ireturn, 1) := by decide +kernel
theorem dJ13_bitCount_95d88_0 : decode cJ13_bitCount_95d88 0 = .ok (.lload_n 0, 1) := by decide +kernel
theorem dJ13_bitCount_95d88_1 : decode cJ13_bitCount_95d88 1 = .ok (.lload_n 0, 1) := by decide +kernel
theorem dJ13_bitCount_95d88_2 : decode cJ13_bitCount_95d88 2 = .ok (.iconst 1, 1) := by decide +kernel
theorem dJ13_bitCount_95d88_3 : decode cJ13_bitCount_95d88 3 = .ok (.lushr, 1) := by decide +kernel
theorem dJ13_bitCount_95d88_4 : decode cJ13_bitCount_95d88 4 = .ok (.ldc2_w 314, 3) := by decide +kernel
theorem dJ13_bitCount_95d88_7 : decode cJ13_bitCount_95d88 7 = .ok (.land, 1) := by decide +kernel
theorem dJ13_bitCount_95d88_8 : decode cJ13_bitCount_95d88 8 = .ok (.lsub, 1) := by decide +kernel
theorem dJ13_bitCount_95d88_9 : decode cJ13_bitCount_95d88 9 = .ok (.lstore_n 0, 1) := by decide +kernel
theorem dJ13_bitCount_95d88_10 : decode cJ13_bitCount_95d88 10 = .ok (.lload_n 0, 1) := by decide +kernel
theorem dJ13_bitCount_95d88_11 : decode cJ13_bitCount_95d88 11 = .ok (.ldc2_w 316, 3) := by decide +kernel
theorem dJ13_bitCount_95d88_14 : decode cJ13_bitCount_95d88 14 = .ok (.land, 1) := by decide +kernel
theorem dJ13_bitCount_95d88_15 : decode cJ13_bitCount_95d88 15 = .ok (.lload_n 0, 1) := by decide +kernel
theorem dJ13_bitCount_95d88_16 : decode cJ13_bitCount_95d88 16 = .ok (.iconst 2, 1) := by decide +kernel
theorem dJ13_bitCount_95d88_17 : decode cJ13_bitCount_95d88 17 = .ok (.lushr, 1) := by decide +kernel
theorem dJ13_bitCount_95d88_18 : decode cJ13_bitCount_95d88 18 = .ok (.ldc2_w 316, 3) := by decide +kernel
theorem dJ13_bitCount_95d88_21 : decode cJ13_bitCount_95d88 21 = .ok (.land, 1) := by decide +kernel
theorem dJ13_bitCount_95d88_22 : decode cJ13_bitCount_95d88 22 = .ok (.ladd, 1) := by decide +kernel
theorem dJ13_bitCount_95d88_23 : decode cJ13_bitCount_95d88 23 = .ok (.lstore_n 0, 1) := by decide +kernel
theorem dJ13_bitCount_95d88_24 : decode cJ13_bitCount_95d88 24 = .ok (.lload_n 0, 1) := by decide +kernel
theorem dJ13_bitCount_95d88_25 : decode cJ13_bitCount_95d88 25 = .ok (.lload_n 0, 1) := by decide +kernel
theorem dJ13_bitCount_95d88_26 : decode cJ13_bitCount_95d88 26 = .ok (.iconst 4, 1) := by decide +kernel
theorem dJ13_bitCount_95d88_27 : decode cJ13_bitCount_95d88 27 = .ok (.lushr, 1) := by decide +kernel
theorem dJ13_bitCount_95d88_28 : decode cJ13_bitCount_95d88 28 = .ok (.ladd, 1) := by decide +kernel
theorem dJ13_bitCount_95d88_29 : decode cJ13_bitCount_95d88 29 = .ok (.ldc2_w 318, 3) := by decide +kernel
theorem dJ13_bitCount_95d88_32 : decode cJ13_bitCount_95d88 32 = .ok (.land, 1) := by decide +kernel
theorem dJ13_bitCount_95d88_33 : decode cJ13_bitCount_95d88 33 = .ok (.lstore_n 0, 1) := by decide +kernel
theorem dJ13_bitCount_95d88_34 : decode cJ13_bitCount_95d88 34 = .ok (.lload_n 0, 1) := by decide +kernel
theorem dJ13_bitCount_95d88_35 : decode cJ13_bitCount_95d88 35 = .ok (.lload_n 0, 1) := by decide +kernel
theorem dJ13_bitCount_95d88_36 : decode cJ13_bitCount_95d88 36 = .ok (.bipush 8, 2) := by decide +kernel
theorem dJ13_bitCount_95d88_38 : decode cJ13_bitCount_95d88 38 = .ok (.lushr, 1) := by decide +kernel
theorem dJ13_bitCount_95d88_39 : decode cJ13_bitCount_95d88 39 = .ok (.ladd, 1) := by decide +kernel
theorem dJ13_bitCount_95d88_40 : decode cJ13_bitCount_95d88 40 = .ok (.lstore_n 0, 1) := by decide +kernel
theorem dJ13_bitCount_95d88_41 : decode cJ13_bitCount_95d88 41 = .ok (.lload_n 0, 1) := by decide +kernel
theorem dJ13_bitCount_95d88_42 : decode cJ13_bitCount_95d88 42 = .ok (.lload_n 0, 1) := by decide +kernel
theorem dJ13_bitCount_95d88_43 : decode cJ13_bitCount_95d88 43 = .ok (.bipush 16, 2) := by decide +kernel
theorem dJ13_bitCount_95d88_45 : decode cJ13_bitCount_95d88 45 = .ok (.lushr, 1) := by decide +kernel
theorem dJ13_bitCount_95d88_46 : decode cJ13_bitCount_95d88 46 = .ok (.ladd, 1) := by decide +kernel
theorem dJ13_bitCount_95d88_47 : decode cJ13_bitCount_95d88 47 = .ok (.lstore_n 0, 1) := by decide +kernel
theorem dJ13_bitCount_95d88_48 : decode cJ13_bitCount_95d88 48 = .ok (.lload_n 0, 1) := by decide +kernel
theorem dJ13_bitCount_95d88_49 : decode cJ13_bitCount_95d88 49 = .ok (.lload_n 0, 1) := by decide +kernel
theorem dJ13_bitCount_95d88_50 : decode cJ13_bitCount_95d88 50 = .ok (.bipush 32, 2) := by decide +kernel
theorem dJ13_bitCount_95d88_52 : decode cJ13_bitCount_95d88 52 = .ok (.lushr, 1) := by decide +kernel
theorem dJ13_bitCount_95d88_53 : decode cJ13_bitCount_95d88 53 = .ok (.ladd, 1) := by decide +kernel
theorem dJ13_bitCount_95d88_54 : decode cJ13_bitCount_95d88 54 = .ok (.lstore_n 0, 1) := by decide +kernel
theorem dJ13_bitCount_95d88_55 : decode cJ13_bitCount_95d88 55 = .ok (.lload_n 0, 1) := by decide +kernel
theorem dJ13_bitCount_95d88_56 : decode cJ13_bitCount_95d88 56 = .ok (.l2i, 1) := by decide +kernel
theorem dJ13_bitCount_95d88_57 : decode cJ13_bitCount_95d88 57 = .ok (.bipush 127, 2) := by decide +kernel
theorem dJ13_bitCount_95d88_59 : decode cJ13_bitCount_95d88 59 = .ok (.iand, 1) := by decide +kernel
theorem dJ13_bitCount_95d88_60 : decode cJ13_bitCount_95d88 60 = .ok (.ireturn, 1) := by decide +kernel
theorem dJ9_min_7cf53_0 : decode cJ9_min_7cf53 0 = .ok (.iload_n 0, 1) := by decide +kernel
theorem dJ9_min_7cf53_1 : decode cJ9_min_7cf53 1 = .ok (.iload_n 1, 1) := by decide +kernel
theorem dJ9_min_7cf53_2 : decode cJ9_min_7cf53 2 = .ok (.if_icmp .gt 7, 3) := by decide +kernel
theorem dJ9_min_7cf53_5 : decode cJ9_min_7cf53 5 = .ok (.iload_n 0, 1) := by decide +kernel
theorem dJ9_min_7cf53_6 : decode cJ9_min_7cf53 6 = .ok (.goto 4, 3) := by decide +kernel
theorem dJ9_min_7cf53_9 : decode cJ9_min_7cf53 9 = .ok (.iload_n 1, 1) := by decide +kernel
theorem dJ9_min_7cf53_10 : decode cJ9_min_7cf53 10 = .ok (.ireturn, 1) := by decide +kernel
