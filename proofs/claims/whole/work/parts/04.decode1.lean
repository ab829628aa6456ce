theorem dX0_init_0 : decode cX0_init 0 = .ok (.aload_n 0, 1) := by decide +kernel
theorem dX0_init_1 : decode cX0_init 1 = .ok (.invokespecial 3, 3) := by decide +kernel
theorem dX0_init_4 : decode cX0_init 4 = .ok (.return_, 1) := by decide +kernel
theorem dX0_begin_0 : decode cX0_begin 0 = .ok (.aload_n 0, 1) := by decide +kernel
theorem dX0_begin_1 : decode cX0_begin 1 = .ok (.getfield 9, 3) := by decide +kernel
theorem dX0_begin_4 : decode cX0_begin 4 = .ok (.l2i, 1) := by decide +kernel
theorem dX0_begin_5 : decode cX0_begin 5 = .ok (.istore_n 2, 1) := by decide +kernel
theorem dX0_begin_6 : decode cX0_begin 6 = .ok (.aload_n 0, 1) := by decide +kernel
theorem dX0_begin_7 : decode cX0_begin 7 = .ok (.iload_n 1, 1) := by decide +kernel
theorem dX0_begin_8 : decode cX0_begin 8 = .ok (.i2l, 1) := by decide +kernel
theorem dX0_begin_9 : decode cX0_begin 9 = .ok (.putfield 9, 3) := by decide +kernel
theorem dX0_begin_12 : decode cX0_begin 12 = .ok (.iload_n 2, 1) := by decide +kernel
theorem dX0_begin_13 : decode cX0_begin 13 = .ok (.ireturn, 1) := by decide +kernel
theorem dX0_draw_0 : decode cX0_draw 0 = .ok (.aload_n 0, 1) := by decide +kernel
theorem dX0_draw_1 : decode cX0_draw 1 = .ok (.aload_n 0, 1) := by decide +kernel
theorem dX0_draw_2 : decode cX0_draw 2 = .ok (.getfield 9, 3) := by decide +kernel
theorem dX0_draw_5 : decode cX0_draw 5 = .ok (.ldc2_w 15, 3) := by decide +kernel
theorem dX0_draw_8 : decode cX0_draw 8 = .ok (.lmul, 1) := by decide +kernel
theorem dX0_draw_9 : decode cX0_draw 9 = .ok (.ldc2_w 17, 3) := by decide +kernel
theorem dX0_draw_12 : decode cX0_draw 12 = .ok (.ladd, 1) := by decide +kernel
theorem dX0_draw_13 : decode cX0_draw 13 = .ok (.ldc2_w 19, 3) := by decide +kernel
theorem dX0_draw_16 : decode cX0_draw 16 = .ok (.land, 1) := by decide +kernel
theorem dX0_draw_17 : decode cX0_draw 17 = .ok (.putfield 9, 3) := by decide +kernel
theorem dX0_draw_20 : decode cX0_draw 20 = .ok (.aload_n 0, 1) := by decide +kernel
theorem dX0_draw_21 : decode cX0_draw 21 = .ok (.getfield 9, 3) := by decide +kernel
theorem dX0_draw_24 : decode cX0_draw 24 = .ok (.ldc2_w 21, 3) := by decide +kernel
theorem dX0_draw_27 : decode cX0_draw 27 = .ok (.ldiv, 1) := by decide +kernel
theorem dX0_draw_28 : decode cX0_draw 28 = .ok (.ldc2_w 23, 3) := by decide +kernel
theorem dX0_draw_31 : decode cX0_draw 31 = .ok (.lrem, 1) := by decide +kernel
theorem dX0_draw_32 : decode cX0_draw 32 = .ok (.l2i, 1) := by decide +kernel
theorem dX0_draw_33 : decode cX0_draw 33 = .ok (.ireturn, 1) := by decide +kernel
theorem dX0_drawKind_0 : decode cX0_drawKind 0 = .ok (.aload_n 0, 1) := by decide +kernel
theorem dX0_drawKind_1 : decode cX0_drawKind 1 = .ok (.invokevirtual 25, 3) := by decide +kernel
theorem dX0_drawKind_4 : decode cX0_drawKind 4 = .ok (.iconst 3, 1) := by decide +kernel
theorem dX0_drawKind_5 : decode cX0_drawKind 5 = .ok (.irem, 1) := by decide +kernel
theorem dX0_drawKind_6 : decode cX0_drawKind 6 = .ok (.ireturn, 1) := by decide +kernel
theorem dX1_init_0 : decode cX1_init 0 = .ok (.aload_n 0, 1) := by decide +kernel
theorem dX1_init_1 : decode cX1_init 1 = .ok (.invokespecial 3, 3) := by decide +kernel
theorem dX1_init_4 : decode cX1_init 4 = .ok (.aload_n 0, 1) := by decide +kernel
theorem dX1_init_5 : decode cX1_init 5 = .ok (.bipush 8, 2) := by decide +kernel
theorem dX1_init_7 : decode cX1_init 7 = .ok (.newarray .int, 2) := by decide +kernel
theorem dX1_init_9 : decode cX1_init 9 = .ok (.putfield 9, 3) := by decide +kernel
theorem dX1_init_12 : decode cX1_init 12 = .ok (.aload_n 0, 1) := by decide +kernel
theorem dX1_init_13 : decode cX1_init 13 = .ok (.bipush 8, 2) := by decide +kernel
theorem dX1_init_15 : decode cX1_init 15 = .ok (.newarray .int, 2) := by decide +kernel
theorem dX1_init_17 : decode cX1_init 17 = .ok (.putfield 15, 3) := by decide +kernel
theorem dX1_init_20 : decode cX1_init 20 = .ok (.aload_n 0, 1) := by decide +kernel
theorem dX1_init_21 : decode cX1_init 21 = .ok (.sipush 160, 3) := by decide +kernel
theorem dX1_init_24 : decode cX1_init 24 = .ok (.newarray .int, 2) := by decide +kernel
theorem dX1_init_26 : decode cX1_init 26 = .ok (.putfield 18, 3) := by decide +kernel
theorem dX1_init_29 : decode cX1_init 29 = .ok (.getstatic 21, 3) := by decide +kernel
theorem dX1_init_32 : decode cX1_init 32 = .ok (.iconst 0, 1) := by decide +kernel
theorem dX1_init_33 : decode cX1_init 33 = .ok (.aload_n 0, 1) := by decide +kernel
theorem dX1_init_34 : decode cX1_init 34 = .ok (.getfield 9, 3) := by decide +kernel
theorem dX1_init_37 : decode cX1_init 37 = .ok (.iconst 0, 1) := by decide +kernel
theorem dX1_init_38 : decode cX1_init 38 = .ok (.bipush 8, 2) := by decide +kernel
theorem dX1_init_40 : decode cX1_init 40 = .ok (.invokestatic 24, 3) := by decide +kernel
theorem dX1_init_43 : decode cX1_init 43 = .ok (.aload_n 0, 1) := by decide +kernel
theorem dX1_init_44 : decode cX1_init 44 = .ok (.iconst (-1), 1) := by decide +kernel
theorem dX1_init_45 : decode cX1_init 45 = .ok (.putfield 30, 3) := by decide +kernel
theorem dX1_init_48 : decode cX1_init 48 = .ok (.return_, 1) := by decide +kernel
theorem dX1_valueOf_0 : decode cX1_valueOf 0 = .ok (.iload_n 1, 1) := by decide +kernel
theorem dX1_valueOf_1 : decode cX1_valueOf 1 = .ok (.ifCond .lt 21, 3) := by decide +kernel
theorem dX1_valueOf_4 : decode cX1_valueOf 4 = .ok (.iload_n 1, 1) := by decide +kernel
theorem dX1_valueOf_5 : decode cX1_valueOf 5 = .ok (.aload_n 0, 1) := by decide +kernel
theorem dX1_valueOf_6 : decode cX1_valueOf 6 = .ok (.getfield 9, 3) := by decide +kernel
theorem dX1_valueOf_9 : decode cX1_valueOf 9 = .ok (.arraylength, 1) := by decide +kernel
theorem dX1_valueOf_10 : decode cX1_valueOf 10 = .ok (.if_icmp .ge 12, 3) := by decide +kernel
theorem dX1_valueOf_13 : decode cX1_valueOf 13 = .ok (.aload_n 0, 1) := by decide +kernel
theorem dX1_valueOf_14 : decode cX1_valueOf 14 = .ok (.getfield 9, 3) := by decide +kernel
theorem dX1_valueOf_17 : decode cX1_valueOf 17 = .ok (.iload_n 1, 1) := by decide +kernel
theorem dX1_valueOf_18 : decode cX1_valueOf 18 = .ok (.iaload, 1) := by decide +kernel
theorem dX1_valueOf_19 : decode cX1_valueOf 19 = .ok (.goto 4, 3) := by decide +kernel
theorem dX1_valueOf_22 : decode cX1_valueOf 22 = .ok (.iconst 0, 1) := by decide +kernel
theorem dX1_valueOf_23 : decode cX1_valueOf 23 = .ok (.ireturn, 1) := by decide +kernel
theorem dX1_textSize_0 : decode cX1_textSize 0 = .ok (.aload_n 0, 1) := by decide +kernel
theorem dX1_textSize_1 : decode cX1_textSize 1 = .ok (.getfield 34, 3) := by decide +kernel
theorem dX1_textSize_4 : decode cX1_textSize 4 = .ok (.ireturn, 1) := by decide +kernel
theorem dX1_faultPlace_0 : decode cX1_faultPlace 0 = .ok (.aload_n 0, 1) := by decide +kernel
theorem dX1_faultPlace_1 : decode cX1_faultPlace 1 = .ok (.getfield 30, 3) := by decide +kernel
theorem dX1_faultPlace_4 : decode cX1_faultPlace 4 = .ok (.ireturn, 1) := by decide +kernel
theorem dX1_append_0 : decode cX1_append 0 = .ok (.aload_n 0, 1) := by decide +kernel
theorem dX1_append_1 : decode cX1_append 1 = .ok (.getfield 34, 3) := by decide +kernel
theorem dX1_append_4 : decode cX1_append 4 = .ok (.iload_n 1, 1) := by decide +kernel
theorem dX1_append_5 : decode cX1_append 5 = .ok (.iadd, 1) := by decide +kernel
theorem dX1_append_6 : decode cX1_append 6 = .ok (.aload_n 0, 1) := by decide +kernel
theorem dX1_append_7 : decode cX1_append 7 = .ok (.getfield 18, 3) := by decide +kernel
theorem dX1_append_10 : decode cX1_append 10 = .ok (.arraylength, 1) := by decide +kernel
theorem dX1_append_11 : decode cX1_append 11 = .ok (.if_icmp .le 7, 3) := by decide +kernel
theorem dX1_append_14 : decode cX1_append 14 = .ok (.sipush (-1004), 3) := by decide +kernel
theorem dX1_append_17 : decode cX1_append 17 = .ok (.ireturn, 1) := by decide +kernel
theorem dX1_append_18 : decode cX1_append 18 = .ok (.iload_n 1, 1) := by decide +kernel
theorem dX1_append_19 : decode cX1_append 19 = .ok (.iconst 1, 1) := by decide +kernel
theorem dX1_append_20 : decode cX1_append 20 = .ok (.isub, 1) := by decide +kernel
theorem dX1_append_21 : decode cX1_append 21 = .ok (.istore 4, 2) := by decide +kernel
theorem dX1_append_23 : decode cX1_append 23 = .ok (.iload 4, 2) := by decide +kernel
theorem dX1_append_25 : decode cX1_append 25 = .ok (.ifCond .lt 52, 3) := by decide +kernel
theorem dX1_append_28 : decode cX1_append 28 = .ok (.aload_n 0, 1) := by decide +kernel
theorem dX1_append_29 : decode cX1_append 29 = .ok (.getfield 34, 3) := by decide +kernel
theorem dX1_append_32 : decode cX1_append 32 = .ok (.aload_n 0, 1) := by decide +kernel
theorem dX1_append_33 : decode cX1_append 33 = .ok (.getfield 18, 3) := by decide +kernel
theorem dX1_append_36 : decode cX1_append 36 = .ok (.arraylength, 1) := by decide +kernel
theorem dX1_append_37 : decode cX1_append 37 = .ok (.if_icmp .ge 40, 3) := by decide +kernel
theorem dX1_append_40 : decode cX1_append 40 = .ok (.aload_n 0, 1) := by decide +kernel
theorem dX1_append_41 : decode cX1_append 41 = .ok (.getfield 18, 3) := by decide +kernel
theorem dX1_append_44 : decode cX1_append 44 = .ok (.aload_n 0, 1) := by decide +kernel
theorem dX1_append_45 : decode cX1_append 45 = .ok (.getfield 34, 3) := by decide +kernel
theorem dX1_append_48 : decode cX1_append 48 = .ok (.lload_n 2, 1) := by decide +kernel
theorem dX1_append_49 : decode cX1_append 49 = .ok (.bipush 8, 2) := by decide +kernel
theorem dX1_append_51 : decode cX1_append 51 = .ok (.iload 4, 2) := by decide +kernel
theorem dX1_append_53 : decode cX1_append 53 = .ok (.imul, 1) := by decide +kernel
theorem dX1_append_54 : decode cX1_append 54 = .ok (.lushr, 1) := by decide +kernel
theorem dX1_append_55 : decode cX1_append 55 = .ok (.ldc2_w 37, 3) := by decide +kernel
theorem dX1_append_58 : decode cX1_append 58 = .ok (.land, 1) := by decide +kernel
theorem dX1_append_59 : decode cX1_append 59 = .ok (.l2i, 1) := by decide +kernel
theorem dX1_append_60 : decode cX1_append 60 = .ok (.iastore, 1) := by decide +kernel
theorem dX1_append_61 : decode cX1_append 61 = .ok (.aload_n 0, 1) := by decide +kernel
theorem dX1_append_62 : decode cX1_append 62 = .ok (.dup, 1) := by decide +kernel
theorem dX1_append_63 : decode cX1_append 63 = .ok (.getfield 34, 3) := by decide +kernel
theorem dX1_append_66 : decode cX1_append 66 = .ok (.iconst 1, 1) := by decide +kernel
theorem dX1_append_67 : decode cX1_append 67 = .ok (.iadd, 1) := by decide +kernel
theorem dX1_append_68 : decode cX1_append 68 = .ok (.putfield 34, 3) := by decide +kernel
theorem dX1_append_71 : decode cX1_append 71 = .ok (.iinc 4 (-1), 3) := by decide +kernel
theorem dX1_append_74 : decode cX1_append 74 = .ok (.goto (-51), 3) := by decide +kernel
theorem dX1_append_77 : decode cX1_append 77 = .ok (.aload_n 0, 1) := by decide +kernel
theorem dX1_append_78 : decode cX1_append 78 = .ok (.getfield 34, 3) := by decide +kernel
theorem dX1_append_81 : decode cX1_append 81 = .ok (.ireturn, 1) := by decide +kernel
theorem dX1_takeText_0 : decode cX1_takeText 0 = .ok (.aload_n 0, 1) := by decide +kernel
theorem dX1_takeText_1 : decode cX1_takeText 1 = .ok (.invokevirtual 39, 3) := by decide +kernel
theorem dX1_takeText_4 : decode cX1_takeText 4 = .ok (.aload_n 0, 1) := by decide +kernel
theorem dX1_takeText_5 : decode cX1_takeText 5 = .ok (.iconst 0, 1) := by decide +kernel
theorem dX1_takeText_6 : decode cX1_takeText 6 = .ok (.putfield 34, 3) := by decide +kernel
theorem dX1_takeText_9 : decode cX1_takeText 9 = .ok (.aload_n 0, 1) := by decide +kernel
theorem dX1_takeText_10 : decode cX1_takeText 10 = .ok (.getfield 42, 3) := by decide +kernel
theorem dX1_takeText_13 : decode cX1_takeText 13 = .ok (.ifCond .eq 11, 3) := by decide +kernel
theorem dX1_takeText_16 : decode cX1_takeText 16 = .ok (.bipush (-10), 2) := by decide +kernel
theorem dX1_takeText_18 : decode cX1_takeText 18 = .ok (.aload_n 0, 1) := by decide +kernel
theorem dX1_takeText_19 : decode cX1_takeText 19 = .ok (.getfield 42, 3) := by decide +kernel
theorem dX1_takeText_22 : decode cX1_takeText 22 = .ok (.isub, 1) := by decide +kernel
theorem dX1_takeText_23 : decode cX1_takeText 23 = .ok (.ireturn, 1) := by decide +kernel
theorem dX1_takeText_24 : decode cX1_takeText 24 = .ok (.aload_n 0, 1) := by decide +kernel
theorem dX1_takeText_25 : decode cX1_takeText 25 = .ok (.iconst (-1), 1) := by decide +kernel
theorem dX1_takeText_26 : decode cX1_takeText 26 = .ok (.putfield 30, 3) := by decide +kernel
theorem dX1_takeText_29 : decode cX1_takeText 29 = .ok (.aload_n 0, 1) := by decide +kernel
theorem dX1_takeText_30 : decode cX1_takeText 30 = .ok (.invokevirtual 45, 3) := by decide +kernel
theorem dX1_takeText_33 : decode cX1_takeText 33 = .ok (.ireturn, 1) := by decide +kernel
theorem dX1_takeReadValues_0 : decode cX1_takeReadValues 0 = .ok (.iconst 0, 1) := by decide +kernel
theorem dX1_takeReadValues_1 : decode cX1_takeReadValues 1 = .ok (.istore_n 1, 1) := by decide +kernel
theorem dX1_takeReadValues_2 : decode cX1_takeReadValues 2 = .ok (.iconst 0, 1) := by decide +kernel
theorem dX1_takeReadValues_3 : decode cX1_takeReadValues 3 = .ok (.istore_n 2, 1) := by decide +kernel
theorem dX1_takeReadValues_4 : decode cX1_takeReadValues 4 = .ok (.iload_n 2, 1) := by decide +kernel
theorem dX1_takeReadValues_5 : decode cX1_takeReadValues 5 = .ok (.bipush 8, 2) := by decide +kernel
theorem dX1_takeReadValues_7 : decode cX1_takeReadValues 7 = .ok (.if_icmp .ge 56, 3) := by decide +kernel
theorem dX1_takeReadValues_10 : decode cX1_takeReadValues 10 = .ok (.aload_n 0, 1) := by decide +kernel
theorem dX1_takeReadValues_11 : decode cX1_takeReadValues 11 = .ok (.getfield 15, 3) := by decide +kernel
theorem dX1_takeReadValues_14 : decode cX1_takeReadValues 14 = .ok (.iload_n 2, 1) := by decide +kernel
theorem dX1_takeReadValues_15 : decode cX1_takeReadValues 15 = .ok (.iaload, 1) := by decide +kernel
theorem dX1_takeReadValues_16 : decode cX1_takeReadValues 16 = .ok (.iconst (-1), 1) := by decide +kernel
theorem dX1_takeReadValues_17 : decode cX1_takeReadValues 17 = .ok (.if_icmp .eq 7, 3) := by decide +kernel
theorem dX1_takeReadValues_20 : decode cX1_takeReadValues 20 = .ok (.iconst 1, 1) := by decide +kernel
theorem dX1_takeReadValues_21 : decode cX1_takeReadValues 21 = .ok (.goto 4, 3) := by decide +kernel
theorem dX1_takeReadValues_24 : decode cX1_takeReadValues 24 = .ok (.iconst 0, 1) := by decide +kernel
theorem dX1_takeReadValues_25 : decode cX1_takeReadValues 25 = .ok (.istore_n 3, 1) := by decide +kernel
theorem dX1_takeReadValues_26 : decode cX1_takeReadValues 26 = .ok (.iload_n 1, 1) := by decide +kernel
theorem dX1_takeReadValues_27 : decode cX1_takeReadValues 27 = .ok (.iload_n 3, 1) := by decide +kernel
theorem dX1_takeReadValues_28 : decode cX1_takeReadValues 28 = .ok (.invokestatic 49, 3) := by decide +kernel
theorem dX1_takeReadValues_31 : decode cX1_takeReadValues 31 = .ok (.iadd, 1) := by decide +kernel
theorem dX1_takeReadValues_32 : decode cX1_takeReadValues 32 = .ok (.istore_n 1, 1) := by decide +kernel
theorem dX1_takeReadValues_33 : decode cX1_takeReadValues 33 = .ok (.aload_n 0, 1) := by decide +kernel
theorem dX1_takeReadValues_34 : decode cX1_takeReadValues 34 = .ok (.getfield 9, 3) := by decide +kernel
theorem dX1_takeReadValues_37 : decode cX1_takeReadValues 37 = .ok (.iload_n 2, 1) := by decide +kernel
theorem dX1_takeReadValues_38 : decode cX1_takeReadValues 38 = .ok (.iload_n 3, 1) := by decide +kernel
theorem dX1_takeReadValues_39 : decode cX1_takeReadValues 39 = .ok (.ifCond .eq 12, 3) := by decide +kernel
theorem dX1_takeReadValues_42 : decode cX1_takeReadValues 42 = .ok (.aload_n 0, 1) := by decide +kernel
theorem dX1_takeReadValues_43 : decode cX1_takeReadValues 43 = .ok (.getfield 15, 3) := by decide +kernel
theorem dX1_takeReadValues_46 : decode cX1_takeReadValues 46 = .ok (.iload_n 2, 1) := by decide +kernel
theorem dX1_takeReadValues_47 : decode cX1_takeReadValues 47 = .ok (.iaload, 1) := by decide +kernel
theorem dX1_takeReadValues_48 : decode cX1_takeReadValues 48 = .ok (.goto 8, 3) := by decide +kernel
theorem dX1_takeReadValues_51 : decode cX1_takeReadValues 51 = .ok (.getstatic 21, 3) := by decide +kernel
theorem dX1_takeReadValues_54 : decode cX1_takeReadValues 54 = .ok (.iload_n 2, 1) := by decide +kernel
theorem dX1_takeReadValues_55 : decode cX1_takeReadValues 55 = .ok (.iaload, 1) := by decide +kernel
theorem dX1_takeReadValues_56 : decode cX1_takeReadValues 56 = .ok (.iastore, 1) := by decide +kernel
theorem dX1_takeReadValues_57 : decode cX1_takeReadValues 57 = .ok (.iinc 2 1, 3) := by decide +kernel
theorem dX1_takeReadValues_60 : decode cX1_takeReadValues 60 = .ok (.goto (-56), 3) := by decide +kernel
theorem dX1_takeReadValues_63 : decode cX1_takeReadValues 63 = .ok (.iload_n 1, 1) := by decide +kernel
theorem dX1_takeReadValues_64 : decode cX1_takeReadValues 64 = .ok (.ireturn, 1) := by decide +kernel
theorem dX1_readText_0 : decode cX1_readText 0 = .ok (.aload_n 0, 1) := by decide +kernel
theorem dX1_readText_1 : decode cX1_readText 1 = .ok (.iconst 0, 1) := by decide +kernel
theorem dX1_readText_2 : decode cX1_readText 2 = .ok (.putfield 53, 3) := by decide +kernel
theorem dX1_readText_5 : decode cX1_readText 5 = .ok (.aload_n 0, 1) := by decide +kernel
theorem dX1_readText_6 : decode cX1_readText 6 = .ok (.iconst 0, 1) := by decide +kernel
theorem dX1_readText_7 : decode cX1_readText 7 = .ok (.putfield 42, 3) := by decide +kernel
theorem dX1_readText_10 : decode cX1_readText 10 = .ok (.iconst 0, 1) := by decide +kernel
theorem dX1_readText_11 : decode cX1_readText 11 = .ok (.istore_n 1, 1) := by decide +kernel
theorem dX1_readText_12 : decode cX1_readText 12 = .ok (.iload_n 1, 1) := by decide +kernel
theorem dX1_readText_13 : decode cX1_readText 13 = .ok (.bipush 8, 2) := by decide +kernel
theorem dX1_readText_15 : decode cX1_readText 15 = .ok (.if_icmp .ge 16, 3) := by decide +kernel
theorem dX1_readText_18 : decode cX1_readText 18 = .ok (.aload_n 0, 1) := by decide +kernel
theorem dX1_readText_19 : decode cX1_readText 19 = .ok (.getfield 15, 3) := by decide +kernel
theorem dX1_readText_22 : decode cX1_readText 22 = .ok (.iload_n 1, 1) := by decide +kernel
theorem dX1_readText_23 : decode cX1_readText 23 = .ok (.iconst (-1), 1) := by decide +kernel
theorem dX1_readText_24 : decode cX1_readText 24 = .ok (.iastore, 1) := by decide +kernel
theorem dX1_readText_25 : decode cX1_readText 25 = .ok (.iinc 1 1, 3) := by decide +kernel
theorem dX1_readText_28 : decode cX1_readText 28 = .ok (.goto (-16), 3) := by decide +kernel
theorem dX1_readText_31 : decode cX1_readText 31 = .ok (.aload_n 0, 1) := by decide +kernel
theorem dX1_readText_32 : decode cX1_readText 32 = .ok (.invokevirtual 56, 3) := by decide +kernel
theorem dX1_readText_35 : decode cX1_readText 35 = .ok (.iconst 0, 1) := by decide +kernel
theorem dX1_readText_36 : decode cX1_readText 36 = .ok (.istore_n 1, 1) := by decide +kernel
theorem dX1_readText_37 : decode cX1_readText 37 = .ok (.iload_n 1, 1) := by decide +kernel
theorem dX1_readText_38 : decode cX1_readText 38 = .ok (.bipush 8, 2) := by decide +kernel
theorem dX1_readText_40 : decode cX1_readText 40 = .ok (.if_icmp .gt 35, 3) := by decide +kernel
theorem dX1_readText_43 : decode cX1_readText 43 = .ok (.aload_n 0, 1) := by decide +kernel
theorem dX1_readText_44 : decode cX1_readText 44 = .ok (.getfield 53, 3) := by decide +kernel
theorem dX1_readText_47 : decode cX1_readText 47 = .ok (.aload_n 0, 1) := by decide +kernel
theorem dX1_readText_48 : decode cX1_readText 48 = .ok (.getfield 34, 3) := by decide +kernel
theorem dX1_readText_51 : decode cX1_readText 51 = .ok (.if_icmp .ge 24, 3) := by decide +kernel
theorem dX1_readText_54 : decode cX1_readText 54 = .ok (.aload_n 0, 1) := by decide +kernel
theorem dX1_readText_55 : decode cX1_readText 55 = .ok (.getfield 42, 3) := by decide +kernel
theorem dX1_readText_58 : decode cX1_readText 58 = .ok (.ifCond .ne 17, 3) := by decide +kernel
theorem dX1_readText_61 : decode cX1_readText 61 = .ok (.aload_n 0, 1) := by decide +kernel
theorem dX1_readText_62 : decode cX1_readText 62 = .ok (.invokevirtual 59, 3) := by decide +kernel
theorem dX1_readText_65 : decode cX1_readText 65 = .ok (.aload_n 0, 1) := by decide +kernel
theorem dX1_readText_66 : decode cX1_readText 66 = .ok (.invokevirtual 56, 3) := by decide +kernel
theorem dX1_readText_69 : decode cX1_readText 69 = .ok (.iinc 1 1, 3) := by decide +kernel
theorem dX1_readText_72 : decode cX1_readText 72 = .ok (.goto (-35), 3) := by decide +kernel
theorem dX1_readText_75 : decode cX1_readText 75 = .ok (.return_, 1) := by decide +kernel
theorem dX1_readClause_0 : decode cX1_readClause 0 = .ok (.aload_n 0, 1) := by decide +kernel
theorem dX1_readClause_1 : decode cX1_readClause 1 = .ok (.invokevirtual 62, 3) := by decide +kernel
theorem dX1_readClause_4 : decode cX1_readClause 4 = .ok (.istore_n 1, 1) := by decide +kernel
theorem dX1_readClause_5 : decode cX1_readClause 5 = .ok (.aload_n 0, 1) := by decide +kernel
theorem dX1_readClause_6 : decode cX1_readClause 6 = .ok (.getfield 42, 3) := by decide +kernel
theorem dX1_readClause_9 : decode cX1_readClause 9 = .ok (.ifCond .ne 30, 3) := by decide +kernel
theorem dX1_readClause_12 : decode cX1_readClause 12 = .ok (.aload_n 0, 1) := by decide +kernel
theorem dX1_readClause_13 : decode cX1_readClause 13 = .ok (.invokevirtual 56, 3) := by decide +kernel
theorem dX1_readClause_16 : decode cX1_readClause 16 = .ok (.aload_n 0, 1) := by decide +kernel
theorem dX1_readClause_17 : decode cX1_readClause 17 = .ok (.iload_n 1, 1) := by decide +kernel
theorem dX1_readClause_18 : decode cX1_readClause 18 = .ok (.invokevirtual 65, 3) := by decide +kernel
theorem dX1_readClause_21 : decode cX1_readClause 21 = .ok (.istore_n 2, 1) := by decide +kernel
theorem dX1_readClause_22 : decode cX1_readClause 22 = .ok (.aload_n 0, 1) := by decide +kernel
theorem dX1_readClause_23 : decode cX1_readClause 23 = .ok (.invokevirtual 56, 3) := by decide +kernel
theorem dX1_readClause_26 : decode cX1_readClause 26 = .ok (.aload_n 0, 1) := by decide +kernel
theorem dX1_readClause_27 : decode cX1_readClause 27 = .ok (.getfield 42, 3) := by decide +kernel
theorem dX1_readClause_30 : decode cX1_readClause 30 = .ok (.ifCond .ne 9, 3) := by decide +kernel
theorem dX1_readClause_33 : decode cX1_readClause 33 = .ok (.aload_n 0, 1) := by decide +kernel
theorem dX1_readClause_34 : decode cX1_readClause 34 = .ok (.iload_n 1, 1) := by decide +kernel
theorem dX1_readClause_35 : decode cX1_readClause 35 = .ok (.iload_n 2, 1) := by decide +kernel
theorem dX1_readClause_36 : decode cX1_readClause 36 = .ok (.invokevirtual 69, 3) := by decide +kernel
theorem dX1_readClause_39 : decode cX1_readClause 39 = .ok (.return_, 1) := by decide +kernel
theorem dX1_readWord_0 : decode cX1_readWord 0 = .ok (.aload_n 0, 1) := by decide +kernel
theorem dX1_readWord_1 : decode cX1_readWord 1 = .ok (.getfield 53, 3) := by decide +kernel
theorem dX1_readWord_4 : decode cX1_readWord 4 = .ok (.istore_n 1, 1) := by decide +kernel
theorem dX1_readWord_5 : decode cX1_readWord 5 = .ok (.aload_n 0, 1) := by decide +kernel
theorem dX1_readWord_6 : decode cX1_readWord 6 = .ok (.getfield 53, 3) := by decide +kernel
theorem dX1_readWord_9 : decode cX1_readWord 9 = .ok (.aload_n 0, 1) := by decide +kernel
theorem dX1_readWord_10 : decode cX1_readWord 10 = .ok (.getfield 34, 3) := by decide +kernel
theorem dX1_readWord_13 : decode cX1_readWord 13 = .ok (.if_icmp .ge 30, 3) := by decide +kernel
theorem dX1_readWord_16 : decode cX1_readWord 16 = .ok (.aload_n 0, 1) := by decide +kernel
theorem dX1_readWord_17 : decode cX1_readWord 17 = .ok (.aload_n 0, 1) := by decide +kernel
theorem dX1_readWord_18 : decode cX1_readWord 18 = .ok (.getfield 53, 3) := by decide +kernel
theorem dX1_readWord_21 : decode cX1_readWord 21 = .ok (.invokevirtual 73, 3) := by decide +kernel
theorem dX1_readWord_24 : decode cX1_readWord 24 = .ok (.invokestatic 76, 3) := by decide +kernel
theorem dX1_readWord_27 : decode cX1_readWord 27 = .ok (.ifCond .eq 16, 3) := by decide +kernel
theorem dX1_readWord_30 : decode cX1_readWord 30 = .ok (.aload_n 0, 1) := by decide +kernel
theorem dX1_readWord_31 : decode cX1_readWord 31 = .ok (.dup, 1) := by decide +kernel
theorem dX1_readWord_32 : decode cX1_readWord 32 = .ok (.getfield 53, 3) := by decide +kernel
theorem dX1_readWord_35 : decode cX1_readWord 35 = .ok (.iconst 1, 1) := by decide +kernel
theorem dX1_readWord_36 : decode cX1_readWord 36 = .ok (.iadd, 1) := by decide +kernel
theorem dX1_readWord_37 : decode cX1_readWord 37 = .ok (.putfield 53, 3) := by decide +kernel
theorem dX1_readWord_40 : decode cX1_readWord 40 = .ok (.goto (-35), 3) := by decide +kernel
theorem dX1_readWord_43 : decode cX1_readWord 43 = .ok (.iconst 0, 1) := by decide +kernel
theorem dX1_readWord_44 : decode cX1_readWord 44 = .ok (.istore_n 2, 1) := by decide +kernel
theorem dX1_readWord_45 : decode cX1_readWord 45 = .ok (.iload_n 2, 1) := by decide +kernel
theorem dX1_readWord_46 : decode cX1_readWord 46 = .ok (.bipush 8, 2) := by decide +kernel
theorem dX1_readWord_48 : decode cX1_readWord 48 = .ok (.if_icmp .ge 43, 3) := by decide +kernel
theorem dX1_readWord_51 : decode cX1_readWord 51 = .ok (.aload_n 0, 1) := by decide +kernel
theorem dX1_readWord_52 : decode cX1_readWord 52 = .ok (.iload_n 2, 1) := by decide +kernel
theorem dX1_readWord_53 : decode cX1_readWord 53 = .ok (.invokestatic 80, 3) := by decide +kernel
theorem dX1_readWord_56 : decode cX1_readWord 56 = .ok (.iload_n 1, 1) := by decide +kernel
theorem dX1_readWord_57 : decode cX1_readWord 57 = .ok (.aload_n 0, 1) := by decide +kernel
theorem dX1_readWord_58 : decode cX1_readWord 58 = .ok (.getfield 53, 3) := by decide +kernel
theorem dX1_readWord_61 : decode cX1_readWord 61 = .ok (.invokevirtual 84, 3) := by decide +kernel
theorem dX1_readWord_64 : decode cX1_readWord 64 = .ok (.ifCond .eq 21, 3) := by decide +kernel
theorem dX1_readWord_67 : decode cX1_readWord 67 = .ok (.aload_n 0, 1) := by decide +kernel
theorem dX1_readWord_68 : decode cX1_readWord 68 = .ok (.getfield 15, 3) := by decide +kernel
theorem dX1_readWord_71 : decode cX1_readWord 71 = .ok (.iload_n 2, 1) := by decide +kernel
theorem dX1_readWord_72 : decode cX1_readWord 72 = .ok (.iaload, 1) := by decide +kernel
theorem dX1_readWord_73 : decode cX1_readWord 73 = .ok (.iconst (-1), 1) := by decide +kernel
theorem dX1_readWord_74 : decode cX1_readWord 74 = .ok (.if_icmp .eq 9, 3) := by decide +kernel
theorem dX1_readWord_77 : decode cX1_readWord 77 = .ok (.aload_n 0, 1) := by decide +kernel
theorem dX1_readWord_78 : decode cX1_readWord 78 = .ok (.iconst 3, 1) := by decide +kernel
theorem dX1_readWord_79 : decode cX1_readWord 79 = .ok (.iload_n 1, 1) := by decide +kernel
theorem dX1_readWord_80 : decode cX1_readWord 80 = .ok (.invokevirtual 88, 3) := by decide +kernel
theorem dX1_readWord_83 : decode cX1_readWord 83 = .ok (.iload_n 2, 1) := by decide +kernel
theorem dX1_readWord_84 : decode cX1_readWord 84 = .ok (.ireturn, 1) := by decide +kernel
theorem dX1_readWord_85 : decode cX1_readWord 85 = .ok (.iinc 2 1, 3) := by decide +kernel
theorem dX1_readWord_88 : decode cX1_readWord 88 = .ok (.goto (-43), 3) := by decide +kernel
theorem dX1_readWord_91 : decode cX1_readWord 91 = .ok (.aload_n 0, 1) := by decide +kernel
theorem dX1_readWord_92 : decode cX1_readWord 92 = .ok (.iconst 1, 1) := by decide +kernel
theorem dX1_readWord_93 : decode cX1_readWord 93 = .ok (.iload_n 1, 1) := by decide +kernel
theorem dX1_readWord_94 : decode cX1_readWord 94 = .ok (.invokevirtual 88, 3) := by decide +kernel
theorem dX1_readWord_97 : decode cX1_readWord 97 = .ok (.iconst (-1), 1) := by decide +kernel
theorem dX1_readWord_98 : decode cX1_readWord 98 = .ok (.ireturn, 1) := by decide +kernel
theorem dX1_readNumber_0 : decode cX1_readNumber 0 = .ok (.aload_n 0, 1) := by decide +kernel
theorem dX1_readNumber_1 : decode cX1_readNumber 1 = .ok (.getfield 53, 3) := by decide +kernel
theorem dX1_readNumber_4 : decode cX1_readNumber 4 = .ok (.istore_n 2, 1) := by decide +kernel
theorem dX1_readNumber_5 : decode cX1_readNumber 5 = .ok (.iconst 0, 1) := by decide +kernel
theorem dX1_readNumber_6 : decode cX1_readNumber 6 = .ok (.istore_n 3, 1) := by decide +kernel
theorem dX1_readNumber_7 : decode cX1_readNumber 7 = .ok (.aload_n 0, 1) := by decide +kernel
theorem dX1_readNumber_8 : decode cX1_readNumber 8 = .ok (.getfield 53, 3) := by decide +kernel
theorem dX1_readNumber_11 : decode cX1_readNumber 11 = .ok (.aload_n 0, 1) := by decide +kernel
theorem dX1_readNumber_12 : decode cX1_readNumber 12 = .ok (.getfield 34, 3) := by decide +kernel
theorem dX1_readNumber_15 : decode cX1_readNumber 15 = .ok (.if_icmp .ge 57, 3) := by decide +kernel
theorem dX1_readNumber_18 : decode cX1_readNumber 18 = .ok (.aload_n 0, 1) := by decide +kernel
theorem dX1_readNumber_19 : decode cX1_readNumber 19 = .ok (.aload_n 0, 1) := by decide +kernel
theorem dX1_readNumber_20 : decode cX1_readNumber 20 = .ok (.getfield 53, 3) := by decide +kernel
theorem dX1_readNumber_23 : decode cX1_readNumber 23 = .ok (.invokevirtual 73, 3) := by decide +kernel
theorem dX1_readNumber_26 : decode cX1_readNumber 26 = .ok (.invokestatic 91, 3) := by decide +kernel
theorem dX1_readNumber_29 : decode cX1_readNumber 29 = .ok (.ifCond .eq 43, 3) := by decide +kernel
theorem dX1_readNumber_32 : decode cX1_readNumber 32 = .ok (.aload_n 0, 1) := by decide +kernel
theorem dX1_readNumber_33 : decode cX1_readNumber 33 = .ok (.getfield 53, 3) := by decide +kernel
theorem dX1_readNumber_36 : decode cX1_readNumber 36 = .ok (.iload_n 2, 1) := by decide +kernel
theorem dX1_readNumber_37 : decode cX1_readNumber 37 = .ok (.isub, 1) := by decide +kernel
theorem dX1_readNumber_38 : decode cX1_readNumber 38 = .ok (.iconst 3, 1) := by decide +kernel
theorem dX1_readNumber_39 : decode cX1_readNumber 39 = .ok (.if_icmp .ge 20, 3) := by decide +kernel
theorem dX1_readNumber_42 : decode cX1_readNumber 42 = .ok (.iload_n 3, 1) := by decide +kernel
theorem dX1_readNumber_43 : decode cX1_readNumber 43 = .ok (.bipush 10, 2) := by decide +kernel
theorem dX1_readNumber_45 : decode cX1_readNumber 45 = .ok (.imul, 1) := by decide +kernel
theorem dX1_readNumber_46 : decode cX1_readNumber 46 = .ok (.aload_n 0, 1) := by decide +kernel
theorem dX1_readNumber_47 : decode cX1_readNumber 47 = .ok (.aload_n 0, 1) := by decide +kernel
theorem dX1_readNumber_48 : decode cX1_readNumber 48 = .ok (.getfield 53, 3) := by decide +kernel
theorem dX1_readNumber_51 : decode cX1_readNumber 51 = .ok (.invokevirtual 73, 3) := by decide +kernel
theorem dX1_readNumber_54 : decode cX1_readNumber 54 = .ok (.iadd, 1) := by decide +kernel
theorem dX1_readNumber_55 : decode cX1_readNumber 55 = .ok (.bipush 48, 2) := by decide +kernel
theorem dX1_readNumber_57 : decode cX1_readNumber 57 = .ok (.isub, 1) := by decide +kernel
theorem dX1_readNumber_58 : decode cX1_readNumber 58 = .ok (.istore_n 3, 1) := by decide +kernel
theorem dX1_readNumber_59 : decode cX1_readNumber 59 = .ok (.aload_n 0, 1) := by decide +kernel
theorem dX1_readNumber_60 : decode cX1_readNumber 60 = .ok (.dup, 1) := by decide +kernel
theorem dX1_readNumber_61 : decode cX1_readNumber 61 = .ok (.getfield 53, 3) := by decide +kernel
theorem dX1_readNumber_64 : decode cX1_readNumber 64 = .ok (.iconst 1, 1) := by decide +kernel
theorem dX1_readNumber_65 : decode cX1_readNumber 65 = .ok (.iadd, 1) := by decide +kernel
theorem dX1_readNumber_66 : decode cX1_readNumber 66 = .ok (.putfield 53, 3) := by decide +kernel
theorem dX1_readNumber_69 : decode cX1_readNumber 69 = .ok (.goto (-62), 3) := by decide +kernel
theorem dX1_readNumber_72 : decode cX1_readNumber 72 = .ok (.aload_n 0, 1) := by decide +kernel
theorem dX1_readNumber_73 : decode cX1_readNumber 73 = .ok (.getfield 53, 3) := by decide +kernel
theorem dX1_readNumber_76 : decode cX1_readNumber 76 = .ok (.iload_n 2, 1) := by decide +kernel
theorem dX1_readNumber_77 : decode cX1_readNumber 77 = .ok (.if_icmp .ne 12, 3) := by decide +kernel
theorem dX1_readNumber_80 : decode cX1_readNumber 80 = .ok (.aload_n 0, 1) := by decide +kernel
theorem dX1_readNumber_81 : decode cX1_readNumber 81 = .ok (.iconst 1, 1) := by decide +kernel
theorem dX1_readNumber_82 : decode cX1_readNumber 82 = .ok (.iload_n 2, 1) := by decide +kernel
theorem dX1_readNumber_83 : decode cX1_readNumber 83 = .ok (.invokevirtual 88, 3) := by decide +kernel
theorem dX1_readNumber_86 : decode cX1_readNumber 86 = .ok (.goto 27, 3) := by decide +kernel
theorem dX1_readNumber_89 : decode cX1_readNumber 89 = .ok (.aload_n 0, 1) := by decide +kernel
theorem dX1_readNumber_90 : decode cX1_readNumber 90 = .ok (.getfield 53, 3) := by decide +kernel
theorem dX1_readNumber_93 : decode cX1_readNumber 93 = .ok (.iload_n 2, 1) := by decide +kernel
theorem dX1_readNumber_94 : decode cX1_readNumber 94 = .ok (.isub, 1) := by decide +kernel
theorem dX1_readNumber_95 : decode cX1_readNumber 95 = .ok (.iconst 3, 1) := by decide +kernel
theorem dX1_readNumber_96 : decode cX1_readNumber 96 = .ok (.if_icmp .gt 11, 3) := by decide +kernel
theorem dX1_readNumber_99 : decode cX1_readNumber 99 = .ok (.iload_n 1, 1) := by decide +kernel
theorem dX1_readNumber_100 : decode cX1_readNumber 100 = .ok (.iload_n 3, 1) := by decide +kernel
theorem dX1_readNumber_101 : decode cX1_readNumber 101 = .ok (.invokestatic 94, 3) := by decide +kernel
theorem dX1_readNumber_104 : decode cX1_readNumber 104 = .ok (.ifCond .ne 9, 3) := by decide +kernel
theorem dX1_readNumber_107 : decode cX1_readNumber 107 = .ok (.aload_n 0, 1) := by decide +kernel
theorem dX1_readNumber_108 : decode cX1_readNumber 108 = .ok (.iconst 2, 1) := by decide +kernel
theorem dX1_readNumber_109 : decode cX1_readNumber 109 = .ok (.iload_n 2, 1) := by decide +kernel
theorem dX1_readNumber_110 : decode cX1_readNumber 110 = .ok (.invokevirtual 88, 3) := by decide +kernel
theorem dX1_readNumber_113 : decode cX1_readNumber 113 = .ok (.iload_n 3, 1) := by decide +kernel
theorem dX1_readNumber_114 : decode cX1_readNumber 114 = .ok (.ireturn, 1) := by decide +kernel
theorem dX1_readEnd_0 : decode cX1_readEnd 0 = .ok (.aload_n 0, 1) := by decide +kernel
theorem dX1_readEnd_1 : decode cX1_readEnd 1 = .ok (.aload_n 0, 1) := by decide +kernel
theorem dX1_readEnd_2 : decode cX1_readEnd 2 = .ok (.getfield 53, 3) := by decide +kernel
theorem dX1_readEnd_5 : decode cX1_readEnd 5 = .ok (.invokevirtual 73, 3) := by decide +kernel
theorem dX1_readEnd_8 : decode cX1_readEnd 8 = .ok (.bipush 59, 2) := by decide +kernel
theorem dX1_readEnd_10 : decode cX1_readEnd 10 = .ok (.if_icmp .eq 15, 3) := by decide +kernel
theorem dX1_readEnd_13 : decode cX1_readEnd 13 = .ok (.aload_n 0, 1) := by decide +kernel
theorem dX1_readEnd_14 : decode cX1_readEnd 14 = .ok (.iconst 1, 1) := by decide +kernel
theorem dX1_readEnd_15 : decode cX1_readEnd 15 = .ok (.aload_n 0, 1) := by decide +kernel
theorem dX1_readEnd_16 : decode cX1_readEnd 16 = .ok (.getfield 53, 3) := by decide +kernel
theorem dX1_readEnd_19 : decode cX1_readEnd 19 = .ok (.invokevirtual 88, 3) := by decide +kernel
theorem dX1_readEnd_22 : decode cX1_readEnd 22 = .ok (.goto 33, 3) := by decide +kernel
theorem dX1_readEnd_25 : decode cX1_readEnd 25 = .ok (.iload_n 1, 1) := by decide +kernel
theorem dX1_readEnd_26 : decode cX1_readEnd 26 = .ok (.ifCond .lt 29, 3) := by decide +kernel
theorem dX1_readEnd_29 : decode cX1_readEnd 29 = .ok (.iload_n 1, 1) := by decide +kernel
theorem dX1_readEnd_30 : decode cX1_readEnd 30 = .ok (.aload_n 0, 1) := by decide +kernel
theorem dX1_readEnd_31 : decode cX1_readEnd 31 = .ok (.getfield 15, 3) := by decide +kernel
theorem dX1_readEnd_34 : decode cX1_readEnd 34 = .ok (.arraylength, 1) := by decide +kernel
theorem dX1_readEnd_35 : decode cX1_readEnd 35 = .ok (.if_icmp .ge 20, 3) := by decide +kernel
theorem dX1_readEnd_38 : decode cX1_readEnd 38 = .ok (.aload_n 0, 1) := by decide +kernel
theorem dX1_readEnd_39 : decode cX1_readEnd 39 = .ok (.dup, 1) := by decide +kernel
theorem dX1_readEnd_40 : decode cX1_readEnd 40 = .ok (.getfield 53, 3) := by decide +kernel
theorem dX1_readEnd_43 : decode cX1_readEnd 43 = .ok (.iconst 1, 1) := by decide +kernel
theorem dX1_readEnd_44 : decode cX1_readEnd 44 = .ok (.iadd, 1) := by decide +kernel
theorem dX1_readEnd_45 : decode cX1_readEnd 45 = .ok (.putfield 53, 3) := by decide +kernel
theorem dX1_readEnd_48 : decode cX1_readEnd 48 = .ok (.aload_n 0, 1) := by decide +kernel
theorem dX1_readEnd_49 : decode cX1_readEnd 49 = .ok (.getfield 15, 3) := by decide +kernel
theorem dX1_readEnd_52 : decode cX1_readEnd 52 = .ok (.iload_n 1, 1) := by decide +kernel
theorem dX1_readEnd_53 : decode cX1_readEnd 53 = .ok (.iload_n 2, 1) := by decide +kernel
theorem dX1_readEnd_54 : decode cX1_readEnd 54 = .ok (.iastore, 1) := by decide +kernel
theorem dX1_readEnd_55 : decode cX1_readEnd 55 = .ok (.return_, 1) := by decide +kernel
theorem dX1_skipBlanks_0 : decode cX1_skipBlanks 0 = .ok (.aload_n 0, 1) := by decide +kernel
theorem dX1_skipBlanks_1 : decode cX1_skipBlanks 1 = .ok (.getfield 53, 3) := by decide +kernel
theorem dX1_skipBlanks_4 : decode cX1_skipBlanks 4 = .ok (.aload_n 0, 1) := by decide +kernel
theorem dX1_skipBlanks_5 : decode cX1_skipBlanks 5 = .ok (.getfield 34, 3) := by decide +kernel
theorem dX1_skipBlanks_8 : decode cX1_skipBlanks 8 = .ok (.if_icmp .ge 29, 3) := by decide +kernel
theorem dX1_skipBlanks_11 : decode cX1_skipBlanks 11 = .ok (.aload_n 0, 1) := by decide +kernel
theorem dX1_skipBlanks_12 : decode cX1_skipBlanks 12 = .ok (.aload_n 0, 1) := by decide +kernel
theorem dX1_skipBlanks_13 : decode cX1_skipBlanks 13 = .ok (.getfield 53, 3) := by decide +kernel
theorem dX1_skipBlanks_16 : decode cX1_skipBlanks 16 = .ok (.invokevirtual 73, 3) := by decide +kernel
theorem dX1_skipBlanks_19 : decode cX1_skipBlanks 19 = .ok (.bipush 32, 2) := by decide +kernel
theorem dX1_skipBlanks_21 : decode cX1_skipBlanks 21 = .ok (.if_icmp .ne 16, 3) := by decide +kernel
theorem dX1_skipBlanks_24 : decode cX1_skipBlanks 24 = .ok (.aload_n 0, 1) := by decide +kernel
theorem dX1_skipBlanks_25 : decode cX1_skipBlanks 25 = .ok (.dup, 1) := by decide +kernel
theorem dX1_skipBlanks_26 : decode cX1_skipBlanks 26 = .ok (.getfield 53, 3) := by decide +kernel
theorem dX1_skipBlanks_29 : decode cX1_skipBlanks 29 = .ok (.iconst 1, 1) := by decide +kernel
theorem dX1_skipBlanks_30 : decode cX1_skipBlanks 30 = .ok (.iadd, 1) := by decide +kernel
theorem dX1_skipBlanks_31 : decode cX1_skipBlanks 31 = .ok (.putfield 53, 3) := by decide +kernel
theorem dX1_skipBlanks_34 : decode cX1_skipBlanks 34 = .ok (.goto (-34), 3) := by decide +kernel
theorem dX1_skipBlanks_37 : decode cX1_skipBlanks 37 = .ok (.return_, 1) := by decide +kernel
theorem dX1_blame_0 : decode cX1_blame 0 = .ok (.aload_n 0, 1) := by decide +kernel
theorem dX1_blame_1 : decode cX1_blame 1 = .ok (.iload_n 1, 1) := by decide +kernel
theorem dX1_blame_2 : decode cX1_blame 2 = .ok (.putfield 42, 3) := by decide +kernel
theorem dX1_blame_5 : decode cX1_blame 5 = .ok (.aload_n 0, 1) := by decide +kernel
theorem dX1_blame_6 : decode cX1_blame 6 = .ok (.iload_n 2, 1) := by decide +kernel
theorem dX1_blame_7 : decode cX1_blame 7 = .ok (.putfield 30, 3) := by decide +kernel
theorem dX1_blame_10 : decode cX1_blame 10 = .ok (.return_, 1) := by decide +kernel
theorem dX1_byteAt_0 : decode cX1_byteAt 0 = .ok (.iload_n 1, 1) := by decide +kernel
theorem dX1_byteAt_1 : decode cX1_byteAt 1 = .ok (.ifCond .lt 29, 3) := by decide +kernel
theorem dX1_byteAt_4 : decode cX1_byteAt 4 = .ok (.iload_n 1, 1) := by decide +kernel
theorem dX1_byteAt_5 : decode cX1_byteAt 5 = .ok (.aload_n 0, 1) := by decide +kernel
theorem dX1_byteAt_6 : decode cX1_byteAt 6 = .ok (.getfield 34, 3) := by decide +kernel
theorem dX1_byteAt_9 : decode cX1_byteAt 9 = .ok (.if_icmp .ge 21, 3) := by decide +kernel
theorem dX1_byteAt_12 : decode cX1_byteAt 12 = .ok (.iload_n 1, 1) := by decide +kernel
theorem dX1_byteAt_13 : decode cX1_byteAt 13 = .ok (.aload_n 0, 1) := by decide +kernel
theorem dX1_byteAt_14 : decode cX1_byteAt 14 = .ok (.getfield 18, 3) := by decide +kernel
theorem dX1_byteAt_17 : decode cX1_byteAt 17 = .ok (.arraylength, 1) := by decide +kernel
theorem dX1_byteAt_18 : decode cX1_byteAt 18 = .ok (.if_icmp .ge 12, 3) := by decide +kernel
theorem dX1_byteAt_21 : decode cX1_byteAt 21 = .ok (.aload_n 0, 1) := by decide +kernel
theorem dX1_byteAt_22 : decode cX1_byteAt 22 = .ok (.getfield 18, 3) := by decide +kernel
theorem dX1_byteAt_25 : decode cX1_byteAt 25 = .ok (.iload_n 1, 1) := by decide +kernel
theorem dX1_byteAt_26 : decode cX1_byteAt 26 = .ok (.iaload, 1) := by decide +kernel
theorem dX1_byteAt_27 : decode cX1_byteAt 27 = .ok (.goto 4, 3) := by decide +kernel
theorem dX1_byteAt_30 : decode cX1_byteAt 30 = .ok (.iconst (-1), 1) := by decide +kernel
theorem dX1_byteAt_31 : decode cX1_byteAt 31 = .ok (.ireturn, 1) := by decide +kernel
theorem dX1_isWord_0 : decode cX1_isWord 0 = .ok (.aload_n 1, 1) := by decide +kernel
theorem dX1_isWord_1 : decode cX1_isWord 1 = .ok (.invokevirtual 98, 3) := by decide +kernel
theorem dX1_isWord_4 : decode cX1_isWord 4 = .ok (.iload_n 3, 1) := by decide +kernel
theorem dX1_isWord_5 : decode cX1_isWord 5 = .ok (.iload_n 2, 1) := by decide +kernel
theorem dX1_isWord_6 : decode cX1_isWord 6 = .ok (.isub, 1) := by decide +kernel
theorem dX1_isWord_7 : decode cX1_isWord 7 = .ok (.if_icmp .eq 5, 3) := by decide +kernel
theorem dX1_isWord_10 : decode cX1_isWord 10 = .ok (.iconst 0, 1) := by decide +kernel
theorem dX1_isWord_11 : decode cX1_isWord 11 = .ok (.ireturn, 1) := by decide +kernel
theorem dX1_isWord_12 : decode cX1_isWord 12 = .ok (.iconst 0, 1) := by decide +kernel
theorem dX1_isWord_13 : decode cX1_isWord 13 = .ok (.istore 4, 2) := by decide +kernel
theorem dX1_isWord_15 : decode cX1_isWord 15 = .ok (.iload 4, 2) := by decide +kernel
theorem dX1_isWord_17 : decode cX1_isWord 17 = .ok (.aload_n 1, 1) := by decide +kernel
theorem dX1_isWord_18 : decode cX1_isWord 18 = .ok (.invokevirtual 98, 3) := by decide +kernel
theorem dX1_isWord_21 : decode cX1_isWord 21 = .ok (.if_icmp .ge 28, 3) := by decide +kernel
theorem dX1_isWord_24 : decode cX1_isWord 24 = .ok (.aload_n 1, 1) := by decide +kernel
theorem dX1_isWord_25 : decode cX1_isWord 25 = .ok (.iload 4, 2) := by decide +kernel
theorem dX1_isWord_27 : decode cX1_isWord 27 = .ok (.invokevirtual 103, 3) := by decide +kernel
theorem dX1_isWord_30 : decode cX1_isWord 30 = .ok (.aload_n 0, 1) := by decide +kernel
theorem dX1_isWord_31 : decode cX1_isWord 31 = .ok (.iload_n 2, 1) := by decide +kernel
theorem dX1_isWord_32 : decode cX1_isWord 32 = .ok (.iload 4, 2) := by decide +kernel
theorem dX1_isWord_34 : decode cX1_isWord 34 = .ok (.iadd, 1) := by decide +kernel
theorem dX1_isWord_35 : decode cX1_isWord 35 = .ok (.invokevirtual 73, 3) := by decide +kernel
theorem dX1_isWord_38 : decode cX1_isWord 38 = .ok (.if_icmp .eq 5, 3) := by decide +kernel
theorem dX1_isWord_41 : decode cX1_isWord 41 = .ok (.iconst 0, 1) := by decide +kernel
theorem dX1_isWord_42 : decode cX1_isWord 42 = .ok (.ireturn, 1) := by decide +kernel
theorem dX1_isWord_43 : decode cX1_isWord 43 = .ok (.iinc 4 1, 3) := by decide +kernel
theorem dX1_isWord_46 : decode cX1_isWord 46 = .ok (.goto (-31), 3) := by decide +kernel
theorem dX1_isWord_49 : decode cX1_isWord 49 = .ok (.iconst 1, 1) := by decide +kernel
theorem dX1_isWord_50 : decode cX1_isWord 50 = .ok (.ireturn, 1) := by decide +kernel
theorem dX1_isLetter_0 : decode cX1_isLetter 0 = .ok (.iload_n 0, 1) := by decide +kernel
theorem dX1_isLetter_1 : decode cX1_isLetter 1 = .ok (.bipush 97, 2) := by decide +kernel
theorem dX1_isLetter_3 : decode cX1_isLetter 3 = .ok (.if_icmp .lt 13, 3) := by decide +kernel
theorem dX1_isLetter_6 : decode cX1_isLetter 6 = .ok (.iload_n 0, 1) := by decide +kernel
theorem dX1_isLetter_7 : decode cX1_isLetter 7 = .ok (.bipush 122, 2) := by decide +kernel
theorem dX1_isLetter_9 : decode cX1_isLetter 9 = .ok (.if_icmp .gt 7, 3) := by decide +kernel
theorem dX1_isLetter_12 : decode cX1_isLetter 12 = .ok (.iconst 1, 1) := by decide +kernel
theorem dX1_isLetter_13 : decode cX1_isLetter 13 = .ok (.goto 4, 3) := by decide +kernel
theorem dX1_isLetter_16 : decode cX1_isLetter 16 = .ok (.iconst 0, 1) := by decide +kernel
theorem dX1_isLetter_17 : decode cX1_isLetter 17 = .ok (.ireturn, 1) := by decide +kernel
theorem dX1_isFigure_0 : decode cX1_isFigure 0 = .ok (.iload_n 0, 1) := by decide +kernel
theorem dX1_isFigure_1 : decode cX1_isFigure 1 = .ok (.bipush 48, 2) := by decide +kernel
theorem dX1_isFigure_3 : decode cX1_isFigure 3 = .ok (.if_icmp .lt 13, 3) := by decide +kernel
theorem dX1_isFigure_6 : decode cX1_isFigure 6 = .ok (.iload_n 0, 1) := by decide +kernel
theorem dX1_isFigure_7 : decode cX1_isFigure 7 = .ok (.bipush 57, 2) := by decide +kernel
theorem dX1_isFigure_9 : decode cX1_isFigure 9 = .ok (.if_icmp .gt 7, 3) := by decide +kernel
theorem dX1_isFigure_12 : decode cX1_isFigure 12 = .ok (.iconst 1, 1) := by decide +kernel
theorem dX1_isFigure_13 : decode cX1_isFigure 13 = .ok (.goto 4, 3) := by decide +kernel
theorem dX1_isFigure_16 : decode cX1_isFigure 16 = .ok (.iconst 0, 1) := by decide +kernel
theorem dX1_isFigure_17 : decode cX1_isFigure 17 = .ok (.ireturn, 1) := by decide +kernel
theorem dX1_isInBounds_0 : decode cX1_isInBounds 0 = .ok (.iload_n 0, 1) := by decide +kernel
theorem dX1_isInBounds_1 : decode cX1_isInBounds 1 = .ok (.ifCond .lt 31, 3) := by decide +kernel
theorem dX1_isInBounds_4 : decode cX1_isInBounds 4 = .ok (.iload_n 0, 1) := by decide +kernel
theorem dX1_isInBounds_5 : decode cX1_isInBounds 5 = .ok (.bipush 8, 2) := by decide +kernel
theorem dX1_isInBounds_7 : decode cX1_isInBounds 7 = .ok (.if_icmp .ge 25, 3) := by decide +kernel
theorem dX1_isInBounds_10 : decode cX1_isInBounds 10 = .ok (.iload_n 1, 1) := by decide +kernel
theorem dX1_isInBounds_11 : decode cX1_isInBounds 11 = .ok (.getstatic 107, 3) := by decide +kernel
theorem dX1_isInBounds_14 : decode cX1_isInBounds 14 = .ok (.iload_n 0, 1) := by decide +kernel
theorem dX1_isInBounds_15 : decode cX1_isInBounds 15 = .ok (.iaload, 1) := by decide +kernel
theorem dX1_isInBounds_16 : decode cX1_isInBounds 16 = .ok (.if_icmp .lt 16, 3) := by decide +kernel
theorem dX1_isInBounds_19 : decode cX1_isInBounds 19 = .ok (.iload_n 1, 1) := by decide +kernel
theorem dX1_isInBounds_20 : decode cX1_isInBounds 20 = .ok (.getstatic 110, 3) := by decide +kernel
theorem dX1_isInBounds_23 : decode cX1_isInBounds 23 = .ok (.iload_n 0, 1) := by decide +kernel
theorem dX1_isInBounds_24 : decode cX1_isInBounds 24 = .ok (.iaload, 1) := by decide +kernel
theorem dX1_isInBounds_25 : decode cX1_isInBounds 25 = .ok (.if_icmp .gt 7, 3) := by decide +kernel
theorem dX1_isInBounds_28 : decode cX1_isInBounds 28 = .ok (.iconst 1, 1) := by decide +kernel
theorem dX1_isInBounds_29 : decode cX1_isInBounds 29 = .ok (.goto 4, 3) := by decide +kernel
theorem dX1_isInBounds_32 : decode cX1_isInBounds 32 = .ok (.iconst 0, 1) := by decide +kernel
theorem dX1_isInBounds_33 : decode cX1_isInBounds 33 = .ok (.ireturn, 1) := by decide +kernel
theorem dX1_wordOf_0 : decode cX1_wordOf 0 = .ok (.iload_n 0, 1) := by decide +kernel
theorem dX1_wordOf_1 : decode cX1_wordOf 1 = .ok (.tableswitch 64 0 6 #[43, 46, 49, 52, 55, 58, 61], 43) := by decide +kernel
theorem dX1_wordOf_44 : decode cX1_wordOf 44 = .ok (.ldc 113, 2) := by decide +kernel
theorem dX1_wordOf_46 : decode cX1_wordOf 46 = .ok (.areturn, 1) := by decide +kernel
theorem dX1_wordOf_47 : decode cX1_wordOf 47 = .ok (.ldc 115, 2) := by decide +kernel
theorem dX1_wordOf_49 : decode cX1_wordOf 49 = .ok (.areturn, 1) := by decide +kernel
theorem dX1_wordOf_50 : decode cX1_wordOf 50 = .ok (.ldc 117, 2) := by decide +kernel
theorem dX1_wordOf_52 : decode cX1_wordOf 52 = .ok (.areturn, 1) := by decide +kernel
theorem dX1_wordOf_53 : decode cX1_wordOf 53 = .ok (.ldc 119, 2) := by decide +kernel
theorem dX1_wordOf_55 : decode cX1_wordOf 55 = .ok (.areturn, 1) := by decide +kernel
theorem dX1_wordOf_56 : decode cX1_wordOf 56 = .ok (.ldc 121, 2) := by decide +kernel
theorem dX1_wordOf_58 : decode cX1_wordOf 58 = .ok (.areturn, 1) := by decide +kernel
theorem dX1_wordOf_59 : decode cX1_wordOf 59 = .ok (.ldc 123, 2) := by decide +kernel
theorem dX1_wordOf_61 : decode cX1_wordOf 61 = .ok (.areturn, 1) := by decide +kernel
theorem dX1_wordOf_62 : decode cX1_wordOf 62 = .ok (.ldc 125, 2) := by decide +kernel
theorem dX1_wordOf_64 : decode cX1_wordOf 64 = .ok (.areturn, 1) := by decide +kernel
theorem dX1_wordOf_65 : decode cX1_wordOf 65 = .ok (.ldc 127, 2) := by decide +kernel
theorem dX1_wordOf_67 : decode cX1_wordOf 67 = .ok (.areturn, 1) := by decide +kernel
theorem dX2_init_0 : decode cX2_init 0 = .ok (.aload_n 0, 1) := by decide +kernel
theorem dX2_init_1 : decode cX2_init 1 = .ok (.invokespecial 3, 3) := by decide +kernel
theorem dX2_init_4 : decode cX2_init 4 = .ok (.aload_n 0, 1) := by decide +kernel
theorem dX2_init_5 : decode cX2_init 5 = .ok (.bipush 8, 2) := by decide +kernel
theorem dX2_init_7 : decode cX2_init 7 = .ok (.newarray .int, 2) := by decide +kernel
theorem dX2_init_9 : decode cX2_init 9 = .ok (.putfield 9, 3) := by decide +kernel
theorem dX2_init_12 : decode cX2_init 12 = .ok (.return_, 1) := by decide +kernel
theorem dX2_add_0 : decode cX2_add 0 = .ok (.aload_n 0, 1) := by decide +kernel
theorem dX2_add_1 : decode cX2_add 1 = .ok (.getfield 15, 3) := by decide +kernel
theorem dX2_add_4 : decode cX2_add 4 = .ok (.aload_n 0, 1) := by decide +kernel
theorem dX2_add_5 : decode cX2_add 5 = .ok (.getfield 9, 3) := by decide +kernel
theorem dX2_add_8 : decode cX2_add 8 = .ok (.arraylength, 1) := by decide +kernel
theorem dX2_add_9 : decode cX2_add 9 = .ok (.if_icmp .lt 7, 3) := by decide +kernel
theorem dX2_add_12 : decode cX2_add 12 = .ok (.sipush (-1004), 3) := by decide +kernel
theorem dX2_add_15 : decode cX2_add 15 = .ok (.ireturn, 1) := by decide +kernel
theorem dX2_add_16 : decode cX2_add 16 = .ok (.aload_n 0, 1) := by decide +kernel
theorem dX2_add_17 : decode cX2_add 17 = .ok (.getfield 9, 3) := by decide +kernel
theorem dX2_add_20 : decode cX2_add 20 = .ok (.aload_n 0, 1) := by decide +kernel
theorem dX2_add_21 : decode cX2_add 21 = .ok (.getfield 15, 3) := by decide +kernel
theorem dX2_add_24 : decode cX2_add 24 = .ok (.iload_n 1, 1) := by decide +kernel
theorem dX2_add_25 : decode cX2_add 25 = .ok (.iastore, 1) := by decide +kernel
theorem dX2_add_26 : decode cX2_add 26 = .ok (.aload_n 0, 1) := by decide +kernel
theorem dX2_add_27 : decode cX2_add 27 = .ok (.dup, 1) := by decide +kernel
theorem dX2_add_28 : decode cX2_add 28 = .ok (.getfield 15, 3) := by decide +kernel
theorem dX2_add_31 : decode cX2_add 31 = .ok (.iconst 1, 1) := by decide +kernel
theorem dX2_add_32 : decode cX2_add 32 = .ok (.iadd, 1) := by decide +kernel
theorem dX2_add_33 : decode cX2_add 33 = .ok (.putfield 15, 3) := by decide +kernel
theorem dX2_add_36 : decode cX2_add 36 = .ok (.aload_n 0, 1) := by decide +kernel
theorem dX2_add_37 : decode cX2_add 37 = .ok (.getfield 15, 3) := by decide +kernel
theorem dX2_add_40 : decode cX2_add 40 = .ok (.iconst 1, 1) := by decide +kernel
theorem dX2_add_41 : decode cX2_add 41 = .ok (.isub, 1) := by decide +kernel
theorem dX2_add_42 : decode cX2_add 42 = .ok (.ireturn, 1) := by decide +kernel
theorem dX2_size_0 : decode cX2_size 0 = .ok (.aload_n 0, 1) := by decide +kernel
theorem dX2_size_1 : decode cX2_size 1 = .ok (.getfield 15, 3) := by decide +kernel
theorem dX2_size_4 : decode cX2_size 4 = .ok (.ireturn, 1) := by decide +kernel
theorem dX2_has_0 : decode cX2_has 0 = .ok (.iload_n 1, 1) := by decide +kernel
theorem dX2_has_1 : decode cX2_has 1 = .ok (.ifCond .lt 24, 3) := by decide +kernel
theorem dX2_has_4 : decode cX2_has 4 = .ok (.iload_n 1, 1) := by decide +kernel
theorem dX2_has_5 : decode cX2_has 5 = .ok (.aload_n 0, 1) := by decide +kernel
theorem dX2_has_6 : decode cX2_has 6 = .ok (.getfield 15, 3) := by decide +kernel
theorem dX2_has_9 : decode cX2_has 9 = .ok (.if_icmp .ge 16, 3) := by decide +kernel
theorem dX2_has_12 : decode cX2_has 12 = .ok (.iload_n 1, 1) := by decide +kernel
theorem dX2_has_13 : decode cX2_has 13 = .ok (.aload_n 0, 1) := by decide +kernel
theorem dX2_has_14 : decode cX2_has 14 = .ok (.getfield 9, 3) := by decide +kernel
theorem dX2_has_17 : decode cX2_has 17 = .ok (.arraylength, 1) := by decide +kernel
theorem dX2_has_18 : decode cX2_has 18 = .ok (.if_icmp .ge 7, 3) := by decide +kernel
theorem dX2_has_21 : decode cX2_has 21 = .ok (.iconst 1, 1) := by decide +kernel
theorem dX2_has_22 : decode cX2_has 22 = .ok (.goto 4, 3) := by decide +kernel
theorem dX2_has_25 : decode cX2_has 25 = .ok (.iconst 0, 1) := by decide +kernel
theorem dX2_has_26 : decode cX2_has 26 = .ok (.ireturn, 1) := by decide +kernel
theorem dX2_sortOf_0 : decode cX2_sortOf 0 = .ok (.aload_n 0, 1) := by decide +kernel
theorem dX2_sortOf_1 : decode cX2_sortOf 1 = .ok (.iload_n 1, 1) := by decide +kernel
theorem dX2_sortOf_2 : decode cX2_sortOf 2 = .ok (.invokevirtual 19, 3) := by decide +kernel
theorem dX2_sortOf_5 : decode cX2_sortOf 5 = .ok (.ifCond .eq 12, 3) := by decide +kernel
theorem dX2_sortOf_8 : decode cX2_sortOf 8 = .ok (.aload_n 0, 1) := by decide +kernel
theorem dX2_sortOf_9 : decode cX2_sortOf 9 = .ok (.getfield 9, 3) := by decide +kernel
theorem dX2_sortOf_12 : decode cX2_sortOf 12 = .ok (.iload_n 1, 1) := by decide +kernel
theorem dX2_sortOf_13 : decode cX2_sortOf 13 = .ok (.iaload, 1) := by decide +kernel
theorem dX2_sortOf_14 : decode cX2_sortOf 14 = .ok (.goto 4, 3) := by decide +kernel
theorem dX2_sortOf_17 : decode cX2_sortOf 17 = .ok (.iconst (-1), 1) := by decide +kernel
theorem dX2_sortOf_18 : decode cX2_sortOf 18 = .ok (.ireturn, 1) := by decide +kernel
theorem dX3_init_0 : decode cX3_init 0 = .ok (.aload_n 0, 1) := by decide +kernel
theorem dX3_init_1 : decode cX3_init 1 = .ok (.invokespecial 3, 3) := by decide +kernel
theorem dX3_init_4 : decode cX3_init 4 = .ok (.aload_n 0, 1) := by decide +kernel
theorem dX3_init_5 : decode cX3_init 5 = .ok (.sipush 200, 3) := by decide +kernel
theorem dX3_init_8 : decode cX3_init 8 = .ok (.newarray .int, 2) := by decide +kernel
theorem dX3_init_10 : decode cX3_init 10 = .ok (.putfield 9, 3) := by decide +kernel
theorem dX3_init_13 : decode cX3_init 13 = .ok (.aload_n 0, 1) := by decide +kernel
theorem dX3_init_14 : decode cX3_init 14 = .ok (.sipush 200, 3) := by decide +kernel
theorem dX3_init_17 : decode cX3_init 17 = .ok (.newarray .int, 2) := by decide +kernel
theorem dX3_init_19 : decode cX3_init 19 = .ok (.putfield 15, 3) := by decide +kernel
theorem dX3_init_22 : decode cX3_init 22 = .ok (.aload_n 0, 1) := by decide +kernel
theorem dX3_init_23 : decode cX3_init 23 = .ok (.sipush 200, 3) := by decide +kernel
theorem dX3_init_26 : decode cX3_init 26 = .ok (.newarray .int, 2) := by decide +kernel
theorem dX3_init_28 : decode cX3_init 28 = .ok (.putfield 18, 3) := by decide +kernel
theorem dX3_init_31 : decode cX3_init 31 = .ok (.aload_n 0, 1) := by decide +kernel
theorem dX3_init_32 : decode cX3_init 32 = .ok (.sipush 200, 3) := by decide +kernel
theorem dX3_init_35 : decode cX3_init 35 = .ok (.newarray .boolean, 2) := by decide +kernel
theorem dX3_init_37 : decode cX3_init 37 = .ok (.putfield 21, 3) := by decide +kernel
theorem dX3_init_40 : decode cX3_init 40 = .ok (.aload_n 0, 1) := by decide +kernel
theorem dX3_init_41 : decode cX3_init 41 = .ok (.sipush 192, 3) := by decide +kernel
theorem dX3_init_44 : decode cX3_init 44 = .ok (.newarray .int, 2) := by decide +kernel
theorem dX3_init_46 : decode cX3_init 46 = .ok (.putfield 25, 3) := by decide +kernel
theorem dX3_init_49 : decode cX3_init 49 = .ok (.aload_n 0, 1) := by decide +kernel
theorem dX3_init_50 : decode cX3_init 50 = .ok (.bipush 24, 2) := by decide +kernel
theorem dX3_init_52 : decode cX3_init 52 = .ok (.newarray .int, 2) := by decide +kernel
theorem dX3_init_54 : decode cX3_init 54 = .ok (.putfield 28, 3) := by decide +kernel
theorem dX3_init_57 : decode cX3_init 57 = .ok (.aload_n 0, 1) := by decide +kernel
theorem dX3_init_58 : decode cX3_init 58 = .ok (.bipush 24, 2) := by decide +kernel
theorem dX3_init_60 : decode cX3_init 60 = .ok (.newarray .int, 2) := by decide +kernel
theorem dX3_init_62 : decode cX3_init 62 = .ok (.putfield 31, 3) := by decide +kernel
theorem dX3_init_65 : decode cX3_init 65 = .ok (.aload_n 0, 1) := by decide +kernel
theorem dX3_init_66 : decode cX3_init 66 = .ok (.bipush 8, 2) := by decide +kernel
theorem dX3_init_68 : decode cX3_init 68 = .ok (.newarray .int, 2) := by decide +kernel
theorem dX3_init_70 : decode cX3_init 70 = .ok (.putfield 34, 3) := by decide +kernel
theorem dX3_init_73 : decode cX3_init 73 = .ok (.iconst 0, 1) := by decide +kernel
theorem dX3_init_74 : decode cX3_init 74 = .ok (.istore_n 1, 1) := by decide +kernel
theorem dX3_init_75 : decode cX3_init 75 = .ok (.iload_n 1, 1) := by decide +kernel
theorem dX3_init_76 : decode cX3_init 76 = .ok (.aload_n 0, 1) := by decide +kernel
theorem dX3_init_77 : decode cX3_init 77 = .ok (.getfield 25, 3) := by decide +kernel
theorem dX3_init_80 : decode cX3_init 80 = .ok (.arraylength, 1) := by decide +kernel
theorem dX3_init_81 : decode cX3_init 81 = .ok (.if_icmp .ge 16, 3) := by decide +kernel
theorem dX3_init_84 : decode cX3_init 84 = .ok (.aload_n 0, 1) := by decide +kernel
theorem dX3_init_85 : decode cX3_init 85 = .ok (.getfield 25, 3) := by decide +kernel
theorem dX3_init_88 : decode cX3_init 88 = .ok (.iload_n 1, 1) := by decide +kernel
theorem dX3_init_89 : decode cX3_init 89 = .ok (.iconst (-1), 1) := by decide +kernel
theorem dX3_init_90 : decode cX3_init 90 = .ok (.iastore, 1) := by decide +kernel
theorem dX3_init_91 : decode cX3_init 91 = .ok (.iinc 1 1, 3) := by decide +kernel
theorem dX3_init_94 : decode cX3_init 94 = .ok (.goto (-19), 3) := by decide +kernel
theorem dX3_init_97 : decode cX3_init 97 = .ok (.return_, 1) := by decide +kernel
theorem dX3_add_0 : decode cX3_add 0 = .ok (.aload_n 0, 1) := by decide +kernel
theorem dX3_add_1 : decode cX3_add 1 = .ok (.getfield 37, 3) := by decide +kernel
theorem dX3_add_4 : decode cX3_add 4 = .ok (.sipush 200, 3) := by decide +kernel
theorem dX3_add_7 : decode cX3_add 7 = .ok (.if_icmp .lt 7, 3) := by decide +kernel
theorem dX3_add_10 : decode cX3_add 10 = .ok (.sipush (-1004), 3) := by decide +kernel
theorem dX3_add_13 : decode cX3_add 13 = .ok (.ireturn, 1) := by decide +kernel
theorem dX3_add_14 : decode cX3_add 14 = .ok (.iload_n 1, 1) := by decide +kernel
theorem dX3_add_15 : decode cX3_add 15 = .ok (.iload_n 2, 1) := by decide +kernel
theorem dX3_add_16 : decode cX3_add 16 = .ok (.invokestatic 41, 3) := by decide +kernel
theorem dX3_add_19 : decode cX3_add 19 = .ok (.ifCond .ne 7, 3) := by decide +kernel
theorem dX3_add_22 : decode cX3_add 22 = .ok (.sipush (-1001), 3) := by decide +kernel
theorem dX3_add_25 : decode cX3_add 25 = .ok (.ireturn, 1) := by decide +kernel
theorem dX3_add_26 : decode cX3_add 26 = .ok (.aload_n 0, 1) := by decide +kernel
theorem dX3_add_27 : decode cX3_add 27 = .ok (.getfield 37, 3) := by decide +kernel
theorem dX3_add_30 : decode cX3_add 30 = .ok (.istore 4, 2) := by decide +kernel
theorem dX3_add_32 : decode cX3_add 32 = .ok (.aload_n 0, 1) := by decide +kernel
theorem dX3_add_33 : decode cX3_add 33 = .ok (.getfield 9, 3) := by decide +kernel
theorem dX3_add_36 : decode cX3_add 36 = .ok (.iload 4, 2) := by decide +kernel
theorem dX3_add_38 : decode cX3_add 38 = .ok (.iload_n 1, 1) := by decide +kernel
theorem dX3_add_39 : decode cX3_add 39 = .ok (.iastore, 1) := by decide +kernel
theorem dX3_add_40 : decode cX3_add 40 = .ok (.aload_n 0, 1) := by decide +kernel
theorem dX3_add_41 : decode cX3_add 41 = .ok (.getfield 15, 3) := by decide +kernel
theorem dX3_add_44 : decode cX3_add 44 = .ok (.iload 4, 2) := by decide +kernel
theorem dX3_add_46 : decode cX3_add 46 = .ok (.iload_n 2, 1) := by decide +kernel
theorem dX3_add_47 : decode cX3_add 47 = .ok (.iastore, 1) := by decide +kernel
theorem dX3_add_48 : decode cX3_add 48 = .ok (.aload_n 0, 1) := by decide +kernel
theorem dX3_add_49 : decode cX3_add 49 = .ok (.getfield 18, 3) := by decide +kernel
theorem dX3_add_52 : decode cX3_add 52 = .ok (.iload 4, 2) := by decide +kernel
theorem dX3_add_54 : decode cX3_add 54 = .ok (.iload_n 3, 1) := by decide +kernel
theorem dX3_add_55 : decode cX3_add 55 = .ok (.iastore, 1) := by decide +kernel
theorem dX3_add_56 : decode cX3_add 56 = .ok (.aload_n 0, 1) := by decide +kernel
theorem dX3_add_57 : decode cX3_add 57 = .ok (.getfield 21, 3) := by decide +kernel
theorem dX3_add_60 : decode cX3_add 60 = .ok (.iload 4, 2) := by decide +kernel
theorem dX3_add_62 : decode cX3_add 62 = .ok (.aload_n 0, 1) := by decide +kernel
theorem dX3_add_63 : decode cX3_add 63 = .ok (.getfield 28, 3) := by decide +kernel
theorem dX3_add_66 : decode cX3_add 66 = .ok (.iload_n 2, 1) := by decide +kernel
theorem dX3_add_67 : decode cX3_add 67 = .ok (.iaload, 1) := by decide +kernel
theorem dX3_add_68 : decode cX3_add 68 = .ok (.bipush 6, 2) := by decide +kernel
theorem dX3_add_70 : decode cX3_add 70 = .ok (.if_icmp .ge 7, 3) := by decide +kernel
theorem dX3_add_73 : decode cX3_add 73 = .ok (.iconst 1, 1) := by decide +kernel
theorem dX3_add_74 : decode cX3_add 74 = .ok (.goto 4, 3) := by decide +kernel
theorem dX3_add_77 : decode cX3_add 77 = .ok (.iconst 0, 1) := by decide +kernel
theorem dX3_add_78 : decode cX3_add 78 = .ok (.bastore, 1) := by decide +kernel
theorem dX3_add_79 : decode cX3_add 79 = .ok (.aload_n 0, 1) := by decide +kernel
theorem dX3_add_80 : decode cX3_add 80 = .ok (.getfield 25, 3) := by decide +kernel
theorem dX3_add_83 : decode cX3_add 83 = .ok (.iload_n 1, 1) := by decide +kernel
theorem dX3_add_84 : decode cX3_add 84 = .ok (.bipush 24, 2) := by decide +kernel
theorem dX3_add_86 : decode cX3_add 86 = .ok (.imul, 1) := by decide +kernel
theorem dX3_add_87 : decode cX3_add 87 = .ok (.iload_n 2, 1) := by decide +kernel
theorem dX3_add_88 : decode cX3_add 88 = .ok (.iadd, 1) := by decide +kernel
theorem dX3_add_89 : decode cX3_add 89 = .ok (.iload_n 3, 1) := by decide +kernel
theorem dX3_add_90 : decode cX3_add 90 = .ok (.iastore, 1) := by decide +kernel
theorem dX3_add_91 : decode cX3_add 91 = .ok (.aload_n 0, 1) := by decide +kernel
theorem dX3_add_92 : decode cX3_add 92 = .ok (.getfield 28, 3) := by decide +kernel
theorem dX3_add_95 : decode cX3_add 95 = .ok (.iload_n 2, 1) := by decide +kernel
theorem dX3_add_96 : decode cX3_add 96 = .ok (.dup2, 1) := by decide +kernel
theorem dX3_add_97 : decode cX3_add 97 = .ok (.iaload, 1) := by decide +kernel
theorem dX3_add_98 : decode cX3_add 98 = .ok (.iconst 1, 1) := by decide +kernel
theorem dX3_add_99 : decode cX3_add 99 = .ok (.iadd, 1) := by decide +kernel
theorem dX3_add_100 : decode cX3_add 100 = .ok (.iastore, 1) := by decide +kernel
theorem dX3_add_101 : decode cX3_add 101 = .ok (.aload_n 0, 1) := by decide +kernel
theorem dX3_add_102 : decode cX3_add 102 = .ok (.getfield 31, 3) := by decide +kernel
theorem dX3_add_105 : decode cX3_add 105 = .ok (.iload_n 2, 1) := by decide +kernel
theorem dX3_add_106 : decode cX3_add 106 = .ok (.dup2, 1) := by decide +kernel
theorem dX3_add_107 : decode cX3_add 107 = .ok (.iaload, 1) := by decide +kernel
theorem dX3_add_108 : decode cX3_add 108 = .ok (.iload_n 3, 1) := by decide +kernel
theorem dX3_add_109 : decode cX3_add 109 = .ok (.iconst 3, 1) := by decide +kernel
theorem dX3_add_110 : decode cX3_add 110 = .ok (.if_icmp .ne 7, 3) := by decide +kernel
theorem dX3_add_113 : decode cX3_add 113 = .ok (.iconst 1, 1) := by decide +kernel
theorem dX3_add_114 : decode cX3_add 114 = .ok (.goto 4, 3) := by decide +kernel
theorem dX3_add_117 : decode cX3_add 117 = .ok (.iconst 0, 1) := by decide +kernel
theorem dX3_add_118 : decode cX3_add 118 = .ok (.invokestatic 45, 3) := by decide +kernel
theorem dX3_add_121 : decode cX3_add 121 = .ok (.iadd, 1) := by decide +kernel
theorem dX3_add_122 : decode cX3_add 122 = .ok (.iastore, 1) := by decide +kernel
theorem dX3_add_123 : decode cX3_add 123 = .ok (.aload_n 0, 1) := by decide +kernel
theorem dX3_add_124 : decode cX3_add 124 = .ok (.getfield 34, 3) := by decide +kernel
theorem dX3_add_127 : decode cX3_add 127 = .ok (.iload_n 1, 1) := by decide +kernel
theorem dX3_add_128 : decode cX3_add 128 = .ok (.dup2, 1) := by decide +kernel
theorem dX3_add_129 : decode cX3_add 129 = .ok (.iaload, 1) := by decide +kernel
theorem dX3_add_130 : decode cX3_add 130 = .ok (.iconst 1, 1) := by decide +kernel
theorem dX3_add_131 : decode cX3_add 131 = .ok (.iadd, 1) := by decide +kernel
theorem dX3_add_132 : decode cX3_add 132 = .ok (.iastore, 1) := by decide +kernel
theorem dX3_add_133 : decode cX3_add 133 = .ok (.aload_n 0, 1) := by decide +kernel
theorem dX3_add_134 : decode cX3_add 134 = .ok (.dup, 1) := by decide +kernel
theorem dX3_add_135 : decode cX3_add 135 = .ok (.getfield 37, 3) := by decide +kernel
theorem dX3_add_138 : decode cX3_add 138 = .ok (.iconst 1, 1) := by decide +kernel
theorem dX3_add_139 : decode cX3_add 139 = .ok (.iadd, 1) := by decide +kernel
theorem dX3_add_140 : decode cX3_add 140 = .ok (.putfield 37, 3) := by decide +kernel
theorem dX3_add_143 : decode cX3_add 143 = .ok (.iload 4, 2) := by decide +kernel
theorem dX3_add_145 : decode cX3_add 145 = .ok (.ireturn, 1) := by decide +kernel
theorem dX3_size_0 : decode cX3_size 0 = .ok (.aload_n 0, 1) := by decide +kernel
theorem dX3_size_1 : decode cX3_size 1 = .ok (.getfield 37, 3) := by decide +kernel
theorem dX3_size_4 : decode cX3_size 4 = .ok (.ireturn, 1) := by decide +kernel
theorem dX3_isFull_0 : decode cX3_isFull 0 = .ok (.aload_n 0, 1) := by decide +kernel
theorem dX3_isFull_1 : decode cX3_isFull 1 = .ok (.getfield 37, 3) := by decide +kernel
theorem dX3_isFull_4 : decode cX3_isFull 4 = .ok (.sipush 200, 3) := by decide +kernel
theorem dX3_isFull_7 : decode cX3_isFull 7 = .ok (.if_icmp .lt 7, 3) := by decide +kernel
theorem dX3_isFull_10 : decode cX3_isFull 10 = .ok (.iconst 1, 1) := by decide +kernel
theorem dX3_isFull_11 : decode cX3_isFull 11 = .ok (.goto 4, 3) := by decide +kernel
theorem dX3_isFull_14 : decode cX3_isFull 14 = .ok (.iconst 0, 1) := by decide +kernel
theorem dX3_isFull_15 : decode cX3_isFull 15 = .ok (.ireturn, 1) := by decide +kernel
theorem dX3_has_0 : decode cX3_has 0 = .ok (.iload_n 1, 1) := by decide +kernel
theorem dX3_has_1 : decode cX3_has 1 = .ok (.ifCond .lt 22, 3) := by decide +kernel
theorem dX3_has_4 : decode cX3_has 4 = .ok (.iload_n 1, 1) := by decide +kernel
theorem dX3_has_5 : decode cX3_has 5 = .ok (.aload_n 0, 1) := by decide +kernel
theorem dX3_has_6 : decode cX3_has 6 = .ok (.getfield 37, 3) := by decide +kernel
theorem dX3_has_9 : decode cX3_has 9 = .ok (.if_icmp .ge 14, 3) := by decide +kernel
theorem dX3_has_12 : decode cX3_has 12 = .ok (.iload_n 1, 1) := by decide +kernel
theorem dX3_has_13 : decode cX3_has 13 = .ok (.sipush 200, 3) := by decide +kernel
theorem dX3_has_16 : decode cX3_has 16 = .ok (.if_icmp .ge 7, 3) := by decide +kernel
theorem dX3_has_19 : decode cX3_has 19 = .ok (.iconst 1, 1) := by decide +kernel
theorem dX3_has_20 : decode cX3_has 20 = .ok (.goto 4, 3) := by decide +kernel
theorem dX3_has_23 : decode cX3_has 23 = .ok (.iconst 0, 1) := by decide +kernel
theorem dX3_has_24 : decode cX3_has 24 = .ok (.ireturn, 1) := by decide +kernel
theorem dX3_lookerOf_0 : decode cX3_lookerOf 0 = .ok (.aload_n 0, 1) := by decide +kernel
theorem dX3_lookerOf_1 : decode cX3_lookerOf 1 = .ok (.iload_n 1, 1) := by decide +kernel
theorem dX3_lookerOf_2 : decode cX3_lookerOf 2 = .ok (.invokevirtual 49, 3) := by decide +kernel
theorem dX3_lookerOf_5 : decode cX3_lookerOf 5 = .ok (.ifCond .eq 12, 3) := by decide +kernel
theorem dX3_lookerOf_8 : decode cX3_lookerOf 8 = .ok (.aload_n 0, 1) := by decide +kernel
theorem dX3_lookerOf_9 : decode cX3_lookerOf 9 = .ok (.getfield 9, 3) := by decide +kernel
theorem dX3_lookerOf_12 : decode cX3_lookerOf 12 = .ok (.iload_n 1, 1) := by decide +kernel
theorem dX3_lookerOf_13 : decode cX3_lookerOf 13 = .ok (.iaload, 1) := by decide +kernel
theorem dX3_lookerOf_14 : decode cX3_lookerOf 14 = .ok (.goto 4, 3) := by decide +kernel
theorem dX3_lookerOf_17 : decode cX3_lookerOf 17 = .ok (.iconst (-1), 1) := by decide +kernel
theorem dX3_lookerOf_18 : decode cX3_lookerOf 18 = .ok (.ireturn, 1) := by decide +kernel
theorem dX3_pictureOf_0 : decode cX3_pictureOf 0 = .ok (.aload_n 0, 1) := by decide +kernel
theorem dX3_pictureOf_1 : decode cX3_pictureOf 1 = .ok (.iload_n 1, 1) := by decide +kernel
theorem dX3_pictureOf_2 : decode cX3_pictureOf 2 = .ok (.invokevirtual 49, 3) := by decide +kernel
theorem dX3_pictureOf_5 : decode cX3_pictureOf 5 = .ok (.ifCond .eq 12, 3) := by decide +kernel
theorem dX3_pictureOf_8 : decode cX3_pictureOf 8 = .ok (.aload_n 0, 1) := by decide +kernel
theorem dX3_pictureOf_9 : decode cX3_pictureOf 9 = .ok (.getfield 15, 3) := by decide +kernel
theorem dX3_pictureOf_12 : decode cX3_pictureOf 12 = .ok (.iload_n 1, 1) := by decide +kernel
theorem dX3_pictureOf_13 : decode cX3_pictureOf 13 = .ok (.iaload, 1) := by decide +kernel
theorem dX3_pictureOf_14 : decode cX3_pictureOf 14 = .ok (.goto 4, 3) := by decide +kernel
theorem dX3_pictureOf_17 : decode cX3_pictureOf 17 = .ok (.iconst (-1), 1) := by decide +kernel
theorem dX3_pictureOf_18 : decode cX3_pictureOf 18 = .ok (.ireturn, 1) := by decide +kernel
theorem dX3_answerOf_0 : decode cX3_answerOf 0 = .ok (.aload_n 0, 1) := by decide +kernel
theorem dX3_answerOf_1 : decode cX3_answerOf 1 = .ok (.iload_n 1, 1) := by decide +kernel
theorem dX3_answerOf_2 : decode cX3_answerOf 2 = .ok (.invokevirtual 49, 3) := by decide +kernel
theorem dX3_answerOf_5 : decode cX3_answerOf 5 = .ok (.ifCond .eq 12, 3) := by decide +kernel
theorem dX3_answerOf_8 : decode cX3_answerOf 8 = .ok (.aload_n 0, 1) := by decide +kernel
theorem dX3_answerOf_9 : decode cX3_answerOf 9 = .ok (.getfield 18, 3) := by decide +kernel
theorem dX3_answerOf_12 : decode cX3_answerOf 12 = .ok (.iload_n 1, 1) := by decide +kernel
theorem dX3_answerOf_13 : decode cX3_answerOf 13 = .ok (.iaload, 1) := by decide +kernel
theorem dX3_answerOf_14 : decode cX3_answerOf 14 = .ok (.goto 4, 3) := by decide +kernel
theorem dX3_answerOf_17 : decode cX3_answerOf 17 = .ok (.iconst (-1), 1) := by decide +kernel
theorem dX3_answerOf_18 : decode cX3_answerOf 18 = .ok (.ireturn, 1) := by decide +kernel
theorem dX3_counts_0 : decode cX3_counts 0 = .ok (.aload_n 0, 1) := by decide +kernel
theorem dX3_counts_1 : decode cX3_counts 1 = .ok (.iload_n 1, 1) := by decide +kernel
theorem dX3_counts_2 : decode cX3_counts 2 = .ok (.invokevirtual 49, 3) := by decide +kernel
theorem dX3_counts_5 : decode cX3_counts 5 = .ok (.ifCond .eq 16, 3) := by decide +kernel
theorem dX3_counts_8 : decode cX3_counts 8 = .ok (.aload_n 0, 1) := by decide +kernel
theorem dX3_counts_9 : decode cX3_counts 9 = .ok (.getfield 21, 3) := by decide +kernel
theorem dX3_counts_12 : decode cX3_counts 12 = .ok (.iload_n 1, 1) := by decide +kernel
theorem dX3_counts_13 : decode cX3_counts 13 = .ok (.baload, 1) := by decide +kernel
theorem dX3_counts_14 : decode cX3_counts 14 = .ok (.ifCond .eq 7, 3) := by decide +kernel
theorem dX3_counts_17 : decode cX3_counts 17 = .ok (.iconst 1, 1) := by decide +kernel
theorem dX3_counts_18 : decode cX3_counts 18 = .ok (.goto 4, 3) := by decide +kernel
theorem dX3_counts_21 : decode cX3_counts 21 = .ok (.iconst 0, 1) := by decide +kernel
theorem dX3_counts_22 : decode cX3_counts 22 = .ok (.ireturn, 1) := by decide +kernel
theorem dX3_answerAt_0 : decode cX3_answerAt 0 = .ok (.iload_n 1, 1) := by decide +kernel
theorem dX3_answerAt_1 : decode cX3_answerAt 1 = .ok (.iload_n 2, 1) := by decide +kernel
theorem dX3_answerAt_2 : decode cX3_answerAt 2 = .ok (.invokestatic 41, 3) := by decide +kernel
theorem dX3_answerAt_5 : decode cX3_answerAt 5 = .ok (.ifCond .eq 17, 3) := by decide +kernel
theorem dX3_answerAt_8 : decode cX3_answerAt 8 = .ok (.aload_n 0, 1) := by decide +kernel
theorem dX3_answerAt_9 : decode cX3_answerAt 9 = .ok (.getfield 25, 3) := by decide +kernel
theorem dX3_answerAt_12 : decode cX3_answerAt 12 = .ok (.iload_n 1, 1) := by decide +kernel
theorem dX3_answerAt_13 : decode cX3_answerAt 13 = .ok (.bipush 24, 2) := by decide +kernel
theorem dX3_answerAt_15 : decode cX3_answerAt 15 = .ok (.imul, 1) := by decide +kernel
theorem dX3_answerAt_16 : decode cX3_answerAt 16 = .ok (.iload_n 2, 1) := by decide +kernel
theorem dX3_answerAt_17 : decode cX3_answerAt 17 = .ok (.iadd, 1) := by decide +kernel
theorem dX3_answerAt_18 : decode cX3_answerAt 18 = .ok (.iaload, 1) := by decide +kernel
theorem dX3_answerAt_19 : decode cX3_answerAt 19 = .ok (.goto 4, 3) := by decide +kernel
theorem dX3_answerAt_22 : decode cX3_answerAt 22 = .ok (.iconst (-1), 1) := by decide +kernel
theorem dX3_answerAt_23 : decode cX3_answerAt 23 = .ok (.ireturn, 1) := by decide +kernel
theorem dX3_howManyAt_0 : decode cX3_howManyAt 0 = .ok (.iload_n 1, 1) := by decide +kernel
theorem dX3_howManyAt_1 : decode cX3_howManyAt 1 = .ok (.ifCond .lt 18, 3) := by decide +kernel
theorem dX3_howManyAt_4 : decode cX3_howManyAt 4 = .ok (.iload_n 1, 1) := by decide +kernel
theorem dX3_howManyAt_5 : decode cX3_howManyAt 5 = .ok (.bipush 24, 2) := by decide +kernel
theorem dX3_howManyAt_7 : decode cX3_howManyAt 7 = .ok (.if_icmp .ge 12, 3) := by decide +kernel
theorem dX3_howManyAt_10 : decode cX3_howManyAt 10 = .ok (.aload_n 0, 1) := by decide +kernel
theorem dX3_howManyAt_11 : decode cX3_howManyAt 11 = .ok (.getfield 28, 3) := by decide +kernel
theorem dX3_howManyAt_14 : decode cX3_howManyAt 14 = .ok (.iload_n 1, 1) := by decide +kernel
theorem dX3_howManyAt_15 : decode cX3_howManyAt 15 = .ok (.iaload, 1) := by decide +kernel
theorem dX3_howManyAt_16 : decode cX3_howManyAt 16 = .ok (.goto 4, 3) := by decide +kernel
theorem dX3_howManyAt_19 : decode cX3_howManyAt 19 = .ok (.iconst 0, 1) := by decide +kernel
theorem dX3_howManyAt_20 : decode cX3_howManyAt 20 = .ok (.ireturn, 1) := by decide +kernel
theorem dX3_greensAt_0 : decode cX3_greensAt 0 = .ok (.iload_n 1, 1) := by decide +kernel
theorem dX3_greensAt_1 : decode cX3_greensAt 1 = .ok (.ifCond .lt 18, 3) := by decide +kernel
theorem dX3_greensAt_4 : decode cX3_greensAt 4 = .ok (.iload_n 1, 1) := by decide +kernel
theorem dX3_greensAt_5 : decode cX3_greensAt 5 = .ok (.bipush 24, 2) := by decide +kernel
theorem dX3_greensAt_7 : decode cX3_greensAt 7 = .ok (.if_icmp .ge 12, 3) := by decide +kernel
theorem dX3_greensAt_10 : decode cX3_greensAt 10 = .ok (.aload_n 0, 1) := by decide +kernel
theorem dX3_greensAt_11 : decode cX3_greensAt 11 = .ok (.getfield 31, 3) := by decide +kernel
theorem dX3_greensAt_14 : decode cX3_greensAt 14 = .ok (.iload_n 1, 1) := by decide +kernel
theorem dX3_greensAt_15 : decode cX3_greensAt 15 = .ok (.iaload, 1) := by decide +kernel
theorem dX3_greensAt_16 : decode cX3_greensAt 16 = .ok (.goto 4, 3) := by decide +kernel
theorem dX3_greensAt_19 : decode cX3_greensAt 19 = .ok (.iconst 0, 1) := by decide +kernel
theorem dX3_greensAt_20 : decode cX3_greensAt 20 = .ok (.ireturn, 1) := by decide +kernel
theorem dX3_howManyBy_0 : decode cX3_howManyBy 0 = .ok (.iload_n 1, 1) := by decide +kernel
theorem dX3_howManyBy_1 : decode cX3_howManyBy 1 = .ok (.ifCond .lt 18, 3) := by decide +kernel
theorem dX3_howManyBy_4 : decode cX3_howManyBy 4 = .ok (.iload_n 1, 1) := by decide +kernel
theorem dX3_howManyBy_5 : decode cX3_howManyBy 5 = .ok (.bipush 8, 2) := by decide +kernel
theorem dX3_howManyBy_7 : decode cX3_howManyBy 7 = .ok (.if_icmp .ge 12, 3) := by decide +kernel
theorem dX3_howManyBy_10 : decode cX3_howManyBy 10 = .ok (.aload_n 0, 1) := by decide +kernel
theorem dX3_howManyBy_11 : decode cX3_howManyBy 11 = .ok (.getfield 34, 3) := by decide +kernel
theorem dX3_howManyBy_14 : decode cX3_howManyBy 14 = .ok (.iload_n 1, 1) := by decide +kernel
theorem dX3_howManyBy_15 : decode cX3_howManyBy 15 = .ok (.iaload, 1) := by decide +kernel
theorem dX3_howManyBy_16 : decode cX3_howManyBy 16 = .ok (.goto 4, 3) := by decide +kernel
theorem dX3_howManyBy_19 : decode cX3_howManyBy 19 = .ok (.iconst 0, 1) := by decide +kernel
theorem dX3_howManyBy_20 : decode cX3_howManyBy 20 = .ok (.ireturn, 1) := by decide +kernel
theorem dX3_isCell_0 : decode cX3_isCell 0 = .ok (.iload_n 0, 1) := by decide +kernel
theorem dX3_isCell_1 : decode cX3_isCell 1 = .ok (.ifCond .lt 23, 3) := by decide +kernel
theorem dX3_isCell_4 : decode cX3_isCell 4 = .ok (.iload_n 0, 1) := by decide +kernel
theorem dX3_isCell_5 : decode cX3_isCell 5 = .ok (.bipush 8, 2) := by decide +kernel
theorem dX3_isCell_7 : decode cX3_isCell 7 = .ok (.if_icmp .ge 17, 3) := by decide +kernel
theorem dX3_isCell_10 : decode cX3_isCell 10 = .ok (.iload_n 1, 1) := by decide +kernel
theorem dX3_isCell_11 : decode cX3_isCell 11 = .ok (.ifCond .lt 13, 3) := by decide +kernel
theorem dX3_isCell_14 : decode cX3_isCell 14 = .ok (.iload_n 1, 1) := by decide +kernel
theorem dX3_isCell_15 : decode cX3_isCell 15 = .ok (.bipush 24, 2) := by decide +kernel
theorem dX3_isCell_17 : decode cX3_isCell 17 = .ok (.if_icmp .ge 7, 3) := by decide +kernel
theorem dX3_isCell_20 : decode cX3_isCell 20 = .ok (.iconst 1, 1) := by decide +kernel
theorem dX3_isCell_21 : decode cX3_isCell 21 = .ok (.goto 4, 3) := by decide +kernel
theorem dX3_isCell_24 : decode cX3_isCell 24 = .ok (.iconst 0, 1) := by decide +kernel
theorem dX3_isCell_25 : decode cX3_isCell 25 = .ok (.ireturn, 1) := by decide +kernel
theorem dX4_init_0 : decode cX4_init 0 = .ok (.aload_n 0, 1) := by decide +kernel
theorem dX4_init_1 : decode cX4_init 1 = .ok (.invokespecial 3, 3) := by decide +kernel
theorem dX4_init_4 : decode cX4_init 4 = .ok (.aload_n 0, 1) := by decide +kernel
theorem dX4_init_5 : decode cX4_init 5 = .ok (.bipush 24, 2) := by decide +kernel
theorem dX4_init_7 : decode cX4_init 7 = .ok (.newarray .int, 2) := by decide +kernel
theorem dX4_init_9 : decode cX4_init 9 = .ok (.putfield 9, 3) := by decide +kernel
theorem dX4_init_12 : decode cX4_init 12 = .ok (.aload_n 0, 1) := by decide +kernel
theorem dX4_init_13 : decode cX4_init 13 = .ok (.bipush 24, 2) := by decide +kernel
theorem dX4_init_15 : decode cX4_init 15 = .ok (.newarray .int, 2) := by decide +kernel
theorem dX4_init_17 : decode cX4_init 17 = .ok (.putfield 15, 3) := by decide +kernel
theorem dX4_init_20 : decode cX4_init 20 = .ok (.aload_n 0, 1) := by decide +kernel
theorem dX4_init_21 : decode cX4_init 21 = .ok (.bipush 24, 2) := by decide +kernel
theorem dX4_init_23 : decode cX4_init 23 = .ok (.newarray .int, 2) := by decide +kernel
theorem dX4_init_25 : decode cX4_init 25 = .ok (.putfield 18, 3) := by decide +kernel
theorem dX4_init_28 : decode cX4_init 28 = .ok (.aload_n 0, 1) := by decide +kernel
theorem dX4_init_29 : decode cX4_init 29 = .ok (.bipush 24, 2) := by decide +kernel
theorem dX4_init_31 : decode cX4_init 31 = .ok (.newarray .int, 2) := by decide +kernel
theorem dX4_init_33 : decode cX4_init 33 = .ok (.putfield 21, 3) := by decide +kernel
theorem dX4_init_36 : decode cX4_init 36 = .ok (.aload_n 0, 1) := by decide +kernel
theorem dX4_init_37 : decode cX4_init 37 = .ok (.bipush 24, 2) := by decide +kernel
theorem dX4_init_39 : decode cX4_init 39 = .ok (.newarray .boolean, 2) := by decide +kernel
theorem dX4_init_41 : decode cX4_init 41 = .ok (.putfield 24, 3) := by decide +kernel
theorem dX4_init_44 : decode cX4_init 44 = .ok (.return_, 1) := by decide +kernel
theorem dX4_add_0 : decode cX4_add 0 = .ok (.aload_n 0, 1) := by decide +kernel
theorem dX4_add_1 : decode cX4_add 1 = .ok (.getfield 28, 3) := by decide +kernel
theorem dX4_add_4 : decode cX4_add 4 = .ok (.bipush 24, 2) := by decide +kernel
theorem dX4_add_6 : decode cX4_add 6 = .ok (.if_icmp .lt 7, 3) := by decide +kernel
theorem dX4_add_9 : decode cX4_add 9 = .ok (.sipush (-1004), 3) := by decide +kernel
theorem dX4_add_12 : decode cX4_add 12 = .ok (.ireturn, 1) := by decide +kernel
theorem dX4_add_13 : decode cX4_add 13 = .ok (.aload_n 0, 1) := by decide +kernel
theorem dX4_add_14 : decode cX4_add 14 = .ok (.getfield 28, 3) := by decide +kernel
theorem dX4_add_17 : decode cX4_add 17 = .ok (.istore 6, 2) := by decide +kernel
theorem dX4_add_19 : decode cX4_add 19 = .ok (.aload_n 0, 1) := by decide +kernel
theorem dX4_add_20 : decode cX4_add 20 = .ok (.getfield 9, 3) := by decide +kernel
theorem dX4_add_23 : decode cX4_add 23 = .ok (.iload 6, 2) := by decide +kernel
theorem dX4_add_25 : decode cX4_add 25 = .ok (.iload_n 1, 1) := by decide +kernel
theorem dX4_add_26 : decode cX4_add 26 = .ok (.iastore, 1) := by decide +kernel
theorem dX4_add_27 : decode cX4_add 27 = .ok (.aload_n 0, 1) := by decide +kernel
theorem dX4_add_28 : decode cX4_add 28 = .ok (.getfield 15, 3) := by decide +kernel
theorem dX4_add_31 : decode cX4_add 31 = .ok (.iload 6, 2) := by decide +kernel
theorem dX4_add_33 : decode cX4_add 33 = .ok (.iload_n 2, 1) := by decide +kernel
theorem dX4_add_34 : decode cX4_add 34 = .ok (.iastore, 1) := by decide +kernel
theorem dX4_add_35 : decode cX4_add 35 = .ok (.aload_n 0, 1) := by decide +kernel
theorem dX4_add_36 : decode cX4_add 36 = .ok (.getfield 18, 3) := by decide +kernel
theorem dX4_add_39 : decode cX4_add 39 = .ok (.iload 6, 2) := by decide +kernel
theorem dX4_add_41 : decode cX4_add 41 = .ok (.iload_n 3, 1) := by decide +kernel
theorem dX4_add_42 : decode cX4_add 42 = .ok (.iastore, 1) := by decide +kernel
theorem dX4_add_43 : decode cX4_add 43 = .ok (.aload_n 0, 1) := by decide +kernel
theorem dX4_add_44 : decode cX4_add 44 = .ok (.getfield 24, 3) := by decide +kernel
theorem dX4_add_47 : decode cX4_add 47 = .ok (.iload 6, 2) := by decide +kernel
theorem dX4_add_49 : decode cX4_add 49 = .ok (.iload 4, 2) := by decide +kernel
theorem dX4_add_51 : decode cX4_add 51 = .ok (.bastore, 1) := by decide +kernel
theorem dX4_add_52 : decode cX4_add 52 = .ok (.aload_n 0, 1) := by decide +kernel
theorem dX4_add_53 : decode cX4_add 53 = .ok (.getfield 21, 3) := by decide +kernel
theorem dX4_add_56 : decode cX4_add 56 = .ok (.iload 6, 2) := by decide +kernel
theorem dX4_add_58 : decode cX4_add 58 = .ok (.iload 5, 2) := by decide +kernel
theorem dX4_add_60 : decode cX4_add 60 = .ok (.iastore, 1) := by decide +kernel
theorem dX4_add_61 : decode cX4_add 61 = .ok (.aload_n 0, 1) := by decide +kernel
theorem dX4_add_62 : decode cX4_add 62 = .ok (.dup, 1) := by decide +kernel
theorem dX4_add_63 : decode cX4_add 63 = .ok (.getfield 28, 3) := by decide +kernel
theorem dX4_add_66 : decode cX4_add 66 = .ok (.iconst 1, 1) := by decide +kernel
theorem dX4_add_67 : decode cX4_add 67 = .ok (.iadd, 1) := by decide +kernel
theorem dX4_add_68 : decode cX4_add 68 = .ok (.putfield 28, 3) := by decide +kernel
theorem dX4_add_71 : decode cX4_add 71 = .ok (.iload 6, 2) := by decide +kernel
theorem dX4_add_73 : decode cX4_add 73 = .ok (.ireturn, 1) := by decide +kernel
theorem dX4_size_0 : decode cX4_size 0 = .ok (.aload_n 0, 1) := by decide +kernel
theorem dX4_size_1 : decode cX4_size 1 = .ok (.getfield 28, 3) := by decide +kernel
theorem dX4_size_4 : decode cX4_size 4 = .ok (.ireturn, 1) := by decide +kernel
theorem dX4_has_0 : decode cX4_has 0 = .ok (.iload_n 1, 1) := by decide +kernel
theorem dX4_has_1 : decode cX4_has 1 = .ok (.ifCond .lt 21, 3) := by decide +kernel
theorem dX4_has_4 : decode cX4_has 4 = .ok (.iload_n 1, 1) := by decide +kernel
theorem dX4_has_5 : decode cX4_has 5 = .ok (.aload_n 0, 1) := by decide +kernel
theorem dX4_has_6 : decode cX4_has 6 = .ok (.getfield 28, 3) := by decide +kernel
theorem dX4_has_9 : decode cX4_has 9 = .ok (.if_icmp .ge 13, 3) := by decide +kernel
theorem dX4_has_12 : decode cX4_has 12 = .ok (.iload_n 1, 1) := by decide +kernel
theorem dX4_has_13 : decode cX4_has 13 = .ok (.bipush 24, 2) := by decide +kernel
theorem dX4_has_15 : decode cX4_has 15 = .ok (.if_icmp .ge 7, 3) := by decide +kernel
theorem dX4_has_18 : decode cX4_has 18 = .ok (.iconst 1, 1) := by decide +kernel
theorem dX4_has_19 : decode cX4_has 19 = .ok (.goto 4, 3) := by decide +kernel
theorem dX4_has_22 : decode cX4_has 22 = .ok (.iconst 0, 1) := by decide +kernel
theorem dX4_has_23 : decode cX4_has 23 = .ok (.ireturn, 1) := by decide +kernel
theorem dX4_kindOf_0 : decode cX4_kindOf 0 = .ok (.aload_n 0, 1) := by decide +kernel
theorem dX4_kindOf_1 : decode cX4_kindOf 1 = .ok (.iload_n 1, 1) := by decide +kernel
theorem dX4_kindOf_2 : decode cX4_kindOf 2 = .ok (.invokevirtual 32, 3) := by decide +kernel
theorem dX4_kindOf_5 : decode cX4_kindOf 5 = .ok (.ifCond .eq 12, 3) := by decide +kernel
theorem dX4_kindOf_8 : decode cX4_kindOf 8 = .ok (.aload_n 0, 1) := by decide +kernel
theorem dX4_kindOf_9 : decode cX4_kindOf 9 = .ok (.getfield 9, 3) := by decide +kernel
theorem dX4_kindOf_12 : decode cX4_kindOf 12 = .ok (.iload_n 1, 1) := by decide +kernel
theorem dX4_kindOf_13 : decode cX4_kindOf 13 = .ok (.iaload, 1) := by decide +kernel
theorem dX4_kindOf_14 : decode cX4_kindOf 14 = .ok (.goto 4, 3) := by decide +kernel
theorem dX4_kindOf_17 : decode cX4_kindOf 17 = .ok (.iconst 0, 1) := by decide +kernel
theorem dX4_kindOf_18 : decode cX4_kindOf 18 = .ok (.ireturn, 1) := by decide +kernel
theorem dX4_farOf_0 : decode cX4_farOf 0 = .ok (.aload_n 0, 1) := by decide +kernel
theorem dX4_farOf_1 : decode cX4_farOf 1 = .ok (.iload_n 1, 1) := by decide +kernel
theorem dX4_farOf_2 : decode cX4_farOf 2 = .ok (.invokevirtual 32, 3) := by decide +kernel
theorem dX4_farOf_5 : decode cX4_farOf 5 = .ok (.ifCond .eq 12, 3) := by decide +kernel
theorem dX4_farOf_8 : decode cX4_farOf 8 = .ok (.aload_n 0, 1) := by decide +kernel
theorem dX4_farOf_9 : decode cX4_farOf 9 = .ok (.getfield 15, 3) := by decide +kernel
theorem dX4_farOf_12 : decode cX4_farOf 12 = .ok (.iload_n 1, 1) := by decide +kernel
theorem dX4_farOf_13 : decode cX4_farOf 13 = .ok (.iaload, 1) := by decide +kernel
theorem dX4_farOf_14 : decode cX4_farOf 14 = .ok (.goto 4, 3) := by decide +kernel
theorem dX4_farOf_17 : decode cX4_farOf 17 = .ok (.iconst 0, 1) := by decide +kernel
theorem dX4_farOf_18 : decode cX4_farOf 18 = .ok (.ireturn, 1) := by decide +kernel
theorem dX4_depthOf_0 : decode cX4_depthOf 0 = .ok (.aload_n 0, 1) := by decide +kernel
theorem dX4_depthOf_1 : decode cX4_depthOf 1 = .ok (.iload_n 1, 1) := by decide +kernel
theorem dX4_depthOf_2 : decode cX4_depthOf 2 = .ok (.invokevirtual 32, 3) := by decide +kernel
theorem dX4_depthOf_5 : decode cX4_depthOf 5 = .ok (.ifCond .eq 12, 3) := by decide +kernel
theorem dX4_depthOf_8 : decode cX4_depthOf 8 = .ok (.aload_n 0, 1) := by decide +kernel
theorem dX4_depthOf_9 : decode cX4_depthOf 9 = .ok (.getfield 18, 3) := by decide +kernel
theorem dX4_depthOf_12 : decode cX4_depthOf 12 = .ok (.iload_n 1, 1) := by decide +kernel
theorem dX4_depthOf_13 : decode cX4_depthOf 13 = .ok (.iaload, 1) := by decide +kernel
theorem dX4_depthOf_14 : decode cX4_depthOf 14 = .ok (.goto 4, 3) := by decide +kernel
theorem dX4_depthOf_17 : decode cX4_depthOf 17 = .ok (.iconst 0, 1) := by decide +kernel
theorem dX4_depthOf_18 : decode cX4_depthOf 18 = .ok (.ireturn, 1) := by decide +kernel
theorem dX4_isKnown_0 : decode cX4_isKnown 0 = .ok (.aload_n 0, 1) := by decide +kernel
theorem dX4_isKnown_1 : decode cX4_isKnown 1 = .ok (.iload_n 1, 1) := by decide +kernel
theorem dX4_isKnown_2 : decode cX4_isKnown 2 = .ok (.invokevirtual 32, 3) := by decide +kernel
theorem dX4_isKnown_5 : decode cX4_isKnown 5 = .ok (.ifCond .eq 16, 3) := by decide +kernel
theorem dX4_isKnown_8 : decode cX4_isKnown 8 = .ok (.aload_n 0, 1) := by decide +kernel
theorem dX4_isKnown_9 : decode cX4_isKnown 9 = .ok (.getfield 24, 3) := by decide +kernel
theorem dX4_isKnown_12 : decode cX4_isKnown 12 = .ok (.iload_n 1, 1) := by decide +kernel
theorem dX4_isKnown_13 : decode cX4_isKnown 13 = .ok (.baload, 1) := by decide +kernel
theorem dX4_isKnown_14 : decode cX4_isKnown 14 = .ok (.ifCond .eq 7, 3) := by decide +kernel
theorem dX4_isKnown_17 : decode cX4_isKnown 17 = .ok (.iconst 1, 1) := by decide +kernel
theorem dX4_isKnown_18 : decode cX4_isKnown 18 = .ok (.goto 4, 3) := by decide +kernel
theorem dX4_isKnown_21 : decode cX4_isKnown 21 = .ok (.iconst 0, 1) := by decide +kernel
theorem dX4_isKnown_22 : decode cX4_isKnown 22 = .ok (.ireturn, 1) := by decide +kernel
theorem dX4_originalOf_0 : decode cX4_originalOf 0 = .ok (.aload_n 0, 1) := by decide +kernel
theorem dX4_originalOf_1 : decode cX4_originalOf 1 = .ok (.iload_n 1, 1) := by decide +kernel
theorem dX4_originalOf_2 : decode cX4_originalOf 2 = .ok (.invokevirtual 32, 3) := by decide +kernel
theorem dX4_originalOf_5 : decode cX4_originalOf 5 = .ok (.ifCond .eq 12, 3) := by decide +kernel
theorem dX4_originalOf_8 : decode cX4_originalOf 8 = .ok (.aload_n 0, 1) := by decide +kernel
theorem dX4_originalOf_9 : decode cX4_originalOf 9 = .ok (.getfield 21, 3) := by decide +kernel
theorem dX4_originalOf_12 : decode cX4_originalOf 12 = .ok (.iload_n 1, 1) := by decide +kernel
theorem dX4_originalOf_13 : decode cX4_originalOf 13 = .ok (.iaload, 1) := by decide +kernel
theorem dX4_originalOf_14 : decode cX4_originalOf 14 = .ok (.goto 4, 3) := by decide +kernel
theorem dX4_originalOf_17 : decode cX4_originalOf 17 = .ok (.iconst (-1), 1) := by decide +kernel
theorem dX4_originalOf_18 : decode cX4_originalOf 18 = .ok (.ireturn, 1) := by decide +kernel
theorem dX4_knownOnes_0 : decode cX4_knownOnes 0 = .ok (.iconst 0, 1) := by decide +kernel
theorem dX4_knownOnes_1 : decode cX4_knownOnes 1 = .ok (.istore_n 1, 1) := by decide +kernel
theorem dX4_knownOnes_2 : decode cX4_knownOnes 2 = .ok (.iconst 0, 1) := by decide +kernel
theorem dX4_knownOnes_3 : decode cX4_knownOnes 3 = .ok (.istore_n 2, 1) := by decide +kernel
theorem dX4_knownOnes_4 : decode cX4_knownOnes 4 = .ok (.iload_n 2, 1) := by decide +kernel
theorem dX4_knownOnes_5 : decode cX4_knownOnes 5 = .ok (.aload_n 0, 1) := by decide +kernel
theorem dX4_knownOnes_6 : decode cX4_knownOnes 6 = .ok (.getfield 28, 3) := by decide +kernel
theorem dX4_knownOnes_9 : decode cX4_knownOnes 9 = .ok (.if_icmp .ge 20, 3) := by decide +kernel
theorem dX4_knownOnes_12 : decode cX4_knownOnes 12 = .ok (.iload_n 1, 1) := by decide +kernel
theorem dX4_knownOnes_13 : decode cX4_knownOnes 13 = .ok (.aload_n 0, 1) := by decide +kernel
theorem dX4_knownOnes_14 : decode cX4_knownOnes 14 = .ok (.iload_n 2, 1) := by decide +kernel
theorem dX4_knownOnes_15 : decode cX4_knownOnes 15 = .ok (.invokevirtual 36, 3) := by decide +kernel
theorem dX4_knownOnes_18 : decode cX4_knownOnes 18 = .ok (.invokestatic 39, 3) := by decide +kernel
theorem dX4_knownOnes_21 : decode cX4_knownOnes 21 = .ok (.iadd, 1) := by decide +kernel
theorem dX4_knownOnes_22 : decode cX4_knownOnes 22 = .ok (.istore_n 1, 1) := by decide +kernel
theorem dX4_knownOnes_23 : decode cX4_knownOnes 23 = .ok (.iinc 2 1, 3) := by decide +kernel
theorem dX4_knownOnes_26 : decode cX4_knownOnes 26 = .ok (.goto (-22), 3) := by decide +kernel
theorem dX4_knownOnes_29 : decode cX4_knownOnes 29 = .ok (.iload_n 1, 1) := by decide +kernel
theorem dX4_knownOnes_30 : decode cX4_knownOnes 30 = .ok (.ireturn, 1) := by decide +kernel
theorem dX4_mirrors_0 : decode cX4_mirrors 0 = .ok (.iconst 0, 1) := by decide +kernel
theorem dX4_mirrors_1 : decode cX4_mirrors 1 = .ok (.istore_n 1, 1) := by decide +kernel
theorem dX4_mirrors_2 : decode cX4_mirrors 2 = .ok (.iconst 0, 1) := by decide +kernel
theorem dX4_mirrors_3 : decode cX4_mirrors 3 = .ok (.istore_n 2, 1) := by decide +kernel
theorem dX4_mirrors_4 : decode cX4_mirrors 4 = .ok (.iload_n 2, 1) := by decide +kernel
theorem dX4_mirrors_5 : decode cX4_mirrors 5 = .ok (.aload_n 0, 1) := by decide +kernel
theorem dX4_mirrors_6 : decode cX4_mirrors 6 = .ok (.getfield 28, 3) := by decide +kernel
theorem dX4_mirrors_9 : decode cX4_mirrors 9 = .ok (.if_icmp .ge 29, 3) := by decide +kernel
theorem dX4_mirrors_12 : decode cX4_mirrors 12 = .ok (.iload_n 1, 1) := by decide +kernel
theorem dX4_mirrors_13 : decode cX4_mirrors 13 = .ok (.aload_n 0, 1) := by decide +kernel
theorem dX4_mirrors_14 : decode cX4_mirrors 14 = .ok (.iload_n 2, 1) := by decide +kernel
theorem dX4_mirrors_15 : decode cX4_mirrors 15 = .ok (.invokevirtual 43, 3) := by decide +kernel
theorem dX4_mirrors_18 : decode cX4_mirrors 18 = .ok (.iconst (-1), 1) := by decide +kernel
theorem dX4_mirrors_19 : decode cX4_mirrors 19 = .ok (.if_icmp .eq 7, 3) := by decide +kernel
theorem dX4_mirrors_22 : decode cX4_mirrors 22 = .ok (.iconst 1, 1) := by decide +kernel
theorem dX4_mirrors_23 : decode cX4_mirrors 23 = .ok (.goto 4, 3) := by decide +kernel
theorem dX4_mirrors_26 : decode cX4_mirrors 26 = .ok (.iconst 0, 1) := by decide +kernel
theorem dX4_mirrors_27 : decode cX4_mirrors 27 = .ok (.invokestatic 39, 3) := by decide +kernel
theorem dX4_mirrors_30 : decode cX4_mirrors 30 = .ok (.iadd, 1) := by decide +kernel
theorem dX4_mirrors_31 : decode cX4_mirrors 31 = .ok (.istore_n 1, 1) := by decide +kernel
theorem dX4_mirrors_32 : decode cX4_mirrors 32 = .ok (.iinc 2 1, 3) := by decide +kernel
theorem dX4_mirrors_35 : decode cX4_mirrors 35 = .ok (.goto (-31), 3) := by decide +kernel
theorem dX4_mirrors_38 : decode cX4_mirrors 38 = .ok (.iload_n 1, 1) := by decide +kernel
theorem dX4_mirrors_39 : decode cX4_mirrors 39 = .ok (.ireturn, 1) := by decide +kernel
theorem dX5_init_0 : decode cX5_init 0 = .ok (.aload_n 0, 1) := by decide +kernel
theorem dX5_init_1 : decode cX5_init 1 = .ok (.invokespecial 5, 3) := by decide +kernel
theorem dX5_init_4 : decode cX5_init 4 = .ok (.aload_n 0, 1) := by decide +kernel
theorem dX5_init_5 : decode cX5_init 5 = .ok (.bipush 8, 2) := by decide +kernel
theorem dX5_init_7 : decode cX5_init 7 = .ok (.newarray .int, 2) := by decide +kernel
theorem dX5_init_9 : decode cX5_init 9 = .ok (.putfield 11, 3) := by decide +kernel
theorem dX5_init_12 : decode cX5_init 12 = .ok (.aload_n 0, 1) := by decide +kernel
theorem dX5_init_13 : decode cX5_init 13 = .ok (.bipush 6, 2) := by decide +kernel
theorem dX5_init_15 : decode cX5_init 15 = .ok (.newarray .int, 2) := by decide +kernel
theorem dX5_init_17 : decode cX5_init 17 = .ok (.putfield 15, 3) := by decide +kernel
theorem dX5_init_20 : decode cX5_init 20 = .ok (.aload_n 0, 1) := by decide +kernel
theorem dX5_init_21 : decode cX5_init 21 = .ok (.sipush 256, 3) := by decide +kernel
theorem dX5_init_24 : decode cX5_init 24 = .ok (.newarray .int, 2) := by decide +kernel
theorem dX5_init_26 : decode cX5_init 26 = .ok (.putfield 18, 3) := by decide +kernel
theorem dX5_init_29 : decode cX5_init 29 = .ok (.aload_n 0, 1) := by decide +kernel
theorem dX5_init_30 : decode cX5_init 30 = .ok (.sipush 256, 3) := by decide +kernel
theorem dX5_init_33 : decode cX5_init 33 = .ok (.newarray .int, 2) := by decide +kernel
theorem dX5_init_35 : decode cX5_init 35 = .ok (.putfield 21, 3) := by decide +kernel
theorem dX5_init_38 : decode cX5_init 38 = .ok (.aload_n 0, 1) := by decide +kernel
theorem dX5_init_39 : decode cX5_init 39 = .ok (.sipush 256, 3) := by decide +kernel
theorem dX5_init_42 : decode cX5_init 42 = .ok (.newarray .int, 2) := by decide +kernel
theorem dX5_init_44 : decode cX5_init 44 = .ok (.putfield 24, 3) := by decide +kernel
theorem dX5_init_47 : decode cX5_init 47 = .ok (.aload_n 0, 1) := by decide +kernel
theorem dX5_init_48 : decode cX5_init 48 = .ok (.iconst 2, 1) := by decide +kernel
theorem dX5_init_49 : decode cX5_init 49 = .ok (.invokevirtual 27, 3) := by decide +kernel
theorem dX5_init_52 : decode cX5_init 52 = .ok (.pop, 1) := by decide +kernel
theorem dX5_init_53 : decode cX5_init 53 = .ok (.return_, 1) := by decide +kernel
theorem dX5_restart_0 : decode cX5_restart 0 = .ok (.aload_n 0, 1) := by decide +kernel
theorem dX5_restart_1 : decode cX5_restart 1 = .ok (.iload_n 1, 1) := by decide +kernel
theorem dX5_restart_2 : decode cX5_restart 2 = .ok (.putfield 31, 3) := by decide +kernel
theorem dX5_restart_5 : decode cX5_restart 5 = .ok (.iconst 0, 1) := by decide +kernel
theorem dX5_restart_6 : decode cX5_restart 6 = .ok (.istore_n 2, 1) := by decide +kernel
theorem dX5_restart_7 : decode cX5_restart 7 = .ok (.iload_n 2, 1) := by decide +kernel
theorem dX5_restart_8 : decode cX5_restart 8 = .ok (.aload_n 0, 1) := by decide +kernel
theorem dX5_restart_9 : decode cX5_restart 9 = .ok (.getfield 11, 3) := by decide +kernel
theorem dX5_restart_12 : decode cX5_restart 12 = .ok (.arraylength, 1) := by decide +kernel
theorem dX5_restart_13 : decode cX5_restart 13 = .ok (.if_icmp .ge 16, 3) := by decide +kernel
theorem dX5_restart_16 : decode cX5_restart 16 = .ok (.aload_n 0, 1) := by decide +kernel
theorem dX5_restart_17 : decode cX5_restart 17 = .ok (.getfield 11, 3) := by decide +kernel
theorem dX5_restart_20 : decode cX5_restart 20 = .ok (.iload_n 2, 1) := by decide +kernel
theorem dX5_restart_21 : decode cX5_restart 21 = .ok (.iconst 1, 1) := by decide +kernel
theorem dX5_restart_22 : decode cX5_restart 22 = .ok (.iastore, 1) := by decide +kernel
theorem dX5_restart_23 : decode cX5_restart 23 = .ok (.iinc 2 1, 3) := by decide +kernel
theorem dX5_restart_26 : decode cX5_restart 26 = .ok (.goto (-19), 3) := by decide +kernel
theorem dX5_restart_29 : decode cX5_restart 29 = .ok (.iconst 0, 1) := by decide +kernel
theorem dX5_restart_30 : decode cX5_restart 30 = .ok (.istore_n 2, 1) := by decide +kernel
theorem dX5_restart_31 : decode cX5_restart 31 = .ok (.iload_n 2, 1) := by decide +kernel
theorem dX5_restart_32 : decode cX5_restart 32 = .ok (.aload_n 0, 1) := by decide +kernel
theorem dX5_restart_33 : decode cX5_restart 33 = .ok (.getfield 15, 3) := by decide +kernel
theorem dX5_restart_36 : decode cX5_restart 36 = .ok (.arraylength, 1) := by decide +kernel
theorem dX5_restart_37 : decode cX5_restart 37 = .ok (.if_icmp .ge 16, 3) := by decide +kernel
theorem dX5_restart_40 : decode cX5_restart 40 = .ok (.aload_n 0, 1) := by decide +kernel
theorem dX5_restart_41 : decode cX5_restart 41 = .ok (.getfield 15, 3) := by decide +kernel
theorem dX5_restart_44 : decode cX5_restart 44 = .ok (.iload_n 2, 1) := by decide +kernel
theorem dX5_restart_45 : decode cX5_restart 45 = .ok (.iconst 0, 1) := by decide +kernel
theorem dX5_restart_46 : decode cX5_restart 46 = .ok (.iastore, 1) := by decide +kernel
theorem dX5_restart_47 : decode cX5_restart 47 = .ok (.iinc 2 1, 3) := by decide +kernel
theorem dX5_restart_50 : decode cX5_restart 50 = .ok (.goto (-19), 3) := by decide +kernel
theorem dX5_restart_53 : decode cX5_restart 53 = .ok (.aload_n 0, 1) := by decide +kernel
theorem dX5_restart_54 : decode cX5_restart 54 = .ok (.iconst 0, 1) := by decide +kernel
theorem dX5_restart_55 : decode cX5_restart 55 = .ok (.putfield 35, 3) := by decide +kernel
theorem dX5_restart_58 : decode cX5_restart 58 = .ok (.aload_n 0, 1) := by decide +kernel
theorem dX5_restart_59 : decode cX5_restart 59 = .ok (.getfield 31, 3) := by decide +kernel
theorem dX5_restart_62 : decode cX5_restart 62 = .ok (.ireturn, 1) := by decide +kernel
theorem dX5_size_0 : decode cX5_size 0 = .ok (.aload_n 0, 1) := by decide +kernel
theorem dX5_size_1 : decode cX5_size 1 = .ok (.getfield 31, 3) := by decide +kernel
theorem dX5_size_4 : decode cX5_size 4 = .ok (.ireturn, 1) := by decide +kernel
theorem dX5_hasThing_0 : decode cX5_hasThing 0 = .ok (.iload_n 1, 1) := by decide +kernel
theorem dX5_hasThing_1 : decode cX5_hasThing 1 = .ok (.ifCond .lt 24, 3) := by decide +kernel
theorem dX5_hasThing_4 : decode cX5_hasThing 4 = .ok (.iload_n 1, 1) := by decide +kernel
theorem dX5_hasThing_5 : decode cX5_hasThing 5 = .ok (.aload_n 0, 1) := by decide +kernel
theorem dX5_hasThing_6 : decode cX5_hasThing 6 = .ok (.getfield 31, 3) := by decide +kernel
theorem dX5_hasThing_9 : decode cX5_hasThing 9 = .ok (.if_icmp .ge 16, 3) := by decide +kernel
theorem dX5_hasThing_12 : decode cX5_hasThing 12 = .ok (.iload_n 1, 1) := by decide +kernel
theorem dX5_hasThing_13 : decode cX5_hasThing 13 = .ok (.aload_n 0, 1) := by decide +kernel
theorem dX5_hasThing_14 : decode cX5_hasThing 14 = .ok (.getfield 11, 3) := by decide +kernel
theorem dX5_hasThing_17 : decode cX5_hasThing 17 = .ok (.arraylength, 1) := by decide +kernel
theorem dX5_hasThing_18 : decode cX5_hasThing 18 = .ok (.if_icmp .ge 7, 3) := by decide +kernel
theorem dX5_hasThing_21 : decode cX5_hasThing 21 = .ok (.iconst 1, 1) := by decide +kernel
theorem dX5_hasThing_22 : decode cX5_hasThing 22 = .ok (.goto 4, 3) := by decide +kernel
theorem dX5_hasThing_25 : decode cX5_hasThing 25 = .ok (.iconst 0, 1) := by decide +kernel
theorem dX5_hasThing_26 : decode cX5_hasThing 26 = .ok (.ireturn, 1) := by decide +kernel
theorem dX5_changeWeight_0 : decode cX5_changeWeight 0 = .ok (.aload_n 0, 1) := by decide +kernel
theorem dX5_changeWeight_1 : decode cX5_changeWeight 1 = .ok (.iload_n 1, 1) := by decide +kernel
theorem dX5_changeWeight_2 : decode cX5_changeWeight 2 = .ok (.invokevirtual 39, 3) := by decide +kernel
theorem dX5_changeWeight_5 : decode cX5_changeWeight 5 = .ok (.ifCond .ne 7, 3) := by decide +kernel
theorem dX5_changeWeight_8 : decode cX5_changeWeight 8 = .ok (.sipush (-1002), 3) := by decide +kernel
theorem dX5_changeWeight_11 : decode cX5_changeWeight 11 = .ok (.ireturn, 1) := by decide +kernel
theorem dX5_changeWeight_12 : decode cX5_changeWeight 12 = .ok (.aload_n 0, 1) := by decide +kernel
theorem dX5_changeWeight_13 : decode cX5_changeWeight 13 = .ok (.getfield 11, 3) := by decide +kernel
theorem dX5_changeWeight_16 : decode cX5_changeWeight 16 = .ok (.iload_n 1, 1) := by decide +kernel
theorem dX5_changeWeight_17 : decode cX5_changeWeight 17 = .ok (.iaload, 1) := by decide +kernel
theorem dX5_changeWeight_18 : decode cX5_changeWeight 18 = .ok (.istore_n 3, 1) := by decide +kernel
theorem dX5_changeWeight_19 : decode cX5_changeWeight 19 = .ok (.aload_n 0, 1) := by decide +kernel
theorem dX5_changeWeight_20 : decode cX5_changeWeight 20 = .ok (.getfield 11, 3) := by decide +kernel
theorem dX5_changeWeight_23 : decode cX5_changeWeight 23 = .ok (.iload_n 1, 1) := by decide +kernel
theorem dX5_changeWeight_24 : decode cX5_changeWeight 24 = .ok (.iload_n 2, 1) := by decide +kernel
theorem dX5_changeWeight_25 : decode cX5_changeWeight 25 = .ok (.iastore, 1) := by decide +kernel
theorem dX5_changeWeight_26 : decode cX5_changeWeight 26 = .ok (.aload_n 0, 1) := by decide +kernel
theorem dX5_changeWeight_27 : decode cX5_changeWeight 27 = .ok (.iconst 0, 1) := by decide +kernel
theorem dX5_changeWeight_28 : decode cX5_changeWeight 28 = .ok (.putfield 35, 3) := by decide +kernel
theorem dX5_changeWeight_31 : decode cX5_changeWeight 31 = .ok (.iload_n 3, 1) := by decide +kernel
theorem dX5_changeWeight_32 : decode cX5_changeWeight 32 = .ok (.ireturn, 1) := by decide +kernel
theorem dX5_changeSet_0 : decode cX5_changeSet 0 = .ok (.iload_n 1, 1) := by decide +kernel
theorem dX5_changeSet_1 : decode cX5_changeSet 1 = .ok (.ifCond .lt 12, 3) := by decide +kernel
theorem dX5_changeSet_4 : decode cX5_changeSet 4 = .ok (.iload_n 1, 1) := by decide +kernel
theorem dX5_changeSet_5 : decode cX5_changeSet 5 = .ok (.aload_n 0, 1) := by decide +kernel
theorem dX5_changeSet_6 : decode cX5_changeSet 6 = .ok (.getfield 15, 3) := by decide +kernel
theorem dX5_changeSet_9 : decode cX5_changeSet 9 = .ok (.arraylength, 1) := by decide +kernel
theorem dX5_changeSet_10 : decode cX5_changeSet 10 = .ok (.if_icmp .lt 7, 3) := by decide +kernel
theorem dX5_changeSet_13 : decode cX5_changeSet 13 = .ok (.sipush (-1002), 3) := by decide +kernel
theorem dX5_changeSet_16 : decode cX5_changeSet 16 = .ok (.ireturn, 1) := by decide +kernel
theorem dX5_changeSet_17 : decode cX5_changeSet 17 = .ok (.aload_n 0, 1) := by decide +kernel
theorem dX5_changeSet_18 : decode cX5_changeSet 18 = .ok (.getfield 15, 3) := by decide +kernel
theorem dX5_changeSet_21 : decode cX5_changeSet 21 = .ok (.iload_n 1, 1) := by decide +kernel
theorem dX5_changeSet_22 : decode cX5_changeSet 22 = .ok (.iaload, 1) := by decide +kernel
theorem dX5_changeSet_23 : decode cX5_changeSet 23 = .ok (.istore_n 3, 1) := by decide +kernel
theorem dX5_changeSet_24 : decode cX5_changeSet 24 = .ok (.aload_n 0, 1) := by decide +kernel
theorem dX5_changeSet_25 : decode cX5_changeSet 25 = .ok (.getfield 15, 3) := by decide +kernel
theorem dX5_changeSet_28 : decode cX5_changeSet 28 = .ok (.iload_n 1, 1) := by decide +kernel
theorem dX5_changeSet_29 : decode cX5_changeSet 29 = .ok (.iload_n 2, 1) := by decide +kernel
theorem dX5_changeSet_30 : decode cX5_changeSet 30 = .ok (.iastore, 1) := by decide +kernel
theorem dX5_changeSet_31 : decode cX5_changeSet 31 = .ok (.aload_n 0, 1) := by decide +kernel
theorem dX5_changeSet_32 : decode cX5_changeSet 32 = .ok (.iconst 0, 1) := by decide +kernel
theorem dX5_changeSet_33 : decode cX5_changeSet 33 = .ok (.putfield 35, 3) := by decide +kernel
theorem dX5_changeSet_36 : decode cX5_changeSet 36 = .ok (.iload_n 3, 1) := by decide +kernel
theorem dX5_changeSet_37 : decode cX5_changeSet 37 = .ok (.ireturn, 1) := by decide +kernel
theorem dX5_asksOf_0 : decode cX5_asksOf 0 = .ok (.aload_n 0, 1) := by decide +kernel
theorem dX5_asksOf_1 : decode cX5_asksOf 1 = .ok (.invokevirtual 43, 3) := by decide +kernel
theorem dX5_asksOf_4 : decode cX5_asksOf 4 = .ok (.aload_n 0, 1) := by decide +kernel
theorem dX5_asksOf_5 : decode cX5_asksOf 5 = .ok (.iload_n 1, 1) := by decide +kernel
theorem dX5_asksOf_6 : decode cX5_asksOf 6 = .ok (.invokevirtual 46, 3) := by decide +kernel
theorem dX5_asksOf_9 : decode cX5_asksOf 9 = .ok (.ireturn, 1) := by decide +kernel
theorem dX5_firstOf_0 : decode cX5_firstOf 0 = .ok (.aload_n 0, 1) := by decide +kernel
theorem dX5_firstOf_1 : decode cX5_firstOf 1 = .ok (.invokevirtual 43, 3) := by decide +kernel
theorem dX5_firstOf_4 : decode cX5_firstOf 4 = .ok (.aload_n 0, 1) := by decide +kernel
theorem dX5_firstOf_5 : decode cX5_firstOf 5 = .ok (.iload_n 1, 1) := by decide +kernel
theorem dX5_firstOf_6 : decode cX5_firstOf 6 = .ok (.invokevirtual 49, 3) := by decide +kernel
theorem dX5_firstOf_9 : decode cX5_firstOf 9 = .ok (.ireturn, 1) := by decide +kernel
theorem dX5_depthOf_0 : decode cX5_depthOf 0 = .ok (.aload_n 0, 1) := by decide +kernel
theorem dX5_depthOf_1 : decode cX5_depthOf 1 = .ok (.invokevirtual 43, 3) := by decide +kernel
theorem dX5_depthOf_4 : decode cX5_depthOf 4 = .ok (.aload_n 0, 1) := by decide +kernel
theorem dX5_depthOf_5 : decode cX5_depthOf 5 = .ok (.iload_n 1, 1) := by decide +kernel
theorem dX5_depthOf_6 : decode cX5_depthOf 6 = .ok (.invokevirtual 52, 3) := by decide +kernel
theorem dX5_depthOf_9 : decode cX5_depthOf 9 = .ok (.ireturn, 1) := by decide +kernel
theorem dX5_wrongTurn_0 : decode cX5_wrongTurn 0 = .ok (.aload_n 0, 1) := by decide +kernel
theorem dX5_wrongTurn_1 : decode cX5_wrongTurn 1 = .ok (.invokevirtual 43, 3) := by decide +kernel
theorem dX5_wrongTurn_4 : decode cX5_wrongTurn 4 = .ok (.iconst 1, 1) := by decide +kernel
theorem dX5_wrongTurn_5 : decode cX5_wrongTurn 5 = .ok (.aload_n 0, 1) := by decide +kernel
theorem dX5_wrongTurn_6 : decode cX5_wrongTurn 6 = .ok (.getfield 31, 3) := by decide +kernel
theorem dX5_wrongTurn_9 : decode cX5_wrongTurn 9 = .ok (.ishl, 1) := by decide +kernel
theorem dX5_wrongTurn_10 : decode cX5_wrongTurn 10 = .ok (.iconst 1, 1) := by decide +kernel
theorem dX5_wrongTurn_11 : decode cX5_wrongTurn 11 = .ok (.isub, 1) := by decide +kernel
theorem dX5_wrongTurn_12 : decode cX5_wrongTurn 12 = .ok (.istore_n 2, 1) := by decide +kernel
theorem dX5_wrongTurn_13 : decode cX5_wrongTurn 13 = .ok (.aload_n 0, 1) := by decide +kernel
theorem dX5_wrongTurn_14 : decode cX5_wrongTurn 14 = .ok (.iload_n 2, 1) := by decide +kernel
theorem dX5_wrongTurn_15 : decode cX5_wrongTurn 15 = .ok (.invokevirtual 49, 3) := by decide +kernel
theorem dX5_wrongTurn_18 : decode cX5_wrongTurn 18 = .ok (.istore_n 3, 1) := by decide +kernel
theorem dX5_wrongTurn_19 : decode cX5_wrongTurn 19 = .ok (.iload_n 3, 1) := by decide +kernel
theorem dX5_wrongTurn_20 : decode cX5_wrongTurn 20 = .ok (.iconst (-1), 1) := by decide +kernel
theorem dX5_wrongTurn_21 : decode cX5_wrongTurn 21 = .ok (.if_icmp .ne 5, 3) := by decide +kernel
theorem dX5_wrongTurn_24 : decode cX5_wrongTurn 24 = .ok (.iconst 0, 1) := by decide +kernel
theorem dX5_wrongTurn_25 : decode cX5_wrongTurn 25 = .ok (.ireturn, 1) := by decide +kernel
theorem dX5_wrongTurn_26 : decode cX5_wrongTurn 26 = .ok (.iload_n 2, 1) := by decide +kernel
theorem dX5_wrongTurn_27 : decode cX5_wrongTurn 27 = .ok (.aload_n 0, 1) := by decide +kernel
theorem dX5_wrongTurn_28 : decode cX5_wrongTurn 28 = .ok (.iload_n 2, 1) := by decide +kernel
theorem dX5_wrongTurn_29 : decode cX5_wrongTurn 29 = .ok (.iload_n 3, 1) := by decide +kernel
theorem dX5_wrongTurn_30 : decode cX5_wrongTurn 30 = .ok (.iload_n 1, 1) := by decide +kernel
theorem dX5_wrongTurn_31 : decode cX5_wrongTurn 31 = .ok (.invokevirtual 55, 3) := by decide +kernel
theorem dX5_wrongTurn_34 : decode cX5_wrongTurn 34 = .ok (.iconst (-1), 1) := by decide +kernel
theorem dX5_wrongTurn_35 : decode cX5_wrongTurn 35 = .ok (.ixor, 1) := by decide +kernel
theorem dX5_wrongTurn_36 : decode cX5_wrongTurn 36 = .ok (.iand, 1) := by decide +kernel
theorem dX5_wrongTurn_37 : decode cX5_wrongTurn 37 = .ok (.istore 4, 2) := by decide +kernel
theorem dX5_wrongTurn_39 : decode cX5_wrongTurn 39 = .ok (.iconst 0, 1) := by decide +kernel
theorem dX5_wrongTurn_40 : decode cX5_wrongTurn 40 = .ok (.istore 5, 2) := by decide +kernel
theorem dX5_wrongTurn_42 : decode cX5_wrongTurn 42 = .ok (.iload 5, 2) := by decide +kernel
theorem dX5_wrongTurn_44 : decode cX5_wrongTurn 44 = .ok (.bipush 8, 2) := by decide +kernel
theorem dX5_wrongTurn_46 : decode cX5_wrongTurn 46 = .ok (.if_icmp .ge 34, 3) := by decide +kernel
theorem dX5_wrongTurn_49 : decode cX5_wrongTurn 49 = .ok (.aload_n 0, 1) := by decide +kernel
theorem dX5_wrongTurn_50 : decode cX5_wrongTurn 50 = .ok (.iload 4, 2) := by decide +kernel
theorem dX5_wrongTurn_52 : decode cX5_wrongTurn 52 = .ok (.invokevirtual 49, 3) := by decide +kernel
theorem dX5_wrongTurn_55 : decode cX5_wrongTurn 55 = .ok (.iconst (-1), 1) := by decide +kernel
theorem dX5_wrongTurn_56 : decode cX5_wrongTurn 56 = .ok (.if_icmp .eq 24, 3) := by decide +kernel
theorem dX5_wrongTurn_59 : decode cX5_wrongTurn 59 = .ok (.aload_n 0, 1) := by decide +kernel
theorem dX5_wrongTurn_60 : decode cX5_wrongTurn 60 = .ok (.iload 4, 2) := by decide +kernel
theorem dX5_wrongTurn_62 : decode cX5_wrongTurn 62 = .ok (.aload_n 0, 1) := by decide +kernel
theorem dX5_wrongTurn_63 : decode cX5_wrongTurn 63 = .ok (.iload 4, 2) := by decide +kernel
theorem dX5_wrongTurn_65 : decode cX5_wrongTurn 65 = .ok (.invokevirtual 49, 3) := by decide +kernel
theorem dX5_wrongTurn_68 : decode cX5_wrongTurn 68 = .ok (.iload_n 1, 1) := by decide +kernel
theorem dX5_wrongTurn_69 : decode cX5_wrongTurn 69 = .ok (.invokevirtual 55, 3) := by decide +kernel
theorem dX5_wrongTurn_72 : decode cX5_wrongTurn 72 = .ok (.istore 4, 2) := by decide +kernel
theorem dX5_wrongTurn_74 : decode cX5_wrongTurn 74 = .ok (.iinc 5 1, 3) := by decide +kernel
theorem dX5_wrongTurn_77 : decode cX5_wrongTurn 77 = .ok (.goto (-35), 3) := by decide +kernel
theorem dX5_wrongTurn_80 : decode cX5_wrongTurn 80 = .ok (.iload 4, 2) := by decide +kernel
theorem dX5_wrongTurn_82 : decode cX5_wrongTurn 82 = .ok (.ireturn, 1) := by decide +kernel
theorem dX5_sideOf_0 : decode cX5_sideOf 0 = .ok (.aload_n 0, 1) := by decide +kernel
theorem dX5_sideOf_1 : decode cX5_sideOf 1 = .ok (.iload_n 2, 1) := by decide +kernel
theorem dX5_sideOf_2 : decode cX5_sideOf 2 = .ok (.invokevirtual 59, 3) := by decide +kernel
theorem dX5_sideOf_5 : decode cX5_sideOf 5 = .ok (.iload_n 3, 1) := by decide +kernel
theorem dX5_sideOf_6 : decode cX5_sideOf 6 = .ok (.invokestatic 62, 3) := by decide +kernel
theorem dX5_sideOf_9 : decode cX5_sideOf 9 = .ok (.ifCond .eq 13, 3) := by decide +kernel
theorem dX5_sideOf_12 : decode cX5_sideOf 12 = .ok (.iload_n 1, 1) := by decide +kernel
theorem dX5_sideOf_13 : decode cX5_sideOf 13 = .ok (.aload_n 0, 1) := by decide +kernel
theorem dX5_sideOf_14 : decode cX5_sideOf 14 = .ok (.iload_n 2, 1) := by decide +kernel
theorem dX5_sideOf_15 : decode cX5_sideOf 15 = .ok (.invokevirtual 59, 3) := by decide +kernel
theorem dX5_sideOf_18 : decode cX5_sideOf 18 = .ok (.iand, 1) := by decide +kernel
theorem dX5_sideOf_19 : decode cX5_sideOf 19 = .ok (.goto 12, 3) := by decide +kernel
theorem dX5_sideOf_22 : decode cX5_sideOf 22 = .ok (.iload_n 1, 1) := by decide +kernel
theorem dX5_sideOf_23 : decode cX5_sideOf 23 = .ok (.aload_n 0, 1) := by decide +kernel
theorem dX5_sideOf_24 : decode cX5_sideOf 24 = .ok (.iload_n 2, 1) := by decide +kernel
theorem dX5_sideOf_25 : decode cX5_sideOf 25 = .ok (.invokevirtual 59, 3) := by decide +kernel
theorem dX5_sideOf_28 : decode cX5_sideOf 28 = .ok (.iconst (-1), 1) := by decide +kernel
theorem dX5_sideOf_29 : decode cX5_sideOf 29 = .ok (.ixor, 1) := by decide +kernel
theorem dX5_sideOf_30 : decode cX5_sideOf 30 = .ok (.iand, 1) := by decide +kernel
theorem dX5_sideOf_31 : decode cX5_sideOf 31 = .ok (.ireturn, 1) := by decide +kernel
theorem dX5_plan_0 : decode cX5_plan 0 = .ok (.aload_n 0, 1) := by decide +kernel
theorem dX5_plan_1 : decode cX5_plan 1 = .ok (.getfield 35, 3) := by decide +kernel
theorem dX5_plan_4 : decode cX5_plan 4 = .ok (.ifCond .eq 4, 3) := by decide +kernel
theorem dX5_plan_7 : decode cX5_plan 7 = .ok (.return_, 1) := by decide +kernel
theorem dX5_plan_8 : decode cX5_plan 8 = .ok (.aload_n 0, 1) := by decide +kernel
theorem dX5_plan_9 : decode cX5_plan 9 = .ok (.iconst 1, 1) := by decide +kernel
theorem dX5_plan_10 : decode cX5_plan 10 = .ok (.putfield 35, 3) := by decide +kernel
theorem dX5_plan_13 : decode cX5_plan 13 = .ok (.iconst 1, 1) := by decide +kernel
theorem dX5_plan_14 : decode cX5_plan 14 = .ok (.istore_n 1, 1) := by decide +kernel
theorem dX5_plan_15 : decode cX5_plan 15 = .ok (.iload_n 1, 1) := by decide +kernel
theorem dX5_plan_16 : decode cX5_plan 16 = .ok (.iconst 1, 1) := by decide +kernel
theorem dX5_plan_17 : decode cX5_plan 17 = .ok (.aload_n 0, 1) := by decide +kernel
theorem dX5_plan_18 : decode cX5_plan 18 = .ok (.getfield 31, 3) := by decide +kernel
theorem dX5_plan_21 : decode cX5_plan 21 = .ok (.ishl, 1) := by decide +kernel
theorem dX5_plan_22 : decode cX5_plan 22 = .ok (.if_icmp .ge 21, 3) := by decide +kernel
theorem dX5_plan_25 : decode cX5_plan 25 = .ok (.iload_n 1, 1) := by decide +kernel
theorem dX5_plan_26 : decode cX5_plan 26 = .ok (.sipush 256, 3) := by decide +kernel
theorem dX5_plan_29 : decode cX5_plan 29 = .ok (.if_icmp .ge 14, 3) := by decide +kernel
theorem dX5_plan_32 : decode cX5_plan 32 = .ok (.aload_n 0, 1) := by decide +kernel
theorem dX5_plan_33 : decode cX5_plan 33 = .ok (.iload_n 1, 1) := by decide +kernel
theorem dX5_plan_34 : decode cX5_plan 34 = .ok (.invokevirtual 66, 3) := by decide +kernel
theorem dX5_plan_37 : decode cX5_plan 37 = .ok (.iinc 1 1, 3) := by decide +kernel
theorem dX5_plan_40 : decode cX5_plan 40 = .ok (.goto (-25), 3) := by decide +kernel
theorem dX5_plan_43 : decode cX5_plan 43 = .ok (.return_, 1) := by decide +kernel
theorem dX5_planSet_0 : decode cX5_planSet 0 = .ok (.iconst (-1), 1) := by decide +kernel
theorem dX5_planSet_1 : decode cX5_planSet 1 = .ok (.istore_n 2, 1) := by decide +kernel
theorem dX5_planSet_2 : decode cX5_planSet 2 = .ok (.iconst 0, 1) := by decide +kernel
theorem dX5_planSet_3 : decode cX5_planSet 3 = .ok (.istore_n 3, 1) := by decide +kernel
theorem dX5_planSet_4 : decode cX5_planSet 4 = .ok (.iconst 0, 1) := by decide +kernel
theorem dX5_planSet_5 : decode cX5_planSet 5 = .ok (.istore 4, 2) := by decide +kernel
theorem dX5_planSet_7 : decode cX5_planSet 7 = .ok (.iload 4, 2) := by decide +kernel
theorem dX5_planSet_9 : decode cX5_planSet 9 = .ok (.bipush 6, 2) := by decide +kernel
theorem dX5_planSet_11 : decode cX5_planSet 11 = .ok (.if_icmp .ge 73, 3) := by decide +kernel
theorem dX5_planSet_14 : decode cX5_planSet 14 = .ok (.iload_n 1, 1) := by decide +kernel
theorem dX5_planSet_15 : decode cX5_planSet 15 = .ok (.aload_n 0, 1) := by decide +kernel
theorem dX5_planSet_16 : decode cX5_planSet 16 = .ok (.iload 4, 2) := by decide +kernel
theorem dX5_planSet_18 : decode cX5_planSet 18 = .ok (.invokevirtual 59, 3) := by decide +kernel
theorem dX5_planSet_21 : decode cX5_planSet 21 = .ok (.iand, 1) := by decide +kernel
theorem dX5_planSet_22 : decode cX5_planSet 22 = .ok (.istore 5, 2) := by decide +kernel
theorem dX5_planSet_24 : decode cX5_planSet 24 = .ok (.iload_n 1, 1) := by decide +kernel
theorem dX5_planSet_25 : decode cX5_planSet 25 = .ok (.aload_n 0, 1) := by decide +kernel
theorem dX5_planSet_26 : decode cX5_planSet 26 = .ok (.iload 4, 2) := by decide +kernel
theorem dX5_planSet_28 : decode cX5_planSet 28 = .ok (.invokevirtual 59, 3) := by decide +kernel
theorem dX5_planSet_31 : decode cX5_planSet 31 = .ok (.iconst (-1), 1) := by decide +kernel
theorem dX5_planSet_32 : decode cX5_planSet 32 = .ok (.ixor, 1) := by decide +kernel
theorem dX5_planSet_33 : decode cX5_planSet 33 = .ok (.iand, 1) := by decide +kernel
theorem dX5_planSet_34 : decode cX5_planSet 34 = .ok (.istore 6, 2) := by decide +kernel
theorem dX5_planSet_36 : decode cX5_planSet 36 = .ok (.iload 5, 2) := by decide +kernel
theorem dX5_planSet_38 : decode cX5_planSet 38 = .ok (.ifCond .eq 40, 3) := by decide +kernel
theorem dX5_planSet_41 : decode cX5_planSet 41 = .ok (.iload 6, 2) := by decide +kernel
theorem dX5_planSet_43 : decode cX5_planSet 43 = .ok (.ifCond .eq 35, 3) := by decide +kernel
theorem dX5_planSet_46 : decode cX5_planSet 46 = .ok (.aload_n 0, 1) := by decide +kernel
theorem dX5_planSet_47 : decode cX5_planSet 47 = .ok (.iload 5, 2) := by decide +kernel
theorem dX5_planSet_49 : decode cX5_planSet 49 = .ok (.invokevirtual 46, 3) := by decide +kernel
theorem dX5_planSet_52 : decode cX5_planSet 52 = .ok (.aload_n 0, 1) := by decide +kernel
theorem dX5_planSet_53 : decode cX5_planSet 53 = .ok (.iload 6, 2) := by decide +kernel
theorem dX5_planSet_55 : decode cX5_planSet 55 = .ok (.invokevirtual 46, 3) := by decide +kernel
theorem dX5_planSet_58 : decode cX5_planSet 58 = .ok (.iadd, 1) := by decide +kernel
theorem dX5_planSet_59 : decode cX5_planSet 59 = .ok (.istore 7, 2) := by decide +kernel
theorem dX5_planSet_61 : decode cX5_planSet 61 = .ok (.iload_n 2, 1) := by decide +kernel
theorem dX5_planSet_62 : decode cX5_planSet 62 = .ok (.iconst (-1), 1) := by decide +kernel
theorem dX5_planSet_63 : decode cX5_planSet 63 = .ok (.if_icmp .eq 9, 3) := by decide +kernel
theorem dX5_planSet_66 : decode cX5_planSet 66 = .ok (.iload 7, 2) := by decide +kernel
theorem dX5_planSet_68 : decode cX5_planSet 68 = .ok (.iload_n 3, 1) := by decide +kernel
theorem dX5_planSet_69 : decode cX5_planSet 69 = .ok (.if_icmp .ge 9, 3) := by decide +kernel
theorem dX5_planSet_72 : decode cX5_planSet 72 = .ok (.iload 4, 2) := by decide +kernel
theorem dX5_planSet_74 : decode cX5_planSet 74 = .ok (.istore_n 2, 1) := by decide +kernel
theorem dX5_planSet_75 : decode cX5_planSet 75 = .ok (.iload 7, 2) := by decide +kernel
theorem dX5_planSet_77 : decode cX5_planSet 77 = .ok (.istore_n 3, 1) := by decide +kernel
theorem dX5_planSet_78 : decode cX5_planSet 78 = .ok (.iinc 4 1, 3) := by decide +kernel
theorem dX5_planSet_81 : decode cX5_planSet 81 = .ok (.goto (-74), 3) := by decide +kernel
theorem dX5_planSet_84 : decode cX5_planSet 84 = .ok (.iload_n 1, 1) := by decide +kernel
theorem dX5_planSet_85 : decode cX5_planSet 85 = .ok (.invokestatic 70, 3) := by decide +kernel
theorem dX5_planSet_88 : decode cX5_planSet 88 = .ok (.ifCond .eq 59, 3) := by decide +kernel
theorem dX5_planSet_91 : decode cX5_planSet 91 = .ok (.aload_n 0, 1) := by decide +kernel
theorem dX5_planSet_92 : decode cX5_planSet 92 = .ok (.getfield 21, 3) := by decide +kernel
theorem dX5_planSet_95 : decode cX5_planSet 95 = .ok (.iload_n 1, 1) := by decide +kernel
theorem dX5_planSet_96 : decode cX5_planSet 96 = .ok (.iload_n 2, 1) := by decide +kernel
theorem dX5_planSet_97 : decode cX5_planSet 97 = .ok (.iastore, 1) := by decide +kernel
theorem dX5_planSet_98 : decode cX5_planSet 98 = .ok (.aload_n 0, 1) := by decide +kernel
theorem dX5_planSet_99 : decode cX5_planSet 99 = .ok (.getfield 18, 3) := by decide +kernel
theorem dX5_planSet_102 : decode cX5_planSet 102 = .ok (.iload_n 1, 1) := by decide +kernel
theorem dX5_planSet_103 : decode cX5_planSet 103 = .ok (.iload_n 2, 1) := by decide +kernel
theorem dX5_planSet_104 : decode cX5_planSet 104 = .ok (.iconst (-1), 1) := by decide +kernel
theorem dX5_planSet_105 : decode cX5_planSet 105 = .ok (.if_icmp .ne 7, 3) := by decide +kernel
theorem dX5_planSet_108 : decode cX5_planSet 108 = .ok (.iconst 0, 1) := by decide +kernel
theorem dX5_planSet_109 : decode cX5_planSet 109 = .ok (.goto 10, 3) := by decide +kernel
theorem dX5_planSet_112 : decode cX5_planSet 112 = .ok (.aload_n 0, 1) := by decide +kernel
theorem dX5_planSet_113 : decode cX5_planSet 113 = .ok (.iload_n 1, 1) := by decide +kernel
theorem dX5_planSet_114 : decode cX5_planSet 114 = .ok (.invokevirtual 73, 3) := by decide +kernel
theorem dX5_planSet_117 : decode cX5_planSet 117 = .ok (.iload_n 3, 1) := by decide +kernel
theorem dX5_planSet_118 : decode cX5_planSet 118 = .ok (.iadd, 1) := by decide +kernel
theorem dX5_planSet_119 : decode cX5_planSet 119 = .ok (.iastore, 1) := by decide +kernel
theorem dX5_planSet_120 : decode cX5_planSet 120 = .ok (.aload_n 0, 1) := by decide +kernel
theorem dX5_planSet_121 : decode cX5_planSet 121 = .ok (.getfield 24, 3) := by decide +kernel
theorem dX5_planSet_124 : decode cX5_planSet 124 = .ok (.iload_n 1, 1) := by decide +kernel
theorem dX5_planSet_125 : decode cX5_planSet 125 = .ok (.iload_n 2, 1) := by decide +kernel
theorem dX5_planSet_126 : decode cX5_planSet 126 = .ok (.iconst (-1), 1) := by decide +kernel
theorem dX5_planSet_127 : decode cX5_planSet 127 = .ok (.if_icmp .ne 7, 3) := by decide +kernel
theorem dX5_planSet_130 : decode cX5_planSet 130 = .ok (.iconst 0, 1) := by decide +kernel
theorem dX5_planSet_131 : decode cX5_planSet 131 = .ok (.goto 15, 3) := by decide +kernel
theorem dX5_planSet_134 : decode cX5_planSet 134 = .ok (.iconst 1, 1) := by decide +kernel
theorem dX5_planSet_135 : decode cX5_planSet 135 = .ok (.aload_n 0, 1) := by decide +kernel
theorem dX5_planSet_136 : decode cX5_planSet 136 = .ok (.iload_n 1, 1) := by decide +kernel
theorem dX5_planSet_137 : decode cX5_planSet 137 = .ok (.aload_n 0, 1) := by decide +kernel
theorem dX5_planSet_138 : decode cX5_planSet 138 = .ok (.iload_n 2, 1) := by decide +kernel
theorem dX5_planSet_139 : decode cX5_planSet 139 = .ok (.invokevirtual 59, 3) := by decide +kernel
theorem dX5_planSet_142 : decode cX5_planSet 142 = .ok (.invokevirtual 76, 3) := by decide +kernel
theorem dX5_planSet_145 : decode cX5_planSet 145 = .ok (.iadd, 1) := by decide +kernel
theorem dX5_planSet_146 : decode cX5_planSet 146 = .ok (.iastore, 1) := by decide +kernel
theorem dX5_planSet_147 : decode cX5_planSet 147 = .ok (.return_, 1) := by decide +kernel
theorem dX5_deeperSide_0 : decode cX5_deeperSide 0 = .ok (.aload_n 0, 1) := by decide +kernel
theorem dX5_deeperSide_1 : decode cX5_deeperSide 1 = .ok (.iload_n 1, 1) := by decide +kernel
theorem dX5_deeperSide_2 : decode cX5_deeperSide 2 = .ok (.iload_n 2, 1) := by decide +kernel
theorem dX5_deeperSide_3 : decode cX5_deeperSide 3 = .ok (.iand, 1) := by decide +kernel
theorem dX5_deeperSide_4 : decode cX5_deeperSide 4 = .ok (.invokevirtual 52, 3) := by decide +kernel
theorem dX5_deeperSide_7 : decode cX5_deeperSide 7 = .ok (.aload_n 0, 1) := by decide +kernel
theorem dX5_deeperSide_8 : decode cX5_deeperSide 8 = .ok (.iload_n 1, 1) := by decide +kernel
theorem dX5_deeperSide_9 : decode cX5_deeperSide 9 = .ok (.iload_n 2, 1) := by decide +kernel
theorem dX5_deeperSide_10 : decode cX5_deeperSide 10 = .ok (.iconst (-1), 1) := by decide +kernel
theorem dX5_deeperSide_11 : decode cX5_deeperSide 11 = .ok (.ixor, 1) := by decide +kernel
theorem dX5_deeperSide_12 : decode cX5_deeperSide 12 = .ok (.iand, 1) := by decide +kernel
theorem dX5_deeperSide_13 : decode cX5_deeperSide 13 = .ok (.invokevirtual 52, 3) := by decide +kernel
theorem dX5_deeperSide_16 : decode cX5_deeperSide 16 = .ok (.invokestatic 80, 3) := by decide +kernel
theorem dX5_deeperSide_19 : decode cX5_deeperSide 19 = .ok (.ireturn, 1) := by decide +kernel
theorem dX5_plannedAsks_0 : decode cX5_plannedAsks 0 = .ok (.iload_n 1, 1) := by decide +kernel
theorem dX5_plannedAsks_1 : decode cX5_plannedAsks 1 = .ok (.invokestatic 70, 3) := by decide +kernel
theorem dX5_plannedAsks_4 : decode cX5_plannedAsks 4 = .ok (.ifCond .eq 12, 3) := by decide +kernel
theorem dX5_plannedAsks_7 : decode cX5_plannedAsks 7 = .ok (.aload_n 0, 1) := by decide +kernel
theorem dX5_plannedAsks_8 : decode cX5_plannedAsks 8 = .ok (.getfield 18, 3) := by decide +kernel
theorem dX5_plannedAsks_11 : decode cX5_plannedAsks 11 = .ok (.iload_n 1, 1) := by decide +kernel
theorem dX5_plannedAsks_12 : decode cX5_plannedAsks 12 = .ok (.iaload, 1) := by decide +kernel
theorem dX5_plannedAsks_13 : decode cX5_plannedAsks 13 = .ok (.goto 4, 3) := by decide +kernel
theorem dX5_plannedAsks_16 : decode cX5_plannedAsks 16 = .ok (.iconst 0, 1) := by decide +kernel
theorem dX5_plannedAsks_17 : decode cX5_plannedAsks 17 = .ok (.ireturn, 1) := by decide +kernel
theorem dX5_plannedFirst_0 : decode cX5_plannedFirst 0 = .ok (.iload_n 1, 1) := by decide +kernel
theorem dX5_plannedFirst_1 : decode cX5_plannedFirst 1 = .ok (.invokestatic 70, 3) := by decide +kernel
theorem dX5_plannedFirst_4 : decode cX5_plannedFirst 4 = .ok (.ifCond .eq 12, 3) := by decide +kernel
theorem dX5_plannedFirst_7 : decode cX5_plannedFirst 7 = .ok (.aload_n 0, 1) := by decide +kernel
theorem dX5_plannedFirst_8 : decode cX5_plannedFirst 8 = .ok (.getfield 21, 3) := by decide +kernel
theorem dX5_plannedFirst_11 : decode cX5_plannedFirst 11 = .ok (.iload_n 1, 1) := by decide +kernel
