theorem dX2_init_0 : decode cX2_init 0 = .ok (.aload_n 0, 1) := by decide +kernel
theorem dX2_init_1 : decode cX2_init 1 = .ok (.invokespecial 3, 3) := by decide +kernel
theorem dX2_init_4 : decode cX2_init 4 = .ok (.aload_n 0, 1) := by decide +kernel
theorem dX2_init_5 : decode cX2_init 5 = .ok (.bipush 20, 2) := by decide +kernel
theorem dX2_init_7 : decode cX2_init 7 = .ok (.putfield 9, 3) := by decide +kernel
theorem dX2_init_10 : decode cX2_init 10 = .ok (.aload_n 0, 1) := by decide +kernel
theorem dX2_init_11 : decode cX2_init 11 = .ok (.iconst 5, 1) := by decide +kernel
theorem dX2_init_12 : decode cX2_init 12 = .ok (.newarray .int, 2) := by decide +kernel
theorem dX2_init_14 : decode cX2_init 14 = .ok (.putfield 15, 3) := by decide +kernel
theorem dX2_init_17 : decode cX2_init 17 = .ok (.aload_n 0, 1) := by decide +kernel
theorem dX2_init_18 : decode cX2_init 18 = .ok (.iconst 5, 1) := by decide +kernel
theorem dX2_init_19 : decode cX2_init 19 = .ok (.newarray .int, 2) := by decide +kernel
theorem dX2_init_21 : decode cX2_init 21 = .ok (.putfield 19, 3) := by decide +kernel
theorem dX2_init_24 : decode cX2_init 24 = .ok (.aload_n 0, 1) := by decide +kernel
theorem dX2_init_25 : decode cX2_init 25 = .ok (.iconst 4, 1) := by decide +kernel
theorem dX2_init_26 : decode cX2_init 26 = .ok (.newarray .int, 2) := by decide +kernel
theorem dX2_init_28 : decode cX2_init 28 = .ok (.putfield 22, 3) := by decide +kernel
theorem dX2_init_31 : decode cX2_init 31 = .ok (.aload_n 0, 1) := by decide +kernel
theorem dX2_init_32 : decode cX2_init 32 = .ok (.iconst 4, 1) := by decide +kernel
theorem dX2_init_33 : decode cX2_init 33 = .ok (.newarray .int, 2) := by decide +kernel
theorem dX2_init_35 : decode cX2_init 35 = .ok (.putfield 25, 3) := by decide +kernel
theorem dX2_init_38 : decode cX2_init 38 = .ok (.aload_n 0, 1) := by decide +kernel
theorem dX2_init_39 : decode cX2_init 39 = .ok (.bipush 30, 2) := by decide +kernel
theorem dX2_init_41 : decode cX2_init 41 = .ok (.newarray .int, 2) := by decide +kernel
theorem dX2_init_43 : decode cX2_init 43 = .ok (.putfield 28, 3) := by decide +kernel
theorem dX2_init_46 : decode cX2_init 46 = .ok (.aload_n 0, 1) := by decide +kernel
theorem dX2_init_47 : decode cX2_init 47 = .ok (.bipush 30, 2) := by decide +kernel
theorem dX2_init_49 : decode cX2_init 49 = .ok (.newarray .int, 2) := by decide +kernel
theorem dX2_init_51 : decode cX2_init 51 = .ok (.putfield 31, 3) := by decide +kernel
theorem dX2_init_54 : decode cX2_init 54 = .ok (.aload_n 0, 1) := by decide +kernel
theorem dX2_init_55 : decode cX2_init 55 = .ok (.bipush 30, 2) := by decide +kernel
theorem dX2_init_57 : decode cX2_init 57 = .ok (.newarray .int, 2) := by decide +kernel
theorem dX2_init_59 : decode cX2_init 59 = .ok (.putfield 34, 3) := by decide +kernel
theorem dX2_init_62 : decode cX2_init 62 = .ok (.return_, 1) := by decide +kernel
theorem dX2_copy_0 : decode cX2_copy 0 = .ok (.aload_n 0, 1) := by decide +kernel
theorem dX2_copy_1 : decode cX2_copy 1 = .ok (.iconst 0, 1) := by decide +kernel
theorem dX2_copy_2 : decode cX2_copy 2 = .ok (.aload_n 1, 1) := by decide +kernel
theorem dX2_copy_3 : decode cX2_copy 3 = .ok (.iconst 0, 1) := by decide +kernel
theorem dX2_copy_4 : decode cX2_copy 4 = .ok (.aload_n 1, 1) := by decide +kernel
theorem dX2_copy_5 : decode cX2_copy 5 = .ok (.arraylength, 1) := by decide +kernel
theorem dX2_copy_6 : decode cX2_copy 6 = .ok (.invokestatic 37, 3) := by decide +kernel
theorem dX2_copy_9 : decode cX2_copy 9 = .ok (.return_, 1) := by decide +kernel
set_option maxRecDepth 20000 in
theorem ggX2_become_X2_copy : GoodIn wsX2_become wsX2_copy := goodIn_r _ [17, 18, 19, 20, 21] (by decide +kernel) (by decide +kernel)
set_option maxRecDepth 20000 in
theorem gX2_become_X2_copy : GoodIn wsX2_become (va_wsS RX2 58 yX2_copy wsX2_copy) := goodIn_app (goodIn_of _ (by decide +kernel)) ggX2_become_X2_copy
theorem dX2_become_0 : decode cX2_become 0 = .ok (.aload_n 0, 1) := by decide +kernel
theorem dX2_become_1 : decode cX2_become 1 = .ok (.aload_n 1, 1) := by decide +kernel
theorem dX2_become_2 : decode cX2_become 2 = .ok (.getfield 43, 3) := by decide +kernel
theorem dX2_become_5 : decode cX2_become 5 = .ok (.putfield 43, 3) := by decide +kernel
theorem dX2_become_8 : decode cX2_become 8 = .ok (.aload_n 0, 1) := by decide +kernel
theorem dX2_become_9 : decode cX2_become 9 = .ok (.aload_n 1, 1) := by decide +kernel
theorem dX2_become_10 : decode cX2_become 10 = .ok (.getfield 46, 3) := by decide +kernel
theorem dX2_become_13 : decode cX2_become 13 = .ok (.putfield 46, 3) := by decide +kernel
theorem dX2_become_16 : decode cX2_become 16 = .ok (.aload_n 0, 1) := by decide +kernel
theorem dX2_become_17 : decode cX2_become 17 = .ok (.aload_n 1, 1) := by decide +kernel
theorem dX2_become_18 : decode cX2_become 18 = .ok (.getfield 49, 3) := by decide +kernel
theorem dX2_become_21 : decode cX2_become 21 = .ok (.putfield 49, 3) := by decide +kernel
theorem dX2_become_24 : decode cX2_become 24 = .ok (.aload_n 0, 1) := by decide +kernel
theorem dX2_become_25 : decode cX2_become 25 = .ok (.aload_n 1, 1) := by decide +kernel
theorem dX2_become_26 : decode cX2_become 26 = .ok (.getfield 52, 3) := by decide +kernel
theorem dX2_become_29 : decode cX2_become 29 = .ok (.putfield 52, 3) := by decide +kernel
theorem dX2_become_32 : decode cX2_become 32 = .ok (.aload_n 0, 1) := by decide +kernel
theorem dX2_become_33 : decode cX2_become 33 = .ok (.aload_n 1, 1) := by decide +kernel
theorem dX2_become_34 : decode cX2_become 34 = .ok (.getfield 9, 3) := by decide +kernel
theorem dX2_become_37 : decode cX2_become 37 = .ok (.putfield 9, 3) := by decide +kernel
theorem dX2_become_40 : decode cX2_become 40 = .ok (.aload_n 0, 1) := by decide +kernel
theorem dX2_become_41 : decode cX2_become 41 = .ok (.aload_n 1, 1) := by decide +kernel
theorem dX2_become_42 : decode cX2_become 42 = .ok (.getfield 55, 3) := by decide +kernel
theorem dX2_become_45 : decode cX2_become 45 = .ok (.putfield 55, 3) := by decide +kernel
theorem dX2_become_48 : decode cX2_become 48 = .ok (.aload_n 1, 1) := by decide +kernel
theorem dX2_become_49 : decode cX2_become 49 = .ok (.getfield 15, 3) := by decide +kernel
theorem dX2_become_52 : decode cX2_become 52 = .ok (.aload_n 0, 1) := by decide +kernel
theorem dX2_become_53 : decode cX2_become 53 = .ok (.getfield 15, 3) := by decide +kernel
theorem dX2_become_56 : decode cX2_become 56 = .ok (.invokestatic 58, 3) := by decide +kernel
theorem dX2_become_59 : decode cX2_become 59 = .ok (.aload_n 1, 1) := by decide +kernel
theorem dX2_become_60 : decode cX2_become 60 = .ok (.getfield 19, 3) := by decide +kernel
theorem dX2_become_63 : decode cX2_become 63 = .ok (.aload_n 0, 1) := by decide +kernel
theorem dX2_become_64 : decode cX2_become 64 = .ok (.getfield 19, 3) := by decide +kernel
theorem dX2_become_67 : decode cX2_become 67 = .ok (.invokestatic 58, 3) := by decide +kernel
theorem dX2_become_70 : decode cX2_become 70 = .ok (.aload_n 1, 1) := by decide +kernel
theorem dX2_become_71 : decode cX2_become 71 = .ok (.getfield 22, 3) := by decide +kernel
theorem dX2_become_74 : decode cX2_become 74 = .ok (.aload_n 0, 1) := by decide +kernel
theorem dX2_become_75 : decode cX2_become 75 = .ok (.getfield 22, 3) := by decide +kernel
theorem dX2_become_78 : decode cX2_become 78 = .ok (.invokestatic 58, 3) := by decide +kernel
theorem dX2_become_81 : decode cX2_become 81 = .ok (.aload_n 1, 1) := by decide +kernel
theorem dX2_become_82 : decode cX2_become 82 = .ok (.getfield 25, 3) := by decide +kernel
theorem dX2_become_85 : decode cX2_become 85 = .ok (.aload_n 0, 1) := by decide +kernel
theorem dX2_become_86 : decode cX2_become 86 = .ok (.getfield 25, 3) := by decide +kernel
theorem dX2_become_89 : decode cX2_become 89 = .ok (.invokestatic 58, 3) := by decide +kernel
theorem dX2_become_92 : decode cX2_become 92 = .ok (.aload_n 1, 1) := by decide +kernel
theorem dX2_become_93 : decode cX2_become 93 = .ok (.getfield 28, 3) := by decide +kernel
theorem dX2_become_96 : decode cX2_become 96 = .ok (.aload_n 0, 1) := by decide +kernel
theorem dX2_become_97 : decode cX2_become 97 = .ok (.getfield 28, 3) := by decide +kernel
theorem dX2_become_100 : decode cX2_become 100 = .ok (.invokestatic 58, 3) := by decide +kernel
theorem dX2_become_103 : decode cX2_become 103 = .ok (.aload_n 1, 1) := by decide +kernel
theorem dX2_become_104 : decode cX2_become 104 = .ok (.getfield 31, 3) := by decide +kernel
theorem dX2_become_107 : decode cX2_become 107 = .ok (.aload_n 0, 1) := by decide +kernel
theorem dX2_become_108 : decode cX2_become 108 = .ok (.getfield 31, 3) := by decide +kernel
theorem dX2_become_111 : decode cX2_become 111 = .ok (.invokestatic 58, 3) := by decide +kernel
theorem dX2_become_114 : decode cX2_become 114 = .ok (.aload_n 1, 1) := by decide +kernel
theorem dX2_become_115 : decode cX2_become 115 = .ok (.getfield 34, 3) := by decide +kernel
theorem dX2_become_118 : decode cX2_become 118 = .ok (.aload_n 0, 1) := by decide +kernel
theorem dX2_become_119 : decode cX2_become 119 = .ok (.getfield 34, 3) := by decide +kernel
theorem dX2_become_122 : decode cX2_become 122 = .ok (.invokestatic 58, 3) := by decide +kernel
theorem dX2_become_125 : decode cX2_become 125 = .ok (.return_, 1) := by decide +kernel
theorem dX2_at_0 : decode cX2_at 0 = .ok (.iconst 0, 1) := by decide +kernel
theorem dX2_at_1 : decode cX2_at 1 = .ok (.istore_n 2, 1) := by decide +kernel
theorem dX2_at_2 : decode cX2_at 2 = .ok (.iconst 0, 1) := by decide +kernel
theorem dX2_at_3 : decode cX2_at 3 = .ok (.istore_n 3, 1) := by decide +kernel
theorem dX2_at_4 : decode cX2_at 4 = .ok (.iload_n 3, 1) := by decide +kernel
theorem dX2_at_5 : decode cX2_at 5 = .ok (.aload_n 0, 1) := by decide +kernel
theorem dX2_at_6 : decode cX2_at 6 = .ok (.getfield 52, 3) := by decide +kernel
theorem dX2_at_9 : decode cX2_at 9 = .ok (.if_icmp .ge 27, 3) := by decide +kernel
theorem dX2_at_12 : decode cX2_at 12 = .ok (.iload_n 2, 1) := by decide +kernel
theorem dX2_at_13 : decode cX2_at 13 = .ok (.aload_n 0, 1) := by decide +kernel
theorem dX2_at_14 : decode cX2_at 14 = .ok (.getfield 31, 3) := by decide +kernel
theorem dX2_at_17 : decode cX2_at 17 = .ok (.iload_n 3, 1) := by decide +kernel
theorem dX2_at_18 : decode cX2_at 18 = .ok (.iaload, 1) := by decide +kernel
theorem dX2_at_19 : decode cX2_at 19 = .ok (.iload_n 1, 1) := by decide +kernel
theorem dX2_at_20 : decode cX2_at 20 = .ok (.if_icmp .ne 7, 3) := by decide +kernel
theorem dX2_at_23 : decode cX2_at 23 = .ok (.iconst 1, 1) := by decide +kernel
theorem dX2_at_24 : decode cX2_at 24 = .ok (.goto 4, 3) := by decide +kernel
theorem dX2_at_27 : decode cX2_at 27 = .ok (.iconst 0, 1) := by decide +kernel
theorem dX2_at_28 : decode cX2_at 28 = .ok (.iadd, 1) := by decide +kernel
theorem dX2_at_29 : decode cX2_at 29 = .ok (.istore_n 2, 1) := by decide +kernel
theorem dX2_at_30 : decode cX2_at 30 = .ok (.iinc 3 1, 3) := by decide +kernel
theorem dX2_at_33 : decode cX2_at 33 = .ok (.goto (-29), 3) := by decide +kernel
theorem dX2_at_36 : decode cX2_at 36 = .ok (.iload_n 2, 1) := by decide +kernel
theorem dX2_at_37 : decode cX2_at 37 = .ok (.ireturn, 1) := by decide +kernel
theorem dX2_inWards_0 : decode cX2_inWards 0 = .ok (.iconst 0, 1) := by decide +kernel
theorem dX2_inWards_1 : decode cX2_inWards 1 = .ok (.istore_n 1, 1) := by decide +kernel
theorem dX2_inWards_2 : decode cX2_inWards 2 = .ok (.iconst 0, 1) := by decide +kernel
theorem dX2_inWards_3 : decode cX2_inWards 3 = .ok (.istore_n 2, 1) := by decide +kernel
theorem dX2_inWards_4 : decode cX2_inWards 4 = .ok (.iload_n 2, 1) := by decide +kernel
theorem dX2_inWards_5 : decode cX2_inWards 5 = .ok (.aload_n 0, 1) := by decide +kernel
theorem dX2_inWards_6 : decode cX2_inWards 6 = .ok (.getfield 52, 3) := by decide +kernel
theorem dX2_inWards_9 : decode cX2_inWards 9 = .ok (.if_icmp .ge 30, 3) := by decide +kernel
theorem dX2_inWards_12 : decode cX2_inWards 12 = .ok (.iload_n 1, 1) := by decide +kernel
theorem dX2_inWards_13 : decode cX2_inWards 13 = .ok (.aload_n 0, 1) := by decide +kernel
theorem dX2_inWards_14 : decode cX2_inWards 14 = .ok (.getfield 31, 3) := by decide +kernel
theorem dX2_inWards_17 : decode cX2_inWards 17 = .ok (.iload_n 2, 1) := by decide +kernel
theorem dX2_inWards_18 : decode cX2_inWards 18 = .ok (.iaload, 1) := by decide +kernel
theorem dX2_inWards_19 : decode cX2_inWards 19 = .ok (.aload_n 0, 1) := by decide +kernel
theorem dX2_inWards_20 : decode cX2_inWards 20 = .ok (.getfield 46, 3) := by decide +kernel
theorem dX2_inWards_23 : decode cX2_inWards 23 = .ok (.if_icmp .ge 7, 3) := by decide +kernel
theorem dX2_inWards_26 : decode cX2_inWards 26 = .ok (.iconst 1, 1) := by decide +kernel
theorem dX2_inWards_27 : decode cX2_inWards 27 = .ok (.goto 4, 3) := by decide +kernel
theorem dX2_inWards_30 : decode cX2_inWards 30 = .ok (.iconst 0, 1) := by decide +kernel
theorem dX2_inWards_31 : decode cX2_inWards 31 = .ok (.iadd, 1) := by decide +kernel
theorem dX2_inWards_32 : decode cX2_inWards 32 = .ok (.istore_n 1, 1) := by decide +kernel
theorem dX2_inWards_33 : decode cX2_inWards 33 = .ok (.iinc 2 1, 3) := by decide +kernel
theorem dX2_inWards_36 : decode cX2_inWards 36 = .ok (.goto (-32), 3) := by decide +kernel
theorem dX2_inWards_39 : decode cX2_inWards 39 = .ok (.iload_n 1, 1) := by decide +kernel
theorem dX2_inWards_40 : decode cX2_inWards 40 = .ok (.ireturn, 1) := by decide +kernel
theorem dX2_feed_0 : decode cX2_feed 0 = .ok (.aload_n 0, 1) := by decide +kernel
theorem dX2_feed_1 : decode cX2_feed 1 = .ok (.getfield 9, 3) := by decide +kernel
theorem dX2_feed_4 : decode cX2_feed 4 = .ok (.istore_n 1, 1) := by decide +kernel
theorem dX2_feed_5 : decode cX2_feed 5 = .ok (.iconst 0, 1) := by decide +kernel
theorem dX2_feed_6 : decode cX2_feed 6 = .ok (.istore_n 2, 1) := by decide +kernel
theorem dX2_feed_7 : decode cX2_feed 7 = .ok (.iload_n 2, 1) := by decide +kernel
theorem dX2_feed_8 : decode cX2_feed 8 = .ok (.aload_n 0, 1) := by decide +kernel
theorem dX2_feed_9 : decode cX2_feed 9 = .ok (.getfield 46, 3) := by decide +kernel
theorem dX2_feed_12 : decode cX2_feed 12 = .ok (.if_icmp .ge 129, 3) := by decide +kernel
theorem dX2_feed_15 : decode cX2_feed 15 = .ok (.iconst 0, 1) := by decide +kernel
theorem dX2_feed_16 : decode cX2_feed 16 = .ok (.istore_n 3, 1) := by decide +kernel
theorem dX2_feed_17 : decode cX2_feed 17 = .ok (.iload_n 3, 1) := by decide +kernel
theorem dX2_feed_18 : decode cX2_feed 18 = .ok (.aload_n 0, 1) := by decide +kernel
theorem dX2_feed_19 : decode cX2_feed 19 = .ok (.getfield 52, 3) := by decide +kernel
theorem dX2_feed_22 : decode cX2_feed 22 = .ok (.if_icmp .ge 113, 3) := by decide +kernel
theorem dX2_feed_25 : decode cX2_feed 25 = .ok (.aload_n 0, 1) := by decide +kernel
theorem dX2_feed_26 : decode cX2_feed 26 = .ok (.getfield 31, 3) := by decide +kernel
theorem dX2_feed_29 : decode cX2_feed 29 = .ok (.iload_n 3, 1) := by decide +kernel
theorem dX2_feed_30 : decode cX2_feed 30 = .ok (.iaload, 1) := by decide +kernel
theorem dX2_feed_31 : decode cX2_feed 31 = .ok (.iload_n 2, 1) := by decide +kernel
theorem dX2_feed_32 : decode cX2_feed 32 = .ok (.if_icmp .eq 6, 3) := by decide +kernel
theorem dX2_feed_35 : decode cX2_feed 35 = .ok (.goto 94, 3) := by decide +kernel
theorem dX2_feed_38 : decode cX2_feed 38 = .ok (.iload_n 1, 1) := by decide +kernel
theorem dX2_feed_39 : decode cX2_feed 39 = .ok (.ifCond .ne 7, 3) := by decide +kernel
theorem dX2_feed_42 : decode cX2_feed 42 = .ok (.iconst 1, 1) := by decide +kernel
theorem dX2_feed_43 : decode cX2_feed 43 = .ok (.goto 4, 3) := by decide +kernel
theorem dX2_feed_46 : decode cX2_feed 46 = .ok (.iconst 0, 1) := by decide +kernel
theorem dX2_feed_47 : decode cX2_feed 47 = .ok (.istore 4, 2) := by decide +kernel
theorem dX2_feed_49 : decode cX2_feed 49 = .ok (.iload 4, 2) := by decide +kernel
theorem dX2_feed_51 : decode cX2_feed 51 = .ok (.ifCond .eq 16, 3) := by decide +kernel
theorem dX2_feed_54 : decode cX2_feed 54 = .ok (.aload_n 0, 1) := by decide +kernel
theorem dX2_feed_55 : decode cX2_feed 55 = .ok (.getfield 34, 3) := by decide +kernel
theorem dX2_feed_58 : decode cX2_feed 58 = .ok (.iload_n 3, 1) := by decide +kernel
theorem dX2_feed_59 : decode cX2_feed 59 = .ok (.dup2, 1) := by decide +kernel
theorem dX2_feed_60 : decode cX2_feed 60 = .ok (.iaload, 1) := by decide +kernel
theorem dX2_feed_61 : decode cX2_feed 61 = .ok (.iconst 1, 1) := by decide +kernel
theorem dX2_feed_62 : decode cX2_feed 62 = .ok (.iadd, 1) := by decide +kernel
theorem dX2_feed_63 : decode cX2_feed 63 = .ok (.iastore, 1) := by decide +kernel
theorem dX2_feed_64 : decode cX2_feed 64 = .ok (.goto 16, 3) := by decide +kernel
theorem dX2_feed_67 : decode cX2_feed 67 = .ok (.iinc 1 (-1), 3) := by decide +kernel
theorem dX2_feed_70 : decode cX2_feed 70 = .ok (.aload_n 0, 1) := by decide +kernel
theorem dX2_feed_71 : decode cX2_feed 71 = .ok (.dup, 1) := by decide +kernel
theorem dX2_feed_72 : decode cX2_feed 72 = .ok (.getfield 55, 3) := by decide +kernel
theorem dX2_feed_75 : decode cX2_feed 75 = .ok (.iconst 1, 1) := by decide +kernel
theorem dX2_feed_76 : decode cX2_feed 76 = .ok (.iadd, 1) := by decide +kernel
theorem dX2_feed_77 : decode cX2_feed 77 = .ok (.putfield 55, 3) := by decide +kernel
theorem dX2_feed_80 : decode cX2_feed 80 = .ok (.aload_n 0, 1) := by decide +kernel
theorem dX2_feed_81 : decode cX2_feed 81 = .ok (.getfield 28, 3) := by decide +kernel
theorem dX2_feed_84 : decode cX2_feed 84 = .ok (.iload_n 3, 1) := by decide +kernel
theorem dX2_feed_85 : decode cX2_feed 85 = .ok (.iload 4, 2) := by decide +kernel
theorem dX2_feed_87 : decode cX2_feed 87 = .ok (.ifCond .ne 13, 3) := by decide +kernel
theorem dX2_feed_90 : decode cX2_feed 90 = .ok (.aload_n 0, 1) := by decide +kernel
theorem dX2_feed_91 : decode cX2_feed 91 = .ok (.getfield 19, 3) := by decide +kernel
theorem dX2_feed_94 : decode cX2_feed 94 = .ok (.iload_n 2, 1) := by decide +kernel
theorem dX2_feed_95 : decode cX2_feed 95 = .ok (.iaload, 1) := by decide +kernel
theorem dX2_feed_96 : decode cX2_feed 96 = .ok (.iconst 5, 1) := by decide +kernel
theorem dX2_feed_97 : decode cX2_feed 97 = .ok (.if_icmp .lt 19, 3) := by decide +kernel
theorem dX2_feed_100 : decode cX2_feed 100 = .ok (.bipush 10, 2) := by decide +kernel
theorem dX2_feed_102 : decode cX2_feed 102 = .ok (.aload_n 0, 1) := by decide +kernel
theorem dX2_feed_103 : decode cX2_feed 103 = .ok (.getfield 28, 3) := by decide +kernel
theorem dX2_feed_106 : decode cX2_feed 106 = .ok (.iload_n 3, 1) := by decide +kernel
theorem dX2_feed_107 : decode cX2_feed 107 = .ok (.iaload, 1) := by decide +kernel
theorem dX2_feed_108 : decode cX2_feed 108 = .ok (.iconst 1, 1) := by decide +kernel
theorem dX2_feed_109 : decode cX2_feed 109 = .ok (.iadd, 1) := by decide +kernel
theorem dX2_feed_110 : decode cX2_feed 110 = .ok (.invokestatic 62, 3) := by decide +kernel
theorem dX2_feed_113 : decode cX2_feed 113 = .ok (.goto 15, 3) := by decide +kernel
theorem dX2_feed_116 : decode cX2_feed 116 = .ok (.iconst 0, 1) := by decide +kernel
theorem dX2_feed_117 : decode cX2_feed 117 = .ok (.aload_n 0, 1) := by decide +kernel
theorem dX2_feed_118 : decode cX2_feed 118 = .ok (.getfield 28, 3) := by decide +kernel
theorem dX2_feed_121 : decode cX2_feed 121 = .ok (.iload_n 3, 1) := by decide +kernel
theorem dX2_feed_122 : decode cX2_feed 122 = .ok (.iaload, 1) := by decide +kernel
theorem dX2_feed_123 : decode cX2_feed 123 = .ok (.iconst 1, 1) := by decide +kernel
theorem dX2_feed_124 : decode cX2_feed 124 = .ok (.isub, 1) := by decide +kernel
theorem dX2_feed_125 : decode cX2_feed 125 = .ok (.invokestatic 68, 3) := by decide +kernel
theorem dX2_feed_128 : decode cX2_feed 128 = .ok (.iastore, 1) := by decide +kernel
theorem dX2_feed_129 : decode cX2_feed 129 = .ok (.iinc 3 1, 3) := by decide +kernel
theorem dX2_feed_132 : decode cX2_feed 132 = .ok (.goto (-115), 3) := by decide +kernel
theorem dX2_feed_135 : decode cX2_feed 135 = .ok (.iinc 2 1, 3) := by decide +kernel
theorem dX2_feed_138 : decode cX2_feed 138 = .ok (.goto (-131), 3) := by decide +kernel
theorem dX2_feed_141 : decode cX2_feed 141 = .ok (.return_, 1) := by decide +kernel
theorem dX2_keep_0 : decode cX2_keep 0 = .ok (.aload_n 0, 1) := by decide +kernel
theorem dX2_keep_1 : decode cX2_keep 1 = .ok (.getfield 25, 3) := by decide +kernel
theorem dX2_keep_4 : decode cX2_keep 4 = .ok (.iload_n 1, 1) := by decide +kernel
theorem dX2_keep_5 : decode cX2_keep 5 = .ok (.iaload, 1) := by decide +kernel
theorem dX2_keep_6 : decode cX2_keep 6 = .ok (.ifCond .ne 4, 3) := by decide +kernel
theorem dX2_keep_9 : decode cX2_keep 9 = .ok (.return_, 1) := by decide +kernel
theorem dX2_keep_10 : decode cX2_keep 10 = .ok (.aload_n 0, 1) := by decide +kernel
theorem dX2_keep_11 : decode cX2_keep 11 = .ok (.getfield 25, 3) := by decide +kernel
theorem dX2_keep_14 : decode cX2_keep 14 = .ok (.iload_n 1, 1) := by decide +kernel
theorem dX2_keep_15 : decode cX2_keep 15 = .ok (.dup2, 1) := by decide +kernel
theorem dX2_keep_16 : decode cX2_keep 16 = .ok (.iaload, 1) := by decide +kernel
theorem dX2_keep_17 : decode cX2_keep 17 = .ok (.iconst 1, 1) := by decide +kernel
theorem dX2_keep_18 : decode cX2_keep 18 = .ok (.isub, 1) := by decide +kernel
theorem dX2_keep_19 : decode cX2_keep 19 = .ok (.iastore, 1) := by decide +kernel
theorem dX2_keep_20 : decode cX2_keep 20 = .ok (.aload_n 0, 1) := by decide +kernel
theorem dX2_keep_21 : decode cX2_keep 21 = .ok (.getfield 25, 3) := by decide +kernel
theorem dX2_keep_24 : decode cX2_keep 24 = .ok (.iload_n 1, 1) := by decide +kernel
theorem dX2_keep_25 : decode cX2_keep 25 = .ok (.iaload, 1) := by decide +kernel
theorem dX2_keep_26 : decode cX2_keep 26 = .ok (.ifCond .ne 4, 3) := by decide +kernel
theorem dX2_keep_29 : decode cX2_keep 29 = .ok (.return_, 1) := by decide +kernel
theorem dX2_keep_30 : decode cX2_keep 30 = .ok (.iconst 0, 1) := by decide +kernel
theorem dX2_keep_31 : decode cX2_keep 31 = .ok (.istore_n 2, 1) := by decide +kernel
theorem dX2_keep_32 : decode cX2_keep 32 = .ok (.iconst 0, 1) := by decide +kernel
theorem dX2_keep_33 : decode cX2_keep 33 = .ok (.istore_n 3, 1) := by decide +kernel
theorem dX2_keep_34 : decode cX2_keep 34 = .ok (.iload_n 3, 1) := by decide +kernel
theorem dX2_keep_35 : decode cX2_keep 35 = .ok (.aload_n 0, 1) := by decide +kernel
theorem dX2_keep_36 : decode cX2_keep 36 = .ok (.getfield 52, 3) := by decide +kernel
theorem dX2_keep_39 : decode cX2_keep 39 = .ok (.if_icmp .ge 39, 3) := by decide +kernel
theorem dX2_keep_42 : decode cX2_keep 42 = .ok (.iload_n 2, 1) := by decide +kernel
theorem dX2_keep_43 : decode cX2_keep 43 = .ok (.aload_n 0, 1) := by decide +kernel
theorem dX2_keep_44 : decode cX2_keep 44 = .ok (.getfield 31, 3) := by decide +kernel
theorem dX2_keep_47 : decode cX2_keep 47 = .ok (.iload_n 3, 1) := by decide +kernel
theorem dX2_keep_48 : decode cX2_keep 48 = .ok (.iaload, 1) := by decide +kernel
theorem dX2_keep_49 : decode cX2_keep 49 = .ok (.bipush 10, 2) := by decide +kernel
theorem dX2_keep_51 : decode cX2_keep 51 = .ok (.iload_n 1, 1) := by decide +kernel
theorem dX2_keep_52 : decode cX2_keep 52 = .ok (.iadd, 1) := by decide +kernel
theorem dX2_keep_53 : decode cX2_keep 53 = .ok (.if_icmp .ne 16, 3) := by decide +kernel
theorem dX2_keep_56 : decode cX2_keep 56 = .ok (.aload_n 0, 1) := by decide +kernel
theorem dX2_keep_57 : decode cX2_keep 57 = .ok (.getfield 28, 3) := by decide +kernel
theorem dX2_keep_60 : decode cX2_keep 60 = .ok (.iload_n 3, 1) := by decide +kernel
theorem dX2_keep_61 : decode cX2_keep 61 = .ok (.iaload, 1) := by decide +kernel
theorem dX2_keep_62 : decode cX2_keep 62 = .ok (.ifCond .le 7, 3) := by decide +kernel
theorem dX2_keep_65 : decode cX2_keep 65 = .ok (.iconst 1, 1) := by decide +kernel
theorem dX2_keep_66 : decode cX2_keep 66 = .ok (.goto 4, 3) := by decide +kernel
theorem dX2_keep_69 : decode cX2_keep 69 = .ok (.iconst 0, 1) := by decide +kernel
theorem dX2_keep_70 : decode cX2_keep 70 = .ok (.iadd, 1) := by decide +kernel
theorem dX2_keep_71 : decode cX2_keep 71 = .ok (.istore_n 2, 1) := by decide +kernel
theorem dX2_keep_72 : decode cX2_keep 72 = .ok (.iinc 3 1, 3) := by decide +kernel
theorem dX2_keep_75 : decode cX2_keep 75 = .ok (.goto (-41), 3) := by decide +kernel
theorem dX2_keep_78 : decode cX2_keep 78 = .ok (.iconst 0, 1) := by decide +kernel
theorem dX2_keep_79 : decode cX2_keep 79 = .ok (.istore_n 3, 1) := by decide +kernel
theorem dX2_keep_80 : decode cX2_keep 80 = .ok (.iload_n 3, 1) := by decide +kernel
theorem dX2_keep_81 : decode cX2_keep 81 = .ok (.aload_n 0, 1) := by decide +kernel
theorem dX2_keep_82 : decode cX2_keep 82 = .ok (.getfield 52, 3) := by decide +kernel
theorem dX2_keep_85 : decode cX2_keep 85 = .ok (.if_icmp .ge 75, 3) := by decide +kernel
theorem dX2_keep_88 : decode cX2_keep 88 = .ok (.aload_n 0, 1) := by decide +kernel
theorem dX2_keep_89 : decode cX2_keep 89 = .ok (.getfield 31, 3) := by decide +kernel
theorem dX2_keep_92 : decode cX2_keep 92 = .ok (.iload_n 3, 1) := by decide +kernel
theorem dX2_keep_93 : decode cX2_keep 93 = .ok (.iaload, 1) := by decide +kernel
theorem dX2_keep_94 : decode cX2_keep 94 = .ok (.bipush 10, 2) := by decide +kernel
theorem dX2_keep_96 : decode cX2_keep 96 = .ok (.iload_n 1, 1) := by decide +kernel
theorem dX2_keep_97 : decode cX2_keep 97 = .ok (.iadd, 1) := by decide +kernel
theorem dX2_keep_98 : decode cX2_keep 98 = .ok (.if_icmp .eq 6, 3) := by decide +kernel
theorem dX2_keep_101 : decode cX2_keep 101 = .ok (.goto 53, 3) := by decide +kernel
theorem dX2_keep_104 : decode cX2_keep 104 = .ok (.iload_n 2, 1) := by decide +kernel
theorem dX2_keep_105 : decode cX2_keep 105 = .ok (.aload_n 0, 1) := by decide +kernel
theorem dX2_keep_106 : decode cX2_keep 106 = .ok (.getfield 28, 3) := by decide +kernel
theorem dX2_keep_109 : decode cX2_keep 109 = .ok (.iload_n 3, 1) := by decide +kernel
theorem dX2_keep_110 : decode cX2_keep 110 = .ok (.iaload, 1) := by decide +kernel
theorem dX2_keep_111 : decode cX2_keep 111 = .ok (.ifCond .le 7, 3) := by decide +kernel
theorem dX2_keep_114 : decode cX2_keep 114 = .ok (.iconst 1, 1) := by decide +kernel
theorem dX2_keep_115 : decode cX2_keep 115 = .ok (.goto 4, 3) := by decide +kernel
theorem dX2_keep_118 : decode cX2_keep 118 = .ok (.iconst 0, 1) := by decide +kernel
theorem dX2_keep_119 : decode cX2_keep 119 = .ok (.isub, 1) := by decide +kernel
theorem dX2_keep_120 : decode cX2_keep 120 = .ok (.ifCond .le 7, 3) := by decide +kernel
theorem dX2_keep_123 : decode cX2_keep 123 = .ok (.iconst 1, 1) := by decide +kernel
theorem dX2_keep_124 : decode cX2_keep 124 = .ok (.goto 4, 3) := by decide +kernel
theorem dX2_keep_127 : decode cX2_keep 127 = .ok (.iconst 0, 1) := by decide +kernel
theorem dX2_keep_128 : decode cX2_keep 128 = .ok (.istore 4, 2) := by decide +kernel
theorem dX2_keep_130 : decode cX2_keep 130 = .ok (.iload 4, 2) := by decide +kernel
theorem dX2_keep_132 : decode cX2_keep 132 = .ok (.ifCond .eq 22, 3) := by decide +kernel
theorem dX2_keep_135 : decode cX2_keep 135 = .ok (.aload_n 0, 1) := by decide +kernel
theorem dX2_keep_136 : decode cX2_keep 136 = .ok (.getfield 28, 3) := by decide +kernel
theorem dX2_keep_139 : decode cX2_keep 139 = .ok (.iload_n 3, 1) := by decide +kernel
theorem dX2_keep_140 : decode cX2_keep 140 = .ok (.bipush 10, 2) := by decide +kernel
theorem dX2_keep_142 : decode cX2_keep 142 = .ok (.aload_n 0, 1) := by decide +kernel
theorem dX2_keep_143 : decode cX2_keep 143 = .ok (.getfield 28, 3) := by decide +kernel
theorem dX2_keep_146 : decode cX2_keep 146 = .ok (.iload_n 3, 1) := by decide +kernel
theorem dX2_keep_147 : decode cX2_keep 147 = .ok (.iaload, 1) := by decide +kernel
theorem dX2_keep_148 : decode cX2_keep 148 = .ok (.iconst 1, 1) := by decide +kernel
theorem dX2_keep_149 : decode cX2_keep 149 = .ok (.iadd, 1) := by decide +kernel
theorem dX2_keep_150 : decode cX2_keep 150 = .ok (.invokestatic 62, 3) := by decide +kernel
theorem dX2_keep_153 : decode cX2_keep 153 = .ok (.iastore, 1) := by decide +kernel
theorem dX2_keep_154 : decode cX2_keep 154 = .ok (.iinc 3 1, 3) := by decide +kernel
theorem dX2_keep_157 : decode cX2_keep 157 = .ok (.goto (-77), 3) := by decide +kernel
theorem dX2_keep_160 : decode cX2_keep 160 = .ok (.return_, 1) := by decide +kernel
theorem dX2_leaveWards_0 : decode cX2_leaveWards 0 = .ok (.iconst 0, 1) := by decide +kernel
theorem dX2_leaveWards_1 : decode cX2_leaveWards 1 = .ok (.istore_n 1, 1) := by decide +kernel
theorem dX2_leaveWards_2 : decode cX2_leaveWards 2 = .ok (.iload_n 1, 1) := by decide +kernel
theorem dX2_leaveWards_3 : decode cX2_leaveWards 3 = .ok (.aload_n 0, 1) := by decide +kernel
theorem dX2_leaveWards_4 : decode cX2_leaveWards 4 = .ok (.getfield 52, 3) := by decide +kernel
theorem dX2_leaveWards_7 : decode cX2_leaveWards 7 = .ok (.if_icmp .ge 61, 3) := by decide +kernel
theorem dX2_leaveWards_10 : decode cX2_leaveWards 10 = .ok (.aload_n 0, 1) := by decide +kernel
theorem dX2_leaveWards_11 : decode cX2_leaveWards 11 = .ok (.getfield 31, 3) := by decide +kernel
theorem dX2_leaveWards_14 : decode cX2_leaveWards 14 = .ok (.iload_n 1, 1) := by decide +kernel
theorem dX2_leaveWards_15 : decode cX2_leaveWards 15 = .ok (.iaload, 1) := by decide +kernel
theorem dX2_leaveWards_16 : decode cX2_leaveWards 16 = .ok (.aload_n 0, 1) := by decide +kernel
theorem dX2_leaveWards_17 : decode cX2_leaveWards 17 = .ok (.getfield 46, 3) := by decide +kernel
theorem dX2_leaveWards_20 : decode cX2_leaveWards 20 = .ok (.if_icmp .lt 6, 3) := by decide +kernel
theorem dX2_leaveWards_23 : decode cX2_leaveWards 23 = .ok (.goto 39, 3) := by decide +kernel
theorem dX2_leaveWards_26 : decode cX2_leaveWards 26 = .ok (.aload_n 0, 1) := by decide +kernel
theorem dX2_leaveWards_27 : decode cX2_leaveWards 27 = .ok (.getfield 28, 3) := by decide +kernel
theorem dX2_leaveWards_30 : decode cX2_leaveWards 30 = .ok (.iload_n 1, 1) := by decide +kernel
theorem dX2_leaveWards_31 : decode cX2_leaveWards 31 = .ok (.iaload, 1) := by decide +kernel
theorem dX2_leaveWards_32 : decode cX2_leaveWards 32 = .ok (.ifCond .ne 11, 3) := by decide +kernel
theorem dX2_leaveWards_35 : decode cX2_leaveWards 35 = .ok (.aload_n 0, 1) := by decide +kernel
theorem dX2_leaveWards_36 : decode cX2_leaveWards 36 = .ok (.getfield 31, 3) := by decide +kernel
theorem dX2_leaveWards_39 : decode cX2_leaveWards 39 = .ok (.iload_n 1, 1) := by decide +kernel
theorem dX2_leaveWards_40 : decode cX2_leaveWards 40 = .ok (.bipush 20, 2) := by decide +kernel
theorem dX2_leaveWards_42 : decode cX2_leaveWards 42 = .ok (.iastore, 1) := by decide +kernel
theorem dX2_leaveWards_43 : decode cX2_leaveWards 43 = .ok (.aload_n 0, 1) := by decide +kernel
theorem dX2_leaveWards_44 : decode cX2_leaveWards 44 = .ok (.getfield 28, 3) := by decide +kernel
theorem dX2_leaveWards_47 : decode cX2_leaveWards 47 = .ok (.iload_n 1, 1) := by decide +kernel
theorem dX2_leaveWards_48 : decode cX2_leaveWards 48 = .ok (.iaload, 1) := by decide +kernel
theorem dX2_leaveWards_49 : decode cX2_leaveWards 49 = .ok (.bipush 10, 2) := by decide +kernel
theorem dX2_leaveWards_51 : decode cX2_leaveWards 51 = .ok (.if_icmp .ne 11, 3) := by decide +kernel
theorem dX2_leaveWards_54 : decode cX2_leaveWards 54 = .ok (.aload_n 0, 1) := by decide +kernel
theorem dX2_leaveWards_55 : decode cX2_leaveWards 55 = .ok (.getfield 31, 3) := by decide +kernel
theorem dX2_leaveWards_58 : decode cX2_leaveWards 58 = .ok (.iload_n 1, 1) := by decide +kernel
theorem dX2_leaveWards_59 : decode cX2_leaveWards 59 = .ok (.bipush 21, 2) := by decide +kernel
theorem dX2_leaveWards_61 : decode cX2_leaveWards 61 = .ok (.iastore, 1) := by decide +kernel
theorem dX2_leaveWards_62 : decode cX2_leaveWards 62 = .ok (.iinc 1 1, 3) := by decide +kernel
theorem dX2_leaveWards_65 : decode cX2_leaveWards 65 = .ok (.goto (-63), 3) := by decide +kernel
theorem dX2_leaveWards_68 : decode cX2_leaveWards 68 = .ok (.return_, 1) := by decide +kernel
set_option maxRecDepth 20000 in
theorem ggX2_firstFree_X2_at : GoodIn wsX2_firstFree wsX2_at := goodIn_r _ [7, 8, 9, 10, 11, 12, 13, 14, 15, 16, 17, 18, 19, 20, 21, 22] (by decide +kernel) (by decide +kernel)
set_option maxRecDepth 20000 in
theorem gX2_firstFree_X2_at : GoodIn wsX2_firstFree (wsV RX2 71 RX2 yX2_at wsX2_at) := goodIn_app (goodIn_of _ (by decide +kernel)) ggX2_firstFree_X2_at
theorem dX2_firstFree_0 : decode cX2_firstFree 0 = .ok (.iconst 0, 1) := by decide +kernel
theorem dX2_firstFree_1 : decode cX2_firstFree 1 = .ok (.istore_n 1, 1) := by decide +kernel
theorem dX2_firstFree_2 : decode cX2_firstFree 2 = .ok (.iload_n 1, 1) := by decide +kernel
theorem dX2_firstFree_3 : decode cX2_firstFree 3 = .ok (.aload_n 0, 1) := by decide +kernel
theorem dX2_firstFree_4 : decode cX2_firstFree 4 = .ok (.getfield 46, 3) := by decide +kernel
theorem dX2_firstFree_7 : decode cX2_firstFree 7 = .ok (.if_icmp .ge 25, 3) := by decide +kernel
theorem dX2_firstFree_10 : decode cX2_firstFree 10 = .ok (.aload_n 0, 1) := by decide +kernel
theorem dX2_firstFree_11 : decode cX2_firstFree 11 = .ok (.iload_n 1, 1) := by decide +kernel
theorem dX2_firstFree_12 : decode cX2_firstFree 12 = .ok (.invokevirtual 71, 3) := by decide +kernel
theorem dX2_firstFree_15 : decode cX2_firstFree 15 = .ok (.aload_n 0, 1) := by decide +kernel
theorem dX2_firstFree_16 : decode cX2_firstFree 16 = .ok (.getfield 15, 3) := by decide +kernel
theorem dX2_firstFree_19 : decode cX2_firstFree 19 = .ok (.iload_n 1, 1) := by decide +kernel
theorem dX2_firstFree_20 : decode cX2_firstFree 20 = .ok (.iaload, 1) := by decide +kernel
theorem dX2_firstFree_21 : decode cX2_firstFree 21 = .ok (.if_icmp .ge 5, 3) := by decide +kernel
theorem dX2_firstFree_24 : decode cX2_firstFree 24 = .ok (.iload_n 1, 1) := by decide +kernel
theorem dX2_firstFree_25 : decode cX2_firstFree 25 = .ok (.ireturn, 1) := by decide +kernel
theorem dX2_firstFree_26 : decode cX2_firstFree 26 = .ok (.iinc 1 1, 3) := by decide +kernel
theorem dX2_firstFree_29 : decode cX2_firstFree 29 = .ok (.goto (-27), 3) := by decide +kernel
theorem dX2_firstFree_32 : decode cX2_firstFree 32 = .ok (.iconst (-1), 1) := by decide +kernel
theorem dX2_firstFree_33 : decode cX2_firstFree 33 = .ok (.ireturn, 1) := by decide +kernel
set_option maxRecDepth 20000 in
theorem ggX2_land_X2_firstFree : GoodIn wsX2_land wsX2_firstFree := goodIn_r _ [10, 11, 12, 13, 14, 15, 9, 16, 2, 3, 17, 18, 19, 20, 21, 22, 23, 24, 25, 26, 27, 28, 29] (by decide +kernel) (by decide +kernel)
set_option maxRecDepth 20000 in
theorem gX2_land_X2_firstFree : GoodIn wsX2_land (wsV RX2 75 RX2 yX2_firstFree wsX2_firstFree) := goodIn_app (goodIn_of _ (by decide +kernel)) ggX2_land_X2_firstFree
theorem dX2_land_0 : decode cX2_land 0 = .ok (.aload_n 0, 1) := by decide +kernel
theorem dX2_land_1 : decode cX2_land 1 = .ok (.getfield 25, 3) := by decide +kernel
theorem dX2_land_4 : decode cX2_land 4 = .ok (.iload_n 1, 1) := by decide +kernel
theorem dX2_land_5 : decode cX2_land 5 = .ok (.iaload, 1) := by decide +kernel
theorem dX2_land_6 : decode cX2_land 6 = .ok (.ifCond .le 4, 3) := by decide +kernel
theorem dX2_land_9 : decode cX2_land 9 = .ok (.return_, 1) := by decide +kernel
theorem dX2_land_10 : decode cX2_land 10 = .ok (.iconst 0, 1) := by decide +kernel
theorem dX2_land_11 : decode cX2_land 11 = .ok (.istore_n 2, 1) := by decide +kernel
theorem dX2_land_12 : decode cX2_land 12 = .ok (.iload_n 2, 1) := by decide +kernel
theorem dX2_land_13 : decode cX2_land 13 = .ok (.aload_n 0, 1) := by decide +kernel
theorem dX2_land_14 : decode cX2_land 14 = .ok (.getfield 52, 3) := by decide +kernel
theorem dX2_land_17 : decode cX2_land 17 = .ok (.if_icmp .ge 71, 3) := by decide +kernel
theorem dX2_land_20 : decode cX2_land 20 = .ok (.aload_n 0, 1) := by decide +kernel
theorem dX2_land_21 : decode cX2_land 21 = .ok (.getfield 31, 3) := by decide +kernel
theorem dX2_land_24 : decode cX2_land 24 = .ok (.iload_n 2, 1) := by decide +kernel
theorem dX2_land_25 : decode cX2_land 25 = .ok (.iaload, 1) := by decide +kernel
theorem dX2_land_26 : decode cX2_land 26 = .ok (.bipush 10, 2) := by decide +kernel
theorem dX2_land_28 : decode cX2_land 28 = .ok (.iload_n 1, 1) := by decide +kernel
theorem dX2_land_29 : decode cX2_land 29 = .ok (.iadd, 1) := by decide +kernel
theorem dX2_land_30 : decode cX2_land 30 = .ok (.if_icmp .eq 6, 3) := by decide +kernel
theorem dX2_land_33 : decode cX2_land 33 = .ok (.goto 49, 3) := by decide +kernel
theorem dX2_land_36 : decode cX2_land 36 = .ok (.aload_n 0, 1) := by decide +kernel
theorem dX2_land_37 : decode cX2_land 37 = .ok (.getfield 28, 3) := by decide +kernel
theorem dX2_land_40 : decode cX2_land 40 = .ok (.iload_n 2, 1) := by decide +kernel
theorem dX2_land_41 : decode cX2_land 41 = .ok (.iaload, 1) := by decide +kernel
theorem dX2_land_42 : decode cX2_land 42 = .ok (.ifCond .ne 8, 3) := by decide +kernel
theorem dX2_land_45 : decode cX2_land 45 = .ok (.bipush 20, 2) := by decide +kernel
theorem dX2_land_47 : decode cX2_land 47 = .ok (.goto 7, 3) := by decide +kernel
theorem dX2_land_50 : decode cX2_land 50 = .ok (.aload_n 0, 1) := by decide +kernel
theorem dX2_land_51 : decode cX2_land 51 = .ok (.invokevirtual 75, 3) := by decide +kernel
theorem dX2_land_54 : decode cX2_land 54 = .ok (.istore_n 3, 1) := by decide +kernel
theorem dX2_land_55 : decode cX2_land 55 = .ok (.iload_n 3, 1) := by decide +kernel
theorem dX2_land_56 : decode cX2_land 56 = .ok (.iconst (-1), 1) := by decide +kernel
theorem dX2_land_57 : decode cX2_land 57 = .ok (.if_icmp .ne 18, 3) := by decide +kernel
theorem dX2_land_60 : decode cX2_land 60 = .ok (.aload_n 0, 1) := by decide +kernel
theorem dX2_land_61 : decode cX2_land 61 = .ok (.getfield 25, 3) := by decide +kernel
theorem dX2_land_64 : decode cX2_land 64 = .ok (.iload_n 1, 1) := by decide +kernel
theorem dX2_land_65 : decode cX2_land 65 = .ok (.aload_n 0, 1) := by decide +kernel
theorem dX2_land_66 : decode cX2_land 66 = .ok (.getfield 22, 3) := by decide +kernel
theorem dX2_land_69 : decode cX2_land 69 = .ok (.iload_n 1, 1) := by decide +kernel
theorem dX2_land_70 : decode cX2_land 70 = .ok (.iaload, 1) := by decide +kernel
theorem dX2_land_71 : decode cX2_land 71 = .ok (.iastore, 1) := by decide +kernel
theorem dX2_land_72 : decode cX2_land 72 = .ok (.goto 10, 3) := by decide +kernel
theorem dX2_land_75 : decode cX2_land 75 = .ok (.aload_n 0, 1) := by decide +kernel
theorem dX2_land_76 : decode cX2_land 76 = .ok (.getfield 31, 3) := by decide +kernel
theorem dX2_land_79 : decode cX2_land 79 = .ok (.iload_n 2, 1) := by decide +kernel
theorem dX2_land_80 : decode cX2_land 80 = .ok (.iload_n 3, 1) := by decide +kernel
theorem dX2_land_81 : decode cX2_land 81 = .ok (.iastore, 1) := by decide +kernel
theorem dX2_land_82 : decode cX2_land 82 = .ok (.iinc 2 1, 3) := by decide +kernel
theorem dX2_land_85 : decode cX2_land 85 = .ok (.goto (-73), 3) := by decide +kernel
theorem dX2_land_88 : decode cX2_land 88 = .ok (.return_, 1) := by decide +kernel
set_option maxRecDepth 20000 in
theorem ggX2_pass_X2_feed : GoodIn wsX2_pass wsX2_feed := goodIn_r _ [9, 10, 2, 11, 12, 13, 14, 15, 3, 16, 17, 18, 19, 20, 21, 22, 46, 47, 48, 49, 50, 51, 52, 53, 54, 55, 56, 57, 58] (by decide +kernel) (by decide +kernel)
set_option maxRecDepth 20000 in
theorem gX2_pass_X2_feed : GoodIn wsX2_pass (wsV RX2 79 RX2 yX2_feed wsX2_feed) := goodIn_app (goodIn_of _ (by decide +kernel)) ggX2_pass_X2_feed
set_option maxRecDepth 20000 in
theorem ggX2_pass_X2_keep : GoodIn wsX2_pass wsX2_keep := goodIn_r _ [26, 27, 11, 12, 15, 16, 17, 18, 19, 46, 47, 48, 49, 50, 51, 52, 53, 54, 55, 56, 57, 58] (by decide +kernel) (by decide +kernel)
set_option maxRecDepth 20000 in
theorem gX2_pass_X2_keep : GoodIn wsX2_pass (wsV RX2 82 RX2 yX2_keep wsX2_keep) := goodIn_app (goodIn_of _ (by decide +kernel)) ggX2_pass_X2_keep
set_option maxRecDepth 20000 in
theorem ggX2_pass_X2_leaveWards : GoodIn wsX2_pass wsX2_leaveWards := goodIn_r _ [31, 11, 12, 2, 15, 46, 47, 48, 49, 50, 51, 52, 53, 54, 55, 56, 57, 58] (by decide +kernel) (by decide +kernel)
set_option maxRecDepth 20000 in
theorem gX2_pass_X2_leaveWards : GoodIn wsX2_pass (wsV RX2 86 RX2 yX2_leaveWards wsX2_leaveWards) := goodIn_app (goodIn_of _ (by decide +kernel)) ggX2_pass_X2_leaveWards
set_option maxRecDepth 20000 in
theorem ggX2_pass_X2_land : GoodIn wsX2_pass wsX2_land := goodIn_r _ [35, 27, 11, 12, 15, 36, 37, 38, 39, 8, 40, 2, 41, 42, 43, 44, 45, 46, 47, 48, 49, 50, 51, 52, 53, 54, 55, 56, 57, 58] (by decide +kernel) (by decide +kernel)
set_option maxRecDepth 20000 in
theorem gX2_pass_X2_land : GoodIn wsX2_pass (wsV RX2 89 RX2 yX2_land wsX2_land) := goodIn_app (goodIn_of _ (by decide +kernel)) ggX2_pass_X2_land
theorem dX2_pass_0 : decode cX2_pass 0 = .ok (.aload_n 0, 1) := by decide +kernel
theorem dX2_pass_1 : decode cX2_pass 1 = .ok (.invokevirtual 79, 3) := by decide +kernel
theorem dX2_pass_4 : decode cX2_pass 4 = .ok (.iconst 0, 1) := by decide +kernel
theorem dX2_pass_5 : decode cX2_pass 5 = .ok (.istore_n 1, 1) := by decide +kernel
theorem dX2_pass_6 : decode cX2_pass 6 = .ok (.iload_n 1, 1) := by decide +kernel
theorem dX2_pass_7 : decode cX2_pass 7 = .ok (.aload_n 0, 1) := by decide +kernel
theorem dX2_pass_8 : decode cX2_pass 8 = .ok (.getfield 49, 3) := by decide +kernel
theorem dX2_pass_11 : decode cX2_pass 11 = .ok (.if_icmp .ge 14, 3) := by decide +kernel
theorem dX2_pass_14 : decode cX2_pass 14 = .ok (.aload_n 0, 1) := by decide +kernel
theorem dX2_pass_15 : decode cX2_pass 15 = .ok (.iload_n 1, 1) := by decide +kernel
theorem dX2_pass_16 : decode cX2_pass 16 = .ok (.invokevirtual 82, 3) := by decide +kernel
theorem dX2_pass_19 : decode cX2_pass 19 = .ok (.iinc 1 1, 3) := by decide +kernel
theorem dX2_pass_22 : decode cX2_pass 22 = .ok (.goto (-16), 3) := by decide +kernel
theorem dX2_pass_25 : decode cX2_pass 25 = .ok (.iconst 0, 1) := by decide +kernel
theorem dX2_pass_26 : decode cX2_pass 26 = .ok (.istore_n 1, 1) := by decide +kernel
theorem dX2_pass_27 : decode cX2_pass 27 = .ok (.iload_n 1, 1) := by decide +kernel
theorem dX2_pass_28 : decode cX2_pass 28 = .ok (.aload_n 0, 1) := by decide +kernel
theorem dX2_pass_29 : decode cX2_pass 29 = .ok (.getfield 46, 3) := by decide +kernel
theorem dX2_pass_32 : decode cX2_pass 32 = .ok (.if_icmp .ge 19, 3) := by decide +kernel
theorem dX2_pass_35 : decode cX2_pass 35 = .ok (.aload_n 0, 1) := by decide +kernel
theorem dX2_pass_36 : decode cX2_pass 36 = .ok (.getfield 19, 3) := by decide +kernel
theorem dX2_pass_39 : decode cX2_pass 39 = .ok (.iload_n 1, 1) := by decide +kernel
theorem dX2_pass_40 : decode cX2_pass 40 = .ok (.dup2, 1) := by decide +kernel
theorem dX2_pass_41 : decode cX2_pass 41 = .ok (.iaload, 1) := by decide +kernel
theorem dX2_pass_42 : decode cX2_pass 42 = .ok (.iconst 1, 1) := by decide +kernel
theorem dX2_pass_43 : decode cX2_pass 43 = .ok (.iadd, 1) := by decide +kernel
theorem dX2_pass_44 : decode cX2_pass 44 = .ok (.iastore, 1) := by decide +kernel
theorem dX2_pass_45 : decode cX2_pass 45 = .ok (.iinc 1 1, 3) := by decide +kernel
theorem dX2_pass_48 : decode cX2_pass 48 = .ok (.goto (-21), 3) := by decide +kernel
theorem dX2_pass_51 : decode cX2_pass 51 = .ok (.aload_n 0, 1) := by decide +kernel
theorem dX2_pass_52 : decode cX2_pass 52 = .ok (.invokevirtual 86, 3) := by decide +kernel
theorem dX2_pass_55 : decode cX2_pass 55 = .ok (.iconst 0, 1) := by decide +kernel
theorem dX2_pass_56 : decode cX2_pass 56 = .ok (.istore_n 1, 1) := by decide +kernel
theorem dX2_pass_57 : decode cX2_pass 57 = .ok (.iload_n 1, 1) := by decide +kernel
theorem dX2_pass_58 : decode cX2_pass 58 = .ok (.aload_n 0, 1) := by decide +kernel
theorem dX2_pass_59 : decode cX2_pass 59 = .ok (.getfield 49, 3) := by decide +kernel
theorem dX2_pass_62 : decode cX2_pass 62 = .ok (.if_icmp .ge 14, 3) := by decide +kernel
theorem dX2_pass_65 : decode cX2_pass 65 = .ok (.aload_n 0, 1) := by decide +kernel
theorem dX2_pass_66 : decode cX2_pass 66 = .ok (.iload_n 1, 1) := by decide +kernel
theorem dX2_pass_67 : decode cX2_pass 67 = .ok (.invokevirtual 89, 3) := by decide +kernel
theorem dX2_pass_70 : decode cX2_pass 70 = .ok (.iinc 1 1, 3) := by decide +kernel
theorem dX2_pass_73 : decode cX2_pass 73 = .ok (.goto (-16), 3) := by decide +kernel
theorem dX2_pass_76 : decode cX2_pass 76 = .ok (.aload_n 0, 1) := by decide +kernel
theorem dX2_pass_77 : decode cX2_pass 77 = .ok (.dup, 1) := by decide +kernel
theorem dX2_pass_78 : decode cX2_pass 78 = .ok (.getfield 43, 3) := by decide +kernel
theorem dX2_pass_81 : decode cX2_pass 81 = .ok (.iconst 1, 1) := by decide +kernel
theorem dX2_pass_82 : decode cX2_pass 82 = .ok (.iadd, 1) := by decide +kernel
theorem dX2_pass_83 : decode cX2_pass 83 = .ok (.putfield 43, 3) := by decide +kernel
theorem dX2_pass_86 : decode cX2_pass 86 = .ok (.return_, 1) := by decide +kernel
set_option maxRecDepth 20000 in
theorem ggX2_passOn_X2_pass : GoodIn wsX2_passOn wsX2_pass := goodIn_r _ [5, 6, 7, 8, 9, 10, 11, 12, 4, 13, 14, 15, 16, 17, 18, 19, 20, 21, 22, 23, 24, 25, 26, 27, 28, 29, 30, 31, 32, 33, 34, 35, 36, 37, 38, 39, 40, 41, 42, 43, 44, 45, 46, 47, 48, 49, 50, 51, 52, 53, 54, 55, 56, 57, 58, 59, 60, 61, 62] (by decide +kernel) (by decide +kernel)
set_option maxRecDepth 20000 in
theorem gX2_passOn_X2_pass : GoodIn wsX2_passOn (wsV RX2 92 RX2 yX2_pass wsX2_pass) := goodIn_app (goodIn_of _ (by decide +kernel)) ggX2_passOn_X2_pass
theorem dX2_passOn_0 : decode cX2_passOn 0 = .ok (.iconst 0, 1) := by decide +kernel
theorem dX2_passOn_1 : decode cX2_passOn 1 = .ok (.istore_n 2, 1) := by decide +kernel
theorem dX2_passOn_2 : decode cX2_passOn 2 = .ok (.iload_n 2, 1) := by decide +kernel
theorem dX2_passOn_3 : decode cX2_passOn 3 = .ok (.iload_n 1, 1) := by decide +kernel
theorem dX2_passOn_4 : decode cX2_passOn 4 = .ok (.if_icmp .ge 13, 3) := by decide +kernel
theorem dX2_passOn_7 : decode cX2_passOn 7 = .ok (.aload_n 0, 1) := by decide +kernel
theorem dX2_passOn_8 : decode cX2_passOn 8 = .ok (.invokevirtual 92, 3) := by decide +kernel
theorem dX2_passOn_11 : decode cX2_passOn 11 = .ok (.iinc 2 1, 3) := by decide +kernel
theorem dX2_passOn_14 : decode cX2_passOn 14 = .ok (.goto (-12), 3) := by decide +kernel
theorem dX2_passOn_17 : decode cX2_passOn 17 = .ok (.return_, 1) := by decide +kernel
