theorem dX1_init_0 : decode cX1_init 0 = .ok (.aload_n 0, 1) := by decide +kernel
theorem dX1_init_1 : decode cX1_init 1 = .ok (.invokespecial 1, 3) := by decide +kernel
theorem dX1_init_4 : decode cX1_init 4 = .ok (.aload_n 0, 1) := by decide +kernel
theorem dX1_init_5 : decode cX1_init 5 = .ok (.sipush 20000, 3) := by decide +kernel
theorem dX1_init_8 : decode cX1_init 8 = .ok (.newarray .int, 2) := by decide +kernel
theorem dX1_init_10 : decode cX1_init 10 = .ok (.putfield 7, 3) := by decide +kernel
theorem dX1_init_13 : decode cX1_init 13 = .ok (.aload_n 0, 1) := by decide +kernel
theorem dX1_init_14 : decode cX1_init 14 = .ok (.sipush 3001, 3) := by decide +kernel
theorem dX1_init_17 : decode cX1_init 17 = .ok (.newarray .int, 2) := by decide +kernel
theorem dX1_init_19 : decode cX1_init 19 = .ok (.putfield 13, 3) := by decide +kernel
theorem dX1_init_22 : decode cX1_init 22 = .ok (.aload_n 0, 1) := by decide +kernel
theorem dX1_init_23 : decode cX1_init 23 = .ok (.sipush 3001, 3) := by decide +kernel
theorem dX1_init_26 : decode cX1_init 26 = .ok (.newarray .int, 2) := by decide +kernel
theorem dX1_init_28 : decode cX1_init 28 = .ok (.putfield 16, 3) := by decide +kernel
theorem dX1_init_31 : decode cX1_init 31 = .ok (.aload_n 0, 1) := by decide +kernel
theorem dX1_init_32 : decode cX1_init 32 = .ok (.sipush 2000, 3) := by decide +kernel
theorem dX1_init_35 : decode cX1_init 35 = .ok (.newarray .int, 2) := by decide +kernel
theorem dX1_init_37 : decode cX1_init 37 = .ok (.putfield 19, 3) := by decide +kernel
theorem dX1_init_40 : decode cX1_init 40 = .ok (.aload_n 0, 1) := by decide +kernel
theorem dX1_init_41 : decode cX1_init 41 = .ok (.sipush 20000, 3) := by decide +kernel
theorem dX1_init_44 : decode cX1_init 44 = .ok (.newarray .int, 2) := by decide +kernel
theorem dX1_init_46 : decode cX1_init 46 = .ok (.putfield 22, 3) := by decide +kernel
theorem dX1_init_49 : decode cX1_init 49 = .ok (.return_, 1) := by decide +kernel
theorem dX1_write_0 : decode cX1_write 0 = .ok (.iload_n 1, 1) := by decide +kernel
theorem dX1_write_1 : decode cX1_write 1 = .ok (.ifCond .lt 42, 3) := by decide +kernel
theorem dX1_write_4 : decode cX1_write 4 = .ok (.iload_n 1, 1) := by decide +kernel
theorem dX1_write_5 : decode cX1_write 5 = .ok (.ldc 25, 2) := by decide +kernel
theorem dX1_write_7 : decode cX1_write 7 = .ok (.if_icmp .gt 36, 3) := by decide +kernel
theorem dX1_write_10 : decode cX1_write 10 = .ok (.iload_n 2, 1) := by decide +kernel
theorem dX1_write_11 : decode cX1_write 11 = .ok (.ifCond .lt 32, 3) := by decide +kernel
theorem dX1_write_14 : decode cX1_write 14 = .ok (.iload_n 2, 1) := by decide +kernel
theorem dX1_write_15 : decode cX1_write 15 = .ok (.sipush 500, 3) := by decide +kernel
theorem dX1_write_18 : decode cX1_write 18 = .ok (.if_icmp .gt 25, 3) := by decide +kernel
theorem dX1_write_21 : decode cX1_write 21 = .ok (.iload_n 1, 1) := by decide +kernel
theorem dX1_write_22 : decode cX1_write 22 = .ok (.iload_n 2, 1) := by decide +kernel
theorem dX1_write_23 : decode cX1_write 23 = .ok (.iadd, 1) := by decide +kernel
theorem dX1_write_24 : decode cX1_write 24 = .ok (.ldc 25, 2) := by decide +kernel
theorem dX1_write_26 : decode cX1_write 26 = .ok (.if_icmp .gt 17, 3) := by decide +kernel
theorem dX1_write_29 : decode cX1_write 29 = .ok (.aload_n 0, 1) := by decide +kernel
theorem dX1_write_30 : decode cX1_write 30 = .ok (.getfield 26, 3) := by decide +kernel
theorem dX1_write_33 : decode cX1_write 33 = .ok (.iload_n 2, 1) := by decide +kernel
theorem dX1_write_34 : decode cX1_write 34 = .ok (.iadd, 1) := by decide +kernel
theorem dX1_write_35 : decode cX1_write 35 = .ok (.iconst 1, 1) := by decide +kernel
theorem dX1_write_36 : decode cX1_write 36 = .ok (.iadd, 1) := by decide +kernel
theorem dX1_write_37 : decode cX1_write 37 = .ok (.sipush 2000, 3) := by decide +kernel
theorem dX1_write_40 : decode cX1_write 40 = .ok (.if_icmp .le 5, 3) := by decide +kernel
theorem dX1_write_43 : decode cX1_write 43 = .ok (.iconst (-1), 1) := by decide +kernel
theorem dX1_write_44 : decode cX1_write 44 = .ok (.ireturn, 1) := by decide +kernel
theorem dX1_write_45 : decode cX1_write 45 = .ok (.iconst 0, 1) := by decide +kernel
theorem dX1_write_46 : decode cX1_write 46 = .ok (.istore_n 3, 1) := by decide +kernel
theorem dX1_write_47 : decode cX1_write 47 = .ok (.iload_n 3, 1) := by decide +kernel
theorem dX1_write_48 : decode cX1_write 48 = .ok (.iload_n 2, 1) := by decide +kernel
theorem dX1_write_49 : decode cX1_write 49 = .ok (.if_icmp .gt 31, 3) := by decide +kernel
theorem dX1_write_52 : decode cX1_write 52 = .ok (.aload_n 0, 1) := by decide +kernel
theorem dX1_write_53 : decode cX1_write 53 = .ok (.getfield 19, 3) := by decide +kernel
theorem dX1_write_56 : decode cX1_write 56 = .ok (.aload_n 0, 1) := by decide +kernel
theorem dX1_write_57 : decode cX1_write 57 = .ok (.getfield 26, 3) := by decide +kernel
theorem dX1_write_60 : decode cX1_write 60 = .ok (.iload_n 1, 1) := by decide +kernel
theorem dX1_write_61 : decode cX1_write 61 = .ok (.iload_n 3, 1) := by decide +kernel
theorem dX1_write_62 : decode cX1_write 62 = .ok (.iadd, 1) := by decide +kernel
theorem dX1_write_63 : decode cX1_write 63 = .ok (.iastore, 1) := by decide +kernel
theorem dX1_write_64 : decode cX1_write 64 = .ok (.aload_n 0, 1) := by decide +kernel
theorem dX1_write_65 : decode cX1_write 65 = .ok (.aload_n 0, 1) := by decide +kernel
theorem dX1_write_66 : decode cX1_write 66 = .ok (.getfield 26, 3) := by decide +kernel
theorem dX1_write_69 : decode cX1_write 69 = .ok (.iconst 1, 1) := by decide +kernel
theorem dX1_write_70 : decode cX1_write 70 = .ok (.iadd, 1) := by decide +kernel
theorem dX1_write_71 : decode cX1_write 71 = .ok (.putfield 26, 3) := by decide +kernel
theorem dX1_write_74 : decode cX1_write 74 = .ok (.iinc 3 1, 3) := by decide +kernel
theorem dX1_write_77 : decode cX1_write 77 = .ok (.goto (-30), 3) := by decide +kernel
theorem dX1_write_80 : decode cX1_write 80 = .ok (.aload_n 0, 1) := by decide +kernel
theorem dX1_write_81 : decode cX1_write 81 = .ok (.getfield 26, 3) := by decide +kernel
theorem dX1_write_84 : decode cX1_write 84 = .ok (.ireturn, 1) := by decide +kernel
theorem dX1_cut_0 : decode cX1_cut 0 = .ok (.iload_n 1, 1) := by decide +kernel
theorem dX1_cut_1 : decode cX1_cut 1 = .ok (.ifCond .lt 11, 3) := by decide +kernel
theorem dX1_cut_4 : decode cX1_cut 4 = .ok (.iload_n 1, 1) := by decide +kernel
theorem dX1_cut_5 : decode cX1_cut 5 = .ok (.aload_n 0, 1) := by decide +kernel
theorem dX1_cut_6 : decode cX1_cut 6 = .ok (.getfield 26, 3) := by decide +kernel
theorem dX1_cut_9 : decode cX1_cut 9 = .ok (.if_icmp .le 5, 3) := by decide +kernel
theorem dX1_cut_12 : decode cX1_cut 12 = .ok (.iconst (-1), 1) := by decide +kernel
theorem dX1_cut_13 : decode cX1_cut 13 = .ok (.ireturn, 1) := by decide +kernel
theorem dX1_cut_14 : decode cX1_cut 14 = .ok (.aload_n 0, 1) := by decide +kernel
theorem dX1_cut_15 : decode cX1_cut 15 = .ok (.getfield 26, 3) := by decide +kernel
theorem dX1_cut_18 : decode cX1_cut 18 = .ok (.istore_n 2, 1) := by decide +kernel
theorem dX1_cut_19 : decode cX1_cut 19 = .ok (.aload_n 0, 1) := by decide +kernel
theorem dX1_cut_20 : decode cX1_cut 20 = .ok (.iload_n 1, 1) := by decide +kernel
theorem dX1_cut_21 : decode cX1_cut 21 = .ok (.putfield 26, 3) := by decide +kernel
theorem dX1_cut_24 : decode cX1_cut 24 = .ok (.iload_n 2, 1) := by decide +kernel
theorem dX1_cut_25 : decode cX1_cut 25 = .ok (.ireturn, 1) := by decide +kernel
theorem dX1_find_0 : decode cX1_find 0 = .ok (.iconst 0, 1) := by decide +kernel
theorem dX1_find_1 : decode cX1_find 1 = .ok (.istore_n 1, 1) := by decide +kernel
theorem dX1_find_2 : decode cX1_find 2 = .ok (.iconst 1, 1) := by decide +kernel
theorem dX1_find_3 : decode cX1_find 3 = .ok (.istore_n 2, 1) := by decide +kernel
theorem dX1_find_4 : decode cX1_find 4 = .ok (.iload_n 2, 1) := by decide +kernel
theorem dX1_find_5 : decode cX1_find 5 = .ok (.aload_n 0, 1) := by decide +kernel
theorem dX1_find_6 : decode cX1_find 6 = .ok (.getfield 30, 3) := by decide +kernel
theorem dX1_find_9 : decode cX1_find 9 = .ok (.if_icmp .gt 94, 3) := by decide +kernel
theorem dX1_find_12 : decode cX1_find 12 = .ok (.iload_n 1, 1) := by decide +kernel
theorem dX1_find_13 : decode cX1_find 13 = .ok (.ifCond .ne 90, 3) := by decide +kernel
theorem dX1_find_16 : decode cX1_find 16 = .ok (.aload_n 0, 1) := by decide +kernel
theorem dX1_find_17 : decode cX1_find 17 = .ok (.getfield 16, 3) := by decide +kernel
theorem dX1_find_20 : decode cX1_find 20 = .ok (.iload_n 2, 1) := by decide +kernel
theorem dX1_find_21 : decode cX1_find 21 = .ok (.iaload, 1) := by decide +kernel
theorem dX1_find_22 : decode cX1_find 22 = .ok (.aload_n 0, 1) := by decide +kernel
theorem dX1_find_23 : decode cX1_find 23 = .ok (.getfield 33, 3) := by decide +kernel
theorem dX1_find_26 : decode cX1_find 26 = .ok (.if_icmp .ne 7, 3) := by decide +kernel
theorem dX1_find_29 : decode cX1_find 29 = .ok (.iconst 1, 1) := by decide +kernel
theorem dX1_find_30 : decode cX1_find 30 = .ok (.goto 4, 3) := by decide +kernel
theorem dX1_find_33 : decode cX1_find 33 = .ok (.iconst 0, 1) := by decide +kernel
theorem dX1_find_34 : decode cX1_find 34 = .ok (.istore_n 3, 1) := by decide +kernel
theorem dX1_find_35 : decode cX1_find 35 = .ok (.iconst 0, 1) := by decide +kernel
theorem dX1_find_36 : decode cX1_find 36 = .ok (.istore 4, 2) := by decide +kernel
theorem dX1_find_38 : decode cX1_find 38 = .ok (.iload 4, 2) := by decide +kernel
theorem dX1_find_40 : decode cX1_find 40 = .ok (.aload_n 0, 1) := by decide +kernel
theorem dX1_find_41 : decode cX1_find 41 = .ok (.getfield 33, 3) := by decide +kernel
theorem dX1_find_44 : decode cX1_find 44 = .ok (.if_icmp .ge 43, 3) := by decide +kernel
theorem dX1_find_47 : decode cX1_find 47 = .ok (.iload_n 3, 1) := by decide +kernel
theorem dX1_find_48 : decode cX1_find 48 = .ok (.ifCond .eq 39, 3) := by decide +kernel
theorem dX1_find_51 : decode cX1_find 51 = .ok (.aload_n 0, 1) := by decide +kernel
theorem dX1_find_52 : decode cX1_find 52 = .ok (.getfield 7, 3) := by decide +kernel
theorem dX1_find_55 : decode cX1_find 55 = .ok (.aload_n 0, 1) := by decide +kernel
theorem dX1_find_56 : decode cX1_find 56 = .ok (.getfield 13, 3) := by decide +kernel
theorem dX1_find_59 : decode cX1_find 59 = .ok (.iload_n 2, 1) := by decide +kernel
theorem dX1_find_60 : decode cX1_find 60 = .ok (.iaload, 1) := by decide +kernel
theorem dX1_find_61 : decode cX1_find 61 = .ok (.iload 4, 2) := by decide +kernel
theorem dX1_find_63 : decode cX1_find 63 = .ok (.iadd, 1) := by decide +kernel
theorem dX1_find_64 : decode cX1_find 64 = .ok (.iaload, 1) := by decide +kernel
theorem dX1_find_65 : decode cX1_find 65 = .ok (.aload_n 0, 1) := by decide +kernel
theorem dX1_find_66 : decode cX1_find 66 = .ok (.getfield 22, 3) := by decide +kernel
theorem dX1_find_69 : decode cX1_find 69 = .ok (.iload 4, 2) := by decide +kernel
theorem dX1_find_71 : decode cX1_find 71 = .ok (.iaload, 1) := by decide +kernel
theorem dX1_find_72 : decode cX1_find 72 = .ok (.if_icmp .ne 7, 3) := by decide +kernel
theorem dX1_find_75 : decode cX1_find 75 = .ok (.iconst 1, 1) := by decide +kernel
theorem dX1_find_76 : decode cX1_find 76 = .ok (.goto 4, 3) := by decide +kernel
theorem dX1_find_79 : decode cX1_find 79 = .ok (.iconst 0, 1) := by decide +kernel
theorem dX1_find_80 : decode cX1_find 80 = .ok (.istore_n 3, 1) := by decide +kernel
theorem dX1_find_81 : decode cX1_find 81 = .ok (.iinc 4 1, 3) := by decide +kernel
theorem dX1_find_84 : decode cX1_find 84 = .ok (.goto (-46), 3) := by decide +kernel
theorem dX1_find_87 : decode cX1_find 87 = .ok (.iload_n 3, 1) := by decide +kernel
theorem dX1_find_88 : decode cX1_find 88 = .ok (.ifCond .eq 7, 3) := by decide +kernel
theorem dX1_find_91 : decode cX1_find 91 = .ok (.iload_n 2, 1) := by decide +kernel
theorem dX1_find_92 : decode cX1_find 92 = .ok (.goto 4, 3) := by decide +kernel
theorem dX1_find_95 : decode cX1_find 95 = .ok (.iconst 0, 1) := by decide +kernel
theorem dX1_find_96 : decode cX1_find 96 = .ok (.istore_n 1, 1) := by decide +kernel
theorem dX1_find_97 : decode cX1_find 97 = .ok (.iinc 2 1, 3) := by decide +kernel
theorem dX1_find_100 : decode cX1_find 100 = .ok (.goto (-96), 3) := by decide +kernel
theorem dX1_find_103 : decode cX1_find 103 = .ok (.iload_n 1, 1) := by decide +kernel
theorem dX1_find_104 : decode cX1_find 104 = .ok (.ireturn, 1) := by decide +kernel
set_option maxRecDepth 20000 in
theorem ggX1_get_X1_find : GoodIn wsX1_get wsX1_find := goodIn_r _ [12, 1, 5, 3, 6, 4, 7, 13, 14, 15, 16, 17, 18, 19, 20, 21] (by decide +kernel) (by decide +kernel)
set_option maxRecDepth 20000 in
theorem gX1_get_X1_find : GoodIn wsX1_get (wsV RX1 36 RX1 yX1_find wsX1_find) := goodIn_app (goodIn_of _ (by decide +kernel)) ggX1_get_X1_find
theorem dX1_get_0 : decode cX1_get 0 = .ok (.aload_n 0, 1) := by decide +kernel
theorem dX1_get_1 : decode cX1_get 1 = .ok (.invokevirtual 36, 3) := by decide +kernel
theorem dX1_get_4 : decode cX1_get 4 = .ok (.istore_n 1, 1) := by decide +kernel
theorem dX1_get_5 : decode cX1_get 5 = .ok (.iload_n 1, 1) := by decide +kernel
theorem dX1_get_6 : decode cX1_get 6 = .ok (.ifCond .le 5, 3) := by decide +kernel
theorem dX1_get_9 : decode cX1_get 9 = .ok (.iload_n 1, 1) := by decide +kernel
theorem dX1_get_10 : decode cX1_get 10 = .ok (.ireturn, 1) := by decide +kernel
theorem dX1_get_11 : decode cX1_get 11 = .ok (.aload_n 0, 1) := by decide +kernel
theorem dX1_get_12 : decode cX1_get 12 = .ok (.getfield 30, 3) := by decide +kernel
theorem dX1_get_15 : decode cX1_get 15 = .ok (.sipush 3000, 3) := by decide +kernel
theorem dX1_get_18 : decode cX1_get 18 = .ok (.if_icmp .eq 18, 3) := by decide +kernel
theorem dX1_get_21 : decode cX1_get 21 = .ok (.aload_n 0, 1) := by decide +kernel
theorem dX1_get_22 : decode cX1_get 22 = .ok (.getfield 40, 3) := by decide +kernel
theorem dX1_get_25 : decode cX1_get 25 = .ok (.aload_n 0, 1) := by decide +kernel
theorem dX1_get_26 : decode cX1_get 26 = .ok (.getfield 33, 3) := by decide +kernel
theorem dX1_get_29 : decode cX1_get 29 = .ok (.iadd, 1) := by decide +kernel
theorem dX1_get_30 : decode cX1_get 30 = .ok (.sipush 20000, 3) := by decide +kernel
theorem dX1_get_33 : decode cX1_get 33 = .ok (.if_icmp .le 5, 3) := by decide +kernel
theorem dX1_get_36 : decode cX1_get 36 = .ok (.iconst (-1), 1) := by decide +kernel
theorem dX1_get_37 : decode cX1_get 37 = .ok (.ireturn, 1) := by decide +kernel
theorem dX1_get_38 : decode cX1_get 38 = .ok (.aload_n 0, 1) := by decide +kernel
theorem dX1_get_39 : decode cX1_get 39 = .ok (.aload_n 0, 1) := by decide +kernel
theorem dX1_get_40 : decode cX1_get 40 = .ok (.getfield 30, 3) := by decide +kernel
theorem dX1_get_43 : decode cX1_get 43 = .ok (.iconst 1, 1) := by decide +kernel
theorem dX1_get_44 : decode cX1_get 44 = .ok (.iadd, 1) := by decide +kernel
theorem dX1_get_45 : decode cX1_get 45 = .ok (.putfield 30, 3) := by decide +kernel
theorem dX1_get_48 : decode cX1_get 48 = .ok (.aload_n 0, 1) := by decide +kernel
theorem dX1_get_49 : decode cX1_get 49 = .ok (.getfield 13, 3) := by decide +kernel
theorem dX1_get_52 : decode cX1_get 52 = .ok (.aload_n 0, 1) := by decide +kernel
theorem dX1_get_53 : decode cX1_get 53 = .ok (.getfield 30, 3) := by decide +kernel
theorem dX1_get_56 : decode cX1_get 56 = .ok (.aload_n 0, 1) := by decide +kernel
theorem dX1_get_57 : decode cX1_get 57 = .ok (.getfield 40, 3) := by decide +kernel
theorem dX1_get_60 : decode cX1_get 60 = .ok (.iastore, 1) := by decide +kernel
theorem dX1_get_61 : decode cX1_get 61 = .ok (.aload_n 0, 1) := by decide +kernel
theorem dX1_get_62 : decode cX1_get 62 = .ok (.getfield 16, 3) := by decide +kernel
theorem dX1_get_65 : decode cX1_get 65 = .ok (.aload_n 0, 1) := by decide +kernel
theorem dX1_get_66 : decode cX1_get 66 = .ok (.getfield 30, 3) := by decide +kernel
theorem dX1_get_69 : decode cX1_get 69 = .ok (.aload_n 0, 1) := by decide +kernel
theorem dX1_get_70 : decode cX1_get 70 = .ok (.getfield 33, 3) := by decide +kernel
theorem dX1_get_73 : decode cX1_get 73 = .ok (.iastore, 1) := by decide +kernel
theorem dX1_get_74 : decode cX1_get 74 = .ok (.iconst 0, 1) := by decide +kernel
theorem dX1_get_75 : decode cX1_get 75 = .ok (.istore_n 2, 1) := by decide +kernel
theorem dX1_get_76 : decode cX1_get 76 = .ok (.iload_n 2, 1) := by decide +kernel
theorem dX1_get_77 : decode cX1_get 77 = .ok (.aload_n 0, 1) := by decide +kernel
theorem dX1_get_78 : decode cX1_get 78 = .ok (.getfield 33, 3) := by decide +kernel
theorem dX1_get_81 : decode cX1_get 81 = .ok (.if_icmp .ge 34, 3) := by decide +kernel
theorem dX1_get_84 : decode cX1_get 84 = .ok (.aload_n 0, 1) := by decide +kernel
theorem dX1_get_85 : decode cX1_get 85 = .ok (.getfield 7, 3) := by decide +kernel
theorem dX1_get_88 : decode cX1_get 88 = .ok (.aload_n 0, 1) := by decide +kernel
theorem dX1_get_89 : decode cX1_get 89 = .ok (.getfield 40, 3) := by decide +kernel
theorem dX1_get_92 : decode cX1_get 92 = .ok (.aload_n 0, 1) := by decide +kernel
theorem dX1_get_93 : decode cX1_get 93 = .ok (.getfield 22, 3) := by decide +kernel
theorem dX1_get_96 : decode cX1_get 96 = .ok (.iload_n 2, 1) := by decide +kernel
theorem dX1_get_97 : decode cX1_get 97 = .ok (.iaload, 1) := by decide +kernel
theorem dX1_get_98 : decode cX1_get 98 = .ok (.iastore, 1) := by decide +kernel
theorem dX1_get_99 : decode cX1_get 99 = .ok (.aload_n 0, 1) := by decide +kernel
theorem dX1_get_100 : decode cX1_get 100 = .ok (.aload_n 0, 1) := by decide +kernel
theorem dX1_get_101 : decode cX1_get 101 = .ok (.getfield 40, 3) := by decide +kernel
theorem dX1_get_104 : decode cX1_get 104 = .ok (.iconst 1, 1) := by decide +kernel
theorem dX1_get_105 : decode cX1_get 105 = .ok (.iadd, 1) := by decide +kernel
theorem dX1_get_106 : decode cX1_get 106 = .ok (.putfield 40, 3) := by decide +kernel
theorem dX1_get_109 : decode cX1_get 109 = .ok (.iinc 2 1, 3) := by decide +kernel
theorem dX1_get_112 : decode cX1_get 112 = .ok (.goto (-36), 3) := by decide +kernel
theorem dX1_get_115 : decode cX1_get 115 = .ok (.aload_n 0, 1) := by decide +kernel
theorem dX1_get_116 : decode cX1_get 116 = .ok (.getfield 30, 3) := by decide +kernel
theorem dX1_get_119 : decode cX1_get 119 = .ok (.ireturn, 1) := by decide +kernel
theorem dX1_seekDraft_0 : decode cX1_seekDraft 0 = .ok (.aload_n 0, 1) := by decide +kernel
theorem dX1_seekDraft_1 : decode cX1_seekDraft 1 = .ok (.aload_n 0, 1) := by decide +kernel
theorem dX1_seekDraft_2 : decode cX1_seekDraft 2 = .ok (.getfield 26, 3) := by decide +kernel
theorem dX1_seekDraft_5 : decode cX1_seekDraft 5 = .ok (.putfield 33, 3) := by decide +kernel
theorem dX1_seekDraft_8 : decode cX1_seekDraft 8 = .ok (.iconst 0, 1) := by decide +kernel
theorem dX1_seekDraft_9 : decode cX1_seekDraft 9 = .ok (.istore_n 1, 1) := by decide +kernel
theorem dX1_seekDraft_10 : decode cX1_seekDraft 10 = .ok (.iload_n 1, 1) := by decide +kernel
theorem dX1_seekDraft_11 : decode cX1_seekDraft 11 = .ok (.aload_n 0, 1) := by decide +kernel
theorem dX1_seekDraft_12 : decode cX1_seekDraft 12 = .ok (.getfield 26, 3) := by decide +kernel
theorem dX1_seekDraft_15 : decode cX1_seekDraft 15 = .ok (.if_icmp .ge 21, 3) := by decide +kernel
theorem dX1_seekDraft_18 : decode cX1_seekDraft 18 = .ok (.aload_n 0, 1) := by decide +kernel
theorem dX1_seekDraft_19 : decode cX1_seekDraft 19 = .ok (.getfield 22, 3) := by decide +kernel
theorem dX1_seekDraft_22 : decode cX1_seekDraft 22 = .ok (.iload_n 1, 1) := by decide +kernel
theorem dX1_seekDraft_23 : decode cX1_seekDraft 23 = .ok (.aload_n 0, 1) := by decide +kernel
theorem dX1_seekDraft_24 : decode cX1_seekDraft 24 = .ok (.getfield 19, 3) := by decide +kernel
theorem dX1_seekDraft_27 : decode cX1_seekDraft 27 = .ok (.iload_n 1, 1) := by decide +kernel
theorem dX1_seekDraft_28 : decode cX1_seekDraft 28 = .ok (.iaload, 1) := by decide +kernel
theorem dX1_seekDraft_29 : decode cX1_seekDraft 29 = .ok (.iastore, 1) := by decide +kernel
theorem dX1_seekDraft_30 : decode cX1_seekDraft 30 = .ok (.iinc 1 1, 3) := by decide +kernel
theorem dX1_seekDraft_33 : decode cX1_seekDraft 33 = .ok (.goto (-23), 3) := by decide +kernel
theorem dX1_seekDraft_36 : decode cX1_seekDraft 36 = .ok (.return_, 1) := by decide +kernel
set_option maxRecDepth 20000 in
theorem ggX1_number_X1_seekDraft : GoodIn wsX1_number wsX1_seekDraft := goodIn_r _ [6, 1, 7, 8, 9, 23, 24, 25, 26, 27, 28, 29, 30, 31] (by decide +kernel) (by decide +kernel)
set_option maxRecDepth 20000 in
theorem gX1_number_X1_seekDraft : GoodIn wsX1_number (wsV RX1 43 RX1 yX1_seekDraft wsX1_seekDraft) := goodIn_app (goodIn_of _ (by decide +kernel)) ggX1_number_X1_seekDraft
set_option maxRecDepth 20000 in
theorem ggX1_number_X1_get : GoodIn wsX1_number wsX1_get := goodIn_r _ [13, 14, 15, 7, 16, 17, 18, 8, 19, 20, 21, 5, 22, 23, 24, 25, 26, 27, 28, 29, 30, 31] (by decide +kernel) (by decide +kernel)
set_option maxRecDepth 20000 in
theorem gX1_number_X1_get : GoodIn wsX1_number (wsV RX1 46 RX1 yX1_get wsX1_get) := goodIn_app (goodIn_of _ (by decide +kernel)) ggX1_number_X1_get
theorem dX1_number_0 : decode cX1_number 0 = .ok (.aload_n 0, 1) := by decide +kernel
theorem dX1_number_1 : decode cX1_number 1 = .ok (.invokevirtual 43, 3) := by decide +kernel
theorem dX1_number_4 : decode cX1_number 4 = .ok (.aload_n 0, 1) := by decide +kernel
theorem dX1_number_5 : decode cX1_number 5 = .ok (.invokevirtual 46, 3) := by decide +kernel
theorem dX1_number_8 : decode cX1_number 8 = .ok (.istore_n 1, 1) := by decide +kernel
theorem dX1_number_9 : decode cX1_number 9 = .ok (.aload_n 0, 1) := by decide +kernel
theorem dX1_number_10 : decode cX1_number 10 = .ok (.iload_n 1, 1) := by decide +kernel
theorem dX1_number_11 : decode cX1_number 11 = .ok (.ifCond .ge 10, 3) := by decide +kernel
theorem dX1_number_14 : decode cX1_number 14 = .ok (.aload_n 0, 1) := by decide +kernel
theorem dX1_number_15 : decode cX1_number 15 = .ok (.getfield 26, 3) := by decide +kernel
theorem dX1_number_18 : decode cX1_number 18 = .ok (.goto 4, 3) := by decide +kernel
theorem dX1_number_21 : decode cX1_number 21 = .ok (.iconst 0, 1) := by decide +kernel
theorem dX1_number_22 : decode cX1_number 22 = .ok (.putfield 26, 3) := by decide +kernel
theorem dX1_number_25 : decode cX1_number 25 = .ok (.iload_n 1, 1) := by decide +kernel
theorem dX1_number_26 : decode cX1_number 26 = .ok (.ireturn, 1) := by decide +kernel
set_option maxRecDepth 20000 in
theorem ggX1_isKnown_X1_seekDraft : GoodIn wsX1_isKnown wsX1_seekDraft := goodIn_r _ [5, 6, 7, 8, 9, 18, 19, 20, 21, 22, 23, 24, 25, 26] (by decide +kernel) (by decide +kernel)
set_option maxRecDepth 20000 in
theorem gX1_isKnown_X1_seekDraft : GoodIn wsX1_isKnown (wsV RX1 43 RX1 yX1_seekDraft wsX1_seekDraft) := goodIn_app (goodIn_of _ (by decide +kernel)) ggX1_isKnown_X1_seekDraft
set_option maxRecDepth 20000 in
theorem ggX1_isKnown_X1_find : GoodIn wsX1_isKnown wsX1_find := goodIn_r _ [13, 14, 15, 7, 16, 17, 8, 18, 19, 20, 21, 22, 23, 24, 25, 26] (by decide +kernel) (by decide +kernel)
set_option maxRecDepth 20000 in
theorem gX1_isKnown_X1_find : GoodIn wsX1_isKnown (wsV RX1 36 RX1 yX1_find wsX1_find) := goodIn_app (goodIn_of _ (by decide +kernel)) ggX1_isKnown_X1_find
theorem dX1_isKnown_0 : decode cX1_isKnown 0 = .ok (.aload_n 0, 1) := by decide +kernel
theorem dX1_isKnown_1 : decode cX1_isKnown 1 = .ok (.invokevirtual 43, 3) := by decide +kernel
theorem dX1_isKnown_4 : decode cX1_isKnown 4 = .ok (.aload_n 0, 1) := by decide +kernel
theorem dX1_isKnown_5 : decode cX1_isKnown 5 = .ok (.invokevirtual 36, 3) := by decide +kernel
theorem dX1_isKnown_8 : decode cX1_isKnown 8 = .ok (.ifCond .le 7, 3) := by decide +kernel
theorem dX1_isKnown_11 : decode cX1_isKnown 11 = .ok (.iconst 1, 1) := by decide +kernel
theorem dX1_isKnown_12 : decode cX1_isKnown 12 = .ok (.goto 4, 3) := by decide +kernel
theorem dX1_isKnown_15 : decode cX1_isKnown 15 = .ok (.iconst 0, 1) := by decide +kernel
theorem dX1_isKnown_16 : decode cX1_isKnown 16 = .ok (.ireturn, 1) := by decide +kernel
theorem dX1_isRow_0 : decode cX1_isRow 0 = .ok (.iload_n 1, 1) := by decide +kernel
theorem dX1_isRow_1 : decode cX1_isRow 1 = .ok (.iconst 1, 1) := by decide +kernel
theorem dX1_isRow_2 : decode cX1_isRow 2 = .ok (.if_icmp .lt 15, 3) := by decide +kernel
theorem dX1_isRow_5 : decode cX1_isRow 5 = .ok (.iload_n 1, 1) := by decide +kernel
theorem dX1_isRow_6 : decode cX1_isRow 6 = .ok (.aload_n 0, 1) := by decide +kernel
theorem dX1_isRow_7 : decode cX1_isRow 7 = .ok (.getfield 30, 3) := by decide +kernel
theorem dX1_isRow_10 : decode cX1_isRow 10 = .ok (.if_icmp .gt 7, 3) := by decide +kernel
theorem dX1_isRow_13 : decode cX1_isRow 13 = .ok (.iconst 1, 1) := by decide +kernel
theorem dX1_isRow_14 : decode cX1_isRow 14 = .ok (.goto 4, 3) := by decide +kernel
theorem dX1_isRow_17 : decode cX1_isRow 17 = .ok (.iconst 0, 1) := by decide +kernel
theorem dX1_isRow_18 : decode cX1_isRow 18 = .ok (.ireturn, 1) := by decide +kernel
set_option maxRecDepth 20000 in
theorem ggX1_take_X1_isRow : GoodIn wsX1_take wsX1_isRow := goodIn_r _ [10, 11, 12, 13, 14, 15, 16, 17, 18, 19, 20] (by decide +kernel) (by decide +kernel)
set_option maxRecDepth 20000 in
theorem gX1_take_X1_isRow : GoodIn wsX1_take (wsV RX1 49 RX1 yX1_isRow wsX1_isRow) := goodIn_app (goodIn_of _ (by decide +kernel)) ggX1_take_X1_isRow
theorem dX1_take_0 : decode cX1_take 0 = .ok (.aload_n 0, 1) := by decide +kernel
theorem dX1_take_1 : decode cX1_take 1 = .ok (.iload_n 1, 1) := by decide +kernel
theorem dX1_take_2 : decode cX1_take 2 = .ok (.invokevirtual 49, 3) := by decide +kernel
theorem dX1_take_5 : decode cX1_take 5 = .ok (.ifCond .eq 20, 3) := by decide +kernel
theorem dX1_take_8 : decode cX1_take 8 = .ok (.aload_n 0, 1) := by decide +kernel
theorem dX1_take_9 : decode cX1_take 9 = .ok (.getfield 26, 3) := by decide +kernel
theorem dX1_take_12 : decode cX1_take 12 = .ok (.aload_n 0, 1) := by decide +kernel
theorem dX1_take_13 : decode cX1_take 13 = .ok (.getfield 16, 3) := by decide +kernel
theorem dX1_take_16 : decode cX1_take 16 = .ok (.iload_n 1, 1) := by decide +kernel
theorem dX1_take_17 : decode cX1_take 17 = .ok (.iaload, 1) := by decide +kernel
theorem dX1_take_18 : decode cX1_take 18 = .ok (.iadd, 1) := by decide +kernel
theorem dX1_take_19 : decode cX1_take 19 = .ok (.sipush 2000, 3) := by decide +kernel
theorem dX1_take_22 : decode cX1_take 22 = .ok (.if_icmp .le 5, 3) := by decide +kernel
theorem dX1_take_25 : decode cX1_take 25 = .ok (.iconst (-1), 1) := by decide +kernel
theorem dX1_take_26 : decode cX1_take 26 = .ok (.ireturn, 1) := by decide +kernel
theorem dX1_take_27 : decode cX1_take 27 = .ok (.iconst 0, 1) := by decide +kernel
theorem dX1_take_28 : decode cX1_take 28 = .ok (.istore_n 2, 1) := by decide +kernel
theorem dX1_take_29 : decode cX1_take 29 = .ok (.iload_n 2, 1) := by decide +kernel
theorem dX1_take_30 : decode cX1_take 30 = .ok (.aload_n 0, 1) := by decide +kernel
theorem dX1_take_31 : decode cX1_take 31 = .ok (.getfield 16, 3) := by decide +kernel
theorem dX1_take_34 : decode cX1_take 34 = .ok (.iload_n 1, 1) := by decide +kernel
theorem dX1_take_35 : decode cX1_take 35 = .ok (.iaload, 1) := by decide +kernel
theorem dX1_take_36 : decode cX1_take 36 = .ok (.if_icmp .ge 41, 3) := by decide +kernel
theorem dX1_take_39 : decode cX1_take 39 = .ok (.aload_n 0, 1) := by decide +kernel
theorem dX1_take_40 : decode cX1_take 40 = .ok (.getfield 19, 3) := by decide +kernel
theorem dX1_take_43 : decode cX1_take 43 = .ok (.aload_n 0, 1) := by decide +kernel
theorem dX1_take_44 : decode cX1_take 44 = .ok (.getfield 26, 3) := by decide +kernel
theorem dX1_take_47 : decode cX1_take 47 = .ok (.aload_n 0, 1) := by decide +kernel
theorem dX1_take_48 : decode cX1_take 48 = .ok (.getfield 7, 3) := by decide +kernel
theorem dX1_take_51 : decode cX1_take 51 = .ok (.aload_n 0, 1) := by decide +kernel
theorem dX1_take_52 : decode cX1_take 52 = .ok (.getfield 13, 3) := by decide +kernel
theorem dX1_take_55 : decode cX1_take 55 = .ok (.iload_n 1, 1) := by decide +kernel
theorem dX1_take_56 : decode cX1_take 56 = .ok (.iaload, 1) := by decide +kernel
theorem dX1_take_57 : decode cX1_take 57 = .ok (.iload_n 2, 1) := by decide +kernel
theorem dX1_take_58 : decode cX1_take 58 = .ok (.iadd, 1) := by decide +kernel
theorem dX1_take_59 : decode cX1_take 59 = .ok (.iaload, 1) := by decide +kernel
theorem dX1_take_60 : decode cX1_take 60 = .ok (.iastore, 1) := by decide +kernel
theorem dX1_take_61 : decode cX1_take 61 = .ok (.aload_n 0, 1) := by decide +kernel
theorem dX1_take_62 : decode cX1_take 62 = .ok (.aload_n 0, 1) := by decide +kernel
theorem dX1_take_63 : decode cX1_take 63 = .ok (.getfield 26, 3) := by decide +kernel
theorem dX1_take_66 : decode cX1_take 66 = .ok (.iconst 1, 1) := by decide +kernel
theorem dX1_take_67 : decode cX1_take 67 = .ok (.iadd, 1) := by decide +kernel
theorem dX1_take_68 : decode cX1_take 68 = .ok (.putfield 26, 3) := by decide +kernel
theorem dX1_take_71 : decode cX1_take 71 = .ok (.iinc 2 1, 3) := by decide +kernel
theorem dX1_take_74 : decode cX1_take 74 = .ok (.goto (-45), 3) := by decide +kernel
theorem dX1_take_77 : decode cX1_take 77 = .ok (.aload_n 0, 1) := by decide +kernel
theorem dX1_take_78 : decode cX1_take 78 = .ok (.getfield 26, 3) := by decide +kernel
theorem dX1_take_81 : decode cX1_take 81 = .ok (.ireturn, 1) := by decide +kernel
theorem dX1_rows_0 : decode cX1_rows 0 = .ok (.aload_n 0, 1) := by decide +kernel
theorem dX1_rows_1 : decode cX1_rows 1 = .ok (.getfield 30, 3) := by decide +kernel
theorem dX1_rows_4 : decode cX1_rows 4 = .ok (.ireturn, 1) := by decide +kernel
set_option maxRecDepth 20000 in
theorem ggX1_length_X1_isRow : GoodIn wsX1_length wsX1_isRow := goodIn_r _ [6, 7, 8, 9, 10, 11, 12, 13, 14, 15, 16] (by decide +kernel) (by decide +kernel)
set_option maxRecDepth 20000 in
theorem gX1_length_X1_isRow : GoodIn wsX1_length (wsV RX1 49 RX1 yX1_isRow wsX1_isRow) := goodIn_app (goodIn_of _ (by decide +kernel)) ggX1_length_X1_isRow
theorem dX1_length_0 : decode cX1_length 0 = .ok (.aload_n 0, 1) := by decide +kernel
theorem dX1_length_1 : decode cX1_length 1 = .ok (.iload_n 1, 1) := by decide +kernel
theorem dX1_length_2 : decode cX1_length 2 = .ok (.invokevirtual 49, 3) := by decide +kernel
theorem dX1_length_5 : decode cX1_length 5 = .ok (.ifCond .eq 12, 3) := by decide +kernel
theorem dX1_length_8 : decode cX1_length 8 = .ok (.aload_n 0, 1) := by decide +kernel
theorem dX1_length_9 : decode cX1_length 9 = .ok (.getfield 16, 3) := by decide +kernel
theorem dX1_length_12 : decode cX1_length 12 = .ok (.iload_n 1, 1) := by decide +kernel
theorem dX1_length_13 : decode cX1_length 13 = .ok (.iaload, 1) := by decide +kernel
theorem dX1_length_14 : decode cX1_length 14 = .ok (.goto 4, 3) := by decide +kernel
theorem dX1_length_17 : decode cX1_length 17 = .ok (.iconst (-1), 1) := by decide +kernel
theorem dX1_length_18 : decode cX1_length 18 = .ok (.ireturn, 1) := by decide +kernel
set_option maxRecDepth 20000 in
theorem ggX1_sign_X1_isRow : GoodIn wsX1_sign wsX1_isRow := goodIn_r _ [8, 9, 10, 11, 12, 13, 14, 15, 16, 17, 18] (by decide +kernel) (by decide +kernel)
set_option maxRecDepth 20000 in
theorem gX1_sign_X1_isRow : GoodIn wsX1_sign (wsV RX1 49 RX1 yX1_isRow wsX1_isRow) := goodIn_app (goodIn_of _ (by decide +kernel)) ggX1_sign_X1_isRow
theorem dX1_sign_0 : decode cX1_sign 0 = .ok (.aload_n 0, 1) := by decide +kernel
theorem dX1_sign_1 : decode cX1_sign 1 = .ok (.iload_n 1, 1) := by decide +kernel
theorem dX1_sign_2 : decode cX1_sign 2 = .ok (.invokevirtual 49, 3) := by decide +kernel
theorem dX1_sign_5 : decode cX1_sign 5 = .ok (.ifCond .eq 33, 3) := by decide +kernel
theorem dX1_sign_8 : decode cX1_sign 8 = .ok (.iload_n 2, 1) := by decide +kernel
theorem dX1_sign_9 : decode cX1_sign 9 = .ok (.ifCond .lt 29, 3) := by decide +kernel
theorem dX1_sign_12 : decode cX1_sign 12 = .ok (.iload_n 2, 1) := by decide +kernel
theorem dX1_sign_13 : decode cX1_sign 13 = .ok (.aload_n 0, 1) := by decide +kernel
theorem dX1_sign_14 : decode cX1_sign 14 = .ok (.getfield 16, 3) := by decide +kernel
theorem dX1_sign_17 : decode cX1_sign 17 = .ok (.iload_n 1, 1) := by decide +kernel
theorem dX1_sign_18 : decode cX1_sign 18 = .ok (.iaload, 1) := by decide +kernel
theorem dX1_sign_19 : decode cX1_sign 19 = .ok (.if_icmp .ge 19, 3) := by decide +kernel
theorem dX1_sign_22 : decode cX1_sign 22 = .ok (.aload_n 0, 1) := by decide +kernel
theorem dX1_sign_23 : decode cX1_sign 23 = .ok (.getfield 7, 3) := by decide +kernel
theorem dX1_sign_26 : decode cX1_sign 26 = .ok (.aload_n 0, 1) := by decide +kernel
theorem dX1_sign_27 : decode cX1_sign 27 = .ok (.getfield 13, 3) := by decide +kernel
theorem dX1_sign_30 : decode cX1_sign 30 = .ok (.iload_n 1, 1) := by decide +kernel
theorem dX1_sign_31 : decode cX1_sign 31 = .ok (.iaload, 1) := by decide +kernel
theorem dX1_sign_32 : decode cX1_sign 32 = .ok (.iload_n 2, 1) := by decide +kernel
theorem dX1_sign_33 : decode cX1_sign 33 = .ok (.iadd, 1) := by decide +kernel
theorem dX1_sign_34 : decode cX1_sign 34 = .ok (.iaload, 1) := by decide +kernel
theorem dX1_sign_35 : decode cX1_sign 35 = .ok (.goto 4, 3) := by decide +kernel
theorem dX1_sign_38 : decode cX1_sign 38 = .ok (.iconst (-1), 1) := by decide +kernel
theorem dX1_sign_39 : decode cX1_sign 39 = .ok (.ireturn, 1) := by decide +kernel
theorem dX1_order_0 : decode cX1_order 0 = .ok (.iconst 0, 1) := by decide +kernel
theorem dX1_order_1 : decode cX1_order 1 = .ok (.istore_n 3, 1) := by decide +kernel
theorem dX1_order_2 : decode cX1_order 2 = .ok (.iload_n 3, 1) := by decide +kernel
theorem dX1_order_3 : decode cX1_order 3 = .ok (.aload_n 0, 1) := by decide +kernel
theorem dX1_order_4 : decode cX1_order 4 = .ok (.getfield 16, 3) := by decide +kernel
theorem dX1_order_7 : decode cX1_order 7 = .ok (.iload_n 1, 1) := by decide +kernel
theorem dX1_order_8 : decode cX1_order 8 = .ok (.iaload, 1) := by decide +kernel
theorem dX1_order_9 : decode cX1_order 9 = .ok (.if_icmp .ge 49, 3) := by decide +kernel
theorem dX1_order_12 : decode cX1_order 12 = .ok (.iload_n 3, 1) := by decide +kernel
theorem dX1_order_13 : decode cX1_order 13 = .ok (.aload_n 0, 1) := by decide +kernel
theorem dX1_order_14 : decode cX1_order 14 = .ok (.getfield 16, 3) := by decide +kernel
theorem dX1_order_17 : decode cX1_order 17 = .ok (.iload_n 2, 1) := by decide +kernel
theorem dX1_order_18 : decode cX1_order 18 = .ok (.iaload, 1) := by decide +kernel
theorem dX1_order_19 : decode cX1_order 19 = .ok (.if_icmp .ge 39, 3) := by decide +kernel
theorem dX1_order_22 : decode cX1_order 22 = .ok (.aload_n 0, 1) := by decide +kernel
theorem dX1_order_23 : decode cX1_order 23 = .ok (.getfield 7, 3) := by decide +kernel
theorem dX1_order_26 : decode cX1_order 26 = .ok (.aload_n 0, 1) := by decide +kernel
theorem dX1_order_27 : decode cX1_order 27 = .ok (.getfield 13, 3) := by decide +kernel
theorem dX1_order_30 : decode cX1_order 30 = .ok (.iload_n 1, 1) := by decide +kernel
theorem dX1_order_31 : decode cX1_order 31 = .ok (.iaload, 1) := by decide +kernel
theorem dX1_order_32 : decode cX1_order 32 = .ok (.iload_n 3, 1) := by decide +kernel
theorem dX1_order_33 : decode cX1_order 33 = .ok (.iadd, 1) := by decide +kernel
theorem dX1_order_34 : decode cX1_order 34 = .ok (.iaload, 1) := by decide +kernel
theorem dX1_order_35 : decode cX1_order 35 = .ok (.aload_n 0, 1) := by decide +kernel
theorem dX1_order_36 : decode cX1_order 36 = .ok (.getfield 7, 3) := by decide +kernel
theorem dX1_order_39 : decode cX1_order 39 = .ok (.aload_n 0, 1) := by decide +kernel
theorem dX1_order_40 : decode cX1_order 40 = .ok (.getfield 13, 3) := by decide +kernel
theorem dX1_order_43 : decode cX1_order 43 = .ok (.iload_n 2, 1) := by decide +kernel
theorem dX1_order_44 : decode cX1_order 44 = .ok (.iaload, 1) := by decide +kernel
theorem dX1_order_45 : decode cX1_order 45 = .ok (.iload_n 3, 1) := by decide +kernel
theorem dX1_order_46 : decode cX1_order 46 = .ok (.iadd, 1) := by decide +kernel
theorem dX1_order_47 : decode cX1_order 47 = .ok (.iaload, 1) := by decide +kernel
theorem dX1_order_48 : decode cX1_order 48 = .ok (.if_icmp .ne 10, 3) := by decide +kernel
theorem dX1_order_51 : decode cX1_order 51 = .ok (.iload_n 3, 1) := by decide +kernel
theorem dX1_order_52 : decode cX1_order 52 = .ok (.iconst 1, 1) := by decide +kernel
theorem dX1_order_53 : decode cX1_order 53 = .ok (.iadd, 1) := by decide +kernel
theorem dX1_order_54 : decode cX1_order 54 = .ok (.istore_n 3, 1) := by decide +kernel
theorem dX1_order_55 : decode cX1_order 55 = .ok (.goto (-53), 3) := by decide +kernel
theorem dX1_order_58 : decode cX1_order 58 = .ok (.iload_n 3, 1) := by decide +kernel
theorem dX1_order_59 : decode cX1_order 59 = .ok (.aload_n 0, 1) := by decide +kernel
theorem dX1_order_60 : decode cX1_order 60 = .ok (.getfield 16, 3) := by decide +kernel
theorem dX1_order_63 : decode cX1_order 63 = .ok (.iload_n 1, 1) := by decide +kernel
theorem dX1_order_64 : decode cX1_order 64 = .ok (.iaload, 1) := by decide +kernel
theorem dX1_order_65 : decode cX1_order 65 = .ok (.if_icmp .ge 19, 3) := by decide +kernel
theorem dX1_order_68 : decode cX1_order 68 = .ok (.aload_n 0, 1) := by decide +kernel
theorem dX1_order_69 : decode cX1_order 69 = .ok (.getfield 7, 3) := by decide +kernel
theorem dX1_order_72 : decode cX1_order 72 = .ok (.aload_n 0, 1) := by decide +kernel
theorem dX1_order_73 : decode cX1_order 73 = .ok (.getfield 13, 3) := by decide +kernel
theorem dX1_order_76 : decode cX1_order 76 = .ok (.iload_n 1, 1) := by decide +kernel
theorem dX1_order_77 : decode cX1_order 77 = .ok (.iaload, 1) := by decide +kernel
theorem dX1_order_78 : decode cX1_order 78 = .ok (.iload_n 3, 1) := by decide +kernel
theorem dX1_order_79 : decode cX1_order 79 = .ok (.iadd, 1) := by decide +kernel
theorem dX1_order_80 : decode cX1_order 80 = .ok (.iaload, 1) := by decide +kernel
theorem dX1_order_81 : decode cX1_order 81 = .ok (.goto 4, 3) := by decide +kernel
theorem dX1_order_84 : decode cX1_order 84 = .ok (.iconst (-1), 1) := by decide +kernel
theorem dX1_order_85 : decode cX1_order 85 = .ok (.istore 4, 2) := by decide +kernel
theorem dX1_order_87 : decode cX1_order 87 = .ok (.iload_n 3, 1) := by decide +kernel
theorem dX1_order_88 : decode cX1_order 88 = .ok (.aload_n 0, 1) := by decide +kernel
theorem dX1_order_89 : decode cX1_order 89 = .ok (.getfield 16, 3) := by decide +kernel
theorem dX1_order_92 : decode cX1_order 92 = .ok (.iload_n 2, 1) := by decide +kernel
theorem dX1_order_93 : decode cX1_order 93 = .ok (.iaload, 1) := by decide +kernel
theorem dX1_order_94 : decode cX1_order 94 = .ok (.if_icmp .ge 19, 3) := by decide +kernel
theorem dX1_order_97 : decode cX1_order 97 = .ok (.aload_n 0, 1) := by decide +kernel
theorem dX1_order_98 : decode cX1_order 98 = .ok (.getfield 7, 3) := by decide +kernel
theorem dX1_order_101 : decode cX1_order 101 = .ok (.aload_n 0, 1) := by decide +kernel
theorem dX1_order_102 : decode cX1_order 102 = .ok (.getfield 13, 3) := by decide +kernel
theorem dX1_order_105 : decode cX1_order 105 = .ok (.iload_n 2, 1) := by decide +kernel
theorem dX1_order_106 : decode cX1_order 106 = .ok (.iaload, 1) := by decide +kernel
theorem dX1_order_107 : decode cX1_order 107 = .ok (.iload_n 3, 1) := by decide +kernel
theorem dX1_order_108 : decode cX1_order 108 = .ok (.iadd, 1) := by decide +kernel
theorem dX1_order_109 : decode cX1_order 109 = .ok (.iaload, 1) := by decide +kernel
theorem dX1_order_110 : decode cX1_order 110 = .ok (.goto 4, 3) := by decide +kernel
theorem dX1_order_113 : decode cX1_order 113 = .ok (.iconst (-1), 1) := by decide +kernel
theorem dX1_order_114 : decode cX1_order 114 = .ok (.istore 5, 2) := by decide +kernel
theorem dX1_order_116 : decode cX1_order 116 = .ok (.iload 4, 2) := by decide +kernel
theorem dX1_order_118 : decode cX1_order 118 = .ok (.iload 5, 2) := by decide +kernel
theorem dX1_order_120 : decode cX1_order 120 = .ok (.if_icmp .ge 7, 3) := by decide +kernel
theorem dX1_order_123 : decode cX1_order 123 = .ok (.iconst (-1), 1) := by decide +kernel
theorem dX1_order_124 : decode cX1_order 124 = .ok (.goto 15, 3) := by decide +kernel
theorem dX1_order_127 : decode cX1_order 127 = .ok (.iload 4, 2) := by decide +kernel
theorem dX1_order_129 : decode cX1_order 129 = .ok (.iload 5, 2) := by decide +kernel
theorem dX1_order_131 : decode cX1_order 131 = .ok (.if_icmp .le 7, 3) := by decide +kernel
theorem dX1_order_134 : decode cX1_order 134 = .ok (.iconst 1, 1) := by decide +kernel
theorem dX1_order_135 : decode cX1_order 135 = .ok (.goto 4, 3) := by decide +kernel
theorem dX1_order_138 : decode cX1_order 138 = .ok (.iconst 0, 1) := by decide +kernel
theorem dX1_order_139 : decode cX1_order 139 = .ok (.ireturn, 1) := by decide +kernel
set_option maxRecDepth 20000 in
theorem ggX1_compare_X1_isRow : GoodIn wsX1_compare wsX1_isRow := goodIn_r _ [5, 6, 14, 15, 16, 17, 18, 19, 20, 21, 22] (by decide +kernel) (by decide +kernel)
set_option maxRecDepth 20000 in
theorem gX1_compare_X1_isRow : GoodIn wsX1_compare (wsV RX1 49 RX1 yX1_isRow wsX1_isRow) := goodIn_app (goodIn_of _ (by decide +kernel)) ggX1_compare_X1_isRow
set_option maxRecDepth 20000 in
theorem ggX1_compare_X1_order : GoodIn wsX1_compare wsX1_order := goodIn_r _ [10, 11, 12, 13, 14, 15, 16, 17, 18, 19, 20, 21, 22] (by decide +kernel) (by decide +kernel)
set_option maxRecDepth 20000 in
theorem gX1_compare_X1_order : GoodIn wsX1_compare (wsV RX1 53 RX1 yX1_order wsX1_order) := goodIn_app (goodIn_of _ (by decide +kernel)) ggX1_compare_X1_order
theorem dX1_compare_0 : decode cX1_compare 0 = .ok (.aload_n 0, 1) := by decide +kernel
theorem dX1_compare_1 : decode cX1_compare 1 = .ok (.iload_n 1, 1) := by decide +kernel
theorem dX1_compare_2 : decode cX1_compare 2 = .ok (.invokevirtual 49, 3) := by decide +kernel
theorem dX1_compare_5 : decode cX1_compare 5 = .ok (.ifCond .eq 20, 3) := by decide +kernel
theorem dX1_compare_8 : decode cX1_compare 8 = .ok (.aload_n 0, 1) := by decide +kernel
theorem dX1_compare_9 : decode cX1_compare 9 = .ok (.iload_n 2, 1) := by decide +kernel
theorem dX1_compare_10 : decode cX1_compare 10 = .ok (.invokevirtual 49, 3) := by decide +kernel
theorem dX1_compare_13 : decode cX1_compare 13 = .ok (.ifCond .eq 12, 3) := by decide +kernel
theorem dX1_compare_16 : decode cX1_compare 16 = .ok (.aload_n 0, 1) := by decide +kernel
theorem dX1_compare_17 : decode cX1_compare 17 = .ok (.iload_n 1, 1) := by decide +kernel
theorem dX1_compare_18 : decode cX1_compare 18 = .ok (.iload_n 2, 1) := by decide +kernel
theorem dX1_compare_19 : decode cX1_compare 19 = .ok (.invokevirtual 53, 3) := by decide +kernel
theorem dX1_compare_22 : decode cX1_compare 22 = .ok (.goto 5, 3) := by decide +kernel
theorem dX1_compare_25 : decode cX1_compare 25 = .ok (.bipush (-2), 2) := by decide +kernel
theorem dX1_compare_27 : decode cX1_compare 27 = .ok (.ireturn, 1) := by decide +kernel
theorem dX1_isIn_0 : decode cX1_isIn 0 = .ok (.iload_n 0, 1) := by decide +kernel
theorem dX1_isIn_1 : decode cX1_isIn 1 = .ok (.iload_n 1, 1) := by decide +kernel
theorem dX1_isIn_2 : decode cX1_isIn 2 = .ok (.if_icmp .lt 12, 3) := by decide +kernel
theorem dX1_isIn_5 : decode cX1_isIn 5 = .ok (.iload_n 0, 1) := by decide +kernel
theorem dX1_isIn_6 : decode cX1_isIn 6 = .ok (.iload_n 2, 1) := by decide +kernel
theorem dX1_isIn_7 : decode cX1_isIn 7 = .ok (.if_icmp .gt 7, 3) := by decide +kernel
theorem dX1_isIn_10 : decode cX1_isIn 10 = .ok (.iconst 1, 1) := by decide +kernel
theorem dX1_isIn_11 : decode cX1_isIn 11 = .ok (.goto 4, 3) := by decide +kernel
theorem dX1_isIn_14 : decode cX1_isIn 14 = .ok (.iconst 0, 1) := by decide +kernel
theorem dX1_isIn_15 : decode cX1_isIn 15 = .ok (.ireturn, 1) := by decide +kernel
set_option maxRecDepth 20000 in
theorem ggX1_isStart_X1_isIn : GoodIn wsX1_isStart wsX1_isIn := goodIn_r _ [11] (by decide +kernel) (by decide +kernel)
set_option maxRecDepth 20000 in
theorem gX1_isStart_X1_isIn : GoodIn wsX1_isStart (va_wsS RX1 57 yX1_isIn wsX1_isIn) := goodIn_app (goodIn_of _ (by decide +kernel)) ggX1_isStart_X1_isIn
theorem dX1_isStart_0 : decode cX1_isStart 0 = .ok (.iload_n 0, 1) := by decide +kernel
theorem dX1_isStart_1 : decode cX1_isStart 1 = .ok (.bipush 65, 2) := by decide +kernel
theorem dX1_isStart_3 : decode cX1_isStart 3 = .ok (.bipush 90, 2) := by decide +kernel
theorem dX1_isStart_5 : decode cX1_isStart 5 = .ok (.invokestatic 57, 3) := by decide +kernel
theorem dX1_isStart_8 : decode cX1_isStart 8 = .ok (.ifCond .ne 91, 3) := by decide +kernel
theorem dX1_isStart_11 : decode cX1_isStart 11 = .ok (.iload_n 0, 1) := by decide +kernel
theorem dX1_isStart_12 : decode cX1_isStart 12 = .ok (.bipush 97, 2) := by decide +kernel
theorem dX1_isStart_14 : decode cX1_isStart 14 = .ok (.bipush 122, 2) := by decide +kernel
theorem dX1_isStart_16 : decode cX1_isStart 16 = .ok (.invokestatic 57, 3) := by decide +kernel
theorem dX1_isStart_19 : decode cX1_isStart 19 = .ok (.ifCond .ne 80, 3) := by decide +kernel
theorem dX1_isStart_22 : decode cX1_isStart 22 = .ok (.iload_n 0, 1) := by decide +kernel
theorem dX1_isStart_23 : decode cX1_isStart 23 = .ok (.bipush 58, 2) := by decide +kernel
theorem dX1_isStart_25 : decode cX1_isStart 25 = .ok (.if_icmp .eq 74, 3) := by decide +kernel
theorem dX1_isStart_28 : decode cX1_isStart 28 = .ok (.iload_n 0, 1) := by decide +kernel
theorem dX1_isStart_29 : decode cX1_isStart 29 = .ok (.bipush 95, 2) := by decide +kernel
theorem dX1_isStart_31 : decode cX1_isStart 31 = .ok (.if_icmp .eq 68, 3) := by decide +kernel
theorem dX1_isStart_34 : decode cX1_isStart 34 = .ok (.iload_n 0, 1) := by decide +kernel
theorem dX1_isStart_35 : decode cX1_isStart 35 = .ok (.sipush 192, 3) := by decide +kernel
theorem dX1_isStart_38 : decode cX1_isStart 38 = .ok (.sipush 214, 3) := by decide +kernel
theorem dX1_isStart_41 : decode cX1_isStart 41 = .ok (.invokestatic 57, 3) := by decide +kernel
theorem dX1_isStart_44 : decode cX1_isStart 44 = .ok (.ifCond .ne 55, 3) := by decide +kernel
theorem dX1_isStart_47 : decode cX1_isStart 47 = .ok (.iload_n 0, 1) := by decide +kernel
theorem dX1_isStart_48 : decode cX1_isStart 48 = .ok (.sipush 216, 3) := by decide +kernel
theorem dX1_isStart_51 : decode cX1_isStart 51 = .ok (.sipush 246, 3) := by decide +kernel
theorem dX1_isStart_54 : decode cX1_isStart 54 = .ok (.invokestatic 57, 3) := by decide +kernel
theorem dX1_isStart_57 : decode cX1_isStart 57 = .ok (.ifCond .ne 42, 3) := by decide +kernel
theorem dX1_isStart_60 : decode cX1_isStart 60 = .ok (.iload_n 0, 1) := by decide +kernel
theorem dX1_isStart_61 : decode cX1_isStart 61 = .ok (.sipush 248, 3) := by decide +kernel
theorem dX1_isStart_64 : decode cX1_isStart 64 = .ok (.sipush 767, 3) := by decide +kernel
theorem dX1_isStart_67 : decode cX1_isStart 67 = .ok (.invokestatic 57, 3) := by decide +kernel
theorem dX1_isStart_70 : decode cX1_isStart 70 = .ok (.ifCond .ne 29, 3) := by decide +kernel
theorem dX1_isStart_73 : decode cX1_isStart 73 = .ok (.iload_n 0, 1) := by decide +kernel
theorem dX1_isStart_74 : decode cX1_isStart 74 = .ok (.sipush 880, 3) := by decide +kernel
theorem dX1_isStart_77 : decode cX1_isStart 77 = .ok (.sipush 893, 3) := by decide +kernel
theorem dX1_isStart_80 : decode cX1_isStart 80 = .ok (.invokestatic 57, 3) := by decide +kernel
theorem dX1_isStart_83 : decode cX1_isStart 83 = .ok (.ifCond .ne 16, 3) := by decide +kernel
theorem dX1_isStart_86 : decode cX1_isStart 86 = .ok (.iload_n 0, 1) := by decide +kernel
theorem dX1_isStart_87 : decode cX1_isStart 87 = .ok (.sipush 895, 3) := by decide +kernel
theorem dX1_isStart_90 : decode cX1_isStart 90 = .ok (.sipush 8191, 3) := by decide +kernel
theorem dX1_isStart_93 : decode cX1_isStart 93 = .ok (.invokestatic 57, 3) := by decide +kernel
theorem dX1_isStart_96 : decode cX1_isStart 96 = .ok (.ifCond .eq 7, 3) := by decide +kernel
theorem dX1_isStart_99 : decode cX1_isStart 99 = .ok (.iconst 1, 1) := by decide +kernel
theorem dX1_isStart_100 : decode cX1_isStart 100 = .ok (.goto 4, 3) := by decide +kernel
theorem dX1_isStart_103 : decode cX1_isStart 103 = .ok (.iconst 0, 1) := by decide +kernel
theorem dX1_isStart_104 : decode cX1_isStart 104 = .ok (.istore_n 1, 1) := by decide +kernel
theorem dX1_isStart_105 : decode cX1_isStart 105 = .ok (.iload_n 1, 1) := by decide +kernel
theorem dX1_isStart_106 : decode cX1_isStart 106 = .ok (.ifCond .ne 88, 3) := by decide +kernel
theorem dX1_isStart_109 : decode cX1_isStart 109 = .ok (.iload_n 0, 1) := by decide +kernel
theorem dX1_isStart_110 : decode cX1_isStart 110 = .ok (.sipush 8204, 3) := by decide +kernel
theorem dX1_isStart_113 : decode cX1_isStart 113 = .ok (.if_icmp .eq 81, 3) := by decide +kernel
theorem dX1_isStart_116 : decode cX1_isStart 116 = .ok (.iload_n 0, 1) := by decide +kernel
theorem dX1_isStart_117 : decode cX1_isStart 117 = .ok (.sipush 8205, 3) := by decide +kernel
theorem dX1_isStart_120 : decode cX1_isStart 120 = .ok (.if_icmp .eq 74, 3) := by decide +kernel
theorem dX1_isStart_123 : decode cX1_isStart 123 = .ok (.iload_n 0, 1) := by decide +kernel
theorem dX1_isStart_124 : decode cX1_isStart 124 = .ok (.sipush 8304, 3) := by decide +kernel
theorem dX1_isStart_127 : decode cX1_isStart 127 = .ok (.sipush 8591, 3) := by decide +kernel
theorem dX1_isStart_130 : decode cX1_isStart 130 = .ok (.invokestatic 57, 3) := by decide +kernel
theorem dX1_isStart_133 : decode cX1_isStart 133 = .ok (.ifCond .ne 61, 3) := by decide +kernel
theorem dX1_isStart_136 : decode cX1_isStart 136 = .ok (.iload_n 0, 1) := by decide +kernel
theorem dX1_isStart_137 : decode cX1_isStart 137 = .ok (.sipush 11264, 3) := by decide +kernel
theorem dX1_isStart_140 : decode cX1_isStart 140 = .ok (.sipush 12271, 3) := by decide +kernel
theorem dX1_isStart_143 : decode cX1_isStart 143 = .ok (.invokestatic 57, 3) := by decide +kernel
theorem dX1_isStart_146 : decode cX1_isStart 146 = .ok (.ifCond .ne 48, 3) := by decide +kernel
theorem dX1_isStart_149 : decode cX1_isStart 149 = .ok (.iload_n 0, 1) := by decide +kernel
theorem dX1_isStart_150 : decode cX1_isStart 150 = .ok (.sipush 12289, 3) := by decide +kernel
theorem dX1_isStart_153 : decode cX1_isStart 153 = .ok (.ldc 61, 2) := by decide +kernel
theorem dX1_isStart_155 : decode cX1_isStart 155 = .ok (.invokestatic 57, 3) := by decide +kernel
theorem dX1_isStart_158 : decode cX1_isStart 158 = .ok (.ifCond .ne 36, 3) := by decide +kernel
theorem dX1_isStart_161 : decode cX1_isStart 161 = .ok (.iload_n 0, 1) := by decide +kernel
theorem dX1_isStart_162 : decode cX1_isStart 162 = .ok (.ldc 62, 2) := by decide +kernel
theorem dX1_isStart_164 : decode cX1_isStart 164 = .ok (.ldc 63, 2) := by decide +kernel
theorem dX1_isStart_166 : decode cX1_isStart 166 = .ok (.invokestatic 57, 3) := by decide +kernel
theorem dX1_isStart_169 : decode cX1_isStart 169 = .ok (.ifCond .ne 25, 3) := by decide +kernel
theorem dX1_isStart_172 : decode cX1_isStart 172 = .ok (.iload_n 0, 1) := by decide +kernel
theorem dX1_isStart_173 : decode cX1_isStart 173 = .ok (.ldc 64, 2) := by decide +kernel
theorem dX1_isStart_175 : decode cX1_isStart 175 = .ok (.ldc 65, 2) := by decide +kernel
theorem dX1_isStart_177 : decode cX1_isStart 177 = .ok (.invokestatic 57, 3) := by decide +kernel
theorem dX1_isStart_180 : decode cX1_isStart 180 = .ok (.ifCond .ne 14, 3) := by decide +kernel
theorem dX1_isStart_183 : decode cX1_isStart 183 = .ok (.iload_n 0, 1) := by decide +kernel
theorem dX1_isStart_184 : decode cX1_isStart 184 = .ok (.ldc 66, 2) := by decide +kernel
theorem dX1_isStart_186 : decode cX1_isStart 186 = .ok (.ldc 67, 2) := by decide +kernel
theorem dX1_isStart_188 : decode cX1_isStart 188 = .ok (.invokestatic 57, 3) := by decide +kernel
theorem dX1_isStart_191 : decode cX1_isStart 191 = .ok (.ifCond .eq 7, 3) := by decide +kernel
theorem dX1_isStart_194 : decode cX1_isStart 194 = .ok (.iconst 1, 1) := by decide +kernel
theorem dX1_isStart_195 : decode cX1_isStart 195 = .ok (.goto 4, 3) := by decide +kernel
theorem dX1_isStart_198 : decode cX1_isStart 198 = .ok (.iconst 0, 1) := by decide +kernel
theorem dX1_isStart_199 : decode cX1_isStart 199 = .ok (.ireturn, 1) := by decide +kernel
set_option maxRecDepth 20000 in
theorem ggX1_colon_X1_isRow : GoodIn wsX1_colon wsX1_isRow := goodIn_r _ [8, 9, 23, 24, 25, 26, 27, 28, 29, 30, 31] (by decide +kernel) (by decide +kernel)
set_option maxRecDepth 20000 in
theorem gX1_colon_X1_isRow : GoodIn wsX1_colon (wsV RX1 49 RX1 yX1_isRow wsX1_isRow) := goodIn_app (goodIn_of _ (by decide +kernel)) ggX1_colon_X1_isRow
set_option maxRecDepth 20000 in
theorem ggX1_colon_X1_isStart : GoodIn wsX1_colon wsX1_isStart := goodIn_r _ [12, 13, 14, 15, 16, 17, 18, 19, 20, 21, 7, 22] (by decide +kernel) (by decide +kernel)
set_option maxRecDepth 20000 in
theorem gX1_colon_X1_isStart : GoodIn wsX1_colon (va_wsS RX1 68 yX1_isStart wsX1_isStart) := goodIn_app (goodIn_of _ (by decide +kernel)) ggX1_colon_X1_isStart
theorem dX1_colon_0 : decode cX1_colon 0 = .ok (.aload_n 0, 1) := by decide +kernel
theorem dX1_colon_1 : decode cX1_colon 1 = .ok (.iload_n 1, 1) := by decide +kernel
theorem dX1_colon_2 : decode cX1_colon 2 = .ok (.invokevirtual 49, 3) := by decide +kernel
theorem dX1_colon_5 : decode cX1_colon 5 = .ok (.ifCond .ne 6, 3) := by decide +kernel
theorem dX1_colon_8 : decode cX1_colon 8 = .ok (.bipush (-2), 2) := by decide +kernel
theorem dX1_colon_10 : decode cX1_colon 10 = .ok (.ireturn, 1) := by decide +kernel
theorem dX1_colon_11 : decode cX1_colon 11 = .ok (.iconst 0, 1) := by decide +kernel
theorem dX1_colon_12 : decode cX1_colon 12 = .ok (.istore_n 2, 1) := by decide +kernel
theorem dX1_colon_13 : decode cX1_colon 13 = .ok (.iconst 0, 1) := by decide +kernel
theorem dX1_colon_14 : decode cX1_colon 14 = .ok (.istore_n 3, 1) := by decide +kernel
theorem dX1_colon_15 : decode cX1_colon 15 = .ok (.iconst 0, 1) := by decide +kernel
theorem dX1_colon_16 : decode cX1_colon 16 = .ok (.istore 4, 2) := by decide +kernel
theorem dX1_colon_18 : decode cX1_colon 18 = .ok (.iload 4, 2) := by decide +kernel
theorem dX1_colon_20 : decode cX1_colon 20 = .ok (.aload_n 0, 1) := by decide +kernel
theorem dX1_colon_21 : decode cX1_colon 21 = .ok (.getfield 16, 3) := by decide +kernel
theorem dX1_colon_24 : decode cX1_colon 24 = .ok (.iload_n 1, 1) := by decide +kernel
theorem dX1_colon_25 : decode cX1_colon 25 = .ok (.iaload, 1) := by decide +kernel
theorem dX1_colon_26 : decode cX1_colon 26 = .ok (.if_icmp .ge 60, 3) := by decide +kernel
theorem dX1_colon_29 : decode cX1_colon 29 = .ok (.aload_n 0, 1) := by decide +kernel
theorem dX1_colon_30 : decode cX1_colon 30 = .ok (.getfield 7, 3) := by decide +kernel
theorem dX1_colon_33 : decode cX1_colon 33 = .ok (.aload_n 0, 1) := by decide +kernel
theorem dX1_colon_34 : decode cX1_colon 34 = .ok (.getfield 13, 3) := by decide +kernel
theorem dX1_colon_37 : decode cX1_colon 37 = .ok (.iload_n 1, 1) := by decide +kernel
theorem dX1_colon_38 : decode cX1_colon 38 = .ok (.iaload, 1) := by decide +kernel
theorem dX1_colon_39 : decode cX1_colon 39 = .ok (.iload 4, 2) := by decide +kernel
theorem dX1_colon_41 : decode cX1_colon 41 = .ok (.iadd, 1) := by decide +kernel
theorem dX1_colon_42 : decode cX1_colon 42 = .ok (.iaload, 1) := by decide +kernel
theorem dX1_colon_43 : decode cX1_colon 43 = .ok (.bipush 58, 2) := by decide +kernel
theorem dX1_colon_45 : decode cX1_colon 45 = .ok (.if_icmp .ne 7, 3) := by decide +kernel
theorem dX1_colon_48 : decode cX1_colon 48 = .ok (.iconst 1, 1) := by decide +kernel
theorem dX1_colon_49 : decode cX1_colon 49 = .ok (.goto 4, 3) := by decide +kernel
theorem dX1_colon_52 : decode cX1_colon 52 = .ok (.iconst 0, 1) := by decide +kernel
theorem dX1_colon_53 : decode cX1_colon 53 = .ok (.istore 5, 2) := by decide +kernel
theorem dX1_colon_55 : decode cX1_colon 55 = .ok (.iload 5, 2) := by decide +kernel
theorem dX1_colon_57 : decode cX1_colon 57 = .ok (.ifCond .eq 9, 3) := by decide +kernel
theorem dX1_colon_60 : decode cX1_colon 60 = .ok (.iload_n 2, 1) := by decide +kernel
theorem dX1_colon_61 : decode cX1_colon 61 = .ok (.iconst 1, 1) := by decide +kernel
theorem dX1_colon_62 : decode cX1_colon 62 = .ok (.iadd, 1) := by decide +kernel
theorem dX1_colon_63 : decode cX1_colon 63 = .ok (.goto 4, 3) := by decide +kernel
theorem dX1_colon_66 : decode cX1_colon 66 = .ok (.iload_n 2, 1) := by decide +kernel
theorem dX1_colon_67 : decode cX1_colon 67 = .ok (.istore_n 2, 1) := by decide +kernel
theorem dX1_colon_68 : decode cX1_colon 68 = .ok (.iload 5, 2) := by decide +kernel
theorem dX1_colon_70 : decode cX1_colon 70 = .ok (.ifCond .eq 8, 3) := by decide +kernel
theorem dX1_colon_73 : decode cX1_colon 73 = .ok (.iload 4, 2) := by decide +kernel
theorem dX1_colon_75 : decode cX1_colon 75 = .ok (.goto 4, 3) := by decide +kernel
theorem dX1_colon_78 : decode cX1_colon 78 = .ok (.iload_n 3, 1) := by decide +kernel
theorem dX1_colon_79 : decode cX1_colon 79 = .ok (.istore_n 3, 1) := by decide +kernel
theorem dX1_colon_80 : decode cX1_colon 80 = .ok (.iinc 4 1, 3) := by decide +kernel
theorem dX1_colon_83 : decode cX1_colon 83 = .ok (.goto (-65), 3) := by decide +kernel
theorem dX1_colon_86 : decode cX1_colon 86 = .ok (.iload_n 2, 1) := by decide +kernel
theorem dX1_colon_87 : decode cX1_colon 87 = .ok (.ifCond .ne 5, 3) := by decide +kernel
theorem dX1_colon_90 : decode cX1_colon 90 = .ok (.iconst 0, 1) := by decide +kernel
theorem dX1_colon_91 : decode cX1_colon 91 = .ok (.ireturn, 1) := by decide +kernel
theorem dX1_colon_92 : decode cX1_colon 92 = .ok (.iload_n 2, 1) := by decide +kernel
theorem dX1_colon_93 : decode cX1_colon 93 = .ok (.iconst 1, 1) := by decide +kernel
theorem dX1_colon_94 : decode cX1_colon 94 = .ok (.if_icmp .ne 44, 3) := by decide +kernel
theorem dX1_colon_97 : decode cX1_colon 97 = .ok (.iload_n 3, 1) := by decide +kernel
theorem dX1_colon_98 : decode cX1_colon 98 = .ok (.ifCond .le 40, 3) := by decide +kernel
theorem dX1_colon_101 : decode cX1_colon 101 = .ok (.iload_n 3, 1) := by decide +kernel
theorem dX1_colon_102 : decode cX1_colon 102 = .ok (.iconst 1, 1) := by decide +kernel
theorem dX1_colon_103 : decode cX1_colon 103 = .ok (.iadd, 1) := by decide +kernel
theorem dX1_colon_104 : decode cX1_colon 104 = .ok (.aload_n 0, 1) := by decide +kernel
theorem dX1_colon_105 : decode cX1_colon 105 = .ok (.getfield 16, 3) := by decide +kernel
theorem dX1_colon_108 : decode cX1_colon 108 = .ok (.iload_n 1, 1) := by decide +kernel
theorem dX1_colon_109 : decode cX1_colon 109 = .ok (.iaload, 1) := by decide +kernel
theorem dX1_colon_110 : decode cX1_colon 110 = .ok (.if_icmp .ge 28, 3) := by decide +kernel
theorem dX1_colon_113 : decode cX1_colon 113 = .ok (.aload_n 0, 1) := by decide +kernel
theorem dX1_colon_114 : decode cX1_colon 114 = .ok (.getfield 7, 3) := by decide +kernel
theorem dX1_colon_117 : decode cX1_colon 117 = .ok (.aload_n 0, 1) := by decide +kernel
theorem dX1_colon_118 : decode cX1_colon 118 = .ok (.getfield 13, 3) := by decide +kernel
theorem dX1_colon_121 : decode cX1_colon 121 = .ok (.iload_n 1, 1) := by decide +kernel
theorem dX1_colon_122 : decode cX1_colon 122 = .ok (.iaload, 1) := by decide +kernel
theorem dX1_colon_123 : decode cX1_colon 123 = .ok (.iload_n 3, 1) := by decide +kernel
theorem dX1_colon_124 : decode cX1_colon 124 = .ok (.iadd, 1) := by decide +kernel
theorem dX1_colon_125 : decode cX1_colon 125 = .ok (.iconst 1, 1) := by decide +kernel
theorem dX1_colon_126 : decode cX1_colon 126 = .ok (.iadd, 1) := by decide +kernel
theorem dX1_colon_127 : decode cX1_colon 127 = .ok (.iaload, 1) := by decide +kernel
theorem dX1_colon_128 : decode cX1_colon 128 = .ok (.invokestatic 68, 3) := by decide +kernel
theorem dX1_colon_131 : decode cX1_colon 131 = .ok (.ifCond .eq 7, 3) := by decide +kernel
theorem dX1_colon_134 : decode cX1_colon 134 = .ok (.iconst 1, 1) := by decide +kernel
theorem dX1_colon_135 : decode cX1_colon 135 = .ok (.goto 4, 3) := by decide +kernel
theorem dX1_colon_138 : decode cX1_colon 138 = .ok (.iconst 0, 1) := by decide +kernel
theorem dX1_colon_139 : decode cX1_colon 139 = .ok (.istore 4, 2) := by decide +kernel
theorem dX1_colon_141 : decode cX1_colon 141 = .ok (.iload 4, 2) := by decide +kernel
theorem dX1_colon_143 : decode cX1_colon 143 = .ok (.ifCond .eq 7, 3) := by decide +kernel
theorem dX1_colon_146 : decode cX1_colon 146 = .ok (.iload_n 3, 1) := by decide +kernel
theorem dX1_colon_147 : decode cX1_colon 147 = .ok (.goto 4, 3) := by decide +kernel
theorem dX1_colon_150 : decode cX1_colon 150 = .ok (.iconst (-1), 1) := by decide +kernel
theorem dX1_colon_151 : decode cX1_colon 151 = .ok (.ireturn, 1) := by decide +kernel
theorem dJ9_min_7cf53_0 : decode cJ9_min_7cf53 0 = .ok (.iload_n 0, 1) := by decide +kernel
theorem dJ9_min_7cf53_1 : decode cJ9_min_7cf53 1 = .ok (.iload_n 1, 1) := by decide +kernel
theorem dJ9_min_7cf53_2 : decode cJ9_min_7cf53 2 = .ok (.if_icmp .gt 7, 3) := by decide +kernel
theorem dJ9_min_7cf53_5 : decode cJ9_min_7cf53 5 = .ok (.iload_n 0, 1) := by decide +kernel
theorem dJ9_min_7cf53_6 : decode cJ9_min_7cf53 6 = .ok (.goto 4, 3) := by decide +kernel
theorem dJ9_min_7cf53_9 : decode cJ9_min_7cf53 9 = .ok (.iload_n 1, 1) := by decide +kernel
theorem dJ9_min_7cf53_10 : decode cJ9_min_7cf53 10 = .ok (.ireturn, 1) := by decide +kernel
set_option maxRecDepth 20000 in
theorem ggL_law_X0_init : GoodIn wsL_law wsX0_init := goodIn_r _ [8, 9, 10, 11, 12, 13, 14, 15, 16, 17, 206, 207, 208, 209, 210] (by decide +kernel) (by decide +kernel)
set_option maxRecDepth 20000 in
theorem gL_law_X0_init : GoodIn wsL_law (wsX0_init) := ggL_law_X0_init
set_option maxRecDepth 20000 in
theorem ggL_law_X1_init : GoodIn wsL_law wsX1_init := goodIn_r _ [20, 21, 10, 11, 12, 22, 23, 24, 25, 26, 211, 212, 213, 214, 215, 216, 217, 218, 219] (by decide +kernel) (by decide +kernel)
set_option maxRecDepth 20000 in
theorem gL_law_X1_init : GoodIn wsL_law (wsX1_init) := ggL_law_X1_init
set_option maxRecDepth 20000 in
theorem ggL_law_X0_write : GoodIn wsL_law wsX0_write := goodIn_r _ [30, 31, 14, 13, 206, 207, 208, 209, 210] (by decide +kernel) (by decide +kernel)
set_option maxRecDepth 20000 in
theorem gL_law_X0_write : GoodIn wsL_law (wsV RL 13 RX0 yX0_write wsX0_write) := goodIn_app (goodIn_of _ (by decide +kernel)) ggL_law_X0_write
set_option maxRecDepth 20000 in
theorem ggL_law_X1_write : GoodIn wsL_law wsX1_write := goodIn_r _ [35, 36, 37, 25, 211, 212, 213, 214, 215, 216, 217, 218, 219] (by decide +kernel) (by decide +kernel)
set_option maxRecDepth 20000 in
theorem gL_law_X1_write : GoodIn wsL_law (wsV RL 17 RX1 yX1_write wsX1_write) := goodIn_app (goodIn_of _ (by decide +kernel)) ggL_law_X1_write
set_option maxRecDepth 20000 in
theorem ggL_law_X0_cut : GoodIn wsL_law wsX0_cut := goodIn_r _ [41, 14, 206, 207, 208, 209, 210] (by decide +kernel) (by decide +kernel)
set_option maxRecDepth 20000 in
theorem gL_law_X0_cut : GoodIn wsL_law (wsV RL 18 RX0 yX0_cut wsX0_cut) := goodIn_app (goodIn_of _ (by decide +kernel)) ggL_law_X0_cut
set_option maxRecDepth 20000 in
theorem ggL_law_X1_cut : GoodIn wsL_law wsX1_cut := goodIn_r _ [45, 37, 211, 212, 213, 214, 215, 216, 217, 218, 219] (by decide +kernel) (by decide +kernel)
set_option maxRecDepth 20000 in
theorem gL_law_X1_cut : GoodIn wsL_law (wsV RL 22 RX1 yX1_cut wsX1_cut) := goodIn_app (goodIn_of _ (by decide +kernel)) ggL_law_X1_cut
set_option maxRecDepth 20000 in
theorem ggL_law_X0_number : GoodIn wsL_law wsX0_number := goodIn_r _ [49, 13, 14, 50, 51, 52, 2, 53, 54, 55, 56, 57, 17, 58, 59, 60, 61, 16, 62, 63, 64, 65, 15, 66, 67, 68, 69, 70, 71, 72, 73, 74, 75, 76, 77, 206, 207, 208, 209, 210] (by decide +kernel) (by decide +kernel)
set_option maxRecDepth 20000 in
theorem gL_law_X0_number : GoodIn wsL_law (wsV RL 23 RX0 yX0_number wsX0_number) := goodIn_app (goodIn_of _ (by decide +kernel)) ggL_law_X0_number
set_option maxRecDepth 20000 in
theorem ggL_law_X1_number : GoodIn wsL_law wsX1_number := goodIn_r _ [81, 37, 82, 83, 84, 5, 85, 86, 26, 25, 87, 88, 89, 90, 91, 92, 23, 24, 22, 93, 94, 95, 96, 211, 212, 213, 214, 215, 216, 217, 218, 219] (by decide +kernel) (by decide +kernel)
set_option maxRecDepth 20000 in
theorem gL_law_X1_number : GoodIn wsL_law (wsV RL 27 RX1 yX1_number wsX1_number) := goodIn_app (goodIn_of _ (by decide +kernel)) ggL_law_X1_number
set_option maxRecDepth 20000 in
theorem ggL_law_X0_isKnown : GoodIn wsL_law wsX0_isKnown := goodIn_r _ [100, 13, 14, 54, 55, 56, 2, 57, 17, 58, 59, 60, 61, 16, 62, 63, 64, 65, 15, 206, 207, 208, 209, 210] (by decide +kernel) (by decide +kernel)
set_option maxRecDepth 20000 in
theorem gL_law_X0_isKnown : GoodIn wsL_law (wsV RL 28 RX0 yX0_isKnown wsX0_isKnown) := goodIn_app (goodIn_of _ (by decide +kernel)) ggL_law_X0_isKnown
set_option maxRecDepth 20000 in
theorem ggL_law_X1_isKnown : GoodIn wsL_law wsX1_isKnown := goodIn_r _ [104, 82, 83, 84, 5, 85, 37, 86, 26, 25, 93, 94, 95, 96, 91, 24, 22, 23, 211, 212, 213, 214, 215, 216, 217, 218, 219] (by decide +kernel) (by decide +kernel)
set_option maxRecDepth 20000 in
theorem gL_law_X1_isKnown : GoodIn wsL_law (wsV RL 32 RX1 yX1_isKnown wsX1_isKnown) := goodIn_app (goodIn_of _ (by decide +kernel)) ggL_law_X1_isKnown
set_option maxRecDepth 20000 in
theorem ggL_law_X0_take : GoodIn wsL_law wsX0_take := goodIn_r _ [108, 14, 15, 16, 13, 74, 75, 76, 77, 109, 110, 111, 2, 112, 17, 58, 59, 60, 61, 206, 207, 208, 209, 210] (by decide +kernel) (by decide +kernel)
set_option maxRecDepth 20000 in
theorem gL_law_X0_take : GoodIn wsL_law (wsV RL 33 RX0 yX0_take wsX0_take) := goodIn_app (goodIn_of _ (by decide +kernel)) ggL_law_X0_take
set_option maxRecDepth 20000 in
theorem ggL_law_X1_take : GoodIn wsL_law wsX1_take := goodIn_r _ [116, 37, 24, 25, 22, 23, 117, 118, 119, 5, 120, 91, 211, 212, 213, 214, 215, 216, 217, 218, 219] (by decide +kernel) (by decide +kernel)
set_option maxRecDepth 20000 in
theorem gL_law_X1_take : GoodIn wsL_law (wsV RL 36 RX1 yX1_take wsX1_take) := goodIn_app (goodIn_of _ (by decide +kernel)) ggL_law_X1_take
set_option maxRecDepth 20000 in
theorem ggL_law_X0_rows : GoodIn wsL_law wsX0_rows := goodIn_r _ [124, 17, 206, 207, 208, 209, 210] (by decide +kernel) (by decide +kernel)
set_option maxRecDepth 20000 in
theorem gL_law_X0_rows : GoodIn wsL_law (wsV RL 37 RX0 yX0_rows wsX0_rows) := goodIn_app (goodIn_of _ (by decide +kernel)) ggL_law_X0_rows
set_option maxRecDepth 20000 in
theorem ggL_law_X1_rows : GoodIn wsL_law wsX1_rows := goodIn_r _ [128, 91, 211, 212, 213, 214, 215, 216, 217, 218, 219] (by decide +kernel) (by decide +kernel)
set_option maxRecDepth 20000 in
theorem gL_law_X1_rows : GoodIn wsL_law (wsV RL 40 RX1 yX1_rows wsX1_rows) := goodIn_app (goodIn_of _ (by decide +kernel)) ggL_law_X1_rows
set_option maxRecDepth 20000 in
theorem ggL_law_X0_length : GoodIn wsL_law wsX0_length := goodIn_r _ [132, 109, 110, 111, 2, 112, 17, 58, 59, 60, 61, 16, 206, 207, 208, 209, 210] (by decide +kernel) (by decide +kernel)
set_option maxRecDepth 20000 in
theorem gL_law_X0_length : GoodIn wsL_law (wsV RL 41 RX0 yX0_length wsX0_length) := goodIn_app (goodIn_of _ (by decide +kernel)) ggL_law_X0_length
set_option maxRecDepth 20000 in
theorem ggL_law_X1_length : GoodIn wsL_law wsX1_length := goodIn_r _ [136, 24, 117, 118, 119, 5, 120, 91, 211, 212, 213, 214, 215, 216, 217, 218, 219] (by decide +kernel) (by decide +kernel)
set_option maxRecDepth 20000 in
theorem gL_law_X1_length : GoodIn wsL_law (wsV RL 44 RX1 yX1_length wsX1_length) := goodIn_app (goodIn_of _ (by decide +kernel)) ggL_law_X1_length
set_option maxRecDepth 20000 in
theorem ggL_law_X0_sign : GoodIn wsL_law wsX0_sign := goodIn_r _ [140, 15, 16, 109, 110, 111, 2, 112, 17, 58, 59, 60, 61, 206, 207, 208, 209, 210] (by decide +kernel) (by decide +kernel)
set_option maxRecDepth 20000 in
theorem gL_law_X0_sign : GoodIn wsL_law (wsV RL 45 RX0 yX0_sign wsX0_sign) := goodIn_app (goodIn_of _ (by decide +kernel)) ggL_law_X0_sign
set_option maxRecDepth 20000 in
theorem ggL_law_X1_sign : GoodIn wsL_law wsX1_sign := goodIn_r _ [144, 24, 22, 23, 117, 118, 119, 5, 120, 91, 211, 212, 213, 214, 215, 216, 217, 218, 219] (by decide +kernel) (by decide +kernel)
set_option maxRecDepth 20000 in
theorem gL_law_X1_sign : GoodIn wsL_law (wsV RL 48 RX1 yX1_sign wsX1_sign) := goodIn_app (goodIn_of _ (by decide +kernel)) ggL_law_X1_sign
set_option maxRecDepth 20000 in
theorem ggL_law_X0_compare : GoodIn wsL_law wsX0_compare := goodIn_r _ [148, 109, 110, 111, 2, 112, 17, 149, 150, 151, 152, 153, 154, 155, 156, 15, 16, 58, 59, 60, 61, 206, 207, 208, 209, 210] (by decide +kernel) (by decide +kernel)
set_option maxRecDepth 20000 in
theorem gL_law_X0_compare : GoodIn wsL_law (wsV RL 49 RX0 yX0_compare wsX0_compare) := goodIn_app (goodIn_of _ (by decide +kernel)) ggL_law_X0_compare
set_option maxRecDepth 20000 in
theorem ggL_law_X1_compare : GoodIn wsL_law wsX1_compare := goodIn_r _ [160, 117, 118, 119, 5, 120, 91, 161, 162, 163, 164, 24, 22, 23, 211, 212, 213, 214, 215, 216, 217, 218, 219] (by decide +kernel) (by decide +kernel)
set_option maxRecDepth 20000 in
theorem gL_law_X1_compare : GoodIn wsL_law (wsV RL 52 RX1 yX1_compare wsX1_compare) := goodIn_app (goodIn_of _ (by decide +kernel)) ggL_law_X1_compare
set_option maxRecDepth 20000 in
theorem ggL_law_X0_colon : GoodIn wsL_law wsX0_colon := goodIn_r _ [168, 16, 15, 109, 110, 111, 2, 112, 17, 169, 170, 171, 172, 173, 174, 175, 176, 206, 207, 208, 209, 210] (by decide +kernel) (by decide +kernel)
set_option maxRecDepth 20000 in
theorem gL_law_X0_colon : GoodIn wsL_law (wsV RL 53 RX0 yX0_colon wsX0_colon) := goodIn_app (goodIn_of _ (by decide +kernel)) ggL_law_X0_colon
set_option maxRecDepth 20000 in
theorem ggL_law_X1_colon : GoodIn wsL_law wsX1_colon := goodIn_r _ [180, 24, 22, 23, 117, 118, 119, 5, 120, 91, 181, 182, 183, 184, 185, 186, 187, 188, 189, 190, 191, 192, 193, 211, 212, 213, 214, 215, 216, 217, 218, 219] (by decide +kernel) (by decide +kernel)
set_option maxRecDepth 20000 in
theorem gL_law_X1_colon : GoodIn wsL_law (wsV RL 56 RX1 yX1_colon wsX1_colon) := goodIn_app (goodIn_of _ (by decide +kernel)) ggL_law_X1_colon
set_option maxRecDepth 20000 in
theorem ggL_law_X0_part : GoodIn wsL_law wsX0_part := goodIn_r _ [197, 15, 16, 109, 110, 111, 2, 112, 17, 58, 59, 60, 61, 50, 51, 52, 53, 54, 55, 56, 57, 62, 63, 64, 65, 66, 67, 68, 69, 70, 71, 72, 73, 74, 75, 76, 77, 206, 207, 208, 209, 210] (by decide +kernel) (by decide +kernel)
set_option maxRecDepth 20000 in
theorem gL_law_X0_part : GoodIn wsL_law (wsV RL 57 RX0 yX0_part wsX0_part) := goodIn_app (goodIn_of _ (by decide +kernel)) ggL_law_X0_part
set_option maxRecDepth 20000 in
theorem ggL_law_X0_next : GoodIn wsL_law wsX0_next := goodIn_r _ [201, 17, 109, 110, 111, 2, 112, 149, 150, 151, 152, 153, 154, 155, 156, 15, 16, 58, 59, 60, 61, 206, 207, 208, 209, 210] (by decide +kernel) (by decide +kernel)
set_option maxRecDepth 20000 in
theorem gL_law_X0_next : GoodIn wsL_law (wsV RL 62 RX0 yX0_next wsX0_next) := goodIn_app (goodIn_of _ (by decide +kernel)) ggL_law_X0_next
set_option maxRecDepth 20000 in
theorem ggL_law_X0_clear : GoodIn wsL_law wsX0_clear := goodIn_r _ [205, 17, 206, 207, 208, 209, 210] (by decide +kernel) (by decide +kernel)
set_option maxRecDepth 20000 in
theorem gL_law_X0_clear : GoodIn wsL_law (wsV RL 66 RX0 yX0_clear wsX0_clear) := goodIn_app (goodIn_of _ (by decide +kernel)) ggL_law_X0_clear
