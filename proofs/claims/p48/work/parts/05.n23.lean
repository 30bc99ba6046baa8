theorem dX0_init_0 : decode cX0_init 0 = .ok (.aload_n 0, 1) := by decide +kernel
theorem dX0_init_1 : decode cX0_init 1 = .ok (.invokespecial 3, 3) := by decide +kernel
theorem dX0_init_4 : decode cX0_init 4 = .ok (.aload_n 0, 1) := by decide +kernel
theorem dX0_init_5 : decode cX0_init 5 = .ok (.bipush 80, 2) := by decide +kernel
theorem dX0_init_7 : decode cX0_init 7 = .ok (.newarray .int, 2) := by decide +kernel
theorem dX0_init_9 : decode cX0_init 9 = .ok (.putfield 9, 3) := by decide +kernel
theorem dX0_init_12 : decode cX0_init 12 = .ok (.aload_n 0, 1) := by decide +kernel
theorem dX0_init_13 : decode cX0_init 13 = .ok (.iconst 0, 1) := by decide +kernel
theorem dX0_init_14 : decode cX0_init 14 = .ok (.putfield 15, 3) := by decide +kernel
theorem dX0_init_17 : decode cX0_init 17 = .ok (.return_, 1) := by decide +kernel
theorem dX0_put_0 : decode cX0_put 0 = .ok (.aload_n 0, 1) := by decide +kernel
theorem dX0_put_1 : decode cX0_put 1 = .ok (.getfield 15, 3) := by decide +kernel
theorem dX0_put_4 : decode cX0_put 4 = .ok (.bipush 80, 2) := by decide +kernel
theorem dX0_put_6 : decode cX0_put 6 = .ok (.if_icmp .ge 23, 3) := by decide +kernel
theorem dX0_put_9 : decode cX0_put 9 = .ok (.aload_n 0, 1) := by decide +kernel
theorem dX0_put_10 : decode cX0_put 10 = .ok (.getfield 9, 3) := by decide +kernel
theorem dX0_put_13 : decode cX0_put 13 = .ok (.aload_n 0, 1) := by decide +kernel
theorem dX0_put_14 : decode cX0_put 14 = .ok (.getfield 15, 3) := by decide +kernel
theorem dX0_put_17 : decode cX0_put 17 = .ok (.iload_n 1, 1) := by decide +kernel
theorem dX0_put_18 : decode cX0_put 18 = .ok (.iastore, 1) := by decide +kernel
theorem dX0_put_19 : decode cX0_put 19 = .ok (.aload_n 0, 1) := by decide +kernel
theorem dX0_put_20 : decode cX0_put 20 = .ok (.dup, 1) := by decide +kernel
theorem dX0_put_21 : decode cX0_put 21 = .ok (.getfield 15, 3) := by decide +kernel
theorem dX0_put_24 : decode cX0_put 24 = .ok (.iconst 1, 1) := by decide +kernel
theorem dX0_put_25 : decode cX0_put 25 = .ok (.iadd, 1) := by decide +kernel
theorem dX0_put_26 : decode cX0_put 26 = .ok (.putfield 15, 3) := by decide +kernel
theorem dX0_put_29 : decode cX0_put 29 = .ok (.return_, 1) := by decide +kernel
set_option maxRecDepth 20000 in
theorem ggX0_putNumber_X0_put : GoodIn wsX0_putNumber wsX0_put := goodIn_r _ [5, 6, 7, 8, 9] (by decide +kernel) (by decide +kernel)
set_option maxRecDepth 20000 in
theorem gX0_putNumber_X0_put : GoodIn wsX0_putNumber (wsV RX0 19 RX0 yX0_put wsX0_put) := goodIn_app (goodIn_of _ (by decide +kernel)) ggX0_putNumber_X0_put
theorem dX0_putNumber_0 : decode cX0_putNumber 0 = .ok (.iload_n 1, 1) := by decide +kernel
theorem dX0_putNumber_1 : decode cX0_putNumber 1 = .ok (.bipush 10, 2) := by decide +kernel
theorem dX0_putNumber_3 : decode cX0_putNumber 3 = .ok (.if_icmp .lt 14, 3) := by decide +kernel
theorem dX0_putNumber_6 : decode cX0_putNumber 6 = .ok (.aload_n 0, 1) := by decide +kernel
theorem dX0_putNumber_7 : decode cX0_putNumber 7 = .ok (.bipush 48, 2) := by decide +kernel
theorem dX0_putNumber_9 : decode cX0_putNumber 9 = .ok (.iload_n 1, 1) := by decide +kernel
theorem dX0_putNumber_10 : decode cX0_putNumber 10 = .ok (.bipush 10, 2) := by decide +kernel
theorem dX0_putNumber_12 : decode cX0_putNumber 12 = .ok (.idiv, 1) := by decide +kernel
theorem dX0_putNumber_13 : decode cX0_putNumber 13 = .ok (.iadd, 1) := by decide +kernel
theorem dX0_putNumber_14 : decode cX0_putNumber 14 = .ok (.invokevirtual 19, 3) := by decide +kernel
theorem dX0_putNumber_17 : decode cX0_putNumber 17 = .ok (.aload_n 0, 1) := by decide +kernel
theorem dX0_putNumber_18 : decode cX0_putNumber 18 = .ok (.bipush 48, 2) := by decide +kernel
theorem dX0_putNumber_20 : decode cX0_putNumber 20 = .ok (.iload_n 1, 1) := by decide +kernel
theorem dX0_putNumber_21 : decode cX0_putNumber 21 = .ok (.bipush 10, 2) := by decide +kernel
theorem dX0_putNumber_23 : decode cX0_putNumber 23 = .ok (.irem, 1) := by decide +kernel
theorem dX0_putNumber_24 : decode cX0_putNumber 24 = .ok (.iadd, 1) := by decide +kernel
theorem dX0_putNumber_25 : decode cX0_putNumber 25 = .ok (.invokevirtual 19, 3) := by decide +kernel
theorem dX0_putNumber_28 : decode cX0_putNumber 28 = .ok (.return_, 1) := by decide +kernel
set_option maxRecDepth 20000 in
theorem ggX0_firstError_X0_fits : GoodIn wsX0_firstError wsX0_fits := goodIn_r _ [6] (by decide +kernel) (by decide +kernel)
set_option maxRecDepth 20000 in
theorem gX0_firstError_X0_fits : GoodIn wsX0_firstError (va_wsS RX0 23 yX0_fits wsX0_fits) := goodIn_app (goodIn_of _ (by decide +kernel)) ggX0_firstError_X0_fits
theorem dX0_firstError_0 : decode cX0_firstError 0 = .ok (.iconst 0, 1) := by decide +kernel
theorem dX0_firstError_1 : decode cX0_firstError 1 = .ok (.istore_n 1, 1) := by decide +kernel
theorem dX0_firstError_2 : decode cX0_firstError 2 = .ok (.iconst 0, 1) := by decide +kernel
theorem dX0_firstError_3 : decode cX0_firstError 3 = .ok (.istore_n 2, 1) := by decide +kernel
theorem dX0_firstError_4 : decode cX0_firstError 4 = .ok (.iconst 0, 1) := by decide +kernel
theorem dX0_firstError_5 : decode cX0_firstError 5 = .ok (.istore_n 3, 1) := by decide +kernel
theorem dX0_firstError_6 : decode cX0_firstError 6 = .ok (.iload_n 3, 1) := by decide +kernel
theorem dX0_firstError_7 : decode cX0_firstError 7 = .ok (.aload_n 0, 1) := by decide +kernel
theorem dX0_firstError_8 : decode cX0_firstError 8 = .ok (.getfield 15, 3) := by decide +kernel
theorem dX0_firstError_11 : decode cX0_firstError 11 = .ok (.if_icmp .ge 51, 3) := by decide +kernel
theorem dX0_firstError_14 : decode cX0_firstError 14 = .ok (.aload_n 0, 1) := by decide +kernel
theorem dX0_firstError_15 : decode cX0_firstError 15 = .ok (.getfield 9, 3) := by decide +kernel
theorem dX0_firstError_18 : decode cX0_firstError 18 = .ok (.iload_n 3, 1) := by decide +kernel
theorem dX0_firstError_19 : decode cX0_firstError 19 = .ok (.iaload, 1) := by decide +kernel
theorem dX0_firstError_20 : decode cX0_firstError 20 = .ok (.iload_n 1, 1) := by decide +kernel
theorem dX0_firstError_21 : decode cX0_firstError 21 = .ok (.iload_n 2, 1) := by decide +kernel
theorem dX0_firstError_22 : decode cX0_firstError 22 = .ok (.invokestatic 23, 3) := by decide +kernel
theorem dX0_firstError_25 : decode cX0_firstError 25 = .ok (.ifCond .ne 5, 3) := by decide +kernel
theorem dX0_firstError_28 : decode cX0_firstError 28 = .ok (.iload_n 3, 1) := by decide +kernel
theorem dX0_firstError_29 : decode cX0_firstError 29 = .ok (.ireturn, 1) := by decide +kernel
theorem dX0_firstError_30 : decode cX0_firstError 30 = .ok (.iload_n 1, 1) := by decide +kernel
theorem dX0_firstError_31 : decode cX0_firstError 31 = .ok (.ifCond .eq 14, 3) := by decide +kernel
theorem dX0_firstError_34 : decode cX0_firstError 34 = .ok (.aload_n 0, 1) := by decide +kernel
theorem dX0_firstError_35 : decode cX0_firstError 35 = .ok (.getfield 9, 3) := by decide +kernel
theorem dX0_firstError_38 : decode cX0_firstError 38 = .ok (.iload_n 3, 1) := by decide +kernel
theorem dX0_firstError_39 : decode cX0_firstError 39 = .ok (.iaload, 1) := by decide +kernel
theorem dX0_firstError_40 : decode cX0_firstError 40 = .ok (.bipush 46, 2) := by decide +kernel
theorem dX0_firstError_42 : decode cX0_firstError 42 = .ok (.if_icmp .ne 11, 3) := by decide +kernel
theorem dX0_firstError_45 : decode cX0_firstError 45 = .ok (.iinc 1 1, 3) := by decide +kernel
theorem dX0_firstError_48 : decode cX0_firstError 48 = .ok (.iconst 0, 1) := by decide +kernel
theorem dX0_firstError_49 : decode cX0_firstError 49 = .ok (.istore_n 2, 1) := by decide +kernel
theorem dX0_firstError_50 : decode cX0_firstError 50 = .ok (.goto 6, 3) := by decide +kernel
theorem dX0_firstError_53 : decode cX0_firstError 53 = .ok (.iinc 2 1, 3) := by decide +kernel
theorem dX0_firstError_56 : decode cX0_firstError 56 = .ok (.iinc 3 1, 3) := by decide +kernel
theorem dX0_firstError_59 : decode cX0_firstError 59 = .ok (.goto (-53), 3) := by decide +kernel
theorem dX0_firstError_62 : decode cX0_firstError 62 = .ok (.iload_n 1, 1) := by decide +kernel
theorem dX0_firstError_63 : decode cX0_firstError 63 = .ok (.iconst 3, 1) := by decide +kernel
theorem dX0_firstError_64 : decode cX0_firstError 64 = .ok (.if_icmp .ne 11, 3) := by decide +kernel
theorem dX0_firstError_67 : decode cX0_firstError 67 = .ok (.iload_n 2, 1) := by decide +kernel
theorem dX0_firstError_68 : decode cX0_firstError 68 = .ok (.ifCond .le 7, 3) := by decide +kernel
theorem dX0_firstError_71 : decode cX0_firstError 71 = .ok (.iconst (-1), 1) := by decide +kernel
theorem dX0_firstError_72 : decode cX0_firstError 72 = .ok (.goto 7, 3) := by decide +kernel
theorem dX0_firstError_75 : decode cX0_firstError 75 = .ok (.aload_n 0, 1) := by decide +kernel
theorem dX0_firstError_76 : decode cX0_firstError 76 = .ok (.getfield 15, 3) := by decide +kernel
theorem dX0_firstError_79 : decode cX0_firstError 79 = .ok (.ireturn, 1) := by decide +kernel
theorem dX0_fits_0 : decode cX0_fits 0 = .ok (.iload_n 1, 1) := by decide +kernel
theorem dX0_fits_1 : decode cX0_fits 1 = .ok (.ifCond .ne 21, 3) := by decide +kernel
theorem dX0_fits_4 : decode cX0_fits 4 = .ok (.iload_n 0, 1) := by decide +kernel
theorem dX0_fits_5 : decode cX0_fits 5 = .ok (.bipush 65, 2) := by decide +kernel
theorem dX0_fits_7 : decode cX0_fits 7 = .ok (.if_icmp .eq 9, 3) := by decide +kernel
theorem dX0_fits_10 : decode cX0_fits 10 = .ok (.iload_n 0, 1) := by decide +kernel
theorem dX0_fits_11 : decode cX0_fits 11 = .ok (.bipush 66, 2) := by decide +kernel
theorem dX0_fits_13 : decode cX0_fits 13 = .ok (.if_icmp .ne 7, 3) := by decide +kernel
theorem dX0_fits_16 : decode cX0_fits 16 = .ok (.iconst 1, 1) := by decide +kernel
theorem dX0_fits_17 : decode cX0_fits 17 = .ok (.goto 4, 3) := by decide +kernel
theorem dX0_fits_20 : decode cX0_fits 20 = .ok (.iconst 0, 1) := by decide +kernel
theorem dX0_fits_21 : decode cX0_fits 21 = .ok (.ireturn, 1) := by decide +kernel
theorem dX0_fits_22 : decode cX0_fits 22 = .ok (.iload_n 0, 1) := by decide +kernel
theorem dX0_fits_23 : decode cX0_fits 23 = .ok (.bipush 46, 2) := by decide +kernel
theorem dX0_fits_25 : decode cX0_fits 25 = .ok (.if_icmp .ne 18, 3) := by decide +kernel
theorem dX0_fits_28 : decode cX0_fits 28 = .ok (.iload_n 1, 1) := by decide +kernel
theorem dX0_fits_29 : decode cX0_fits 29 = .ok (.iconst 3, 1) := by decide +kernel
theorem dX0_fits_30 : decode cX0_fits 30 = .ok (.if_icmp .eq 11, 3) := by decide +kernel
theorem dX0_fits_33 : decode cX0_fits 33 = .ok (.iload_n 2, 1) := by decide +kernel
theorem dX0_fits_34 : decode cX0_fits 34 = .ok (.ifCond .le 7, 3) := by decide +kernel
theorem dX0_fits_37 : decode cX0_fits 37 = .ok (.iconst 1, 1) := by decide +kernel
theorem dX0_fits_38 : decode cX0_fits 38 = .ok (.goto 4, 3) := by decide +kernel
theorem dX0_fits_41 : decode cX0_fits 41 = .ok (.iconst 0, 1) := by decide +kernel
theorem dX0_fits_42 : decode cX0_fits 42 = .ok (.ireturn, 1) := by decide +kernel
theorem dX0_fits_43 : decode cX0_fits 43 = .ok (.iload_n 2, 1) := by decide +kernel
theorem dX0_fits_44 : decode cX0_fits 44 = .ok (.ifCond .ne 8, 3) := by decide +kernel
theorem dX0_fits_47 : decode cX0_fits 47 = .ok (.bipush 49, 2) := by decide +kernel
theorem dX0_fits_49 : decode cX0_fits 49 = .ok (.goto 5, 3) := by decide +kernel
theorem dX0_fits_52 : decode cX0_fits 52 = .ok (.bipush 48, 2) := by decide +kernel
theorem dX0_fits_54 : decode cX0_fits 54 = .ok (.istore_n 3, 1) := by decide +kernel
theorem dX0_fits_55 : decode cX0_fits 55 = .ok (.iload_n 1, 1) := by decide +kernel
theorem dX0_fits_56 : decode cX0_fits 56 = .ok (.iconst 3, 1) := by decide +kernel
theorem dX0_fits_57 : decode cX0_fits 57 = .ok (.if_icmp .ne 7, 3) := by decide +kernel
theorem dX0_fits_60 : decode cX0_fits 60 = .ok (.iconst 3, 1) := by decide +kernel
theorem dX0_fits_61 : decode cX0_fits 61 = .ok (.goto 4, 3) := by decide +kernel
theorem dX0_fits_64 : decode cX0_fits 64 = .ok (.iconst 2, 1) := by decide +kernel
theorem dX0_fits_65 : decode cX0_fits 65 = .ok (.istore 4, 2) := by decide +kernel
theorem dX0_fits_67 : decode cX0_fits 67 = .ok (.iload_n 0, 1) := by decide +kernel
theorem dX0_fits_68 : decode cX0_fits 68 = .ok (.iload_n 3, 1) := by decide +kernel
theorem dX0_fits_69 : decode cX0_fits 69 = .ok (.if_icmp .lt 19, 3) := by decide +kernel
theorem dX0_fits_72 : decode cX0_fits 72 = .ok (.iload_n 0, 1) := by decide +kernel
theorem dX0_fits_73 : decode cX0_fits 73 = .ok (.bipush 57, 2) := by decide +kernel
theorem dX0_fits_75 : decode cX0_fits 75 = .ok (.if_icmp .gt 13, 3) := by decide +kernel
theorem dX0_fits_78 : decode cX0_fits 78 = .ok (.iload_n 2, 1) := by decide +kernel
theorem dX0_fits_79 : decode cX0_fits 79 = .ok (.iload 4, 2) := by decide +kernel
theorem dX0_fits_81 : decode cX0_fits 81 = .ok (.if_icmp .ge 7, 3) := by decide +kernel
theorem dX0_fits_84 : decode cX0_fits 84 = .ok (.iconst 1, 1) := by decide +kernel
theorem dX0_fits_85 : decode cX0_fits 85 = .ok (.goto 4, 3) := by decide +kernel
theorem dX0_fits_88 : decode cX0_fits 88 = .ok (.iconst 0, 1) := by decide +kernel
theorem dX0_fits_89 : decode cX0_fits 89 = .ok (.ireturn, 1) := by decide +kernel
theorem dX0_town_0 : decode cX0_town 0 = .ok (.aload_n 0, 1) := by decide +kernel
theorem dX0_town_1 : decode cX0_town 1 = .ok (.getfield 15, 3) := by decide +kernel
theorem dX0_town_4 : decode cX0_town 4 = .ok (.ifCond .le 18, 3) := by decide +kernel
theorem dX0_town_7 : decode cX0_town 7 = .ok (.aload_n 0, 1) := by decide +kernel
theorem dX0_town_8 : decode cX0_town 8 = .ok (.getfield 9, 3) := by decide +kernel
theorem dX0_town_11 : decode cX0_town 11 = .ok (.iconst 0, 1) := by decide +kernel
theorem dX0_town_12 : decode cX0_town 12 = .ok (.iaload, 1) := by decide +kernel
theorem dX0_town_13 : decode cX0_town 13 = .ok (.bipush 65, 2) := by decide +kernel
theorem dX0_town_15 : decode cX0_town 15 = .ok (.if_icmp .ne 7, 3) := by decide +kernel
theorem dX0_town_18 : decode cX0_town 18 = .ok (.iconst 0, 1) := by decide +kernel
theorem dX0_town_19 : decode cX0_town 19 = .ok (.goto 4, 3) := by decide +kernel
theorem dX0_town_22 : decode cX0_town 22 = .ok (.iconst 1, 1) := by decide +kernel
theorem dX0_town_23 : decode cX0_town 23 = .ok (.ireturn, 1) := by decide +kernel
theorem dX0_number_0 : decode cX0_number 0 = .ok (.iconst 1, 1) := by decide +kernel
theorem dX0_number_1 : decode cX0_number 1 = .ok (.istore_n 2, 1) := by decide +kernel
theorem dX0_number_2 : decode cX0_number 2 = .ok (.iconst 0, 1) := by decide +kernel
theorem dX0_number_3 : decode cX0_number 3 = .ok (.istore_n 3, 1) := by decide +kernel
theorem dX0_number_4 : decode cX0_number 4 = .ok (.iconst 1, 1) := by decide +kernel
theorem dX0_number_5 : decode cX0_number 5 = .ok (.istore 4, 2) := by decide +kernel
theorem dX0_number_7 : decode cX0_number 7 = .ok (.iload 4, 2) := by decide +kernel
theorem dX0_number_9 : decode cX0_number 9 = .ok (.aload_n 0, 1) := by decide +kernel
theorem dX0_number_10 : decode cX0_number 10 = .ok (.getfield 15, 3) := by decide +kernel
theorem dX0_number_13 : decode cX0_number 13 = .ok (.if_icmp .ge 48, 3) := by decide +kernel
theorem dX0_number_16 : decode cX0_number 16 = .ok (.aload_n 0, 1) := by decide +kernel
theorem dX0_number_17 : decode cX0_number 17 = .ok (.getfield 9, 3) := by decide +kernel
theorem dX0_number_20 : decode cX0_number 20 = .ok (.iload 4, 2) := by decide +kernel
theorem dX0_number_22 : decode cX0_number 22 = .ok (.iaload, 1) := by decide +kernel
theorem dX0_number_23 : decode cX0_number 23 = .ok (.bipush 46, 2) := by decide +kernel
theorem dX0_number_25 : decode cX0_number 25 = .ok (.if_icmp .ne 9, 3) := by decide +kernel
theorem dX0_number_28 : decode cX0_number 28 = .ok (.iinc 2 1, 3) := by decide +kernel
theorem dX0_number_31 : decode cX0_number 31 = .ok (.goto 24, 3) := by decide +kernel
theorem dX0_number_34 : decode cX0_number 34 = .ok (.iload_n 2, 1) := by decide +kernel
theorem dX0_number_35 : decode cX0_number 35 = .ok (.iload_n 1, 1) := by decide +kernel
theorem dX0_number_36 : decode cX0_number 36 = .ok (.if_icmp .ne 19, 3) := by decide +kernel
theorem dX0_number_39 : decode cX0_number 39 = .ok (.iload_n 3, 1) := by decide +kernel
theorem dX0_number_40 : decode cX0_number 40 = .ok (.bipush 10, 2) := by decide +kernel
theorem dX0_number_42 : decode cX0_number 42 = .ok (.imul, 1) := by decide +kernel
theorem dX0_number_43 : decode cX0_number 43 = .ok (.aload_n 0, 1) := by decide +kernel
theorem dX0_number_44 : decode cX0_number 44 = .ok (.getfield 9, 3) := by decide +kernel
theorem dX0_number_47 : decode cX0_number 47 = .ok (.iload 4, 2) := by decide +kernel
theorem dX0_number_49 : decode cX0_number 49 = .ok (.iaload, 1) := by decide +kernel
theorem dX0_number_50 : decode cX0_number 50 = .ok (.iadd, 1) := by decide +kernel
theorem dX0_number_51 : decode cX0_number 51 = .ok (.bipush 48, 2) := by decide +kernel
theorem dX0_number_53 : decode cX0_number 53 = .ok (.isub, 1) := by decide +kernel
theorem dX0_number_54 : decode cX0_number 54 = .ok (.istore_n 3, 1) := by decide +kernel
theorem dX0_number_55 : decode cX0_number 55 = .ok (.iinc 4 1, 3) := by decide +kernel
theorem dX0_number_58 : decode cX0_number 58 = .ok (.goto (-51), 3) := by decide +kernel
theorem dX0_number_61 : decode cX0_number 61 = .ok (.iload_n 3, 1) := by decide +kernel
theorem dX0_number_62 : decode cX0_number 62 = .ok (.ireturn, 1) := by decide +kernel
theorem dX1_init_0 : decode cX1_init 0 = .ok (.aload_n 0, 1) := by decide +kernel
theorem dX1_init_1 : decode cX1_init 1 = .ok (.invokespecial 3, 3) := by decide +kernel
theorem dX1_init_4 : decode cX1_init 4 = .ok (.aload_n 0, 1) := by decide +kernel
theorem dX1_init_5 : decode cX1_init 5 = .ok (.iconst 0, 1) := by decide +kernel
theorem dX1_init_6 : decode cX1_init 6 = .ok (.putfield 9, 3) := by decide +kernel
theorem dX1_init_9 : decode cX1_init 9 = .ok (.aload_n 0, 1) := by decide +kernel
theorem dX1_init_10 : decode cX1_init 10 = .ok (.iconst 1, 1) := by decide +kernel
theorem dX1_init_11 : decode cX1_init 11 = .ok (.putfield 15, 3) := by decide +kernel
theorem dX1_init_14 : decode cX1_init 14 = .ok (.aload_n 0, 1) := by decide +kernel
theorem dX1_init_15 : decode cX1_init 15 = .ok (.iconst 1, 1) := by decide +kernel
theorem dX1_init_16 : decode cX1_init 16 = .ok (.putfield 18, 3) := by decide +kernel
theorem dX1_init_19 : decode cX1_init 19 = .ok (.aload_n 0, 1) := by decide +kernel
theorem dX1_init_20 : decode cX1_init 20 = .ok (.iconst (-1), 1) := by decide +kernel
theorem dX1_init_21 : decode cX1_init 21 = .ok (.putfield 21, 3) := by decide +kernel
theorem dX1_init_24 : decode cX1_init 24 = .ok (.return_, 1) := by decide +kernel
theorem dX1_copyFrom_0 : decode cX1_copyFrom 0 = .ok (.aload_n 0, 1) := by decide +kernel
theorem dX1_copyFrom_1 : decode cX1_copyFrom 1 = .ok (.aload_n 1, 1) := by decide +kernel
theorem dX1_copyFrom_2 : decode cX1_copyFrom 2 = .ok (.getfield 9, 3) := by decide +kernel
theorem dX1_copyFrom_5 : decode cX1_copyFrom 5 = .ok (.putfield 9, 3) := by decide +kernel
theorem dX1_copyFrom_8 : decode cX1_copyFrom 8 = .ok (.aload_n 0, 1) := by decide +kernel
theorem dX1_copyFrom_9 : decode cX1_copyFrom 9 = .ok (.aload_n 1, 1) := by decide +kernel
theorem dX1_copyFrom_10 : decode cX1_copyFrom 10 = .ok (.getfield 15, 3) := by decide +kernel
theorem dX1_copyFrom_13 : decode cX1_copyFrom 13 = .ok (.putfield 15, 3) := by decide +kernel
theorem dX1_copyFrom_16 : decode cX1_copyFrom 16 = .ok (.aload_n 0, 1) := by decide +kernel
theorem dX1_copyFrom_17 : decode cX1_copyFrom 17 = .ok (.aload_n 1, 1) := by decide +kernel
theorem dX1_copyFrom_18 : decode cX1_copyFrom 18 = .ok (.getfield 18, 3) := by decide +kernel
theorem dX1_copyFrom_21 : decode cX1_copyFrom 21 = .ok (.putfield 18, 3) := by decide +kernel
theorem dX1_copyFrom_24 : decode cX1_copyFrom 24 = .ok (.aload_n 0, 1) := by decide +kernel
theorem dX1_copyFrom_25 : decode cX1_copyFrom 25 = .ok (.aload_n 1, 1) := by decide +kernel
theorem dX1_copyFrom_26 : decode cX1_copyFrom 26 = .ok (.getfield 21, 3) := by decide +kernel
theorem dX1_copyFrom_29 : decode cX1_copyFrom 29 = .ok (.putfield 21, 3) := by decide +kernel
theorem dX1_copyFrom_32 : decode cX1_copyFrom 32 = .ok (.return_, 1) := by decide +kernel
set_option maxRecDepth 20000 in
theorem ggX2_init_X3_init : GoodIn wsX2_init wsX3_init := goodIn_r _ [21, 22, 2, 3, 23, 24, 25, 26, 27, 28, 36, 37, 38, 39, 40] (by decide +kernel) (by decide +kernel)
set_option maxRecDepth 20000 in
theorem gX2_init_X3_init : GoodIn wsX2_init (wsX3_init) := ggX2_init_X3_init
set_option maxRecDepth 20000 in
theorem ggX2_init_X1_init : GoodIn wsX2_init wsX1_init := goodIn_r _ [30, 31, 2, 3, 32, 33, 34, 35, 50, 51, 52, 53] (by decide +kernel) (by decide +kernel)
set_option maxRecDepth 20000 in
theorem gX2_init_X1_init_n48 : GoodIn wsX2_init (wsX1_init) := ggX2_init_X1_init
theorem dX2_init_0 : decode cX2_init 0 = .ok (.aload_n 0, 1) := by decide +kernel
theorem dX2_init_1 : decode cX2_init 1 = .ok (.invokespecial 3, 3) := by decide +kernel
theorem dX2_init_4 : decode cX2_init 4 = .ok (.aload_n 0, 1) := by decide +kernel
theorem dX2_init_5 : decode cX2_init 5 = .ok (.new 9, 3) := by decide +kernel
theorem dX2_init_8 : decode cX2_init 8 = .ok (.dup, 1) := by decide +kernel
theorem dX2_init_9 : decode cX2_init 9 = .ok (.iconst 0, 1) := by decide +kernel
theorem dX2_init_10 : decode cX2_init 10 = .ok (.invokespecial 11, 3) := by decide +kernel
theorem dX2_init_13 : decode cX2_init 13 = .ok (.putfield 14, 3) := by decide +kernel
theorem dX2_init_16 : decode cX2_init 16 = .ok (.aload_n 0, 1) := by decide +kernel
theorem dX2_init_17 : decode cX2_init 17 = .ok (.new 9, 3) := by decide +kernel
theorem dX2_init_20 : decode cX2_init 20 = .ok (.dup, 1) := by decide +kernel
theorem dX2_init_21 : decode cX2_init 21 = .ok (.iconst 1, 1) := by decide +kernel
theorem dX2_init_22 : decode cX2_init 22 = .ok (.invokespecial 11, 3) := by decide +kernel
theorem dX2_init_25 : decode cX2_init 25 = .ok (.putfield 20, 3) := by decide +kernel
theorem dX2_init_28 : decode cX2_init 28 = .ok (.aload_n 0, 1) := by decide +kernel
theorem dX2_init_29 : decode cX2_init 29 = .ok (.bipush 10, 2) := by decide +kernel
theorem dX2_init_31 : decode cX2_init 31 = .ok (.anewarray 23, 3) := by decide +kernel
theorem dX2_init_34 : decode cX2_init 34 = .ok (.putfield 25, 3) := by decide +kernel
theorem dX2_init_37 : decode cX2_init 37 = .ok (.aload_n 0, 1) := by decide +kernel
theorem dX2_init_38 : decode cX2_init 38 = .ok (.iconst 0, 1) := by decide +kernel
theorem dX2_init_39 : decode cX2_init 39 = .ok (.putfield 29, 3) := by decide +kernel
theorem dX2_init_42 : decode cX2_init 42 = .ok (.aload_n 0, 1) := by decide +kernel
theorem dX2_init_43 : decode cX2_init 43 = .ok (.iconst 1, 1) := by decide +kernel
theorem dX2_init_44 : decode cX2_init 44 = .ok (.putfield 33, 3) := by decide +kernel
theorem dX2_init_47 : decode cX2_init 47 = .ok (.aload_n 0, 1) := by decide +kernel
theorem dX2_init_48 : decode cX2_init 48 = .ok (.iconst 2, 1) := by decide +kernel
theorem dX2_init_49 : decode cX2_init 49 = .ok (.putfield 36, 3) := by decide +kernel
theorem dX2_init_52 : decode cX2_init 52 = .ok (.aload_n 0, 1) := by decide +kernel
theorem dX2_init_53 : decode cX2_init 53 = .ok (.iconst 0, 1) := by decide +kernel
theorem dX2_init_54 : decode cX2_init 54 = .ok (.putfield 39, 3) := by decide +kernel
theorem dX2_init_57 : decode cX2_init 57 = .ok (.aload_n 0, 1) := by decide +kernel
theorem dX2_init_58 : decode cX2_init 58 = .ok (.iconst 0, 1) := by decide +kernel
theorem dX2_init_59 : decode cX2_init 59 = .ok (.putfield 42, 3) := by decide +kernel
theorem dX2_init_62 : decode cX2_init 62 = .ok (.aload_n 0, 1) := by decide +kernel
theorem dX2_init_63 : decode cX2_init 63 = .ok (.iconst 0, 1) := by decide +kernel
theorem dX2_init_64 : decode cX2_init 64 = .ok (.putfield 45, 3) := by decide +kernel
theorem dX2_init_67 : decode cX2_init 67 = .ok (.iconst 0, 1) := by decide +kernel
theorem dX2_init_68 : decode cX2_init 68 = .ok (.istore_n 1, 1) := by decide +kernel
theorem dX2_init_69 : decode cX2_init 69 = .ok (.iload_n 1, 1) := by decide +kernel
theorem dX2_init_70 : decode cX2_init 70 = .ok (.bipush 10, 2) := by decide +kernel
theorem dX2_init_72 : decode cX2_init 72 = .ok (.if_icmp .ge 22, 3) := by decide +kernel
theorem dX2_init_75 : decode cX2_init 75 = .ok (.aload_n 0, 1) := by decide +kernel
theorem dX2_init_76 : decode cX2_init 76 = .ok (.getfield 25, 3) := by decide +kernel
theorem dX2_init_79 : decode cX2_init 79 = .ok (.iload_n 1, 1) := by decide +kernel
theorem dX2_init_80 : decode cX2_init 80 = .ok (.new 23, 3) := by decide +kernel
theorem dX2_init_83 : decode cX2_init 83 = .ok (.dup, 1) := by decide +kernel
theorem dX2_init_84 : decode cX2_init 84 = .ok (.invokespecial 48, 3) := by decide +kernel
theorem dX2_init_87 : decode cX2_init 87 = .ok (.aastore, 1) := by decide +kernel
theorem dX2_init_88 : decode cX2_init 88 = .ok (.iinc 1 1, 3) := by decide +kernel
theorem dX2_init_91 : decode cX2_init 91 = .ok (.goto (-22), 3) := by decide +kernel
theorem dX2_init_94 : decode cX2_init 94 = .ok (.return_, 1) := by decide +kernel
set_option maxRecDepth 20000 in
theorem ggX2_copyFrom_X3_copyFrom : GoodIn wsX2_copyFrom wsX3_copyFrom := goodIn_r _ [14, 15, 16, 17, 18, 37, 38, 39, 40, 41] (by decide +kernel) (by decide +kernel)
set_option maxRecDepth 20000 in
theorem gX2_copyFrom_X3_copyFrom : GoodIn wsX2_copyFrom (wsV RX2 49 RX3 yX3_copyFrom wsX3_copyFrom) := goodIn_app (goodIn_of _ (by decide +kernel)) ggX2_copyFrom_X3_copyFrom
set_option maxRecDepth 20000 in
theorem ggX2_copyFrom_X1_copyFrom : GoodIn wsX2_copyFrom wsX1_copyFrom := goodIn_r _ [23, 24, 25, 26, 27, 42, 43, 44, 45] (by decide +kernel) (by decide +kernel)
set_option maxRecDepth 20000 in
theorem gX2_copyFrom_X1_copyFrom : GoodIn wsX2_copyFrom (wsV RX2 53 RX1 yX1_copyFrom wsX1_copyFrom) := goodIn_app (goodIn_of _ (by decide +kernel)) ggX2_copyFrom_X1_copyFrom
theorem dX2_copyFrom_0 : decode cX2_copyFrom 0 = .ok (.aload_n 0, 1) := by decide +kernel
theorem dX2_copyFrom_1 : decode cX2_copyFrom 1 = .ok (.getfield 14, 3) := by decide +kernel
theorem dX2_copyFrom_4 : decode cX2_copyFrom 4 = .ok (.aload_n 1, 1) := by decide +kernel
theorem dX2_copyFrom_5 : decode cX2_copyFrom 5 = .ok (.getfield 14, 3) := by decide +kernel
theorem dX2_copyFrom_8 : decode cX2_copyFrom 8 = .ok (.invokevirtual 49, 3) := by decide +kernel
theorem dX2_copyFrom_11 : decode cX2_copyFrom 11 = .ok (.aload_n 0, 1) := by decide +kernel
theorem dX2_copyFrom_12 : decode cX2_copyFrom 12 = .ok (.getfield 20, 3) := by decide +kernel
theorem dX2_copyFrom_15 : decode cX2_copyFrom 15 = .ok (.aload_n 1, 1) := by decide +kernel
theorem dX2_copyFrom_16 : decode cX2_copyFrom 16 = .ok (.getfield 20, 3) := by decide +kernel
theorem dX2_copyFrom_19 : decode cX2_copyFrom 19 = .ok (.invokevirtual 49, 3) := by decide +kernel
theorem dX2_copyFrom_22 : decode cX2_copyFrom 22 = .ok (.iconst 0, 1) := by decide +kernel
theorem dX2_copyFrom_23 : decode cX2_copyFrom 23 = .ok (.istore_n 2, 1) := by decide +kernel
theorem dX2_copyFrom_24 : decode cX2_copyFrom 24 = .ok (.iload_n 2, 1) := by decide +kernel
theorem dX2_copyFrom_25 : decode cX2_copyFrom 25 = .ok (.bipush 10, 2) := by decide +kernel
theorem dX2_copyFrom_27 : decode cX2_copyFrom 27 = .ok (.if_icmp .ge 24, 3) := by decide +kernel
theorem dX2_copyFrom_30 : decode cX2_copyFrom 30 = .ok (.aload_n 0, 1) := by decide +kernel
theorem dX2_copyFrom_31 : decode cX2_copyFrom 31 = .ok (.getfield 25, 3) := by decide +kernel
theorem dX2_copyFrom_34 : decode cX2_copyFrom 34 = .ok (.iload_n 2, 1) := by decide +kernel
theorem dX2_copyFrom_35 : decode cX2_copyFrom 35 = .ok (.aaload, 1) := by decide +kernel
theorem dX2_copyFrom_36 : decode cX2_copyFrom 36 = .ok (.aload_n 1, 1) := by decide +kernel
theorem dX2_copyFrom_37 : decode cX2_copyFrom 37 = .ok (.getfield 25, 3) := by decide +kernel
theorem dX2_copyFrom_40 : decode cX2_copyFrom 40 = .ok (.iload_n 2, 1) := by decide +kernel
theorem dX2_copyFrom_41 : decode cX2_copyFrom 41 = .ok (.aaload, 1) := by decide +kernel
theorem dX2_copyFrom_42 : decode cX2_copyFrom 42 = .ok (.invokevirtual 53, 3) := by decide +kernel
theorem dX2_copyFrom_45 : decode cX2_copyFrom 45 = .ok (.iinc 2 1, 3) := by decide +kernel
theorem dX2_copyFrom_48 : decode cX2_copyFrom 48 = .ok (.goto (-24), 3) := by decide +kernel
theorem dX2_copyFrom_51 : decode cX2_copyFrom 51 = .ok (.aload_n 0, 1) := by decide +kernel
theorem dX2_copyFrom_52 : decode cX2_copyFrom 52 = .ok (.aload_n 1, 1) := by decide +kernel
theorem dX2_copyFrom_53 : decode cX2_copyFrom 53 = .ok (.getfield 29, 3) := by decide +kernel
theorem dX2_copyFrom_56 : decode cX2_copyFrom 56 = .ok (.putfield 29, 3) := by decide +kernel
theorem dX2_copyFrom_59 : decode cX2_copyFrom 59 = .ok (.aload_n 0, 1) := by decide +kernel
theorem dX2_copyFrom_60 : decode cX2_copyFrom 60 = .ok (.aload_n 1, 1) := by decide +kernel
theorem dX2_copyFrom_61 : decode cX2_copyFrom 61 = .ok (.getfield 33, 3) := by decide +kernel
theorem dX2_copyFrom_64 : decode cX2_copyFrom 64 = .ok (.putfield 33, 3) := by decide +kernel
theorem dX2_copyFrom_67 : decode cX2_copyFrom 67 = .ok (.aload_n 0, 1) := by decide +kernel
theorem dX2_copyFrom_68 : decode cX2_copyFrom 68 = .ok (.aload_n 1, 1) := by decide +kernel
theorem dX2_copyFrom_69 : decode cX2_copyFrom 69 = .ok (.getfield 36, 3) := by decide +kernel
theorem dX2_copyFrom_72 : decode cX2_copyFrom 72 = .ok (.putfield 36, 3) := by decide +kernel
theorem dX2_copyFrom_75 : decode cX2_copyFrom 75 = .ok (.aload_n 0, 1) := by decide +kernel
theorem dX2_copyFrom_76 : decode cX2_copyFrom 76 = .ok (.aload_n 1, 1) := by decide +kernel
theorem dX2_copyFrom_77 : decode cX2_copyFrom 77 = .ok (.getfield 39, 3) := by decide +kernel
theorem dX2_copyFrom_80 : decode cX2_copyFrom 80 = .ok (.putfield 39, 3) := by decide +kernel
theorem dX2_copyFrom_83 : decode cX2_copyFrom 83 = .ok (.aload_n 0, 1) := by decide +kernel
theorem dX2_copyFrom_84 : decode cX2_copyFrom 84 = .ok (.aload_n 1, 1) := by decide +kernel
theorem dX2_copyFrom_85 : decode cX2_copyFrom 85 = .ok (.getfield 42, 3) := by decide +kernel
theorem dX2_copyFrom_88 : decode cX2_copyFrom 88 = .ok (.putfield 42, 3) := by decide +kernel
theorem dX2_copyFrom_91 : decode cX2_copyFrom 91 = .ok (.aload_n 0, 1) := by decide +kernel
theorem dX2_copyFrom_92 : decode cX2_copyFrom 92 = .ok (.aload_n 1, 1) := by decide +kernel
theorem dX2_copyFrom_93 : decode cX2_copyFrom 93 = .ok (.getfield 45, 3) := by decide +kernel
theorem dX2_copyFrom_96 : decode cX2_copyFrom 96 = .ok (.putfield 45, 3) := by decide +kernel
theorem dX2_copyFrom_99 : decode cX2_copyFrom 99 = .ok (.return_, 1) := by decide +kernel
theorem dX2_townWith_0 : decode cX2_townWith 0 = .ok (.iload_n 1, 1) := by decide +kernel
theorem dX2_townWith_1 : decode cX2_townWith 1 = .ok (.ifCond .ne 10, 3) := by decide +kernel
theorem dX2_townWith_4 : decode cX2_townWith 4 = .ok (.aload_n 0, 1) := by decide +kernel
theorem dX2_townWith_5 : decode cX2_townWith 5 = .ok (.getfield 14, 3) := by decide +kernel
theorem dX2_townWith_8 : decode cX2_townWith 8 = .ok (.goto 7, 3) := by decide +kernel
theorem dX2_townWith_11 : decode cX2_townWith 11 = .ok (.aload_n 0, 1) := by decide +kernel
theorem dX2_townWith_12 : decode cX2_townWith 12 = .ok (.getfield 20, 3) := by decide +kernel
theorem dX2_townWith_15 : decode cX2_townWith 15 = .ok (.areturn, 1) := by decide +kernel
theorem dX2_putFeast_0 : decode cX2_putFeast 0 = .ok (.aload_n 0, 1) := by decide +kernel
theorem dX2_putFeast_1 : decode cX2_putFeast 1 = .ok (.getfield 29, 3) := by decide +kernel
theorem dX2_putFeast_4 : decode cX2_putFeast 4 = .ok (.istore 4, 2) := by decide +kernel
theorem dX2_putFeast_6 : decode cX2_putFeast 6 = .ok (.iload 4, 2) := by decide +kernel
theorem dX2_putFeast_8 : decode cX2_putFeast 8 = .ok (.bipush 10, 2) := by decide +kernel
theorem dX2_putFeast_10 : decode cX2_putFeast 10 = .ok (.if_icmp .ge 46, 3) := by decide +kernel
theorem dX2_putFeast_13 : decode cX2_putFeast 13 = .ok (.aload_n 0, 1) := by decide +kernel
theorem dX2_putFeast_14 : decode cX2_putFeast 14 = .ok (.getfield 25, 3) := by decide +kernel
theorem dX2_putFeast_17 : decode cX2_putFeast 17 = .ok (.iload 4, 2) := by decide +kernel
theorem dX2_putFeast_19 : decode cX2_putFeast 19 = .ok (.aaload, 1) := by decide +kernel
theorem dX2_putFeast_20 : decode cX2_putFeast 20 = .ok (.astore 5, 2) := by decide +kernel
theorem dX2_putFeast_22 : decode cX2_putFeast 22 = .ok (.aload 5, 2) := by decide +kernel
theorem dX2_putFeast_24 : decode cX2_putFeast 24 = .ok (.iload_n 1, 1) := by decide +kernel
theorem dX2_putFeast_25 : decode cX2_putFeast 25 = .ok (.putfield 56, 3) := by decide +kernel
theorem dX2_putFeast_28 : decode cX2_putFeast 28 = .ok (.aload 5, 2) := by decide +kernel
theorem dX2_putFeast_30 : decode cX2_putFeast 30 = .ok (.iload_n 2, 1) := by decide +kernel
theorem dX2_putFeast_31 : decode cX2_putFeast 31 = .ok (.putfield 59, 3) := by decide +kernel
theorem dX2_putFeast_34 : decode cX2_putFeast 34 = .ok (.aload 5, 2) := by decide +kernel
theorem dX2_putFeast_36 : decode cX2_putFeast 36 = .ok (.iload_n 3, 1) := by decide +kernel
theorem dX2_putFeast_37 : decode cX2_putFeast 37 = .ok (.putfield 62, 3) := by decide +kernel
theorem dX2_putFeast_40 : decode cX2_putFeast 40 = .ok (.aload 5, 2) := by decide +kernel
theorem dX2_putFeast_42 : decode cX2_putFeast 42 = .ok (.iconst (-1), 1) := by decide +kernel
theorem dX2_putFeast_43 : decode cX2_putFeast 43 = .ok (.putfield 65, 3) := by decide +kernel
theorem dX2_putFeast_46 : decode cX2_putFeast 46 = .ok (.aload_n 0, 1) := by decide +kernel
theorem dX2_putFeast_47 : decode cX2_putFeast 47 = .ok (.dup, 1) := by decide +kernel
theorem dX2_putFeast_48 : decode cX2_putFeast 48 = .ok (.getfield 29, 3) := by decide +kernel
theorem dX2_putFeast_51 : decode cX2_putFeast 51 = .ok (.iconst 1, 1) := by decide +kernel
theorem dX2_putFeast_52 : decode cX2_putFeast 52 = .ok (.iadd, 1) := by decide +kernel
theorem dX2_putFeast_53 : decode cX2_putFeast 53 = .ok (.putfield 29, 3) := by decide +kernel
theorem dX2_putFeast_56 : decode cX2_putFeast 56 = .ok (.iload 4, 2) := by decide +kernel
theorem dX2_putFeast_58 : decode cX2_putFeast 58 = .ok (.ireturn, 1) := by decide +kernel
set_option maxRecDepth 20000 in
theorem ggX2_keptIn_X2_townWith : GoodIn wsX2_keptIn wsX2_townWith := goodIn_r _ [6, 7, 8, 50, 51, 52, 53, 54, 55, 56, 57, 58] (by decide +kernel) (by decide +kernel)
set_option maxRecDepth 20000 in
theorem gX2_keptIn_X2_townWith : GoodIn wsX2_keptIn (wsV RX2 68 RX2 yX2_townWith wsX2_townWith) := goodIn_app (goodIn_of _ (by decide +kernel)) ggX2_keptIn_X2_townWith
set_option maxRecDepth 20000 in
theorem ggX2_keptIn_X3_dueIn : GoodIn wsX2_keptIn wsX3_dueIn := goodIn_r _ [13, 14, 15, 16, 12, 17, 18, 19, 20, 21, 22, 23, 24, 25, 26, 27, 28, 29, 30, 31, 32, 33, 34, 35, 36, 37, 38, 39, 40, 41, 42, 43, 44, 45, 46, 47, 48, 49, 59, 60, 61, 62, 63] (by decide +kernel) (by decide +kernel)
set_option maxRecDepth 20000 in
theorem gX2_keptIn_X3_dueIn : GoodIn wsX2_keptIn (wsV RX2 72 RX3 yX3_dueIn wsX3_dueIn) := goodIn_app (goodIn_of _ (by decide +kernel)) ggX2_keptIn_X3_dueIn
theorem dX2_keptIn_0 : decode cX2_keptIn 0 = .ok (.aload_n 0, 1) := by decide +kernel
theorem dX2_keptIn_1 : decode cX2_keptIn 1 = .ok (.aload_n 1, 1) := by decide +kernel
theorem dX2_keptIn_2 : decode cX2_keptIn 2 = .ok (.getfield 56, 3) := by decide +kernel
theorem dX2_keptIn_5 : decode cX2_keptIn 5 = .ok (.invokevirtual 68, 3) := by decide +kernel
theorem dX2_keptIn_8 : decode cX2_keptIn 8 = .ok (.aload_n 1, 1) := by decide +kernel
theorem dX2_keptIn_9 : decode cX2_keptIn 9 = .ok (.iload_n 2, 1) := by decide +kernel
theorem dX2_keptIn_10 : decode cX2_keptIn 10 = .ok (.invokevirtual 72, 3) := by decide +kernel
theorem dX2_keptIn_13 : decode cX2_keptIn 13 = .ok (.istore_n 3, 1) := by decide +kernel
theorem dX2_keptIn_14 : decode cX2_keptIn 14 = .ok (.iload_n 3, 1) := by decide +kernel
theorem dX2_keptIn_15 : decode cX2_keptIn 15 = .ok (.iconst (-1), 1) := by decide +kernel
theorem dX2_keptIn_16 : decode cX2_keptIn 16 = .ok (.if_icmp .eq 14, 3) := by decide +kernel
theorem dX2_keptIn_19 : decode cX2_keptIn 19 = .ok (.iload_n 3, 1) := by decide +kernel
theorem dX2_keptIn_20 : decode cX2_keptIn 20 = .ok (.bipush 7, 2) := by decide +kernel
theorem dX2_keptIn_22 : decode cX2_keptIn 22 = .ok (.irem, 1) := by decide +kernel
theorem dX2_keptIn_23 : decode cX2_keptIn 23 = .ok (.aload_n 1, 1) := by decide +kernel
theorem dX2_keptIn_24 : decode cX2_keptIn 24 = .ok (.getfield 65, 3) := by decide +kernel
theorem dX2_keptIn_27 : decode cX2_keptIn 27 = .ok (.if_icmp .eq 5, 3) := by decide +kernel
theorem dX2_keptIn_30 : decode cX2_keptIn 30 = .ok (.iload_n 3, 1) := by decide +kernel
theorem dX2_keptIn_31 : decode cX2_keptIn 31 = .ok (.ireturn, 1) := by decide +kernel
theorem dX2_keptIn_32 : decode cX2_keptIn 32 = .ok (.iload_n 3, 1) := by decide +kernel
theorem dX2_keptIn_33 : decode cX2_keptIn 33 = .ok (.aload_n 0, 1) := by decide +kernel
theorem dX2_keptIn_34 : decode cX2_keptIn 34 = .ok (.getfield 33, 3) := by decide +kernel
theorem dX2_keptIn_37 : decode cX2_keptIn 37 = .ok (.bipush 7, 2) := by decide +kernel
theorem dX2_keptIn_39 : decode cX2_keptIn 39 = .ok (.if_icmp .ne 7, 3) := by decide +kernel
theorem dX2_keptIn_42 : decode cX2_keptIn 42 = .ok (.iconst 1, 1) := by decide +kernel
theorem dX2_keptIn_43 : decode cX2_keptIn 43 = .ok (.goto 7, 3) := by decide +kernel
theorem dX2_keptIn_46 : decode cX2_keptIn 46 = .ok (.aload_n 0, 1) := by decide +kernel
theorem dX2_keptIn_47 : decode cX2_keptIn 47 = .ok (.getfield 33, 3) := by decide +kernel
theorem dX2_keptIn_50 : decode cX2_keptIn 50 = .ok (.iadd, 1) := by decide +kernel
theorem dX2_keptIn_51 : decode cX2_keptIn 51 = .ok (.ireturn, 1) := by decide +kernel
set_option maxRecDepth 20000 in
theorem ggX2_firstYearFor_X2_townWith : GoodIn wsX2_firstYearFor wsX2_townWith := goodIn_r _ [9, 10, 11, 29, 30, 31, 32, 33, 34, 35, 36, 37] (by decide +kernel) (by decide +kernel)
set_option maxRecDepth 20000 in
theorem gX2_firstYearFor_X2_townWith : GoodIn wsX2_firstYearFor (wsV RX2 68 RX2 yX2_townWith wsX2_townWith) := goodIn_app (goodIn_of _ (by decide +kernel)) ggX2_firstYearFor_X2_townWith
set_option maxRecDepth 20000 in
theorem ggX2_firstYearFor_X3_yearOn : GoodIn wsX2_firstYearFor wsX3_yearOn := goodIn_r _ [16, 17, 18, 19, 20, 15, 21, 22, 23, 24, 38, 39, 40, 41, 42] (by decide +kernel) (by decide +kernel)
set_option maxRecDepth 20000 in
theorem gX2_firstYearFor_X3_yearOn : GoodIn wsX2_firstYearFor (wsV RX2 82 RX3 yX3_yearOn wsX3_yearOn) := goodIn_app (goodIn_of _ (by decide +kernel)) ggX2_firstYearFor_X3_yearOn
theorem dX2_firstYearFor_0 : decode cX2_firstYearFor 0 = .ok (.aload_n 0, 1) := by decide +kernel
theorem dX2_firstYearFor_1 : decode cX2_firstYearFor 1 = .ok (.aload_n 1, 1) := by decide +kernel
theorem dX2_firstYearFor_2 : decode cX2_firstYearFor 2 = .ok (.getfield 56, 3) := by decide +kernel
theorem dX2_firstYearFor_5 : decode cX2_firstYearFor 5 = .ok (.invokevirtual 68, 3) := by decide +kernel
theorem dX2_firstYearFor_8 : decode cX2_firstYearFor 8 = .ok (.iconst 0, 1) := by decide +kernel
theorem dX2_firstYearFor_9 : decode cX2_firstYearFor 9 = .ok (.iload_n 2, 1) := by decide +kernel
theorem dX2_firstYearFor_10 : decode cX2_firstYearFor 10 = .ok (.bipush 9, 2) := by decide +kernel
theorem dX2_firstYearFor_12 : decode cX2_firstYearFor 12 = .ok (.isub, 1) := by decide +kernel
theorem dX2_firstYearFor_13 : decode cX2_firstYearFor 13 = .ok (.invokestatic 76, 3) := by decide +kernel
theorem dX2_firstYearFor_16 : decode cX2_firstYearFor 16 = .ok (.invokevirtual 82, 3) := by decide +kernel
theorem dX2_firstYearFor_19 : decode cX2_firstYearFor 19 = .ok (.ireturn, 1) := by decide +kernel
set_option maxRecDepth 20000 in
theorem ggX2_firstKept_X2_townWith : GoodIn wsX2_firstKept wsX2_townWith := goodIn_r _ [5, 6, 7, 63, 64, 65, 66, 67, 68, 69, 70, 71] (by decide +kernel) (by decide +kernel)
set_option maxRecDepth 20000 in
theorem gX2_firstKept_X2_townWith : GoodIn wsX2_firstKept (wsV RX2 68 RX2 yX2_townWith wsX2_townWith) := goodIn_app (goodIn_of _ (by decide +kernel)) ggX2_firstKept_X2_townWith
set_option maxRecDepth 20000 in
theorem ggX2_firstKept_X3_yearOn : GoodIn wsX2_firstKept wsX3_yearOn := goodIn_r _ [12, 13, 14, 15, 16, 11, 17, 18, 19, 20, 72, 73, 74, 75, 76] (by decide +kernel) (by decide +kernel)
set_option maxRecDepth 20000 in
theorem gX2_firstKept_X3_yearOn : GoodIn wsX2_firstKept (wsV RX2 82 RX3 yX3_yearOn wsX3_yearOn) := goodIn_app (goodIn_of _ (by decide +kernel)) ggX2_firstKept_X3_yearOn
set_option maxRecDepth 20000 in
theorem ggX2_firstKept_X2_firstYearFor : GoodIn wsX2_firstKept wsX2_firstYearFor := goodIn_r _ [24, 25, 26, 27, 28, 1, 2, 3, 4, 5, 6, 7, 8, 9, 10, 11, 12, 13, 14, 15, 16, 17, 18, 19, 20, 59, 60, 61, 62, 63, 64, 65, 66, 67, 68, 69, 70, 71, 72, 73, 74, 75, 76] (by decide +kernel) (by decide +kernel)
set_option maxRecDepth 20000 in
theorem gX2_firstKept_X2_firstYearFor : GoodIn wsX2_firstKept (wsV RX2 86 RX2 yX2_firstYearFor wsX2_firstYearFor) := goodIn_app (goodIn_of _ (by decide +kernel)) ggX2_firstKept_X2_firstYearFor
set_option maxRecDepth 20000 in
theorem ggX2_firstKept_X2_keptIn : GoodIn wsX2_firstKept wsX2_keptIn := goodIn_r _ [32, 33, 1, 2, 3, 4, 5, 6, 7, 34, 35, 36, 11, 37, 38, 39, 40, 41, 13, 42, 43, 44, 45, 46, 47, 48, 49, 50, 51, 52, 53, 54, 55, 56, 57, 18, 19, 20, 58, 9, 10, 12, 14, 15, 16, 17, 59, 60, 61, 62, 63, 64, 65, 66, 67, 68, 69, 70, 71, 72, 73, 74, 75, 76] (by decide +kernel) (by decide +kernel)
set_option maxRecDepth 20000 in
theorem gX2_firstKept_X2_keptIn : GoodIn wsX2_firstKept (wsV RX2 89 RX2 yX2_keptIn wsX2_keptIn) := goodIn_app (goodIn_of _ (by decide +kernel)) ggX2_firstKept_X2_keptIn
theorem dX2_firstKept_0 : decode cX2_firstKept 0 = .ok (.aload_n 0, 1) := by decide +kernel
theorem dX2_firstKept_1 : decode cX2_firstKept 1 = .ok (.aload_n 1, 1) := by decide +kernel
theorem dX2_firstKept_2 : decode cX2_firstKept 2 = .ok (.getfield 56, 3) := by decide +kernel
theorem dX2_firstKept_5 : decode cX2_firstKept 5 = .ok (.invokevirtual 68, 3) := by decide +kernel
theorem dX2_firstKept_8 : decode cX2_firstKept 8 = .ok (.iload_n 3, 1) := by decide +kernel
theorem dX2_firstKept_9 : decode cX2_firstKept 9 = .ok (.invokevirtual 82, 3) := by decide +kernel
theorem dX2_firstKept_12 : decode cX2_firstKept 12 = .ok (.istore 4, 2) := by decide +kernel
theorem dX2_firstKept_14 : decode cX2_firstKept 14 = .ok (.aload_n 0, 1) := by decide +kernel
theorem dX2_firstKept_15 : decode cX2_firstKept 15 = .ok (.aload_n 1, 1) := by decide +kernel
theorem dX2_firstKept_16 : decode cX2_firstKept 16 = .ok (.iload_n 2, 1) := by decide +kernel
theorem dX2_firstKept_17 : decode cX2_firstKept 17 = .ok (.invokevirtual 86, 3) := by decide +kernel
theorem dX2_firstKept_20 : decode cX2_firstKept 20 = .ok (.istore 5, 2) := by decide +kernel
theorem dX2_firstKept_22 : decode cX2_firstKept 22 = .ok (.iload 5, 2) := by decide +kernel
theorem dX2_firstKept_24 : decode cX2_firstKept 24 = .ok (.iload 4, 2) := by decide +kernel
theorem dX2_firstKept_26 : decode cX2_firstKept 26 = .ok (.if_icmp .gt 33, 3) := by decide +kernel
theorem dX2_firstKept_29 : decode cX2_firstKept 29 = .ok (.aload_n 0, 1) := by decide +kernel
theorem dX2_firstKept_30 : decode cX2_firstKept 30 = .ok (.aload_n 1, 1) := by decide +kernel
theorem dX2_firstKept_31 : decode cX2_firstKept 31 = .ok (.iload 5, 2) := by decide +kernel
theorem dX2_firstKept_33 : decode cX2_firstKept 33 = .ok (.invokevirtual 89, 3) := by decide +kernel
theorem dX2_firstKept_36 : decode cX2_firstKept 36 = .ok (.istore 6, 2) := by decide +kernel
theorem dX2_firstKept_38 : decode cX2_firstKept 38 = .ok (.iload 6, 2) := by decide +kernel
theorem dX2_firstKept_40 : decode cX2_firstKept 40 = .ok (.iload_n 2, 1) := by decide +kernel
theorem dX2_firstKept_41 : decode cX2_firstKept 41 = .ok (.if_icmp .lt 12, 3) := by decide +kernel
theorem dX2_firstKept_44 : decode cX2_firstKept 44 = .ok (.iload 6, 2) := by decide +kernel
theorem dX2_firstKept_46 : decode cX2_firstKept 46 = .ok (.iload_n 3, 1) := by decide +kernel
theorem dX2_firstKept_47 : decode cX2_firstKept 47 = .ok (.if_icmp .gt 6, 3) := by decide +kernel
theorem dX2_firstKept_50 : decode cX2_firstKept 50 = .ok (.iload 6, 2) := by decide +kernel
theorem dX2_firstKept_52 : decode cX2_firstKept 52 = .ok (.ireturn, 1) := by decide +kernel
theorem dX2_firstKept_53 : decode cX2_firstKept 53 = .ok (.iinc 5 1, 3) := by decide +kernel
theorem dX2_firstKept_56 : decode cX2_firstKept 56 = .ok (.goto (-34), 3) := by decide +kernel
theorem dX2_firstKept_59 : decode cX2_firstKept 59 = .ok (.iconst (-1), 1) := by decide +kernel
theorem dX2_firstKept_60 : decode cX2_firstKept 60 = .ok (.ireturn, 1) := by decide +kernel
set_option maxRecDepth 20000 in
theorem ggX2_firstMeeting_X2_townWith : GoodIn wsX2_firstMeeting wsX2_townWith := goodIn_r _ [5, 6, 7, 67, 68, 69, 70, 71, 72, 73, 74, 75] (by decide +kernel) (by decide +kernel)
set_option maxRecDepth 20000 in
theorem gX2_firstMeeting_X2_townWith : GoodIn wsX2_firstMeeting (wsV RX2 68 RX2 yX2_townWith wsX2_townWith) := goodIn_app (goodIn_of _ (by decide +kernel)) ggX2_firstMeeting_X2_townWith
set_option maxRecDepth 20000 in
theorem ggX2_firstMeeting_X3_yearOn : GoodIn wsX2_firstMeeting wsX3_yearOn := goodIn_r _ [12, 13, 14, 15, 16, 11, 17, 18, 19, 20, 76, 77, 78, 79, 80] (by decide +kernel) (by decide +kernel)
set_option maxRecDepth 20000 in
theorem gX2_firstMeeting_X3_yearOn : GoodIn wsX2_firstMeeting (wsV RX2 82 RX3 yX3_yearOn wsX3_yearOn) := goodIn_app (goodIn_of _ (by decide +kernel)) ggX2_firstMeeting_X3_yearOn
set_option maxRecDepth 20000 in
theorem ggX2_firstMeeting_X2_firstYearFor : GoodIn wsX2_firstMeeting wsX2_firstYearFor := goodIn_r _ [24, 25, 26, 27, 28, 1, 2, 3, 4, 5, 6, 7, 8, 9, 10, 11, 12, 13, 14, 15, 16, 17, 18, 19, 20, 63, 64, 65, 66, 67, 68, 69, 70, 71, 72, 73, 74, 75, 76, 77, 78, 79, 80] (by decide +kernel) (by decide +kernel)
set_option maxRecDepth 20000 in
theorem gX2_firstMeeting_X2_firstYearFor : GoodIn wsX2_firstMeeting (wsV RX2 86 RX2 yX2_firstYearFor wsX2_firstYearFor) := goodIn_app (goodIn_of _ (by decide +kernel)) ggX2_firstMeeting_X2_firstYearFor
set_option maxRecDepth 20000 in
theorem ggX2_firstMeeting_X2_keptIn : GoodIn wsX2_firstMeeting wsX2_keptIn := goodIn_r _ [32, 33, 1, 2, 3, 4, 5, 6, 7, 34, 35, 36, 11, 37, 38, 39, 40, 41, 13, 42, 43, 44, 45, 46, 47, 48, 49, 50, 51, 52, 53, 54, 55, 56, 57, 18, 19, 20, 58, 9, 10, 12, 14, 15, 16, 17, 63, 64, 65, 66, 67, 68, 69, 70, 71, 72, 73, 74, 75, 76, 77, 78, 79, 80] (by decide +kernel) (by decide +kernel)
set_option maxRecDepth 20000 in
theorem gX2_firstMeeting_X2_keptIn : GoodIn wsX2_firstMeeting (wsV RX2 89 RX2 yX2_keptIn wsX2_keptIn) := goodIn_app (goodIn_of _ (by decide +kernel)) ggX2_firstMeeting_X2_keptIn
set_option maxRecDepth 20000 in
theorem ggX2_firstMeeting_X2_firstKept : GoodIn wsX2_firstMeeting wsX2_firstKept := goodIn_r _ [62, 1, 2, 3, 4, 5, 6, 7, 8, 9, 10, 11, 12, 13, 14, 15, 16, 17, 18, 19, 20, 21, 22, 23, 24, 25, 26, 27, 28, 29, 30, 31, 32, 33, 34, 35, 36, 37, 38, 39, 40, 41, 42, 43, 44, 45, 46, 47, 48, 49, 50, 51, 52, 53, 54, 55, 56, 57, 58, 63, 64, 65, 66, 67, 68, 69, 70, 71, 72, 73, 74, 75, 76, 77, 78, 79, 80] (by decide +kernel) (by decide +kernel)
set_option maxRecDepth 20000 in
theorem gX2_firstMeeting_X2_firstKept : GoodIn wsX2_firstMeeting (wsV RX2 92 RX2 yX2_firstKept wsX2_firstKept) := goodIn_app (goodIn_of _ (by decide +kernel)) ggX2_firstMeeting_X2_firstKept
theorem dX2_firstMeeting_0 : decode cX2_firstMeeting 0 = .ok (.aload_n 0, 1) := by decide +kernel
theorem dX2_firstMeeting_1 : decode cX2_firstMeeting 1 = .ok (.aload_n 1, 1) := by decide +kernel
theorem dX2_firstMeeting_2 : decode cX2_firstMeeting 2 = .ok (.getfield 56, 3) := by decide +kernel
theorem dX2_firstMeeting_5 : decode cX2_firstMeeting 5 = .ok (.invokevirtual 68, 3) := by decide +kernel
theorem dX2_firstMeeting_8 : decode cX2_firstMeeting 8 = .ok (.iload 4, 2) := by decide +kernel
theorem dX2_firstMeeting_10 : decode cX2_firstMeeting 10 = .ok (.invokevirtual 82, 3) := by decide +kernel
theorem dX2_firstMeeting_13 : decode cX2_firstMeeting 13 = .ok (.istore 5, 2) := by decide +kernel
theorem dX2_firstMeeting_15 : decode cX2_firstMeeting 15 = .ok (.aload_n 0, 1) := by decide +kernel
theorem dX2_firstMeeting_16 : decode cX2_firstMeeting 16 = .ok (.aload_n 1, 1) := by decide +kernel
theorem dX2_firstMeeting_17 : decode cX2_firstMeeting 17 = .ok (.iload_n 3, 1) := by decide +kernel
theorem dX2_firstMeeting_18 : decode cX2_firstMeeting 18 = .ok (.invokevirtual 86, 3) := by decide +kernel
theorem dX2_firstMeeting_21 : decode cX2_firstMeeting 21 = .ok (.istore 6, 2) := by decide +kernel
theorem dX2_firstMeeting_23 : decode cX2_firstMeeting 23 = .ok (.iload 6, 2) := by decide +kernel
theorem dX2_firstMeeting_25 : decode cX2_firstMeeting 25 = .ok (.iload 5, 2) := by decide +kernel
theorem dX2_firstMeeting_27 : decode cX2_firstMeeting 27 = .ok (.if_icmp .gt 47, 3) := by decide +kernel
theorem dX2_firstMeeting_30 : decode cX2_firstMeeting 30 = .ok (.aload_n 0, 1) := by decide +kernel
theorem dX2_firstMeeting_31 : decode cX2_firstMeeting 31 = .ok (.aload_n 1, 1) := by decide +kernel
theorem dX2_firstMeeting_32 : decode cX2_firstMeeting 32 = .ok (.iload 6, 2) := by decide +kernel
theorem dX2_firstMeeting_34 : decode cX2_firstMeeting 34 = .ok (.invokevirtual 89, 3) := by decide +kernel
theorem dX2_firstMeeting_37 : decode cX2_firstMeeting 37 = .ok (.istore 7, 2) := by decide +kernel
theorem dX2_firstMeeting_39 : decode cX2_firstMeeting 39 = .ok (.iload 7, 2) := by decide +kernel
theorem dX2_firstMeeting_41 : decode cX2_firstMeeting 41 = .ok (.iload_n 3, 1) := by decide +kernel
theorem dX2_firstMeeting_42 : decode cX2_firstMeeting 42 = .ok (.if_icmp .lt 26, 3) := by decide +kernel
theorem dX2_firstMeeting_45 : decode cX2_firstMeeting 45 = .ok (.iload 7, 2) := by decide +kernel
theorem dX2_firstMeeting_47 : decode cX2_firstMeeting 47 = .ok (.iload 4, 2) := by decide +kernel
theorem dX2_firstMeeting_49 : decode cX2_firstMeeting 49 = .ok (.if_icmp .gt 19, 3) := by decide +kernel
theorem dX2_firstMeeting_52 : decode cX2_firstMeeting 52 = .ok (.aload_n 0, 1) := by decide +kernel
theorem dX2_firstMeeting_53 : decode cX2_firstMeeting 53 = .ok (.aload_n 2, 1) := by decide +kernel
theorem dX2_firstMeeting_54 : decode cX2_firstMeeting 54 = .ok (.iload 7, 2) := by decide +kernel
theorem dX2_firstMeeting_56 : decode cX2_firstMeeting 56 = .ok (.iload 7, 2) := by decide +kernel
theorem dX2_firstMeeting_58 : decode cX2_firstMeeting 58 = .ok (.invokevirtual 92, 3) := by decide +kernel
theorem dX2_firstMeeting_61 : decode cX2_firstMeeting 61 = .ok (.iconst (-1), 1) := by decide +kernel
theorem dX2_firstMeeting_62 : decode cX2_firstMeeting 62 = .ok (.if_icmp .eq 6, 3) := by decide +kernel
theorem dX2_firstMeeting_65 : decode cX2_firstMeeting 65 = .ok (.iload 7, 2) := by decide +kernel
theorem dX2_firstMeeting_67 : decode cX2_firstMeeting 67 = .ok (.ireturn, 1) := by decide +kernel
theorem dX2_firstMeeting_68 : decode cX2_firstMeeting 68 = .ok (.iinc 6 1, 3) := by decide +kernel
theorem dX2_firstMeeting_71 : decode cX2_firstMeeting 71 = .ok (.goto (-48), 3) := by decide +kernel
theorem dX2_firstMeeting_74 : decode cX2_firstMeeting 74 = .ok (.iconst (-1), 1) := by decide +kernel
theorem dX2_firstMeeting_75 : decode cX2_firstMeeting 75 = .ok (.ireturn, 1) := by decide +kernel
set_option maxRecDepth 20000 in
theorem ggX2_markFeasts_X2_townWith : GoodIn wsX2_markFeasts wsX2_townWith := goodIn_r _ [7, 8, 9, 61, 62, 63, 64, 65, 66, 67, 68, 69] (by decide +kernel) (by decide +kernel)
set_option maxRecDepth 20000 in
theorem gX2_markFeasts_X2_townWith : GoodIn wsX2_markFeasts (wsV RX2 68 RX2 yX2_townWith wsX2_townWith) := goodIn_app (goodIn_of _ (by decide +kernel)) ggX2_markFeasts_X2_townWith
set_option maxRecDepth 20000 in
theorem ggX2_markFeasts_X3_yearOn : GoodIn wsX2_markFeasts wsX3_yearOn := goodIn_r _ [14, 15, 16, 17, 18, 13, 19, 20, 21, 22, 74, 75, 76, 77, 78] (by decide +kernel) (by decide +kernel)
set_option maxRecDepth 20000 in
theorem gX2_markFeasts_X3_yearOn : GoodIn wsX2_markFeasts (wsV RX2 82 RX3 yX3_yearOn wsX3_yearOn) := goodIn_app (goodIn_of _ (by decide +kernel)) ggX2_markFeasts_X3_yearOn
set_option maxRecDepth 20000 in
theorem ggX2_markFeasts_X2_firstYearFor : GoodIn wsX2_markFeasts wsX2_firstYearFor := goodIn_r _ [26, 27, 28, 29, 30, 3, 4, 5, 6, 7, 8, 9, 10, 11, 12, 13, 14, 15, 16, 17, 18, 19, 20, 21, 22, 70, 71, 72, 73, 61, 62, 63, 64, 65, 66, 67, 68, 69, 74, 75, 76, 77, 78] (by decide +kernel) (by decide +kernel)
set_option maxRecDepth 20000 in
theorem gX2_markFeasts_X2_firstYearFor : GoodIn wsX2_markFeasts (wsV RX2 86 RX2 yX2_firstYearFor wsX2_firstYearFor) := goodIn_app (goodIn_of _ (by decide +kernel)) ggX2_markFeasts_X2_firstYearFor
set_option maxRecDepth 20000 in
theorem ggX2_markFeasts_X2_keptIn : GoodIn wsX2_markFeasts wsX2_keptIn := goodIn_r _ [34, 35, 3, 4, 5, 6, 7, 8, 9, 36, 37, 38, 13, 39, 40, 41, 42, 43, 15, 44, 45, 46, 47, 48, 49, 50, 51, 52, 53, 54, 55, 56, 57, 58, 59, 20, 21, 22, 60, 11, 12, 14, 16, 17, 18, 19, 70, 71, 72, 73, 61, 62, 63, 64, 65, 66, 67, 68, 69, 74, 75, 76, 77, 78] (by decide +kernel) (by decide +kernel)
set_option maxRecDepth 20000 in
theorem gX2_markFeasts_X2_keptIn : GoodIn wsX2_markFeasts (wsV RX2 89 RX2 yX2_keptIn wsX2_keptIn) := goodIn_app (goodIn_of _ (by decide +kernel)) ggX2_markFeasts_X2_keptIn
theorem dX2_markFeasts_0 : decode cX2_markFeasts 0 = .ok (.iconst 0, 1) := by decide +kernel
theorem dX2_markFeasts_1 : decode cX2_markFeasts 1 = .ok (.istore 4, 2) := by decide +kernel
theorem dX2_markFeasts_3 : decode cX2_markFeasts 3 = .ok (.iload 4, 2) := by decide +kernel
theorem dX2_markFeasts_5 : decode cX2_markFeasts 5 = .ok (.iload_n 3, 1) := by decide +kernel
theorem dX2_markFeasts_6 : decode cX2_markFeasts 6 = .ok (.if_icmp .ge 21, 3) := by decide +kernel
theorem dX2_markFeasts_9 : decode cX2_markFeasts 9 = .ok (.iload 4, 2) := by decide +kernel
theorem dX2_markFeasts_11 : decode cX2_markFeasts 11 = .ok (.aload_n 1, 1) := by decide +kernel
theorem dX2_markFeasts_12 : decode cX2_markFeasts 12 = .ok (.arraylength, 1) := by decide +kernel
theorem dX2_markFeasts_13 : decode cX2_markFeasts 13 = .ok (.if_icmp .ge 14, 3) := by decide +kernel
theorem dX2_markFeasts_16 : decode cX2_markFeasts 16 = .ok (.aload_n 1, 1) := by decide +kernel
theorem dX2_markFeasts_17 : decode cX2_markFeasts 17 = .ok (.iload 4, 2) := by decide +kernel
theorem dX2_markFeasts_19 : decode cX2_markFeasts 19 = .ok (.iconst 0, 1) := by decide +kernel
theorem dX2_markFeasts_20 : decode cX2_markFeasts 20 = .ok (.iastore, 1) := by decide +kernel
theorem dX2_markFeasts_21 : decode cX2_markFeasts 21 = .ok (.iinc 4 1, 3) := by decide +kernel
theorem dX2_markFeasts_24 : decode cX2_markFeasts 24 = .ok (.goto (-21), 3) := by decide +kernel
theorem dX2_markFeasts_27 : decode cX2_markFeasts 27 = .ok (.iconst 0, 1) := by decide +kernel
theorem dX2_markFeasts_28 : decode cX2_markFeasts 28 = .ok (.istore 4, 2) := by decide +kernel
theorem dX2_markFeasts_30 : decode cX2_markFeasts 30 = .ok (.iload 4, 2) := by decide +kernel
theorem dX2_markFeasts_32 : decode cX2_markFeasts 32 = .ok (.aload_n 0, 1) := by decide +kernel
theorem dX2_markFeasts_33 : decode cX2_markFeasts 33 = .ok (.getfield 29, 3) := by decide +kernel
theorem dX2_markFeasts_36 : decode cX2_markFeasts 36 = .ok (.if_icmp .ge 106, 3) := by decide +kernel
theorem dX2_markFeasts_39 : decode cX2_markFeasts 39 = .ok (.aload_n 0, 1) := by decide +kernel
theorem dX2_markFeasts_40 : decode cX2_markFeasts 40 = .ok (.aload_n 0, 1) := by decide +kernel
theorem dX2_markFeasts_41 : decode cX2_markFeasts 41 = .ok (.getfield 25, 3) := by decide +kernel
theorem dX2_markFeasts_44 : decode cX2_markFeasts 44 = .ok (.iload 4, 2) := by decide +kernel
theorem dX2_markFeasts_46 : decode cX2_markFeasts 46 = .ok (.aaload, 1) := by decide +kernel
theorem dX2_markFeasts_47 : decode cX2_markFeasts 47 = .ok (.getfield 56, 3) := by decide +kernel
theorem dX2_markFeasts_50 : decode cX2_markFeasts 50 = .ok (.invokevirtual 68, 3) := by decide +kernel
theorem dX2_markFeasts_53 : decode cX2_markFeasts 53 = .ok (.iload_n 2, 1) := by decide +kernel
theorem dX2_markFeasts_54 : decode cX2_markFeasts 54 = .ok (.iload_n 3, 1) := by decide +kernel
theorem dX2_markFeasts_55 : decode cX2_markFeasts 55 = .ok (.iadd, 1) := by decide +kernel
theorem dX2_markFeasts_56 : decode cX2_markFeasts 56 = .ok (.iconst 1, 1) := by decide +kernel
theorem dX2_markFeasts_57 : decode cX2_markFeasts 57 = .ok (.isub, 1) := by decide +kernel
theorem dX2_markFeasts_58 : decode cX2_markFeasts 58 = .ok (.invokevirtual 82, 3) := by decide +kernel
theorem dX2_markFeasts_61 : decode cX2_markFeasts 61 = .ok (.istore 5, 2) := by decide +kernel
theorem dX2_markFeasts_63 : decode cX2_markFeasts 63 = .ok (.aload_n 0, 1) := by decide +kernel
theorem dX2_markFeasts_64 : decode cX2_markFeasts 64 = .ok (.aload_n 0, 1) := by decide +kernel
theorem dX2_markFeasts_65 : decode cX2_markFeasts 65 = .ok (.getfield 25, 3) := by decide +kernel
theorem dX2_markFeasts_68 : decode cX2_markFeasts 68 = .ok (.iload 4, 2) := by decide +kernel
theorem dX2_markFeasts_70 : decode cX2_markFeasts 70 = .ok (.aaload, 1) := by decide +kernel
theorem dX2_markFeasts_71 : decode cX2_markFeasts 71 = .ok (.iload_n 2, 1) := by decide +kernel
theorem dX2_markFeasts_72 : decode cX2_markFeasts 72 = .ok (.invokevirtual 86, 3) := by decide +kernel
theorem dX2_markFeasts_75 : decode cX2_markFeasts 75 = .ok (.istore 6, 2) := by decide +kernel
theorem dX2_markFeasts_77 : decode cX2_markFeasts 77 = .ok (.iload 6, 2) := by decide +kernel
theorem dX2_markFeasts_79 : decode cX2_markFeasts 79 = .ok (.iload 5, 2) := by decide +kernel
theorem dX2_markFeasts_81 : decode cX2_markFeasts 81 = .ok (.if_icmp .gt 55, 3) := by decide +kernel
theorem dX2_markFeasts_84 : decode cX2_markFeasts 84 = .ok (.aload_n 0, 1) := by decide +kernel
theorem dX2_markFeasts_85 : decode cX2_markFeasts 85 = .ok (.aload_n 0, 1) := by decide +kernel
theorem dX2_markFeasts_86 : decode cX2_markFeasts 86 = .ok (.getfield 25, 3) := by decide +kernel
theorem dX2_markFeasts_89 : decode cX2_markFeasts 89 = .ok (.iload 4, 2) := by decide +kernel
theorem dX2_markFeasts_91 : decode cX2_markFeasts 91 = .ok (.aaload, 1) := by decide +kernel
theorem dX2_markFeasts_92 : decode cX2_markFeasts 92 = .ok (.iload 6, 2) := by decide +kernel
theorem dX2_markFeasts_94 : decode cX2_markFeasts 94 = .ok (.invokevirtual 89, 3) := by decide +kernel
theorem dX2_markFeasts_97 : decode cX2_markFeasts 97 = .ok (.iload_n 2, 1) := by decide +kernel
theorem dX2_markFeasts_98 : decode cX2_markFeasts 98 = .ok (.isub, 1) := by decide +kernel
theorem dX2_markFeasts_99 : decode cX2_markFeasts 99 = .ok (.istore 7, 2) := by decide +kernel
theorem dX2_markFeasts_101 : decode cX2_markFeasts 101 = .ok (.iload 7, 2) := by decide +kernel
theorem dX2_markFeasts_103 : decode cX2_markFeasts 103 = .ok (.ifCond .lt 27, 3) := by decide +kernel
theorem dX2_markFeasts_106 : decode cX2_markFeasts 106 = .ok (.iload 7, 2) := by decide +kernel
theorem dX2_markFeasts_108 : decode cX2_markFeasts 108 = .ok (.iload_n 3, 1) := by decide +kernel
theorem dX2_markFeasts_109 : decode cX2_markFeasts 109 = .ok (.if_icmp .ge 21, 3) := by decide +kernel
theorem dX2_markFeasts_112 : decode cX2_markFeasts 112 = .ok (.iload 7, 2) := by decide +kernel
theorem dX2_markFeasts_114 : decode cX2_markFeasts 114 = .ok (.aload_n 1, 1) := by decide +kernel
theorem dX2_markFeasts_115 : decode cX2_markFeasts 115 = .ok (.arraylength, 1) := by decide +kernel
theorem dX2_markFeasts_116 : decode cX2_markFeasts 116 = .ok (.if_icmp .ge 14, 3) := by decide +kernel
theorem dX2_markFeasts_119 : decode cX2_markFeasts 119 = .ok (.aload_n 1, 1) := by decide +kernel
theorem dX2_markFeasts_120 : decode cX2_markFeasts 120 = .ok (.iload 7, 2) := by decide +kernel
theorem dX2_markFeasts_122 : decode cX2_markFeasts 122 = .ok (.dup2, 1) := by decide +kernel
theorem dX2_markFeasts_123 : decode cX2_markFeasts 123 = .ok (.iaload, 1) := by decide +kernel
theorem dX2_markFeasts_124 : decode cX2_markFeasts 124 = .ok (.iconst 1, 1) := by decide +kernel
theorem dX2_markFeasts_125 : decode cX2_markFeasts 125 = .ok (.iload 4, 2) := by decide +kernel
theorem dX2_markFeasts_127 : decode cX2_markFeasts 127 = .ok (.ishl, 1) := by decide +kernel
theorem dX2_markFeasts_128 : decode cX2_markFeasts 128 = .ok (.ior, 1) := by decide +kernel
theorem dX2_markFeasts_129 : decode cX2_markFeasts 129 = .ok (.iastore, 1) := by decide +kernel
theorem dX2_markFeasts_130 : decode cX2_markFeasts 130 = .ok (.iinc 6 1, 3) := by decide +kernel
theorem dX2_markFeasts_133 : decode cX2_markFeasts 133 = .ok (.goto (-56), 3) := by decide +kernel
theorem dX2_markFeasts_136 : decode cX2_markFeasts 136 = .ok (.iinc 4 1, 3) := by decide +kernel
theorem dX2_markFeasts_139 : decode cX2_markFeasts 139 = .ok (.goto (-109), 3) := by decide +kernel
theorem dX2_markFeasts_142 : decode cX2_markFeasts 142 = .ok (.return_, 1) := by decide +kernel
theorem dX2_feastsOf_0 : decode cX2_feastsOf 0 = .ok (.iconst 0, 1) := by decide +kernel
theorem dX2_feastsOf_1 : decode cX2_feastsOf 1 = .ok (.istore_n 2, 1) := by decide +kernel
theorem dX2_feastsOf_2 : decode cX2_feastsOf 2 = .ok (.iconst 0, 1) := by decide +kernel
theorem dX2_feastsOf_3 : decode cX2_feastsOf 3 = .ok (.istore_n 3, 1) := by decide +kernel
theorem dX2_feastsOf_4 : decode cX2_feastsOf 4 = .ok (.iload_n 3, 1) := by decide +kernel
theorem dX2_feastsOf_5 : decode cX2_feastsOf 5 = .ok (.aload_n 0, 1) := by decide +kernel
theorem dX2_feastsOf_6 : decode cX2_feastsOf 6 = .ok (.getfield 29, 3) := by decide +kernel
theorem dX2_feastsOf_9 : decode cX2_feastsOf 9 = .ok (.if_icmp .ge 28, 3) := by decide +kernel
theorem dX2_feastsOf_12 : decode cX2_feastsOf 12 = .ok (.aload_n 0, 1) := by decide +kernel
theorem dX2_feastsOf_13 : decode cX2_feastsOf 13 = .ok (.getfield 25, 3) := by decide +kernel
theorem dX2_feastsOf_16 : decode cX2_feastsOf 16 = .ok (.iload_n 3, 1) := by decide +kernel
theorem dX2_feastsOf_17 : decode cX2_feastsOf 17 = .ok (.aaload, 1) := by decide +kernel
theorem dX2_feastsOf_18 : decode cX2_feastsOf 18 = .ok (.getfield 56, 3) := by decide +kernel
theorem dX2_feastsOf_21 : decode cX2_feastsOf 21 = .ok (.iload_n 1, 1) := by decide +kernel
theorem dX2_feastsOf_22 : decode cX2_feastsOf 22 = .ok (.if_icmp .ne 9, 3) := by decide +kernel
theorem dX2_feastsOf_25 : decode cX2_feastsOf 25 = .ok (.iload_n 2, 1) := by decide +kernel
theorem dX2_feastsOf_26 : decode cX2_feastsOf 26 = .ok (.iconst 1, 1) := by decide +kernel
theorem dX2_feastsOf_27 : decode cX2_feastsOf 27 = .ok (.iload_n 3, 1) := by decide +kernel
theorem dX2_feastsOf_28 : decode cX2_feastsOf 28 = .ok (.ishl, 1) := by decide +kernel
theorem dX2_feastsOf_29 : decode cX2_feastsOf 29 = .ok (.ior, 1) := by decide +kernel
theorem dX2_feastsOf_30 : decode cX2_feastsOf 30 = .ok (.istore_n 2, 1) := by decide +kernel
theorem dX2_feastsOf_31 : decode cX2_feastsOf 31 = .ok (.iinc 3 1, 3) := by decide +kernel
theorem dX2_feastsOf_34 : decode cX2_feastsOf 34 = .ok (.goto (-30), 3) := by decide +kernel
theorem dX2_feastsOf_37 : decode cX2_feastsOf 37 = .ok (.iload_n 2, 1) := by decide +kernel
theorem dX2_feastsOf_38 : decode cX2_feastsOf 38 = .ok (.ireturn, 1) := by decide +kernel
set_option maxRecDepth 20000 in
theorem ggX2_countQuarrels_X2_feastsOf : GoodIn wsX2_countQuarrels wsX2_feastsOf := goodIn_r _ [5, 6, 7, 8, 9, 10, 11, 12, 13, 14, 15, 16, 17, 18, 19, 20] (by decide +kernel) (by decide +kernel)
set_option maxRecDepth 20000 in
theorem gX2_countQuarrels_X2_feastsOf : GoodIn wsX2_countQuarrels (wsV RX2 96 RX2 yX2_feastsOf wsX2_feastsOf) := goodIn_app (goodIn_of _ (by decide +kernel)) ggX2_countQuarrels_X2_feastsOf
theorem dX2_countQuarrels_0 : decode cX2_countQuarrels 0 = .ok (.aload_n 0, 1) := by decide +kernel
theorem dX2_countQuarrels_1 : decode cX2_countQuarrels 1 = .ok (.iconst 0, 1) := by decide +kernel
theorem dX2_countQuarrels_2 : decode cX2_countQuarrels 2 = .ok (.invokevirtual 96, 3) := by decide +kernel
theorem dX2_countQuarrels_5 : decode cX2_countQuarrels 5 = .ok (.istore_n 3, 1) := by decide +kernel
theorem dX2_countQuarrels_6 : decode cX2_countQuarrels 6 = .ok (.aload_n 0, 1) := by decide +kernel
theorem dX2_countQuarrels_7 : decode cX2_countQuarrels 7 = .ok (.iconst 1, 1) := by decide +kernel
theorem dX2_countQuarrels_8 : decode cX2_countQuarrels 8 = .ok (.invokevirtual 96, 3) := by decide +kernel
theorem dX2_countQuarrels_11 : decode cX2_countQuarrels 11 = .ok (.istore 4, 2) := by decide +kernel
theorem dX2_countQuarrels_13 : decode cX2_countQuarrels 13 = .ok (.iconst 0, 1) := by decide +kernel
theorem dX2_countQuarrels_14 : decode cX2_countQuarrels 14 = .ok (.istore 5, 2) := by decide +kernel
theorem dX2_countQuarrels_16 : decode cX2_countQuarrels 16 = .ok (.iconst 0, 1) := by decide +kernel
theorem dX2_countQuarrels_17 : decode cX2_countQuarrels 17 = .ok (.istore 6, 2) := by decide +kernel
theorem dX2_countQuarrels_19 : decode cX2_countQuarrels 19 = .ok (.iload 6, 2) := by decide +kernel
theorem dX2_countQuarrels_21 : decode cX2_countQuarrels 21 = .ok (.iload_n 2, 1) := by decide +kernel
theorem dX2_countQuarrels_22 : decode cX2_countQuarrels 22 = .ok (.if_icmp .ge 38, 3) := by decide +kernel
theorem dX2_countQuarrels_25 : decode cX2_countQuarrels 25 = .ok (.iload 6, 2) := by decide +kernel
theorem dX2_countQuarrels_27 : decode cX2_countQuarrels 27 = .ok (.aload_n 1, 1) := by decide +kernel
theorem dX2_countQuarrels_28 : decode cX2_countQuarrels 28 = .ok (.arraylength, 1) := by decide +kernel
theorem dX2_countQuarrels_29 : decode cX2_countQuarrels 29 = .ok (.if_icmp .ge 31, 3) := by decide +kernel
theorem dX2_countQuarrels_32 : decode cX2_countQuarrels 32 = .ok (.aload_n 1, 1) := by decide +kernel
theorem dX2_countQuarrels_33 : decode cX2_countQuarrels 33 = .ok (.iload 6, 2) := by decide +kernel
theorem dX2_countQuarrels_35 : decode cX2_countQuarrels 35 = .ok (.iaload, 1) := by decide +kernel
theorem dX2_countQuarrels_36 : decode cX2_countQuarrels 36 = .ok (.iload_n 3, 1) := by decide +kernel
theorem dX2_countQuarrels_37 : decode cX2_countQuarrels 37 = .ok (.iand, 1) := by decide +kernel
theorem dX2_countQuarrels_38 : decode cX2_countQuarrels 38 = .ok (.ifCond .eq 16, 3) := by decide +kernel
theorem dX2_countQuarrels_41 : decode cX2_countQuarrels 41 = .ok (.aload_n 1, 1) := by decide +kernel
theorem dX2_countQuarrels_42 : decode cX2_countQuarrels 42 = .ok (.iload 6, 2) := by decide +kernel
theorem dX2_countQuarrels_44 : decode cX2_countQuarrels 44 = .ok (.iaload, 1) := by decide +kernel
theorem dX2_countQuarrels_45 : decode cX2_countQuarrels 45 = .ok (.iload 4, 2) := by decide +kernel
theorem dX2_countQuarrels_47 : decode cX2_countQuarrels 47 = .ok (.iand, 1) := by decide +kernel
theorem dX2_countQuarrels_48 : decode cX2_countQuarrels 48 = .ok (.ifCond .eq 6, 3) := by decide +kernel
theorem dX2_countQuarrels_51 : decode cX2_countQuarrels 51 = .ok (.iinc 5 1, 3) := by decide +kernel
theorem dX2_countQuarrels_54 : decode cX2_countQuarrels 54 = .ok (.iinc 6 1, 3) := by decide +kernel
theorem dX2_countQuarrels_57 : decode cX2_countQuarrels 57 = .ok (.goto (-38), 3) := by decide +kernel
theorem dX2_countQuarrels_60 : decode cX2_countQuarrels 60 = .ok (.iload 5, 2) := by decide +kernel
theorem dX2_countQuarrels_62 : decode cX2_countQuarrels 62 = .ok (.ireturn, 1) := by decide +kernel
set_option maxRecDepth 20000 in
theorem ggX2_countPassed_X2_feastsOf : GoodIn wsX2_countPassed wsX2_feastsOf := goodIn_r _ [9, 10, 11, 19, 20, 21, 22, 23, 24, 25, 26, 27, 33, 34, 35, 36] (by decide +kernel) (by decide +kernel)
set_option maxRecDepth 20000 in
theorem gX2_countPassed_X2_feastsOf : GoodIn wsX2_countPassed (wsV RX2 96 RX2 yX2_feastsOf wsX2_feastsOf) := goodIn_app (goodIn_of _ (by decide +kernel)) ggX2_countPassed_X2_feastsOf
set_option maxRecDepth 20000 in
theorem ggX2_countPassed_J6_bitCount_0f7a4 : GoodIn wsX2_countPassed wsJ6_bitCount_0f7a4 := goodIn_r _ [15, 16, 17, 18] (by decide +kernel) (by decide +kernel)
set_option maxRecDepth 20000 in
theorem gX2_countPassed_J6_bitCount_0f7a4 : GoodIn wsX2_countPassed (va_wsS RX2 102 yJ6_bitCount_0f7a4 wsJ6_bitCount_0f7a4) := goodIn_app (goodIn_of _ (by decide +kernel)) ggX2_countPassed_J6_bitCount_0f7a4
theorem dX2_countPassed_0 : decode cX2_countPassed 0 = .ok (.aload_n 0, 1) := by decide +kernel
theorem dX2_countPassed_1 : decode cX2_countPassed 1 = .ok (.iconst 0, 1) := by decide +kernel
theorem dX2_countPassed_2 : decode cX2_countPassed 2 = .ok (.invokevirtual 96, 3) := by decide +kernel
theorem dX2_countPassed_5 : decode cX2_countPassed 5 = .ok (.istore_n 3, 1) := by decide +kernel
theorem dX2_countPassed_6 : decode cX2_countPassed 6 = .ok (.aload_n 0, 1) := by decide +kernel
theorem dX2_countPassed_7 : decode cX2_countPassed 7 = .ok (.iconst 1, 1) := by decide +kernel
theorem dX2_countPassed_8 : decode cX2_countPassed 8 = .ok (.invokevirtual 96, 3) := by decide +kernel
theorem dX2_countPassed_11 : decode cX2_countPassed 11 = .ok (.istore 4, 2) := by decide +kernel
theorem dX2_countPassed_13 : decode cX2_countPassed 13 = .ok (.iconst 0, 1) := by decide +kernel
theorem dX2_countPassed_14 : decode cX2_countPassed 14 = .ok (.istore 5, 2) := by decide +kernel
theorem dX2_countPassed_16 : decode cX2_countPassed 16 = .ok (.iload 5, 2) := by decide +kernel
theorem dX2_countPassed_18 : decode cX2_countPassed 18 = .ok (.iload_n 2, 1) := by decide +kernel
theorem dX2_countPassed_19 : decode cX2_countPassed 19 = .ok (.if_icmp .ge 79, 3) := by decide +kernel
theorem dX2_countPassed_22 : decode cX2_countPassed 22 = .ok (.iload 5, 2) := by decide +kernel
theorem dX2_countPassed_24 : decode cX2_countPassed 24 = .ok (.aload_n 1, 1) := by decide +kernel
theorem dX2_countPassed_25 : decode cX2_countPassed 25 = .ok (.arraylength, 1) := by decide +kernel
theorem dX2_countPassed_26 : decode cX2_countPassed 26 = .ok (.if_icmp .ge 72, 3) := by decide +kernel
theorem dX2_countPassed_29 : decode cX2_countPassed 29 = .ok (.aload_n 0, 1) := by decide +kernel
theorem dX2_countPassed_30 : decode cX2_countPassed 30 = .ok (.getfield 14, 3) := by decide +kernel
theorem dX2_countPassed_33 : decode cX2_countPassed 33 = .ok (.dup, 1) := by decide +kernel
theorem dX2_countPassed_34 : decode cX2_countPassed 34 = .ok (.getfield 99, 3) := by decide +kernel
theorem dX2_countPassed_37 : decode cX2_countPassed 37 = .ok (.aload_n 1, 1) := by decide +kernel
theorem dX2_countPassed_38 : decode cX2_countPassed 38 = .ok (.iload 5, 2) := by decide +kernel
theorem dX2_countPassed_40 : decode cX2_countPassed 40 = .ok (.iaload, 1) := by decide +kernel
theorem dX2_countPassed_41 : decode cX2_countPassed 41 = .ok (.iload_n 3, 1) := by decide +kernel
theorem dX2_countPassed_42 : decode cX2_countPassed 42 = .ok (.iand, 1) := by decide +kernel
theorem dX2_countPassed_43 : decode cX2_countPassed 43 = .ok (.invokestatic 102, 3) := by decide +kernel
theorem dX2_countPassed_46 : decode cX2_countPassed 46 = .ok (.iadd, 1) := by decide +kernel
theorem dX2_countPassed_47 : decode cX2_countPassed 47 = .ok (.putfield 99, 3) := by decide +kernel
theorem dX2_countPassed_50 : decode cX2_countPassed 50 = .ok (.aload_n 0, 1) := by decide +kernel
theorem dX2_countPassed_51 : decode cX2_countPassed 51 = .ok (.getfield 20, 3) := by decide +kernel
theorem dX2_countPassed_54 : decode cX2_countPassed 54 = .ok (.dup, 1) := by decide +kernel
theorem dX2_countPassed_55 : decode cX2_countPassed 55 = .ok (.getfield 99, 3) := by decide +kernel
theorem dX2_countPassed_58 : decode cX2_countPassed 58 = .ok (.aload_n 1, 1) := by decide +kernel
theorem dX2_countPassed_59 : decode cX2_countPassed 59 = .ok (.iload 5, 2) := by decide +kernel
theorem dX2_countPassed_61 : decode cX2_countPassed 61 = .ok (.iaload, 1) := by decide +kernel
theorem dX2_countPassed_62 : decode cX2_countPassed 62 = .ok (.iload 4, 2) := by decide +kernel
theorem dX2_countPassed_64 : decode cX2_countPassed 64 = .ok (.iand, 1) := by decide +kernel
theorem dX2_countPassed_65 : decode cX2_countPassed 65 = .ok (.invokestatic 102, 3) := by decide +kernel
theorem dX2_countPassed_68 : decode cX2_countPassed 68 = .ok (.iadd, 1) := by decide +kernel
theorem dX2_countPassed_69 : decode cX2_countPassed 69 = .ok (.putfield 99, 3) := by decide +kernel
theorem dX2_countPassed_72 : decode cX2_countPassed 72 = .ok (.aload_n 1, 1) := by decide +kernel
theorem dX2_countPassed_73 : decode cX2_countPassed 73 = .ok (.iload 5, 2) := by decide +kernel
theorem dX2_countPassed_75 : decode cX2_countPassed 75 = .ok (.iaload, 1) := by decide +kernel
theorem dX2_countPassed_76 : decode cX2_countPassed 76 = .ok (.ifCond .ne 16, 3) := by decide +kernel
theorem dX2_countPassed_79 : decode cX2_countPassed 79 = .ok (.aload_n 0, 1) := by decide +kernel
theorem dX2_countPassed_80 : decode cX2_countPassed 80 = .ok (.dup, 1) := by decide +kernel
theorem dX2_countPassed_81 : decode cX2_countPassed 81 = .ok (.getfield 45, 3) := by decide +kernel
theorem dX2_countPassed_84 : decode cX2_countPassed 84 = .ok (.aload_n 0, 1) := by decide +kernel
theorem dX2_countPassed_85 : decode cX2_countPassed 85 = .ok (.getfield 36, 3) := by decide +kernel
theorem dX2_countPassed_88 : decode cX2_countPassed 88 = .ok (.iadd, 1) := by decide +kernel
theorem dX2_countPassed_89 : decode cX2_countPassed 89 = .ok (.putfield 45, 3) := by decide +kernel
theorem dX2_countPassed_92 : decode cX2_countPassed 92 = .ok (.iinc 5 1, 3) := by decide +kernel
theorem dX2_countPassed_95 : decode cX2_countPassed 95 = .ok (.goto (-79), 3) := by decide +kernel
theorem dX2_countPassed_98 : decode cX2_countPassed 98 = .ok (.return_, 1) := by decide +kernel
theorem dX3_init_0 : decode cX3_init 0 = .ok (.aload_n 0, 1) := by decide +kernel
theorem dX3_init_1 : decode cX3_init 1 = .ok (.invokespecial 3, 3) := by decide +kernel
theorem dX3_init_4 : decode cX3_init 4 = .ok (.aload_n 0, 1) := by decide +kernel
theorem dX3_init_5 : decode cX3_init 5 = .ok (.iconst 3, 1) := by decide +kernel
theorem dX3_init_6 : decode cX3_init 6 = .ok (.newarray .int, 2) := by decide +kernel
theorem dX3_init_8 : decode cX3_init 8 = .ok (.putfield 9, 3) := by decide +kernel
theorem dX3_init_11 : decode cX3_init 11 = .ok (.aload_n 0, 1) := by decide +kernel
theorem dX3_init_12 : decode cX3_init 12 = .ok (.iconst 3, 1) := by decide +kernel
theorem dX3_init_13 : decode cX3_init 13 = .ok (.newarray .int, 2) := by decide +kernel
theorem dX3_init_15 : decode cX3_init 15 = .ok (.putfield 15, 3) := by decide +kernel
theorem dX3_init_18 : decode cX3_init 18 = .ok (.aload_n 0, 1) := by decide +kernel
theorem dX3_init_19 : decode cX3_init 19 = .ok (.iconst 0, 1) := by decide +kernel
theorem dX3_init_20 : decode cX3_init 20 = .ok (.putfield 18, 3) := by decide +kernel
theorem dX3_init_23 : decode cX3_init 23 = .ok (.aload_n 0, 1) := by decide +kernel
theorem dX3_init_24 : decode cX3_init 24 = .ok (.iconst 0, 1) := by decide +kernel
theorem dX3_init_25 : decode cX3_init 25 = .ok (.putfield 22, 3) := by decide +kernel
theorem dX3_init_28 : decode cX3_init 28 = .ok (.aload_n 0, 1) := by decide +kernel
theorem dX3_init_29 : decode cX3_init 29 = .ok (.iload_n 1, 1) := by decide +kernel
theorem dX3_init_30 : decode cX3_init 30 = .ok (.ifCond .ne 7, 3) := by decide +kernel
theorem dX3_init_33 : decode cX3_init 33 = .ok (.iconst 1, 1) := by decide +kernel
theorem dX3_init_34 : decode cX3_init 34 = .ok (.goto 4, 3) := by decide +kernel
theorem dX3_init_37 : decode cX3_init 37 = .ok (.iconst 0, 1) := by decide +kernel
theorem dX3_init_38 : decode cX3_init 38 = .ok (.putfield 25, 3) := by decide +kernel
theorem dX3_init_41 : decode cX3_init 41 = .ok (.return_, 1) := by decide +kernel
theorem dX3_copyFrom_0 : decode cX3_copyFrom 0 = .ok (.iconst 0, 1) := by decide +kernel
theorem dX3_copyFrom_1 : decode cX3_copyFrom 1 = .ok (.istore_n 2, 1) := by decide +kernel
theorem dX3_copyFrom_2 : decode cX3_copyFrom 2 = .ok (.iload_n 2, 1) := by decide +kernel
theorem dX3_copyFrom_3 : decode cX3_copyFrom 3 = .ok (.iconst 3, 1) := by decide +kernel
theorem dX3_copyFrom_4 : decode cX3_copyFrom 4 = .ok (.if_icmp .ge 33, 3) := by decide +kernel
theorem dX3_copyFrom_7 : decode cX3_copyFrom 7 = .ok (.aload_n 0, 1) := by decide +kernel
theorem dX3_copyFrom_8 : decode cX3_copyFrom 8 = .ok (.getfield 9, 3) := by decide +kernel
theorem dX3_copyFrom_11 : decode cX3_copyFrom 11 = .ok (.iload_n 2, 1) := by decide +kernel
theorem dX3_copyFrom_12 : decode cX3_copyFrom 12 = .ok (.aload_n 1, 1) := by decide +kernel
theorem dX3_copyFrom_13 : decode cX3_copyFrom 13 = .ok (.getfield 9, 3) := by decide +kernel
theorem dX3_copyFrom_16 : decode cX3_copyFrom 16 = .ok (.iload_n 2, 1) := by decide +kernel
theorem dX3_copyFrom_17 : decode cX3_copyFrom 17 = .ok (.iaload, 1) := by decide +kernel
theorem dX3_copyFrom_18 : decode cX3_copyFrom 18 = .ok (.iastore, 1) := by decide +kernel
theorem dX3_copyFrom_19 : decode cX3_copyFrom 19 = .ok (.aload_n 0, 1) := by decide +kernel
theorem dX3_copyFrom_20 : decode cX3_copyFrom 20 = .ok (.getfield 15, 3) := by decide +kernel
theorem dX3_copyFrom_23 : decode cX3_copyFrom 23 = .ok (.iload_n 2, 1) := by decide +kernel
theorem dX3_copyFrom_24 : decode cX3_copyFrom 24 = .ok (.aload_n 1, 1) := by decide +kernel
theorem dX3_copyFrom_25 : decode cX3_copyFrom 25 = .ok (.getfield 15, 3) := by decide +kernel
theorem dX3_copyFrom_28 : decode cX3_copyFrom 28 = .ok (.iload_n 2, 1) := by decide +kernel
theorem dX3_copyFrom_29 : decode cX3_copyFrom 29 = .ok (.iaload, 1) := by decide +kernel
theorem dX3_copyFrom_30 : decode cX3_copyFrom 30 = .ok (.iastore, 1) := by decide +kernel
theorem dX3_copyFrom_31 : decode cX3_copyFrom 31 = .ok (.iinc 2 1, 3) := by decide +kernel
theorem dX3_copyFrom_34 : decode cX3_copyFrom 34 = .ok (.goto (-32), 3) := by decide +kernel
theorem dX3_copyFrom_37 : decode cX3_copyFrom 37 = .ok (.aload_n 0, 1) := by decide +kernel
theorem dX3_copyFrom_38 : decode cX3_copyFrom 38 = .ok (.aload_n 1, 1) := by decide +kernel
theorem dX3_copyFrom_39 : decode cX3_copyFrom 39 = .ok (.getfield 18, 3) := by decide +kernel
theorem dX3_copyFrom_42 : decode cX3_copyFrom 42 = .ok (.putfield 18, 3) := by decide +kernel
theorem dX3_copyFrom_45 : decode cX3_copyFrom 45 = .ok (.aload_n 0, 1) := by decide +kernel
theorem dX3_copyFrom_46 : decode cX3_copyFrom 46 = .ok (.aload_n 1, 1) := by decide +kernel
theorem dX3_copyFrom_47 : decode cX3_copyFrom 47 = .ok (.getfield 22, 3) := by decide +kernel
theorem dX3_copyFrom_50 : decode cX3_copyFrom 50 = .ok (.putfield 22, 3) := by decide +kernel
theorem dX3_copyFrom_53 : decode cX3_copyFrom 53 = .ok (.return_, 1) := by decide +kernel
theorem dX3_latestGapDay_0 : decode cX3_latestGapDay 0 = .ok (.aload_n 0, 1) := by decide +kernel
theorem dX3_latestGapDay_1 : decode cX3_latestGapDay 1 = .ok (.getfield 18, 3) := by decide +kernel
theorem dX3_latestGapDay_4 : decode cX3_latestGapDay 4 = .ok (.ifCond .le 17, 3) := by decide +kernel
theorem dX3_latestGapDay_7 : decode cX3_latestGapDay 7 = .ok (.aload_n 0, 1) := by decide +kernel
theorem dX3_latestGapDay_8 : decode cX3_latestGapDay 8 = .ok (.getfield 9, 3) := by decide +kernel
theorem dX3_latestGapDay_11 : decode cX3_latestGapDay 11 = .ok (.aload_n 0, 1) := by decide +kernel
theorem dX3_latestGapDay_12 : decode cX3_latestGapDay 12 = .ok (.getfield 18, 3) := by decide +kernel
theorem dX3_latestGapDay_15 : decode cX3_latestGapDay 15 = .ok (.iconst 1, 1) := by decide +kernel
theorem dX3_latestGapDay_16 : decode cX3_latestGapDay 16 = .ok (.isub, 1) := by decide +kernel
theorem dX3_latestGapDay_17 : decode cX3_latestGapDay 17 = .ok (.iaload, 1) := by decide +kernel
theorem dX3_latestGapDay_18 : decode cX3_latestGapDay 18 = .ok (.goto 4, 3) := by decide +kernel
theorem dX3_latestGapDay_21 : decode cX3_latestGapDay 21 = .ok (.iconst (-1), 1) := by decide +kernel
theorem dX3_latestGapDay_22 : decode cX3_latestGapDay 22 = .ok (.ireturn, 1) := by decide +kernel
theorem dX3_leaveOut_0 : decode cX3_leaveOut 0 = .ok (.aload_n 0, 1) := by decide +kernel
theorem dX3_leaveOut_1 : decode cX3_leaveOut 1 = .ok (.getfield 18, 3) := by decide +kernel
theorem dX3_leaveOut_4 : decode cX3_leaveOut 4 = .ok (.iconst 3, 1) := by decide +kernel
theorem dX3_leaveOut_5 : decode cX3_leaveOut 5 = .ok (.if_icmp .ge 33, 3) := by decide +kernel
theorem dX3_leaveOut_8 : decode cX3_leaveOut 8 = .ok (.aload_n 0, 1) := by decide +kernel
theorem dX3_leaveOut_9 : decode cX3_leaveOut 9 = .ok (.getfield 9, 3) := by decide +kernel
theorem dX3_leaveOut_12 : decode cX3_leaveOut 12 = .ok (.aload_n 0, 1) := by decide +kernel
theorem dX3_leaveOut_13 : decode cX3_leaveOut 13 = .ok (.getfield 18, 3) := by decide +kernel
theorem dX3_leaveOut_16 : decode cX3_leaveOut 16 = .ok (.iload_n 1, 1) := by decide +kernel
theorem dX3_leaveOut_17 : decode cX3_leaveOut 17 = .ok (.iastore, 1) := by decide +kernel
theorem dX3_leaveOut_18 : decode cX3_leaveOut 18 = .ok (.aload_n 0, 1) := by decide +kernel
theorem dX3_leaveOut_19 : decode cX3_leaveOut 19 = .ok (.getfield 15, 3) := by decide +kernel
theorem dX3_leaveOut_22 : decode cX3_leaveOut 22 = .ok (.aload_n 0, 1) := by decide +kernel
theorem dX3_leaveOut_23 : decode cX3_leaveOut 23 = .ok (.getfield 18, 3) := by decide +kernel
theorem dX3_leaveOut_26 : decode cX3_leaveOut 26 = .ok (.iload_n 2, 1) := by decide +kernel
theorem dX3_leaveOut_27 : decode cX3_leaveOut 27 = .ok (.iastore, 1) := by decide +kernel
theorem dX3_leaveOut_28 : decode cX3_leaveOut 28 = .ok (.aload_n 0, 1) := by decide +kernel
theorem dX3_leaveOut_29 : decode cX3_leaveOut 29 = .ok (.dup, 1) := by decide +kernel
theorem dX3_leaveOut_30 : decode cX3_leaveOut 30 = .ok (.getfield 18, 3) := by decide +kernel
theorem dX3_leaveOut_33 : decode cX3_leaveOut 33 = .ok (.iconst 1, 1) := by decide +kernel
theorem dX3_leaveOut_34 : decode cX3_leaveOut 34 = .ok (.iadd, 1) := by decide +kernel
theorem dX3_leaveOut_35 : decode cX3_leaveOut 35 = .ok (.putfield 18, 3) := by decide +kernel
theorem dX3_leaveOut_38 : decode cX3_leaveOut 38 = .ok (.aload_n 0, 1) := by decide +kernel
theorem dX3_leaveOut_39 : decode cX3_leaveOut 39 = .ok (.getfield 18, 3) := by decide +kernel
theorem dX3_leaveOut_42 : decode cX3_leaveOut 42 = .ok (.ireturn, 1) := by decide +kernel
theorem dX3_daysInMonth_0 : decode cX3_daysInMonth 0 = .ok (.aload_n 0, 1) := by decide +kernel
theorem dX3_daysInMonth_1 : decode cX3_daysInMonth 1 = .ok (.getfield 25, 3) := by decide +kernel
theorem dX3_daysInMonth_4 : decode cX3_daysInMonth 4 = .ok (.ifCond .eq 18, 3) := by decide +kernel
theorem dX3_daysInMonth_7 : decode cX3_daysInMonth 7 = .ok (.iload_n 1, 1) := by decide +kernel
theorem dX3_daysInMonth_8 : decode cX3_daysInMonth 8 = .ok (.iconst 2, 1) := by decide +kernel
theorem dX3_daysInMonth_9 : decode cX3_daysInMonth 9 = .ok (.irem, 1) := by decide +kernel
theorem dX3_daysInMonth_10 : decode cX3_daysInMonth 10 = .ok (.iconst 1, 1) := by decide +kernel
theorem dX3_daysInMonth_11 : decode cX3_daysInMonth 11 = .ok (.if_icmp .ne 8, 3) := by decide +kernel
theorem dX3_daysInMonth_14 : decode cX3_daysInMonth 14 = .ok (.bipush 30, 2) := by decide +kernel
theorem dX3_daysInMonth_16 : decode cX3_daysInMonth 16 = .ok (.goto 5, 3) := by decide +kernel
theorem dX3_daysInMonth_19 : decode cX3_daysInMonth 19 = .ok (.bipush 31, 2) := by decide +kernel
theorem dX3_daysInMonth_21 : decode cX3_daysInMonth 21 = .ok (.ireturn, 1) := by decide +kernel
theorem dX3_daysInMonth_22 : decode cX3_daysInMonth 22 = .ok (.bipush 28, 2) := by decide +kernel
theorem dX3_daysInMonth_24 : decode cX3_daysInMonth 24 = .ok (.ireturn, 1) := by decide +kernel
theorem dX3_daysBeforeMonth_0 : decode cX3_daysBeforeMonth 0 = .ok (.iload_n 1, 1) := by decide +kernel
theorem dX3_daysBeforeMonth_1 : decode cX3_daysBeforeMonth 1 = .ok (.iconst 1, 1) := by decide +kernel
theorem dX3_daysBeforeMonth_2 : decode cX3_daysBeforeMonth 2 = .ok (.isub, 1) := by decide +kernel
theorem dX3_daysBeforeMonth_3 : decode cX3_daysBeforeMonth 3 = .ok (.istore_n 2, 1) := by decide +kernel
theorem dX3_daysBeforeMonth_4 : decode cX3_daysBeforeMonth 4 = .ok (.aload_n 0, 1) := by decide +kernel
theorem dX3_daysBeforeMonth_5 : decode cX3_daysBeforeMonth 5 = .ok (.getfield 25, 3) := by decide +kernel
theorem dX3_daysBeforeMonth_8 : decode cX3_daysBeforeMonth 8 = .ok (.ifCond .eq 14, 3) := by decide +kernel
theorem dX3_daysBeforeMonth_11 : decode cX3_daysBeforeMonth 11 = .ok (.iload_n 2, 1) := by decide +kernel
theorem dX3_daysBeforeMonth_12 : decode cX3_daysBeforeMonth 12 = .ok (.bipush 30, 2) := by decide +kernel
theorem dX3_daysBeforeMonth_14 : decode cX3_daysBeforeMonth 14 = .ok (.imul, 1) := by decide +kernel
theorem dX3_daysBeforeMonth_15 : decode cX3_daysBeforeMonth 15 = .ok (.iload_n 2, 1) := by decide +kernel
theorem dX3_daysBeforeMonth_16 : decode cX3_daysBeforeMonth 16 = .ok (.iconst 2, 1) := by decide +kernel
theorem dX3_daysBeforeMonth_17 : decode cX3_daysBeforeMonth 17 = .ok (.idiv, 1) := by decide +kernel
theorem dX3_daysBeforeMonth_18 : decode cX3_daysBeforeMonth 18 = .ok (.iadd, 1) := by decide +kernel
theorem dX3_daysBeforeMonth_19 : decode cX3_daysBeforeMonth 19 = .ok (.goto 7, 3) := by decide +kernel
theorem dX3_daysBeforeMonth_22 : decode cX3_daysBeforeMonth 22 = .ok (.iload_n 2, 1) := by decide +kernel
theorem dX3_daysBeforeMonth_23 : decode cX3_daysBeforeMonth 23 = .ok (.bipush 28, 2) := by decide +kernel
theorem dX3_daysBeforeMonth_25 : decode cX3_daysBeforeMonth 25 = .ok (.imul, 1) := by decide +kernel
theorem dX3_daysBeforeMonth_26 : decode cX3_daysBeforeMonth 26 = .ok (.ireturn, 1) := by decide +kernel
theorem dX3_daysInYear_0 : decode cX3_daysInYear 0 = .ok (.aload_n 0, 1) := by decide +kernel
theorem dX3_daysInYear_1 : decode cX3_daysInYear 1 = .ok (.getfield 25, 3) := by decide +kernel
theorem dX3_daysInYear_4 : decode cX3_daysInYear 4 = .ok (.ifCond .eq 9, 3) := by decide +kernel
theorem dX3_daysInYear_7 : decode cX3_daysInYear 7 = .ok (.sipush 366, 3) := by decide +kernel
theorem dX3_daysInYear_10 : decode cX3_daysInYear 10 = .ok (.goto 6, 3) := by decide +kernel
theorem dX3_daysInYear_13 : decode cX3_daysInYear 13 = .ok (.sipush 336, 3) := by decide +kernel
theorem dX3_daysInYear_16 : decode cX3_daysInYear 16 = .ok (.ireturn, 1) := by decide +kernel
set_option maxRecDepth 20000 in
theorem ggX3_dateOf_X3_daysInYear : GoodIn wsX3_dateOf wsX3_daysInYear := goodIn_r _ [5, 6, 11, 12, 13, 14, 15] (by decide +kernel) (by decide +kernel)
set_option maxRecDepth 20000 in
theorem gX3_dateOf_X3_daysInYear : GoodIn wsX3_dateOf (wsV RX3 29 RX3 yX3_daysInYear wsX3_daysInYear) := goodIn_app (goodIn_of _ (by decide +kernel)) ggX3_dateOf_X3_daysInYear
set_option maxRecDepth 20000 in
theorem ggX3_dateOf_X3_daysBeforeMonth : GoodIn wsX3_dateOf wsX3_daysBeforeMonth := goodIn_r _ [10, 6, 11, 12, 13, 14, 15] (by decide +kernel) (by decide +kernel)
set_option maxRecDepth 20000 in
theorem gX3_dateOf_X3_daysBeforeMonth : GoodIn wsX3_dateOf (wsV RX3 33 RX3 yX3_daysBeforeMonth wsX3_daysBeforeMonth) := goodIn_app (goodIn_of _ (by decide +kernel)) ggX3_dateOf_X3_daysBeforeMonth
theorem dX3_dateOf_0 : decode cX3_dateOf 0 = .ok (.iload_n 1, 1) := by decide +kernel
theorem dX3_dateOf_1 : decode cX3_dateOf 1 = .ok (.iconst 1, 1) := by decide +kernel
theorem dX3_dateOf_2 : decode cX3_dateOf 2 = .ok (.isub, 1) := by decide +kernel
theorem dX3_dateOf_3 : decode cX3_dateOf 3 = .ok (.aload_n 0, 1) := by decide +kernel
theorem dX3_dateOf_4 : decode cX3_dateOf 4 = .ok (.invokevirtual 29, 3) := by decide +kernel
theorem dX3_dateOf_7 : decode cX3_dateOf 7 = .ok (.imul, 1) := by decide +kernel
theorem dX3_dateOf_8 : decode cX3_dateOf 8 = .ok (.aload_n 0, 1) := by decide +kernel
theorem dX3_dateOf_9 : decode cX3_dateOf 9 = .ok (.iload_n 2, 1) := by decide +kernel
theorem dX3_dateOf_10 : decode cX3_dateOf 10 = .ok (.invokevirtual 33, 3) := by decide +kernel
theorem dX3_dateOf_13 : decode cX3_dateOf 13 = .ok (.iadd, 1) := by decide +kernel
theorem dX3_dateOf_14 : decode cX3_dateOf 14 = .ok (.iload_n 3, 1) := by decide +kernel
theorem dX3_dateOf_15 : decode cX3_dateOf 15 = .ok (.iadd, 1) := by decide +kernel
theorem dX3_dateOf_16 : decode cX3_dateOf 16 = .ok (.iconst 1, 1) := by decide +kernel
theorem dX3_dateOf_17 : decode cX3_dateOf 17 = .ok (.isub, 1) := by decide +kernel
theorem dX3_dateOf_18 : decode cX3_dateOf 18 = .ok (.ireturn, 1) := by decide +kernel
theorem dX3_dateOn_0 : decode cX3_dateOn 0 = .ok (.iload_n 1, 1) := by decide +kernel
theorem dX3_dateOn_1 : decode cX3_dateOn 1 = .ok (.istore_n 2, 1) := by decide +kernel
theorem dX3_dateOn_2 : decode cX3_dateOn 2 = .ok (.iconst 0, 1) := by decide +kernel
theorem dX3_dateOn_3 : decode cX3_dateOn 3 = .ok (.istore_n 3, 1) := by decide +kernel
theorem dX3_dateOn_4 : decode cX3_dateOn 4 = .ok (.iload_n 3, 1) := by decide +kernel
theorem dX3_dateOn_5 : decode cX3_dateOn 5 = .ok (.aload_n 0, 1) := by decide +kernel
theorem dX3_dateOn_6 : decode cX3_dateOn 6 = .ok (.getfield 18, 3) := by decide +kernel
theorem dX3_dateOn_9 : decode cX3_dateOn 9 = .ok (.if_icmp .ge 28, 3) := by decide +kernel
theorem dX3_dateOn_12 : decode cX3_dateOn 12 = .ok (.iload_n 1, 1) := by decide +kernel
theorem dX3_dateOn_13 : decode cX3_dateOn 13 = .ok (.aload_n 0, 1) := by decide +kernel
theorem dX3_dateOn_14 : decode cX3_dateOn 14 = .ok (.getfield 9, 3) := by decide +kernel
theorem dX3_dateOn_17 : decode cX3_dateOn 17 = .ok (.iload_n 3, 1) := by decide +kernel
theorem dX3_dateOn_18 : decode cX3_dateOn 18 = .ok (.iaload, 1) := by decide +kernel
theorem dX3_dateOn_19 : decode cX3_dateOn 19 = .ok (.if_icmp .le 12, 3) := by decide +kernel
theorem dX3_dateOn_22 : decode cX3_dateOn 22 = .ok (.iload_n 2, 1) := by decide +kernel
theorem dX3_dateOn_23 : decode cX3_dateOn 23 = .ok (.aload_n 0, 1) := by decide +kernel
theorem dX3_dateOn_24 : decode cX3_dateOn 24 = .ok (.getfield 15, 3) := by decide +kernel
theorem dX3_dateOn_27 : decode cX3_dateOn 27 = .ok (.iload_n 3, 1) := by decide +kernel
theorem dX3_dateOn_28 : decode cX3_dateOn 28 = .ok (.iaload, 1) := by decide +kernel
theorem dX3_dateOn_29 : decode cX3_dateOn 29 = .ok (.iadd, 1) := by decide +kernel
theorem dX3_dateOn_30 : decode cX3_dateOn 30 = .ok (.istore_n 2, 1) := by decide +kernel
theorem dX3_dateOn_31 : decode cX3_dateOn 31 = .ok (.iinc 3 1, 3) := by decide +kernel
theorem dX3_dateOn_34 : decode cX3_dateOn 34 = .ok (.goto (-30), 3) := by decide +kernel
theorem dX3_dateOn_37 : decode cX3_dateOn 37 = .ok (.iload_n 2, 1) := by decide +kernel
theorem dX3_dateOn_38 : decode cX3_dateOn 38 = .ok (.ireturn, 1) := by decide +kernel
set_option maxRecDepth 20000 in
theorem ggX3_dayInYearOn_X3_dateOn : GoodIn wsX3_dayInYearOn wsX3_dateOn := goodIn_r _ [6, 7, 8, 9, 10, 11, 12, 13, 14] (by decide +kernel) (by decide +kernel)
set_option maxRecDepth 20000 in
theorem gX3_dayInYearOn_X3_dateOn : GoodIn wsX3_dayInYearOn (wsV RX3 37 RX3 yX3_dateOn wsX3_dateOn) := goodIn_app (goodIn_of _ (by decide +kernel)) ggX3_dayInYearOn_X3_dateOn
theorem dX3_dayInYearOn_0 : decode cX3_dayInYearOn 0 = .ok (.aload_n 0, 1) := by decide +kernel
theorem dX3_dayInYearOn_1 : decode cX3_dayInYearOn 1 = .ok (.iload_n 1, 1) := by decide +kernel
theorem dX3_dayInYearOn_2 : decode cX3_dayInYearOn 2 = .ok (.invokevirtual 37, 3) := by decide +kernel
theorem dX3_dayInYearOn_5 : decode cX3_dayInYearOn 5 = .ok (.istore_n 2, 1) := by decide +kernel
theorem dX3_dayInYearOn_6 : decode cX3_dayInYearOn 6 = .ok (.aload_n 0, 1) := by decide +kernel
theorem dX3_dayInYearOn_7 : decode cX3_dayInYearOn 7 = .ok (.getfield 25, 3) := by decide +kernel
theorem dX3_dayInYearOn_10 : decode cX3_dayInYearOn 10 = .ok (.ifCond .eq 11, 3) := by decide +kernel
theorem dX3_dayInYearOn_13 : decode cX3_dayInYearOn 13 = .ok (.iload_n 2, 1) := by decide +kernel
theorem dX3_dayInYearOn_14 : decode cX3_dayInYearOn 14 = .ok (.sipush 366, 3) := by decide +kernel
theorem dX3_dayInYearOn_17 : decode cX3_dayInYearOn 17 = .ok (.irem, 1) := by decide +kernel
theorem dX3_dayInYearOn_18 : decode cX3_dayInYearOn 18 = .ok (.goto 8, 3) := by decide +kernel
theorem dX3_dayInYearOn_21 : decode cX3_dayInYearOn 21 = .ok (.iload_n 2, 1) := by decide +kernel
theorem dX3_dayInYearOn_22 : decode cX3_dayInYearOn 22 = .ok (.sipush 336, 3) := by decide +kernel
theorem dX3_dayInYearOn_25 : decode cX3_dayInYearOn 25 = .ok (.irem, 1) := by decide +kernel
theorem dX3_dayInYearOn_26 : decode cX3_dayInYearOn 26 = .ok (.ireturn, 1) := by decide +kernel
set_option maxRecDepth 20000 in
theorem ggX3_yearOn_X3_dateOn : GoodIn wsX3_yearOn wsX3_dateOn := goodIn_r _ [6, 7, 8, 9, 10, 11, 12, 13, 14] (by decide +kernel) (by decide +kernel)
set_option maxRecDepth 20000 in
theorem gX3_yearOn_X3_dateOn : GoodIn wsX3_yearOn (wsV RX3 37 RX3 yX3_dateOn wsX3_dateOn) := goodIn_app (goodIn_of _ (by decide +kernel)) ggX3_yearOn_X3_dateOn
theorem dX3_yearOn_0 : decode cX3_yearOn 0 = .ok (.aload_n 0, 1) := by decide +kernel
theorem dX3_yearOn_1 : decode cX3_yearOn 1 = .ok (.iload_n 1, 1) := by decide +kernel
theorem dX3_yearOn_2 : decode cX3_yearOn 2 = .ok (.invokevirtual 37, 3) := by decide +kernel
theorem dX3_yearOn_5 : decode cX3_yearOn 5 = .ok (.istore_n 2, 1) := by decide +kernel
theorem dX3_yearOn_6 : decode cX3_yearOn 6 = .ok (.iconst 1, 1) := by decide +kernel
theorem dX3_yearOn_7 : decode cX3_yearOn 7 = .ok (.aload_n 0, 1) := by decide +kernel
theorem dX3_yearOn_8 : decode cX3_yearOn 8 = .ok (.getfield 25, 3) := by decide +kernel
theorem dX3_yearOn_11 : decode cX3_yearOn 11 = .ok (.ifCond .eq 11, 3) := by decide +kernel
theorem dX3_yearOn_14 : decode cX3_yearOn 14 = .ok (.iload_n 2, 1) := by decide +kernel
theorem dX3_yearOn_15 : decode cX3_yearOn 15 = .ok (.sipush 366, 3) := by decide +kernel
theorem dX3_yearOn_18 : decode cX3_yearOn 18 = .ok (.idiv, 1) := by decide +kernel
theorem dX3_yearOn_19 : decode cX3_yearOn 19 = .ok (.goto 8, 3) := by decide +kernel
theorem dX3_yearOn_22 : decode cX3_yearOn 22 = .ok (.iload_n 2, 1) := by decide +kernel
theorem dX3_yearOn_23 : decode cX3_yearOn 23 = .ok (.sipush 336, 3) := by decide +kernel
theorem dX3_yearOn_26 : decode cX3_yearOn 26 = .ok (.idiv, 1) := by decide +kernel
theorem dX3_yearOn_27 : decode cX3_yearOn 27 = .ok (.iadd, 1) := by decide +kernel
theorem dX3_yearOn_28 : decode cX3_yearOn 28 = .ok (.ireturn, 1) := by decide +kernel
set_option maxRecDepth 20000 in
theorem ggX3_monthOn_X3_dayInYearOn : GoodIn wsX3_monthOn wsX3_dayInYearOn := goodIn_r _ [5, 6, 7, 8, 9, 4, 10, 11, 12, 13, 18, 19, 20, 21, 22] (by decide +kernel) (by decide +kernel)
set_option maxRecDepth 20000 in
theorem gX3_monthOn_X3_dayInYearOn : GoodIn wsX3_monthOn (wsV RX3 40 RX3 yX3_dayInYearOn wsX3_dayInYearOn) := goodIn_app (goodIn_of _ (by decide +kernel)) ggX3_monthOn_X3_dayInYearOn
set_option maxRecDepth 20000 in
theorem ggX3_monthOn_X3_daysBeforeMonth : GoodIn wsX3_monthOn wsX3_daysBeforeMonth := goodIn_r _ [17, 6, 18, 19, 20, 21, 22] (by decide +kernel) (by decide +kernel)
set_option maxRecDepth 20000 in
theorem gX3_monthOn_X3_daysBeforeMonth : GoodIn wsX3_monthOn (wsV RX3 33 RX3 yX3_daysBeforeMonth wsX3_daysBeforeMonth) := goodIn_app (goodIn_of _ (by decide +kernel)) ggX3_monthOn_X3_daysBeforeMonth
theorem dX3_monthOn_0 : decode cX3_monthOn 0 = .ok (.aload_n 0, 1) := by decide +kernel
theorem dX3_monthOn_1 : decode cX3_monthOn 1 = .ok (.iload_n 1, 1) := by decide +kernel
theorem dX3_monthOn_2 : decode cX3_monthOn 2 = .ok (.invokevirtual 40, 3) := by decide +kernel
theorem dX3_monthOn_5 : decode cX3_monthOn 5 = .ok (.istore_n 2, 1) := by decide +kernel
theorem dX3_monthOn_6 : decode cX3_monthOn 6 = .ok (.bipush 12, 2) := by decide +kernel
theorem dX3_monthOn_8 : decode cX3_monthOn 8 = .ok (.istore_n 3, 1) := by decide +kernel
theorem dX3_monthOn_9 : decode cX3_monthOn 9 = .ok (.iload_n 3, 1) := by decide +kernel
theorem dX3_monthOn_10 : decode cX3_monthOn 10 = .ok (.iconst 1, 1) := by decide +kernel
theorem dX3_monthOn_11 : decode cX3_monthOn 11 = .ok (.if_icmp .le 18, 3) := by decide +kernel
theorem dX3_monthOn_14 : decode cX3_monthOn 14 = .ok (.aload_n 0, 1) := by decide +kernel
theorem dX3_monthOn_15 : decode cX3_monthOn 15 = .ok (.iload_n 3, 1) := by decide +kernel
theorem dX3_monthOn_16 : decode cX3_monthOn 16 = .ok (.invokevirtual 33, 3) := by decide +kernel
theorem dX3_monthOn_19 : decode cX3_monthOn 19 = .ok (.iload_n 2, 1) := by decide +kernel
theorem dX3_monthOn_20 : decode cX3_monthOn 20 = .ok (.if_icmp .le 9, 3) := by decide +kernel
theorem dX3_monthOn_23 : decode cX3_monthOn 23 = .ok (.iinc 3 (-1), 3) := by decide +kernel
theorem dX3_monthOn_26 : decode cX3_monthOn 26 = .ok (.goto (-17), 3) := by decide +kernel
theorem dX3_monthOn_29 : decode cX3_monthOn 29 = .ok (.iload_n 3, 1) := by decide +kernel
theorem dX3_monthOn_30 : decode cX3_monthOn 30 = .ok (.ireturn, 1) := by decide +kernel
set_option maxRecDepth 20000 in
theorem ggX3_dayOfMonthOn_X3_dayInYearOn : GoodIn wsX3_dayOfMonthOn wsX3_dayInYearOn := goodIn_r _ [5, 6, 7, 8, 9, 4, 10, 11, 12, 13, 22, 23, 24, 25, 26] (by decide +kernel) (by decide +kernel)
set_option maxRecDepth 20000 in
theorem gX3_dayOfMonthOn_X3_dayInYearOn : GoodIn wsX3_dayOfMonthOn (wsV RX3 40 RX3 yX3_dayInYearOn wsX3_dayInYearOn) := goodIn_app (goodIn_of _ (by decide +kernel)) ggX3_dayOfMonthOn_X3_dayInYearOn
set_option maxRecDepth 20000 in
theorem ggX3_dayOfMonthOn_X3_monthOn : GoodIn wsX3_dayOfMonthOn wsX3_monthOn := goodIn_r _ [17, 1, 2, 3, 4, 5, 6, 7, 8, 9, 10, 11, 12, 13, 18, 19, 20, 21, 22, 23, 24, 25, 26] (by decide +kernel) (by decide +kernel)
set_option maxRecDepth 20000 in
theorem gX3_dayOfMonthOn_X3_monthOn : GoodIn wsX3_dayOfMonthOn (wsV RX3 43 RX3 yX3_monthOn wsX3_monthOn) := goodIn_app (goodIn_of _ (by decide +kernel)) ggX3_dayOfMonthOn_X3_monthOn
set_option maxRecDepth 20000 in
theorem ggX3_dayOfMonthOn_X3_daysBeforeMonth : GoodIn wsX3_dayOfMonthOn wsX3_daysBeforeMonth := goodIn_r _ [21, 6, 22, 23, 24, 25, 26] (by decide +kernel) (by decide +kernel)
set_option maxRecDepth 20000 in
theorem gX3_dayOfMonthOn_X3_daysBeforeMonth : GoodIn wsX3_dayOfMonthOn (wsV RX3 33 RX3 yX3_daysBeforeMonth wsX3_daysBeforeMonth) := goodIn_app (goodIn_of _ (by decide +kernel)) ggX3_dayOfMonthOn_X3_daysBeforeMonth
theorem dX3_dayOfMonthOn_0 : decode cX3_dayOfMonthOn 0 = .ok (.aload_n 0, 1) := by decide +kernel
theorem dX3_dayOfMonthOn_1 : decode cX3_dayOfMonthOn 1 = .ok (.iload_n 1, 1) := by decide +kernel
theorem dX3_dayOfMonthOn_2 : decode cX3_dayOfMonthOn 2 = .ok (.invokevirtual 40, 3) := by decide +kernel
theorem dX3_dayOfMonthOn_5 : decode cX3_dayOfMonthOn 5 = .ok (.aload_n 0, 1) := by decide +kernel
theorem dX3_dayOfMonthOn_6 : decode cX3_dayOfMonthOn 6 = .ok (.aload_n 0, 1) := by decide +kernel
theorem dX3_dayOfMonthOn_7 : decode cX3_dayOfMonthOn 7 = .ok (.iload_n 1, 1) := by decide +kernel
theorem dX3_dayOfMonthOn_8 : decode cX3_dayOfMonthOn 8 = .ok (.invokevirtual 43, 3) := by decide +kernel
theorem dX3_dayOfMonthOn_11 : decode cX3_dayOfMonthOn 11 = .ok (.invokevirtual 33, 3) := by decide +kernel
theorem dX3_dayOfMonthOn_14 : decode cX3_dayOfMonthOn 14 = .ok (.isub, 1) := by decide +kernel
theorem dX3_dayOfMonthOn_15 : decode cX3_dayOfMonthOn 15 = .ok (.iconst 1, 1) := by decide +kernel
theorem dX3_dayOfMonthOn_16 : decode cX3_dayOfMonthOn 16 = .ok (.iadd, 1) := by decide +kernel
theorem dX3_dayOfMonthOn_17 : decode cX3_dayOfMonthOn 17 = .ok (.ireturn, 1) := by decide +kernel
theorem dX3_firstDayFrom_0 : decode cX3_firstDayFrom 0 = .ok (.iload_n 1, 1) := by decide +kernel
theorem dX3_firstDayFrom_1 : decode cX3_firstDayFrom 1 = .ok (.istore_n 2, 1) := by decide +kernel
theorem dX3_firstDayFrom_2 : decode cX3_firstDayFrom 2 = .ok (.iconst 0, 1) := by decide +kernel
theorem dX3_firstDayFrom_3 : decode cX3_firstDayFrom 3 = .ok (.istore_n 3, 1) := by decide +kernel
theorem dX3_firstDayFrom_4 : decode cX3_firstDayFrom 4 = .ok (.iload_n 3, 1) := by decide +kernel
theorem dX3_firstDayFrom_5 : decode cX3_firstDayFrom 5 = .ok (.aload_n 0, 1) := by decide +kernel
theorem dX3_firstDayFrom_6 : decode cX3_firstDayFrom 6 = .ok (.getfield 18, 3) := by decide +kernel
theorem dX3_firstDayFrom_9 : decode cX3_firstDayFrom 9 = .ok (.if_icmp .ge 54, 3) := by decide +kernel
theorem dX3_firstDayFrom_12 : decode cX3_firstDayFrom 12 = .ok (.iload_n 2, 1) := by decide +kernel
theorem dX3_firstDayFrom_13 : decode cX3_firstDayFrom 13 = .ok (.aload_n 0, 1) := by decide +kernel
theorem dX3_firstDayFrom_14 : decode cX3_firstDayFrom 14 = .ok (.getfield 9, 3) := by decide +kernel
theorem dX3_firstDayFrom_17 : decode cX3_firstDayFrom 17 = .ok (.iload_n 3, 1) := by decide +kernel
theorem dX3_firstDayFrom_18 : decode cX3_firstDayFrom 18 = .ok (.iaload, 1) := by decide +kernel
theorem dX3_firstDayFrom_19 : decode cX3_firstDayFrom 19 = .ok (.if_icmp .le 44, 3) := by decide +kernel
theorem dX3_firstDayFrom_22 : decode cX3_firstDayFrom 22 = .ok (.aload_n 0, 1) := by decide +kernel
theorem dX3_firstDayFrom_23 : decode cX3_firstDayFrom 23 = .ok (.getfield 9, 3) := by decide +kernel
theorem dX3_firstDayFrom_26 : decode cX3_firstDayFrom 26 = .ok (.iload_n 3, 1) := by decide +kernel
theorem dX3_firstDayFrom_27 : decode cX3_firstDayFrom 27 = .ok (.iaload, 1) := by decide +kernel
theorem dX3_firstDayFrom_28 : decode cX3_firstDayFrom 28 = .ok (.iconst 1, 1) := by decide +kernel
theorem dX3_firstDayFrom_29 : decode cX3_firstDayFrom 29 = .ok (.iadd, 1) := by decide +kernel
theorem dX3_firstDayFrom_30 : decode cX3_firstDayFrom 30 = .ok (.istore 4, 2) := by decide +kernel
theorem dX3_firstDayFrom_32 : decode cX3_firstDayFrom 32 = .ok (.iload_n 2, 1) := by decide +kernel
theorem dX3_firstDayFrom_33 : decode cX3_firstDayFrom 33 = .ok (.aload_n 0, 1) := by decide +kernel
theorem dX3_firstDayFrom_34 : decode cX3_firstDayFrom 34 = .ok (.getfield 15, 3) := by decide +kernel
theorem dX3_firstDayFrom_37 : decode cX3_firstDayFrom 37 = .ok (.iload_n 3, 1) := by decide +kernel
theorem dX3_firstDayFrom_38 : decode cX3_firstDayFrom 38 = .ok (.iaload, 1) := by decide +kernel
theorem dX3_firstDayFrom_39 : decode cX3_firstDayFrom 39 = .ok (.isub, 1) := by decide +kernel
theorem dX3_firstDayFrom_40 : decode cX3_firstDayFrom 40 = .ok (.istore 5, 2) := by decide +kernel
theorem dX3_firstDayFrom_42 : decode cX3_firstDayFrom 42 = .ok (.iload 5, 2) := by decide +kernel
theorem dX3_firstDayFrom_44 : decode cX3_firstDayFrom 44 = .ok (.iload 4, 2) := by decide +kernel
theorem dX3_firstDayFrom_46 : decode cX3_firstDayFrom 46 = .ok (.if_icmp .le 8, 3) := by decide +kernel
theorem dX3_firstDayFrom_49 : decode cX3_firstDayFrom 49 = .ok (.iload 5, 2) := by decide +kernel
theorem dX3_firstDayFrom_51 : decode cX3_firstDayFrom 51 = .ok (.goto 5, 3) := by decide +kernel
theorem dX3_firstDayFrom_54 : decode cX3_firstDayFrom 54 = .ok (.iload 4, 2) := by decide +kernel
theorem dX3_firstDayFrom_56 : decode cX3_firstDayFrom 56 = .ok (.istore_n 2, 1) := by decide +kernel
theorem dX3_firstDayFrom_57 : decode cX3_firstDayFrom 57 = .ok (.iinc 3 1, 3) := by decide +kernel
theorem dX3_firstDayFrom_60 : decode cX3_firstDayFrom 60 = .ok (.goto (-56), 3) := by decide +kernel
theorem dX3_firstDayFrom_63 : decode cX3_firstDayFrom 63 = .ok (.iload_n 2, 1) := by decide +kernel
theorem dX3_firstDayFrom_64 : decode cX3_firstDayFrom 64 = .ok (.ireturn, 1) := by decide +kernel
set_option maxRecDepth 20000 in
theorem ggX3_dayWithDate_X3_daysInMonth : GoodIn wsX3_dayWithDate wsX3_daysInMonth := goodIn_r _ [5, 6, 30, 31, 32, 33, 34] (by decide +kernel) (by decide +kernel)
set_option maxRecDepth 20000 in
theorem gX3_dayWithDate_X3_daysInMonth : GoodIn wsX3_dayWithDate (wsV RX3 46 RX3 yX3_daysInMonth wsX3_daysInMonth) := goodIn_app (goodIn_of _ (by decide +kernel)) ggX3_dayWithDate_X3_daysInMonth
set_option maxRecDepth 20000 in
theorem ggX3_dayWithDate_X3_dateOf : GoodIn wsX3_dayWithDate wsX3_dateOf := goodIn_r _ [10, 11, 12, 13, 4, 14, 6, 15, 16, 17, 18, 30, 31, 32, 33, 34] (by decide +kernel) (by decide +kernel)
set_option maxRecDepth 20000 in
theorem gX3_dayWithDate_X3_dateOf : GoodIn wsX3_dayWithDate (wsV RX3 49 RX3 yX3_dateOf wsX3_dateOf) := goodIn_app (goodIn_of _ (by decide +kernel)) ggX3_dayWithDate_X3_dateOf
set_option maxRecDepth 20000 in
theorem ggX3_dayWithDate_X3_firstDayFrom : GoodIn wsX3_dayWithDate wsX3_firstDayFrom := goodIn_r _ [22, 23, 24, 25, 30, 31, 32, 33, 34] (by decide +kernel) (by decide +kernel)
set_option maxRecDepth 20000 in
theorem gX3_dayWithDate_X3_firstDayFrom : GoodIn wsX3_dayWithDate (wsV RX3 53 RX3 yX3_firstDayFrom wsX3_firstDayFrom) := goodIn_app (goodIn_of _ (by decide +kernel)) ggX3_dayWithDate_X3_firstDayFrom
set_option maxRecDepth 20000 in
theorem ggX3_dayWithDate_X3_dateOn : GoodIn wsX3_dayWithDate wsX3_dateOn := goodIn_r _ [29, 23, 24, 25, 30, 31, 32, 33, 34] (by decide +kernel) (by decide +kernel)
set_option maxRecDepth 20000 in
theorem gX3_dayWithDate_X3_dateOn : GoodIn wsX3_dayWithDate (wsV RX3 37 RX3 yX3_dateOn wsX3_dateOn) := goodIn_app (goodIn_of _ (by decide +kernel)) ggX3_dayWithDate_X3_dateOn
theorem dX3_dayWithDate_0 : decode cX3_dayWithDate 0 = .ok (.iload_n 2, 1) := by decide +kernel
theorem dX3_dayWithDate_1 : decode cX3_dayWithDate 1 = .ok (.bipush 12, 2) := by decide +kernel
theorem dX3_dayWithDate_3 : decode cX3_dayWithDate 3 = .ok (.if_icmp .gt 12, 3) := by decide +kernel
theorem dX3_dayWithDate_6 : decode cX3_dayWithDate 6 = .ok (.iload_n 3, 1) := by decide +kernel
theorem dX3_dayWithDate_7 : decode cX3_dayWithDate 7 = .ok (.aload_n 0, 1) := by decide +kernel
theorem dX3_dayWithDate_8 : decode cX3_dayWithDate 8 = .ok (.iload_n 2, 1) := by decide +kernel
theorem dX3_dayWithDate_9 : decode cX3_dayWithDate 9 = .ok (.invokevirtual 46, 3) := by decide +kernel
theorem dX3_dayWithDate_12 : decode cX3_dayWithDate 12 = .ok (.if_icmp .le 5, 3) := by decide +kernel
theorem dX3_dayWithDate_15 : decode cX3_dayWithDate 15 = .ok (.iconst (-1), 1) := by decide +kernel
theorem dX3_dayWithDate_16 : decode cX3_dayWithDate 16 = .ok (.ireturn, 1) := by decide +kernel
theorem dX3_dayWithDate_17 : decode cX3_dayWithDate 17 = .ok (.aload_n 0, 1) := by decide +kernel
theorem dX3_dayWithDate_18 : decode cX3_dayWithDate 18 = .ok (.iload_n 1, 1) := by decide +kernel
theorem dX3_dayWithDate_19 : decode cX3_dayWithDate 19 = .ok (.iload_n 2, 1) := by decide +kernel
theorem dX3_dayWithDate_20 : decode cX3_dayWithDate 20 = .ok (.iload_n 3, 1) := by decide +kernel
theorem dX3_dayWithDate_21 : decode cX3_dayWithDate 21 = .ok (.invokevirtual 49, 3) := by decide +kernel
theorem dX3_dayWithDate_24 : decode cX3_dayWithDate 24 = .ok (.istore 4, 2) := by decide +kernel
theorem dX3_dayWithDate_26 : decode cX3_dayWithDate 26 = .ok (.aload_n 0, 1) := by decide +kernel
theorem dX3_dayWithDate_27 : decode cX3_dayWithDate 27 = .ok (.iload 4, 2) := by decide +kernel
theorem dX3_dayWithDate_29 : decode cX3_dayWithDate 29 = .ok (.invokevirtual 53, 3) := by decide +kernel
theorem dX3_dayWithDate_32 : decode cX3_dayWithDate 32 = .ok (.istore 5, 2) := by decide +kernel
theorem dX3_dayWithDate_34 : decode cX3_dayWithDate 34 = .ok (.aload_n 0, 1) := by decide +kernel
theorem dX3_dayWithDate_35 : decode cX3_dayWithDate 35 = .ok (.iload 5, 2) := by decide +kernel
theorem dX3_dayWithDate_37 : decode cX3_dayWithDate 37 = .ok (.invokevirtual 37, 3) := by decide +kernel
theorem dX3_dayWithDate_40 : decode cX3_dayWithDate 40 = .ok (.iload 4, 2) := by decide +kernel
theorem dX3_dayWithDate_42 : decode cX3_dayWithDate 42 = .ok (.if_icmp .ne 8, 3) := by decide +kernel
theorem dX3_dayWithDate_45 : decode cX3_dayWithDate 45 = .ok (.iload 5, 2) := by decide +kernel
theorem dX3_dayWithDate_47 : decode cX3_dayWithDate 47 = .ok (.goto 4, 3) := by decide +kernel
theorem dX3_dayWithDate_50 : decode cX3_dayWithDate 50 = .ok (.iconst (-1), 1) := by decide +kernel
theorem dX3_dayWithDate_51 : decode cX3_dayWithDate 51 = .ok (.ireturn, 1) := by decide +kernel
set_option maxRecDepth 20000 in
theorem ggX3_dueIn_X3_daysInMonth : GoodIn wsX3_dueIn wsX3_daysInMonth := goodIn_r _ [5, 6, 38, 39, 40, 41, 42] (by decide +kernel) (by decide +kernel)
set_option maxRecDepth 20000 in
theorem gX3_dueIn_X3_daysInMonth : GoodIn wsX3_dueIn (wsV RX3 46 RX3 yX3_daysInMonth wsX3_daysInMonth) := goodIn_app (goodIn_of _ (by decide +kernel)) ggX3_dueIn_X3_daysInMonth
set_option maxRecDepth 20000 in
theorem ggX3_dueIn_X3_dateOf : GoodIn wsX3_dueIn wsX3_dateOf := goodIn_r _ [10, 11, 12, 13, 4, 14, 6, 15, 16, 17, 18, 38, 39, 40, 41, 42] (by decide +kernel) (by decide +kernel)
set_option maxRecDepth 20000 in
theorem gX3_dueIn_X3_dateOf : GoodIn wsX3_dueIn (wsV RX3 49 RX3 yX3_dateOf wsX3_dateOf) := goodIn_app (goodIn_of _ (by decide +kernel)) ggX3_dueIn_X3_dateOf
set_option maxRecDepth 20000 in
theorem ggX3_dueIn_X3_firstDayFrom : GoodIn wsX3_dueIn wsX3_firstDayFrom := goodIn_r _ [22, 23, 24, 25, 38, 39, 40, 41, 42] (by decide +kernel) (by decide +kernel)
set_option maxRecDepth 20000 in
theorem gX3_dueIn_X3_firstDayFrom : GoodIn wsX3_dueIn (wsV RX3 53 RX3 yX3_firstDayFrom wsX3_firstDayFrom) := goodIn_app (goodIn_of _ (by decide +kernel)) ggX3_dueIn_X3_firstDayFrom
set_option maxRecDepth 20000 in
theorem ggX3_dueIn_X3_yearOn : GoodIn wsX3_dueIn wsX3_yearOn := goodIn_r _ [29, 6, 30, 31, 32, 4, 33, 23, 24, 25, 38, 39, 40, 41, 42] (by decide +kernel) (by decide +kernel)
set_option maxRecDepth 20000 in
theorem gX3_dueIn_X3_yearOn : GoodIn wsX3_dueIn (wsV RX3 64 RX3 yX3_yearOn wsX3_yearOn) := goodIn_app (goodIn_of _ (by decide +kernel)) ggX3_dueIn_X3_yearOn
theorem dX3_dueIn_0 : decode cX3_dueIn 0 = .ok (.aload_n 0, 1) := by decide +kernel
theorem dX3_dueIn_1 : decode cX3_dueIn 1 = .ok (.aload_n 1, 1) := by decide +kernel
theorem dX3_dueIn_2 : decode cX3_dueIn 2 = .ok (.getfield 56, 3) := by decide +kernel
theorem dX3_dueIn_5 : decode cX3_dueIn 5 = .ok (.invokevirtual 46, 3) := by decide +kernel
theorem dX3_dueIn_8 : decode cX3_dueIn 8 = .ok (.iconst 1, 1) := by decide +kernel
theorem dX3_dueIn_9 : decode cX3_dueIn 9 = .ok (.iadd, 1) := by decide +kernel
theorem dX3_dueIn_10 : decode cX3_dueIn 10 = .ok (.istore_n 3, 1) := by decide +kernel
theorem dX3_dueIn_11 : decode cX3_dueIn 11 = .ok (.aload_n 1, 1) := by decide +kernel
theorem dX3_dueIn_12 : decode cX3_dueIn 12 = .ok (.getfield 61, 3) := by decide +kernel
theorem dX3_dueIn_15 : decode cX3_dueIn 15 = .ok (.iload_n 3, 1) := by decide +kernel
theorem dX3_dueIn_16 : decode cX3_dueIn 16 = .ok (.if_icmp .ge 10, 3) := by decide +kernel
theorem dX3_dueIn_19 : decode cX3_dueIn 19 = .ok (.aload_n 1, 1) := by decide +kernel
theorem dX3_dueIn_20 : decode cX3_dueIn 20 = .ok (.getfield 61, 3) := by decide +kernel
theorem dX3_dueIn_23 : decode cX3_dueIn 23 = .ok (.goto 4, 3) := by decide +kernel
theorem dX3_dueIn_26 : decode cX3_dueIn 26 = .ok (.iload_n 3, 1) := by decide +kernel
theorem dX3_dueIn_27 : decode cX3_dueIn 27 = .ok (.istore 4, 2) := by decide +kernel
theorem dX3_dueIn_29 : decode cX3_dueIn 29 = .ok (.aload_n 0, 1) := by decide +kernel
theorem dX3_dueIn_30 : decode cX3_dueIn 30 = .ok (.aload_n 0, 1) := by decide +kernel
theorem dX3_dueIn_31 : decode cX3_dueIn 31 = .ok (.iload_n 2, 1) := by decide +kernel
theorem dX3_dueIn_32 : decode cX3_dueIn 32 = .ok (.aload_n 1, 1) := by decide +kernel
theorem dX3_dueIn_33 : decode cX3_dueIn 33 = .ok (.getfield 56, 3) := by decide +kernel
theorem dX3_dueIn_36 : decode cX3_dueIn 36 = .ok (.iload 4, 2) := by decide +kernel
theorem dX3_dueIn_38 : decode cX3_dueIn 38 = .ok (.invokevirtual 49, 3) := by decide +kernel
theorem dX3_dueIn_41 : decode cX3_dueIn 41 = .ok (.invokevirtual 53, 3) := by decide +kernel
theorem dX3_dueIn_44 : decode cX3_dueIn 44 = .ok (.istore 5, 2) := by decide +kernel
theorem dX3_dueIn_46 : decode cX3_dueIn 46 = .ok (.aload_n 0, 1) := by decide +kernel
theorem dX3_dueIn_47 : decode cX3_dueIn 47 = .ok (.iload 5, 2) := by decide +kernel
theorem dX3_dueIn_49 : decode cX3_dueIn 49 = .ok (.invokevirtual 64, 3) := by decide +kernel
theorem dX3_dueIn_52 : decode cX3_dueIn 52 = .ok (.iload_n 2, 1) := by decide +kernel
theorem dX3_dueIn_53 : decode cX3_dueIn 53 = .ok (.if_icmp .ne 8, 3) := by decide +kernel
theorem dX3_dueIn_56 : decode cX3_dueIn 56 = .ok (.iload 5, 2) := by decide +kernel
theorem dX3_dueIn_58 : decode cX3_dueIn 58 = .ok (.goto 4, 3) := by decide +kernel
theorem dX3_dueIn_61 : decode cX3_dueIn 61 = .ok (.iconst (-1), 1) := by decide +kernel
theorem dX3_dueIn_62 : decode cX3_dueIn 62 = .ok (.ireturn, 1) := by decide +kernel
