theorem dX1_byteAt_0 : decode cX1_byteAt 0 = .ok (.iload_n 1, 1) := by decide +kernel
theorem dX1_byteAt_1 : decode cX1_byteAt 1 = .ok (.ifCond .lt 20, 3) := by decide +kernel
theorem dX1_byteAt_4 : decode cX1_byteAt 4 = .ok (.iload_n 1, 1) := by decide +kernel
theorem dX1_byteAt_5 : decode cX1_byteAt 5 = .ok (.aload_n 0, 1) := by decide +kernel
theorem dX1_byteAt_6 : decode cX1_byteAt 6 = .ok (.getfield 15, 3) := by decide +kernel
theorem dX1_byteAt_9 : decode cX1_byteAt 9 = .ok (.if_icmp .ge 12, 3) := by decide +kernel
theorem dX1_byteAt_21 : decode cX1_byteAt 21 = .ok (.iconst (-1), 1) := by decide +kernel
theorem dX1_byteAt_22 : decode cX1_byteAt 22 = .ok (.ireturn, 1) := by decide +kernel
set_option maxRecDepth 20000 in
theorem ggX4_put_X4_isStream : GoodIn wsX4_put wsX4_isStream := goodIn_r _ [8, 1, 140, 141, 142] (by decide +kernel) (by decide +kernel)
set_option maxRecDepth 20000 in
theorem gX4_put_X4_isStream : GoodIn wsX4_put (wsV RX4 29 RX4 yX4_isStream wsX4_isStream) := goodIn_app (goodIn_of _ (by decide +kernel)) ggX4_put_X4_isStream
theorem dX4_put_0 : decode cX4_put 0 = .ok (.aload_n 0, 1) := by decide +kernel
theorem dX4_put_1 : decode cX4_put 1 = .ok (.iload_n 1, 1) := by decide +kernel
theorem dX4_put_2 : decode cX4_put 2 = .ok (.invokevirtual 29, 3) := by decide +kernel
theorem dX4_put_5 : decode cX4_put 5 = .ok (.ifCond .eq 16, 3) := by decide +kernel
theorem dX4_put_8 : decode cX4_put 8 = .ok (.iload 4, 2) := by decide +kernel
theorem dX4_put_10 : decode cX4_put 10 = .ok (.iconst 1, 1) := by decide +kernel
theorem dX4_put_11 : decode cX4_put 11 = .ok (.if_icmp .lt 10, 3) := by decide +kernel
theorem dX4_put_14 : decode cX4_put 14 = .ok (.iload 4, 2) := by decide +kernel
theorem dX4_put_16 : decode cX4_put 16 = .ok (.bipush 8, 2) := by decide +kernel
theorem dX4_put_18 : decode cX4_put 18 = .ok (.if_icmp .le 5, 3) := by decide +kernel
theorem dX4_put_21 : decode cX4_put 21 = .ok (.iconst (-1), 1) := by decide +kernel
theorem dX4_put_22 : decode cX4_put 22 = .ok (.ireturn, 1) := by decide +kernel
theorem dX4_put_23 : decode cX4_put 23 = .ok (.aload_n 0, 1) := by decide +kernel
theorem dX4_put_24 : decode cX4_put 24 = .ok (.getfield 11, 3) := by decide +kernel
theorem dX4_put_27 : decode cX4_put 27 = .ok (.iload_n 1, 1) := by decide +kernel
theorem dX4_put_28 : decode cX4_put 28 = .ok (.aaload, 1) := by decide +kernel
theorem dX4_put_29 : decode cX4_put 29 = .ok (.astore 5, 2) := by decide +kernel
theorem dX4_put_31 : decode cX4_put 31 = .ok (.aload 5, 2) := by decide +kernel
theorem dX4_put_33 : decode cX4_put 33 = .ok (.ifnull 11, 3) := by decide +kernel
theorem dX4_put_44 : decode cX4_put 44 = .ok (.bipush (-2), 2) := by decide +kernel
theorem dX4_put_46 : decode cX4_put 46 = .ok (.ireturn, 1) := by decide +kernel
set_option maxRecDepth 20000 in
theorem ggX4_pour_X4_isStream : GoodIn wsX4_pour wsX4_isStream := goodIn_r _ [13, 3, 149, 150, 151] (by decide +kernel) (by decide +kernel)
set_option maxRecDepth 20000 in
theorem gX4_pour_X4_isStream : GoodIn wsX4_pour (wsV RX4 29 RX4 yX4_isStream wsX4_isStream) := goodIn_app (goodIn_of _ (by decide +kernel)) ggX4_pour_X4_isStream
theorem dX4_pour_0 : decode cX4_pour 0 = .ok (.aload_n 0, 1) := by decide +kernel
theorem dX4_pour_1 : decode cX4_pour 1 = .ok (.iload_n 1, 1) := by decide +kernel
theorem dX4_pour_2 : decode cX4_pour 2 = .ok (.invokevirtual 29, 3) := by decide +kernel
theorem dX4_pour_5 : decode cX4_pour 5 = .ok (.ifCond .eq 22, 3) := by decide +kernel
theorem dX4_pour_8 : decode cX4_pour 8 = .ok (.iload_n 2, 1) := by decide +kernel
theorem dX4_pour_9 : decode cX4_pour 9 = .ok (.ifCond .lt 18, 3) := by decide +kernel
theorem dX4_pour_12 : decode cX4_pour 12 = .ok (.iload_n 2, 1) := by decide +kernel
theorem dX4_pour_13 : decode cX4_pour 13 = .ok (.aload_n 0, 1) := by decide +kernel
theorem dX4_pour_14 : decode cX4_pour 14 = .ok (.getfield 18, 3) := by decide +kernel
theorem dX4_pour_17 : decode cX4_pour 17 = .ok (.getfield 56, 3) := by decide +kernel
theorem dX4_pour_20 : decode cX4_pour 20 = .ok (.if_icmp .gt 7, 3) := by decide +kernel
theorem dX4_pour_23 : decode cX4_pour 23 = .ok (.iload_n 3, 1) := by decide +kernel
theorem dX4_pour_24 : decode cX4_pour 24 = .ok (.ifCond .ge 5, 3) := by decide +kernel
theorem dX4_pour_27 : decode cX4_pour 27 = .ok (.iconst (-1), 1) := by decide +kernel
theorem dX4_pour_28 : decode cX4_pour 28 = .ok (.ireturn, 1) := by decide +kernel
theorem dX4_pour_29 : decode cX4_pour 29 = .ok (.aload_n 0, 1) := by decide +kernel
theorem dX4_pour_30 : decode cX4_pour 30 = .ok (.getfield 11, 3) := by decide +kernel
theorem dX4_pour_33 : decode cX4_pour 33 = .ok (.iload_n 1, 1) := by decide +kernel
theorem dX4_pour_34 : decode cX4_pour 34 = .ok (.aaload, 1) := by decide +kernel
theorem dX4_pour_35 : decode cX4_pour 35 = .ok (.astore 4, 2) := by decide +kernel
theorem dX4_pour_37 : decode cX4_pour 37 = .ok (.aload 4, 2) := by decide +kernel
theorem dX4_pour_39 : decode cX4_pour 39 = .ok (.ifnull 11, 3) := by decide +kernel
theorem dX4_pour_50 : decode cX4_pour 50 = .ok (.bipush (-2), 2) := by decide +kernel
theorem dX4_pour_52 : decode cX4_pour 52 = .ok (.ireturn, 1) := by decide +kernel
set_option maxRecDepth 20000 in
theorem ggX4_end_X4_isStream : GoodIn wsX4_end wsX4_isStream := goodIn_r _ [8, 1, 132, 133, 134] (by decide +kernel) (by decide +kernel)
set_option maxRecDepth 20000 in
theorem gX4_end_X4_isStream : GoodIn wsX4_end (wsV RX4 29 RX4 yX4_isStream wsX4_isStream) := goodIn_app (goodIn_of _ (by decide +kernel)) ggX4_end_X4_isStream
theorem dX4_end_0 : decode cX4_end 0 = .ok (.aload_n 0, 1) := by decide +kernel
theorem dX4_end_1 : decode cX4_end 1 = .ok (.iload_n 1, 1) := by decide +kernel
theorem dX4_end_2 : decode cX4_end 2 = .ok (.invokevirtual 29, 3) := by decide +kernel
theorem dX4_end_5 : decode cX4_end 5 = .ok (.ifCond .ne 5, 3) := by decide +kernel
theorem dX4_end_8 : decode cX4_end 8 = .ok (.iconst (-1), 1) := by decide +kernel
theorem dX4_end_9 : decode cX4_end 9 = .ok (.ireturn, 1) := by decide +kernel
theorem dX4_end_10 : decode cX4_end 10 = .ok (.aload_n 0, 1) := by decide +kernel
theorem dX4_end_11 : decode cX4_end 11 = .ok (.getfield 11, 3) := by decide +kernel
theorem dX4_end_14 : decode cX4_end 14 = .ok (.iload_n 1, 1) := by decide +kernel
theorem dX4_end_15 : decode cX4_end 15 = .ok (.aaload, 1) := by decide +kernel
theorem dX4_end_16 : decode cX4_end 16 = .ok (.astore_n 2, 1) := by decide +kernel
theorem dX4_end_17 : decode cX4_end 17 = .ok (.aload_n 2, 1) := by decide +kernel
theorem dX4_end_18 : decode cX4_end 18 = .ok (.ifnull 10, 3) := by decide +kernel
theorem dX4_end_28 : decode cX4_end 28 = .ok (.bipush (-2), 2) := by decide +kernel
theorem dX4_end_30 : decode cX4_end 30 = .ok (.ireturn, 1) := by decide +kernel
set_option maxRecDepth 20000 in
theorem ggX4_about_X4_isStream : GoodIn wsX4_about wsX4_isStream := goodIn_r _ [6, 1, 21, 22, 23] (by decide +kernel) (by decide +kernel)
set_option maxRecDepth 20000 in
theorem gX4_about_X4_isStream : GoodIn wsX4_about (wsV RX4 29 RX4 yX4_isStream wsX4_isStream) := goodIn_app (goodIn_of _ (by decide +kernel)) ggX4_about_X4_isStream
theorem dX4_about_0 : decode cX4_about 0 = .ok (.aload_n 0, 1) := by decide +kernel
theorem dX4_about_1 : decode cX4_about 1 = .ok (.iload_n 1, 1) := by decide +kernel
theorem dX4_about_2 : decode cX4_about 2 = .ok (.invokevirtual 29, 3) := by decide +kernel
theorem dX4_about_5 : decode cX4_about 5 = .ok (.ifCond .eq 13, 3) := by decide +kernel
theorem dX4_about_8 : decode cX4_about 8 = .ok (.iload_n 2, 1) := by decide +kernel
theorem dX4_about_9 : decode cX4_about 9 = .ok (.ifCond .lt 9, 3) := by decide +kernel
theorem dX4_about_12 : decode cX4_about 12 = .ok (.iload_n 2, 1) := by decide +kernel
theorem dX4_about_13 : decode cX4_about 13 = .ok (.bipush 8, 2) := by decide +kernel
theorem dX4_about_15 : decode cX4_about 15 = .ok (.if_icmp .le 5, 3) := by decide +kernel
theorem dX4_about_18 : decode cX4_about 18 = .ok (.iconst (-1), 1) := by decide +kernel
theorem dX4_about_19 : decode cX4_about 19 = .ok (.ireturn, 1) := by decide +kernel
theorem dX4_about_20 : decode cX4_about 20 = .ok (.aload_n 0, 1) := by decide +kernel
theorem dX4_about_21 : decode cX4_about 21 = .ok (.getfield 11, 3) := by decide +kernel
theorem dX4_about_24 : decode cX4_about 24 = .ok (.iload_n 1, 1) := by decide +kernel
theorem dX4_about_25 : decode cX4_about 25 = .ok (.aaload, 1) := by decide +kernel
theorem dX4_about_26 : decode cX4_about 26 = .ok (.astore_n 3, 1) := by decide +kernel
theorem dX4_about_27 : decode cX4_about 27 = .ok (.aload_n 3, 1) := by decide +kernel
theorem dX4_about_28 : decode cX4_about 28 = .ok (.ifnonnull 8, 3) := by decide +kernel
theorem dX4_about_31 : decode cX4_about 31 = .ok (.bipush (-2), 2) := by decide +kernel
theorem dX4_about_33 : decode cX4_about 33 = .ok (.goto 8, 3) := by decide +kernel
theorem dX4_about_41 : decode cX4_about 41 = .ok (.ireturn, 1) := by decide +kernel
set_option maxRecDepth 20000 in
theorem ggX4_sign_X4_openStream : GoodIn wsX4_sign wsX4_openStream := goodIn_r _ [6, 7, 8, 9, 10, 5, 11, 34, 35, 36] (by decide +kernel) (by decide +kernel)
set_option maxRecDepth 20000 in
theorem gX4_sign_X4_openStream : GoodIn wsX4_sign (wsV RX4 72 RX4 yX4_openStream wsX4_openStream) := goodIn_app (goodIn_of _ (by decide +kernel)) ggX4_sign_X4_openStream
theorem dX4_sign_0 : decode cX4_sign 0 = .ok (.aload_n 0, 1) := by decide +kernel
theorem dX4_sign_1 : decode cX4_sign 1 = .ok (.iload_n 1, 1) := by decide +kernel
theorem dX4_sign_2 : decode cX4_sign 2 = .ok (.invokevirtual 72, 3) := by decide +kernel
theorem dX4_sign_5 : decode cX4_sign 5 = .ok (.astore_n 3, 1) := by decide +kernel
theorem dX4_sign_6 : decode cX4_sign 6 = .ok (.aload_n 3, 1) := by decide +kernel
theorem dX4_sign_7 : decode cX4_sign 7 = .ok (.ifnull 11, 3) := by decide +kernel
theorem dX4_sign_18 : decode cX4_sign 18 = .ok (.iconst (-1), 1) := by decide +kernel
theorem dX4_sign_19 : decode cX4_sign 19 = .ok (.ireturn, 1) := by decide +kernel
set_option maxRecDepth 20000 in
theorem ggX4_placed_X4_openStream : GoodIn wsX4_placed wsX4_openStream := goodIn_r _ [8, 9, 10, 11, 12, 7, 13, 36, 37, 38] (by decide +kernel) (by decide +kernel)
set_option maxRecDepth 20000 in
theorem gX4_placed_X4_openStream : GoodIn wsX4_placed (wsV RX4 72 RX4 yX4_openStream wsX4_openStream) := goodIn_app (goodIn_of _ (by decide +kernel)) ggX4_placed_X4_openStream
theorem dX4_placed_0 : decode cX4_placed 0 = .ok (.aload_n 0, 1) := by decide +kernel
theorem dX4_placed_1 : decode cX4_placed 1 = .ok (.iload_n 1, 1) := by decide +kernel
theorem dX4_placed_2 : decode cX4_placed 2 = .ok (.invokevirtual 72, 3) := by decide +kernel
theorem dX4_placed_5 : decode cX4_placed 5 = .ok (.astore 4, 2) := by decide +kernel
theorem dX4_placed_7 : decode cX4_placed 7 = .ok (.aload 4, 2) := by decide +kernel
theorem dX4_placed_9 : decode cX4_placed 9 = .ok (.ifnull 12, 3) := by decide +kernel
theorem dX4_placed_21 : decode cX4_placed 21 = .ok (.iconst (-1), 1) := by decide +kernel
theorem dX4_placed_22 : decode cX4_placed 22 = .ok (.ireturn, 1) := by decide +kernel
set_option maxRecDepth 20000 in
theorem ggX4_at_X4_openStream : GoodIn wsX4_at wsX4_openStream := goodIn_r _ [5, 6, 7, 8, 9, 4, 10, 19, 20, 21] (by decide +kernel) (by decide +kernel)
set_option maxRecDepth 20000 in
theorem gX4_at_X4_openStream : GoodIn wsX4_at (wsV RX4 72 RX4 yX4_openStream wsX4_openStream) := goodIn_app (goodIn_of _ (by decide +kernel)) ggX4_at_X4_openStream
theorem dX4_at_0 : decode cX4_at 0 = .ok (.aload_n 0, 1) := by decide +kernel
theorem dX4_at_1 : decode cX4_at 1 = .ok (.iload_n 1, 1) := by decide +kernel
theorem dX4_at_2 : decode cX4_at 2 = .ok (.invokevirtual 72, 3) := by decide +kernel
theorem dX4_at_5 : decode cX4_at 5 = .ok (.astore_n 3, 1) := by decide +kernel
theorem dX4_at_6 : decode cX4_at 6 = .ok (.aload_n 3, 1) := by decide +kernel
theorem dX4_at_7 : decode cX4_at 7 = .ok (.ifnonnull 7, 3) := by decide +kernel
theorem dX4_at_10 : decode cX4_at 10 = .ok (.iconst (-1), 1) := by decide +kernel
theorem dX4_at_11 : decode cX4_at 11 = .ok (.goto 8, 3) := by decide +kernel
theorem dX4_at_19 : decode cX4_at 19 = .ok (.ireturn, 1) := by decide +kernel
set_option maxRecDepth 20000 in
theorem ggX4_write_X4_isStream : GoodIn wsX4_write wsX4_isStream := goodIn_r _ [11, 1, 69, 70, 71] (by decide +kernel) (by decide +kernel)
set_option maxRecDepth 20000 in
theorem gX4_write_X4_isStream : GoodIn wsX4_write (wsV RX4 29 RX4 yX4_isStream wsX4_isStream) := goodIn_app (goodIn_of _ (by decide +kernel)) ggX4_write_X4_isStream
set_option maxRecDepth 20000 in
theorem ggX4_write_X4_isWritable : GoodIn wsX4_write wsX4_isWritable := goodIn_r _ [14] (by decide +kernel) (by decide +kernel)
set_option maxRecDepth 20000 in
theorem gX4_write_X4_isWritable : GoodIn wsX4_write (va_wsS RX4 95 yX4_isWritable wsX4_isWritable) := goodIn_app (goodIn_of _ (by decide +kernel)) ggX4_write_X4_isWritable
theorem dX4_write_0 : decode cX4_write 0 = .ok (.aload_n 0, 1) := by decide +kernel
theorem dX4_write_1 : decode cX4_write 1 = .ok (.iload_n 1, 1) := by decide +kernel
theorem dX4_write_2 : decode cX4_write 2 = .ok (.invokevirtual 29, 3) := by decide +kernel
theorem dX4_write_5 : decode cX4_write 5 = .ok (.ifCond .eq 10, 3) := by decide +kernel
theorem dX4_write_8 : decode cX4_write 8 = .ok (.iload_n 2, 1) := by decide +kernel
theorem dX4_write_9 : decode cX4_write 9 = .ok (.invokestatic 95, 3) := by decide +kernel
theorem dX4_write_12 : decode cX4_write 12 = .ok (.ifCond .ne 5, 3) := by decide +kernel
theorem dX4_write_15 : decode cX4_write 15 = .ok (.iconst (-1), 1) := by decide +kernel
theorem dX4_write_16 : decode cX4_write 16 = .ok (.ireturn, 1) := by decide +kernel
theorem dX4_write_17 : decode cX4_write 17 = .ok (.aload_n 0, 1) := by decide +kernel
theorem dX4_write_18 : decode cX4_write 18 = .ok (.getfield 11, 3) := by decide +kernel
theorem dX4_write_21 : decode cX4_write 21 = .ok (.iload_n 1, 1) := by decide +kernel
theorem dX4_write_22 : decode cX4_write 22 = .ok (.aaload, 1) := by decide +kernel
theorem dX4_write_23 : decode cX4_write 23 = .ok (.astore 4, 2) := by decide +kernel
theorem dX4_write_25 : decode cX4_write 25 = .ok (.aload 4, 2) := by decide +kernel
theorem dX4_write_27 : decode cX4_write 27 = .ok (.ifnonnull 6, 3) := by decide +kernel
theorem dX4_write_30 : decode cX4_write 30 = .ok (.bipush (-2), 2) := by decide +kernel
theorem dX4_write_32 : decode cX4_write 32 = .ok (.ireturn, 1) := by decide +kernel
set_option maxRecDepth 20000 in
theorem ggX4_size_X4_isStream : GoodIn wsX4_size wsX4_isStream := goodIn_r _ [7, 1, 23, 24, 25] (by decide +kernel) (by decide +kernel)
set_option maxRecDepth 20000 in
theorem gX4_size_X4_isStream : GoodIn wsX4_size (wsV RX4 29 RX4 yX4_isStream wsX4_isStream) := goodIn_app (goodIn_of _ (by decide +kernel)) ggX4_size_X4_isStream
set_option maxRecDepth 20000 in
theorem ggX4_size_X4_isWritable : GoodIn wsX4_size wsX4_isWritable := goodIn_r _ [10] (by decide +kernel) (by decide +kernel)
set_option maxRecDepth 20000 in
theorem gX4_size_X4_isWritable : GoodIn wsX4_size (va_wsS RX4 95 yX4_isWritable wsX4_isWritable) := goodIn_app (goodIn_of _ (by decide +kernel)) ggX4_size_X4_isWritable
theorem dX4_size_0 : decode cX4_size 0 = .ok (.aload_n 0, 1) := by decide +kernel
theorem dX4_size_1 : decode cX4_size 1 = .ok (.iload_n 1, 1) := by decide +kernel
theorem dX4_size_2 : decode cX4_size 2 = .ok (.invokevirtual 29, 3) := by decide +kernel
theorem dX4_size_5 : decode cX4_size 5 = .ok (.ifCond .eq 10, 3) := by decide +kernel
theorem dX4_size_8 : decode cX4_size 8 = .ok (.iload_n 2, 1) := by decide +kernel
theorem dX4_size_9 : decode cX4_size 9 = .ok (.invokestatic 95, 3) := by decide +kernel
theorem dX4_size_12 : decode cX4_size 12 = .ok (.ifCond .ne 5, 3) := by decide +kernel
theorem dX4_size_15 : decode cX4_size 15 = .ok (.iconst (-1), 1) := by decide +kernel
theorem dX4_size_16 : decode cX4_size 16 = .ok (.ireturn, 1) := by decide +kernel
theorem dX4_size_17 : decode cX4_size 17 = .ok (.aload_n 0, 1) := by decide +kernel
theorem dX4_size_18 : decode cX4_size 18 = .ok (.getfield 11, 3) := by decide +kernel
theorem dX4_size_21 : decode cX4_size 21 = .ok (.iload_n 1, 1) := by decide +kernel
theorem dX4_size_22 : decode cX4_size 22 = .ok (.aaload, 1) := by decide +kernel
theorem dX4_size_23 : decode cX4_size 23 = .ok (.astore 5, 2) := by decide +kernel
theorem dX4_size_25 : decode cX4_size 25 = .ok (.aload 5, 2) := by decide +kernel
theorem dX4_size_27 : decode cX4_size 27 = .ok (.ifnonnull 6, 3) := by decide +kernel
theorem dX4_size_30 : decode cX4_size 30 = .ok (.bipush (-2), 2) := by decide +kernel
theorem dX4_size_32 : decode cX4_size 32 = .ok (.ireturn, 1) := by decide +kernel
set_option maxRecDepth 20000 in
theorem ggX4_out_X1_byteAt : GoodIn wsX4_out wsX1_byteAt := goodIn_r _ [6, 7, 8, 12, 13] (by decide +kernel) (by decide +kernel)
set_option maxRecDepth 20000 in
theorem gX4_out_X1_byteAt : GoodIn wsX4_out (wsV RX4 65 RX1 yX1_byteAt wsX1_byteAt) := goodIn_app (goodIn_of _ (by decide +kernel)) ggX4_out_X1_byteAt
theorem dX4_out_0 : decode cX4_out 0 = .ok (.aload_n 0, 1) := by decide +kernel
theorem dX4_out_1 : decode cX4_out 1 = .ok (.getfield 18, 3) := by decide +kernel
theorem dX4_out_4 : decode cX4_out 4 = .ok (.iload_n 1, 1) := by decide +kernel
theorem dX4_out_5 : decode cX4_out 5 = .ok (.invokevirtual 65, 3) := by decide +kernel
theorem dX4_out_8 : decode cX4_out 8 = .ok (.ireturn, 1) := by decide +kernel
set_option maxRecDepth 20000 in
theorem ggX4_check_X4_isWritable : GoodIn wsX4_check wsX4_isWritable := goodIn_r _ [10] (by decide +kernel) (by decide +kernel)
set_option maxRecDepth 20000 in
theorem gX4_check_X4_isWritable : GoodIn wsX4_check (va_wsS RX4 95 yX4_isWritable wsX4_isWritable) := goodIn_app (goodIn_of _ (by decide +kernel)) ggX4_check_X4_isWritable
theorem dX4_check_0 : decode cX4_check 0 = .ok (.iload_n 1, 1) := by decide +kernel
theorem dX4_check_1 : decode cX4_check 1 = .ok (.invokestatic 95, 3) := by decide +kernel
theorem dX4_check_4 : decode cX4_check 4 = .ok (.ifCond .ne 5, 3) := by decide +kernel
theorem dX4_check_7 : decode cX4_check 7 = .ok (.iconst (-1), 1) := by decide +kernel
theorem dX4_check_8 : decode cX4_check 8 = .ok (.ireturn, 1) := by decide +kernel
theorem dX4_check_9 : decode cX4_check 9 = .ok (.iconst 0, 1) := by decide +kernel
theorem dX4_check_10 : decode cX4_check 10 = .ok (.istore_n 2, 1) := by decide +kernel
theorem dX4_check_11 : decode cX4_check 11 = .ok (.iconst 0, 1) := by decide +kernel
theorem dX4_check_12 : decode cX4_check 12 = .ok (.istore_n 3, 1) := by decide +kernel
theorem dX4_check_13 : decode cX4_check 13 = .ok (.iload_n 3, 1) := by decide +kernel
theorem dX4_check_14 : decode cX4_check 14 = .ok (.sipush 6000, 3) := by decide +kernel
theorem dX4_check_17 : decode cX4_check 17 = .ok (.if_icmp .ge 66, 3) := by decide +kernel
theorem dX4_check_20 : decode cX4_check 20 = .ok (.iload_n 2, 1) := by decide +kernel
theorem dX4_check_21 : decode cX4_check 21 = .ok (.aload_n 0, 1) := by decide +kernel
theorem dX4_check_22 : decode cX4_check 22 = .ok (.getfield 18, 3) := by decide +kernel
theorem dX4_check_25 : decode cX4_check 25 = .ok (.getfield 56, 3) := by decide +kernel
theorem dX4_check_28 : decode cX4_check 28 = .ok (.if_icmp .ge 55, 3) := by decide +kernel
theorem dX4_check_83 : decode cX4_check 83 = .ok (.bipush (-2), 2) := by decide +kernel
theorem dX4_check_85 : decode cX4_check 85 = .ok (.ireturn, 1) := by decide +kernel
set_option maxRecDepth 20000 in
theorem ggX4_order_X4_isStream : GoodIn wsX4_order wsX4_isStream := goodIn_r _ [12, 1, 33, 34, 35] (by decide +kernel) (by decide +kernel)
set_option maxRecDepth 20000 in
theorem gX4_order_X4_isStream : GoodIn wsX4_order (wsV RX4 29 RX4 yX4_isStream wsX4_isStream) := goodIn_app (goodIn_of _ (by decide +kernel)) ggX4_order_X4_isStream
theorem dX4_order_0 : decode cX4_order 0 = .ok (.aload_n 0, 1) := by decide +kernel
theorem dX4_order_1 : decode cX4_order 1 = .ok (.iload_n 1, 1) := by decide +kernel
theorem dX4_order_2 : decode cX4_order 2 = .ok (.invokevirtual 29, 3) := by decide +kernel
theorem dX4_order_5 : decode cX4_order 5 = .ok (.ifCond .eq 20, 3) := by decide +kernel
theorem dX4_order_8 : decode cX4_order 8 = .ok (.aload_n 0, 1) := by decide +kernel
theorem dX4_order_9 : decode cX4_order 9 = .ok (.iload_n 2, 1) := by decide +kernel
theorem dX4_order_10 : decode cX4_order 10 = .ok (.invokevirtual 29, 3) := by decide +kernel
theorem dX4_order_13 : decode cX4_order 13 = .ok (.ifCond .eq 12, 3) := by decide +kernel
theorem dX4_order_16 : decode cX4_order 16 = .ok (.iload_n 3, 1) := by decide +kernel
theorem dX4_order_17 : decode cX4_order 17 = .ok (.ifCond .lt 8, 3) := by decide +kernel
theorem dX4_order_20 : decode cX4_order 20 = .ok (.iload_n 3, 1) := by decide +kernel
theorem dX4_order_21 : decode cX4_order 21 = .ok (.iconst 2, 1) := by decide +kernel
theorem dX4_order_22 : decode cX4_order 22 = .ok (.if_icmp .le 5, 3) := by decide +kernel
theorem dX4_order_25 : decode cX4_order 25 = .ok (.iconst (-1), 1) := by decide +kernel
theorem dX4_order_26 : decode cX4_order 26 = .ok (.ireturn, 1) := by decide +kernel
theorem dX4_order_27 : decode cX4_order 27 = .ok (.aload_n 0, 1) := by decide +kernel
theorem dX4_order_28 : decode cX4_order 28 = .ok (.getfield 11, 3) := by decide +kernel
theorem dX4_order_31 : decode cX4_order 31 = .ok (.iload_n 1, 1) := by decide +kernel
theorem dX4_order_32 : decode cX4_order 32 = .ok (.aaload, 1) := by decide +kernel
theorem dX4_order_33 : decode cX4_order 33 = .ok (.astore 4, 2) := by decide +kernel
theorem dX4_order_35 : decode cX4_order 35 = .ok (.aload_n 0, 1) := by decide +kernel
theorem dX4_order_36 : decode cX4_order 36 = .ok (.getfield 11, 3) := by decide +kernel
theorem dX4_order_39 : decode cX4_order 39 = .ok (.iload_n 2, 1) := by decide +kernel
theorem dX4_order_40 : decode cX4_order 40 = .ok (.aaload, 1) := by decide +kernel
theorem dX4_order_41 : decode cX4_order 41 = .ok (.astore 5, 2) := by decide +kernel
theorem dX4_order_43 : decode cX4_order 43 = .ok (.aload 4, 2) := by decide +kernel
theorem dX4_order_45 : decode cX4_order 45 = .ok (.ifnull 8, 3) := by decide +kernel
theorem dX4_order_53 : decode cX4_order 53 = .ok (.bipush (-2), 2) := by decide +kernel
theorem dX4_order_55 : decode cX4_order 55 = .ok (.ireturn, 1) := by decide +kernel
set_option maxRecDepth 20000 in
theorem ggX4_among_X4_isStream : GoodIn wsX4_among wsX4_isStream := goodIn_r _ [6, 1, 14, 15, 16] (by decide +kernel) (by decide +kernel)
set_option maxRecDepth 20000 in
theorem gX4_among_X4_isStream : GoodIn wsX4_among (wsV RX4 29 RX4 yX4_isStream wsX4_isStream) := goodIn_app (goodIn_of _ (by decide +kernel)) ggX4_among_X4_isStream
theorem dX4_among_0 : decode cX4_among 0 = .ok (.aload_n 0, 1) := by decide +kernel
theorem dX4_among_1 : decode cX4_among 1 = .ok (.iload_n 1, 1) := by decide +kernel
theorem dX4_among_2 : decode cX4_among 2 = .ok (.invokevirtual 29, 3) := by decide +kernel
theorem dX4_among_5 : decode cX4_among 5 = .ok (.ifCond .ne 5, 3) := by decide +kernel
theorem dX4_among_8 : decode cX4_among 8 = .ok (.iconst (-1), 1) := by decide +kernel
theorem dX4_among_9 : decode cX4_among 9 = .ok (.ireturn, 1) := by decide +kernel
theorem dX4_among_10 : decode cX4_among 10 = .ok (.aload_n 0, 1) := by decide +kernel
theorem dX4_among_11 : decode cX4_among 11 = .ok (.getfield 11, 3) := by decide +kernel
theorem dX4_among_14 : decode cX4_among 14 = .ok (.iload_n 1, 1) := by decide +kernel
theorem dX4_among_15 : decode cX4_among 15 = .ok (.aaload, 1) := by decide +kernel
theorem dX4_among_16 : decode cX4_among 16 = .ok (.astore 4, 2) := by decide +kernel
theorem dX4_among_18 : decode cX4_among 18 = .ok (.aload 4, 2) := by decide +kernel
theorem dX4_among_20 : decode cX4_among 20 = .ok (.ifnonnull 8, 3) := by decide +kernel
theorem dX4_among_23 : decode cX4_among 23 = .ok (.bipush (-2), 2) := by decide +kernel
theorem dX4_among_25 : decode cX4_among 25 = .ok (.goto 10, 3) := by decide +kernel
theorem dX4_among_35 : decode cX4_among 35 = .ok (.ireturn, 1) := by decide +kernel
theorem dX4_isStream_0 : decode cX4_isStream 0 = .ok (.iload_n 1, 1) := by decide +kernel
theorem dX4_isStream_1 : decode cX4_isStream 1 = .ok (.ifCond .lt 16, 3) := by decide +kernel
theorem dX4_isStream_4 : decode cX4_isStream 4 = .ok (.iload_n 1, 1) := by decide +kernel
theorem dX4_isStream_5 : decode cX4_isStream 5 = .ok (.aload_n 0, 1) := by decide +kernel
theorem dX4_isStream_6 : decode cX4_isStream 6 = .ok (.getfield 11, 3) := by decide +kernel
theorem dX4_isStream_9 : decode cX4_isStream 9 = .ok (.arraylength, 1) := by decide +kernel
theorem dX4_isStream_10 : decode cX4_isStream 10 = .ok (.if_icmp .ge 7, 3) := by decide +kernel
theorem dX4_isStream_13 : decode cX4_isStream 13 = .ok (.iconst 1, 1) := by decide +kernel
theorem dX4_isStream_14 : decode cX4_isStream 14 = .ok (.goto 4, 3) := by decide +kernel
theorem dX4_isStream_17 : decode cX4_isStream 17 = .ok (.iconst 0, 1) := by decide +kernel
theorem dX4_isStream_18 : decode cX4_isStream 18 = .ok (.ireturn, 1) := by decide +kernel
set_option maxRecDepth 20000 in
theorem ggX4_openStream_X4_isStream : GoodIn wsX4_openStream wsX4_isStream := goodIn_r _ [6, 1, 7, 8, 9] (by decide +kernel) (by decide +kernel)
set_option maxRecDepth 20000 in
theorem gX4_openStream_X4_isStream : GoodIn wsX4_openStream (wsV RX4 29 RX4 yX4_isStream wsX4_isStream) := goodIn_app (goodIn_of _ (by decide +kernel)) ggX4_openStream_X4_isStream
theorem dX4_openStream_0 : decode cX4_openStream 0 = .ok (.aload_n 0, 1) := by decide +kernel
theorem dX4_openStream_1 : decode cX4_openStream 1 = .ok (.iload_n 1, 1) := by decide +kernel
theorem dX4_openStream_2 : decode cX4_openStream 2 = .ok (.invokevirtual 29, 3) := by decide +kernel
theorem dX4_openStream_5 : decode cX4_openStream 5 = .ok (.ifCond .eq 12, 3) := by decide +kernel
theorem dX4_openStream_8 : decode cX4_openStream 8 = .ok (.aload_n 0, 1) := by decide +kernel
theorem dX4_openStream_9 : decode cX4_openStream 9 = .ok (.getfield 11, 3) := by decide +kernel
theorem dX4_openStream_12 : decode cX4_openStream 12 = .ok (.iload_n 1, 1) := by decide +kernel
theorem dX4_openStream_13 : decode cX4_openStream 13 = .ok (.aaload, 1) := by decide +kernel
theorem dX4_openStream_14 : decode cX4_openStream 14 = .ok (.goto 4, 3) := by decide +kernel
theorem dX4_openStream_17 : decode cX4_openStream 17 = .ok (.aconst_null, 1) := by decide +kernel
theorem dX4_openStream_18 : decode cX4_openStream 18 = .ok (.areturn, 1) := by decide +kernel
theorem dX4_isWritable_0 : decode cX4_isWritable 0 = .ok (.iload_n 0, 1) := by decide +kernel
theorem dX4_isWritable_1 : decode cX4_isWritable 1 = .ok (.ifCond .lt 12, 3) := by decide +kernel
theorem dX4_isWritable_4 : decode cX4_isWritable 4 = .ok (.iload_n 0, 1) := by decide +kernel
theorem dX4_isWritable_5 : decode cX4_isWritable 5 = .ok (.iconst 5, 1) := by decide +kernel
theorem dX4_isWritable_6 : decode cX4_isWritable 6 = .ok (.if_icmp .gt 7, 3) := by decide +kernel
theorem dX4_isWritable_9 : decode cX4_isWritable 9 = .ok (.iconst 1, 1) := by decide +kernel
theorem dX4_isWritable_10 : decode cX4_isWritable 10 = .ok (.goto 4, 3) := by decide +kernel
theorem dX4_isWritable_13 : decode cX4_isWritable 13 = .ok (.iconst 0, 1) := by decide +kernel
theorem dX4_isWritable_14 : decode cX4_isWritable 14 = .ok (.ireturn, 1) := by decide +kernel
