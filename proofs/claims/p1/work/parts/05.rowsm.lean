theorem dX5_isStream_0 : decode cX5_isStream 0 = .ok (.iload_n 0, 1) := by decide +kernel
theorem dX5_isStream_1 : decode cX5_isStream 1 = .ok (.ifCond .lt 12, 3) := by decide +kernel
theorem dX5_isStream_4 : decode cX5_isStream 4 = .ok (.iload_n 0, 1) := by decide +kernel
theorem dX5_isStream_5 : decode cX5_isStream 5 = .ok (.iconst 4, 1) := by decide +kernel
theorem dX5_isStream_6 : decode cX5_isStream 6 = .ok (.if_icmp .ge 7, 3) := by decide +kernel
theorem dX5_isStream_9 : decode cX5_isStream 9 = .ok (.iconst 1, 1) := by decide +kernel
theorem dX5_isStream_10 : decode cX5_isStream 10 = .ok (.goto 4, 3) := by decide +kernel
theorem dX5_isStream_13 : decode cX5_isStream 13 = .ok (.iconst 0, 1) := by decide +kernel
theorem dX5_isStream_14 : decode cX5_isStream 14 = .ok (.ireturn, 1) := by decide +kernel
theorem dX5_isForm_0 : decode cX5_isForm 0 = .ok (.iload_n 0, 1) := by decide +kernel
theorem dX5_isForm_1 : decode cX5_isForm 1 = .ok (.ifCond .lt 13, 3) := by decide +kernel
theorem dX5_isForm_4 : decode cX5_isForm 4 = .ok (.iload_n 0, 1) := by decide +kernel
theorem dX5_isForm_5 : decode cX5_isForm 5 = .ok (.bipush 6, 2) := by decide +kernel
theorem dX5_isForm_7 : decode cX5_isForm 7 = .ok (.if_icmp .ge 7, 3) := by decide +kernel
theorem dX5_isForm_10 : decode cX5_isForm 10 = .ok (.iconst 1, 1) := by decide +kernel
theorem dX5_isForm_11 : decode cX5_isForm 11 = .ok (.goto 4, 3) := by decide +kernel
theorem dX5_isForm_14 : decode cX5_isForm 14 = .ok (.iconst 0, 1) := by decide +kernel
theorem dX5_isForm_15 : decode cX5_isForm 15 = .ok (.ireturn, 1) := by decide +kernel
theorem dX5_takes_0 : decode cX5_takes 0 = .ok (.aload_n 0, 1) := by decide +kernel
theorem dX5_takes_1 : decode cX5_takes 1 = .ok (.getfield 7, 3) := by decide +kernel
theorem dX5_takes_4 : decode cX5_takes 4 = .ok (.iload_n 1, 1) := by decide +kernel
theorem dX5_takes_5 : decode cX5_takes 5 = .ok (.baload, 1) := by decide +kernel
theorem dX5_takes_6 : decode cX5_takes 6 = .ok (.ifCond .eq 16, 3) := by decide +kernel
theorem dX5_takes_22 : decode cX5_takes 22 = .ok (.iconst 0, 1) := by decide +kernel
theorem dX5_takes_23 : decode cX5_takes 23 = .ok (.ireturn, 1) := by decide +kernel
set_option maxRecDepth 20000 in
theorem ggX5_put_X5_isStream : GoodIn wsX5_put wsX5_isStream := goodIn_r _ [7] (by decide +kernel) (by decide +kernel)
set_option maxRecDepth 20000 in
theorem gX5_put_X5_isStream : GoodIn wsX5_put (va_wsS RX5 134 yX5_isStream wsX5_isStream) := goodIn_app (goodIn_of _ (by decide +kernel)) ggX5_put_X5_isStream
set_option maxRecDepth 20000 in
theorem ggX5_put_X5_takes : GoodIn wsX5_put wsX5_takes := goodIn_r _ [11, 12, 13, 90, 91, 92, 93, 94, 95, 96, 97, 98, 99, 100, 101, 102, 103, 104, 105, 106, 107, 108, 109, 110, 111, 112] (by decide +kernel) (by decide +kernel)
set_option maxRecDepth 20000 in
theorem gX5_put_X5_takes : GoodIn wsX5_put (wsV RX5 142 RX5 yX5_takes wsX5_takes) := goodIn_app (goodIn_of _ (by decide +kernel)) ggX5_put_X5_takes
theorem dX5_put_0 : decode cX5_put 0 = .ok (.iload_n 1, 1) := by decide +kernel
theorem dX5_put_1 : decode cX5_put 1 = .ok (.invokestatic 134, 3) := by decide +kernel
theorem dX5_put_4 : decode cX5_put 4 = .ok (.ifCond .eq 16, 3) := by decide +kernel
theorem dX5_put_7 : decode cX5_put 7 = .ok (.iload 4, 2) := by decide +kernel
theorem dX5_put_9 : decode cX5_put 9 = .ok (.iconst 1, 1) := by decide +kernel
theorem dX5_put_10 : decode cX5_put 10 = .ok (.if_icmp .lt 10, 3) := by decide +kernel
theorem dX5_put_13 : decode cX5_put 13 = .ok (.iload 4, 2) := by decide +kernel
theorem dX5_put_15 : decode cX5_put 15 = .ok (.bipush 8, 2) := by decide +kernel
theorem dX5_put_17 : decode cX5_put 17 = .ok (.if_icmp .le 5, 3) := by decide +kernel
theorem dX5_put_20 : decode cX5_put 20 = .ok (.iconst (-1), 1) := by decide +kernel
theorem dX5_put_21 : decode cX5_put 21 = .ok (.ireturn, 1) := by decide +kernel
theorem dX5_put_22 : decode cX5_put 22 = .ok (.aload_n 0, 1) := by decide +kernel
theorem dX5_put_23 : decode cX5_put 23 = .ok (.iload_n 1, 1) := by decide +kernel
theorem dX5_put_24 : decode cX5_put 24 = .ok (.invokevirtual 142, 3) := by decide +kernel
theorem dX5_put_27 : decode cX5_put 27 = .ok (.ifCond .ne 6, 3) := by decide +kernel
theorem dX5_put_30 : decode cX5_put 30 = .ok (.bipush (-2), 2) := by decide +kernel
theorem dX5_put_32 : decode cX5_put 32 = .ok (.ireturn, 1) := by decide +kernel
set_option maxRecDepth 20000 in
theorem ggX5_pour_X5_isStream : GoodIn wsX5_pour wsX5_isStream := goodIn_r _ [8] (by decide +kernel) (by decide +kernel)
set_option maxRecDepth 20000 in
theorem gX5_pour_X5_isStream : GoodIn wsX5_pour (va_wsS RX5 134 yX5_isStream wsX5_isStream) := goodIn_app (goodIn_of _ (by decide +kernel)) ggX5_pour_X5_isStream
set_option maxRecDepth 20000 in
theorem ggX5_pour_X5_takes : GoodIn wsX5_pour wsX5_takes := goodIn_r _ [12, 13, 14, 92, 93, 94, 95, 96, 97, 98, 99, 100, 101, 102, 103, 104, 105, 106, 107, 108, 109, 110, 111, 112, 113, 114] (by decide +kernel) (by decide +kernel)
set_option maxRecDepth 20000 in
theorem gX5_pour_X5_takes : GoodIn wsX5_pour (wsV RX5 142 RX5 yX5_takes wsX5_takes) := goodIn_app (goodIn_of _ (by decide +kernel)) ggX5_pour_X5_takes
theorem dX5_pour_0 : decode cX5_pour 0 = .ok (.iload_n 1, 1) := by decide +kernel
theorem dX5_pour_1 : decode cX5_pour 1 = .ok (.invokestatic 134, 3) := by decide +kernel
theorem dX5_pour_4 : decode cX5_pour 4 = .ok (.ifCond .eq 19, 3) := by decide +kernel
theorem dX5_pour_7 : decode cX5_pour 7 = .ok (.iload_n 2, 1) := by decide +kernel
theorem dX5_pour_8 : decode cX5_pour 8 = .ok (.ifCond .lt 15, 3) := by decide +kernel
theorem dX5_pour_11 : decode cX5_pour 11 = .ok (.iload_n 2, 1) := by decide +kernel
theorem dX5_pour_12 : decode cX5_pour 12 = .ok (.aload_n 0, 1) := by decide +kernel
theorem dX5_pour_13 : decode cX5_pour 13 = .ok (.getfield 68, 3) := by decide +kernel
theorem dX5_pour_16 : decode cX5_pour 16 = .ok (.if_icmp .gt 7, 3) := by decide +kernel
theorem dX5_pour_19 : decode cX5_pour 19 = .ok (.iload_n 3, 1) := by decide +kernel
theorem dX5_pour_20 : decode cX5_pour 20 = .ok (.ifCond .ge 5, 3) := by decide +kernel
theorem dX5_pour_23 : decode cX5_pour 23 = .ok (.iconst (-1), 1) := by decide +kernel
theorem dX5_pour_24 : decode cX5_pour 24 = .ok (.ireturn, 1) := by decide +kernel
theorem dX5_pour_25 : decode cX5_pour 25 = .ok (.aload_n 0, 1) := by decide +kernel
theorem dX5_pour_26 : decode cX5_pour 26 = .ok (.iload_n 1, 1) := by decide +kernel
theorem dX5_pour_27 : decode cX5_pour 27 = .ok (.invokevirtual 142, 3) := by decide +kernel
theorem dX5_pour_30 : decode cX5_pour 30 = .ok (.ifCond .ne 6, 3) := by decide +kernel
theorem dX5_pour_33 : decode cX5_pour 33 = .ok (.bipush (-2), 2) := by decide +kernel
theorem dX5_pour_35 : decode cX5_pour 35 = .ok (.ireturn, 1) := by decide +kernel
set_option maxRecDepth 20000 in
theorem ggX5_end_X5_isStream : GoodIn wsX5_end wsX5_isStream := goodIn_r _ [6] (by decide +kernel) (by decide +kernel)
set_option maxRecDepth 20000 in
theorem gX5_end_X5_isStream : GoodIn wsX5_end (va_wsS RX5 134 yX5_isStream wsX5_isStream) := goodIn_app (goodIn_of _ (by decide +kernel)) ggX5_end_X5_isStream
set_option maxRecDepth 20000 in
theorem ggX5_end_X5_takes : GoodIn wsX5_end wsX5_takes := goodIn_r _ [10, 11, 1, 90, 91, 92, 93, 94, 95, 96, 97, 98, 99, 100, 101, 102, 103, 104, 105, 106, 107, 108, 109, 110, 111, 112] (by decide +kernel) (by decide +kernel)
set_option maxRecDepth 20000 in
theorem gX5_end_X5_takes : GoodIn wsX5_end (wsV RX5 142 RX5 yX5_takes wsX5_takes) := goodIn_app (goodIn_of _ (by decide +kernel)) ggX5_end_X5_takes
theorem dX5_end_0 : decode cX5_end 0 = .ok (.iload_n 1, 1) := by decide +kernel
theorem dX5_end_1 : decode cX5_end 1 = .ok (.invokestatic 134, 3) := by decide +kernel
theorem dX5_end_4 : decode cX5_end 4 = .ok (.ifCond .ne 5, 3) := by decide +kernel
theorem dX5_end_7 : decode cX5_end 7 = .ok (.iconst (-1), 1) := by decide +kernel
theorem dX5_end_8 : decode cX5_end 8 = .ok (.ireturn, 1) := by decide +kernel
theorem dX5_end_9 : decode cX5_end 9 = .ok (.aload_n 0, 1) := by decide +kernel
theorem dX5_end_10 : decode cX5_end 10 = .ok (.iload_n 1, 1) := by decide +kernel
theorem dX5_end_11 : decode cX5_end 11 = .ok (.invokevirtual 142, 3) := by decide +kernel
theorem dX5_end_14 : decode cX5_end 14 = .ok (.ifCond .ne 6, 3) := by decide +kernel
theorem dX5_end_17 : decode cX5_end 17 = .ok (.bipush (-2), 2) := by decide +kernel
theorem dX5_end_19 : decode cX5_end 19 = .ok (.ireturn, 1) := by decide +kernel
set_option maxRecDepth 20000 in
theorem ggX5_about_X5_isStream : GoodIn wsX5_about wsX5_isStream := goodIn_r _ [14] (by decide +kernel) (by decide +kernel)
set_option maxRecDepth 20000 in
theorem gX5_about_X5_isStream : GoodIn wsX5_about (va_wsS RX5 134 yX5_isStream wsX5_isStream) := goodIn_app (goodIn_of _ (by decide +kernel)) ggX5_about_X5_isStream
theorem dX5_about_0 : decode cX5_about 0 = .ok (.iload_n 1, 1) := by decide +kernel
theorem dX5_about_1 : decode cX5_about 1 = .ok (.invokestatic 134, 3) := by decide +kernel
theorem dX5_about_4 : decode cX5_about 4 = .ok (.ifCond .eq 13, 3) := by decide +kernel
theorem dX5_about_7 : decode cX5_about 7 = .ok (.iload_n 2, 1) := by decide +kernel
theorem dX5_about_8 : decode cX5_about 8 = .ok (.ifCond .lt 9, 3) := by decide +kernel
theorem dX5_about_11 : decode cX5_about 11 = .ok (.iload_n 2, 1) := by decide +kernel
theorem dX5_about_12 : decode cX5_about 12 = .ok (.bipush 8, 2) := by decide +kernel
theorem dX5_about_14 : decode cX5_about 14 = .ok (.if_icmp .le 5, 3) := by decide +kernel
theorem dX5_about_17 : decode cX5_about 17 = .ok (.iconst (-1), 1) := by decide +kernel
theorem dX5_about_18 : decode cX5_about 18 = .ok (.ireturn, 1) := by decide +kernel
theorem dX5_about_19 : decode cX5_about 19 = .ok (.aload_n 0, 1) := by decide +kernel
theorem dX5_about_20 : decode cX5_about 20 = .ok (.getfield 7, 3) := by decide +kernel
theorem dX5_about_23 : decode cX5_about 23 = .ok (.iload_n 1, 1) := by decide +kernel
theorem dX5_about_24 : decode cX5_about 24 = .ok (.baload, 1) := by decide +kernel
theorem dX5_about_25 : decode cX5_about 25 = .ok (.ifCond .ne 6, 3) := by decide +kernel
theorem dX5_about_28 : decode cX5_about 28 = .ok (.bipush (-2), 2) := by decide +kernel
theorem dX5_about_30 : decode cX5_about 30 = .ok (.ireturn, 1) := by decide +kernel
set_option maxRecDepth 20000 in
theorem ggX5_isSign_X5_isStream : GoodIn wsX5_isSign wsX5_isStream := goodIn_r _ [6] (by decide +kernel) (by decide +kernel)
set_option maxRecDepth 20000 in
theorem gX5_isSign_X5_isStream : GoodIn wsX5_isSign (va_wsS RX5 134 yX5_isStream wsX5_isStream) := goodIn_app (goodIn_of _ (by decide +kernel)) ggX5_isSign_X5_isStream
theorem dX5_isSign_0 : decode cX5_isSign 0 = .ok (.iload_n 1, 1) := by decide +kernel
theorem dX5_isSign_1 : decode cX5_isSign 1 = .ok (.invokestatic 134, 3) := by decide +kernel
theorem dX5_isSign_4 : decode cX5_isSign 4 = .ok (.ifCond .eq 30, 3) := by decide +kernel
theorem dX5_isSign_7 : decode cX5_isSign 7 = .ok (.aload_n 0, 1) := by decide +kernel
theorem dX5_isSign_8 : decode cX5_isSign 8 = .ok (.getfield 7, 3) := by decide +kernel
theorem dX5_isSign_11 : decode cX5_isSign 11 = .ok (.iload_n 1, 1) := by decide +kernel
theorem dX5_isSign_12 : decode cX5_isSign 12 = .ok (.baload, 1) := by decide +kernel
theorem dX5_isSign_13 : decode cX5_isSign 13 = .ok (.ifCond .eq 21, 3) := by decide +kernel
theorem dX5_isSign_34 : decode cX5_isSign 34 = .ok (.iconst 0, 1) := by decide +kernel
theorem dX5_isSign_35 : decode cX5_isSign 35 = .ok (.ireturn, 1) := by decide +kernel
set_option maxRecDepth 20000 in
theorem ggX5_sign_X5_isSign : GoodIn wsX5_sign wsX5_isSign := goodIn_r _ [6, 7, 8, 9, 10, 5, 11, 12, 13, 14, 15, 16, 17, 18, 19, 20, 21, 22, 23, 24, 25, 26, 27, 28, 29, 30, 31, 32, 33, 34] (by decide +kernel) (by decide +kernel)
set_option maxRecDepth 20000 in
theorem gX5_sign_X5_isSign : GoodIn wsX5_sign (wsV RX5 145 RX5 yX5_isSign wsX5_isSign) := goodIn_app (goodIn_of _ (by decide +kernel)) ggX5_sign_X5_isSign
theorem dX5_sign_0 : decode cX5_sign 0 = .ok (.aload_n 0, 1) := by decide +kernel
theorem dX5_sign_1 : decode cX5_sign 1 = .ok (.iload_n 1, 1) := by decide +kernel
theorem dX5_sign_2 : decode cX5_sign 2 = .ok (.iload_n 2, 1) := by decide +kernel
theorem dX5_sign_3 : decode cX5_sign 3 = .ok (.invokevirtual 145, 3) := by decide +kernel
theorem dX5_sign_6 : decode cX5_sign 6 = .ok (.ifCond .eq 18, 3) := by decide +kernel
theorem dX5_sign_24 : decode cX5_sign 24 = .ok (.iconst (-1), 1) := by decide +kernel
theorem dX5_sign_25 : decode cX5_sign 25 = .ok (.ireturn, 1) := by decide +kernel
set_option maxRecDepth 20000 in
theorem ggX5_placed_X5_isSign : GoodIn wsX5_placed wsX5_isSign := goodIn_r _ [8, 9, 10, 11, 12, 7, 13, 14, 15, 16, 17, 18, 19, 20, 21, 22, 23, 24, 25, 26, 27, 28, 29, 30, 31, 32, 33, 34, 35, 36] (by decide +kernel) (by decide +kernel)
set_option maxRecDepth 20000 in
theorem gX5_placed_X5_isSign : GoodIn wsX5_placed (wsV RX5 145 RX5 yX5_isSign wsX5_isSign) := goodIn_app (goodIn_of _ (by decide +kernel)) ggX5_placed_X5_isSign
theorem dX5_placed_0 : decode cX5_placed 0 = .ok (.aload_n 0, 1) := by decide +kernel
theorem dX5_placed_1 : decode cX5_placed 1 = .ok (.iload_n 1, 1) := by decide +kernel
theorem dX5_placed_2 : decode cX5_placed 2 = .ok (.iload_n 2, 1) := by decide +kernel
theorem dX5_placed_3 : decode cX5_placed 3 = .ok (.invokevirtual 145, 3) := by decide +kernel
theorem dX5_placed_6 : decode cX5_placed 6 = .ok (.ifCond .eq 12, 3) := by decide +kernel
theorem dX5_placed_18 : decode cX5_placed 18 = .ok (.iconst (-1), 1) := by decide +kernel
theorem dX5_placed_19 : decode cX5_placed 19 = .ok (.ireturn, 1) := by decide +kernel
set_option maxRecDepth 20000 in
theorem ggX5_at_X5_isStream : GoodIn wsX5_at wsX5_isStream := goodIn_r _ [8] (by decide +kernel) (by decide +kernel)
set_option maxRecDepth 20000 in
theorem gX5_at_X5_isStream : GoodIn wsX5_at (va_wsS RX5 134 yX5_isStream wsX5_isStream) := goodIn_app (goodIn_of _ (by decide +kernel)) ggX5_at_X5_isStream
theorem dX5_at_0 : decode cX5_at 0 = .ok (.iload_n 1, 1) := by decide +kernel
theorem dX5_at_1 : decode cX5_at 1 = .ok (.invokestatic 134, 3) := by decide +kernel
theorem dX5_at_4 : decode cX5_at 4 = .ok (.ifCond .eq 12, 3) := by decide +kernel
theorem dX5_at_7 : decode cX5_at 7 = .ok (.aload_n 0, 1) := by decide +kernel
theorem dX5_at_8 : decode cX5_at 8 = .ok (.getfield 7, 3) := by decide +kernel
theorem dX5_at_11 : decode cX5_at 11 = .ok (.iload_n 1, 1) := by decide +kernel
theorem dX5_at_12 : decode cX5_at 12 = .ok (.baload, 1) := by decide +kernel
theorem dX5_at_13 : decode cX5_at 13 = .ok (.ifCond .ne 5, 3) := by decide +kernel
theorem dX5_at_16 : decode cX5_at 16 = .ok (.iconst (-1), 1) := by decide +kernel
theorem dX5_at_17 : decode cX5_at 17 = .ok (.ireturn, 1) := by decide +kernel
set_option maxRecDepth 20000 in
theorem ggX5_write_X5_isStream : GoodIn wsX5_write wsX5_isStream := goodIn_r _ [12] (by decide +kernel) (by decide +kernel)
set_option maxRecDepth 20000 in
theorem gX5_write_X5_isStream : GoodIn wsX5_write (va_wsS RX5 134 yX5_isStream wsX5_isStream) := goodIn_app (goodIn_of _ (by decide +kernel)) ggX5_write_X5_isStream
set_option maxRecDepth 20000 in
theorem ggX5_write_X5_isForm : GoodIn wsX5_write wsX5_isForm := goodIn_r _ [15] (by decide +kernel) (by decide +kernel)
set_option maxRecDepth 20000 in
theorem gX5_write_X5_isForm : GoodIn wsX5_write (va_wsS RX5 162 yX5_isForm wsX5_isForm) := goodIn_app (goodIn_of _ (by decide +kernel)) ggX5_write_X5_isForm
theorem dX5_write_0 : decode cX5_write 0 = .ok (.iload_n 1, 1) := by decide +kernel
theorem dX5_write_1 : decode cX5_write 1 = .ok (.invokestatic 134, 3) := by decide +kernel
theorem dX5_write_4 : decode cX5_write 4 = .ok (.ifCond .eq 10, 3) := by decide +kernel
theorem dX5_write_7 : decode cX5_write 7 = .ok (.iload_n 2, 1) := by decide +kernel
theorem dX5_write_8 : decode cX5_write 8 = .ok (.invokestatic 162, 3) := by decide +kernel
theorem dX5_write_11 : decode cX5_write 11 = .ok (.ifCond .ne 5, 3) := by decide +kernel
theorem dX5_write_14 : decode cX5_write 14 = .ok (.iconst (-1), 1) := by decide +kernel
theorem dX5_write_15 : decode cX5_write 15 = .ok (.ireturn, 1) := by decide +kernel
theorem dX5_write_16 : decode cX5_write 16 = .ok (.aload_n 0, 1) := by decide +kernel
theorem dX5_write_17 : decode cX5_write 17 = .ok (.getfield 7, 3) := by decide +kernel
theorem dX5_write_20 : decode cX5_write 20 = .ok (.iload_n 1, 1) := by decide +kernel
theorem dX5_write_21 : decode cX5_write 21 = .ok (.baload, 1) := by decide +kernel
theorem dX5_write_22 : decode cX5_write 22 = .ok (.ifCond .ne 6, 3) := by decide +kernel
theorem dX5_write_25 : decode cX5_write 25 = .ok (.bipush (-2), 2) := by decide +kernel
theorem dX5_write_27 : decode cX5_write 27 = .ok (.ireturn, 1) := by decide +kernel
set_option maxRecDepth 20000 in
theorem ggX5_size_X5_isStream : GoodIn wsX5_size wsX5_isStream := goodIn_r _ [7] (by decide +kernel) (by decide +kernel)
set_option maxRecDepth 20000 in
theorem gX5_size_X5_isStream : GoodIn wsX5_size (va_wsS RX5 134 yX5_isStream wsX5_isStream) := goodIn_app (goodIn_of _ (by decide +kernel)) ggX5_size_X5_isStream
set_option maxRecDepth 20000 in
theorem ggX5_size_X5_isForm : GoodIn wsX5_size wsX5_isForm := goodIn_r _ [10] (by decide +kernel) (by decide +kernel)
set_option maxRecDepth 20000 in
theorem gX5_size_X5_isForm : GoodIn wsX5_size (va_wsS RX5 162 yX5_isForm wsX5_isForm) := goodIn_app (goodIn_of _ (by decide +kernel)) ggX5_size_X5_isForm
theorem dX5_size_0 : decode cX5_size 0 = .ok (.iload_n 1, 1) := by decide +kernel
theorem dX5_size_1 : decode cX5_size 1 = .ok (.invokestatic 134, 3) := by decide +kernel
theorem dX5_size_4 : decode cX5_size 4 = .ok (.ifCond .eq 10, 3) := by decide +kernel
theorem dX5_size_7 : decode cX5_size 7 = .ok (.iload_n 2, 1) := by decide +kernel
theorem dX5_size_8 : decode cX5_size 8 = .ok (.invokestatic 162, 3) := by decide +kernel
theorem dX5_size_11 : decode cX5_size 11 = .ok (.ifCond .ne 5, 3) := by decide +kernel
theorem dX5_size_14 : decode cX5_size 14 = .ok (.iconst (-1), 1) := by decide +kernel
theorem dX5_size_15 : decode cX5_size 15 = .ok (.ireturn, 1) := by decide +kernel
theorem dX5_size_16 : decode cX5_size 16 = .ok (.aload_n 0, 1) := by decide +kernel
theorem dX5_size_17 : decode cX5_size 17 = .ok (.getfield 7, 3) := by decide +kernel
theorem dX5_size_20 : decode cX5_size 20 = .ok (.iload_n 1, 1) := by decide +kernel
theorem dX5_size_21 : decode cX5_size 21 = .ok (.baload, 1) := by decide +kernel
theorem dX5_size_22 : decode cX5_size 22 = .ok (.ifCond .ne 6, 3) := by decide +kernel
theorem dX5_size_25 : decode cX5_size 25 = .ok (.bipush (-2), 2) := by decide +kernel
theorem dX5_size_27 : decode cX5_size 27 = .ok (.ireturn, 1) := by decide +kernel
theorem dX5_out_0 : decode cX5_out 0 = .ok (.iload_n 1, 1) := by decide +kernel
theorem dX5_out_1 : decode cX5_out 1 = .ok (.ifCond .lt 11, 3) := by decide +kernel
theorem dX5_out_4 : decode cX5_out 4 = .ok (.iload_n 1, 1) := by decide +kernel
theorem dX5_out_5 : decode cX5_out 5 = .ok (.aload_n 0, 1) := by decide +kernel
theorem dX5_out_6 : decode cX5_out 6 = .ok (.getfield 68, 3) := by decide +kernel
theorem dX5_out_9 : decode cX5_out 9 = .ok (.if_icmp .lt 7, 3) := by decide +kernel
theorem dX5_out_12 : decode cX5_out 12 = .ok (.iconst (-1), 1) := by decide +kernel
theorem dX5_out_13 : decode cX5_out 13 = .ok (.goto 9, 3) := by decide +kernel
theorem dX5_out_22 : decode cX5_out 22 = .ok (.ireturn, 1) := by decide +kernel
set_option maxRecDepth 20000 in
theorem ggX5_check_X5_isForm : GoodIn wsX5_check wsX5_isForm := goodIn_r _ [8] (by decide +kernel) (by decide +kernel)
set_option maxRecDepth 20000 in
theorem gX5_check_X5_isForm : GoodIn wsX5_check (va_wsS RX5 162 yX5_isForm wsX5_isForm) := goodIn_app (goodIn_of _ (by decide +kernel)) ggX5_check_X5_isForm
theorem dX5_check_0 : decode cX5_check 0 = .ok (.iload_n 1, 1) := by decide +kernel
theorem dX5_check_1 : decode cX5_check 1 = .ok (.invokestatic 162, 3) := by decide +kernel
theorem dX5_check_4 : decode cX5_check 4 = .ok (.ifCond .ne 5, 3) := by decide +kernel
theorem dX5_check_7 : decode cX5_check 7 = .ok (.iconst (-1), 1) := by decide +kernel
theorem dX5_check_8 : decode cX5_check 8 = .ok (.ireturn, 1) := by decide +kernel
theorem dX5_check_9 : decode cX5_check 9 = .ok (.iconst 0, 1) := by decide +kernel
theorem dX5_check_10 : decode cX5_check 10 = .ok (.istore_n 2, 1) := by decide +kernel
theorem dX5_check_11 : decode cX5_check 11 = .ok (.iload_n 2, 1) := by decide +kernel
theorem dX5_check_12 : decode cX5_check 12 = .ok (.aload_n 0, 1) := by decide +kernel
theorem dX5_check_13 : decode cX5_check 13 = .ok (.getfield 68, 3) := by decide +kernel
theorem dX5_check_16 : decode cX5_check 16 = .ok (.if_icmp .ge 21, 3) := by decide +kernel
theorem dX5_check_37 : decode cX5_check 37 = .ok (.iconst 0, 1) := by decide +kernel
theorem dX5_check_38 : decode cX5_check 38 = .ok (.istore_n 2, 1) := by decide +kernel
theorem dX5_check_39 : decode cX5_check 39 = .ok (.iload_n 2, 1) := by decide +kernel
theorem dX5_check_40 : decode cX5_check 40 = .ok (.aload_n 0, 1) := by decide +kernel
theorem dX5_check_41 : decode cX5_check 41 = .ok (.getfield 68, 3) := by decide +kernel
theorem dX5_check_44 : decode cX5_check 44 = .ok (.if_icmp .ge 30, 3) := by decide +kernel
theorem dX5_check_74 : decode cX5_check 74 = .ok (.bipush (-2), 2) := by decide +kernel
theorem dX5_check_76 : decode cX5_check 76 = .ok (.ireturn, 1) := by decide +kernel
set_option maxRecDepth 20000 in
theorem ggX5_order_X5_isStream : GoodIn wsX5_order wsX5_isStream := goodIn_r _ [7] (by decide +kernel) (by decide +kernel)
set_option maxRecDepth 20000 in
theorem gX5_order_X5_isStream : GoodIn wsX5_order (va_wsS RX5 134 yX5_isStream wsX5_isStream) := goodIn_app (goodIn_of _ (by decide +kernel)) ggX5_order_X5_isStream
theorem dX5_order_0 : decode cX5_order 0 = .ok (.iload_n 1, 1) := by decide +kernel
theorem dX5_order_1 : decode cX5_order 1 = .ok (.invokestatic 134, 3) := by decide +kernel
theorem dX5_order_4 : decode cX5_order 4 = .ok (.ifCond .eq 19, 3) := by decide +kernel
theorem dX5_order_7 : decode cX5_order 7 = .ok (.iload_n 2, 1) := by decide +kernel
theorem dX5_order_8 : decode cX5_order 8 = .ok (.invokestatic 134, 3) := by decide +kernel
theorem dX5_order_11 : decode cX5_order 11 = .ok (.ifCond .eq 12, 3) := by decide +kernel
theorem dX5_order_14 : decode cX5_order 14 = .ok (.iload_n 3, 1) := by decide +kernel
theorem dX5_order_15 : decode cX5_order 15 = .ok (.ifCond .lt 8, 3) := by decide +kernel
theorem dX5_order_18 : decode cX5_order 18 = .ok (.iload_n 3, 1) := by decide +kernel
theorem dX5_order_19 : decode cX5_order 19 = .ok (.iconst 2, 1) := by decide +kernel
theorem dX5_order_20 : decode cX5_order 20 = .ok (.if_icmp .le 5, 3) := by decide +kernel
theorem dX5_order_23 : decode cX5_order 23 = .ok (.iconst (-1), 1) := by decide +kernel
theorem dX5_order_24 : decode cX5_order 24 = .ok (.ireturn, 1) := by decide +kernel
theorem dX5_order_25 : decode cX5_order 25 = .ok (.aload_n 0, 1) := by decide +kernel
theorem dX5_order_26 : decode cX5_order 26 = .ok (.getfield 7, 3) := by decide +kernel
theorem dX5_order_29 : decode cX5_order 29 = .ok (.iload_n 1, 1) := by decide +kernel
theorem dX5_order_30 : decode cX5_order 30 = .ok (.baload, 1) := by decide +kernel
theorem dX5_order_31 : decode cX5_order 31 = .ok (.ifCond .eq 12, 3) := by decide +kernel
theorem dX5_order_43 : decode cX5_order 43 = .ok (.bipush (-2), 2) := by decide +kernel
theorem dX5_order_45 : decode cX5_order 45 = .ok (.ireturn, 1) := by decide +kernel
set_option maxRecDepth 20000 in
theorem ggX5_among_X5_isStream : GoodIn wsX5_among wsX5_isStream := goodIn_r _ [7] (by decide +kernel) (by decide +kernel)
set_option maxRecDepth 20000 in
theorem gX5_among_X5_isStream : GoodIn wsX5_among (va_wsS RX5 134 yX5_isStream wsX5_isStream) := goodIn_app (goodIn_of _ (by decide +kernel)) ggX5_among_X5_isStream
theorem dX5_among_0 : decode cX5_among 0 = .ok (.iload_n 1, 1) := by decide +kernel
theorem dX5_among_1 : decode cX5_among 1 = .ok (.invokestatic 134, 3) := by decide +kernel
theorem dX5_among_4 : decode cX5_among 4 = .ok (.ifCond .ne 5, 3) := by decide +kernel
theorem dX5_among_7 : decode cX5_among 7 = .ok (.iconst (-1), 1) := by decide +kernel
theorem dX5_among_8 : decode cX5_among 8 = .ok (.ireturn, 1) := by decide +kernel
theorem dX5_among_9 : decode cX5_among 9 = .ok (.aload_n 0, 1) := by decide +kernel
theorem dX5_among_10 : decode cX5_among 10 = .ok (.getfield 7, 3) := by decide +kernel
theorem dX5_among_13 : decode cX5_among 13 = .ok (.iload_n 1, 1) := by decide +kernel
theorem dX5_among_14 : decode cX5_among 14 = .ok (.baload, 1) := by decide +kernel
theorem dX5_among_15 : decode cX5_among 15 = .ok (.ifCond .ne 6, 3) := by decide +kernel
theorem dX5_among_18 : decode cX5_among 18 = .ok (.bipush (-2), 2) := by decide +kernel
theorem dX5_among_20 : decode cX5_among 20 = .ok (.ireturn, 1) := by decide +kernel
