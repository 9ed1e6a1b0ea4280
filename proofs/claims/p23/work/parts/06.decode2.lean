theorem dX5_night_43 : decode cX5_night 43 = .ok (.invokevirtual 138, 3) := by decide +kernel
theorem dX5_night_46 : decode cX5_night 46 = .ok (.aload_n 0, 1) := by decide +kernel
theorem dX5_night_47 : decode cX5_night 47 = .ok (.dup, 1) := by decide +kernel
theorem dX5_night_48 : decode cX5_night 48 = .ok (.getfield 44, 3) := by decide +kernel
theorem dX5_night_51 : decode cX5_night 51 = .ok (.iconst 1, 1) := by decide +kernel
theorem dX5_night_52 : decode cX5_night 52 = .ok (.iadd, 1) := by decide +kernel
theorem dX5_night_53 : decode cX5_night 53 = .ok (.putfield 44, 3) := by decide +kernel
theorem dX5_night_56 : decode cX5_night 56 = .ok (.iload_n 1, 1) := by decide +kernel
theorem dX5_night_57 : decode cX5_night 57 = .ok (.ireturn, 1) := by decide +kernel
set_option maxRecDepth 20000 in
theorem ggX5_settle_X1_payAll : GoodIn wsX5_settle wsX1_payAll := goodIn_r _ [6, 7, 8, 9, 5, 10, 11, 12, 13, 14, 15, 16, 17, 18, 19, 20, 21, 22, 23, 24, 25, 26, 27, 34, 35] (by decide +kernel) (by decide +kernel)
set_option maxRecDepth 20000 in
theorem gX5_settle_X1_payAll : GoodIn wsX5_settle (wsV RX5 139 RX1 yX1_payAll wsX1_payAll) := goodIn_app (goodIn_of _ (by decide +kernel)) ggX5_settle_X1_payAll
theorem dX5_settle_0 : decode cX5_settle 0 = .ok (.aload_n 0, 1) := by decide +kernel
theorem dX5_settle_1 : decode cX5_settle 1 = .ok (.getfield 40, 3) := by decide +kernel
theorem dX5_settle_4 : decode cX5_settle 4 = .ok (.invokevirtual 139, 3) := by decide +kernel
theorem dX5_settle_7 : decode cX5_settle 7 = .ok (.ireturn, 1) := by decide +kernel
theorem dX5_today_0 : decode cX5_today 0 = .ok (.aload_n 0, 1) := by decide +kernel
theorem dX5_today_1 : decode cX5_today 1 = .ok (.getfield 44, 3) := by decide +kernel
theorem dX5_today_4 : decode cX5_today 4 = .ok (.ireturn, 1) := by decide +kernel
theorem dX5_bookings_0 : decode cX5_bookings 0 = .ok (.aload_n 0, 1) := by decide +kernel
theorem dX5_bookings_1 : decode cX5_bookings 1 = .ok (.getfield 26, 3) := by decide +kernel
theorem dX5_bookings_4 : decode cX5_bookings 4 = .ok (.getfield 143, 3) := by decide +kernel
theorem dX5_bookings_7 : decode cX5_bookings 7 = .ok (.ireturn, 1) := by decide +kernel
set_option maxRecDepth 20000 in
theorem ggX5_free_X5_checkInn : GoodIn wsX5_free wsX5_checkInn := goodIn_ca (goodIn_r _ [5, 6, 7] (by decide +kernel) (by decide +kernel)) (goodIn_sub (fun _ h => List.mem_cons_of_mem _ (List.mem_append_right _ h)) (by decide +kernel))
set_option maxRecDepth 20000 in
theorem gX5_free_X5_checkInn : GoodIn wsX5_free (va_wsS RX5 48 yX5_checkInn wsX5_checkInn) := goodIn_app (goodIn_of _ (by decide +kernel)) ggX5_free_X5_checkInn
set_option maxRecDepth 20000 in
theorem ggX5_free_X5_checkKind : GoodIn wsX5_free wsX5_checkKind := goodIn_ca (goodIn_r _ [10, 6, 7] (by decide +kernel) (by decide +kernel)) (goodIn_sub (fun _ h => List.mem_cons_of_mem _ (List.mem_append_right _ h)) (by decide +kernel))
set_option maxRecDepth 20000 in
theorem gX5_free_X5_checkKind : GoodIn wsX5_free (va_wsS RX5 52 yX5_checkKind wsX5_checkKind) := goodIn_app (goodIn_of _ (by decide +kernel)) ggX5_free_X5_checkKind
set_option maxRecDepth 20000 in
theorem ggX5_free_X4_freeOf : GoodIn wsX5_free wsX4_freeOf := goodIn_r _ [15, 16, 17, 18, 19, 20, 21, 22, 14, 23, 24, 25, 26, 27, 28, 29, 30, 31, 32, 39, 40, 41] (by decide +kernel) (by decide +kernel)
set_option maxRecDepth 20000 in
theorem gX5_free_X4_freeOf : GoodIn wsX5_free (wsV RX5 146 RX4 yX4_freeOf wsX4_freeOf) := goodIn_app (goodIn_of _ (by decide +kernel)) ggX5_free_X4_freeOf
theorem dX5_free_0 : decode cX5_free 0 = .ok (.iload_n 1, 1) := by decide +kernel
theorem dX5_free_1 : decode cX5_free 1 = .ok (.invokestatic 48, 3) := by decide +kernel
theorem dX5_free_4 : decode cX5_free 4 = .ok (.iload_n 2, 1) := by decide +kernel
theorem dX5_free_5 : decode cX5_free 5 = .ok (.invokestatic 52, 3) := by decide +kernel
theorem dX5_free_8 : decode cX5_free 8 = .ok (.aload_n 0, 1) := by decide +kernel
theorem dX5_free_9 : decode cX5_free 9 = .ok (.getfield 10, 3) := by decide +kernel
theorem dX5_free_12 : decode cX5_free 12 = .ok (.iload_n 1, 1) := by decide +kernel
theorem dX5_free_13 : decode cX5_free 13 = .ok (.iload_n 2, 1) := by decide +kernel
theorem dX5_free_14 : decode cX5_free 14 = .ok (.invokevirtual 146, 3) := by decide +kernel
theorem dX5_free_17 : decode cX5_free 17 = .ok (.ireturn, 1) := by decide +kernel
set_option maxRecDepth 20000 in
theorem ggX5_taken_X5_checkInn : GoodIn wsX5_taken wsX5_checkInn := goodIn_ca (goodIn_r _ [5, 6, 7] (by decide +kernel) (by decide +kernel)) (goodIn_sub (fun _ h => List.mem_cons_of_mem _ (List.mem_append_right _ h)) (by decide +kernel))
set_option maxRecDepth 20000 in
theorem gX5_taken_X5_checkInn : GoodIn wsX5_taken (va_wsS RX5 48 yX5_checkInn wsX5_checkInn) := goodIn_app (goodIn_of _ (by decide +kernel)) ggX5_taken_X5_checkInn
set_option maxRecDepth 20000 in
theorem ggX5_taken_X5_checkKind : GoodIn wsX5_taken wsX5_checkKind := goodIn_ca (goodIn_r _ [10, 6, 7] (by decide +kernel) (by decide +kernel)) (goodIn_sub (fun _ h => List.mem_cons_of_mem _ (List.mem_append_right _ h)) (by decide +kernel))
set_option maxRecDepth 20000 in
theorem gX5_taken_X5_checkKind : GoodIn wsX5_taken (va_wsS RX5 52 yX5_checkKind wsX5_checkKind) := goodIn_app (goodIn_of _ (by decide +kernel)) ggX5_taken_X5_checkKind
set_option maxRecDepth 20000 in
theorem ggX5_taken_X4_sleepersOf : GoodIn wsX5_taken wsX4_sleepersOf := goodIn_r _ [15, 16, 17, 18, 14, 19, 26, 27, 28] (by decide +kernel) (by decide +kernel)
set_option maxRecDepth 20000 in
theorem gX5_taken_X4_sleepersOf : GoodIn wsX5_taken (wsV RX5 149 RX4 yX4_sleepersOf wsX4_sleepersOf) := goodIn_app (goodIn_of _ (by decide +kernel)) ggX5_taken_X4_sleepersOf
theorem dX5_taken_0 : decode cX5_taken 0 = .ok (.iload_n 1, 1) := by decide +kernel
theorem dX5_taken_1 : decode cX5_taken 1 = .ok (.invokestatic 48, 3) := by decide +kernel
theorem dX5_taken_4 : decode cX5_taken 4 = .ok (.iload_n 2, 1) := by decide +kernel
theorem dX5_taken_5 : decode cX5_taken 5 = .ok (.invokestatic 52, 3) := by decide +kernel
theorem dX5_taken_8 : decode cX5_taken 8 = .ok (.aload_n 0, 1) := by decide +kernel
theorem dX5_taken_9 : decode cX5_taken 9 = .ok (.getfield 10, 3) := by decide +kernel
theorem dX5_taken_12 : decode cX5_taken 12 = .ok (.iload_n 1, 1) := by decide +kernel
theorem dX5_taken_13 : decode cX5_taken 13 = .ok (.iload_n 2, 1) := by decide +kernel
theorem dX5_taken_14 : decode cX5_taken 14 = .ok (.invokevirtual 149, 3) := by decide +kernel
theorem dX5_taken_17 : decode cX5_taken 17 = .ok (.ireturn, 1) := by decide +kernel
set_option maxRecDepth 20000 in
theorem ggX5_takenByBookings_X5_checkInn : GoodIn wsX5_takenByBookings wsX5_checkInn := goodIn_ca (goodIn_r _ [6, 7, 8] (by decide +kernel) (by decide +kernel)) (goodIn_sub (fun _ h => List.mem_cons_of_mem _ (List.mem_append_right _ h)) (by decide +kernel))
set_option maxRecDepth 20000 in
theorem gX5_takenByBookings_X5_checkInn : GoodIn wsX5_takenByBookings (va_wsS RX5 48 yX5_checkInn wsX5_checkInn) := goodIn_app (goodIn_of _ (by decide +kernel)) ggX5_takenByBookings_X5_checkInn
set_option maxRecDepth 20000 in
theorem ggX5_takenByBookings_X5_checkKind : GoodIn wsX5_takenByBookings wsX5_checkKind := goodIn_ca (goodIn_r _ [11, 7, 8] (by decide +kernel) (by decide +kernel)) (goodIn_sub (fun _ h => List.mem_cons_of_mem _ (List.mem_append_right _ h)) (by decide +kernel))
set_option maxRecDepth 20000 in
theorem gX5_takenByBookings_X5_checkKind : GoodIn wsX5_takenByBookings (va_wsS RX5 52 yX5_checkKind wsX5_checkKind) := goodIn_app (goodIn_of _ (by decide +kernel)) ggX5_takenByBookings_X5_checkKind
set_option maxRecDepth 20000 in
theorem ggX5_takenByBookings_X0_sleepersAt : GoodIn wsX5_takenByBookings wsX0_sleepersAt := goodIn_r _ [16, 17, 18, 19, 20, 27, 28, 29, 30, 31, 32, 33] (by decide +kernel) (by decide +kernel)
set_option maxRecDepth 20000 in
theorem gX5_takenByBookings_X0_sleepersAt : GoodIn wsX5_takenByBookings (wsV RX5 152 RX0 yX0_sleepersAt wsX0_sleepersAt) := goodIn_app (goodIn_of _ (by decide +kernel)) ggX5_takenByBookings_X0_sleepersAt
theorem dX5_takenByBookings_0 : decode cX5_takenByBookings 0 = .ok (.iload_n 1, 1) := by decide +kernel
theorem dX5_takenByBookings_1 : decode cX5_takenByBookings 1 = .ok (.invokestatic 48, 3) := by decide +kernel
theorem dX5_takenByBookings_4 : decode cX5_takenByBookings 4 = .ok (.iload_n 2, 1) := by decide +kernel
theorem dX5_takenByBookings_5 : decode cX5_takenByBookings 5 = .ok (.invokestatic 52, 3) := by decide +kernel
theorem dX5_takenByBookings_8 : decode cX5_takenByBookings 8 = .ok (.aload_n 0, 1) := by decide +kernel
theorem dX5_takenByBookings_9 : decode cX5_takenByBookings 9 = .ok (.getfield 26, 3) := by decide +kernel
theorem dX5_takenByBookings_12 : decode cX5_takenByBookings 12 = .ok (.iload_n 1, 1) := by decide +kernel
theorem dX5_takenByBookings_13 : decode cX5_takenByBookings 13 = .ok (.iload_n 2, 1) := by decide +kernel
theorem dX5_takenByBookings_14 : decode cX5_takenByBookings 14 = .ok (.aload_n 0, 1) := by decide +kernel
theorem dX5_takenByBookings_15 : decode cX5_takenByBookings 15 = .ok (.getfield 44, 3) := by decide +kernel
theorem dX5_takenByBookings_18 : decode cX5_takenByBookings 18 = .ok (.invokevirtual 152, 3) := by decide +kernel
theorem dX5_takenByBookings_21 : decode cX5_takenByBookings 21 = .ok (.ireturn, 1) := by decide +kernel
set_option maxRecDepth 20000 in
theorem ggX5_extra_X5_checkInn : GoodIn wsX5_extra wsX5_checkInn := goodIn_ca (goodIn_r _ [4, 5, 6] (by decide +kernel) (by decide +kernel)) (goodIn_sub (fun _ h => List.mem_cons_of_mem _ (List.mem_append_right _ h)) (by decide +kernel))
set_option maxRecDepth 20000 in
theorem gX5_extra_X5_checkInn : GoodIn wsX5_extra (va_wsS RX5 48 yX5_checkInn wsX5_checkInn) := goodIn_app (goodIn_of _ (by decide +kernel)) ggX5_extra_X5_checkInn
set_option maxRecDepth 20000 in
theorem ggX5_extra_X5_extraOf : GoodIn wsX5_extra wsX5_extraOf := goodIn_r _ [10, 11, 12, 13, 14, 15, 16, 17, 18, 19, 20, 21, 22, 23, 24, 25, 26, 27, 28, 29, 30, 31, 32, 33, 34] (by decide +kernel) (by decide +kernel)
set_option maxRecDepth 20000 in
theorem gX5_extra_X5_extraOf : GoodIn wsX5_extra (wsV RX5 156 RX5 yX5_extraOf wsX5_extraOf) := goodIn_app (goodIn_of _ (by decide +kernel)) ggX5_extra_X5_extraOf
theorem dX5_extra_0 : decode cX5_extra 0 = .ok (.iload_n 1, 1) := by decide +kernel
theorem dX5_extra_1 : decode cX5_extra 1 = .ok (.invokestatic 48, 3) := by decide +kernel
theorem dX5_extra_4 : decode cX5_extra 4 = .ok (.aload_n 0, 1) := by decide +kernel
theorem dX5_extra_5 : decode cX5_extra 5 = .ok (.iload_n 1, 1) := by decide +kernel
theorem dX5_extra_6 : decode cX5_extra 6 = .ok (.invokevirtual 156, 3) := by decide +kernel
theorem dX5_extra_9 : decode cX5_extra 9 = .ok (.ireturn, 1) := by decide +kernel
set_option maxRecDepth 20000 in
theorem ggX5_clean_X5_checkInn : GoodIn wsX5_clean wsX5_checkInn := goodIn_ca (goodIn_r _ [6, 7, 8] (by decide +kernel) (by decide +kernel)) (goodIn_sub (fun _ h => List.mem_cons_of_mem _ (List.mem_append_right _ h)) (by decide +kernel))
set_option maxRecDepth 20000 in
theorem gX5_clean_X5_checkInn : GoodIn wsX5_clean (va_wsS RX5 48 yX5_checkInn wsX5_checkInn) := goodIn_app (goodIn_of _ (by decide +kernel)) ggX5_clean_X5_checkInn
theorem dX5_clean_0 : decode cX5_clean 0 = .ok (.iload_n 1, 1) := by decide +kernel
theorem dX5_clean_1 : decode cX5_clean 1 = .ok (.invokestatic 48, 3) := by decide +kernel
theorem dX5_clean_4 : decode cX5_clean 4 = .ok (.aload_n 0, 1) := by decide +kernel
theorem dX5_clean_5 : decode cX5_clean 5 = .ok (.getfield 19, 3) := by decide +kernel
theorem dX5_clean_8 : decode cX5_clean 8 = .ok (.getfield 159, 3) := by decide +kernel
theorem dX5_clean_11 : decode cX5_clean 11 = .ok (.iload_n 1, 1) := by decide +kernel
theorem dX5_clean_12 : decode cX5_clean 12 = .ok (.iaload, 1) := by decide +kernel
theorem dX5_clean_13 : decode cX5_clean 13 = .ok (.ireturn, 1) := by decide +kernel
set_option maxRecDepth 20000 in
theorem ggX5_away_X5_checkInn : GoodIn wsX5_away wsX5_checkInn := goodIn_ca (goodIn_r _ [5, 6, 7] (by decide +kernel) (by decide +kernel)) (goodIn_sub (fun _ h => List.mem_cons_of_mem _ (List.mem_append_right _ h)) (by decide +kernel))
set_option maxRecDepth 20000 in
theorem gX5_away_X5_checkInn : GoodIn wsX5_away (va_wsS RX5 48 yX5_checkInn wsX5_checkInn) := goodIn_app (goodIn_of _ (by decide +kernel)) ggX5_away_X5_checkInn
set_option maxRecDepth 20000 in
theorem ggX5_away_X2_awayOf : GoodIn wsX5_away wsX2_awayOf := goodIn_r _ [12, 13, 14, 15, 16, 23, 24, 25, 26, 27, 28, 29] (by decide +kernel) (by decide +kernel)
set_option maxRecDepth 20000 in
theorem gX5_away_X2_awayOf : GoodIn wsX5_away (wsV RX5 162 RX2 yX2_awayOf wsX2_awayOf) := goodIn_app (goodIn_of _ (by decide +kernel)) ggX5_away_X2_awayOf
theorem dX5_away_0 : decode cX5_away 0 = .ok (.iload_n 1, 1) := by decide +kernel
theorem dX5_away_1 : decode cX5_away 1 = .ok (.invokestatic 48, 3) := by decide +kernel
theorem dX5_away_4 : decode cX5_away 4 = .ok (.aload_n 0, 1) := by decide +kernel
theorem dX5_away_5 : decode cX5_away 5 = .ok (.getfield 19, 3) := by decide +kernel
theorem dX5_away_8 : decode cX5_away 8 = .ok (.iload_n 1, 1) := by decide +kernel
theorem dX5_away_9 : decode cX5_away 9 = .ok (.invokevirtual 162, 3) := by decide +kernel
theorem dX5_away_12 : decode cX5_away 12 = .ok (.ireturn, 1) := by decide +kernel
set_option maxRecDepth 20000 in
theorem ggX5_sleeps_X5_checkBooking : GoodIn wsX5_sleeps wsX5_checkBooking := goodIn_ca (goodIn_r _ [7, 8, 9, 1, 10, 11, 12, 13, 14, 15, 16, 17, 18, 19, 20, 21, 22, 23] (by decide +kernel) (by decide +kernel)) (goodIn_sub (fun _ h => List.mem_cons_of_mem _ (List.mem_append_right _ h)) (by decide +kernel))
set_option maxRecDepth 20000 in
theorem gX5_sleeps_X5_checkBooking : GoodIn wsX5_sleeps (wsV RX5 92 RX5 yX5_checkBooking wsX5_checkBooking) := goodIn_app (goodIn_of _ (by decide +kernel)) ggX5_sleeps_X5_checkBooking
theorem dX5_sleeps_0 : decode cX5_sleeps 0 = .ok (.aload_n 0, 1) := by decide +kernel
theorem dX5_sleeps_1 : decode cX5_sleeps 1 = .ok (.iload_n 1, 1) := by decide +kernel
theorem dX5_sleeps_2 : decode cX5_sleeps 2 = .ok (.invokevirtual 92, 3) := by decide +kernel
theorem dX5_sleeps_5 : decode cX5_sleeps 5 = .ok (.aload_n 0, 1) := by decide +kernel
theorem dX5_sleeps_6 : decode cX5_sleeps 6 = .ok (.getfield 26, 3) := by decide +kernel
theorem dX5_sleeps_9 : decode cX5_sleeps 9 = .ok (.getfield 165, 3) := by decide +kernel
theorem dX5_sleeps_12 : decode cX5_sleeps 12 = .ok (.iload_n 1, 1) := by decide +kernel
theorem dX5_sleeps_13 : decode cX5_sleeps 13 = .ok (.iaload, 1) := by decide +kernel
theorem dX5_sleeps_14 : decode cX5_sleeps 14 = .ok (.ireturn, 1) := by decide +kernel
set_option maxRecDepth 20000 in
theorem ggX5_points_X5_checkGuest : GoodIn wsX5_points wsX5_checkGuest := goodIn_ca (goodIn_r _ [5, 6, 7] (by decide +kernel) (by decide +kernel)) (goodIn_sub (fun _ h => List.mem_cons_of_mem _ (List.mem_append_right _ h)) (by decide +kernel))
set_option maxRecDepth 20000 in
theorem gX5_points_X5_checkGuest : GoodIn wsX5_points (va_wsS RX5 71 yX5_checkGuest wsX5_checkGuest) := goodIn_app (goodIn_of _ (by decide +kernel)) ggX5_points_X5_checkGuest
set_option maxRecDepth 20000 in
theorem ggX5_points_X3_ofGuest : GoodIn wsX5_points wsX3_ofGuest := goodIn_r _ [12, 13, 14, 15, 22, 23, 24, 25] (by decide +kernel) (by decide +kernel)
set_option maxRecDepth 20000 in
theorem gX5_points_X3_ofGuest : GoodIn wsX5_points (wsV RX5 121 RX3 yX3_ofGuest wsX3_ofGuest) := goodIn_app (goodIn_of _ (by decide +kernel)) ggX5_points_X3_ofGuest
theorem dX5_points_0 : decode cX5_points 0 = .ok (.iload_n 1, 1) := by decide +kernel
theorem dX5_points_1 : decode cX5_points 1 = .ok (.invokestatic 71, 3) := by decide +kernel
theorem dX5_points_4 : decode cX5_points 4 = .ok (.aload_n 0, 1) := by decide +kernel
theorem dX5_points_5 : decode cX5_points 5 = .ok (.getfield 33, 3) := by decide +kernel
theorem dX5_points_8 : decode cX5_points 8 = .ok (.iload_n 1, 1) := by decide +kernel
theorem dX5_points_9 : decode cX5_points 9 = .ok (.invokevirtual 121, 3) := by decide +kernel
theorem dX5_points_12 : decode cX5_points 12 = .ok (.ireturn, 1) := by decide +kernel
set_option maxRecDepth 20000 in
theorem ggX5_owes_X5_checkInn : GoodIn wsX5_owes wsX5_checkInn := goodIn_ca (goodIn_r _ [5, 6, 7] (by decide +kernel) (by decide +kernel)) (goodIn_sub (fun _ h => List.mem_cons_of_mem _ (List.mem_append_right _ h)) (by decide +kernel))
set_option maxRecDepth 20000 in
theorem gX5_owes_X5_checkInn : GoodIn wsX5_owes (va_wsS RX5 48 yX5_checkInn wsX5_checkInn) := goodIn_app (goodIn_of _ (by decide +kernel)) ggX5_owes_X5_checkInn
set_option maxRecDepth 20000 in
theorem ggX5_owes_X1_between : GoodIn wsX5_owes wsX1_between := goodIn_r _ [12, 13, 14, 15, 16, 17, 18, 19, 11, 20, 27, 28] (by decide +kernel) (by decide +kernel)
set_option maxRecDepth 20000 in
theorem gX5_owes_X1_between : GoodIn wsX5_owes (wsV RX5 168 RX1 yX1_between wsX1_between) := goodIn_app (goodIn_of _ (by decide +kernel)) ggX5_owes_X1_between
theorem dX5_owes_0 : decode cX5_owes 0 = .ok (.iload_n 1, 1) := by decide +kernel
theorem dX5_owes_1 : decode cX5_owes 1 = .ok (.invokestatic 48, 3) := by decide +kernel
theorem dX5_owes_4 : decode cX5_owes 4 = .ok (.iload_n 2, 1) := by decide +kernel
theorem dX5_owes_5 : decode cX5_owes 5 = .ok (.invokestatic 48, 3) := by decide +kernel
theorem dX5_owes_8 : decode cX5_owes 8 = .ok (.aload_n 0, 1) := by decide +kernel
theorem dX5_owes_9 : decode cX5_owes 9 = .ok (.getfield 40, 3) := by decide +kernel
theorem dX5_owes_12 : decode cX5_owes 12 = .ok (.iload_n 1, 1) := by decide +kernel
theorem dX5_owes_13 : decode cX5_owes 13 = .ok (.iload_n 2, 1) := by decide +kernel
theorem dX5_owes_14 : decode cX5_owes 14 = .ok (.invokevirtual 168, 3) := by decide +kernel
theorem dX5_owes_17 : decode cX5_owes 17 = .ok (.ireturn, 1) := by decide +kernel
set_option maxRecDepth 20000 in
theorem ggX5_purse_X5_checkInn : GoodIn wsX5_purse wsX5_checkInn := goodIn_ca (goodIn_r _ [6, 7, 8] (by decide +kernel) (by decide +kernel)) (goodIn_sub (fun _ h => List.mem_cons_of_mem _ (List.mem_append_right _ h)) (by decide +kernel))
set_option maxRecDepth 20000 in
theorem gX5_purse_X5_checkInn : GoodIn wsX5_purse (va_wsS RX5 48 yX5_checkInn wsX5_checkInn) := goodIn_app (goodIn_of _ (by decide +kernel)) ggX5_purse_X5_checkInn
theorem dX5_purse_0 : decode cX5_purse 0 = .ok (.iload_n 1, 1) := by decide +kernel
theorem dX5_purse_1 : decode cX5_purse 1 = .ok (.invokestatic 48, 3) := by decide +kernel
theorem dX5_purse_4 : decode cX5_purse 4 = .ok (.aload_n 0, 1) := by decide +kernel
theorem dX5_purse_5 : decode cX5_purse 5 = .ok (.getfield 40, 3) := by decide +kernel
theorem dX5_purse_8 : decode cX5_purse 8 = .ok (.getfield 171, 3) := by decide +kernel
theorem dX5_purse_11 : decode cX5_purse 11 = .ok (.iload_n 1, 1) := by decide +kernel
theorem dX5_purse_12 : decode cX5_purse 12 = .ok (.iaload, 1) := by decide +kernel
theorem dX5_purse_13 : decode cX5_purse 13 = .ok (.ireturn, 1) := by decide +kernel
theorem dX5_checkInn_0 : decode cX5_checkInn 0 = .ok (.iload_n 0, 1) := by decide +kernel
theorem dX5_checkInn_1 : decode cX5_checkInn 1 = .ok (.ifCond .lt 8, 3) := by decide +kernel
theorem dX5_checkInn_4 : decode cX5_checkInn 4 = .ok (.iload_n 0, 1) := by decide +kernel
theorem dX5_checkInn_5 : decode cX5_checkInn 5 = .ok (.iconst 4, 1) := by decide +kernel
theorem dX5_checkInn_6 : decode cX5_checkInn 6 = .ok (.if_icmp .lt 13, 3) := by decide +kernel
theorem dX5_checkInn_9 : decode cX5_checkInn 9 = .ok (.new 174, 3) := by decide +kernel
theorem dX5_checkInn_12 : decode cX5_checkInn 12 = .ok (.dup, 1) := by decide +kernel
theorem dX5_checkInn_13 : decode cX5_checkInn 13 = .ok (.ldc 176, 2) := by decide +kernel
theorem dX5_checkInn_15 : decode cX5_checkInn 15 = .ok (.invokespecial 178, 3) := by decide +kernel
theorem dX5_checkInn_18 : decode cX5_checkInn 18 = .ok (.athrow, 1) := by decide +kernel
theorem dX5_checkInn_19 : decode cX5_checkInn 19 = .ok (.return_, 1) := by decide +kernel
theorem dX5_checkKind_0 : decode cX5_checkKind 0 = .ok (.iload_n 0, 1) := by decide +kernel
theorem dX5_checkKind_1 : decode cX5_checkKind 1 = .ok (.ifCond .lt 8, 3) := by decide +kernel
theorem dX5_checkKind_4 : decode cX5_checkKind 4 = .ok (.iload_n 0, 1) := by decide +kernel
theorem dX5_checkKind_5 : decode cX5_checkKind 5 = .ok (.iconst 2, 1) := by decide +kernel
theorem dX5_checkKind_6 : decode cX5_checkKind 6 = .ok (.if_icmp .lt 13, 3) := by decide +kernel
theorem dX5_checkKind_9 : decode cX5_checkKind 9 = .ok (.new 174, 3) := by decide +kernel
theorem dX5_checkKind_12 : decode cX5_checkKind 12 = .ok (.dup, 1) := by decide +kernel
theorem dX5_checkKind_13 : decode cX5_checkKind 13 = .ok (.ldc 179, 2) := by decide +kernel
theorem dX5_checkKind_15 : decode cX5_checkKind 15 = .ok (.invokespecial 178, 3) := by decide +kernel
theorem dX5_checkKind_18 : decode cX5_checkKind 18 = .ok (.athrow, 1) := by decide +kernel
theorem dX5_checkKind_19 : decode cX5_checkKind 19 = .ok (.return_, 1) := by decide +kernel
theorem dX5_checkGuest_0 : decode cX5_checkGuest 0 = .ok (.iload_n 0, 1) := by decide +kernel
theorem dX5_checkGuest_1 : decode cX5_checkGuest 1 = .ok (.ifCond .lt 9, 3) := by decide +kernel
theorem dX5_checkGuest_4 : decode cX5_checkGuest 4 = .ok (.iload_n 0, 1) := by decide +kernel
theorem dX5_checkGuest_5 : decode cX5_checkGuest 5 = .ok (.bipush 10, 2) := by decide +kernel
theorem dX5_checkGuest_7 : decode cX5_checkGuest 7 = .ok (.if_icmp .lt 13, 3) := by decide +kernel
theorem dX5_checkGuest_10 : decode cX5_checkGuest 10 = .ok (.new 174, 3) := by decide +kernel
theorem dX5_checkGuest_13 : decode cX5_checkGuest 13 = .ok (.dup, 1) := by decide +kernel
theorem dX5_checkGuest_14 : decode cX5_checkGuest 14 = .ok (.ldc 181, 2) := by decide +kernel
theorem dX5_checkGuest_16 : decode cX5_checkGuest 16 = .ok (.invokespecial 178, 3) := by decide +kernel
theorem dX5_checkGuest_19 : decode cX5_checkGuest 19 = .ok (.athrow, 1) := by decide +kernel
theorem dX5_checkGuest_20 : decode cX5_checkGuest 20 = .ok (.return_, 1) := by decide +kernel
theorem dX5_checkBooking_0 : decode cX5_checkBooking 0 = .ok (.iload_n 1, 1) := by decide +kernel
theorem dX5_checkBooking_1 : decode cX5_checkBooking 1 = .ok (.ifCond .lt 14, 3) := by decide +kernel
theorem dX5_checkBooking_4 : decode cX5_checkBooking 4 = .ok (.iload_n 1, 1) := by decide +kernel
theorem dX5_checkBooking_5 : decode cX5_checkBooking 5 = .ok (.aload_n 0, 1) := by decide +kernel
theorem dX5_checkBooking_6 : decode cX5_checkBooking 6 = .ok (.getfield 26, 3) := by decide +kernel
theorem dX5_checkBooking_9 : decode cX5_checkBooking 9 = .ok (.getfield 143, 3) := by decide +kernel
theorem dX5_checkBooking_12 : decode cX5_checkBooking 12 = .ok (.if_icmp .lt 13, 3) := by decide +kernel
theorem dX5_checkBooking_15 : decode cX5_checkBooking 15 = .ok (.new 174, 3) := by decide +kernel
theorem dX5_checkBooking_18 : decode cX5_checkBooking 18 = .ok (.dup, 1) := by decide +kernel
theorem dX5_checkBooking_19 : decode cX5_checkBooking 19 = .ok (.ldc 183, 2) := by decide +kernel
theorem dX5_checkBooking_21 : decode cX5_checkBooking 21 = .ok (.invokespecial 178, 3) := by decide +kernel
theorem dX5_checkBooking_24 : decode cX5_checkBooking 24 = .ok (.athrow, 1) := by decide +kernel
theorem dX5_checkBooking_25 : decode cX5_checkBooking 25 = .ok (.return_, 1) := by decide +kernel
theorem dX5_checkRange_0 : decode cX5_checkRange 0 = .ok (.iload_n 0, 1) := by decide +kernel
theorem dX5_checkRange_1 : decode cX5_checkRange 1 = .ok (.iload_n 1, 1) := by decide +kernel
theorem dX5_checkRange_2 : decode cX5_checkRange 2 = .ok (.if_icmp .lt 8, 3) := by decide +kernel
theorem dX5_checkRange_5 : decode cX5_checkRange 5 = .ok (.iload_n 0, 1) := by decide +kernel
theorem dX5_checkRange_6 : decode cX5_checkRange 6 = .ok (.iload_n 2, 1) := by decide +kernel
theorem dX5_checkRange_7 : decode cX5_checkRange 7 = .ok (.if_icmp .le 13, 3) := by decide +kernel
theorem dX5_checkRange_10 : decode cX5_checkRange 10 = .ok (.new 185, 3) := by decide +kernel
theorem dX5_checkRange_13 : decode cX5_checkRange 13 = .ok (.dup, 1) := by decide +kernel
theorem dX5_checkRange_14 : decode cX5_checkRange 14 = .ok (.ldc 187, 2) := by decide +kernel
theorem dX5_checkRange_16 : decode cX5_checkRange 16 = .ok (.invokespecial 189, 3) := by decide +kernel
theorem dX5_checkRange_19 : decode cX5_checkRange 19 = .ok (.athrow, 1) := by decide +kernel
theorem dX5_checkRange_20 : decode cX5_checkRange 20 = .ok (.return_, 1) := by decide +kernel
set_option maxRecDepth 20000 in
theorem ggX5_extraOf_X0_missedAt : GoodIn wsX5_extraOf wsX0_missedAt := goodIn_r _ [7, 8, 9, 10, 11, 18, 19, 20, 21, 22, 23, 24] (by decide +kernel) (by decide +kernel)
set_option maxRecDepth 20000 in
theorem gX5_extraOf_X0_missedAt : GoodIn wsX5_extraOf (wsV RX5 190 RX0 yX0_missedAt wsX0_missedAt) := goodIn_app (goodIn_of _ (by decide +kernel)) ggX5_extraOf_X0_missedAt
theorem dX5_extraOf_0 : decode cX5_extraOf 0 = .ok (.aload_n 0, 1) := by decide +kernel
theorem dX5_extraOf_1 : decode cX5_extraOf 1 = .ok (.getfield 26, 3) := by decide +kernel
theorem dX5_extraOf_4 : decode cX5_extraOf 4 = .ok (.iload_n 1, 1) := by decide +kernel
theorem dX5_extraOf_5 : decode cX5_extraOf 5 = .ok (.aload_n 0, 1) := by decide +kernel
theorem dX5_extraOf_6 : decode cX5_extraOf 6 = .ok (.getfield 44, 3) := by decide +kernel
theorem dX5_extraOf_9 : decode cX5_extraOf 9 = .ok (.iconst 4, 1) := by decide +kernel
theorem dX5_extraOf_10 : decode cX5_extraOf 10 = .ok (.isub, 1) := by decide +kernel
theorem dX5_extraOf_11 : decode cX5_extraOf 11 = .ok (.aload_n 0, 1) := by decide +kernel
theorem dX5_extraOf_12 : decode cX5_extraOf 12 = .ok (.getfield 44, 3) := by decide +kernel
theorem dX5_extraOf_15 : decode cX5_extraOf 15 = .ok (.invokevirtual 190, 3) := by decide +kernel
theorem dX5_extraOf_18 : decode cX5_extraOf 18 = .ok (.iconst 4, 1) := by decide +kernel
theorem dX5_extraOf_19 : decode cX5_extraOf 19 = .ok (.idiv, 1) := by decide +kernel
theorem dX5_extraOf_20 : decode cX5_extraOf 20 = .ok (.ireturn, 1) := by decide +kernel
set_option maxRecDepth 20000 in
theorem ggX5_takesMore_X0_countFor : GoodIn wsX5_takesMore wsX0_countFor := goodIn_r _ [7, 8, 9, 10, 11, 38, 39, 40, 41, 42, 43, 44] (by decide +kernel) (by decide +kernel)
set_option maxRecDepth 20000 in
theorem gX5_takesMore_X0_countFor : GoodIn wsX5_takesMore (wsV RX5 193 RX0 yX0_countFor wsX0_countFor) := goodIn_app (goodIn_of _ (by decide +kernel)) ggX5_takesMore_X0_countFor
set_option maxRecDepth 20000 in
theorem ggX5_takesMore_X4_countOf : GoodIn wsX5_takesMore wsX4_countOf := goodIn_r _ [16, 17, 18, 19, 15, 20, 45, 46, 47] (by decide +kernel) (by decide +kernel)
set_option maxRecDepth 20000 in
theorem gX5_takesMore_X4_countOf : GoodIn wsX5_takesMore (wsV RX5 196 RX4 yX4_countOf wsX4_countOf) := goodIn_app (goodIn_of _ (by decide +kernel)) ggX5_takesMore_X4_countOf
set_option maxRecDepth 20000 in
theorem ggX5_takesMore_X5_extraOf : GoodIn wsX5_takesMore wsX5_extraOf := goodIn_r _ [25, 1, 26, 27, 28, 29, 6, 30, 8, 9, 11, 31, 32, 33, 34, 35, 36, 37, 38, 39, 40, 41, 42, 43, 44] (by decide +kernel) (by decide +kernel)
set_option maxRecDepth 20000 in
theorem gX5_takesMore_X5_extraOf : GoodIn wsX5_takesMore (wsV RX5 156 RX5 yX5_extraOf wsX5_extraOf) := goodIn_app (goodIn_of _ (by decide +kernel)) ggX5_takesMore_X5_extraOf
theorem dX5_takesMore_0 : decode cX5_takesMore 0 = .ok (.aload_n 0, 1) := by decide +kernel
theorem dX5_takesMore_1 : decode cX5_takesMore 1 = .ok (.getfield 26, 3) := by decide +kernel
theorem dX5_takesMore_4 : decode cX5_takesMore 4 = .ok (.iload_n 1, 1) := by decide +kernel
theorem dX5_takesMore_5 : decode cX5_takesMore 5 = .ok (.iload_n 2, 1) := by decide +kernel
theorem dX5_takesMore_6 : decode cX5_takesMore 6 = .ok (.iload_n 3, 1) := by decide +kernel
theorem dX5_takesMore_7 : decode cX5_takesMore 7 = .ok (.invokevirtual 193, 3) := by decide +kernel
theorem dX5_takesMore_10 : decode cX5_takesMore 10 = .ok (.aload_n 0, 1) := by decide +kernel
theorem dX5_takesMore_11 : decode cX5_takesMore 11 = .ok (.getfield 10, 3) := by decide +kernel
theorem dX5_takesMore_14 : decode cX5_takesMore 14 = .ok (.iload_n 1, 1) := by decide +kernel
theorem dX5_takesMore_15 : decode cX5_takesMore 15 = .ok (.iload_n 2, 1) := by decide +kernel
theorem dX5_takesMore_16 : decode cX5_takesMore 16 = .ok (.invokevirtual 196, 3) := by decide +kernel
theorem dX5_takesMore_19 : decode cX5_takesMore 19 = .ok (.aload_n 0, 1) := by decide +kernel
theorem dX5_takesMore_20 : decode cX5_takesMore 20 = .ok (.iload_n 1, 1) := by decide +kernel
theorem dX5_takesMore_21 : decode cX5_takesMore 21 = .ok (.invokevirtual 156, 3) := by decide +kernel
theorem dX5_takesMore_24 : decode cX5_takesMore 24 = .ok (.iadd, 1) := by decide +kernel
theorem dX5_takesMore_25 : decode cX5_takesMore 25 = .ok (.if_icmp .ge 7, 3) := by decide +kernel
theorem dX5_takesMore_28 : decode cX5_takesMore 28 = .ok (.iconst 1, 1) := by decide +kernel
theorem dX5_takesMore_29 : decode cX5_takesMore 29 = .ok (.goto 4, 3) := by decide +kernel
theorem dX5_takesMore_32 : decode cX5_takesMore 32 = .ok (.iconst 0, 1) := by decide +kernel
theorem dX5_takesMore_33 : decode cX5_takesMore 33 = .ok (.ireturn, 1) := by decide +kernel
theorem dX5_distance_0 : decode cX5_distance 0 = .ok (.iload_n 0, 1) := by decide +kernel
theorem dX5_distance_1 : decode cX5_distance 1 = .ok (.iload_n 1, 1) := by decide +kernel
theorem dX5_distance_2 : decode cX5_distance 2 = .ok (.isub, 1) := by decide +kernel
theorem dX5_distance_3 : decode cX5_distance 3 = .ok (.invokestatic 199, 3) := by decide +kernel
theorem dX5_distance_6 : decode cX5_distance 6 = .ok (.istore_n 2, 1) := by decide +kernel
theorem dX5_distance_7 : decode cX5_distance 7 = .ok (.iload_n 2, 1) := by decide +kernel
theorem dX5_distance_8 : decode cX5_distance 8 = .ok (.iconst 4, 1) := by decide +kernel
theorem dX5_distance_9 : decode cX5_distance 9 = .ok (.iload_n 2, 1) := by decide +kernel
theorem dX5_distance_10 : decode cX5_distance 10 = .ok (.isub, 1) := by decide +kernel
theorem dX5_distance_11 : decode cX5_distance 11 = .ok (.invokestatic 204, 3) := by decide +kernel
theorem dX5_distance_14 : decode cX5_distance 14 = .ok (.ireturn, 1) := by decide +kernel
set_option maxRecDepth 20000 in
theorem ggX5_findInn_X5_distance : GoodIn wsX5_findInn wsX5_distance := goodIn_r _ [6, 7, 8, 9, 10, 11, 12, 13] (by decide +kernel) (by decide +kernel)
set_option maxRecDepth 20000 in
theorem gX5_findInn_X5_distance : GoodIn wsX5_findInn (va_wsS RX5 207 yX5_distance wsX5_distance) := goodIn_app (goodIn_of _ (by decide +kernel)) ggX5_findInn_X5_distance
set_option maxRecDepth 20000 in
theorem ggX5_findInn_X4_freeOf : GoodIn wsX5_findInn wsX4_freeOf := goodIn_r _ [18, 19, 20, 9, 21, 22, 23, 24, 17, 25, 26, 27, 28, 29, 30, 31, 32, 33, 34, 47, 48, 49] (by decide +kernel) (by decide +kernel)
set_option maxRecDepth 20000 in
theorem gX5_findInn_X4_freeOf : GoodIn wsX5_findInn (wsV RX5 146 RX4 yX4_freeOf wsX4_freeOf) := goodIn_app (goodIn_of _ (by decide +kernel)) ggX5_findInn_X4_freeOf
set_option maxRecDepth 20000 in
theorem ggX5_findInn_X2_giverFor : GoodIn wsX5_findInn wsX2_giverFor := goodIn_r _ [39, 40, 50, 51, 52, 53, 54, 55, 56] (by decide +kernel) (by decide +kernel)
set_option maxRecDepth 20000 in
theorem gX5_findInn_X2_giverFor : GoodIn wsX5_findInn (wsV RX5 210 RX2 yX2_giverFor wsX2_giverFor) := goodIn_app (goodIn_of _ (by decide +kernel)) ggX5_findInn_X2_giverFor
theorem dX5_findInn_0 : decode cX5_findInn 0 = .ok (.iconst 0, 1) := by decide +kernel
theorem dX5_findInn_1 : decode cX5_findInn 1 = .ok (.istore_n 3, 1) := by decide +kernel
theorem dX5_findInn_2 : decode cX5_findInn 2 = .ok (.iload_n 3, 1) := by decide +kernel
theorem dX5_findInn_3 : decode cX5_findInn 3 = .ok (.iconst 2, 1) := by decide +kernel
theorem dX5_findInn_4 : decode cX5_findInn 4 = .ok (.if_icmp .gt 63, 3) := by decide +kernel
theorem dX5_findInn_7 : decode cX5_findInn 7 = .ok (.iconst 0, 1) := by decide +kernel
theorem dX5_findInn_8 : decode cX5_findInn 8 = .ok (.istore 4, 2) := by decide +kernel
theorem dX5_findInn_10 : decode cX5_findInn 10 = .ok (.iload 4, 2) := by decide +kernel
theorem dX5_findInn_12 : decode cX5_findInn 12 = .ok (.iconst 4, 1) := by decide +kernel
theorem dX5_findInn_13 : decode cX5_findInn 13 = .ok (.if_icmp .ge 48, 3) := by decide +kernel
theorem dX5_findInn_16 : decode cX5_findInn 16 = .ok (.iload_n 1, 1) := by decide +kernel
theorem dX5_findInn_17 : decode cX5_findInn 17 = .ok (.iload 4, 2) := by decide +kernel
theorem dX5_findInn_19 : decode cX5_findInn 19 = .ok (.invokestatic 207, 3) := by decide +kernel
theorem dX5_findInn_22 : decode cX5_findInn 22 = .ok (.iload_n 3, 1) := by decide +kernel
theorem dX5_findInn_23 : decode cX5_findInn 23 = .ok (.if_icmp .ne 32, 3) := by decide +kernel
theorem dX5_findInn_26 : decode cX5_findInn 26 = .ok (.aload_n 0, 1) := by decide +kernel
theorem dX5_findInn_27 : decode cX5_findInn 27 = .ok (.getfield 10, 3) := by decide +kernel
theorem dX5_findInn_30 : decode cX5_findInn 30 = .ok (.iload 4, 2) := by decide +kernel
theorem dX5_findInn_32 : decode cX5_findInn 32 = .ok (.iload_n 2, 1) := by decide +kernel
theorem dX5_findInn_33 : decode cX5_findInn 33 = .ok (.invokevirtual 146, 3) := by decide +kernel
theorem dX5_findInn_36 : decode cX5_findInn 36 = .ok (.ifCond .le 19, 3) := by decide +kernel
theorem dX5_findInn_39 : decode cX5_findInn 39 = .ok (.aload_n 0, 1) := by decide +kernel
theorem dX5_findInn_40 : decode cX5_findInn 40 = .ok (.getfield 19, 3) := by decide +kernel
theorem dX5_findInn_43 : decode cX5_findInn 43 = .ok (.iload 4, 2) := by decide +kernel
theorem dX5_findInn_45 : decode cX5_findInn 45 = .ok (.invokevirtual 210, 3) := by decide +kernel
theorem dX5_findInn_48 : decode cX5_findInn 48 = .ok (.iconst (-1), 1) := by decide +kernel
theorem dX5_findInn_49 : decode cX5_findInn 49 = .ok (.if_icmp .eq 6, 3) := by decide +kernel
theorem dX5_findInn_52 : decode cX5_findInn 52 = .ok (.iload 4, 2) := by decide +kernel
theorem dX5_findInn_54 : decode cX5_findInn 54 = .ok (.ireturn, 1) := by decide +kernel
theorem dX5_findInn_55 : decode cX5_findInn 55 = .ok (.iinc 4 1, 3) := by decide +kernel
theorem dX5_findInn_58 : decode cX5_findInn 58 = .ok (.goto (-48), 3) := by decide +kernel
theorem dX5_findInn_61 : decode cX5_findInn 61 = .ok (.iinc 3 1, 3) := by decide +kernel
theorem dX5_findInn_64 : decode cX5_findInn 64 = .ok (.goto (-62), 3) := by decide +kernel
theorem dX5_findInn_67 : decode cX5_findInn 67 = .ok (.iconst (-1), 1) := by decide +kernel
theorem dX5_findInn_68 : decode cX5_findInn 68 = .ok (.ireturn, 1) := by decide +kernel
set_option maxRecDepth 20000 in
theorem ggX5_putUp_X4_priceOf : GoodIn wsX5_putUp wsX4_priceOf := goodIn_r _ [12, 13, 14, 15, 11, 16, 80, 81, 82] (by decide +kernel) (by decide +kernel)
set_option maxRecDepth 20000 in
theorem gX5_putUp_X4_priceOf : GoodIn wsX5_putUp (wsV RX5 213 RX4 yX4_priceOf wsX4_priceOf) := goodIn_app (goodIn_of _ (by decide +kernel)) ggX5_putUp_X4_priceOf
set_option maxRecDepth 20000 in
theorem ggX5_putUp_X1_receive : GoodIn wsX5_putUp wsX1_receive := goodIn_r _ [21, 22, 83, 84] (by decide +kernel) (by decide +kernel)
set_option maxRecDepth 20000 in
theorem gX5_putUp_X1_receive : GoodIn wsX5_putUp (wsV RX5 216 RX1 yX1_receive wsX1_receive) := goodIn_app (goodIn_of _ (by decide +kernel)) ggX5_putUp_X1_receive
set_option maxRecDepth 20000 in
theorem ggX5_putUp_X1_owe : GoodIn wsX5_putUp wsX1_owe := goodIn_r _ [26, 27, 28, 29, 20, 30, 83, 84] (by decide +kernel) (by decide +kernel)
set_option maxRecDepth 20000 in
theorem gX5_putUp_X1_owe : GoodIn wsX5_putUp (wsV RX5 219 RX1 yX1_owe wsX1_owe) := goodIn_app (goodIn_of _ (by decide +kernel)) ggX5_putUp_X1_owe
set_option maxRecDepth 20000 in
theorem ggX5_putUp_X5_layLinen : GoodIn wsX5_putUp wsX5_layLinen := goodIn_r _ [35, 36, 5, 37, 38, 39, 40, 41, 42, 43, 44, 45, 46, 47, 23, 24, 25, 20, 26, 27, 28, 29, 30, 48, 49, 50, 51, 52, 67, 68, 69, 70, 71, 72, 85, 86, 87, 88, 89, 90, 91, 83, 84] (by decide +kernel) (by decide +kernel)
set_option maxRecDepth 20000 in
theorem gX5_putUp_X5_layLinen : GoodIn wsX5_putUp (wsV RX5 222 RX5 yX5_layLinen wsX5_layLinen) := goodIn_app (goodIn_of _ (by decide +kernel)) ggX5_putUp_X5_layLinen
set_option maxRecDepth 20000 in
theorem ggX5_putUp_X4_addSleeper : GoodIn wsX5_putUp wsX4_addSleeper := goodIn_r _ [56, 57, 14, 15, 11, 16, 80, 81, 82] (by decide +kernel) (by decide +kernel)
set_option maxRecDepth 20000 in
theorem gX5_putUp_X4_addSleeper : GoodIn wsX5_putUp (wsV RX5 225 RX4 yX4_addSleeper wsX4_addSleeper) := goodIn_app (goodIn_of _ (by decide +kernel)) ggX5_putUp_X4_addSleeper
set_option maxRecDepth 20000 in
theorem ggX5_putUp_X3_add : GoodIn wsX5_putUp wsX3_add := goodIn_r _ [62, 63, 64, 65, 66, 92, 93, 94, 95] (by decide +kernel) (by decide +kernel)
set_option maxRecDepth 20000 in
theorem gX5_putUp_X3_add : GoodIn wsX5_putUp (wsV RX5 231 RX3 yX3_add wsX3_add) := goodIn_app (goodIn_of _ (by decide +kernel)) ggX5_putUp_X3_add
theorem dX5_putUp_0 : decode cX5_putUp 0 = .ok (.aload_n 0, 1) := by decide +kernel
theorem dX5_putUp_1 : decode cX5_putUp 1 = .ok (.getfield 26, 3) := by decide +kernel
theorem dX5_putUp_4 : decode cX5_putUp 4 = .ok (.getfield 105, 3) := by decide +kernel
theorem dX5_putUp_7 : decode cX5_putUp 7 = .ok (.iload_n 1, 1) := by decide +kernel
theorem dX5_putUp_8 : decode cX5_putUp 8 = .ok (.iaload, 1) := by decide +kernel
theorem dX5_putUp_9 : decode cX5_putUp 9 = .ok (.istore_n 3, 1) := by decide +kernel
theorem dX5_putUp_10 : decode cX5_putUp 10 = .ok (.aload_n 0, 1) := by decide +kernel
theorem dX5_putUp_11 : decode cX5_putUp 11 = .ok (.getfield 26, 3) := by decide +kernel
theorem dX5_putUp_14 : decode cX5_putUp 14 = .ok (.getfield 108, 3) := by decide +kernel
theorem dX5_putUp_17 : decode cX5_putUp 17 = .ok (.iload_n 1, 1) := by decide +kernel
theorem dX5_putUp_18 : decode cX5_putUp 18 = .ok (.iaload, 1) := by decide +kernel
theorem dX5_putUp_19 : decode cX5_putUp 19 = .ok (.istore 4, 2) := by decide +kernel
theorem dX5_putUp_21 : decode cX5_putUp 21 = .ok (.aload_n 0, 1) := by decide +kernel
theorem dX5_putUp_22 : decode cX5_putUp 22 = .ok (.getfield 10, 3) := by decide +kernel
theorem dX5_putUp_25 : decode cX5_putUp 25 = .ok (.iload_n 2, 1) := by decide +kernel
theorem dX5_putUp_26 : decode cX5_putUp 26 = .ok (.iload 4, 2) := by decide +kernel
theorem dX5_putUp_28 : decode cX5_putUp 28 = .ok (.invokevirtual 213, 3) := by decide +kernel
theorem dX5_putUp_31 : decode cX5_putUp 31 = .ok (.istore 5, 2) := by decide +kernel
theorem dX5_putUp_33 : decode cX5_putUp 33 = .ok (.aload_n 0, 1) := by decide +kernel
theorem dX5_putUp_34 : decode cX5_putUp 34 = .ok (.getfield 40, 3) := by decide +kernel
theorem dX5_putUp_37 : decode cX5_putUp 37 = .ok (.iload_n 3, 1) := by decide +kernel
theorem dX5_putUp_38 : decode cX5_putUp 38 = .ok (.aload_n 0, 1) := by decide +kernel
theorem dX5_putUp_39 : decode cX5_putUp 39 = .ok (.getfield 10, 3) := by decide +kernel
theorem dX5_putUp_42 : decode cX5_putUp 42 = .ok (.iload_n 3, 1) := by decide +kernel
theorem dX5_putUp_43 : decode cX5_putUp 43 = .ok (.iload 4, 2) := by decide +kernel
theorem dX5_putUp_45 : decode cX5_putUp 45 = .ok (.invokevirtual 213, 3) := by decide +kernel
theorem dX5_putUp_48 : decode cX5_putUp 48 = .ok (.invokevirtual 216, 3) := by decide +kernel
theorem dX5_putUp_51 : decode cX5_putUp 51 = .ok (.iload_n 2, 1) := by decide +kernel
theorem dX5_putUp_52 : decode cX5_putUp 52 = .ok (.iload_n 3, 1) := by decide +kernel
theorem dX5_putUp_53 : decode cX5_putUp 53 = .ok (.if_icmp .eq 14, 3) := by decide +kernel
theorem dX5_putUp_56 : decode cX5_putUp 56 = .ok (.aload_n 0, 1) := by decide +kernel
theorem dX5_putUp_57 : decode cX5_putUp 57 = .ok (.getfield 40, 3) := by decide +kernel
theorem dX5_putUp_60 : decode cX5_putUp 60 = .ok (.iload_n 3, 1) := by decide +kernel
theorem dX5_putUp_61 : decode cX5_putUp 61 = .ok (.iload_n 2, 1) := by decide +kernel
theorem dX5_putUp_62 : decode cX5_putUp 62 = .ok (.iload 5, 2) := by decide +kernel
theorem dX5_putUp_64 : decode cX5_putUp 64 = .ok (.invokevirtual 219, 3) := by decide +kernel
theorem dX5_putUp_67 : decode cX5_putUp 67 = .ok (.aload_n 0, 1) := by decide +kernel
theorem dX5_putUp_68 : decode cX5_putUp 68 = .ok (.iload_n 2, 1) := by decide +kernel
theorem dX5_putUp_69 : decode cX5_putUp 69 = .ok (.invokevirtual 222, 3) := by decide +kernel
theorem dX5_putUp_72 : decode cX5_putUp 72 = .ok (.aload_n 0, 1) := by decide +kernel
theorem dX5_putUp_73 : decode cX5_putUp 73 = .ok (.getfield 10, 3) := by decide +kernel
theorem dX5_putUp_76 : decode cX5_putUp 76 = .ok (.iload_n 2, 1) := by decide +kernel
theorem dX5_putUp_77 : decode cX5_putUp 77 = .ok (.iload 4, 2) := by decide +kernel
theorem dX5_putUp_79 : decode cX5_putUp 79 = .ok (.invokevirtual 225, 3) := by decide +kernel
theorem dX5_putUp_82 : decode cX5_putUp 82 = .ok (.aload_n 0, 1) := by decide +kernel
theorem dX5_putUp_83 : decode cX5_putUp 83 = .ok (.getfield 33, 3) := by decide +kernel
theorem dX5_putUp_86 : decode cX5_putUp 86 = .ok (.aload_n 0, 1) := by decide +kernel
theorem dX5_putUp_87 : decode cX5_putUp 87 = .ok (.getfield 26, 3) := by decide +kernel
theorem dX5_putUp_90 : decode cX5_putUp 90 = .ok (.getfield 228, 3) := by decide +kernel
theorem dX5_putUp_93 : decode cX5_putUp 93 = .ok (.iload_n 1, 1) := by decide +kernel
theorem dX5_putUp_94 : decode cX5_putUp 94 = .ok (.iaload, 1) := by decide +kernel
theorem dX5_putUp_95 : decode cX5_putUp 95 = .ok (.iload_n 2, 1) := by decide +kernel
theorem dX5_putUp_96 : decode cX5_putUp 96 = .ok (.iload 5, 2) := by decide +kernel
theorem dX5_putUp_98 : decode cX5_putUp 98 = .ok (.bipush 10, 2) := by decide +kernel
theorem dX5_putUp_100 : decode cX5_putUp 100 = .ok (.idiv, 1) := by decide +kernel
theorem dX5_putUp_101 : decode cX5_putUp 101 = .ok (.invokevirtual 231, 3) := by decide +kernel
theorem dX5_putUp_104 : decode cX5_putUp 104 = .ok (.return_, 1) := by decide +kernel
set_option maxRecDepth 20000 in
theorem ggX5_layLinen_X2_giverFor : GoodIn wsX5_layLinen wsX2_giverFor := goodIn_r _ [7, 8, 34, 35, 36, 37, 38, 39, 40] (by decide +kernel) (by decide +kernel)
set_option maxRecDepth 20000 in
theorem gX5_layLinen_X2_giverFor : GoodIn wsX5_layLinen (wsV RX5 210 RX2 yX2_giverFor wsX2_giverFor) := goodIn_app (goodIn_of _ (by decide +kernel)) ggX5_layLinen_X2_giverFor
set_option maxRecDepth 20000 in
theorem ggX5_layLinen_X2_chargeForBorrowing : GoodIn wsX5_layLinen wsX2_chargeForBorrowing := goodIn_r _ [12, 13, 34, 35, 36, 37, 38, 39, 40] (by decide +kernel) (by decide +kernel)
set_option maxRecDepth 20000 in
theorem gX5_layLinen_X2_chargeForBorrowing : GoodIn wsX5_layLinen (wsV RX5 233 RX2 yX2_chargeForBorrowing wsX2_chargeForBorrowing) := goodIn_app (goodIn_of _ (by decide +kernel)) ggX5_layLinen_X2_chargeForBorrowing
set_option maxRecDepth 20000 in
theorem ggX5_layLinen_X1_owe : GoodIn wsX5_layLinen wsX1_owe := goodIn_r _ [18, 19, 20, 21, 17, 22, 41, 42] (by decide +kernel) (by decide +kernel)
set_option maxRecDepth 20000 in
theorem gX5_layLinen_X1_owe : GoodIn wsX5_layLinen (wsV RX5 219 RX1 yX1_owe wsX1_owe) := goodIn_app (goodIn_of _ (by decide +kernel)) ggX5_layLinen_X1_owe
set_option maxRecDepth 20000 in
theorem ggX5_layLinen_X2_take : GoodIn wsX5_layLinen wsX2_take := goodIn_r _ [26, 8, 27, 13, 34, 35, 36, 37, 38, 39, 40] (by decide +kernel) (by decide +kernel)
set_option maxRecDepth 20000 in
theorem gX5_layLinen_X2_take : GoodIn wsX5_layLinen (wsV RX5 236 RX2 yX2_take wsX2_take) := goodIn_app (goodIn_of _ (by decide +kernel)) ggX5_layLinen_X2_take
theorem dX5_layLinen_0 : decode cX5_layLinen 0 = .ok (.aload_n 0, 1) := by decide +kernel
theorem dX5_layLinen_1 : decode cX5_layLinen 1 = .ok (.getfield 19, 3) := by decide +kernel
theorem dX5_layLinen_4 : decode cX5_layLinen 4 = .ok (.iload_n 1, 1) := by decide +kernel
theorem dX5_layLinen_5 : decode cX5_layLinen 5 = .ok (.invokevirtual 210, 3) := by decide +kernel
theorem dX5_layLinen_8 : decode cX5_layLinen 8 = .ok (.istore_n 2, 1) := by decide +kernel
theorem dX5_layLinen_9 : decode cX5_layLinen 9 = .ok (.iload_n 2, 1) := by decide +kernel
theorem dX5_layLinen_10 : decode cX5_layLinen 10 = .ok (.iconst (-1), 1) := by decide +kernel
theorem dX5_layLinen_11 : decode cX5_layLinen 11 = .ok (.if_icmp .ne 4, 3) := by decide +kernel
theorem dX5_layLinen_14 : decode cX5_layLinen 14 = .ok (.return_, 1) := by decide +kernel
theorem dX5_layLinen_15 : decode cX5_layLinen 15 = .ok (.iload_n 2, 1) := by decide +kernel
theorem dX5_layLinen_16 : decode cX5_layLinen 16 = .ok (.iload_n 1, 1) := by decide +kernel
theorem dX5_layLinen_17 : decode cX5_layLinen 17 = .ok (.if_icmp .eq 19, 3) := by decide +kernel
theorem dX5_layLinen_20 : decode cX5_layLinen 20 = .ok (.aload_n 0, 1) := by decide +kernel
theorem dX5_layLinen_21 : decode cX5_layLinen 21 = .ok (.getfield 40, 3) := by decide +kernel
theorem dX5_layLinen_24 : decode cX5_layLinen 24 = .ok (.iload_n 1, 1) := by decide +kernel
theorem dX5_layLinen_25 : decode cX5_layLinen 25 = .ok (.iload_n 2, 1) := by decide +kernel
theorem dX5_layLinen_26 : decode cX5_layLinen 26 = .ok (.aload_n 0, 1) := by decide +kernel
theorem dX5_layLinen_27 : decode cX5_layLinen 27 = .ok (.getfield 19, 3) := by decide +kernel
theorem dX5_layLinen_30 : decode cX5_layLinen 30 = .ok (.invokevirtual 233, 3) := by decide +kernel
theorem dX5_layLinen_33 : decode cX5_layLinen 33 = .ok (.invokevirtual 219, 3) := by decide +kernel
theorem dX5_layLinen_36 : decode cX5_layLinen 36 = .ok (.aload_n 0, 1) := by decide +kernel
theorem dX5_layLinen_37 : decode cX5_layLinen 37 = .ok (.getfield 19, 3) := by decide +kernel
theorem dX5_layLinen_40 : decode cX5_layLinen 40 = .ok (.iload_n 1, 1) := by decide +kernel
theorem dX5_layLinen_41 : decode cX5_layLinen 41 = .ok (.iload_n 2, 1) := by decide +kernel
theorem dX5_layLinen_42 : decode cX5_layLinen 42 = .ok (.invokevirtual 236, 3) := by decide +kernel
theorem dX5_layLinen_45 : decode cX5_layLinen 45 = .ok (.return_, 1) := by decide +kernel
set_option maxRecDepth 20000 in
theorem ggX5_burnEarliest_X3_takeFrom : GoodIn wsX5_burnEarliest wsX3_takeFrom := goodIn_r _ [9, 10, 11, 12, 13, 14, 15, 31, 32, 33, 34] (by decide +kernel) (by decide +kernel)
set_option maxRecDepth 20000 in
theorem gX5_burnEarliest_X3_takeFrom : GoodIn wsX5_burnEarliest (wsV RX5 242 RX3 yX3_takeFrom wsX3_takeFrom) := goodIn_app (goodIn_of _ (by decide +kernel)) ggX5_burnEarliest_X3_takeFrom
set_option maxRecDepth 20000 in
theorem ggX5_burnEarliest_X1_owe : GoodIn wsX5_burnEarliest wsX1_owe := goodIn_r _ [20, 21, 22, 23, 19, 24, 35, 36] (by decide +kernel) (by decide +kernel)
set_option maxRecDepth 20000 in
theorem gX5_burnEarliest_X1_owe : GoodIn wsX5_burnEarliest (wsV RX5 219 RX1 yX1_owe wsX1_owe) := goodIn_app (goodIn_of _ (by decide +kernel)) ggX5_burnEarliest_X1_owe
theorem dX5_burnEarliest_0 : decode cX5_burnEarliest 0 = .ok (.iload_n 3, 1) := by decide +kernel
theorem dX5_burnEarliest_1 : decode cX5_burnEarliest 1 = .ok (.istore 4, 2) := by decide +kernel
theorem dX5_burnEarliest_3 : decode cX5_burnEarliest 3 = .ok (.iconst 0, 1) := by decide +kernel
theorem dX5_burnEarliest_4 : decode cX5_burnEarliest 4 = .ok (.istore 5, 2) := by decide +kernel
theorem dX5_burnEarliest_6 : decode cX5_burnEarliest 6 = .ok (.iload 5, 2) := by decide +kernel
theorem dX5_burnEarliest_8 : decode cX5_burnEarliest 8 = .ok (.aload_n 0, 1) := by decide +kernel
theorem dX5_burnEarliest_9 : decode cX5_burnEarliest 9 = .ok (.getfield 33, 3) := by decide +kernel
theorem dX5_burnEarliest_12 : decode cX5_burnEarliest 12 = .ok (.getfield 239, 3) := by decide +kernel
theorem dX5_burnEarliest_15 : decode cX5_burnEarliest 15 = .ok (.if_icmp .ge 69, 3) := by decide +kernel
theorem dX5_burnEarliest_18 : decode cX5_burnEarliest 18 = .ok (.iload 4, 2) := by decide +kernel
theorem dX5_burnEarliest_20 : decode cX5_burnEarliest 20 = .ok (.ifCond .le 64, 3) := by decide +kernel
theorem dX5_burnEarliest_23 : decode cX5_burnEarliest 23 = .ok (.aload_n 0, 1) := by decide +kernel
theorem dX5_burnEarliest_24 : decode cX5_burnEarliest 24 = .ok (.getfield 33, 3) := by decide +kernel
theorem dX5_burnEarliest_27 : decode cX5_burnEarliest 27 = .ok (.iload 5, 2) := by decide +kernel
theorem dX5_burnEarliest_29 : decode cX5_burnEarliest 29 = .ok (.iload_n 1, 1) := by decide +kernel
theorem dX5_burnEarliest_30 : decode cX5_burnEarliest 30 = .ok (.iload 4, 2) := by decide +kernel
theorem dX5_burnEarliest_32 : decode cX5_burnEarliest 32 = .ok (.invokevirtual 242, 3) := by decide +kernel
theorem dX5_burnEarliest_35 : decode cX5_burnEarliest 35 = .ok (.istore 6, 2) := by decide +kernel
theorem dX5_burnEarliest_37 : decode cX5_burnEarliest 37 = .ok (.iload 4, 2) := by decide +kernel
theorem dX5_burnEarliest_39 : decode cX5_burnEarliest 39 = .ok (.iload 6, 2) := by decide +kernel
theorem dX5_burnEarliest_41 : decode cX5_burnEarliest 41 = .ok (.isub, 1) := by decide +kernel
theorem dX5_burnEarliest_42 : decode cX5_burnEarliest 42 = .ok (.istore 4, 2) := by decide +kernel
theorem dX5_burnEarliest_44 : decode cX5_burnEarliest 44 = .ok (.aload_n 0, 1) := by decide +kernel
theorem dX5_burnEarliest_45 : decode cX5_burnEarliest 45 = .ok (.getfield 33, 3) := by decide +kernel
theorem dX5_burnEarliest_48 : decode cX5_burnEarliest 48 = .ok (.getfield 245, 3) := by decide +kernel
theorem dX5_burnEarliest_51 : decode cX5_burnEarliest 51 = .ok (.iload 5, 2) := by decide +kernel
theorem dX5_burnEarliest_53 : decode cX5_burnEarliest 53 = .ok (.iaload, 1) := by decide +kernel
theorem dX5_burnEarliest_54 : decode cX5_burnEarliest 54 = .ok (.iload_n 2, 1) := by decide +kernel
theorem dX5_burnEarliest_55 : decode cX5_burnEarliest 55 = .ok (.if_icmp .eq 23, 3) := by decide +kernel
theorem dX5_burnEarliest_58 : decode cX5_burnEarliest 58 = .ok (.aload_n 0, 1) := by decide +kernel
theorem dX5_burnEarliest_59 : decode cX5_burnEarliest 59 = .ok (.getfield 40, 3) := by decide +kernel
theorem dX5_burnEarliest_62 : decode cX5_burnEarliest 62 = .ok (.aload_n 0, 1) := by decide +kernel
theorem dX5_burnEarliest_63 : decode cX5_burnEarliest 63 = .ok (.getfield 33, 3) := by decide +kernel
theorem dX5_burnEarliest_66 : decode cX5_burnEarliest 66 = .ok (.getfield 245, 3) := by decide +kernel
theorem dX5_burnEarliest_69 : decode cX5_burnEarliest 69 = .ok (.iload 5, 2) := by decide +kernel
theorem dX5_burnEarliest_71 : decode cX5_burnEarliest 71 = .ok (.iaload, 1) := by decide +kernel
theorem dX5_burnEarliest_72 : decode cX5_burnEarliest 72 = .ok (.iload_n 2, 1) := by decide +kernel
theorem dX5_burnEarliest_73 : decode cX5_burnEarliest 73 = .ok (.iload 6, 2) := by decide +kernel
theorem dX5_burnEarliest_75 : decode cX5_burnEarliest 75 = .ok (.invokevirtual 219, 3) := by decide +kernel
theorem dX5_burnEarliest_78 : decode cX5_burnEarliest 78 = .ok (.iinc 5 1, 3) := by decide +kernel
theorem dX5_burnEarliest_81 : decode cX5_burnEarliest 81 = .ok (.goto (-75), 3) := by decide +kernel
theorem dX5_burnEarliest_84 : decode cX5_burnEarliest 84 = .ok (.return_, 1) := by decide +kernel
theorem dJ9_abs_0f7a4_0 : decode cJ9_abs_0f7a4 0 = .ok (.iload_n 0, 1) := by decide +kernel
theorem dJ9_abs_0f7a4_1 : decode cJ9_abs_0f7a4 1 = .ok (.ifCond .ge 8, 3) := by decide +kernel
theorem dJ9_abs_0f7a4_4 : decode cJ9_abs_0f7a4 4 = .ok (.iload_n 0, 1) := by decide +kernel
theorem dJ9_abs_0f7a4_5 : decode cJ9_abs_0f7a4 5 = .ok (.ineg, 1) := by decide +kernel
theorem dJ9_abs_0f7a4_6 : decode cJ9_abs_0f7a4 6 = .ok (.goto 4, 3) := by decide +kernel
theorem dJ9_abs_0f7a4_9 : decode cJ9_abs_0f7a4 9 = .ok (.iload_n 0, 1) := by decide +kernel
theorem dJ9_abs_0f7a4_10 : decode cJ9_abs_0f7a4 10 = .ok (.ireturn, 1) := by decide +kernel
theorem dJ9_max_7cf53_0 : decode cJ9_max_7cf53 0 = .ok (.iload_n 0, 1) := by decide +kernel
theorem dJ9_max_7cf53_1 : decode cJ9_max_7cf53 1 = .ok (.iload_n 1, 1) := by decide +kernel
theorem dJ9_max_7cf53_2 : decode cJ9_max_7cf53 2 = .ok (.if_icmp .lt 7, 3) := by decide +kernel
theorem dJ9_max_7cf53_5 : decode cJ9_max_7cf53 5 = .ok (.iload_n 0, 1) := by decide +kernel
theorem dJ9_max_7cf53_6 : decode cJ9_max_7cf53 6 = .ok (.goto 4, 3) := by decide +kernel
theorem dJ9_max_7cf53_9 : decode cJ9_max_7cf53 9 = .ok (.iload_n 1, 1) := by decide +kernel
theorem dJ9_max_7cf53_10 : decode cJ9_max_7cf53 10 = .ok (.ireturn, 1) := by decide +kernel
theorem dJ9_min_7cf53_0 : decode cJ9_min_7cf53 0 = .ok (.iload_n 0, 1) := by decide +kernel
theorem dJ9_min_7cf53_1 : decode cJ9_min_7cf53 1 = .ok (.iload_n 1, 1) := by decide +kernel
theorem dJ9_min_7cf53_2 : decode cJ9_min_7cf53 2 = .ok (.if_icmp .gt 7, 3) := by decide +kernel
theorem dJ9_min_7cf53_5 : decode cJ9_min_7cf53 5 = .ok (.iload_n 0, 1) := by decide +kernel
theorem dJ9_min_7cf53_6 : decode cJ9_min_7cf53 6 = .ok (.goto 4, 3) := by decide +kernel
theorem dJ9_min_7cf53_9 : decode cJ9_min_7cf53 9 = .ok (.iload_n 1, 1) := by decide +kernel
theorem dJ9_min_7cf53_10 : decode cJ9_min_7cf53 10 = .ok (.ireturn, 1) := by decide +kernel
theorem dL_told_0 : decode cL_told 0 = .ok (.iload_n 1, 1) := by decide +kernel
theorem dL_told_1 : decode cL_told 1 = .ok (.aload_n 0, 1) := by decide +kernel
theorem dL_told_2 : decode cL_told 2 = .ok (.arraylength, 1) := by decide +kernel
theorem dL_told_3 : decode cL_told 3 = .ok (.if_icmp .ge 9, 3) := by decide +kernel
theorem dL_told_6 : decode cL_told 6 = .ok (.aload_n 0, 1) := by decide +kernel
theorem dL_told_7 : decode cL_told 7 = .ok (.iload_n 1, 1) := by decide +kernel
theorem dL_told_8 : decode cL_told 8 = .ok (.iaload, 1) := by decide +kernel
theorem dL_told_9 : decode cL_told 9 = .ok (.goto 14, 3) := by decide +kernel
theorem dL_told_12 : decode cL_told 12 = .ok (.ldc 7, 2) := by decide +kernel
theorem dL_told_14 : decode cL_told 14 = .ok (.iload_n 1, 1) := by decide +kernel
theorem dL_told_15 : decode cL_told 15 = .ok (.bipush 7, 2) := by decide +kernel
theorem dL_told_17 : decode cL_told 17 = .ok (.iadd, 1) := by decide +kernel
theorem dL_told_18 : decode cL_told 18 = .ok (.imul, 1) := by decide +kernel
theorem dL_told_19 : decode cL_told 19 = .ok (.iload_n 1, 1) := by decide +kernel
theorem dL_told_20 : decode cL_told 20 = .ok (.iconst 4, 1) := by decide +kernel
theorem dL_told_21 : decode cL_told 21 = .ok (.iadd, 1) := by decide +kernel
theorem dL_told_22 : decode cL_told 22 = .ok (.imul, 1) := by decide +kernel
theorem dL_told_23 : decode cL_told 23 = .ok (.ldc 8, 2) := by decide +kernel
theorem dL_told_25 : decode cL_told 25 = .ok (.iand, 1) := by decide +kernel
theorem dL_told_26 : decode cL_told 26 = .ok (.ireturn, 1) := by decide +kernel
set_option maxRecDepth 20000 in
theorem ggL_sum_X5_purse : GoodIn wsL_sum wsX5_purse := goodIn_ca (goodIn_r _ [5, 6, 7, 8, 9, 4, 10, 11, 12, 32, 33, 34, 35, 36, 37, 38, 39] (by decide +kernel) (by decide +kernel)) (goodIn_sub (fun _ h => List.mem_cons_of_mem _ (List.mem_append_right _ h)) (by decide +kernel))
set_option maxRecDepth 20000 in
theorem gL_sum_X5_purse : GoodIn wsL_sum (wsV RL 9 RX5 yX5_purse wsX5_purse) := goodIn_app (goodIn_of _ (by decide +kernel)) ggL_sum_X5_purse
set_option maxRecDepth 20000 in
theorem ggL_sum_X5_clean : GoodIn wsL_sum wsX5_clean := goodIn_ca (goodIn_r _ [16, 17, 18, 8, 9, 4, 10, 11, 12, 32, 33, 34, 35, 36, 37, 40, 41, 42, 43, 44, 45, 46] (by decide +kernel) (by decide +kernel)) (goodIn_sub (fun _ h => List.mem_cons_of_mem _ (List.mem_append_right _ h)) (by decide +kernel))
set_option maxRecDepth 20000 in
theorem gL_sum_X5_clean : GoodIn wsL_sum (wsV RL 15 RX5 yX5_clean wsX5_clean) := goodIn_app (goodIn_of _ (by decide +kernel)) ggL_sum_X5_clean
set_option maxRecDepth 20000 in
theorem ggL_sum_X5_away : GoodIn wsL_sum wsX5_away := goodIn_ca (goodIn_r _ [22, 17, 8, 9, 4, 10, 11, 12, 23, 24, 25, 26, 27, 28, 29, 30, 31, 32, 33, 34, 35, 36, 37, 40, 41, 42, 43, 44, 45, 46] (by decide +kernel) (by decide +kernel)) (goodIn_sub (fun _ h => List.mem_cons_of_mem _ (List.mem_append_right _ h)) (by decide +kernel))
set_option maxRecDepth 20000 in
theorem gL_sum_X5_away : GoodIn wsL_sum (wsV RL 18 RX5 yX5_away wsX5_away) := goodIn_app (goodIn_of _ (by decide +kernel)) ggL_sum_X5_away
theorem dL_sum_0 : decode cL_sum 0 = .ok (.iconst 0, 1) := by decide +kernel
theorem dL_sum_1 : decode cL_sum 1 = .ok (.istore_n 2, 1) := by decide +kernel
theorem dL_sum_2 : decode cL_sum 2 = .ok (.iconst 0, 1) := by decide +kernel
theorem dL_sum_3 : decode cL_sum 3 = .ok (.istore_n 3, 1) := by decide +kernel
theorem dL_sum_4 : decode cL_sum 4 = .ok (.iload_n 3, 1) := by decide +kernel
theorem dL_sum_5 : decode cL_sum 5 = .ok (.iconst 4, 1) := by decide +kernel
theorem dL_sum_6 : decode cL_sum 6 = .ok (.if_icmp .ge 35, 3) := by decide +kernel
theorem dL_sum_9 : decode cL_sum 9 = .ok (.iload_n 2, 1) := by decide +kernel
theorem dL_sum_10 : decode cL_sum 10 = .ok (.iload_n 1, 1) := by decide +kernel
theorem dL_sum_11 : decode cL_sum 11 = .ok (.ifCond .ne 11, 3) := by decide +kernel
theorem dL_sum_14 : decode cL_sum 14 = .ok (.aload_n 0, 1) := by decide +kernel
theorem dL_sum_15 : decode cL_sum 15 = .ok (.iload_n 3, 1) := by decide +kernel
theorem dL_sum_16 : decode cL_sum 16 = .ok (.invokevirtual 9, 3) := by decide +kernel
theorem dL_sum_19 : decode cL_sum 19 = .ok (.goto 14, 3) := by decide +kernel
theorem dL_sum_22 : decode cL_sum 22 = .ok (.aload_n 0, 1) := by decide +kernel
theorem dL_sum_23 : decode cL_sum 23 = .ok (.iload_n 3, 1) := by decide +kernel
theorem dL_sum_24 : decode cL_sum 24 = .ok (.invokevirtual 15, 3) := by decide +kernel
theorem dL_sum_27 : decode cL_sum 27 = .ok (.aload_n 0, 1) := by decide +kernel
theorem dL_sum_28 : decode cL_sum 28 = .ok (.iload_n 3, 1) := by decide +kernel
theorem dL_sum_29 : decode cL_sum 29 = .ok (.invokevirtual 18, 3) := by decide +kernel
theorem dL_sum_32 : decode cL_sum 32 = .ok (.iadd, 1) := by decide +kernel
theorem dL_sum_33 : decode cL_sum 33 = .ok (.iadd, 1) := by decide +kernel
theorem dL_sum_34 : decode cL_sum 34 = .ok (.istore_n 2, 1) := by decide +kernel
theorem dL_sum_35 : decode cL_sum 35 = .ok (.iinc 3 1, 3) := by decide +kernel
theorem dL_sum_38 : decode cL_sum 38 = .ok (.goto (-34), 3) := by decide +kernel
theorem dL_sum_41 : decode cL_sum 41 = .ok (.iload_n 2, 1) := by decide +kernel
theorem dL_sum_42 : decode cL_sum 42 = .ok (.ireturn, 1) := by decide +kernel
theorem dL_booked_0 : decode cL_booked 0 = .ok (.iconst 0, 1) := by decide +kernel
theorem dL_booked_1 : decode cL_booked 1 = .ok (.istore_n 3, 1) := by decide +kernel
theorem dL_booked_2 : decode cL_booked 2 = .ok (.iconst 0, 1) := by decide +kernel
theorem dL_booked_3 : decode cL_booked 3 = .ok (.istore 4, 2) := by decide +kernel
theorem dL_booked_5 : decode cL_booked 5 = .ok (.iload 4, 2) := by decide +kernel
theorem dL_booked_7 : decode cL_booked 7 = .ok (.iload_n 1, 1) := by decide +kernel
theorem dL_booked_8 : decode cL_booked 8 = .ok (.if_icmp .ge 25, 3) := by decide +kernel
theorem dL_booked_11 : decode cL_booked 11 = .ok (.iload_n 3, 1) := by decide +kernel
theorem dL_booked_12 : decode cL_booked 12 = .ok (.aload_n 0, 1) := by decide +kernel
theorem dL_booked_13 : decode cL_booked 13 = .ok (.iload 4, 2) := by decide +kernel
theorem dL_booked_15 : decode cL_booked 15 = .ok (.iaload, 1) := by decide +kernel
theorem dL_booked_16 : decode cL_booked 16 = .ok (.iload_n 2, 1) := by decide +kernel
theorem dL_booked_17 : decode cL_booked 17 = .ok (.if_icmp .ne 7, 3) := by decide +kernel
theorem dL_booked_20 : decode cL_booked 20 = .ok (.iconst 1, 1) := by decide +kernel
theorem dL_booked_21 : decode cL_booked 21 = .ok (.goto 4, 3) := by decide +kernel
theorem dL_booked_24 : decode cL_booked 24 = .ok (.iconst 0, 1) := by decide +kernel
theorem dL_booked_25 : decode cL_booked 25 = .ok (.iadd, 1) := by decide +kernel
theorem dL_booked_26 : decode cL_booked 26 = .ok (.istore_n 3, 1) := by decide +kernel
theorem dL_booked_27 : decode cL_booked 27 = .ok (.iinc 4 1, 3) := by decide +kernel
theorem dL_booked_30 : decode cL_booked 30 = .ok (.goto (-25), 3) := by decide +kernel
theorem dL_booked_33 : decode cL_booked 33 = .ok (.iload_n 3, 1) := by decide +kernel
theorem dL_booked_34 : decode cL_booked 34 = .ok (.ireturn, 1) := by decide +kernel
set_option maxRecDepth 20000 in
theorem ggL_does_X5_bookings : GoodIn wsL_does wsX5_bookings := goodIn_r _ [5, 6, 7, 299, 300, 301, 302, 303, 304, 305, 306, 307, 308, 309, 310, 311] (by decide +kernel) (by decide +kernel)
set_option maxRecDepth 20000 in
theorem gL_does_X5_bookings : GoodIn wsL_does (wsV RL 21 RX5 yX5_bookings wsX5_bookings) := goodIn_app (goodIn_of _ (by decide +kernel)) ggL_does_X5_bookings
set_option maxRecDepth 20000 in
theorem ggL_does_X5_setRooms : GoodIn wsL_does wsX5_setRooms := goodIn_ca (goodIn_ca (goodIn_r _ [11, 12, 13, 14, 4, 15, 16, 17, 18, 19, 20, 21, 22, 23, 24, 25, 26, 27, 28, 29, 30, 31, 32, 33, 34, 35, 299, 300, 301, 302, 303, 304, 312, 313, 314] (by decide +kernel) (by decide +kernel)) (goodIn_sub (fun _ h => List.mem_cons_of_mem _ (List.mem_append_left _ (List.mem_append_left _ (List.mem_append_right _ h)))) (by decide +kernel))) (goodIn_sub (fun _ h => List.mem_cons_of_mem _ (List.mem_append_left _ (List.mem_append_right _ h))) (by decide +kernel))
set_option maxRecDepth 20000 in
theorem gL_does_X5_setRooms : GoodIn wsL_does (wsV RL 25 RX5 yX5_setRooms wsX5_setRooms) := goodIn_app (goodIn_of _ (by decide +kernel)) ggL_does_X5_setRooms
set_option maxRecDepth 20000 in
theorem ggL_does_X5_clean : GoodIn wsL_does wsX5_clean := goodIn_ca (goodIn_r _ [39, 40, 41, 13, 14, 4, 15, 16, 17, 299, 300, 301, 302, 303, 304, 315, 316, 317, 318, 319, 320, 321] (by decide +kernel) (by decide +kernel)) (goodIn_sub (fun _ h => List.mem_cons_of_mem _ (List.mem_append_left _ (List.mem_append_left _ (List.mem_append_right _ h)))) (by decide +kernel))
set_option maxRecDepth 20000 in
theorem gL_does_X5_clean : GoodIn wsL_does (wsV RL 15 RX5 yX5_clean wsX5_clean) := goodIn_app (goodIn_of _ (by decide +kernel)) ggL_does_X5_clean
set_option maxRecDepth 20000 in
theorem ggL_does_X5_buyLinen : GoodIn wsL_does wsX5_buyLinen := goodIn_ca (goodIn_ca (goodIn_r _ [45, 40, 13, 14, 4, 15, 16, 17, 21, 22, 23, 24, 25, 46, 47, 48, 49, 50, 51, 299, 300, 301, 302, 303, 304, 315, 316, 317, 318, 319, 320, 321] (by decide +kernel) (by decide +kernel)) (goodIn_sub (fun _ h => List.mem_cons_of_mem _ (List.mem_append_left _ (List.mem_append_left _ (List.mem_append_right _ h)))) (by decide +kernel))) (goodIn_sub (fun _ h => List.mem_cons_of_mem _ (List.mem_append_left _ (List.mem_append_right _ h))) (by decide +kernel))
set_option maxRecDepth 20000 in
theorem gL_does_X5_buyLinen : GoodIn wsL_does (wsV RL 29 RX5 yX5_buyLinen wsX5_buyLinen) := goodIn_app (goodIn_of _ (by decide +kernel)) ggL_does_X5_buyLinen
set_option maxRecDepth 20000 in
theorem ggL_does_X5_setBroken : GoodIn wsL_does wsX5_setBroken := goodIn_r _ [55, 40, 56, 57, 58, 49, 59, 60, 299, 300, 301, 302, 303, 304, 315, 316, 317, 318, 319, 320, 321] (by decide +kernel) (by decide +kernel)
set_option maxRecDepth 20000 in
theorem gL_does_X5_setBroken : GoodIn wsL_does (wsV RL 33 RX5 yX5_setBroken wsX5_setBroken) := goodIn_app (goodIn_of _ (by decide +kernel)) ggL_does_X5_setBroken
set_option maxRecDepth 20000 in
theorem ggL_does_X5_today : GoodIn wsL_does wsX5_today := goodIn_r _ [64, 65, 299, 300, 301, 302, 303, 304] (by decide +kernel) (by decide +kernel)
set_option maxRecDepth 20000 in
theorem gL_does_X5_today : GoodIn wsL_does (wsV RL 37 RX5 yX5_today wsX5_today) := goodIn_app (goodIn_of _ (by decide +kernel)) ggL_does_X5_today
set_option maxRecDepth 20000 in
theorem ggL_does_L_booked : GoodIn wsL_does wsL_booked := goodIn_r _ [69] (by decide +kernel) (by decide +kernel)
set_option maxRecDepth 20000 in
theorem gL_does_L_booked : GoodIn wsL_does (va_wsS RL 40 yL_booked wsL_booked) := goodIn_app (goodIn_of _ (by decide +kernel)) ggL_does_L_booked
set_option maxRecDepth 20000 in
theorem ggL_does_X5_extra : GoodIn wsL_does wsX5_extra := goodIn_ca (goodIn_r _ [73, 13, 14, 4, 15, 16, 17, 74, 75, 76, 77, 6, 65, 78, 79, 80, 81, 82, 83, 84, 85, 86, 299, 300, 301, 302, 303, 304, 305, 306, 307, 308, 309, 310, 311] (by decide +kernel) (by decide +kernel)) (goodIn_sub (fun _ h => List.mem_cons_of_mem _ (List.mem_append_left _ (List.mem_append_left _ (List.mem_append_right _ h)))) (by decide +kernel))
set_option maxRecDepth 20000 in
theorem gL_does_X5_extra : GoodIn wsL_does (wsV RL 46 RX5 yX5_extra wsX5_extra) := goodIn_app (goodIn_of _ (by decide +kernel)) ggL_does_X5_extra
set_option maxRecDepth 20000 in
theorem ggL_does_X5_book : GoodIn wsL_does wsX5_book := goodIn_ca (goodIn_ca (goodIn_ca (goodIn_r _ [90, 91, 92, 65, 6, 93, 94, 4, 95, 16, 17, 13, 14, 15, 18, 19, 20, 21, 22, 23, 24, 25, 96, 97, 98, 81, 99, 83, 100, 101, 102, 103, 12, 104, 105, 106, 107, 84, 108, 85, 109, 110, 111, 29, 112, 31, 33, 34, 35, 74, 75, 76, 77, 78, 79, 80, 82, 86, 113, 114, 115, 116, 117, 118, 299, 300, 301, 302, 303, 304, 305, 306, 307, 308, 309, 310, 311, 312, 313, 314] (by decide +kernel) (by decide +kernel)) (goodIn_sub (fun _ h => List.mem_cons_of_mem _ (List.mem_append_right _ h)) (by decide +kernel))) (goodIn_sub (fun _ h => List.mem_cons_of_mem _ (List.mem_append_left _ (List.mem_append_left _ (List.mem_append_right _ h)))) (by decide +kernel))) (goodIn_sub (fun _ h => List.mem_cons_of_mem _ (List.mem_append_left _ (List.mem_append_right _ h))) (by decide +kernel))
set_option maxRecDepth 20000 in
theorem gL_does_X5_book : GoodIn wsL_does (wsV RL 49 RX5 yX5_book wsX5_book) := goodIn_app (goodIn_of _ (by decide +kernel)) ggL_does_X5_book
set_option maxRecDepth 20000 in
theorem ggL_does_X5_sleeps : GoodIn wsL_does wsX5_sleeps := goodIn_ca (goodIn_r _ [122, 6, 123, 124, 125, 126, 4, 127, 16, 17, 7, 299, 300, 301, 302, 303, 304, 305, 306, 307, 308, 309, 310, 311] (by decide +kernel) (by decide +kernel)) (goodIn_sub (fun _ h => List.mem_cons_of_mem _ (List.mem_append_left _ (List.mem_append_left _ (List.mem_append_right _ h)))) (by decide +kernel))
set_option maxRecDepth 20000 in
theorem gL_does_X5_sleeps : GoodIn wsL_does (wsV RL 52 RX5 yX5_sleeps wsX5_sleeps) := goodIn_app (goodIn_of _ (by decide +kernel)) ggL_does_X5_sleeps
set_option maxRecDepth 20000 in
theorem ggL_does_X5_points : GoodIn wsL_does wsX5_points := goodIn_ca (goodIn_r _ [131, 132, 93, 94, 4, 95, 16, 17, 133, 134, 135, 136, 137, 138, 139, 140, 299, 300, 301, 302, 303, 304, 322, 323, 324, 325] (by decide +kernel) (by decide +kernel)) (goodIn_sub (fun _ h => List.mem_cons_of_mem _ (List.mem_append_left _ (List.mem_append_left _ (List.mem_append_right _ h)))) (by decide +kernel))
set_option maxRecDepth 20000 in
theorem gL_does_X5_points : GoodIn wsL_does (wsV RL 55 RX5 yX5_points wsX5_points) := goodIn_app (goodIn_of _ (by decide +kernel)) ggL_does_X5_points
set_option maxRecDepth 20000 in
theorem ggL_does_L_sum : GoodIn wsL_does wsL_sum := goodIn_ca (goodIn_r _ [143, 144, 145, 146, 4, 147, 148, 149, 13, 14, 15, 16, 17, 36, 37, 38, 39, 40, 41, 150, 151, 152, 153, 154, 155, 156, 49, 157, 158, 159, 160, 161, 299, 300, 301, 302, 303, 304, 326, 327, 315, 316, 317, 318, 319, 320, 321] (by decide +kernel) (by decide +kernel)) (goodIn_sub (fun _ h => List.mem_cons_of_mem _ (List.mem_append_left _ (List.mem_append_left _ (List.mem_append_right _ h)))) (by decide +kernel))
set_option maxRecDepth 20000 in
theorem gL_does_L_sum : GoodIn wsL_does (va_wsS RL 58 yL_sum wsL_sum) := goodIn_app (goodIn_of _ (by decide +kernel)) ggL_does_L_sum
set_option maxRecDepth 20000 in
theorem ggL_does_X5_come : GoodIn wsL_does wsX5_come := goodIn_ca (goodIn_ca (goodIn_r _ [165, 91, 92, 6, 166, 65, 167, 168, 169, 124, 125, 126, 4, 127, 16, 17, 7, 170, 171, 172, 173, 12, 40, 174, 175, 176, 177, 178, 179, 180, 181, 182, 183, 184, 185, 186, 29, 187, 188, 189, 190, 191, 110, 111, 112, 31, 33, 34, 35, 192, 193, 194, 195, 196, 197, 198, 199, 49, 200, 51, 201, 202, 203, 81, 204, 86, 118, 205, 206, 207, 208, 148, 132, 209, 210, 211, 212, 213, 32, 214, 215, 216, 217, 218, 219, 220, 221, 222, 223, 224, 225, 226, 227, 228, 229, 230, 231, 232, 233, 234, 235, 236, 237, 238, 239, 240, 158, 241, 242, 243, 244, 245, 246, 247, 136, 248, 138, 139, 249, 140, 299, 300, 301, 302, 303, 304, 305, 306, 307, 308, 309, 310, 311, 312, 313, 314, 315, 316, 317, 318, 319, 320, 321, 326, 327, 322, 323, 324, 325] (by decide +kernel) (by decide +kernel)) (goodIn_sub (fun _ h => List.mem_cons_of_mem _ (List.mem_append_right _ h)) (by decide +kernel))) (goodIn_sub (fun _ h => List.mem_cons_of_mem _ (List.mem_append_left _ (List.mem_append_left _ (List.mem_append_right _ h)))) (by decide +kernel))
set_option maxRecDepth 20000 in
theorem gL_does_X5_come : GoodIn wsL_does (wsV RL 62 RX5 yX5_come wsX5_come) := goodIn_app (goodIn_of _ (by decide +kernel)) ggL_does_X5_come
set_option maxRecDepth 20000 in
theorem ggL_does_X5_burn : GoodIn wsL_does wsX5_burn := goodIn_ca (goodIn_ca (goodIn_ca (goodIn_r _ [253, 91, 92, 132, 93, 94, 4, 95, 16, 17, 13, 14, 15, 21, 22, 23, 24, 25, 133, 134, 135, 136, 137, 138, 139, 140, 254, 255, 256, 257, 258, 259, 148, 260, 261, 262, 263, 264, 182, 179, 183, 220, 221, 222, 217, 223, 224, 225, 226, 227, 299, 300, 301, 302, 303, 304, 322, 323, 324, 325, 326, 327] (by decide +kernel) (by decide +kernel)) (goodIn_sub (fun _ h => List.mem_cons_of_mem _ (List.mem_append_right _ h)) (by decide +kernel))) (goodIn_sub (fun _ h => List.mem_cons_of_mem _ (List.mem_append_left _ (List.mem_append_left _ (List.mem_append_right _ h)))) (by decide +kernel))) (goodIn_sub (fun _ h => List.mem_cons_of_mem _ (List.mem_append_left _ (List.mem_append_right _ h))) (by decide +kernel))
set_option maxRecDepth 20000 in
theorem gL_does_X5_burn : GoodIn wsL_does (wsV RL 65 RX5 yX5_burn wsX5_burn) := goodIn_app (goodIn_of _ (by decide +kernel)) ggL_does_X5_burn
set_option maxRecDepth 20000 in
theorem ggL_does_X5_settle : GoodIn wsL_does wsX5_settle := goodIn_r _ [268, 148, 269, 270, 271, 217, 272, 273, 274, 275, 276, 219, 277, 278, 279, 280, 224, 281, 189, 179, 190, 225, 226, 227, 282, 221, 222, 223, 299, 300, 301, 302, 303, 304, 326, 327] (by decide +kernel) (by decide +kernel)
set_option maxRecDepth 20000 in
theorem gL_does_X5_settle : GoodIn wsL_does (wsV RL 69 RX5 yX5_settle wsX5_settle) := goodIn_app (goodIn_of _ (by decide +kernel)) ggL_does_X5_settle
set_option maxRecDepth 20000 in
theorem ggL_does_X5_night : GoodIn wsL_does wsX5_night := goodIn_ca (goodIn_r _ [286, 91, 92, 65, 6, 12, 40, 287, 288, 289, 81, 290, 83, 85, 86, 291, 292, 293, 29, 294, 196, 295, 296, 297, 49, 298, 161, 160, 159, 158, 60, 51, 236, 299, 300, 301, 302, 303, 304, 305, 306, 307, 308, 309, 310, 311, 312, 313, 314, 315, 316, 317, 318, 319, 320, 321] (by decide +kernel) (by decide +kernel)) (goodIn_sub (fun _ h => List.mem_cons_of_mem _ (List.mem_append_right _ h)) (by decide +kernel))
set_option maxRecDepth 20000 in
theorem gL_does_X5_night : GoodIn wsL_does (wsV RL 72 RX5 yX5_night wsX5_night) := goodIn_app (goodIn_of _ (by decide +kernel)) ggL_does_X5_night
theorem dL_does_0 : decode cL_does 0 = .ok (.iload 5, 2) := by decide +kernel
theorem dL_does_2 : decode cL_does 2 = .ok (.bipush 10, 2) := by decide +kernel
theorem dL_does_4 : decode cL_does 4 = .ok (.idiv, 1) := by decide +kernel
theorem dL_does_5 : decode cL_does 5 = .ok (.iconst 4, 1) := by decide +kernel
theorem dL_does_6 : decode cL_does 6 = .ok (.irem, 1) := by decide +kernel
theorem dL_does_7 : decode cL_does 7 = .ok (.istore 7, 2) := by decide +kernel
theorem dL_does_9 : decode cL_does 9 = .ok (.iload 5, 2) := by decide +kernel
theorem dL_does_11 : decode cL_does 11 = .ok (.bipush 40, 2) := by decide +kernel
theorem dL_does_13 : decode cL_does 13 = .ok (.idiv, 1) := by decide +kernel
theorem dL_does_14 : decode cL_does 14 = .ok (.iconst 2, 1) := by decide +kernel
theorem dL_does_15 : decode cL_does 15 = .ok (.irem, 1) := by decide +kernel
theorem dL_does_16 : decode cL_does 16 = .ok (.istore 8, 2) := by decide +kernel
theorem dL_does_18 : decode cL_does 18 = .ok (.aload_n 0, 1) := by decide +kernel
theorem dL_does_19 : decode cL_does 19 = .ok (.invokevirtual 21, 3) := by decide +kernel
theorem dL_does_22 : decode cL_does 22 = .ok (.istore 9, 2) := by decide +kernel
theorem dL_does_24 : decode cL_does 24 = .ok (.iload 9, 2) := by decide +kernel
theorem dL_does_26 : decode cL_does 26 = .ok (.ifCond .ne 7, 3) := by decide +kernel
theorem dL_does_29 : decode cL_does 29 = .ok (.iconst (-1), 1) := by decide +kernel
theorem dL_does_30 : decode cL_does 30 = .ok (.goto 25, 3) := by decide +kernel
theorem dL_does_33 : decode cL_does 33 = .ok (.iload 9, 2) := by decide +kernel
theorem dL_does_35 : decode cL_does 35 = .ok (.iconst 1, 1) := by decide +kernel
theorem dL_does_36 : decode cL_does 36 = .ok (.isub, 1) := by decide +kernel
theorem dL_does_37 : decode cL_does 37 = .ok (.iload 6, 2) := by decide +kernel
theorem dL_does_39 : decode cL_does 39 = .ok (.iload 9, 2) := by decide +kernel
theorem dL_does_41 : decode cL_does 41 = .ok (.bipush 6, 2) := by decide +kernel
theorem dL_does_43 : decode cL_does 43 = .ok (.if_icmp .ge 8, 3) := by decide +kernel
theorem dL_does_46 : decode cL_does 46 = .ok (.iload 9, 2) := by decide +kernel
theorem dL_does_48 : decode cL_does 48 = .ok (.goto 5, 3) := by decide +kernel
theorem dL_does_51 : decode cL_does 51 = .ok (.bipush 6, 2) := by decide +kernel
theorem dL_does_53 : decode cL_does 53 = .ok (.irem, 1) := by decide +kernel
theorem dL_does_54 : decode cL_does 54 = .ok (.isub, 1) := by decide +kernel
theorem dL_does_55 : decode cL_does 55 = .ok (.istore 10, 2) := by decide +kernel
theorem dL_does_57 : decode cL_does 57 = .ok (.iload 5, 2) := by decide +kernel
theorem dL_does_59 : decode cL_does 59 = .ok (.bipush 10, 2) := by decide +kernel
theorem dL_does_61 : decode cL_does 61 = .ok (.irem, 1) := by decide +kernel
theorem dL_does_62 : decode cL_does 62 = .ok (.tableswitch 531 0 8 #[50, 106, 146, 200, 200, 200, 317, 317, 447], 50) := by decide +kernel
theorem dL_does_112 : decode cL_does 112 = .ok (.aload_n 1, 1) := by decide +kernel
theorem dL_does_113 : decode cL_does 113 = .ok (.iconst 2, 1) := by decide +kernel
theorem dL_does_114 : decode cL_does 114 = .ok (.iload 7, 2) := by decide +kernel
theorem dL_does_116 : decode cL_does 116 = .ok (.imul, 1) := by decide +kernel
theorem dL_does_117 : decode cL_does 117 = .ok (.iload 8, 2) := by decide +kernel
theorem dL_does_119 : decode cL_does 119 = .ok (.iadd, 1) := by decide +kernel
theorem dL_does_120 : decode cL_does 120 = .ok (.iaload, 1) := by decide +kernel
theorem dL_does_121 : decode cL_does 121 = .ok (.istore 11, 2) := by decide +kernel
theorem dL_does_123 : decode cL_does 123 = .ok (.aload_n 1, 1) := by decide +kernel
theorem dL_does_124 : decode cL_does 124 = .ok (.iconst 2, 1) := by decide +kernel
theorem dL_does_125 : decode cL_does 125 = .ok (.iload 7, 2) := by decide +kernel
theorem dL_does_127 : decode cL_does 127 = .ok (.imul, 1) := by decide +kernel
theorem dL_does_128 : decode cL_does 128 = .ok (.iload 8, 2) := by decide +kernel
theorem dL_does_130 : decode cL_does 130 = .ok (.iadd, 1) := by decide +kernel
theorem dL_does_131 : decode cL_does 131 = .ok (.iload 6, 2) := by decide +kernel
theorem dL_does_133 : decode cL_does 133 = .ok (.iconst 5, 1) := by decide +kernel
theorem dL_does_134 : decode cL_does 134 = .ok (.irem, 1) := by decide +kernel
theorem dL_does_135 : decode cL_does 135 = .ok (.iastore, 1) := by decide +kernel
theorem dL_does_136 : decode cL_does 136 = .ok (.aload_n 0, 1) := by decide +kernel
theorem dL_does_137 : decode cL_does 137 = .ok (.iload 7, 2) := by decide +kernel
theorem dL_does_139 : decode cL_does 139 = .ok (.iload 8, 2) := by decide +kernel
theorem dL_does_141 : decode cL_does 141 = .ok (.iload 6, 2) := by decide +kernel
theorem dL_does_143 : decode cL_does 143 = .ok (.iconst 5, 1) := by decide +kernel
theorem dL_does_144 : decode cL_does 144 = .ok (.irem, 1) := by decide +kernel
theorem dL_does_145 : decode cL_does 145 = .ok (.iconst 1, 1) := by decide +kernel
theorem dL_does_146 : decode cL_does 146 = .ok (.iload 6, 2) := by decide +kernel
theorem dL_does_148 : decode cL_does 148 = .ok (.iconst 5, 1) := by decide +kernel
theorem dL_does_149 : decode cL_does 149 = .ok (.idiv, 1) := by decide +kernel
theorem dL_does_150 : decode cL_does 150 = .ok (.bipush 100, 2) := by decide +kernel
theorem dL_does_152 : decode cL_does 152 = .ok (.irem, 1) := by decide +kernel
theorem dL_does_153 : decode cL_does 153 = .ok (.iadd, 1) := by decide +kernel
theorem dL_does_154 : decode cL_does 154 = .ok (.invokevirtual 25, 3) := by decide +kernel
theorem dL_does_157 : decode cL_does 157 = .ok (.iload 11, 2) := by decide +kernel
theorem dL_does_159 : decode cL_does 159 = .ok (.if_icmp .ne 7, 3) := by decide +kernel
theorem dL_does_162 : decode cL_does 162 = .ok (.iconst 1, 1) := by decide +kernel
theorem dL_does_163 : decode cL_does 163 = .ok (.goto 4, 3) := by decide +kernel
theorem dL_does_166 : decode cL_does 166 = .ok (.iconst 0, 1) := by decide +kernel
theorem dL_does_167 : decode cL_does 167 = .ok (.ireturn, 1) := by decide +kernel
theorem dL_does_168 : decode cL_does 168 = .ok (.aload_n 0, 1) := by decide +kernel
theorem dL_does_169 : decode cL_does 169 = .ok (.iload 7, 2) := by decide +kernel
theorem dL_does_171 : decode cL_does 171 = .ok (.invokevirtual 15, 3) := by decide +kernel
theorem dL_does_174 : decode cL_does 174 = .ok (.istore 12, 2) := by decide +kernel
theorem dL_does_176 : decode cL_does 176 = .ok (.aload_n 0, 1) := by decide +kernel
theorem dL_does_177 : decode cL_does 177 = .ok (.iload 7, 2) := by decide +kernel
theorem dL_does_179 : decode cL_does 179 = .ok (.iconst 1, 1) := by decide +kernel
theorem dL_does_180 : decode cL_does 180 = .ok (.iload 6, 2) := by decide +kernel
theorem dL_does_182 : decode cL_does 182 = .ok (.bipush 6, 2) := by decide +kernel
theorem dL_does_184 : decode cL_does 184 = .ok (.irem, 1) := by decide +kernel
theorem dL_does_185 : decode cL_does 185 = .ok (.iadd, 1) := by decide +kernel
theorem dL_does_186 : decode cL_does 186 = .ok (.invokevirtual 29, 3) := by decide +kernel
theorem dL_does_189 : decode cL_does 189 = .ok (.iload 12, 2) := by decide +kernel
theorem dL_does_191 : decode cL_does 191 = .ok (.iconst 1, 1) := by decide +kernel
theorem dL_does_192 : decode cL_does 192 = .ok (.iadd, 1) := by decide +kernel
theorem dL_does_193 : decode cL_does 193 = .ok (.iload 6, 2) := by decide +kernel
theorem dL_does_195 : decode cL_does 195 = .ok (.bipush 6, 2) := by decide +kernel
theorem dL_does_197 : decode cL_does 197 = .ok (.irem, 1) := by decide +kernel
theorem dL_does_198 : decode cL_does 198 = .ok (.iadd, 1) := by decide +kernel
theorem dL_does_199 : decode cL_does 199 = .ok (.if_icmp .ne 7, 3) := by decide +kernel
theorem dL_does_202 : decode cL_does 202 = .ok (.iconst 1, 1) := by decide +kernel
theorem dL_does_203 : decode cL_does 203 = .ok (.goto 4, 3) := by decide +kernel
theorem dL_does_206 : decode cL_does 206 = .ok (.iconst 0, 1) := by decide +kernel
theorem dL_does_207 : decode cL_does 207 = .ok (.ireturn, 1) := by decide +kernel
theorem dL_does_208 : decode cL_does 208 = .ok (.aload_n 0, 1) := by decide +kernel
theorem dL_does_209 : decode cL_does 209 = .ok (.iload 6, 2) := by decide +kernel
theorem dL_does_211 : decode cL_does 211 = .ok (.iconst 2, 1) := by decide +kernel
theorem dL_does_212 : decode cL_does 212 = .ok (.irem, 1) := by decide +kernel
theorem dL_does_213 : decode cL_does 213 = .ok (.ifCond .ne 7, 3) := by decide +kernel
theorem dL_does_216 : decode cL_does 216 = .ok (.iconst 1, 1) := by decide +kernel
theorem dL_does_217 : decode cL_does 217 = .ok (.goto 4, 3) := by decide +kernel
theorem dL_does_220 : decode cL_does 220 = .ok (.iconst 0, 1) := by decide +kernel
theorem dL_does_221 : decode cL_does 221 = .ok (.invokevirtual 33, 3) := by decide +kernel
theorem dL_does_224 : decode cL_does 224 = .ok (.pop, 1) := by decide +kernel
theorem dL_does_225 : decode cL_does 225 = .ok (.aload_n 0, 1) := by decide +kernel
theorem dL_does_226 : decode cL_does 226 = .ok (.iload 6, 2) := by decide +kernel
theorem dL_does_228 : decode cL_does 228 = .ok (.iconst 2, 1) := by decide +kernel
theorem dL_does_229 : decode cL_does 229 = .ok (.irem, 1) := by decide +kernel
theorem dL_does_230 : decode cL_does 230 = .ok (.ifCond .ne 7, 3) := by decide +kernel
theorem dL_does_233 : decode cL_does 233 = .ok (.iconst 1, 1) := by decide +kernel
theorem dL_does_234 : decode cL_does 234 = .ok (.goto 4, 3) := by decide +kernel
theorem dL_does_237 : decode cL_does 237 = .ok (.iconst 0, 1) := by decide +kernel
theorem dL_does_238 : decode cL_does 238 = .ok (.invokevirtual 33, 3) := by decide +kernel
theorem dL_does_241 : decode cL_does 241 = .ok (.iload 6, 2) := by decide +kernel
theorem dL_does_243 : decode cL_does 243 = .ok (.iconst 2, 1) := by decide +kernel
theorem dL_does_244 : decode cL_does 244 = .ok (.irem, 1) := by decide +kernel
theorem dL_does_245 : decode cL_does 245 = .ok (.ifCond .ne 7, 3) := by decide +kernel
theorem dL_does_248 : decode cL_does 248 = .ok (.iconst 1, 1) := by decide +kernel
theorem dL_does_249 : decode cL_does 249 = .ok (.goto 4, 3) := by decide +kernel
theorem dL_does_252 : decode cL_does 252 = .ok (.iconst 0, 1) := by decide +kernel
theorem dL_does_253 : decode cL_does 253 = .ok (.if_icmp .ne 7, 3) := by decide +kernel
theorem dL_does_256 : decode cL_does 256 = .ok (.iconst 1, 1) := by decide +kernel
theorem dL_does_257 : decode cL_does 257 = .ok (.goto 4, 3) := by decide +kernel
theorem dL_does_260 : decode cL_does 260 = .ok (.iconst 0, 1) := by decide +kernel
theorem dL_does_261 : decode cL_does 261 = .ok (.ireturn, 1) := by decide +kernel
theorem dL_does_262 : decode cL_does 262 = .ok (.aload_n 0, 1) := by decide +kernel
theorem dL_does_263 : decode cL_does 263 = .ok (.invokevirtual 37, 3) := by decide +kernel
theorem dL_does_266 : decode cL_does 266 = .ok (.iload 6, 2) := by decide +kernel
theorem dL_does_268 : decode cL_does 268 = .ok (.iconst 3, 1) := by decide +kernel
theorem dL_does_269 : decode cL_does 269 = .ok (.irem, 1) := by decide +kernel
theorem dL_does_270 : decode cL_does 270 = .ok (.iadd, 1) := by decide +kernel
theorem dL_does_271 : decode cL_does 271 = .ok (.istore 13, 2) := by decide +kernel
theorem dL_does_273 : decode cL_does 273 = .ok (.bipush 8, 2) := by decide +kernel
theorem dL_does_275 : decode cL_does 275 = .ok (.iload 13, 2) := by decide +kernel
theorem dL_does_277 : decode cL_does 277 = .ok (.imul, 1) := by decide +kernel
theorem dL_does_278 : decode cL_does 278 = .ok (.iconst 2, 1) := by decide +kernel
theorem dL_does_279 : decode cL_does 279 = .ok (.iload 7, 2) := by decide +kernel
theorem dL_does_281 : decode cL_does 281 = .ok (.imul, 1) := by decide +kernel
theorem dL_does_282 : decode cL_does 282 = .ok (.iadd, 1) := by decide +kernel
theorem dL_does_283 : decode cL_does 283 = .ok (.iload 8, 2) := by decide +kernel
theorem dL_does_285 : decode cL_does 285 = .ok (.iadd, 1) := by decide +kernel
theorem dL_does_286 : decode cL_does 286 = .ok (.istore 14, 2) := by decide +kernel
theorem dL_does_288 : decode cL_does 288 = .ok (.iload 9, 2) := by decide +kernel
theorem dL_does_290 : decode cL_does 290 = .ok (.bipush 60, 2) := by decide +kernel
theorem dL_does_292 : decode cL_does 292 = .ok (.if_icmp .ge 85, 3) := by decide +kernel
theorem dL_does_295 : decode cL_does 295 = .ok (.aload_n 2, 1) := by decide +kernel
theorem dL_does_296 : decode cL_does 296 = .ok (.iload 9, 2) := by decide +kernel
theorem dL_does_298 : decode cL_does 298 = .ok (.iload 14, 2) := by decide +kernel
theorem dL_does_300 : decode cL_does 300 = .ok (.invokestatic 40, 3) := by decide +kernel
theorem dL_does_303 : decode cL_does 303 = .ok (.aload_n 1, 1) := by decide +kernel
theorem dL_does_304 : decode cL_does 304 = .ok (.iconst 2, 1) := by decide +kernel
theorem dL_does_305 : decode cL_does 305 = .ok (.iload 7, 2) := by decide +kernel
theorem dL_does_307 : decode cL_does 307 = .ok (.imul, 1) := by decide +kernel
theorem dL_does_308 : decode cL_does 308 = .ok (.iload 8, 2) := by decide +kernel
theorem dL_does_310 : decode cL_does 310 = .ok (.iadd, 1) := by decide +kernel
theorem dL_does_311 : decode cL_does 311 = .ok (.iaload, 1) := by decide +kernel
theorem dL_does_312 : decode cL_does 312 = .ok (.aload_n 0, 1) := by decide +kernel
theorem dL_does_313 : decode cL_does 313 = .ok (.iload 7, 2) := by decide +kernel
theorem dL_does_315 : decode cL_does 315 = .ok (.invokevirtual 46, 3) := by decide +kernel
theorem dL_does_318 : decode cL_does 318 = .ok (.iadd, 1) := by decide +kernel
theorem dL_does_319 : decode cL_does 319 = .ok (.if_icmp .ge 58, 3) := by decide +kernel
theorem dL_does_322 : decode cL_does 322 = .ok (.aload_n 2, 1) := by decide +kernel
theorem dL_does_323 : decode cL_does 323 = .ok (.iload 9, 2) := by decide +kernel
theorem dL_does_325 : decode cL_does 325 = .ok (.iload 14, 2) := by decide +kernel
theorem dL_does_327 : decode cL_does 327 = .ok (.iastore, 1) := by decide +kernel
theorem dL_does_328 : decode cL_does 328 = .ok (.aload_n 3, 1) := by decide +kernel
theorem dL_does_329 : decode cL_does 329 = .ok (.iload 9, 2) := by decide +kernel
theorem dL_does_331 : decode cL_does 331 = .ok (.iload 6, 2) := by decide +kernel
theorem dL_does_333 : decode cL_does 333 = .ok (.iconst 3, 1) := by decide +kernel
theorem dL_does_334 : decode cL_does 334 = .ok (.idiv, 1) := by decide +kernel
theorem dL_does_335 : decode cL_does 335 = .ok (.bipush 10, 2) := by decide +kernel
theorem dL_does_337 : decode cL_does 337 = .ok (.irem, 1) := by decide +kernel
theorem dL_does_338 : decode cL_does 338 = .ok (.iastore, 1) := by decide +kernel
theorem dL_does_339 : decode cL_does 339 = .ok (.aload_n 0, 1) := by decide +kernel
theorem dL_does_340 : decode cL_does 340 = .ok (.iload 6, 2) := by decide +kernel
theorem dL_does_342 : decode cL_does 342 = .ok (.iconst 3, 1) := by decide +kernel
theorem dL_does_343 : decode cL_does 343 = .ok (.idiv, 1) := by decide +kernel
theorem dL_does_344 : decode cL_does 344 = .ok (.bipush 10, 2) := by decide +kernel
theorem dL_does_346 : decode cL_does 346 = .ok (.irem, 1) := by decide +kernel
theorem dL_does_347 : decode cL_does 347 = .ok (.iload 7, 2) := by decide +kernel
theorem dL_does_349 : decode cL_does 349 = .ok (.iload 8, 2) := by decide +kernel
theorem dL_does_351 : decode cL_does 351 = .ok (.iload 13, 2) := by decide +kernel
theorem dL_does_353 : decode cL_does 353 = .ok (.invokevirtual 49, 3) := by decide +kernel
theorem dL_does_356 : decode cL_does 356 = .ok (.iload 9, 2) := by decide +kernel
theorem dL_does_358 : decode cL_does 358 = .ok (.if_icmp .ne 17, 3) := by decide +kernel
theorem dL_does_361 : decode cL_does 361 = .ok (.aload_n 0, 1) := by decide +kernel
theorem dL_does_362 : decode cL_does 362 = .ok (.iload 9, 2) := by decide +kernel
theorem dL_does_364 : decode cL_does 364 = .ok (.invokevirtual 52, 3) := by decide +kernel
theorem dL_does_367 : decode cL_does 367 = .ok (.iconst (-1), 1) := by decide +kernel
theorem dL_does_368 : decode cL_does 368 = .ok (.if_icmp .ne 7, 3) := by decide +kernel
theorem dL_does_371 : decode cL_does 371 = .ok (.iconst 1, 1) := by decide +kernel
theorem dL_does_372 : decode cL_does 372 = .ok (.goto 4, 3) := by decide +kernel
theorem dL_does_375 : decode cL_does 375 = .ok (.iconst 0, 1) := by decide +kernel
theorem dL_does_376 : decode cL_does 376 = .ok (.ireturn, 1) := by decide +kernel
theorem dL_does_377 : decode cL_does 377 = .ok (.iconst 1, 1) := by decide +kernel
theorem dL_does_378 : decode cL_does 378 = .ok (.ireturn, 1) := by decide +kernel
theorem dL_does_379 : decode cL_does 379 = .ok (.iload 10, 2) := by decide +kernel
theorem dL_does_381 : decode cL_does 381 = .ok (.ifCond .lt 126, 3) := by decide +kernel
theorem dL_does_384 : decode cL_does 384 = .ok (.aload_n 2, 1) := by decide +kernel
theorem dL_does_385 : decode cL_does 385 = .ok (.iload 10, 2) := by decide +kernel
theorem dL_does_387 : decode cL_does 387 = .ok (.iaload, 1) := by decide +kernel
theorem dL_does_388 : decode cL_does 388 = .ok (.bipush 8, 2) := by decide +kernel
theorem dL_does_390 : decode cL_does 390 = .ok (.idiv, 1) := by decide +kernel
theorem dL_does_391 : decode cL_does 391 = .ok (.aload_n 0, 1) := by decide +kernel
theorem dL_does_392 : decode cL_does 392 = .ok (.invokevirtual 37, 3) := by decide +kernel
theorem dL_does_395 : decode cL_does 395 = .ok (.if_icmp .ne 112, 3) := by decide +kernel
theorem dL_does_398 : decode cL_does 398 = .ok (.aload 4, 2) := by decide +kernel
theorem dL_does_400 : decode cL_does 400 = .ok (.iload 10, 2) := by decide +kernel
theorem dL_does_402 : decode cL_does 402 = .ok (.iaload, 1) := by decide +kernel
theorem dL_does_403 : decode cL_does 403 = .ok (.ifCond .ne 104, 3) := by decide +kernel
theorem dL_does_406 : decode cL_does 406 = .ok (.aload 4, 2) := by decide +kernel
theorem dL_does_408 : decode cL_does 408 = .ok (.iload 10, 2) := by decide +kernel
theorem dL_does_410 : decode cL_does 410 = .ok (.iconst 1, 1) := by decide +kernel
theorem dL_does_411 : decode cL_does 411 = .ok (.iastore, 1) := by decide +kernel
theorem dL_does_412 : decode cL_does 412 = .ok (.aload_n 0, 1) := by decide +kernel
theorem dL_does_413 : decode cL_does 413 = .ok (.aload_n 3, 1) := by decide +kernel
theorem dL_does_414 : decode cL_does 414 = .ok (.iload 10, 2) := by decide +kernel
theorem dL_does_416 : decode cL_does 416 = .ok (.iaload, 1) := by decide +kernel
theorem dL_does_417 : decode cL_does 417 = .ok (.invokevirtual 55, 3) := by decide +kernel
theorem dL_does_420 : decode cL_does 420 = .ok (.istore 15, 2) := by decide +kernel
theorem dL_does_422 : decode cL_does 422 = .ok (.aload_n 0, 1) := by decide +kernel
theorem dL_does_423 : decode cL_does 423 = .ok (.iconst 0, 1) := by decide +kernel
theorem dL_does_424 : decode cL_does 424 = .ok (.invokestatic 58, 3) := by decide +kernel
theorem dL_does_427 : decode cL_does 427 = .ok (.istore 16, 2) := by decide +kernel
theorem dL_does_429 : decode cL_does 429 = .ok (.aload_n 0, 1) := by decide +kernel
theorem dL_does_430 : decode cL_does 430 = .ok (.iload 10, 2) := by decide +kernel
theorem dL_does_432 : decode cL_does 432 = .ok (.invokevirtual 62, 3) := by decide +kernel
theorem dL_does_435 : decode cL_does 435 = .ok (.istore 17, 2) := by decide +kernel
theorem dL_does_437 : decode cL_does 437 = .ok (.aload_n 0, 1) := by decide +kernel
theorem dL_does_438 : decode cL_does 438 = .ok (.iload 10, 2) := by decide +kernel
theorem dL_does_440 : decode cL_does 440 = .ok (.invokevirtual 52, 3) := by decide +kernel
theorem dL_does_443 : decode cL_does 443 = .ok (.iload 17, 2) := by decide +kernel
theorem dL_does_445 : decode cL_does 445 = .ok (.if_icmp .ne 20, 3) := by decide +kernel
theorem dL_does_448 : decode cL_does 448 = .ok (.aload_n 0, 1) := by decide +kernel
theorem dL_does_449 : decode cL_does 449 = .ok (.aload_n 3, 1) := by decide +kernel
theorem dL_does_450 : decode cL_does 450 = .ok (.iload 10, 2) := by decide +kernel
theorem dL_does_452 : decode cL_does 452 = .ok (.iaload, 1) := by decide +kernel
theorem dL_does_453 : decode cL_does 453 = .ok (.invokevirtual 55, 3) := by decide +kernel
theorem dL_does_456 : decode cL_does 456 = .ok (.iload 15, 2) := by decide +kernel
theorem dL_does_458 : decode cL_does 458 = .ok (.if_icmp .lt 7, 3) := by decide +kernel
theorem dL_does_461 : decode cL_does 461 = .ok (.iconst 1, 1) := by decide +kernel
theorem dL_does_462 : decode cL_does 462 = .ok (.goto 4, 3) := by decide +kernel
theorem dL_does_465 : decode cL_does 465 = .ok (.iconst 0, 1) := by decide +kernel
theorem dL_does_466 : decode cL_does 466 = .ok (.istore 18, 2) := by decide +kernel
theorem dL_does_468 : decode cL_does 468 = .ok (.iload 18, 2) := by decide +kernel
theorem dL_does_470 : decode cL_does 470 = .ok (.ifCond .eq 35, 3) := by decide +kernel
theorem dL_does_473 : decode cL_does 473 = .ok (.iload 17, 2) := by decide +kernel
theorem dL_does_475 : decode cL_does 475 = .ok (.ifCond .lt 16, 3) := by decide +kernel
theorem dL_does_478 : decode cL_does 478 = .ok (.aload_n 0, 1) := by decide +kernel
theorem dL_does_479 : decode cL_does 479 = .ok (.iconst 0, 1) := by decide +kernel
theorem dL_does_480 : decode cL_does 480 = .ok (.invokestatic 58, 3) := by decide +kernel
theorem dL_does_483 : decode cL_does 483 = .ok (.iload 16, 2) := by decide +kernel
theorem dL_does_485 : decode cL_does 485 = .ok (.if_icmp .le 20, 3) := by decide +kernel
theorem dL_does_488 : decode cL_does 488 = .ok (.goto 13, 3) := by decide +kernel
theorem dL_does_491 : decode cL_does 491 = .ok (.aload_n 0, 1) := by decide +kernel
theorem dL_does_492 : decode cL_does 492 = .ok (.iconst 0, 1) := by decide +kernel
theorem dL_does_493 : decode cL_does 493 = .ok (.invokestatic 58, 3) := by decide +kernel
theorem dL_does_496 : decode cL_does 496 = .ok (.iload 16, 2) := by decide +kernel
theorem dL_does_498 : decode cL_does 498 = .ok (.if_icmp .ne 7, 3) := by decide +kernel
theorem dL_does_501 : decode cL_does 501 = .ok (.iconst 1, 1) := by decide +kernel
theorem dL_does_502 : decode cL_does 502 = .ok (.goto 4, 3) := by decide +kernel
theorem dL_does_505 : decode cL_does 505 = .ok (.iconst 0, 1) := by decide +kernel
theorem dL_does_506 : decode cL_does 506 = .ok (.ireturn, 1) := by decide +kernel
theorem dL_does_507 : decode cL_does 507 = .ok (.iconst 1, 1) := by decide +kernel
theorem dL_does_508 : decode cL_does 508 = .ok (.ireturn, 1) := by decide +kernel
theorem dL_does_509 : decode cL_does 509 = .ok (.iload 6, 2) := by decide +kernel
theorem dL_does_511 : decode cL_does 511 = .ok (.bipush 10, 2) := by decide +kernel
theorem dL_does_513 : decode cL_does 513 = .ok (.irem, 1) := by decide +kernel
theorem dL_does_514 : decode cL_does 514 = .ok (.istore 15, 2) := by decide +kernel
theorem dL_does_516 : decode cL_does 516 = .ok (.aload_n 0, 1) := by decide +kernel
theorem dL_does_517 : decode cL_does 517 = .ok (.iload 15, 2) := by decide +kernel
theorem dL_does_519 : decode cL_does 519 = .ok (.invokevirtual 55, 3) := by decide +kernel
theorem dL_does_522 : decode cL_does 522 = .ok (.istore 16, 2) := by decide +kernel
theorem dL_does_524 : decode cL_does 524 = .ok (.iload 16, 2) := by decide +kernel
theorem dL_does_526 : decode cL_does 526 = .ok (.ifCond .eq 61, 3) := by decide +kernel
theorem dL_does_529 : decode cL_does 529 = .ok (.aload_n 0, 1) := by decide +kernel
theorem dL_does_530 : decode cL_does 530 = .ok (.iload 15, 2) := by decide +kernel
theorem dL_does_532 : decode cL_does 532 = .ok (.iload 7, 2) := by decide +kernel
theorem dL_does_534 : decode cL_does 534 = .ok (.iconst 1, 1) := by decide +kernel
theorem dL_does_535 : decode cL_does 535 = .ok (.iload 6, 2) := by decide +kernel
theorem dL_does_537 : decode cL_does 537 = .ok (.bipush 10, 2) := by decide +kernel
theorem dL_does_539 : decode cL_does 539 = .ok (.idiv, 1) := by decide +kernel
theorem dL_does_540 : decode cL_does 540 = .ok (.iload 16, 2) := by decide +kernel
theorem dL_does_542 : decode cL_does 542 = .ok (.bipush 100, 2) := by decide +kernel
theorem dL_does_544 : decode cL_does 544 = .ok (.if_icmp .ge 8, 3) := by decide +kernel
theorem dL_does_547 : decode cL_does 547 = .ok (.iload 16, 2) := by decide +kernel
theorem dL_does_549 : decode cL_does 549 = .ok (.goto 5, 3) := by decide +kernel
theorem dL_does_552 : decode cL_does 552 = .ok (.bipush 100, 2) := by decide +kernel
theorem dL_does_554 : decode cL_does 554 = .ok (.irem, 1) := by decide +kernel
theorem dL_does_555 : decode cL_does 555 = .ok (.iadd, 1) := by decide +kernel
theorem dL_does_556 : decode cL_does 556 = .ok (.invokevirtual 65, 3) := by decide +kernel
theorem dL_does_559 : decode cL_does 559 = .ok (.iload 16, 2) := by decide +kernel
theorem dL_does_561 : decode cL_does 561 = .ok (.iconst 1, 1) := by decide +kernel
theorem dL_does_562 : decode cL_does 562 = .ok (.isub, 1) := by decide +kernel
theorem dL_does_563 : decode cL_does 563 = .ok (.iload 6, 2) := by decide +kernel
theorem dL_does_565 : decode cL_does 565 = .ok (.bipush 10, 2) := by decide +kernel
theorem dL_does_567 : decode cL_does 567 = .ok (.idiv, 1) := by decide +kernel
theorem dL_does_568 : decode cL_does 568 = .ok (.iload 16, 2) := by decide +kernel
theorem dL_does_570 : decode cL_does 570 = .ok (.bipush 100, 2) := by decide +kernel
theorem dL_does_572 : decode cL_does 572 = .ok (.if_icmp .ge 8, 3) := by decide +kernel
theorem dL_does_575 : decode cL_does 575 = .ok (.iload 16, 2) := by decide +kernel
theorem dL_does_577 : decode cL_does 577 = .ok (.goto 5, 3) := by decide +kernel
theorem dL_does_580 : decode cL_does 580 = .ok (.bipush 100, 2) := by decide +kernel
theorem dL_does_582 : decode cL_does 582 = .ok (.irem, 1) := by decide +kernel
theorem dL_does_583 : decode cL_does 583 = .ok (.isub, 1) := by decide +kernel
theorem dL_does_584 : decode cL_does 584 = .ok (.if_icmp .ne 7, 3) := by decide +kernel
theorem dL_does_587 : decode cL_does 587 = .ok (.iconst 1, 1) := by decide +kernel
theorem dL_does_588 : decode cL_does 588 = .ok (.goto 4, 3) := by decide +kernel
theorem dL_does_591 : decode cL_does 591 = .ok (.iconst 0, 1) := by decide +kernel
theorem dL_does_592 : decode cL_does 592 = .ok (.ireturn, 1) := by decide +kernel
theorem dL_does_593 : decode cL_does 593 = .ok (.iload 6, 2) := by decide +kernel
theorem dL_does_595 : decode cL_does 595 = .ok (.iconst 4, 1) := by decide +kernel
theorem dL_does_596 : decode cL_does 596 = .ok (.irem, 1) := by decide +kernel
theorem dL_does_597 : decode cL_does 597 = .ok (.ifCond .ne 40, 3) := by decide +kernel
theorem dL_does_600 : decode cL_does 600 = .ok (.aload_n 0, 1) := by decide +kernel
theorem dL_does_601 : decode cL_does 601 = .ok (.iconst 0, 1) := by decide +kernel
theorem dL_does_602 : decode cL_does 602 = .ok (.invokestatic 58, 3) := by decide +kernel
theorem dL_does_605 : decode cL_does 605 = .ok (.istore 17, 2) := by decide +kernel
theorem dL_does_607 : decode cL_does 607 = .ok (.aload_n 0, 1) := by decide +kernel
theorem dL_does_608 : decode cL_does 608 = .ok (.invokevirtual 69, 3) := by decide +kernel
theorem dL_does_611 : decode cL_does 611 = .ok (.ifCond .lt 24, 3) := by decide +kernel
theorem dL_does_614 : decode cL_does 614 = .ok (.aload_n 0, 1) := by decide +kernel
theorem dL_does_615 : decode cL_does 615 = .ok (.iconst 0, 1) := by decide +kernel
theorem dL_does_616 : decode cL_does 616 = .ok (.invokestatic 58, 3) := by decide +kernel
theorem dL_does_619 : decode cL_does 619 = .ok (.iload 17, 2) := by decide +kernel
theorem dL_does_621 : decode cL_does 621 = .ok (.if_icmp .ne 14, 3) := by decide +kernel
theorem dL_does_624 : decode cL_does 624 = .ok (.aload_n 0, 1) := by decide +kernel
theorem dL_does_625 : decode cL_does 625 = .ok (.invokevirtual 69, 3) := by decide +kernel
theorem dL_does_628 : decode cL_does 628 = .ok (.ifCond .ne 7, 3) := by decide +kernel
theorem dL_does_631 : decode cL_does 631 = .ok (.iconst 1, 1) := by decide +kernel
theorem dL_does_632 : decode cL_does 632 = .ok (.goto 4, 3) := by decide +kernel
theorem dL_does_635 : decode cL_does 635 = .ok (.iconst 0, 1) := by decide +kernel
theorem dL_does_636 : decode cL_does 636 = .ok (.ireturn, 1) := by decide +kernel
theorem dL_does_637 : decode cL_does 637 = .ok (.aload_n 0, 1) := by decide +kernel
theorem dL_does_638 : decode cL_does 638 = .ok (.invokevirtual 37, 3) := by decide +kernel
theorem dL_does_641 : decode cL_does 641 = .ok (.istore 17, 2) := by decide +kernel
theorem dL_does_643 : decode cL_does 643 = .ok (.aload_n 0, 1) := by decide +kernel
theorem dL_does_644 : decode cL_does 644 = .ok (.invokevirtual 72, 3) := by decide +kernel
theorem dL_does_647 : decode cL_does 647 = .ok (.ifCond .lt 18, 3) := by decide +kernel
theorem dL_does_650 : decode cL_does 650 = .ok (.aload_n 0, 1) := by decide +kernel
theorem dL_does_651 : decode cL_does 651 = .ok (.invokevirtual 37, 3) := by decide +kernel
theorem dL_does_654 : decode cL_does 654 = .ok (.iload 17, 2) := by decide +kernel
theorem dL_does_656 : decode cL_does 656 = .ok (.iconst 1, 1) := by decide +kernel
theorem dL_does_657 : decode cL_does 657 = .ok (.iadd, 1) := by decide +kernel
theorem dL_does_658 : decode cL_does 658 = .ok (.if_icmp .ne 7, 3) := by decide +kernel
theorem dL_does_661 : decode cL_does 661 = .ok (.iconst 1, 1) := by decide +kernel
theorem dL_does_662 : decode cL_does 662 = .ok (.goto 4, 3) := by decide +kernel
theorem dL_does_665 : decode cL_does 665 = .ok (.iconst 0, 1) := by decide +kernel
theorem dL_does_666 : decode cL_does 666 = .ok (.ireturn, 1) := by decide +kernel
set_option maxRecDepth 20000 in
theorem ggL_law_X5_init : GoodIn wsL_law wsX5_init := goodIn_r _ [6, 7, 8, 9, 10, 11, 12, 13, 14, 15, 16, 17, 18, 19, 20, 21, 22, 23, 24, 25, 26, 27, 28, 29, 30, 31, 32, 33, 34, 3, 35, 36, 37, 38, 39, 40, 41, 42, 43, 44, 45, 46, 47, 48, 49, 50, 51, 52, 53, 54, 55, 56, 57, 58, 59, 60, 61, 62, 63, 64, 65, 66, 67, 68, 69, 70, 71, 72, 73, 74, 374, 375, 376, 368, 369, 370, 371, 372, 373, 377, 378, 379, 380, 381, 382, 383, 384, 385, 386, 387, 388, 389, 390, 391, 392, 393, 394, 395, 396] (by decide +kernel) (by decide +kernel)
set_option maxRecDepth 20000 in
theorem gL_law_X5_init : GoodIn wsL_law (wsX5_init) := ggL_law_X5_init
set_option maxRecDepth 20000 in
theorem ggL_law_L_told : GoodIn wsL_law wsL_told := goodIn_r _ [78, 79, 80] rfl (by decide +kernel)
set_option maxRecDepth 20000 in
theorem gL_law_L_told : GoodIn wsL_law (va_wsS RL 76 yL_told wsL_told) := goodIn_app (goodIn_of _ (by decide +kernel)) ggL_law_L_told
set_option maxRecDepth 20000 in
theorem ggLd_0 : GoodIn wsL_law [Cond.code yL_does cL_does 19 (some .boolean)] := goodIn_r _ [83] rfl (by decide +kernel)
set_option maxRecDepth 20000 in
theorem ggLd_wsL_does_r1 : GoodIn wsL_law wsL_does_r1 := goodIn_r _ [84, 85, 86, 2, 87, 21, 88, 89, 90, 91, 92, 13, 93, 94, 95, 96, 97, 98, 99, 100, 101, 102, 103, 104] (by decide +kernel) (by decide +kernel)
set_option maxRecDepth 20000 in
theorem ggLd_wsL_does_r2 : GoodIn wsL_law wsL_does_r2 := goodIn_r _ [105, 106, 107, 108, 12, 109, 35, 36, 110, 111, 112, 113, 114, 115, 116, 17, 117, 118, 119, 120, 121, 122, 123, 124] (by decide +kernel) (by decide +kernel)
set_option maxRecDepth 20000 in
theorem ggLd_wsL_does_r3 : GoodIn wsL_law wsL_does_r3 := goodIn_r _ [16, 125, 42, 126, 127, 128, 129, 130, 131, 132, 133, 47, 134, 135, 136, 137, 30, 138, 139, 77, 140, 141, 142, 143] (by decide +kernel) (by decide +kernel)
set_option maxRecDepth 20000 in
theorem ggLd_wsL_does_r4 : GoodIn wsL_law wsL_does_r4 := goodIn_r _ [144, 145, 146, 147, 148, 149, 150, 151, 20, 152, 60, 54, 56, 58, 153, 154, 155, 156, 157, 158, 159, 160, 161, 162] (by decide +kernel) (by decide +kernel)
set_option maxRecDepth 20000 in
theorem ggLd_wsL_does_r5 : GoodIn wsL_law wsL_does_r5 := goodIn_r _ [163, 164, 165, 166, 167, 168, 169, 170, 171, 172, 173, 55, 174, 175, 176, 177, 178, 179, 180, 181, 53, 59, 182, 183] (by decide +kernel) (by decide +kernel)
set_option maxRecDepth 20000 in
theorem ggLd_wsL_does_r6 : GoodIn wsL_law wsL_does_r6 := goodIn_r _ [184, 185, 186, 187, 188, 189, 190, 191, 192, 193, 194, 25, 195, 196, 197, 24, 198, 68, 65, 67, 199, 200, 201, 202] (by decide +kernel) (by decide +kernel)
set_option maxRecDepth 20000 in
theorem ggLd_wsL_does_r7 : GoodIn wsL_law wsL_does_r7 := goodIn_r _ [203, 204, 205, 29, 206, 207, 208, 209, 210, 211, 212, 213, 214, 43, 44, 45, 46, 215, 216, 217, 218, 219, 220, 221] (by decide +kernel) (by decide +kernel)
set_option maxRecDepth 20000 in
theorem ggLd_wsL_does_r8 : GoodIn wsL_law wsL_does_r8 := goodIn_r _ [222, 223, 224, 225, 226, 227, 228, 229, 230, 231, 232, 233, 234, 235, 236, 237, 238, 239, 240, 241, 242, 243, 244, 245] (by decide +kernel) (by decide +kernel)
set_option maxRecDepth 20000 in
theorem ggLd_wsL_does_r9 : GoodIn wsL_law wsL_does_r9 := goodIn_r _ [246, 247, 248, 37, 249, 250, 251, 252, 253, 254, 255, 256, 257, 258, 259, 260, 261, 262, 263, 264, 265, 266, 267, 268] (by decide +kernel) (by decide +kernel)
set_option maxRecDepth 20000 in
theorem ggLd_wsL_does_r10 : GoodIn wsL_law wsL_does_r10 := goodIn_r _ [28, 269, 73, 270, 271, 272, 273, 74, 274, 275, 276, 277, 278, 279, 280, 281, 282, 283, 284, 48, 285, 286, 287, 288] (by decide +kernel) (by decide +kernel)
set_option maxRecDepth 20000 in
theorem ggLd_wsL_does_r11 : GoodIn wsL_law wsL_does_r11 := goodIn_r _ [289, 290, 291, 292, 293, 294, 295, 296, 66, 297, 298, 299, 300, 301, 302, 303, 304, 305, 306, 307, 308, 309, 310, 311] (by decide +kernel) (by decide +kernel)
set_option maxRecDepth 20000 in
theorem ggLd_wsL_does_r12 : GoodIn wsL_law wsL_does_r12 := goodIn_r _ [312, 313, 314, 315, 316, 317, 318, 319, 320, 321, 322, 323, 324, 325, 326, 327, 328, 329, 330, 331, 332, 333, 334, 335] (by decide +kernel) (by decide +kernel)
set_option maxRecDepth 20000 in
theorem ggLd_wsL_does_r13 : GoodIn wsL_law wsL_does_r13 := goodIn_r _ [336, 337, 338, 339, 340, 341, 342, 343, 344, 345] (by decide +kernel) (by decide +kernel)
set_option maxRecDepth 20000 in
theorem ggL_law_L_does : GoodIn wsL_law wsL_does := goodIn_ca (goodIn_ca (goodIn_ca (goodIn_ca (goodIn_ca (goodIn_ca (goodIn_ca (goodIn_ca (goodIn_ca (goodIn_app ggLd_0 (goodIn_app ggLd_wsL_does_r1 (goodIn_app ggLd_wsL_does_r2 (goodIn_app ggLd_wsL_does_r3 (goodIn_app ggLd_wsL_does_r4 (goodIn_app ggLd_wsL_does_r5 (goodIn_app ggLd_wsL_does_r6 (goodIn_app ggLd_wsL_does_r7 (goodIn_app ggLd_wsL_does_r8 (goodIn_app ggLd_wsL_does_r9 (goodIn_app ggLd_wsL_does_r10 (goodIn_app ggLd_wsL_does_r11 (goodIn_app ggLd_wsL_does_r12 (ggLd_wsL_does_r13)))))))))))))) (goodIn_sub (fun w h => inlX5 w h) (by decide +kernel))) (goodIn_sub (fun w h => inlX0 w h) (by decide +kernel))) (goodIn_sub (fun w h => inlX4 w h) (by decide +kernel))) (goodIn_sub (fun w h => inlX2 w h) (by decide +kernel))) (goodIn_sub (fun w h => inlX3 w h) (by decide +kernel))) (goodIn_sub (fun w h => inlX1 w h) (by decide +kernel))) (goodIn_sub (fun _ h => List.mem_append_left _ (List.mem_append_left _ (List.mem_append_right _ h))) (by decide +kernel))) (goodIn_sub (fun _ h => List.mem_append_left _ (List.mem_append_right _ h)) (by decide +kernel))) (goodIn_sub (fun _ h => List.mem_append_right _ h) (by decide +kernel))
set_option maxRecDepth 20000 in
theorem gL_law_L_does : GoodIn wsL_law (va_wsS RL 80 yL_does wsL_does) := goodIn_app (goodIn_of _ (by decide +kernel)) ggL_law_L_does
set_option maxRecDepth 20000 in
theorem ggL_law_L_sum : GoodIn wsL_law wsL_sum := goodIn_ca (goodIn_r _ [201, 202, 203, 204, 2, 205, 29, 206, 93, 94, 95, 96, 97, 113, 114, 115, 116, 17, 117, 207, 208, 209, 210, 211, 212, 213, 16, 214, 43, 44, 45, 46, 368, 369, 370, 371, 372, 373, 395, 396, 377, 378, 379, 380, 381, 382, 383] (by decide +kernel) (by decide +kernel)) (goodIn_sub (fun _ h => List.mem_append_left _ (List.mem_append_left _ (List.mem_append_right _ h))) (by decide +kernel))
set_option maxRecDepth 20000 in
theorem gL_law_L_sum : GoodIn wsL_law (va_wsS RL 58 yL_sum wsL_sum) := goodIn_app (goodIn_of _ (by decide +kernel)) ggL_law_L_sum
set_option maxRecDepth 20000 in
theorem ggL_law_X5_taken : GoodIn wsL_law wsX5_taken := goodIn_ca (goodIn_r _ [349, 13, 93, 94, 2, 95, 96, 97, 98, 99, 100, 350, 246, 247, 12, 248, 37, 110, 111, 112, 368, 369, 370, 371, 372, 373, 374, 375, 376] (by decide +kernel) (by decide +kernel)) (goodIn_sub (fun _ h => List.mem_append_left _ (List.mem_append_left _ (List.mem_append_right _ h))) (by decide +kernel))
set_option maxRecDepth 20000 in
theorem gL_law_X5_taken : GoodIn wsL_law (wsV RL 84 RX5 yX5_taken wsX5_taken) := goodIn_app (goodIn_of _ (by decide +kernel)) ggL_law_X5_taken
set_option maxRecDepth 20000 in
theorem ggL_law_X5_takenByBookings : GoodIn wsL_law wsX5_takenByBookings := goodIn_ca (goodIn_r _ [354, 21, 30, 93, 94, 2, 95, 96, 97, 98, 99, 100, 355, 356, 357, 20, 358, 60, 59, 55, 56, 368, 369, 370, 371, 372, 373, 384, 385, 386, 387, 388, 389, 390] (by decide +kernel) (by decide +kernel)) (goodIn_sub (fun _ h => List.mem_append_left _ (List.mem_append_left _ (List.mem_append_right _ h))) (by decide +kernel))
set_option maxRecDepth 20000 in
theorem gL_law_X5_takenByBookings : GoodIn wsL_law (wsV RL 87 RX5 yX5_takenByBookings wsX5_takenByBookings) := goodIn_app (goodIn_of _ (by decide +kernel)) ggL_law_X5_takenByBookings
set_option maxRecDepth 20000 in
theorem ggL_law_X5_free : GoodIn wsL_law wsX5_free := goodIn_ca (goodIn_r _ [362, 13, 93, 94, 2, 95, 96, 97, 98, 99, 100, 237, 238, 239, 12, 240, 241, 242, 232, 243, 244, 175, 176, 177, 35, 110, 111, 112, 245, 246, 247, 248, 37, 368, 369, 370, 371, 372, 373, 374, 375, 376] (by decide +kernel) (by decide +kernel)) (goodIn_sub (fun _ h => List.mem_append_left _ (List.mem_append_left _ (List.mem_append_right _ h))) (by decide +kernel))
set_option maxRecDepth 20000 in
theorem gL_law_X5_free : GoodIn wsL_law (wsV RL 90 RX5 yX5_free wsX5_free) := goodIn_app (goodIn_of _ (by decide +kernel)) ggL_law_X5_free
set_option maxRecDepth 20000 in
theorem ggL_law_X5_owes : GoodIn wsL_law wsX5_owes := goodIn_ca (goodIn_r _ [366, 29, 93, 94, 2, 95, 96, 97, 367, 325, 326, 28, 327, 74, 328, 242, 232, 243, 274, 275, 276, 368, 369, 370, 371, 372, 373, 395, 396] (by decide +kernel) (by decide +kernel)) (goodIn_sub (fun _ h => List.mem_append_left _ (List.mem_append_left _ (List.mem_append_right _ h))) (by decide +kernel))
set_option maxRecDepth 20000 in
theorem gL_law_X5_owes : GoodIn wsL_law (wsV RL 93 RX5 yX5_owes wsX5_owes) := goodIn_app (goodIn_of _ (by decide +kernel)) ggL_law_X5_owes
theorem dL_law_0 : decode cL_law 0 = .ok (.new 10, 3) := by decide +kernel
theorem dL_law_3 : decode cL_law 3 = .ok (.dup, 1) := by decide +kernel
theorem dL_law_4 : decode cL_law 4 = .ok (.invokespecial 75, 3) := by decide +kernel
theorem dL_law_7 : decode cL_law 7 = .ok (.astore_n 1, 1) := by decide +kernel
theorem dL_law_8 : decode cL_law 8 = .ok (.bipush 8, 2) := by decide +kernel
theorem dL_law_10 : decode cL_law 10 = .ok (.newarray .int, 2) := by decide +kernel
theorem dL_law_12 : decode cL_law 12 = .ok (.astore_n 2, 1) := by decide +kernel
theorem dL_law_13 : decode cL_law 13 = .ok (.bipush 60, 2) := by decide +kernel
theorem dL_law_15 : decode cL_law 15 = .ok (.newarray .int, 2) := by decide +kernel
theorem dL_law_17 : decode cL_law 17 = .ok (.astore_n 3, 1) := by decide +kernel
theorem dL_law_18 : decode cL_law 18 = .ok (.bipush 60, 2) := by decide +kernel
theorem dL_law_20 : decode cL_law 20 = .ok (.newarray .int, 2) := by decide +kernel
theorem dL_law_22 : decode cL_law 22 = .ok (.astore 4, 2) := by decide +kernel
theorem dL_law_24 : decode cL_law 24 = .ok (.bipush 60, 2) := by decide +kernel
theorem dL_law_26 : decode cL_law 26 = .ok (.newarray .int, 2) := by decide +kernel
theorem dL_law_28 : decode cL_law 28 = .ok (.astore 5, 2) := by decide +kernel
theorem dL_law_30 : decode cL_law 30 = .ok (.iconst 0, 1) := by decide +kernel
theorem dL_law_31 : decode cL_law 31 = .ok (.istore 6, 2) := by decide +kernel
theorem dL_law_33 : decode cL_law 33 = .ok (.iconst 1, 1) := by decide +kernel
theorem dL_law_34 : decode cL_law 34 = .ok (.istore 7, 2) := by decide +kernel
