theorem dX5_night_43 : decode cX5_night 43 = .ok (.invokevirtual 138, 3) := by decide +kernel
theorem dX5_night_46 : decode cX5_night 46 = .ok (.aload_n 0, 1) := by decide +kernel
theorem dX5_night_47 : decode cX5_night 47 = .ok (.dup, 1) := by decide +kernel
theorem dX5_night_48 : decode cX5_night 48 = .ok (.getfield 44, 3) := by decide +kernel
theorem dX5_night_51 : decode cX5_night 51 = .ok (.iconst 1, 1) := by decide +kernel
theorem dX5_night_52 : decode cX5_night 52 = .ok (.iadd, 1) := by decide +kernel
theorem dX5_night_53 : decode cX5_night 53 = .ok (.putfield 44, 3) := by decide +kernel
theorem dX5_night_56 : decode cX5_night 56 = .ok (.iload_n 1, 1) := by decide +kernel
theorem dX5_night_57 : decode cX5_night 57 = .ok (.ireturn, 1) := by decide +kernel
set_option maxRecDepth 20000 in
theorem ggX5_settle_X1_payAll : GoodIn wsX5_settle wsX1_payAll := goodIn_r _ [6, 7, 8, 9, 5, 10, 11, 12, 13, 14, 15, 16, 17, 18, 19, 20, 21, 22, 23, 24, 25, 26, 27, 34, 35] (by decide +kernel) (by decide +kernel)
set_option maxRecDepth 20000 in
theorem gX5_settle_X1_payAll : GoodIn wsX5_settle (wsV RX5 139 RX1 yX1_payAll wsX1_payAll) := goodIn_app (goodIn_of _ (by decide +kernel)) ggX5_settle_X1_payAll
theorem dX5_settle_0 : decode cX5_settle 0 = .ok (.aload_n 0, 1) := by decide +kernel
theorem dX5_settle_1 : decode cX5_settle 1 = .ok (.getfield 40, 3) := by decide +kernel
theorem dX5_settle_4 : decode cX5_settle 4 = .ok (.invokevirtual 139, 3) := by decide +kernel
theorem dX5_settle_7 : decode cX5_settle 7 = .ok (.ireturn, 1) := by decide +kernel
theorem dX5_today_0 : decode cX5_today 0 = .ok (.aload_n 0, 1) := by decide +kernel
theorem dX5_today_1 : decode cX5_today 1 = .ok (.getfield 44, 3) := by decide +kernel
theorem dX5_today_4 : decode cX5_today 4 = .ok (.ireturn, 1) := by decide +kernel
theorem dX5_bookings_0 : decode cX5_bookings 0 = .ok (.aload_n 0, 1) := by decide +kernel
theorem dX5_bookings_1 : decode cX5_bookings 1 = .ok (.getfield 26, 3) := by decide +kernel
theorem dX5_bookings_4 : decode cX5_bookings 4 = .ok (.getfield 143, 3) := by decide +kernel
theorem dX5_bookings_7 : decode cX5_bookings 7 = .ok (.ireturn, 1) := by decide +kernel
set_option maxRecDepth 20000 in
theorem ggX5_free_X5_checkInn : GoodIn wsX5_free wsX5_checkInn := goodIn_ca (goodIn_r _ [5, 6, 7] (by decide +kernel) (by decide +kernel)) (goodIn_sub (fun _ h => List.mem_cons_of_mem _ (List.mem_append_right _ h)) (by decide +kernel))
set_option maxRecDepth 20000 in
theorem gX5_free_X5_checkInn : GoodIn wsX5_free (va_wsS RX5 48 yX5_checkInn wsX5_checkInn) := goodIn_app (goodIn_of _ (by decide +kernel)) ggX5_free_X5_checkInn
set_option maxRecDepth 20000 in
theorem ggX5_free_X5_checkKind : GoodIn wsX5_free wsX5_checkKind := goodIn_ca (goodIn_r _ [10, 6, 7] (by decide +kernel) (by decide +kernel)) (goodIn_sub (fun _ h => List.mem_cons_of_mem _ (List.mem_append_right _ h)) (by decide +kernel))
set_option maxRecDepth 20000 in
theorem gX5_free_X5_checkKind : GoodIn wsX5_free (va_wsS RX5 52 yX5_checkKind wsX5_checkKind) := goodIn_app (goodIn_of _ (by decide +kernel)) ggX5_free_X5_checkKind
set_option maxRecDepth 20000 in
theorem ggX5_free_X4_freeOf : GoodIn wsX5_free wsX4_freeOf := goodIn_r _ [15, 16, 17, 18, 19, 20, 21, 22, 14, 23, 24, 25, 26, 27, 28, 29, 30, 31, 32, 39, 40, 41] (by decide +kernel) (by decide +kernel)
set_option maxRecDepth 20000 in
theorem gX5_free_X4_freeOf : GoodIn wsX5_free (wsV RX5 146 RX4 yX4_freeOf wsX4_freeOf) := goodIn_app (goodIn_of _ (by decide +kernel)) ggX5_free_X4_freeOf
theorem dX5_free_0 : decode cX5_free 0 = .ok (.iload_n 1, 1) := by decide +kernel
theorem dX5_free_1 : decode cX5_free 1 = .ok (.invokestatic 48, 3) := by decide +kernel
theorem dX5_free_4 : decode cX5_free 4 = .ok (.iload_n 2, 1) := by decide +kernel
theorem dX5_free_5 : decode cX5_free 5 = .ok (.invokestatic 52, 3) := by decide +kernel
theorem dX5_free_8 : decode cX5_free 8 = .ok (.aload_n 0, 1) := by decide +kernel
theorem dX5_free_9 : decode cX5_free 9 = .ok (.getfield 10, 3) := by decide +kernel
theorem dX5_free_12 : decode cX5_free 12 = .ok (.iload_n 1, 1) := by decide +kernel
theorem dX5_free_13 : decode cX5_free 13 = .ok (.iload_n 2, 1) := by decide +kernel
theorem dX5_free_14 : decode cX5_free 14 = .ok (.invokevirtual 146, 3) := by decide +kernel
theorem dX5_free_17 : decode cX5_free 17 = .ok (.ireturn, 1) := by decide +kernel
set_option maxRecDepth 20000 in
theorem ggX5_taken_X5_checkInn : GoodIn wsX5_taken wsX5_checkInn := goodIn_ca (goodIn_r _ [5, 6, 7] (by decide +kernel) (by decide +kernel)) (goodIn_sub (fun _ h => List.mem_cons_of_mem _ (List.mem_append_right _ h)) (by decide +kernel))
set_option maxRecDepth 20000 in
theorem gX5_taken_X5_checkInn : GoodIn wsX5_taken (va_wsS RX5 48 yX5_checkInn wsX5_checkInn) := goodIn_app (goodIn_of _ (by decide +kernel)) ggX5_taken_X5_checkInn
set_option maxRecDepth 20000 in
theorem ggX5_taken_X5_checkKind : GoodIn wsX5_taken wsX5_checkKind := goodIn_ca (goodIn_r _ [10, 6, 7] (by decide +kernel) (by decide +kernel)) (goodIn_sub (fun _ h => List.mem_cons_of_mem _ (List.mem_append_right _ h)) (by decide +kernel))
set_option maxRecDepth 20000 in
theorem gX5_taken_X5_checkKind : GoodIn wsX5_taken (va_wsS RX5 52 yX5_checkKind wsX5_checkKind) := goodIn_app (goodIn_of _ (by decide +kernel)) ggX5_taken_X5_checkKind
set_option maxRecDepth 20000 in
theorem ggX5_taken_X4_sleepersOf : GoodIn wsX5_taken wsX4_sleepersOf := goodIn_r _ [15, 16, 17, 18, 14, 19, 26, 27, 28] (by decide +kernel) (by decide +kernel)
set_option maxRecDepth 20000 in
theorem gX5_taken_X4_sleepersOf : GoodIn wsX5_taken (wsV RX5 149 RX4 yX4_sleepersOf wsX4_sleepersOf) := goodIn_app (goodIn_of _ (by decide +kernel)) ggX5_taken_X4_sleepersOf
theorem dX5_taken_0 : decode cX5_taken 0 = .ok (.iload_n 1, 1) := by decide +kernel
theorem dX5_taken_1 : decode cX5_taken 1 = .ok (.invokestatic 48, 3) := by decide +kernel
theorem dX5_taken_4 : decode cX5_taken 4 = .ok (.iload_n 2, 1) := by decide +kernel
theorem dX5_taken_5 : decode cX5_taken 5 = .ok (.invokestatic 52, 3) := by decide +kernel
theorem dX5_taken_8 : decode cX5_taken 8 = .ok (.aload_n 0, 1) := by decide +kernel
theorem dX5_taken_9 : decode cX5_taken 9 = .ok (.getfield 10, 3) := by decide +kernel
theorem dX5_taken_12 : decode cX5_taken 12 = .ok (.iload_n 1, 1) := by decide +kernel
theorem dX5_taken_13 : decode cX5_taken 13 = .ok (.iload_n 2, 1) := by decide +kernel
theorem dX5_taken_14 : decode cX5_taken 14 = .ok (.invokevirtual 149, 3) := by decide +kernel
theorem dX5_taken_17 : decode cX5_taken 17 = .ok (.ireturn, 1) := by decide +kernel
set_option maxRecDepth 20000 in
theorem ggX5_takenByBookings_X5_checkInn : GoodIn wsX5_takenByBookings wsX5_checkInn := goodIn_ca (goodIn_r _ [6, 7, 8] (by decide +kernel) (by decide +kernel)) (goodIn_sub (fun _ h => List.mem_cons_of_mem _ (List.mem_append_right _ h)) (by decide +kernel))
set_option maxRecDepth 20000 in
theorem gX5_takenByBookings_X5_checkInn : GoodIn wsX5_takenByBookings (va_wsS RX5 48 yX5_checkInn wsX5_checkInn) := goodIn_app (goodIn_of _ (by decide +kernel)) ggX5_takenByBookings_X5_checkInn
set_option maxRecDepth 20000 in
theorem ggX5_takenByBookings_X5_checkKind : GoodIn wsX5_takenByBookings wsX5_checkKind := goodIn_ca (goodIn_r _ [11, 7, 8] (by decide +kernel) (by decide +kernel)) (goodIn_sub (fun _ h => List.mem_cons_of_mem _ (List.mem_append_right _ h)) (by decide +kernel))
set_option maxRecDepth 20000 in
theorem gX5_takenByBookings_X5_checkKind : GoodIn wsX5_takenByBookings (va_wsS RX5 52 yX5_checkKind wsX5_checkKind) := goodIn_app (goodIn_of _ (by decide +kernel)) ggX5_takenByBookings_X5_checkKind
set_option maxRecDepth 20000 in
theorem ggX5_takenByBookings_X0_sleepersAt : GoodIn wsX5_takenByBookings wsX0_sleepersAt := goodIn_r _ [16, 17, 18, 19, 20, 27, 28, 29, 30, 31, 32, 33] (by decide +kernel) (by decide +kernel)
set_option maxRecDepth 20000 in
theorem gX5_takenByBookings_X0_sleepersAt : GoodIn wsX5_takenByBookings (wsV RX5 152 RX0 yX0_sleepersAt wsX0_sleepersAt) := goodIn_app (goodIn_of _ (by decide +kernel)) ggX5_takenByBookings_X0_sleepersAt
theorem dX5_takenByBookings_0 : decode cX5_takenByBookings 0 = .ok (.iload_n 1, 1) := by decide +kernel
theorem dX5_takenByBookings_1 : decode cX5_takenByBookings 1 = .ok (.invokestatic 48, 3) := by decide +kernel
theorem dX5_takenByBookings_4 : decode cX5_takenByBookings 4 = .ok (.iload_n 2, 1) := by decide +kernel
theorem dX5_takenByBookings_5 : decode cX5_takenByBookings 5 = .ok (.invokestatic 52, 3) := by decide +kernel
theorem dX5_takenByBookings_8 : decode cX5_takenByBookings 8 = .ok (.aload_n 0, 1) := by decide +kernel
theorem dX5_takenByBookings_9 : decode cX5_takenByBookings 9 = .ok (.getfield 26, 3) := by decide +kernel
theorem dX5_takenByBookings_12 : decode cX5_takenByBookings 12 = .ok (.iload_n 1, 1) := by decide +kernel
theorem dX5_takenByBookings_13 : decode cX5_takenByBookings 13 = .ok (.iload_n 2, 1) := by decide +kernel
theorem dX5_takenByBookings_14 : decode cX5_takenByBookings 14 = .ok (.aload_n 0, 1) := by decide +kernel
theorem dX5_takenByBookings_15 : decode cX5_takenByBookings 15 = .ok (.getfield 44, 3) := by decide +kernel
theorem dX5_takenByBookings_18 : decode cX5_takenByBookings 18 = .ok (.invokevirtual 152, 3) := by decide +kernel
theorem dX5_takenByBookings_21 : decode cX5_takenByBookings 21 = .ok (.ireturn, 1) := by decide +kernel
set_option maxRecDepth 20000 in
theorem ggX5_extra_X5_checkInn : GoodIn wsX5_extra wsX5_checkInn := goodIn_ca (goodIn_r _ [4, 5, 6] (by decide +kernel) (by decide +kernel)) (goodIn_sub (fun _ h => List.mem_cons_of_mem _ (List.mem_append_right _ h)) (by decide +kernel))
set_option maxRecDepth 20000 in
theorem gX5_extra_X5_checkInn : GoodIn wsX5_extra (va_wsS RX5 48 yX5_checkInn wsX5_checkInn) := goodIn_app (goodIn_of _ (by decide +kernel)) ggX5_extra_X5_checkInn
set_option maxRecDepth 20000 in
theorem ggX5_extra_X5_extraOf : GoodIn wsX5_extra wsX5_extraOf := goodIn_r _ [10, 11, 12, 13, 14, 15, 16, 17, 18, 19, 20, 21, 22, 23, 24, 25, 26, 27, 28, 29, 30, 31, 32, 33, 34] (by decide +kernel) (by decide +kernel)
set_option maxRecDepth 20000 in
theorem gX5_extra_X5_extraOf : GoodIn wsX5_extra (wsV RX5 156 RX5 yX5_extraOf wsX5_extraOf) := goodIn_app (goodIn_of _ (by decide +kernel)) ggX5_extra_X5_extraOf
theorem dX5_extra_0 : decode cX5_extra 0 = .ok (.iload_n 1, 1) := by decide +kernel
theorem dX5_extra_1 : decode cX5_extra 1 = .ok (.invokestatic 48, 3) := by decide +kernel
theorem dX5_extra_4 : decode cX5_extra 4 = .ok (.aload_n 0, 1) := by decide +kernel
theorem dX5_extra_5 : decode cX5_extra 5 = .ok (.iload_n 1, 1) := by decide +kernel
theorem dX5_extra_6 : decode cX5_extra 6 = .ok (.invokevirtual 156, 3) := by decide +kernel
theorem dX5_extra_9 : decode cX5_extra 9 = .ok (.ireturn, 1) := by decide +kernel
set_option maxRecDepth 20000 in
theorem ggX5_clean_X5_checkInn : GoodIn wsX5_clean wsX5_checkInn := goodIn_ca (goodIn_r _ [6, 7, 8] (by decide +kernel) (by decide +kernel)) (goodIn_sub (fun _ h => List.mem_cons_of_mem _ (List.mem_append_right _ h)) (by decide +kernel))
set_option maxRecDepth 20000 in
theorem gX5_clean_X5_checkInn : GoodIn wsX5_clean (va_wsS RX5 48 yX5_checkInn wsX5_checkInn) := goodIn_app (goodIn_of _ (by decide +kernel)) ggX5_clean_X5_checkInn
theorem dX5_clean_0 : decode cX5_clean 0 = .ok (.iload_n 1, 1) := by decide +kernel
theorem dX5_clean_1 : decode cX5_clean 1 = .ok (.invokestatic 48, 3) := by decide +kernel
theorem dX5_clean_4 : decode cX5_clean 4 = .ok (.aload_n 0, 1) := by decide +kernel
theorem dX5_clean_5 : decode cX5_clean 5 = .ok (.getfield 19, 3) := by decide +kernel
theorem dX5_clean_8 : decode cX5_clean 8 = .ok (.getfield 159, 3) := by decide +kernel
theorem dX5_clean_11 : decode cX5_clean 11 = .ok (.iload_n 1, 1) := by decide +kernel
theorem dX5_clean_12 : decode cX5_clean 12 = .ok (.iaload, 1) := by decide +kernel
theorem dX5_clean_13 : decode cX5_clean 13 = .ok (.ireturn, 1) := by decide +kernel
set_option maxRecDepth 20000 in
theorem ggX5_away_X5_checkInn : GoodIn wsX5_away wsX5_checkInn := goodIn_ca (goodIn_r _ [5, 6, 7] (by decide +kernel) (by decide +kernel)) (goodIn_sub (fun _ h => List.mem_cons_of_mem _ (List.mem_append_right _ h)) (by decide +kernel))
set_option maxRecDepth 20000 in
theorem gX5_away_X5_checkInn : GoodIn wsX5_away (va_wsS RX5 48 yX5_checkInn wsX5_checkInn) := goodIn_app (goodIn_of _ (by decide +kernel)) ggX5_away_X5_checkInn
set_option maxRecDepth 20000 in
theorem ggX5_away_X2_awayOf : GoodIn wsX5_away wsX2_awayOf := goodIn_r _ [12, 13, 14, 15, 16, 23, 24, 25, 26, 27, 28, 29] (by decide +kernel) (by decide +kernel)
set_option maxRecDepth 20000 in
theorem gX5_away_X2_awayOf : GoodIn wsX5_away (wsV RX5 162 RX2 yX2_awayOf wsX2_awayOf) := goodIn_app (goodIn_of _ (by decide +kernel)) ggX5_away_X2_awayOf
theorem dX5_away_0 : decode cX5_away 0 = .ok (.iload_n 1, 1) := by decide +kernel
theorem dX5_away_1 : decode cX5_away 1 = .ok (.invokestatic 48, 3) := by decide +kernel
theorem dX5_away_4 : decode cX5_away 4 = .ok (.aload_n 0, 1) := by decide +kernel
theorem dX5_away_5 : decode cX5_away 5 = .ok (.getfield 19, 3) := by decide +kernel
theorem dX5_away_8 : decode cX5_away 8 = .ok (.iload_n 1, 1) := by decide +kernel
theorem dX5_away_9 : decode cX5_away 9 = .ok (.invokevirtual 162, 3) := by decide +kernel
theorem dX5_away_12 : decode cX5_away 12 = .ok (.ireturn, 1) := by decide +kernel
set_option maxRecDepth 20000 in
theorem ggX5_sleeps_X5_checkBooking : GoodIn wsX5_sleeps wsX5_checkBooking := goodIn_ca (goodIn_r _ [7, 8, 9, 1, 10, 11, 12, 13, 14, 15, 16, 17, 18, 19, 20, 21, 22, 23] (by decide +kernel) (by decide +kernel)) (goodIn_sub (fun _ h => List.mem_cons_of_mem _ (List.mem_append_right _ h)) (by decide +kernel))
set_option maxRecDepth 20000 in
theorem gX5_sleeps_X5_checkBooking : GoodIn wsX5_sleeps (wsV RX5 92 RX5 yX5_checkBooking wsX5_checkBooking) := goodIn_app (goodIn_of _ (by decide +kernel)) ggX5_sleeps_X5_checkBooking
theorem dX5_sleeps_0 : decode cX5_sleeps 0 = .ok (.aload_n 0, 1) := by decide +kernel
theorem dX5_sleeps_1 : decode cX5_sleeps 1 = .ok (.iload_n 1, 1) := by decide +kernel
theorem dX5_sleeps_2 : decode cX5_sleeps 2 = .ok (.invokevirtual 92, 3) := by decide +kernel
theorem dX5_sleeps_5 : decode cX5_sleeps 5 = .ok (.aload_n 0, 1) := by decide +kernel
theorem dX5_sleeps_6 : decode cX5_sleeps 6 = .ok (.getfield 26, 3) := by decide +kernel
theorem dX5_sleeps_9 : decode cX5_sleeps 9 = .ok (.getfield 165, 3) := by decide +kernel
theorem dX5_sleeps_12 : decode cX5_sleeps 12 = .ok (.iload_n 1, 1) := by decide +kernel
theorem dX5_sleeps_13 : decode cX5_sleeps 13 = .ok (.iaload, 1) := by decide +kernel
theorem dX5_sleeps_14 : decode cX5_sleeps 14 = .ok (.ireturn, 1) := by decide +kernel
set_option maxRecDepth 20000 in
theorem ggX5_points_X5_checkGuest : GoodIn wsX5_points wsX5_checkGuest := goodIn_ca (goodIn_r _ [5, 6, 7] (by decide +kernel) (by decide +kernel)) (goodIn_sub (fun _ h => List.mem_cons_of_mem _ (List.mem_append_right _ h)) (by decide +kernel))
set_option maxRecDepth 20000 in
theorem gX5_points_X5_checkGuest : GoodIn wsX5_points (va_wsS RX5 71 yX5_checkGuest wsX5_checkGuest) := goodIn_app (goodIn_of _ (by decide +kernel)) ggX5_points_X5_checkGuest
set_option maxRecDepth 20000 in
theorem ggX5_points_X3_ofGuest : GoodIn wsX5_points wsX3_ofGuest := goodIn_r _ [12, 13, 14, 15, 22, 23, 24, 25] (by decide +kernel) (by decide +kernel)
set_option maxRecDepth 20000 in
theorem gX5_points_X3_ofGuest : GoodIn wsX5_points (wsV RX5 121 RX3 yX3_ofGuest wsX3_ofGuest) := goodIn_app (goodIn_of _ (by decide +kernel)) ggX5_points_X3_ofGuest
theorem dX5_points_0 : decode cX5_points 0 = .ok (.iload_n 1, 1) := by decide +kernel
theorem dX5_points_1 : decode cX5_points 1 = .ok (.invokestatic 71, 3) := by decide +kernel
theorem dX5_points_4 : decode cX5_points 4 = .ok (.aload_n 0, 1) := by decide +kernel
theorem dX5_points_5 : decode cX5_points 5 = .ok (.getfield 33, 3) := by decide +kernel
theorem dX5_points_8 : decode cX5_points 8 = .ok (.iload_n 1, 1) := by decide +kernel
theorem dX5_points_9 : decode cX5_points 9 = .ok (.invokevirtual 121, 3) := by decide +kernel
theorem dX5_points_12 : decode cX5_points 12 = .ok (.ireturn, 1) := by decide +kernel
set_option maxRecDepth 20000 in
theorem ggX5_owes_X5_checkInn : GoodIn wsX5_owes wsX5_checkInn := goodIn_ca (goodIn_r _ [5, 6, 7] (by decide +kernel) (by decide +kernel)) (goodIn_sub (fun _ h => List.mem_cons_of_mem _ (List.mem_append_right _ h)) (by decide +kernel))
set_option maxRecDepth 20000 in
theorem gX5_owes_X5_checkInn : GoodIn wsX5_owes (va_wsS RX5 48 yX5_checkInn wsX5_checkInn) := goodIn_app (goodIn_of _ (by decide +kernel)) ggX5_owes_X5_checkInn
set_option maxRecDepth 20000 in
theorem ggX5_owes_X1_between : GoodIn wsX5_owes wsX1_between := goodIn_r _ [12, 13, 14, 15, 16, 17, 18, 19, 11, 20, 27, 28] (by decide +kernel) (by decide +kernel)
set_option maxRecDepth 20000 in
theorem gX5_owes_X1_between : GoodIn wsX5_owes (wsV RX5 168 RX1 yX1_between wsX1_between) := goodIn_app (goodIn_of _ (by decide +kernel)) ggX5_owes_X1_between
theorem dX5_owes_0 : decode cX5_owes 0 = .ok (.iload_n 1, 1) := by decide +kernel
theorem dX5_owes_1 : decode cX5_owes 1 = .ok (.invokestatic 48, 3) := by decide +kernel
theorem dX5_owes_4 : decode cX5_owes 4 = .ok (.iload_n 2, 1) := by decide +kernel
theorem dX5_owes_5 : decode cX5_owes 5 = .ok (.invokestatic 48, 3) := by decide +kernel
theorem dX5_owes_8 : decode cX5_owes 8 = .ok (.aload_n 0, 1) := by decide +kernel
theorem dX5_owes_9 : decode cX5_owes 9 = .ok (.getfield 40, 3) := by decide +kernel
theorem dX5_owes_12 : decode cX5_owes 12 = .ok (.iload_n 1, 1) := by decide +kernel
theorem dX5_owes_13 : decode cX5_owes 13 = .ok (.iload_n 2, 1) := by decide +kernel
theorem dX5_owes_14 : decode cX5_owes 14 = .ok (.invokevirtual 168, 3) := by decide +kernel
theorem dX5_owes_17 : decode cX5_owes 17 = .ok (.ireturn, 1) := by decide +kernel
set_option maxRecDepth 20000 in
theorem ggX5_purse_X5_checkInn : GoodIn wsX5_purse wsX5_checkInn := goodIn_ca (goodIn_r _ [6, 7, 8] (by decide +kernel) (by decide +kernel)) (goodIn_sub (fun _ h => List.mem_cons_of_mem _ (List.mem_append_right _ h)) (by decide +kernel))
set_option maxRecDepth 20000 in
theorem gX5_purse_X5_checkInn : GoodIn wsX5_purse (va_wsS RX5 48 yX5_checkInn wsX5_checkInn) := goodIn_app (goodIn_of _ (by decide +kernel)) ggX5_purse_X5_checkInn
theorem dX5_purse_0 : decode cX5_purse 0 = .ok (.iload_n 1, 1) := by decide +kernel
theorem dX5_purse_1 : decode cX5_purse 1 = .ok (.invokestatic 48, 3) := by decide +kernel
theorem dX5_purse_4 : decode cX5_purse 4 = .ok (.aload_n 0, 1) := by decide +kernel
theorem dX5_purse_5 : decode cX5_purse 5 = .ok (.getfield 40, 3) := by decide +kernel
theorem dX5_purse_8 : decode cX5_purse 8 = .ok (.getfield 171, 3) := by decide +kernel
theorem dX5_purse_11 : decode cX5_purse 11 = .ok (.iload_n 1, 1) := by decide +kernel
theorem dX5_purse_12 : decode cX5_purse 12 = .ok (.iaload, 1) := by decide +kernel
theorem dX5_purse_13 : decode cX5_purse 13 = .ok (.ireturn, 1) := by decide +kernel
theorem dX5_checkInn_0 : decode cX5_checkInn 0 = .ok (.iload_n 0, 1) := by decide +kernel
theorem dX5_checkInn_1 : decode cX5_checkInn 1 = .ok (.ifCond .lt 8, 3) := by decide +kernel
theorem dX5_checkInn_4 : decode cX5_checkInn 4 = .ok (.iload_n 0, 1) := by decide +kernel
theorem dX5_checkInn_5 : decode cX5_checkInn 5 = .ok (.iconst 4, 1) := by decide +kernel
theorem dX5_checkInn_6 : decode cX5_checkInn 6 = .ok (.if_icmp .lt 13, 3) := by decide +kernel
theorem dX5_checkInn_9 : decode cX5_checkInn 9 = .ok (.new 174, 3) := by decide +kernel
theorem dX5_checkInn_12 : decode cX5_checkInn 12 = .ok (.dup, 1) := by decide +kernel
theorem dX5_checkInn_13 : decode cX5_checkInn 13 = .ok (.ldc 176, 2) := by decide +kernel
theorem dX5_checkInn_15 : decode cX5_checkInn 15 = .ok (.invokespecial 178, 3) := by decide +kernel
theorem dX5_checkInn_18 : decode cX5_checkInn 18 = .ok (.athrow, 1) := by decide +kernel
theorem dX5_checkInn_19 : decode cX5_checkInn 19 = .ok (.return_, 1) := by decide +kernel
theorem dX5_checkKind_0 : decode cX5_checkKind 0 = .ok (.iload_n 0, 1) := by decide +kernel
theorem dX5_checkKind_1 : decode cX5_checkKind 1 = .ok (.ifCond .lt 8, 3) := by decide +kernel
theorem dX5_checkKind_4 : decode cX5_checkKind 4 = .ok (.iload_n 0, 1) := by decide +kernel
theorem dX5_checkKind_5 : decode cX5_checkKind 5 = .ok (.iconst 2, 1) := by decide +kernel
theorem dX5_checkKind_6 : decode cX5_checkKind 6 = .ok (.if_icmp .lt 13, 3) := by decide +kernel
theorem dX5_checkKind_9 : decode cX5_checkKind 9 = .ok (.new 174, 3) := by decide +kernel
theorem dX5_checkKind_12 : decode cX5_checkKind 12 = .ok (.dup, 1) := by decide +kernel
theorem dX5_checkKind_13 : decode cX5_checkKind 13 = .ok (.ldc 179, 2) := by decide +kernel
theorem dX5_checkKind_15 : decode cX5_checkKind 15 = .ok (.invokespecial 178, 3) := by decide +kernel
theorem dX5_checkKind_18 : decode cX5_checkKind 18 = .ok (.athrow, 1) := by decide +kernel
theorem dX5_checkKind_19 : decode cX5_checkKind 19 = .ok (.return_, 1) := by decide +kernel
theorem dX5_checkGuest_0 : decode cX5_checkGuest 0 = .ok (.iload_n 0, 1) := by decide +kernel
theorem dX5_checkGuest_1 : decode cX5_checkGuest 1 = .ok (.ifCond .lt 9, 3) := by decide +kernel
theorem dX5_checkGuest_4 : decode cX5_checkGuest 4 = .ok (.iload_n 0, 1) := by decide +kernel
theorem dX5_checkGuest_5 : decode cX5_checkGuest 5 = .ok (.bipush 10, 2) := by decide +kernel
theorem dX5_checkGuest_7 : decode cX5_checkGuest 7 = .ok (.if_icmp .lt 13, 3) := by decide +kernel
theorem dX5_checkGuest_10 : decode cX5_checkGuest 10 = .ok (.new 174, 3) := by decide +kernel
theorem dX5_checkGuest_13 : decode cX5_checkGuest 13 = .ok (.dup, 1) := by decide +kernel
theorem dX5_checkGuest_14 : decode cX5_checkGuest 14 = .ok (.ldc 181, 2) := by decide +kernel
theorem dX5_checkGuest_16 : decode cX5_checkGuest 16 = .ok (.invokespecial 178, 3) := by decide +kernel
theorem dX5_checkGuest_19 : decode cX5_checkGuest 19 = .ok (.athrow, 1) := by decide +kernel
theorem dX5_checkGuest_20 : decode cX5_checkGuest 20 = .ok (.return_, 1) := by decide +kernel
theorem dX5_checkBooking_0 : decode cX5_checkBooking 0 = .ok (.iload_n 1, 1) := by decide +kernel
theorem dX5_checkBooking_1 : decode cX5_checkBooking 1 = .ok (.ifCond .lt 14, 3) := by decide +kernel
theorem dX5_checkBooking_4 : decode cX5_checkBooking 4 = .ok (.iload_n 1, 1) := by decide +kernel
theorem dX5_checkBooking_5 : decode cX5_checkBooking 5 = .ok (.aload_n 0, 1) := by decide +kernel
theorem dX5_checkBooking_6 : decode cX5_checkBooking 6 = .ok (.getfield 26, 3) := by decide +kernel
theorem dX5_checkBooking_9 : decode cX5_checkBooking 9 = .ok (.getfield 143, 3) := by decide +kernel
theorem dX5_checkBooking_12 : decode cX5_checkBooking 12 = .ok (.if_icmp .lt 13, 3) := by decide +kernel
theorem dX5_checkBooking_15 : decode cX5_checkBooking 15 = .ok (.new 174, 3) := by decide +kernel
theorem dX5_checkBooking_18 : decode cX5_checkBooking 18 = .ok (.dup, 1) := by decide +kernel
theorem dX5_checkBooking_19 : decode cX5_checkBooking 19 = .ok (.ldc 183, 2) := by decide +kernel
theorem dX5_checkBooking_21 : decode cX5_checkBooking 21 = .ok (.invokespecial 178, 3) := by decide +kernel
theorem dX5_checkBooking_24 : decode cX5_checkBooking 24 = .ok (.athrow, 1) := by decide +kernel
theorem dX5_checkBooking_25 : decode cX5_checkBooking 25 = .ok (.return_, 1) := by decide +kernel
theorem dX5_checkRange_0 : decode cX5_checkRange 0 = .ok (.iload_n 0, 1) := by decide +kernel
theorem dX5_checkRange_1 : decode cX5_checkRange 1 = .ok (.iload_n 1, 1) := by decide +kernel
theorem dX5_checkRange_2 : decode cX5_checkRange 2 = .ok (.if_icmp .lt 8, 3) := by decide +kernel
theorem dX5_checkRange_5 : decode cX5_checkRange 5 = .ok (.iload_n 0, 1) := by decide +kernel
theorem dX5_checkRange_6 : decode cX5_checkRange 6 = .ok (.iload_n 2, 1) := by decide +kernel
theorem dX5_checkRange_7 : decode cX5_checkRange 7 = .ok (.if_icmp .le 13, 3) := by decide +kernel
theorem dX5_checkRange_10 : decode cX5_checkRange 10 = .ok (.new 185, 3) := by decide +kernel
theorem dX5_checkRange_13 : decode cX5_checkRange 13 = .ok (.dup, 1) := by decide +kernel
theorem dX5_checkRange_14 : decode cX5_checkRange 14 = .ok (.ldc 187, 2) := by decide +kernel
theorem dX5_checkRange_16 : decode cX5_checkRange 16 = .ok (.invokespecial 189, 3) := by decide +kernel
theorem dX5_checkRange_19 : decode cX5_checkRange 19 = .ok (.athrow, 1) := by decide +kernel
theorem dX5_checkRange_20 : decode cX5_checkRange 20 = .ok (.return_, 1) := by decide +kernel
set_option maxRecDepth 20000 in
theorem ggX5_extraOf_X0_missedAt : GoodIn wsX5_extraOf wsX0_missedAt := goodIn_r _ [7, 8, 9, 10, 11, 18, 19, 20, 21, 22, 23, 24] (by decide +kernel) (by decide +kernel)
set_option maxRecDepth 20000 in
theorem gX5_extraOf_X0_missedAt : GoodIn wsX5_extraOf (wsV RX5 190 RX0 yX0_missedAt wsX0_missedAt) := goodIn_app (goodIn_of _ (by decide +kernel)) ggX5_extraOf_X0_missedAt
theorem dX5_extraOf_0 : decode cX5_extraOf 0 = .ok (.aload_n 0, 1) := by decide +kernel
theorem dX5_extraOf_1 : decode cX5_extraOf 1 = .ok (.getfield 26, 3) := by decide +kernel
theorem dX5_extraOf_4 : decode cX5_extraOf 4 = .ok (.iload_n 1, 1) := by decide +kernel
theorem dX5_extraOf_5 : decode cX5_extraOf 5 = .ok (.aload_n 0, 1) := by decide +kernel
theorem dX5_extraOf_6 : decode cX5_extraOf 6 = .ok (.getfield 44, 3) := by decide +kernel
theorem dX5_extraOf_9 : decode cX5_extraOf 9 = .ok (.iconst 4, 1) := by decide +kernel
theorem dX5_extraOf_10 : decode cX5_extraOf 10 = .ok (.isub, 1) := by decide +kernel
theorem dX5_extraOf_11 : decode cX5_extraOf 11 = .ok (.aload_n 0, 1) := by decide +kernel
theorem dX5_extraOf_12 : decode cX5_extraOf 12 = .ok (.getfield 44, 3) := by decide +kernel
theorem dX5_extraOf_15 : decode cX5_extraOf 15 = .ok (.invokevirtual 190, 3) := by decide +kernel
theorem dX5_extraOf_18 : decode cX5_extraOf 18 = .ok (.iconst 4, 1) := by decide +kernel
theorem dX5_extraOf_19 : decode cX5_extraOf 19 = .ok (.idiv, 1) := by decide +kernel
theorem dX5_extraOf_20 : decode cX5_extraOf 20 = .ok (.ireturn, 1) := by decide +kernel
set_option maxRecDepth 20000 in
theorem ggX5_takesMore_X0_countFor : GoodIn wsX5_takesMore wsX0_countFor := goodIn_r _ [7, 8, 9, 10, 11, 38, 39, 40, 41, 42, 43, 44] (by decide +kernel) (by decide +kernel)
set_option maxRecDepth 20000 in
theorem gX5_takesMore_X0_countFor : GoodIn wsX5_takesMore (wsV RX5 193 RX0 yX0_countFor wsX0_countFor) := goodIn_app (goodIn_of _ (by decide +kernel)) ggX5_takesMore_X0_countFor
set_option maxRecDepth 20000 in
theorem ggX5_takesMore_X4_countOf : GoodIn wsX5_takesMore wsX4_countOf := goodIn_r _ [16, 17, 18, 19, 15, 20, 45, 46, 47] (by decide +kernel) (by decide +kernel)
set_option maxRecDepth 20000 in
theorem gX5_takesMore_X4_countOf : GoodIn wsX5_takesMore (wsV RX5 196 RX4 yX4_countOf wsX4_countOf) := goodIn_app (goodIn_of _ (by decide +kernel)) ggX5_takesMore_X4_countOf
set_option maxRecDepth 20000 in
theorem ggX5_takesMore_X5_extraOf : GoodIn wsX5_takesMore wsX5_extraOf := goodIn_r _ [25, 1, 26, 27, 28, 29, 6, 30, 8, 9, 11, 31, 32, 33, 34, 35, 36, 37, 38, 39, 40, 41, 42, 43, 44] (by decide +kernel) (by decide +kernel)
set_option maxRecDepth 20000 in
theorem gX5_takesMore_X5_extraOf : GoodIn wsX5_takesMore (wsV RX5 156 RX5 yX5_extraOf wsX5_extraOf) := goodIn_app (goodIn_of _ (by decide +kernel)) ggX5_takesMore_X5_extraOf
theorem dX5_takesMore_0 : decode cX5_takesMore 0 = .ok (.aload_n 0, 1) := by decide +kernel
theorem dX5_takesMore_1 : decode cX5_takesMore 1 = .ok (.getfield 26, 3) := by decide +kernel
theorem dX5_takesMore_4 : decode cX5_takesMore 4 = .ok (.iload_n 1, 1) := by decide +kernel
theorem dX5_takesMore_5 : decode cX5_takesMore 5 = .ok (.iload_n 2, 1) := by decide +kernel
theorem dX5_takesMore_6 : decode cX5_takesMore 6 = .ok (.iload_n 3, 1) := by decide +kernel
theorem dX5_takesMore_7 : decode cX5_takesMore 7 = .ok (.invokevirtual 193, 3) := by decide +kernel
theorem dX5_takesMore_10 : decode cX5_takesMore 10 = .ok (.aload_n 0, 1) := by decide +kernel
theorem dX5_takesMore_11 : decode cX5_takesMore 11 = .ok (.getfield 10, 3) := by decide +kernel
theorem dX5_takesMore_14 : decode cX5_takesMore 14 = .ok (.iload_n 1, 1) := by decide +kernel
theorem dX5_takesMore_15 : decode cX5_takesMore 15 = .ok (.iload_n 2, 1) := by decide +kernel
theorem dX5_takesMore_16 : decode cX5_takesMore 16 = .ok (.invokevirtual 196, 3) := by decide +kernel
theorem dX5_takesMore_19 : decode cX5_takesMore 19 = .ok (.aload_n 0, 1) := by decide +kernel
theorem dX5_takesMore_20 : decode cX5_takesMore 20 = .ok (.iload_n 1, 1) := by decide +kernel
theorem dX5_takesMore_21 : decode cX5_takesMore 21 = .ok (.invokevirtual 156, 3) := by decide +kernel
theorem dX5_takesMore_24 : decode cX5_takesMore 24 = .ok (.iadd, 1) := by decide +kernel
theorem dX5_takesMore_25 : decode cX5_takesMore 25 = .ok (.if_icmp .ge 7, 3) := by decide +kernel
theorem dX5_takesMore_28 : decode cX5_takesMore 28 = .ok (.iconst 1, 1) := by decide +kernel
theorem dX5_takesMore_29 : decode cX5_takesMore 29 = .ok (.goto 4, 3) := by decide +kernel
theorem dX5_takesMore_32 : decode cX5_takesMore 32 = .ok (.iconst 0, 1) := by decide +kernel
theorem dX5_takesMore_33 : decode cX5_takesMore 33 = .ok (.ireturn, 1) := by decide +kernel
theorem dX5_distance_0 : decode cX5_distance 0 = .ok (.iload_n 0, 1) := by decide +kernel
theorem dX5_distance_1 : decode cX5_distance 1 = .ok (.iload_n 1, 1) := by decide +kernel
theorem dX5_distance_2 : decode cX5_distance 2 = .ok (.isub, 1) := by decide +kernel
theorem dX5_distance_3 : decode cX5_distance 3 = .ok (.invokestatic 199, 3) := by decide +kernel
theorem dX5_distance_6 : decode cX5_distance 6 = .ok (.istore_n 2, 1) := by decide +kernel
theorem dX5_distance_7 : decode cX5_distance 7 = .ok (.iload_n 2, 1) := by decide +kernel
theorem dX5_distance_8 : decode cX5_distance 8 = .ok (.iconst 4, 1) := by decide +kernel
theorem dX5_distance_9 : decode cX5_distance 9 = .ok (.iload_n 2, 1) := by decide +kernel
theorem dX5_distance_10 : decode cX5_distance 10 = .ok (.isub, 1) := by decide +kernel
theorem dX5_distance_11 : decode cX5_distance 11 = .ok (.invokestatic 204, 3) := by decide +kernel
theorem dX5_distance_14 : decode cX5_distance 14 = .ok (.ireturn, 1) := by decide +kernel
set_option maxRecDepth 20000 in
theorem ggX5_findInn_X5_distance : GoodIn wsX5_findInn wsX5_distance := goodIn_r _ [6, 7, 8, 9, 10, 11, 12, 13] (by decide +kernel) (by decide +kernel)
set_option maxRecDepth 20000 in
theorem gX5_findInn_X5_distance : GoodIn wsX5_findInn (va_wsS RX5 207 yX5_distance wsX5_distance) := goodIn_app (goodIn_of _ (by decide +kernel)) ggX5_findInn_X5_distance
set_option maxRecDepth 20000 in
theorem ggX5_findInn_X4_freeOf : GoodIn wsX5_findInn wsX4_freeOf := goodIn_r _ [18, 19, 20, 9, 21, 22, 23, 24, 17, 25, 26, 27, 28, 29, 30, 31, 32, 33, 34, 47, 48, 49] (by decide +kernel) (by decide +kernel)
set_option maxRecDepth 20000 in
theorem gX5_findInn_X4_freeOf : GoodIn wsX5_findInn (wsV RX5 146 RX4 yX4_freeOf wsX4_freeOf) := goodIn_app (goodIn_of _ (by decide +kernel)) ggX5_findInn_X4_freeOf
set_option maxRecDepth 20000 in
theorem ggX5_findInn_X2_giverFor : GoodIn wsX5_findInn wsX2_giverFor := goodIn_r _ [39, 40, 50, 51, 52, 53, 54, 55, 56] (by decide +kernel) (by decide +kernel)
set_option maxRecDepth 20000 in
theorem gX5_findInn_X2_giverFor : GoodIn wsX5_findInn (wsV RX5 210 RX2 yX2_giverFor wsX2_giverFor) := goodIn_app (goodIn_of _ (by decide +kernel)) ggX5_findInn_X2_giverFor
theorem dX5_findInn_0 : decode cX5_findInn 0 = .ok (.iconst 0, 1) := by decide +kernel
theorem dX5_findInn_1 : decode cX5_findInn 1 = .ok (.istore_n 3, 1) := by decide +kernel
theorem dX5_findInn_2 : decode cX5_findInn 2 = .ok (.iload_n 3, 1) := by decide +kernel
theorem dX5_findInn_3 : decode cX5_findInn 3 = .ok (.iconst 2, 1) := by decide +kernel
theorem dX5_findInn_4 : decode cX5_findInn 4 = .ok (.if_icmp .gt 63, 3) := by decide +kernel
theorem dX5_findInn_7 : decode cX5_findInn 7 = .ok (.iconst 0, 1) := by decide +kernel
theorem dX5_findInn_8 : decode cX5_findInn 8 = .ok (.istore 4, 2) := by decide +kernel
theorem dX5_findInn_10 : decode cX5_findInn 10 = .ok (.iload 4, 2) := by decide +kernel
theorem dX5_findInn_12 : decode cX5_findInn 12 = .ok (.iconst 4, 1) := by decide +kernel
theorem dX5_findInn_13 : decode cX5_findInn 13 = .ok (.if_icmp .ge 48, 3) := by decide +kernel
theorem dX5_findInn_16 : decode cX5_findInn 16 = .ok (.iload_n 1, 1) := by decide +kernel
theorem dX5_findInn_17 : decode cX5_findInn 17 = .ok (.iload 4, 2) := by decide +kernel
theorem dX5_findInn_19 : decode cX5_findInn 19 = .ok (.invokestatic 207, 3) := by decide +kernel
theorem dX5_findInn_22 : decode cX5_findInn 22 = .ok (.iload_n 3, 1) := by decide +kernel
theorem dX5_findInn_23 : decode cX5_findInn 23 = .ok (.if_icmp .ne 32, 3) := by decide +kernel
theorem dX5_findInn_26 : decode cX5_findInn 26 = .ok (.aload_n 0, 1) := by decide +kernel
theorem dX5_findInn_27 : decode cX5_findInn 27 = .ok (.getfield 10, 3) := by decide +kernel
theorem dX5_findInn_30 : decode cX5_findInn 30 = .ok (.iload 4, 2) := by decide +kernel
theorem dX5_findInn_32 : decode cX5_findInn 32 = .ok (.iload_n 2, 1) := by decide +kernel
theorem dX5_findInn_33 : decode cX5_findInn 33 = .ok (.invokevirtual 146, 3) := by decide +kernel
theorem dX5_findInn_36 : decode cX5_findInn 36 = .ok (.ifCond .le 19, 3) := by decide +kernel
theorem dX5_findInn_39 : decode cX5_findInn 39 = .ok (.aload_n 0, 1) := by decide +kernel
theorem dX5_findInn_40 : decode cX5_findInn 40 = .ok (.getfield 19, 3) := by decide +kernel
theorem dX5_findInn_43 : decode cX5_findInn 43 = .ok (.iload 4, 2) := by decide +kernel
theorem dX5_findInn_45 : decode cX5_findInn 45 = .ok (.invokevirtual 210, 3) := by decide +kernel
theorem dX5_findInn_48 : decode cX5_findInn 48 = .ok (.iconst (-1), 1) := by decide +kernel
theorem dX5_findInn_49 : decode cX5_findInn 49 = .ok (.if_icmp .eq 6, 3) := by decide +kernel
theorem dX5_findInn_52 : decode cX5_findInn 52 = .ok (.iload 4, 2) := by decide +kernel
theorem dX5_findInn_54 : decode cX5_findInn 54 = .ok (.ireturn, 1) := by decide +kernel
theorem dX5_findInn_55 : decode cX5_findInn 55 = .ok (.iinc 4 1, 3) := by decide +kernel
theorem dX5_findInn_58 : decode cX5_findInn 58 = .ok (.goto (-48), 3) := by decide +kernel
theorem dX5_findInn_61 : decode cX5_findInn 61 = .ok (.iinc 3 1, 3) := by decide +kernel
theorem dX5_findInn_64 : decode cX5_findInn 64 = .ok (.goto (-62), 3) := by decide +kernel
theorem dX5_findInn_67 : decode cX5_findInn 67 = .ok (.iconst (-1), 1) := by decide +kernel
theorem dX5_findInn_68 : decode cX5_findInn 68 = .ok (.ireturn, 1) := by decide +kernel
set_option maxRecDepth 20000 in
theorem ggX5_putUp_X4_priceOf : GoodIn wsX5_putUp wsX4_priceOf := goodIn_r _ [12, 13, 14, 15, 11, 16, 80, 81, 82] (by decide +kernel) (by decide +kernel)
set_option maxRecDepth 20000 in
theorem gX5_putUp_X4_priceOf : GoodIn wsX5_putUp (wsV RX5 213 RX4 yX4_priceOf wsX4_priceOf) := goodIn_app (goodIn_of _ (by decide +kernel)) ggX5_putUp_X4_priceOf
set_option maxRecDepth 20000 in
theorem ggX5_putUp_X1_receive : GoodIn wsX5_putUp wsX1_receive := goodIn_r _ [21, 22, 83, 84] (by decide +kernel) (by decide +kernel)
set_option maxRecDepth 20000 in
theorem gX5_putUp_X1_receive : GoodIn wsX5_putUp (wsV RX5 216 RX1 yX1_receive wsX1_receive) := goodIn_app (goodIn_of _ (by decide +kernel)) ggX5_putUp_X1_receive
set_option maxRecDepth 20000 in
theorem ggX5_putUp_X1_owe : GoodIn wsX5_putUp wsX1_owe := goodIn_r _ [26, 27, 28, 29, 20, 30, 83, 84] (by decide +kernel) (by decide +kernel)
set_option maxRecDepth 20000 in
theorem gX5_putUp_X1_owe : GoodIn wsX5_putUp (wsV RX5 219 RX1 yX1_owe wsX1_owe) := goodIn_app (goodIn_of _ (by decide +kernel)) ggX5_putUp_X1_owe
set_option maxRecDepth 20000 in
theorem ggX5_putUp_X5_layLinen : GoodIn wsX5_putUp wsX5_layLinen := goodIn_r _ [35, 36, 5, 37, 38, 39, 40, 41, 42, 43, 44, 45, 46, 47, 23, 24, 25, 20, 26, 27, 28, 29, 30, 48, 49, 50, 51, 52, 67, 68, 69, 70, 71, 72, 85, 86, 87, 88, 89, 90, 91, 83, 84] (by decide +kernel) (by decide +kernel)
set_option maxRecDepth 20000 in
theorem gX5_putUp_X5_layLinen : GoodIn wsX5_putUp (wsV RX5 222 RX5 yX5_layLinen wsX5_layLinen) := goodIn_app (goodIn_of _ (by decide +kernel)) ggX5_putUp_X5_layLinen
set_option maxRecDepth 20000 in
theorem ggX5_putUp_X4_addSleeper : GoodIn wsX5_putUp wsX4_addSleeper := goodIn_r _ [56, 57, 14, 15, 11, 16, 80, 81, 82] (by decide +kernel) (by decide +kernel)
set_option maxRecDepth 20000 in
theorem gX5_putUp_X4_addSleeper : GoodIn wsX5_putUp (wsV RX5 225 RX4 yX4_addSleeper wsX4_addSleeper) := goodIn_app (goodIn_of _ (by decide +kernel)) ggX5_putUp_X4_addSleeper
set_option maxRecDepth 20000 in
theorem ggX5_putUp_X3_add : GoodIn wsX5_putUp wsX3_add := goodIn_r _ [62, 63, 64, 65, 66, 92, 93, 94, 95] (by decide +kernel) (by decide +kernel)
set_option maxRecDepth 20000 in
theorem gX5_putUp_X3_add : GoodIn wsX5_putUp (wsV RX5 231 RX3 yX3_add wsX3_add) := goodIn_app (goodIn_of _ (by decide +kernel)) ggX5_putUp_X3_add
theorem dX5_putUp_0 : decode cX5_putUp 0 = .ok (.aload_n 0, 1) := by decide +kernel
theorem dX5_putUp_1 : decode cX5_putUp 1 = .ok (.getfield 26, 3) := by decide +kernel
theorem dX5_putUp_4 : decode cX5_putUp 4 = .ok (.getfield 105, 3) := by decide +kernel
theorem dX5_putUp_7 : decode cX5_putUp 7 = .ok (.iload_n 1, 1) := by decide +kernel
theorem dX5_putUp_8 : decode cX5_putUp 8 = .ok (.iaload, 1) := by decide +kernel
theorem dX5_putUp_9 : decode cX5_putUp 9 = .ok (.istore_n 3, 1) := by decide +kernel
theorem dX5_putUp_10 : decode cX5_putUp 10 = .ok (.aload_n 0, 1) := by decide +kernel
theorem dX5_putUp_11 : decode cX5_putUp 11 = .ok (.getfield 26, 3) := by decide +kernel
theorem dX5_putUp_14 : decode cX5_putUp 14 = .ok (.getfield 108, 3) := by decide +kernel
theorem dX5_putUp_17 : decode cX5_putUp 17 = .ok (.iload_n 1, 1) := by decide +kernel
theorem dX5_putUp_18 : decode cX5_putUp 18 = .ok (.iaload, 1) := by decide +kernel
theorem dX5_putUp_19 : decode cX5_putUp 19 = .ok (.istore 4, 2) := by decide +kernel
theorem dX5_putUp_21 : decode cX5_putUp 21 = .ok (.aload_n 0, 1) := by decide +kernel
theorem dX5_putUp_22 : decode cX5_putUp 22 = .ok (.getfield 10, 3) := by decide +kernel
theorem dX5_putUp_25 : decode cX5_putUp 25 = .ok (.iload_n 2, 1) := by decide +kernel
theorem dX5_putUp_26 : decode cX5_putUp 26 = .ok (.iload 4, 2) := by decide +kernel
theorem dX5_putUp_28 : decode cX5_putUp 28 = .ok (.invokevirtual 213, 3) := by decide +kernel
theorem dX5_putUp_31 : decode cX5_putUp 31 = .ok (.istore 5, 2) := by decide +kernel
theorem dX5_putUp_33 : decode cX5_putUp 33 = .ok (.aload_n 0, 1) := by decide +kernel
theorem dX5_putUp_34 : decode cX5_putUp 34 = .ok (.getfield 40, 3) := by decide +kernel
theorem dX5_putUp_37 : decode cX5_putUp 37 = .ok (.iload_n 3, 1) := by decide +kernel
theorem dX5_putUp_38 : decode cX5_putUp 38 = .ok (.aload_n 0, 1) := by decide +kernel
theorem dX5_putUp_39 : decode cX5_putUp 39 = .ok (.getfield 10, 3) := by decide +kernel
theorem dX5_putUp_42 : decode cX5_putUp 42 = .ok (.iload_n 3, 1) := by decide +kernel
theorem dX5_putUp_43 : decode cX5_putUp 43 = .ok (.iload 4, 2) := by decide +kernel
theorem dX5_putUp_45 : decode cX5_putUp 45 = .ok (.invokevirtual 213, 3) := by decide +kernel
theorem dX5_putUp_48 : decode cX5_putUp 48 = .ok (.invokevirtual 216, 3) := by decide +kernel
theorem dX5_putUp_51 : decode cX5_putUp 51 = .ok (.iload_n 2, 1) := by decide +kernel
theorem dX5_putUp_52 : decode cX5_putUp 52 = .ok (.iload_n 3, 1) := by decide +kernel
theorem dX5_putUp_53 : decode cX5_putUp 53 = .ok (.if_icmp .eq 14, 3) := by decide +kernel
theorem dX5_putUp_56 : decode cX5_putUp 56 = .ok (.aload_n 0, 1) := by decide +kernel
theorem dX5_putUp_57 : decode cX5_putUp 57 = .ok (.getfield 40, 3) := by decide +kernel
theorem dX5_putUp_60 : decode cX5_putUp 60 = .ok (.iload_n 3, 1) := by decide +kernel
theorem dX5_putUp_61 : decode cX5_putUp 61 = .ok (.iload_n 2, 1) := by decide +kernel
theorem dX5_putUp_62 : decode cX5_putUp 62 = .ok (.iload 5, 2) := by decide +kernel
theorem dX5_putUp_64 : decode cX5_putUp 64 = .ok (.invokevirtual 219, 3) := by decide +kernel
theorem dX5_putUp_67 : decode cX5_putUp 67 = .ok (.aload_n 0, 1) := by decide +kernel
theorem dX5_putUp_68 : decode cX5_putUp 68 = .ok (.iload_n 2, 1) := by decide +kernel
theorem dX5_putUp_69 : decode cX5_putUp 69 = .ok (.invokevirtual 222, 3) := by decide +kernel
theorem dX5_putUp_72 : decode cX5_putUp 72 = .ok (.aload_n 0, 1) := by decide +kernel
theorem dX5_putUp_73 : decode cX5_putUp 73 = .ok (.getfield 10, 3) := by decide +kernel
theorem dX5_putUp_76 : decode cX5_putUp 76 = .ok (.iload_n 2, 1) := by decide +kernel
theorem dX5_putUp_77 : decode cX5_putUp 77 = .ok (.iload 4, 2) := by decide +kernel
theorem dX5_putUp_79 : decode cX5_putUp 79 = .ok (.invokevirtual 225, 3) := by decide +kernel
theorem dX5_putUp_82 : decode cX5_putUp 82 = .ok (.aload_n 0, 1) := by decide +kernel
theorem dX5_putUp_83 : decode cX5_putUp 83 = .ok (.getfield 33, 3) := by decide +kernel
theorem dX5_putUp_86 : decode cX5_putUp 86 = .ok (.aload_n 0, 1) := by decide +kernel
theorem dX5_putUp_87 : decode cX5_putUp 87 = .ok (.getfield 26, 3) := by decide +kernel
theorem dX5_putUp_90 : decode cX5_putUp 90 = .ok (.getfield 228, 3) := by decide +kernel
theorem dX5_putUp_93 : decode cX5_putUp 93 = .ok (.iload_n 1, 1) := by decide +kernel
theorem dX5_putUp_94 : decode cX5_putUp 94 = .ok (.iaload, 1) := by decide +kernel
theorem dX5_putUp_95 : decode cX5_putUp 95 = .ok (.iload_n 2, 1) := by decide +kernel
theorem dX5_putUp_96 : decode cX5_putUp 96 = .ok (.iload 5, 2) := by decide +kernel
theorem dX5_putUp_98 : decode cX5_putUp 98 = .ok (.bipush 10, 2) := by decide +kernel
theorem dX5_putUp_100 : decode cX5_putUp 100 = .ok (.idiv, 1) := by decide +kernel
theorem dX5_putUp_101 : decode cX5_putUp 101 = .ok (.invokevirtual 231, 3) := by decide +kernel
theorem dX5_putUp_104 : decode cX5_putUp 104 = .ok (.return_, 1) := by decide +kernel
set_option maxRecDepth 20000 in
theorem ggX5_layLinen_X2_giverFor : GoodIn wsX5_layLinen wsX2_giverFor := goodIn_r _ [7, 8, 34, 35, 36, 37, 38, 39, 40] (by decide +kernel) (by decide +kernel)
set_option maxRecDepth 20000 in
theorem gX5_layLinen_X2_giverFor : GoodIn wsX5_layLinen (wsV RX5 210 RX2 yX2_giverFor wsX2_giverFor) := goodIn_app (goodIn_of _ (by decide +kernel)) ggX5_layLinen_X2_giverFor
set_option maxRecDepth 20000 in
theorem ggX5_layLinen_X2_chargeForBorrowing : GoodIn wsX5_layLinen wsX2_chargeForBorrowing := goodIn_r _ [12, 13, 34, 35, 36, 37, 38, 39, 40] (by decide +kernel) (by decide +kernel)
set_option maxRecDepth 20000 in
theorem gX5_layLinen_X2_chargeForBorrowing : GoodIn wsX5_layLinen (wsV RX5 233 RX2 yX2_chargeForBorrowing wsX2_chargeForBorrowing) := goodIn_app (goodIn_of _ (by decide +kernel)) ggX5_layLinen_X2_chargeForBorrowing
set_option maxRecDepth 20000 in
theorem ggX5_layLinen_X1_owe : GoodIn wsX5_layLinen wsX1_owe := goodIn_r _ [18, 19, 20, 21, 17, 22, 41, 42] (by decide +kernel) (by decide +kernel)
set_option maxRecDepth 20000 in
theorem gX5_layLinen_X1_owe : GoodIn wsX5_layLinen (wsV RX5 219 RX1 yX1_owe wsX1_owe) := goodIn_app (goodIn_of _ (by decide +kernel)) ggX5_layLinen_X1_owe
set_option maxRecDepth 20000 in
theorem ggX5_layLinen_X2_take : GoodIn wsX5_layLinen wsX2_take := goodIn_r _ [26, 8, 27, 13, 34, 35, 36, 37, 38, 39, 40] (by decide +kernel) (by decide +kernel)
set_option maxRecDepth 20000 in
theorem gX5_layLinen_X2_take : GoodIn wsX5_layLinen (wsV RX5 236 RX2 yX2_take wsX2_take) := goodIn_app (goodIn_of _ (by decide +kernel)) ggX5_layLinen_X2_take
theorem dX5_layLinen_0 : decode cX5_layLinen 0 = .ok (.aload_n 0, 1) := by decide +kernel
theorem dX5_layLinen_1 : decode cX5_layLinen 1 = .ok (.getfield 19, 3) := by decide +kernel
theorem dX5_layLinen_4 : decode cX5_layLinen 4 = .ok (.iload_n 1, 1) := by decide +kernel
theorem dX5_layLinen_5 : decode cX5_layLinen 5 = .ok (.invokevirtual 210, 3) := by decide +kernel
theorem dX5_layLinen_8 : decode cX5_layLinen 8 = .ok (.istore_n 2, 1) := by decide +kernel
theorem dX5_layLinen_9 : decode cX5_layLinen 9 = .ok (.iload_n 2, 1) := by decide +kernel
theorem dX5_layLinen_10 : decode cX5_layLinen 10 = .ok (.iconst (-1), 1) := by decide +kernel
theorem dX5_layLinen_11 : decode cX5_layLinen 11 = .ok (.if_icmp .ne 4, 3) := by decide +kernel
theorem dX5_layLinen_14 : decode cX5_layLinen 14 = .ok (.return_, 1) := by decide +kernel
theorem dX5_layLinen_15 : decode cX5_layLinen 15 = .ok (.iload_n 2, 1) := by decide +kernel
theorem dX5_layLinen_16 : decode cX5_layLinen 16 = .ok (.iload_n 1, 1) := by decide +kernel
theorem dX5_layLinen_17 : decode cX5_layLinen 17 = .ok (.if_icmp .eq 19, 3) := by decide +kernel
theorem dX5_layLinen_20 : decode cX5_layLinen 20 = .ok (.aload_n 0, 1) := by decide +kernel
theorem dX5_layLinen_21 : decode cX5_layLinen 21 = .ok (.getfield 40, 3) := by decide +kernel
theorem dX5_layLinen_24 : decode cX5_layLinen 24 = .ok (.iload_n 1, 1) := by decide +kernel
theorem dX5_layLinen_25 : decode cX5_layLinen 25 = .ok (.iload_n 2, 1) := by decide +kernel
theorem dX5_layLinen_26 : decode cX5_layLinen 26 = .ok (.aload_n 0, 1) := by decide +kernel
theorem dX5_layLinen_27 : decode cX5_layLinen 27 = .ok (.getfield 19, 3) := by decide +kernel
theorem dX5_layLinen_30 : decode cX5_layLinen 30 = .ok (.invokevirtual 233, 3) := by decide +kernel
theorem dX5_layLinen_33 : decode cX5_layLinen 33 = .ok (.invokevirtual 219, 3) := by decide +kernel
theorem dX5_layLinen_36 : decode cX5_layLinen 36 = .ok (.aload_n 0, 1) := by decide +kernel
theorem dX5_layLinen_37 : decode cX5_layLinen 37 = .ok (.getfield 19, 3) := by decide +kernel
theorem dX5_layLinen_40 : decode cX5_layLinen 40 = .ok (.iload_n 1, 1) := by decide +kernel
theorem dX5_layLinen_41 : decode cX5_layLinen 41 = .ok (.iload_n 2, 1) := by decide +kernel
theorem dX5_layLinen_42 : decode cX5_layLinen 42 = .ok (.invokevirtual 236, 3) := by decide +kernel
theorem dX5_layLinen_45 : decode cX5_layLinen 45 = .ok (.return_, 1) := by decide +kernel
set_option maxRecDepth 20000 in
theorem ggX5_burnEarliest_X3_takeFrom : GoodIn wsX5_burnEarliest wsX3_takeFrom := goodIn_r _ [9, 10, 11, 12, 13, 14, 15, 31, 32, 33, 34] (by decide +kernel) (by decide +kernel)
set_option maxRecDepth 20000 in
theorem gX5_burnEarliest_X3_takeFrom : GoodIn wsX5_burnEarliest (wsV RX5 242 RX3 yX3_takeFrom wsX3_takeFrom) := goodIn_app (goodIn_of _ (by decide +kernel)) ggX5_burnEarliest_X3_takeFrom
set_option maxRecDepth 20000 in
theorem ggX5_burnEarliest_X1_owe : GoodIn wsX5_burnEarliest wsX1_owe := goodIn_r _ [20, 21, 22, 23, 19, 24, 35, 36] (by decide +kernel) (by decide +kernel)
set_option maxRecDepth 20000 in
theorem gX5_burnEarliest_X1_owe : GoodIn wsX5_burnEarliest (wsV RX5 219 RX1 yX1_owe wsX1_owe) := goodIn_app (goodIn_of _ (by decide +kernel)) ggX5_burnEarliest_X1_owe
theorem dX5_burnEarliest_0 : decode cX5_burnEarliest 0 = .ok (.iload_n 3, 1) := by decide +kernel
theorem dX5_burnEarliest_1 : decode cX5_burnEarliest 1 = .ok (.istore 4, 2) := by decide +kernel
theorem dX5_burnEarliest_3 : decode cX5_burnEarliest 3 = .ok (.iconst 0, 1) := by decide +kernel
theorem dX5_burnEarliest_4 : decode cX5_burnEarliest 4 = .ok (.istore 5, 2) := by decide +kernel
theorem dX5_burnEarliest_6 : decode cX5_burnEarliest 6 = .ok (.iload 5, 2) := by decide +kernel
theorem dX5_burnEarliest_8 : decode cX5_burnEarliest 8 = .ok (.aload_n 0, 1) := by decide +kernel
theorem dX5_burnEarliest_9 : decode cX5_burnEarliest 9 = .ok (.getfield 33, 3) := by decide +kernel
theorem dX5_burnEarliest_12 : decode cX5_burnEarliest 12 = .ok (.getfield 239, 3) := by decide +kernel
theorem dX5_burnEarliest_15 : decode cX5_burnEarliest 15 = .ok (.if_icmp .ge 69, 3) := by decide +kernel
theorem dX5_burnEarliest_18 : decode cX5_burnEarliest 18 = .ok (.iload 4, 2) := by decide +kernel
theorem dX5_burnEarliest_20 : decode cX5_burnEarliest 20 = .ok (.ifCond .le 64, 3) := by decide +kernel
theorem dX5_burnEarliest_23 : decode cX5_burnEarliest 23 = .ok (.aload_n 0, 1) := by decide +kernel
theorem dX5_burnEarliest_24 : decode cX5_burnEarliest 24 = .ok (.getfield 33, 3) := by decide +kernel
theorem dX5_burnEarliest_27 : decode cX5_burnEarliest 27 = .ok (.iload 5, 2) := by decide +kernel
theorem dX5_burnEarliest_29 : decode cX5_burnEarliest 29 = .ok (.iload_n 1, 1) := by decide +kernel
theorem dX5_burnEarliest_30 : decode cX5_burnEarliest 30 = .ok (.iload 4, 2) := by decide +kernel
theorem dX5_burnEarliest_32 : decode cX5_burnEarliest 32 = .ok (.invokevirtual 242, 3) := by decide +kernel
theorem dX5_burnEarliest_35 : decode cX5_burnEarliest 35 = .ok (.istore 6, 2) := by decide +kernel
theorem dX5_burnEarliest_37 : decode cX5_burnEarliest 37 = .ok (.iload 4, 2) := by decide +kernel
theorem dX5_burnEarliest_39 : decode cX5_burnEarliest 39 = .ok (.iload 6, 2) := by decide +kernel
theorem dX5_burnEarliest_41 : decode cX5_burnEarliest 41 = .ok (.isub, 1) := by decide +kernel
theorem dX5_burnEarliest_42 : decode cX5_burnEarliest 42 = .ok (.istore 4, 2) := by decide +kernel
theorem dX5_burnEarliest_44 : decode cX5_burnEarliest 44 = .ok (.aload_n 0, 1) := by decide +kernel
theorem dX5_burnEarliest_45 : decode cX5_burnEarliest 45 = .ok (.getfield 33, 3) := by decide +kernel
theorem dX5_burnEarliest_48 : decode cX5_burnEarliest 48 = .ok (.getfield 245, 3) := by decide +kernel
theorem dX5_burnEarliest_51 : decode cX5_burnEarliest 51 = .ok (.iload 5, 2) := by decide +kernel
theorem dX5_burnEarliest_53 : decode cX5_burnEarliest 53 = .ok (.iaload, 1) := by decide +kernel
theorem dX5_burnEarliest_54 : decode cX5_burnEarliest 54 = .ok (.iload_n 2, 1) := by decide +kernel
theorem dX5_burnEarliest_55 : decode cX5_burnEarliest 55 = .ok (.if_icmp .eq 23, 3) := by decide +kernel
theorem dX5_burnEarliest_58 : decode cX5_burnEarliest 58 = .ok (.aload_n 0, 1) := by decide +kernel
theorem dX5_burnEarliest_59 : decode cX5_burnEarliest 59 = .ok (.getfield 40, 3) := by decide +kernel
theorem dX5_burnEarliest_62 : decode cX5_burnEarliest 62 = .ok (.aload_n 0, 1) := by decide +kernel
theorem dX5_burnEarliest_63 : decode cX5_burnEarliest 63 = .ok (.getfield 33, 3) := by decide +kernel
theorem dX5_burnEarliest_66 : decode cX5_burnEarliest 66 = .ok (.getfield 245, 3) := by decide +kernel
theorem dX5_burnEarliest_69 : decode cX5_burnEarliest 69 = .ok (.iload 5, 2) := by decide +kernel
theorem dX5_burnEarliest_71 : decode cX5_burnEarliest 71 = .ok (.iaload, 1) := by decide +kernel
theorem dX5_burnEarliest_72 : decode cX5_burnEarliest 72 = .ok (.iload_n 2, 1) := by decide +kernel
theorem dX5_burnEarliest_73 : decode cX5_burnEarliest 73 = .ok (.iload 6, 2) := by decide +kernel
theorem dX5_burnEarliest_75 : decode cX5_burnEarliest 75 = .ok (.invokevirtual 219, 3) := by decide +kernel
theorem dX5_burnEarliest_78 : decode cX5_burnEarliest 78 = .ok (.iinc 5 1, 3) := by decide +kernel
theorem dX5_burnEarliest_81 : decode cX5_burnEarliest 81 = .ok (.goto (-75), 3) := by decide +kernel
theorem dX5_burnEarliest_84 : decode cX5_burnEarliest 84 = .ok (.return_, 1) := by decide +kernel
theorem dX6_init_0 : decode cX6_init 0 = .ok (.aload_n 0, 1) := by decide +kernel
theorem dX6_init_1 : decode cX6_init 1 = .ok (.invokespecial 1, 3) := by decide +kernel
theorem dX6_init_4 : decode cX6_init 4 = .ok (.aload_n 0, 1) := by decide +kernel
theorem dX6_init_5 : decode cX6_init 5 = .ok (.bipush 8, 2) := by decide +kernel
theorem dX6_init_7 : decode cX6_init 7 = .ok (.newarray .int, 2) := by decide +kernel
theorem dX6_init_9 : decode cX6_init 9 = .ok (.putfield 7, 3) := by decide +kernel
theorem dX6_init_12 : decode cX6_init 12 = .ok (.aload_n 0, 1) := by decide +kernel
theorem dX6_init_13 : decode cX6_init 13 = .ok (.bipush 8, 2) := by decide +kernel
theorem dX6_init_15 : decode cX6_init 15 = .ok (.newarray .int, 2) := by decide +kernel
theorem dX6_init_17 : decode cX6_init 17 = .ok (.putfield 13, 3) := by decide +kernel
theorem dX6_init_20 : decode cX6_init 20 = .ok (.aload_n 0, 1) := by decide +kernel
theorem dX6_init_21 : decode cX6_init 21 = .ok (.bipush 8, 2) := by decide +kernel
theorem dX6_init_23 : decode cX6_init 23 = .ok (.newarray .int, 2) := by decide +kernel
theorem dX6_init_25 : decode cX6_init 25 = .ok (.putfield 16, 3) := by decide +kernel
theorem dX6_init_28 : decode cX6_init 28 = .ok (.aload_n 0, 1) := by decide +kernel
theorem dX6_init_29 : decode cX6_init 29 = .ok (.iconst 4, 1) := by decide +kernel
theorem dX6_init_30 : decode cX6_init 30 = .ok (.newarray .int, 2) := by decide +kernel
theorem dX6_init_32 : decode cX6_init 32 = .ok (.putfield 19, 3) := by decide +kernel
theorem dX6_init_35 : decode cX6_init 35 = .ok (.aload_n 0, 1) := by decide +kernel
theorem dX6_init_36 : decode cX6_init 36 = .ok (.iconst 4, 1) := by decide +kernel
theorem dX6_init_37 : decode cX6_init 37 = .ok (.newarray .int, 2) := by decide +kernel
theorem dX6_init_39 : decode cX6_init 39 = .ok (.putfield 22, 3) := by decide +kernel
theorem dX6_init_42 : decode cX6_init 42 = .ok (.aload_n 0, 1) := by decide +kernel
theorem dX6_init_43 : decode cX6_init 43 = .ok (.iconst 4, 1) := by decide +kernel
theorem dX6_init_44 : decode cX6_init 44 = .ok (.newarray .int, 2) := by decide +kernel
theorem dX6_init_46 : decode cX6_init 46 = .ok (.putfield 25, 3) := by decide +kernel
theorem dX6_init_49 : decode cX6_init 49 = .ok (.aload_n 0, 1) := by decide +kernel
theorem dX6_init_50 : decode cX6_init 50 = .ok (.bipush 16, 2) := by decide +kernel
theorem dX6_init_52 : decode cX6_init 52 = .ok (.newarray .int, 2) := by decide +kernel
theorem dX6_init_54 : decode cX6_init 54 = .ok (.putfield 28, 3) := by decide +kernel
theorem dX6_init_57 : decode cX6_init 57 = .ok (.aload_n 0, 1) := by decide +kernel
theorem dX6_init_58 : decode cX6_init 58 = .ok (.sipush 1208, 3) := by decide +kernel
theorem dX6_init_61 : decode cX6_init 61 = .ok (.newarray .int, 2) := by decide +kernel
theorem dX6_init_63 : decode cX6_init 63 = .ok (.putfield 31, 3) := by decide +kernel
theorem dX6_init_66 : decode cX6_init 66 = .ok (.aload_n 0, 1) := by decide +kernel
theorem dX6_init_67 : decode cX6_init 67 = .ok (.sipush 1208, 3) := by decide +kernel
theorem dX6_init_70 : decode cX6_init 70 = .ok (.newarray .int, 2) := by decide +kernel
theorem dX6_init_72 : decode cX6_init 72 = .ok (.putfield 34, 3) := by decide +kernel
theorem dX6_init_75 : decode cX6_init 75 = .ok (.aload_n 0, 1) := by decide +kernel
theorem dX6_init_76 : decode cX6_init 76 = .ok (.bipush 80, 2) := by decide +kernel
theorem dX6_init_78 : decode cX6_init 78 = .ok (.newarray .int, 2) := by decide +kernel
theorem dX6_init_80 : decode cX6_init 80 = .ok (.putfield 37, 3) := by decide +kernel
theorem dX6_init_83 : decode cX6_init 83 = .ok (.aload_n 0, 1) := by decide +kernel
theorem dX6_init_84 : decode cX6_init 84 = .ok (.bipush 80, 2) := by decide +kernel
theorem dX6_init_86 : decode cX6_init 86 = .ok (.newarray .int, 2) := by decide +kernel
theorem dX6_init_88 : decode cX6_init 88 = .ok (.putfield 40, 3) := by decide +kernel
theorem dX6_init_91 : decode cX6_init 91 = .ok (.aload_n 0, 1) := by decide +kernel
theorem dX6_init_92 : decode cX6_init 92 = .ok (.bipush 80, 2) := by decide +kernel
theorem dX6_init_94 : decode cX6_init 94 = .ok (.newarray .int, 2) := by decide +kernel
theorem dX6_init_96 : decode cX6_init 96 = .ok (.putfield 43, 3) := by decide +kernel
theorem dX6_init_99 : decode cX6_init 99 = .ok (.aload_n 0, 1) := by decide +kernel
theorem dX6_init_100 : decode cX6_init 100 = .ok (.bipush 80, 2) := by decide +kernel
theorem dX6_init_102 : decode cX6_init 102 = .ok (.newarray .int, 2) := by decide +kernel
theorem dX6_init_104 : decode cX6_init 104 = .ok (.putfield 46, 3) := by decide +kernel
theorem dX6_init_107 : decode cX6_init 107 = .ok (.aload_n 0, 1) := by decide +kernel
theorem dX6_init_108 : decode cX6_init 108 = .ok (.bipush 80, 2) := by decide +kernel
theorem dX6_init_110 : decode cX6_init 110 = .ok (.newarray .boolean, 2) := by decide +kernel
theorem dX6_init_112 : decode cX6_init 112 = .ok (.putfield 49, 3) := by decide +kernel
theorem dX6_init_115 : decode cX6_init 115 = .ok (.aload_n 0, 1) := by decide +kernel
theorem dX6_init_116 : decode cX6_init 116 = .ok (.bipush 80, 2) := by decide +kernel
theorem dX6_init_118 : decode cX6_init 118 = .ok (.newarray .int, 2) := by decide +kernel
theorem dX6_init_120 : decode cX6_init 120 = .ok (.putfield 53, 3) := by decide +kernel
theorem dX6_init_123 : decode cX6_init 123 = .ok (.aload_n 0, 1) := by decide +kernel
theorem dX6_init_124 : decode cX6_init 124 = .ok (.bipush 80, 2) := by decide +kernel
theorem dX6_init_126 : decode cX6_init 126 = .ok (.newarray .int, 2) := by decide +kernel
theorem dX6_init_128 : decode cX6_init 128 = .ok (.putfield 56, 3) := by decide +kernel
theorem dX6_init_131 : decode cX6_init 131 = .ok (.aload_n 0, 1) := by decide +kernel
theorem dX6_init_132 : decode cX6_init 132 = .ok (.bipush 80, 2) := by decide +kernel
theorem dX6_init_134 : decode cX6_init 134 = .ok (.newarray .int, 2) := by decide +kernel
theorem dX6_init_136 : decode cX6_init 136 = .ok (.putfield 59, 3) := by decide +kernel
theorem dX6_init_139 : decode cX6_init 139 = .ok (.aload_n 0, 1) := by decide +kernel
theorem dX6_init_140 : decode cX6_init 140 = .ok (.bipush 80, 2) := by decide +kernel
theorem dX6_init_142 : decode cX6_init 142 = .ok (.newarray .int, 2) := by decide +kernel
theorem dX6_init_144 : decode cX6_init 144 = .ok (.putfield 62, 3) := by decide +kernel
theorem dX6_init_147 : decode cX6_init 147 = .ok (.iconst 0, 1) := by decide +kernel
theorem dX6_init_148 : decode cX6_init 148 = .ok (.istore_n 1, 1) := by decide +kernel
theorem dX6_init_149 : decode cX6_init 149 = .ok (.iload_n 1, 1) := by decide +kernel
theorem dX6_init_150 : decode cX6_init 150 = .ok (.bipush 8, 2) := by decide +kernel
theorem dX6_init_152 : decode cX6_init 152 = .ok (.if_icmp .ge 17, 3) := by decide +kernel
theorem dX6_init_155 : decode cX6_init 155 = .ok (.aload_n 0, 1) := by decide +kernel
theorem dX6_init_156 : decode cX6_init 156 = .ok (.getfield 13, 3) := by decide +kernel
theorem dX6_init_159 : decode cX6_init 159 = .ok (.iload_n 1, 1) := by decide +kernel
theorem dX6_init_160 : decode cX6_init 160 = .ok (.bipush 10, 2) := by decide +kernel
theorem dX6_init_162 : decode cX6_init 162 = .ok (.iastore, 1) := by decide +kernel
theorem dX6_init_163 : decode cX6_init 163 = .ok (.iinc 1 1, 3) := by decide +kernel
theorem dX6_init_166 : decode cX6_init 166 = .ok (.goto (-17), 3) := by decide +kernel
theorem dX6_init_169 : decode cX6_init 169 = .ok (.return_, 1) := by decide +kernel
theorem dX6_thrown_0 : decode cX6_thrown 0 = .ok (.aload_n 0, 1) := by decide +kernel
theorem dX6_thrown_1 : decode cX6_thrown 1 = .ok (.getfield 65, 3) := by decide +kernel
theorem dX6_thrown_4 : decode cX6_thrown 4 = .ok (.ireturn, 1) := by decide +kernel
theorem dX6_in_0 : decode cX6_in 0 = .ok (.iload_n 0, 1) := by decide +kernel
theorem dX6_in_1 : decode cX6_in 1 = .ok (.iload_n 1, 1) := by decide +kernel
theorem dX6_in_2 : decode cX6_in 2 = .ok (.if_icmp .lt 12, 3) := by decide +kernel
theorem dX6_in_5 : decode cX6_in 5 = .ok (.iload_n 0, 1) := by decide +kernel
theorem dX6_in_6 : decode cX6_in 6 = .ok (.iload_n 2, 1) := by decide +kernel
theorem dX6_in_7 : decode cX6_in 7 = .ok (.if_icmp .gt 7, 3) := by decide +kernel
theorem dX6_in_10 : decode cX6_in 10 = .ok (.iconst 1, 1) := by decide +kernel
theorem dX6_in_11 : decode cX6_in 11 = .ok (.goto 4, 3) := by decide +kernel
theorem dX6_in_14 : decode cX6_in 14 = .ok (.iconst 0, 1) := by decide +kernel
theorem dX6_in_15 : decode cX6_in 15 = .ok (.ireturn, 1) := by decide +kernel
theorem dX6_isFine_0 : decode cX6_isFine 0 = .ok (.aload_n 0, 1) := by decide +kernel
theorem dX6_isFine_1 : decode cX6_isFine 1 = .ok (.iload_n 1, 1) := by decide +kernel
theorem dX6_isFine_2 : decode cX6_isFine 2 = .ok (.putfield 65, 3) := by decide +kernel
theorem dX6_isFine_5 : decode cX6_isFine 5 = .ok (.iload_n 1, 1) := by decide +kernel
theorem dX6_isFine_6 : decode cX6_isFine 6 = .ok (.ifCond .ne 7, 3) := by decide +kernel
theorem dX6_isFine_9 : decode cX6_isFine 9 = .ok (.iconst 1, 1) := by decide +kernel
theorem dX6_isFine_10 : decode cX6_isFine 10 = .ok (.goto 4, 3) := by decide +kernel
theorem dX6_isFine_13 : decode cX6_isFine 13 = .ok (.iconst 0, 1) := by decide +kernel
theorem dX6_isFine_14 : decode cX6_isFine 14 = .ok (.ireturn, 1) := by decide +kernel
set_option maxRecDepth 20000 in
theorem ggX6_isInn_X6_in : GoodIn wsX6_isInn wsX6_in := goodIn_r _ [4] (by decide +kernel) (by decide +kernel)
set_option maxRecDepth 20000 in
theorem gX6_isInn_X6_in : GoodIn wsX6_isInn (va_wsS RX6 69 yX6_in wsX6_in) := goodIn_app (goodIn_of _ (by decide +kernel)) ggX6_isInn_X6_in
theorem dX6_isInn_0 : decode cX6_isInn 0 = .ok (.iload_n 0, 1) := by decide +kernel
theorem dX6_isInn_1 : decode cX6_isInn 1 = .ok (.iconst 0, 1) := by decide +kernel
theorem dX6_isInn_2 : decode cX6_isInn 2 = .ok (.iconst 3, 1) := by decide +kernel
theorem dX6_isInn_3 : decode cX6_isInn 3 = .ok (.invokestatic 69, 3) := by decide +kernel
theorem dX6_isInn_6 : decode cX6_isInn 6 = .ok (.ireturn, 1) := by decide +kernel
set_option maxRecDepth 20000 in
theorem ggX6_isRoom_X6_isInn : GoodIn wsX6_isRoom wsX6_isInn := goodIn_r _ [4, 5, 6, 3, 7] (by decide +kernel) (by decide +kernel)
set_option maxRecDepth 20000 in
theorem gX6_isRoom_X6_isInn : GoodIn wsX6_isRoom (va_wsS RX6 73 yX6_isInn wsX6_isInn) := goodIn_app (goodIn_of _ (by decide +kernel)) ggX6_isRoom_X6_isInn
set_option maxRecDepth 20000 in
theorem ggX6_isRoom_X6_in : GoodIn wsX6_isRoom wsX6_in := goodIn_r _ [7] (by decide +kernel) (by decide +kernel)
set_option maxRecDepth 20000 in
theorem gX6_isRoom_X6_in : GoodIn wsX6_isRoom (va_wsS RX6 69 yX6_in wsX6_in) := goodIn_app (goodIn_of _ (by decide +kernel)) ggX6_isRoom_X6_in
theorem dX6_isRoom_0 : decode cX6_isRoom 0 = .ok (.iload_n 0, 1) := by decide +kernel
theorem dX6_isRoom_1 : decode cX6_isRoom 1 = .ok (.invokestatic 73, 3) := by decide +kernel
theorem dX6_isRoom_4 : decode cX6_isRoom 4 = .ok (.ifCond .eq 16, 3) := by decide +kernel
theorem dX6_isRoom_7 : decode cX6_isRoom 7 = .ok (.iload_n 1, 1) := by decide +kernel
theorem dX6_isRoom_8 : decode cX6_isRoom 8 = .ok (.iconst 0, 1) := by decide +kernel
theorem dX6_isRoom_9 : decode cX6_isRoom 9 = .ok (.iconst 1, 1) := by decide +kernel
theorem dX6_isRoom_10 : decode cX6_isRoom 10 = .ok (.invokestatic 69, 3) := by decide +kernel
theorem dX6_isRoom_13 : decode cX6_isRoom 13 = .ok (.ifCond .eq 7, 3) := by decide +kernel
theorem dX6_isRoom_16 : decode cX6_isRoom 16 = .ok (.iconst 1, 1) := by decide +kernel
theorem dX6_isRoom_17 : decode cX6_isRoom 17 = .ok (.goto 4, 3) := by decide +kernel
theorem dX6_isRoom_20 : decode cX6_isRoom 20 = .ok (.iconst 0, 1) := by decide +kernel
theorem dX6_isRoom_21 : decode cX6_isRoom 21 = .ok (.ireturn, 1) := by decide +kernel
set_option maxRecDepth 20000 in
theorem ggX6_isGuest_X6_in : GoodIn wsX6_isGuest wsX6_in := goodIn_r _ [4] (by decide +kernel) (by decide +kernel)
set_option maxRecDepth 20000 in
theorem gX6_isGuest_X6_in : GoodIn wsX6_isGuest (va_wsS RX6 69 yX6_in wsX6_in) := goodIn_app (goodIn_of _ (by decide +kernel)) ggX6_isGuest_X6_in
theorem dX6_isGuest_0 : decode cX6_isGuest 0 = .ok (.iload_n 0, 1) := by decide +kernel
theorem dX6_isGuest_1 : decode cX6_isGuest 1 = .ok (.iconst 0, 1) := by decide +kernel
theorem dX6_isGuest_2 : decode cX6_isGuest 2 = .ok (.bipush 9, 2) := by decide +kernel
theorem dX6_isGuest_4 : decode cX6_isGuest 4 = .ok (.invokestatic 69, 3) := by decide +kernel
theorem dX6_isGuest_7 : decode cX6_isGuest 7 = .ok (.ireturn, 1) := by decide +kernel
set_option maxRecDepth 20000 in
theorem ggX6_setRooms_X6_isRoom : GoodIn wsX6_setRooms wsX6_isRoom := goodIn_r _ [6, 7, 8, 5, 9, 10, 11, 12] (by decide +kernel) (by decide +kernel)
set_option maxRecDepth 20000 in
theorem gX6_setRooms_X6_isRoom : GoodIn wsX6_setRooms (va_wsS RX6 77 yX6_isRoom wsX6_isRoom) := goodIn_app (goodIn_of _ (by decide +kernel)) ggX6_setRooms_X6_isRoom
set_option maxRecDepth 20000 in
theorem ggX6_setRooms_X6_in : GoodIn wsX6_setRooms wsX6_in := goodIn_r _ [12] (by decide +kernel) (by decide +kernel)
set_option maxRecDepth 20000 in
theorem gX6_setRooms_X6_in : GoodIn wsX6_setRooms (va_wsS RX6 69 yX6_in wsX6_in) := goodIn_app (goodIn_of _ (by decide +kernel)) ggX6_setRooms_X6_in
set_option maxRecDepth 20000 in
theorem ggX6_setRooms_X6_isFine : GoodIn wsX6_setRooms wsX6_isFine := goodIn_r _ [16, 17, 18, 19, 20, 21, 22, 23, 24, 25, 26, 27, 28, 29, 30, 31, 32, 33, 34, 35, 36, 37, 38, 39, 40, 41] (by decide +kernel) (by decide +kernel)
set_option maxRecDepth 20000 in
theorem gX6_setRooms_X6_isFine : GoodIn wsX6_setRooms (wsV RX6 81 RX6 yX6_isFine wsX6_isFine) := goodIn_app (goodIn_of _ (by decide +kernel)) ggX6_setRooms_X6_isFine
theorem dX6_setRooms_0 : decode cX6_setRooms 0 = .ok (.aload_n 0, 1) := by decide +kernel
theorem dX6_setRooms_1 : decode cX6_setRooms 1 = .ok (.iload_n 1, 1) := by decide +kernel
theorem dX6_setRooms_2 : decode cX6_setRooms 2 = .ok (.iload_n 2, 1) := by decide +kernel
theorem dX6_setRooms_3 : decode cX6_setRooms 3 = .ok (.invokestatic 77, 3) := by decide +kernel
theorem dX6_setRooms_6 : decode cX6_setRooms 6 = .ok (.ifCond .ne 7, 3) := by decide +kernel
theorem dX6_setRooms_9 : decode cX6_setRooms 9 = .ok (.iconst 1, 1) := by decide +kernel
theorem dX6_setRooms_10 : decode cX6_setRooms 10 = .ok (.goto 29, 3) := by decide +kernel
theorem dX6_setRooms_13 : decode cX6_setRooms 13 = .ok (.iload_n 3, 1) := by decide +kernel
theorem dX6_setRooms_14 : decode cX6_setRooms 14 = .ok (.iconst 0, 1) := by decide +kernel
theorem dX6_setRooms_15 : decode cX6_setRooms 15 = .ok (.bipush 10, 2) := by decide +kernel
theorem dX6_setRooms_17 : decode cX6_setRooms 17 = .ok (.invokestatic 69, 3) := by decide +kernel
theorem dX6_setRooms_20 : decode cX6_setRooms 20 = .ok (.ifCond .eq 14, 3) := by decide +kernel
theorem dX6_setRooms_23 : decode cX6_setRooms 23 = .ok (.iload 4, 2) := by decide +kernel
theorem dX6_setRooms_25 : decode cX6_setRooms 25 = .ok (.iconst 1, 1) := by decide +kernel
theorem dX6_setRooms_26 : decode cX6_setRooms 26 = .ok (.bipush 100, 2) := by decide +kernel
theorem dX6_setRooms_28 : decode cX6_setRooms 28 = .ok (.invokestatic 69, 3) := by decide +kernel
theorem dX6_setRooms_31 : decode cX6_setRooms 31 = .ok (.ifCond .ne 7, 3) := by decide +kernel
theorem dX6_setRooms_34 : decode cX6_setRooms 34 = .ok (.iconst 2, 1) := by decide +kernel
theorem dX6_setRooms_35 : decode cX6_setRooms 35 = .ok (.goto 4, 3) := by decide +kernel
theorem dX6_setRooms_38 : decode cX6_setRooms 38 = .ok (.iconst 0, 1) := by decide +kernel
theorem dX6_setRooms_39 : decode cX6_setRooms 39 = .ok (.invokevirtual 81, 3) := by decide +kernel
theorem dX6_setRooms_42 : decode cX6_setRooms 42 = .ok (.ifCond .ne 5, 3) := by decide +kernel
theorem dX6_setRooms_45 : decode cX6_setRooms 45 = .ok (.iconst 0, 1) := by decide +kernel
theorem dX6_setRooms_46 : decode cX6_setRooms 46 = .ok (.ireturn, 1) := by decide +kernel
theorem dX6_setRooms_47 : decode cX6_setRooms 47 = .ok (.aload_n 0, 1) := by decide +kernel
theorem dX6_setRooms_48 : decode cX6_setRooms 48 = .ok (.getfield 7, 3) := by decide +kernel
theorem dX6_setRooms_51 : decode cX6_setRooms 51 = .ok (.iconst 2, 1) := by decide +kernel
theorem dX6_setRooms_52 : decode cX6_setRooms 52 = .ok (.iload_n 1, 1) := by decide +kernel
theorem dX6_setRooms_53 : decode cX6_setRooms 53 = .ok (.imul, 1) := by decide +kernel
theorem dX6_setRooms_54 : decode cX6_setRooms 54 = .ok (.iload_n 2, 1) := by decide +kernel
theorem dX6_setRooms_55 : decode cX6_setRooms 55 = .ok (.iadd, 1) := by decide +kernel
theorem dX6_setRooms_56 : decode cX6_setRooms 56 = .ok (.iaload, 1) := by decide +kernel
theorem dX6_setRooms_57 : decode cX6_setRooms 57 = .ok (.istore 5, 2) := by decide +kernel
theorem dX6_setRooms_59 : decode cX6_setRooms 59 = .ok (.aload_n 0, 1) := by decide +kernel
theorem dX6_setRooms_60 : decode cX6_setRooms 60 = .ok (.getfield 7, 3) := by decide +kernel
theorem dX6_setRooms_63 : decode cX6_setRooms 63 = .ok (.iconst 2, 1) := by decide +kernel
theorem dX6_setRooms_64 : decode cX6_setRooms 64 = .ok (.iload_n 1, 1) := by decide +kernel
theorem dX6_setRooms_65 : decode cX6_setRooms 65 = .ok (.imul, 1) := by decide +kernel
theorem dX6_setRooms_66 : decode cX6_setRooms 66 = .ok (.iload_n 2, 1) := by decide +kernel
theorem dX6_setRooms_67 : decode cX6_setRooms 67 = .ok (.iadd, 1) := by decide +kernel
theorem dX6_setRooms_68 : decode cX6_setRooms 68 = .ok (.iload_n 3, 1) := by decide +kernel
theorem dX6_setRooms_69 : decode cX6_setRooms 69 = .ok (.iastore, 1) := by decide +kernel
theorem dX6_setRooms_70 : decode cX6_setRooms 70 = .ok (.aload_n 0, 1) := by decide +kernel
theorem dX6_setRooms_71 : decode cX6_setRooms 71 = .ok (.getfield 13, 3) := by decide +kernel
theorem dX6_setRooms_74 : decode cX6_setRooms 74 = .ok (.iconst 2, 1) := by decide +kernel
theorem dX6_setRooms_75 : decode cX6_setRooms 75 = .ok (.iload_n 1, 1) := by decide +kernel
theorem dX6_setRooms_76 : decode cX6_setRooms 76 = .ok (.imul, 1) := by decide +kernel
theorem dX6_setRooms_77 : decode cX6_setRooms 77 = .ok (.iload_n 2, 1) := by decide +kernel
theorem dX6_setRooms_78 : decode cX6_setRooms 78 = .ok (.iadd, 1) := by decide +kernel
theorem dX6_setRooms_79 : decode cX6_setRooms 79 = .ok (.iload 4, 2) := by decide +kernel
theorem dX6_setRooms_81 : decode cX6_setRooms 81 = .ok (.iastore, 1) := by decide +kernel
theorem dX6_setRooms_82 : decode cX6_setRooms 82 = .ok (.iload 5, 2) := by decide +kernel
theorem dX6_setRooms_84 : decode cX6_setRooms 84 = .ok (.ireturn, 1) := by decide +kernel
set_option maxRecDepth 20000 in
theorem ggX6_buyLinen_X6_isInn : GoodIn wsX6_buyLinen wsX6_isInn := goodIn_r _ [5, 6, 7, 4, 8] (by decide +kernel) (by decide +kernel)
set_option maxRecDepth 20000 in
theorem gX6_buyLinen_X6_isInn : GoodIn wsX6_buyLinen (va_wsS RX6 73 yX6_isInn wsX6_isInn) := goodIn_app (goodIn_of _ (by decide +kernel)) ggX6_buyLinen_X6_isInn
set_option maxRecDepth 20000 in
theorem ggX6_buyLinen_X6_in : GoodIn wsX6_buyLinen wsX6_in := goodIn_r _ [8] (by decide +kernel) (by decide +kernel)
set_option maxRecDepth 20000 in
theorem gX6_buyLinen_X6_in : GoodIn wsX6_buyLinen (va_wsS RX6 69 yX6_in wsX6_in) := goodIn_app (goodIn_of _ (by decide +kernel)) ggX6_buyLinen_X6_in
set_option maxRecDepth 20000 in
theorem ggX6_buyLinen_X6_isFine : GoodIn wsX6_buyLinen wsX6_isFine := goodIn_r _ [12, 13, 14, 15, 16, 17, 18, 19, 20, 21, 22, 23, 24, 25, 26, 27, 28, 29, 30, 31, 32, 33, 34, 35, 36, 37] (by decide +kernel) (by decide +kernel)
set_option maxRecDepth 20000 in
theorem gX6_buyLinen_X6_isFine : GoodIn wsX6_buyLinen (wsV RX6 81 RX6 yX6_isFine wsX6_isFine) := goodIn_app (goodIn_of _ (by decide +kernel)) ggX6_buyLinen_X6_isFine
theorem dX6_buyLinen_0 : decode cX6_buyLinen 0 = .ok (.aload_n 0, 1) := by decide +kernel
theorem dX6_buyLinen_1 : decode cX6_buyLinen 1 = .ok (.iload_n 1, 1) := by decide +kernel
theorem dX6_buyLinen_2 : decode cX6_buyLinen 2 = .ok (.invokestatic 73, 3) := by decide +kernel
theorem dX6_buyLinen_5 : decode cX6_buyLinen 5 = .ok (.ifCond .ne 7, 3) := by decide +kernel
theorem dX6_buyLinen_8 : decode cX6_buyLinen 8 = .ok (.iconst 1, 1) := by decide +kernel
theorem dX6_buyLinen_9 : decode cX6_buyLinen 9 = .ok (.goto 18, 3) := by decide +kernel
theorem dX6_buyLinen_12 : decode cX6_buyLinen 12 = .ok (.iload_n 2, 1) := by decide +kernel
theorem dX6_buyLinen_13 : decode cX6_buyLinen 13 = .ok (.iconst 1, 1) := by decide +kernel
theorem dX6_buyLinen_14 : decode cX6_buyLinen 14 = .ok (.bipush 20, 2) := by decide +kernel
theorem dX6_buyLinen_16 : decode cX6_buyLinen 16 = .ok (.invokestatic 69, 3) := by decide +kernel
theorem dX6_buyLinen_19 : decode cX6_buyLinen 19 = .ok (.ifCond .ne 7, 3) := by decide +kernel
theorem dX6_buyLinen_22 : decode cX6_buyLinen 22 = .ok (.iconst 2, 1) := by decide +kernel
theorem dX6_buyLinen_23 : decode cX6_buyLinen 23 = .ok (.goto 4, 3) := by decide +kernel
theorem dX6_buyLinen_26 : decode cX6_buyLinen 26 = .ok (.iconst 0, 1) := by decide +kernel
theorem dX6_buyLinen_27 : decode cX6_buyLinen 27 = .ok (.invokevirtual 81, 3) := by decide +kernel
theorem dX6_buyLinen_30 : decode cX6_buyLinen 30 = .ok (.ifCond .ne 5, 3) := by decide +kernel
theorem dX6_buyLinen_33 : decode cX6_buyLinen 33 = .ok (.iconst 0, 1) := by decide +kernel
theorem dX6_buyLinen_34 : decode cX6_buyLinen 34 = .ok (.ireturn, 1) := by decide +kernel
theorem dX6_buyLinen_35 : decode cX6_buyLinen 35 = .ok (.aload_n 0, 1) := by decide +kernel
theorem dX6_buyLinen_36 : decode cX6_buyLinen 36 = .ok (.getfield 19, 3) := by decide +kernel
theorem dX6_buyLinen_39 : decode cX6_buyLinen 39 = .ok (.iload_n 1, 1) := by decide +kernel
theorem dX6_buyLinen_40 : decode cX6_buyLinen 40 = .ok (.dup2, 1) := by decide +kernel
theorem dX6_buyLinen_41 : decode cX6_buyLinen 41 = .ok (.iaload, 1) := by decide +kernel
theorem dX6_buyLinen_42 : decode cX6_buyLinen 42 = .ok (.iload_n 2, 1) := by decide +kernel
theorem dX6_buyLinen_43 : decode cX6_buyLinen 43 = .ok (.iadd, 1) := by decide +kernel
theorem dX6_buyLinen_44 : decode cX6_buyLinen 44 = .ok (.iastore, 1) := by decide +kernel
theorem dX6_buyLinen_45 : decode cX6_buyLinen 45 = .ok (.aload_n 0, 1) := by decide +kernel
theorem dX6_buyLinen_46 : decode cX6_buyLinen 46 = .ok (.getfield 19, 3) := by decide +kernel
theorem dX6_buyLinen_49 : decode cX6_buyLinen 49 = .ok (.iload_n 1, 1) := by decide +kernel
theorem dX6_buyLinen_50 : decode cX6_buyLinen 50 = .ok (.iaload, 1) := by decide +kernel
theorem dX6_buyLinen_51 : decode cX6_buyLinen 51 = .ok (.ireturn, 1) := by decide +kernel
theorem dX6_setBroken_0 : decode cX6_setBroken 0 = .ok (.aload_n 0, 1) := by decide +kernel
theorem dX6_setBroken_1 : decode cX6_setBroken 1 = .ok (.iconst 0, 1) := by decide +kernel
theorem dX6_setBroken_2 : decode cX6_setBroken 2 = .ok (.putfield 65, 3) := by decide +kernel
theorem dX6_setBroken_5 : decode cX6_setBroken 5 = .ok (.aload_n 0, 1) := by decide +kernel
theorem dX6_setBroken_6 : decode cX6_setBroken 6 = .ok (.getfield 84, 3) := by decide +kernel
theorem dX6_setBroken_9 : decode cX6_setBroken 9 = .ok (.istore_n 2, 1) := by decide +kernel
theorem dX6_setBroken_10 : decode cX6_setBroken 10 = .ok (.aload_n 0, 1) := by decide +kernel
theorem dX6_setBroken_11 : decode cX6_setBroken 11 = .ok (.iload_n 1, 1) := by decide +kernel
theorem dX6_setBroken_12 : decode cX6_setBroken 12 = .ok (.putfield 84, 3) := by decide +kernel
theorem dX6_setBroken_15 : decode cX6_setBroken 15 = .ok (.iload_n 2, 1) := by decide +kernel
theorem dX6_setBroken_16 : decode cX6_setBroken 16 = .ok (.ireturn, 1) := by decide +kernel
theorem dX6_extraOf_0 : decode cX6_extraOf 0 = .ok (.iconst 0, 1) := by decide +kernel
theorem dX6_extraOf_1 : decode cX6_extraOf 1 = .ok (.istore_n 2, 1) := by decide +kernel
theorem dX6_extraOf_2 : decode cX6_extraOf 2 = .ok (.aload_n 0, 1) := by decide +kernel
theorem dX6_extraOf_3 : decode cX6_extraOf 3 = .ok (.getfield 88, 3) := by decide +kernel
theorem dX6_extraOf_6 : decode cX6_extraOf 6 = .ok (.iconst 4, 1) := by decide +kernel
theorem dX6_extraOf_7 : decode cX6_extraOf 7 = .ok (.isub, 1) := by decide +kernel
theorem dX6_extraOf_8 : decode cX6_extraOf 8 = .ok (.istore_n 3, 1) := by decide +kernel
theorem dX6_extraOf_9 : decode cX6_extraOf 9 = .ok (.iload_n 3, 1) := by decide +kernel
theorem dX6_extraOf_10 : decode cX6_extraOf 10 = .ok (.aload_n 0, 1) := by decide +kernel
theorem dX6_extraOf_11 : decode cX6_extraOf 11 = .ok (.getfield 88, 3) := by decide +kernel
theorem dX6_extraOf_14 : decode cX6_extraOf 14 = .ok (.if_icmp .ge 30, 3) := by decide +kernel
theorem dX6_extraOf_17 : decode cX6_extraOf 17 = .ok (.iload_n 2, 1) := by decide +kernel
theorem dX6_extraOf_18 : decode cX6_extraOf 18 = .ok (.iload_n 3, 1) := by decide +kernel
theorem dX6_extraOf_19 : decode cX6_extraOf 19 = .ok (.ifCond .ge 7, 3) := by decide +kernel
theorem dX6_extraOf_22 : decode cX6_extraOf 22 = .ok (.iconst 0, 1) := by decide +kernel
theorem dX6_extraOf_23 : decode cX6_extraOf 23 = .ok (.goto 13, 3) := by decide +kernel
theorem dX6_extraOf_26 : decode cX6_extraOf 26 = .ok (.aload_n 0, 1) := by decide +kernel
theorem dX6_extraOf_27 : decode cX6_extraOf 27 = .ok (.getfield 34, 3) := by decide +kernel
theorem dX6_extraOf_30 : decode cX6_extraOf 30 = .ok (.iconst 4, 1) := by decide +kernel
theorem dX6_extraOf_31 : decode cX6_extraOf 31 = .ok (.iload_n 3, 1) := by decide +kernel
theorem dX6_extraOf_32 : decode cX6_extraOf 32 = .ok (.imul, 1) := by decide +kernel
theorem dX6_extraOf_33 : decode cX6_extraOf 33 = .ok (.iload_n 1, 1) := by decide +kernel
theorem dX6_extraOf_34 : decode cX6_extraOf 34 = .ok (.iadd, 1) := by decide +kernel
theorem dX6_extraOf_35 : decode cX6_extraOf 35 = .ok (.iaload, 1) := by decide +kernel
theorem dX6_extraOf_36 : decode cX6_extraOf 36 = .ok (.iadd, 1) := by decide +kernel
theorem dX6_extraOf_37 : decode cX6_extraOf 37 = .ok (.istore_n 2, 1) := by decide +kernel
theorem dX6_extraOf_38 : decode cX6_extraOf 38 = .ok (.iinc 3 1, 3) := by decide +kernel
theorem dX6_extraOf_41 : decode cX6_extraOf 41 = .ok (.goto (-32), 3) := by decide +kernel
theorem dX6_extraOf_44 : decode cX6_extraOf 44 = .ok (.iload_n 2, 1) := by decide +kernel
theorem dX6_extraOf_45 : decode cX6_extraOf 45 = .ok (.iconst 4, 1) := by decide +kernel
theorem dX6_extraOf_46 : decode cX6_extraOf 46 = .ok (.idiv, 1) := by decide +kernel
theorem dX6_extraOf_47 : decode cX6_extraOf 47 = .ok (.ireturn, 1) := by decide +kernel
set_option maxRecDepth 20000 in
theorem ggX6_book_X6_isGuest : GoodIn wsX6_book wsX6_isGuest := goodIn_r _ [12, 13, 14, 11, 15] (by decide +kernel) (by decide +kernel)
set_option maxRecDepth 20000 in
theorem gX6_book_X6_isGuest : GoodIn wsX6_book (va_wsS RX6 91 yX6_isGuest wsX6_isGuest) := goodIn_app (goodIn_of _ (by decide +kernel)) ggX6_book_X6_isGuest
set_option maxRecDepth 20000 in
theorem ggX6_book_X6_isRoom : GoodIn wsX6_book wsX6_isRoom := goodIn_r _ [18, 19, 20, 11, 21, 13, 14, 15] (by decide +kernel) (by decide +kernel)
set_option maxRecDepth 20000 in
theorem gX6_book_X6_isRoom : GoodIn wsX6_book (va_wsS RX6 77 yX6_isRoom wsX6_isRoom) := goodIn_app (goodIn_of _ (by decide +kernel)) ggX6_book_X6_isRoom
set_option maxRecDepth 20000 in
theorem ggX6_book_X6_extraOf : GoodIn wsX6_book wsX6_extraOf := goodIn_r _ [25, 1, 26, 32, 33, 34, 35, 36, 37, 38, 39, 40, 41, 42, 43, 44, 45, 46, 47, 48, 49, 50, 51, 52, 53, 54, 55] (by decide +kernel) (by decide +kernel)
set_option maxRecDepth 20000 in
theorem gX6_book_X6_extraOf : GoodIn wsX6_book (wsV RX6 97 RX6 yX6_extraOf wsX6_extraOf) := goodIn_app (goodIn_of _ (by decide +kernel)) ggX6_book_X6_extraOf
set_option maxRecDepth 20000 in
theorem ggX6_book_X6_isFine : GoodIn wsX6_book wsX6_isFine := goodIn_r _ [30, 31, 32, 33, 34, 35, 36, 37, 38, 39, 40, 41, 42, 43, 44, 45, 46, 47, 48, 49, 50, 51, 52, 53, 54, 55] (by decide +kernel) (by decide +kernel)
set_option maxRecDepth 20000 in
theorem gX6_book_X6_isFine : GoodIn wsX6_book (wsV RX6 81 RX6 yX6_isFine wsX6_isFine) := goodIn_app (goodIn_of _ (by decide +kernel)) ggX6_book_X6_isFine
theorem dX6_book_0 : decode cX6_book 0 = .ok (.iload_n 1, 1) := by decide +kernel
theorem dX6_book_1 : decode cX6_book 1 = .ok (.invokestatic 91, 3) := by decide +kernel
theorem dX6_book_4 : decode cX6_book 4 = .ok (.ifCond .eq 11, 3) := by decide +kernel
theorem dX6_book_7 : decode cX6_book 7 = .ok (.iload_n 2, 1) := by decide +kernel
theorem dX6_book_8 : decode cX6_book 8 = .ok (.iload_n 3, 1) := by decide +kernel
theorem dX6_book_9 : decode cX6_book 9 = .ok (.invokestatic 77, 3) := by decide +kernel
theorem dX6_book_12 : decode cX6_book 12 = .ok (.ifCond .ne 7, 3) := by decide +kernel
theorem dX6_book_15 : decode cX6_book 15 = .ok (.iconst 1, 1) := by decide +kernel
theorem dX6_book_16 : decode cX6_book 16 = .ok (.goto 42, 3) := by decide +kernel
theorem dX6_book_19 : decode cX6_book 19 = .ok (.iload 4, 2) := by decide +kernel
theorem dX6_book_21 : decode cX6_book 21 = .ok (.aload_n 0, 1) := by decide +kernel
theorem dX6_book_22 : decode cX6_book 22 = .ok (.getfield 88, 3) := by decide +kernel
theorem dX6_book_25 : decode cX6_book 25 = .ok (.if_icmp .lt 15, 3) := by decide +kernel
theorem dX6_book_28 : decode cX6_book 28 = .ok (.iload 4, 2) := by decide +kernel
theorem dX6_book_30 : decode cX6_book 30 = .ok (.aload_n 0, 1) := by decide +kernel
theorem dX6_book_31 : decode cX6_book 31 = .ok (.getfield 88, 3) := by decide +kernel
theorem dX6_book_34 : decode cX6_book 34 = .ok (.isub, 1) := by decide +kernel
theorem dX6_book_35 : decode cX6_book 35 = .ok (.bipush 10, 2) := by decide +kernel
theorem dX6_book_37 : decode cX6_book 37 = .ok (.if_icmp .le 7, 3) := by decide +kernel
theorem dX6_book_40 : decode cX6_book 40 = .ok (.iconst 2, 1) := by decide +kernel
theorem dX6_book_41 : decode cX6_book 41 = .ok (.goto 17, 3) := by decide +kernel
theorem dX6_book_44 : decode cX6_book 44 = .ok (.aload_n 0, 1) := by decide +kernel
theorem dX6_book_45 : decode cX6_book 45 = .ok (.getfield 94, 3) := by decide +kernel
theorem dX6_book_48 : decode cX6_book 48 = .ok (.bipush 80, 2) := by decide +kernel
theorem dX6_book_50 : decode cX6_book 50 = .ok (.if_icmp .ne 7, 3) := by decide +kernel
theorem dX6_book_53 : decode cX6_book 53 = .ok (.iconst 3, 1) := by decide +kernel
theorem dX6_book_54 : decode cX6_book 54 = .ok (.goto 4, 3) := by decide +kernel
theorem dX6_book_57 : decode cX6_book 57 = .ok (.iconst 0, 1) := by decide +kernel
theorem dX6_book_58 : decode cX6_book 58 = .ok (.istore 5, 2) := by decide +kernel
theorem dX6_book_60 : decode cX6_book 60 = .ok (.iconst 0, 1) := by decide +kernel
theorem dX6_book_61 : decode cX6_book 61 = .ok (.istore 6, 2) := by decide +kernel
theorem dX6_book_63 : decode cX6_book 63 = .ok (.iconst 0, 1) := by decide +kernel
theorem dX6_book_64 : decode cX6_book 64 = .ok (.istore 7, 2) := by decide +kernel
theorem dX6_book_66 : decode cX6_book 66 = .ok (.iload 7, 2) := by decide +kernel
theorem dX6_book_68 : decode cX6_book 68 = .ok (.aload_n 0, 1) := by decide +kernel
theorem dX6_book_69 : decode cX6_book 69 = .ok (.getfield 94, 3) := by decide +kernel
theorem dX6_book_72 : decode cX6_book 72 = .ok (.if_icmp .ge 53, 3) := by decide +kernel
theorem dX6_book_75 : decode cX6_book 75 = .ok (.iload 6, 2) := by decide +kernel
theorem dX6_book_77 : decode cX6_book 77 = .ok (.aload_n 0, 1) := by decide +kernel
theorem dX6_book_78 : decode cX6_book 78 = .ok (.getfield 40, 3) := by decide +kernel
theorem dX6_book_81 : decode cX6_book 81 = .ok (.iload 7, 2) := by decide +kernel
theorem dX6_book_83 : decode cX6_book 83 = .ok (.iaload, 1) := by decide +kernel
theorem dX6_book_84 : decode cX6_book 84 = .ok (.iload_n 2, 1) := by decide +kernel
theorem dX6_book_85 : decode cX6_book 85 = .ok (.if_icmp .ne 30, 3) := by decide +kernel
theorem dX6_book_88 : decode cX6_book 88 = .ok (.aload_n 0, 1) := by decide +kernel
theorem dX6_book_89 : decode cX6_book 89 = .ok (.getfield 43, 3) := by decide +kernel
theorem dX6_book_92 : decode cX6_book 92 = .ok (.iload 7, 2) := by decide +kernel
theorem dX6_book_94 : decode cX6_book 94 = .ok (.iaload, 1) := by decide +kernel
theorem dX6_book_95 : decode cX6_book 95 = .ok (.iload_n 3, 1) := by decide +kernel
theorem dX6_book_96 : decode cX6_book 96 = .ok (.if_icmp .ne 19, 3) := by decide +kernel
theorem dX6_book_99 : decode cX6_book 99 = .ok (.aload_n 0, 1) := by decide +kernel
theorem dX6_book_100 : decode cX6_book 100 = .ok (.getfield 46, 3) := by decide +kernel
theorem dX6_book_103 : decode cX6_book 103 = .ok (.iload 7, 2) := by decide +kernel
theorem dX6_book_105 : decode cX6_book 105 = .ok (.iaload, 1) := by decide +kernel
theorem dX6_book_106 : decode cX6_book 106 = .ok (.iload 4, 2) := by decide +kernel
theorem dX6_book_108 : decode cX6_book 108 = .ok (.if_icmp .ne 7, 3) := by decide +kernel
theorem dX6_book_111 : decode cX6_book 111 = .ok (.iconst 1, 1) := by decide +kernel
theorem dX6_book_112 : decode cX6_book 112 = .ok (.goto 4, 3) := by decide +kernel
theorem dX6_book_115 : decode cX6_book 115 = .ok (.iconst 0, 1) := by decide +kernel
theorem dX6_book_116 : decode cX6_book 116 = .ok (.iadd, 1) := by decide +kernel
theorem dX6_book_117 : decode cX6_book 117 = .ok (.istore 6, 2) := by decide +kernel
theorem dX6_book_119 : decode cX6_book 119 = .ok (.iinc 7 1, 3) := by decide +kernel
theorem dX6_book_122 : decode cX6_book 122 = .ok (.goto (-56), 3) := by decide +kernel
theorem dX6_book_125 : decode cX6_book 125 = .ok (.aload_n 0, 1) := by decide +kernel
theorem dX6_book_126 : decode cX6_book 126 = .ok (.iload 5, 2) := by decide +kernel
theorem dX6_book_128 : decode cX6_book 128 = .ok (.ifCond .ne 28, 3) := by decide +kernel
theorem dX6_book_131 : decode cX6_book 131 = .ok (.iload 6, 2) := by decide +kernel
theorem dX6_book_133 : decode cX6_book 133 = .ok (.aload_n 0, 1) := by decide +kernel
theorem dX6_book_134 : decode cX6_book 134 = .ok (.getfield 7, 3) := by decide +kernel
theorem dX6_book_137 : decode cX6_book 137 = .ok (.iconst 2, 1) := by decide +kernel
theorem dX6_book_138 : decode cX6_book 138 = .ok (.iload_n 2, 1) := by decide +kernel
theorem dX6_book_139 : decode cX6_book 139 = .ok (.imul, 1) := by decide +kernel
theorem dX6_book_140 : decode cX6_book 140 = .ok (.iload_n 3, 1) := by decide +kernel
theorem dX6_book_141 : decode cX6_book 141 = .ok (.iadd, 1) := by decide +kernel
theorem dX6_book_142 : decode cX6_book 142 = .ok (.iaload, 1) := by decide +kernel
theorem dX6_book_143 : decode cX6_book 143 = .ok (.aload_n 0, 1) := by decide +kernel
theorem dX6_book_144 : decode cX6_book 144 = .ok (.iload_n 2, 1) := by decide +kernel
theorem dX6_book_145 : decode cX6_book 145 = .ok (.invokevirtual 97, 3) := by decide +kernel
theorem dX6_book_148 : decode cX6_book 148 = .ok (.iadd, 1) := by decide +kernel
theorem dX6_book_149 : decode cX6_book 149 = .ok (.if_icmp .lt 7, 3) := by decide +kernel
theorem dX6_book_152 : decode cX6_book 152 = .ok (.iconst 3, 1) := by decide +kernel
theorem dX6_book_153 : decode cX6_book 153 = .ok (.goto 5, 3) := by decide +kernel
theorem dX6_book_156 : decode cX6_book 156 = .ok (.iload 5, 2) := by decide +kernel
theorem dX6_book_158 : decode cX6_book 158 = .ok (.invokevirtual 81, 3) := by decide +kernel
theorem dX6_book_161 : decode cX6_book 161 = .ok (.ifCond .ne 5, 3) := by decide +kernel
theorem dX6_book_164 : decode cX6_book 164 = .ok (.iconst 0, 1) := by decide +kernel
theorem dX6_book_165 : decode cX6_book 165 = .ok (.ireturn, 1) := by decide +kernel
theorem dX6_book_166 : decode cX6_book 166 = .ok (.aload_n 0, 1) := by decide +kernel
theorem dX6_book_167 : decode cX6_book 167 = .ok (.getfield 37, 3) := by decide +kernel
theorem dX6_book_170 : decode cX6_book 170 = .ok (.aload_n 0, 1) := by decide +kernel
theorem dX6_book_171 : decode cX6_book 171 = .ok (.getfield 94, 3) := by decide +kernel
theorem dX6_book_174 : decode cX6_book 174 = .ok (.iload_n 1, 1) := by decide +kernel
theorem dX6_book_175 : decode cX6_book 175 = .ok (.iastore, 1) := by decide +kernel
theorem dX6_book_176 : decode cX6_book 176 = .ok (.aload_n 0, 1) := by decide +kernel
theorem dX6_book_177 : decode cX6_book 177 = .ok (.getfield 40, 3) := by decide +kernel
theorem dX6_book_180 : decode cX6_book 180 = .ok (.aload_n 0, 1) := by decide +kernel
theorem dX6_book_181 : decode cX6_book 181 = .ok (.getfield 94, 3) := by decide +kernel
theorem dX6_book_184 : decode cX6_book 184 = .ok (.iload_n 2, 1) := by decide +kernel
theorem dX6_book_185 : decode cX6_book 185 = .ok (.iastore, 1) := by decide +kernel
theorem dX6_book_186 : decode cX6_book 186 = .ok (.aload_n 0, 1) := by decide +kernel
theorem dX6_book_187 : decode cX6_book 187 = .ok (.getfield 43, 3) := by decide +kernel
theorem dX6_book_190 : decode cX6_book 190 = .ok (.aload_n 0, 1) := by decide +kernel
theorem dX6_book_191 : decode cX6_book 191 = .ok (.getfield 94, 3) := by decide +kernel
theorem dX6_book_194 : decode cX6_book 194 = .ok (.iload_n 3, 1) := by decide +kernel
theorem dX6_book_195 : decode cX6_book 195 = .ok (.iastore, 1) := by decide +kernel
theorem dX6_book_196 : decode cX6_book 196 = .ok (.aload_n 0, 1) := by decide +kernel
theorem dX6_book_197 : decode cX6_book 197 = .ok (.getfield 46, 3) := by decide +kernel
theorem dX6_book_200 : decode cX6_book 200 = .ok (.aload_n 0, 1) := by decide +kernel
theorem dX6_book_201 : decode cX6_book 201 = .ok (.getfield 94, 3) := by decide +kernel
theorem dX6_book_204 : decode cX6_book 204 = .ok (.iload 4, 2) := by decide +kernel
theorem dX6_book_206 : decode cX6_book 206 = .ok (.iastore, 1) := by decide +kernel
theorem dX6_book_207 : decode cX6_book 207 = .ok (.aload_n 0, 1) := by decide +kernel
theorem dX6_book_208 : decode cX6_book 208 = .ok (.getfield 53, 3) := by decide +kernel
theorem dX6_book_211 : decode cX6_book 211 = .ok (.aload_n 0, 1) := by decide +kernel
theorem dX6_book_212 : decode cX6_book 212 = .ok (.getfield 94, 3) := by decide +kernel
theorem dX6_book_215 : decode cX6_book 215 = .ok (.iconst (-1), 1) := by decide +kernel
theorem dX6_book_216 : decode cX6_book 216 = .ok (.iastore, 1) := by decide +kernel
theorem dX6_book_217 : decode cX6_book 217 = .ok (.aload_n 0, 1) := by decide +kernel
theorem dX6_book_218 : decode cX6_book 218 = .ok (.dup, 1) := by decide +kernel
theorem dX6_book_219 : decode cX6_book 219 = .ok (.getfield 94, 3) := by decide +kernel
theorem dX6_book_222 : decode cX6_book 222 = .ok (.iconst 1, 1) := by decide +kernel
theorem dX6_book_223 : decode cX6_book 223 = .ok (.iadd, 1) := by decide +kernel
theorem dX6_book_224 : decode cX6_book 224 = .ok (.putfield 94, 3) := by decide +kernel
theorem dX6_book_227 : decode cX6_book 227 = .ok (.aload_n 0, 1) := by decide +kernel
theorem dX6_book_228 : decode cX6_book 228 = .ok (.getfield 94, 3) := by decide +kernel
theorem dX6_book_231 : decode cX6_book 231 = .ok (.iconst 1, 1) := by decide +kernel
theorem dX6_book_232 : decode cX6_book 232 = .ok (.isub, 1) := by decide +kernel
theorem dX6_book_233 : decode cX6_book 233 = .ok (.ireturn, 1) := by decide +kernel
theorem dX6_distance_0 : decode cX6_distance 0 = .ok (.iload_n 0, 1) := by decide +kernel
theorem dX6_distance_1 : decode cX6_distance 1 = .ok (.iload_n 1, 1) := by decide +kernel
theorem dX6_distance_2 : decode cX6_distance 2 = .ok (.if_icmp .le 9, 3) := by decide +kernel
theorem dX6_distance_5 : decode cX6_distance 5 = .ok (.iload_n 0, 1) := by decide +kernel
theorem dX6_distance_6 : decode cX6_distance 6 = .ok (.iload_n 1, 1) := by decide +kernel
theorem dX6_distance_7 : decode cX6_distance 7 = .ok (.isub, 1) := by decide +kernel
theorem dX6_distance_8 : decode cX6_distance 8 = .ok (.goto 6, 3) := by decide +kernel
theorem dX6_distance_11 : decode cX6_distance 11 = .ok (.iload_n 1, 1) := by decide +kernel
theorem dX6_distance_12 : decode cX6_distance 12 = .ok (.iload_n 0, 1) := by decide +kernel
theorem dX6_distance_13 : decode cX6_distance 13 = .ok (.isub, 1) := by decide +kernel
theorem dX6_distance_14 : decode cX6_distance 14 = .ok (.istore_n 2, 1) := by decide +kernel
theorem dX6_distance_15 : decode cX6_distance 15 = .ok (.iload_n 2, 1) := by decide +kernel
theorem dX6_distance_16 : decode cX6_distance 16 = .ok (.iconst 4, 1) := by decide +kernel
theorem dX6_distance_17 : decode cX6_distance 17 = .ok (.iload_n 2, 1) := by decide +kernel
theorem dX6_distance_18 : decode cX6_distance 18 = .ok (.isub, 1) := by decide +kernel
theorem dX6_distance_19 : decode cX6_distance 19 = .ok (.if_icmp .ge 7, 3) := by decide +kernel
theorem dX6_distance_22 : decode cX6_distance 22 = .ok (.iload_n 2, 1) := by decide +kernel
theorem dX6_distance_23 : decode cX6_distance 23 = .ok (.goto 6, 3) := by decide +kernel
theorem dX6_distance_26 : decode cX6_distance 26 = .ok (.iconst 4, 1) := by decide +kernel
theorem dX6_distance_27 : decode cX6_distance 27 = .ok (.iload_n 2, 1) := by decide +kernel
theorem dX6_distance_28 : decode cX6_distance 28 = .ok (.isub, 1) := by decide +kernel
theorem dX6_distance_29 : decode cX6_distance 29 = .ok (.ireturn, 1) := by decide +kernel
theorem dX6_isFree_0 : decode cX6_isFree 0 = .ok (.aload_n 0, 1) := by decide +kernel
theorem dX6_isFree_1 : decode cX6_isFree 1 = .ok (.getfield 16, 3) := by decide +kernel
theorem dX6_isFree_4 : decode cX6_isFree 4 = .ok (.iconst 2, 1) := by decide +kernel
theorem dX6_isFree_5 : decode cX6_isFree 5 = .ok (.iload_n 1, 1) := by decide +kernel
theorem dX6_isFree_6 : decode cX6_isFree 6 = .ok (.imul, 1) := by decide +kernel
theorem dX6_isFree_7 : decode cX6_isFree 7 = .ok (.iload_n 2, 1) := by decide +kernel
theorem dX6_isFree_8 : decode cX6_isFree 8 = .ok (.iadd, 1) := by decide +kernel
theorem dX6_isFree_9 : decode cX6_isFree 9 = .ok (.iaload, 1) := by decide +kernel
theorem dX6_isFree_10 : decode cX6_isFree 10 = .ok (.aload_n 0, 1) := by decide +kernel
theorem dX6_isFree_11 : decode cX6_isFree 11 = .ok (.getfield 7, 3) := by decide +kernel
theorem dX6_isFree_14 : decode cX6_isFree 14 = .ok (.iconst 2, 1) := by decide +kernel
theorem dX6_isFree_15 : decode cX6_isFree 15 = .ok (.iload_n 1, 1) := by decide +kernel
theorem dX6_isFree_16 : decode cX6_isFree 16 = .ok (.imul, 1) := by decide +kernel
theorem dX6_isFree_17 : decode cX6_isFree 17 = .ok (.iload_n 2, 1) := by decide +kernel
theorem dX6_isFree_18 : decode cX6_isFree 18 = .ok (.iadd, 1) := by decide +kernel
theorem dX6_isFree_19 : decode cX6_isFree 19 = .ok (.iaload, 1) := by decide +kernel
theorem dX6_isFree_20 : decode cX6_isFree 20 = .ok (.if_icmp .ge 7, 3) := by decide +kernel
theorem dX6_isFree_23 : decode cX6_isFree 23 = .ok (.iconst 1, 1) := by decide +kernel
theorem dX6_isFree_24 : decode cX6_isFree 24 = .ok (.goto 4, 3) := by decide +kernel
theorem dX6_isFree_27 : decode cX6_isFree 27 = .ok (.iconst 0, 1) := by decide +kernel
theorem dX6_isFree_28 : decode cX6_isFree 28 = .ok (.ireturn, 1) := by decide +kernel
theorem dX6_richest_0 : decode cX6_richest 0 = .ok (.iconst 0, 1) := by decide +kernel
theorem dX6_richest_1 : decode cX6_richest 1 = .ok (.istore_n 1, 1) := by decide +kernel
theorem dX6_richest_2 : decode cX6_richest 2 = .ok (.iconst 1, 1) := by decide +kernel
theorem dX6_richest_3 : decode cX6_richest 3 = .ok (.istore_n 2, 1) := by decide +kernel
theorem dX6_richest_4 : decode cX6_richest 4 = .ok (.iload_n 2, 1) := by decide +kernel
theorem dX6_richest_5 : decode cX6_richest 5 = .ok (.iconst 4, 1) := by decide +kernel
theorem dX6_richest_6 : decode cX6_richest 6 = .ok (.if_icmp .ge 30, 3) := by decide +kernel
theorem dX6_richest_9 : decode cX6_richest 9 = .ok (.aload_n 0, 1) := by decide +kernel
theorem dX6_richest_10 : decode cX6_richest 10 = .ok (.getfield 19, 3) := by decide +kernel
theorem dX6_richest_13 : decode cX6_richest 13 = .ok (.iload_n 2, 1) := by decide +kernel
theorem dX6_richest_14 : decode cX6_richest 14 = .ok (.iaload, 1) := by decide +kernel
theorem dX6_richest_15 : decode cX6_richest 15 = .ok (.aload_n 0, 1) := by decide +kernel
theorem dX6_richest_16 : decode cX6_richest 16 = .ok (.getfield 19, 3) := by decide +kernel
theorem dX6_richest_19 : decode cX6_richest 19 = .ok (.iload_n 1, 1) := by decide +kernel
theorem dX6_richest_20 : decode cX6_richest 20 = .ok (.iaload, 1) := by decide +kernel
theorem dX6_richest_21 : decode cX6_richest 21 = .ok (.if_icmp .le 7, 3) := by decide +kernel
theorem dX6_richest_24 : decode cX6_richest 24 = .ok (.iload_n 2, 1) := by decide +kernel
theorem dX6_richest_25 : decode cX6_richest 25 = .ok (.goto 4, 3) := by decide +kernel
theorem dX6_richest_28 : decode cX6_richest 28 = .ok (.iload_n 1, 1) := by decide +kernel
theorem dX6_richest_29 : decode cX6_richest 29 = .ok (.istore_n 1, 1) := by decide +kernel
theorem dX6_richest_30 : decode cX6_richest 30 = .ok (.iinc 2 1, 3) := by decide +kernel
theorem dX6_richest_33 : decode cX6_richest 33 = .ok (.goto (-29), 3) := by decide +kernel
theorem dX6_richest_36 : decode cX6_richest 36 = .ok (.iload_n 1, 1) := by decide +kernel
theorem dX6_richest_37 : decode cX6_richest 37 = .ok (.ireturn, 1) := by decide +kernel
set_option maxRecDepth 20000 in
theorem ggX6_finds_X6_richest : GoodIn wsX6_finds wsX6_richest := goodIn_r _ [6, 1, 16, 17, 18, 19, 20, 21, 22, 23, 24, 25, 26, 27, 28, 29, 30, 31, 32, 33, 34, 35, 36, 37, 38, 39] (by decide +kernel) (by decide +kernel)
set_option maxRecDepth 20000 in
theorem gX6_finds_X6_richest : GoodIn wsX6_finds (wsV RX6 101 RX6 yX6_richest wsX6_richest) := goodIn_app (goodIn_of _ (by decide +kernel)) ggX6_finds_X6_richest
set_option maxRecDepth 20000 in
theorem ggX6_finds_X6_isFree : GoodIn wsX6_finds wsX6_isFree := goodIn_r _ [10, 11, 12, 16, 17, 18, 19, 20, 21, 22, 23, 24, 25, 26, 27, 28, 29, 30, 31, 32, 33, 34, 35, 36, 37, 38, 39] (by decide +kernel) (by decide +kernel)
set_option maxRecDepth 20000 in
theorem gX6_finds_X6_isFree : GoodIn wsX6_finds (wsV RX6 105 RX6 yX6_isFree wsX6_isFree) := goodIn_app (goodIn_of _ (by decide +kernel)) ggX6_finds_X6_isFree
set_option maxRecDepth 20000 in
theorem ggX6_finds_X6_distance : GoodIn wsX6_finds wsX6_distance := goodIn_r _ [15] (by decide +kernel) (by decide +kernel)
set_option maxRecDepth 20000 in
theorem gX6_finds_X6_distance : GoodIn wsX6_finds (va_wsS RX6 108 yX6_distance wsX6_distance) := goodIn_app (goodIn_of _ (by decide +kernel)) ggX6_finds_X6_distance
theorem dX6_finds_0 : decode cX6_finds 0 = .ok (.iconst (-1), 1) := by decide +kernel
theorem dX6_finds_1 : decode cX6_finds 1 = .ok (.istore_n 3, 1) := by decide +kernel
theorem dX6_finds_2 : decode cX6_finds 2 = .ok (.iconst 0, 1) := by decide +kernel
theorem dX6_finds_3 : decode cX6_finds 3 = .ok (.istore 4, 2) := by decide +kernel
theorem dX6_finds_5 : decode cX6_finds 5 = .ok (.iload 4, 2) := by decide +kernel
theorem dX6_finds_7 : decode cX6_finds 7 = .ok (.iconst 4, 1) := by decide +kernel
theorem dX6_finds_8 : decode cX6_finds 8 = .ok (.if_icmp .ge 57, 3) := by decide +kernel
theorem dX6_finds_11 : decode cX6_finds 11 = .ok (.aload_n 0, 1) := by decide +kernel
theorem dX6_finds_12 : decode cX6_finds 12 = .ok (.getfield 19, 3) := by decide +kernel
theorem dX6_finds_15 : decode cX6_finds 15 = .ok (.aload_n 0, 1) := by decide +kernel
theorem dX6_finds_16 : decode cX6_finds 16 = .ok (.invokevirtual 101, 3) := by decide +kernel
theorem dX6_finds_19 : decode cX6_finds 19 = .ok (.iaload, 1) := by decide +kernel
theorem dX6_finds_20 : decode cX6_finds 20 = .ok (.ifCond .le 45, 3) := by decide +kernel
theorem dX6_finds_23 : decode cX6_finds 23 = .ok (.aload_n 0, 1) := by decide +kernel
theorem dX6_finds_24 : decode cX6_finds 24 = .ok (.iload 4, 2) := by decide +kernel
theorem dX6_finds_26 : decode cX6_finds 26 = .ok (.iload_n 2, 1) := by decide +kernel
theorem dX6_finds_27 : decode cX6_finds 27 = .ok (.invokevirtual 105, 3) := by decide +kernel
theorem dX6_finds_30 : decode cX6_finds 30 = .ok (.ifCond .eq 27, 3) := by decide +kernel
theorem dX6_finds_33 : decode cX6_finds 33 = .ok (.iload_n 3, 1) := by decide +kernel
theorem dX6_finds_34 : decode cX6_finds 34 = .ok (.iconst (-1), 1) := by decide +kernel
theorem dX6_finds_35 : decode cX6_finds 35 = .ok (.if_icmp .eq 17, 3) := by decide +kernel
theorem dX6_finds_38 : decode cX6_finds 38 = .ok (.iload_n 1, 1) := by decide +kernel
theorem dX6_finds_39 : decode cX6_finds 39 = .ok (.iload 4, 2) := by decide +kernel
theorem dX6_finds_41 : decode cX6_finds 41 = .ok (.invokestatic 108, 3) := by decide +kernel
theorem dX6_finds_44 : decode cX6_finds 44 = .ok (.iload_n 1, 1) := by decide +kernel
theorem dX6_finds_45 : decode cX6_finds 45 = .ok (.iload_n 3, 1) := by decide +kernel
theorem dX6_finds_46 : decode cX6_finds 46 = .ok (.invokestatic 108, 3) := by decide +kernel
theorem dX6_finds_49 : decode cX6_finds 49 = .ok (.if_icmp .ge 8, 3) := by decide +kernel
theorem dX6_finds_52 : decode cX6_finds 52 = .ok (.iload 4, 2) := by decide +kernel
theorem dX6_finds_54 : decode cX6_finds 54 = .ok (.goto 4, 3) := by decide +kernel
theorem dX6_finds_57 : decode cX6_finds 57 = .ok (.iload_n 3, 1) := by decide +kernel
theorem dX6_finds_58 : decode cX6_finds 58 = .ok (.istore_n 3, 1) := by decide +kernel
theorem dX6_finds_59 : decode cX6_finds 59 = .ok (.iinc 4 1, 3) := by decide +kernel
theorem dX6_finds_62 : decode cX6_finds 62 = .ok (.goto (-57), 3) := by decide +kernel
theorem dX6_finds_65 : decode cX6_finds 65 = .ok (.iload_n 3, 1) := by decide +kernel
theorem dX6_finds_66 : decode cX6_finds 66 = .ok (.ireturn, 1) := by decide +kernel
set_option maxRecDepth 20000 in
theorem ggX6_takesLinen_X6_richest : GoodIn wsX6_takesLinen wsX6_richest := goodIn_r _ [9, 1, 10, 11, 12, 13, 14, 15, 16, 17, 18, 19, 20, 21, 22, 23, 24, 25, 26, 27, 28, 29, 30, 31, 32, 33] (by decide +kernel) (by decide +kernel)
set_option maxRecDepth 20000 in
theorem gX6_takesLinen_X6_richest : GoodIn wsX6_takesLinen (wsV RX6 101 RX6 yX6_richest wsX6_richest) := goodIn_app (goodIn_of _ (by decide +kernel)) ggX6_takesLinen_X6_richest
theorem dX6_takesLinen_0 : decode cX6_takesLinen 0 = .ok (.aload_n 0, 1) := by decide +kernel
theorem dX6_takesLinen_1 : decode cX6_takesLinen 1 = .ok (.getfield 19, 3) := by decide +kernel
theorem dX6_takesLinen_4 : decode cX6_takesLinen 4 = .ok (.iload_n 1, 1) := by decide +kernel
theorem dX6_takesLinen_5 : decode cX6_takesLinen 5 = .ok (.iaload, 1) := by decide +kernel
theorem dX6_takesLinen_6 : decode cX6_takesLinen 6 = .ok (.ifCond .le 16, 3) := by decide +kernel
theorem dX6_takesLinen_9 : decode cX6_takesLinen 9 = .ok (.aload_n 0, 1) := by decide +kernel
theorem dX6_takesLinen_10 : decode cX6_takesLinen 10 = .ok (.getfield 19, 3) := by decide +kernel
theorem dX6_takesLinen_13 : decode cX6_takesLinen 13 = .ok (.iload_n 1, 1) := by decide +kernel
theorem dX6_takesLinen_14 : decode cX6_takesLinen 14 = .ok (.dup2, 1) := by decide +kernel
theorem dX6_takesLinen_15 : decode cX6_takesLinen 15 = .ok (.iaload, 1) := by decide +kernel
