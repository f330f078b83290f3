theorem dL_table_0 : decode cL_table 0 = .ok (.aload 6, 2) := by decide +kernel
theorem dL_table_2 : decode cL_table 2 = .ok (.iconst 0, 1) := by decide +kernel
theorem dL_table_3 : decode cL_table 3 = .ok (.aload_n 0, 1) := by decide +kernel
theorem dL_table_4 : decode cL_table 4 = .ok (.iload_n 1, 1) := by decide +kernel
theorem dL_table_5 : decode cL_table 5 = .ok (.dload_n 2, 1) := by decide +kernel
theorem dL_table_6 : decode cL_table 6 = .ok (.dload 4, 2) := by decide +kernel
theorem dL_table_8 : decode cL_table 8 = .ok (.invokevirtual 7, 3) := by decide +kernel
theorem dL_table_11 : decode cL_table 11 = .ok (.i2l, 1) := by decide +kernel
theorem dL_table_12 : decode cL_table 12 = .ok (.lastore, 1) := by decide +kernel
theorem dL_table_13 : decode cL_table 13 = .ok (.goto 15, 3) := by decide +kernel
theorem dL_table_16 : decode cL_table 16 = .ok (.astore 7, 2) := by decide +kernel
theorem dL_table_18 : decode cL_table 18 = .ok (.iconst 1, 1) := by decide +kernel
theorem dL_table_19 : decode cL_table 19 = .ok (.ireturn, 1) := by decide +kernel
theorem dL_table_20 : decode cL_table 20 = .ok (.astore 7, 2) := by decide +kernel
theorem dL_table_22 : decode cL_table 22 = .ok (.iconst 2, 1) := by decide +kernel
theorem dL_table_23 : decode cL_table 23 = .ok (.ireturn, 1) := by decide +kernel
theorem dL_table_24 : decode cL_table 24 = .ok (.astore 7, 2) := by decide +kernel
theorem dL_table_26 : decode cL_table 26 = .ok (.iconst 3, 1) := by decide +kernel
theorem dL_table_27 : decode cL_table 27 = .ok (.ireturn, 1) := by decide +kernel
theorem dL_table_28 : decode cL_table 28 = .ok (.iconst 0, 1) := by decide +kernel
theorem dL_table_29 : decode cL_table 29 = .ok (.ireturn, 1) := by decide +kernel
theorem dL_radius_0 : decode cL_radius 0 = .ok (.aload 4, 2) := by decide +kernel
theorem dL_radius_2 : decode cL_radius 2 = .ok (.iconst 0, 1) := by decide +kernel
theorem dL_radius_3 : decode cL_radius 3 = .ok (.aload_n 0, 1) := by decide +kernel
theorem dL_radius_4 : decode cL_radius 4 = .ok (.iload_n 1, 1) := by decide +kernel
theorem dL_radius_5 : decode cL_radius 5 = .ok (.dload_n 2, 1) := by decide +kernel
theorem dL_radius_6 : decode cL_radius 6 = .ok (.invokevirtual 19, 3) := by decide +kernel
theorem dL_radius_9 : decode cL_radius 9 = .ok (.dastore, 1) := by decide +kernel
theorem dL_radius_10 : decode cL_radius 10 = .ok (.goto 15, 3) := by decide +kernel
theorem dL_radius_13 : decode cL_radius 13 = .ok (.astore 5, 2) := by decide +kernel
theorem dL_radius_15 : decode cL_radius 15 = .ok (.iconst 1, 1) := by decide +kernel
theorem dL_radius_16 : decode cL_radius 16 = .ok (.ireturn, 1) := by decide +kernel
theorem dL_radius_17 : decode cL_radius 17 = .ok (.astore 5, 2) := by decide +kernel
theorem dL_radius_19 : decode cL_radius 19 = .ok (.iconst 2, 1) := by decide +kernel
theorem dL_radius_20 : decode cL_radius 20 = .ok (.ireturn, 1) := by decide +kernel
theorem dL_radius_21 : decode cL_radius 21 = .ok (.astore 5, 2) := by decide +kernel
theorem dL_radius_23 : decode cL_radius 23 = .ok (.iconst 3, 1) := by decide +kernel
theorem dL_radius_24 : decode cL_radius 24 = .ok (.ireturn, 1) := by decide +kernel
theorem dL_radius_25 : decode cL_radius 25 = .ok (.iconst 0, 1) := by decide +kernel
theorem dL_radius_26 : decode cL_radius 26 = .ok (.ireturn, 1) := by decide +kernel
theorem dL_strips_0 : decode cL_strips 0 = .ok (.aload 6, 2) := by decide +kernel
theorem dL_strips_2 : decode cL_strips 2 = .ok (.iconst 0, 1) := by decide +kernel
theorem dL_strips_3 : decode cL_strips 3 = .ok (.aload_n 0, 1) := by decide +kernel
theorem dL_strips_4 : decode cL_strips 4 = .ok (.iload_n 1, 1) := by decide +kernel
theorem dL_strips_5 : decode cL_strips 5 = .ok (.dload_n 2, 1) := by decide +kernel
theorem dL_strips_6 : decode cL_strips 6 = .ok (.dload 4, 2) := by decide +kernel
theorem dL_strips_8 : decode cL_strips 8 = .ok (.invokevirtual 23, 3) := by decide +kernel
theorem dL_strips_11 : decode cL_strips 11 = .ok (.i2l, 1) := by decide +kernel
theorem dL_strips_12 : decode cL_strips 12 = .ok (.lastore, 1) := by decide +kernel
theorem dL_strips_13 : decode cL_strips 13 = .ok (.goto 11, 3) := by decide +kernel
theorem dL_strips_16 : decode cL_strips 16 = .ok (.astore 7, 2) := by decide +kernel
theorem dL_strips_18 : decode cL_strips 18 = .ok (.iconst 1, 1) := by decide +kernel
theorem dL_strips_19 : decode cL_strips 19 = .ok (.ireturn, 1) := by decide +kernel
theorem dL_strips_20 : decode cL_strips 20 = .ok (.astore 7, 2) := by decide +kernel
theorem dL_strips_22 : decode cL_strips 22 = .ok (.iconst 2, 1) := by decide +kernel
theorem dL_strips_23 : decode cL_strips 23 = .ok (.ireturn, 1) := by decide +kernel
theorem dL_strips_24 : decode cL_strips 24 = .ok (.iconst 0, 1) := by decide +kernel
theorem dL_strips_25 : decode cL_strips 25 = .ok (.ireturn, 1) := by decide +kernel
theorem dL_read_0 : decode cL_read 0 = .ok (.aload 6, 2) := by decide +kernel
theorem dL_read_2 : decode cL_read 2 = .ok (.iconst 0, 1) := by decide +kernel
theorem dL_read_3 : decode cL_read 3 = .ok (.aload_n 0, 1) := by decide +kernel
theorem dL_read_4 : decode cL_read 4 = .ok (.iload_n 1, 1) := by decide +kernel
theorem dL_read_5 : decode cL_read 5 = .ok (.dload_n 2, 1) := by decide +kernel
theorem dL_read_6 : decode cL_read 6 = .ok (.dload 4, 2) := by decide +kernel
theorem dL_read_8 : decode cL_read 8 = .ok (.invokevirtual 26, 3) := by decide +kernel
theorem dL_read_11 : decode cL_read 11 = .ok (.i2l, 1) := by decide +kernel
theorem dL_read_12 : decode cL_read 12 = .ok (.lastore, 1) := by decide +kernel
theorem dL_read_13 : decode cL_read 13 = .ok (.goto 15, 3) := by decide +kernel
theorem dL_read_16 : decode cL_read 16 = .ok (.astore 7, 2) := by decide +kernel
theorem dL_read_18 : decode cL_read 18 = .ok (.iconst 1, 1) := by decide +kernel
theorem dL_read_19 : decode cL_read 19 = .ok (.ireturn, 1) := by decide +kernel
theorem dL_read_20 : decode cL_read 20 = .ok (.astore 7, 2) := by decide +kernel
theorem dL_read_22 : decode cL_read 22 = .ok (.iconst 2, 1) := by decide +kernel
theorem dL_read_23 : decode cL_read 23 = .ok (.ireturn, 1) := by decide +kernel
theorem dL_read_24 : decode cL_read 24 = .ok (.astore 7, 2) := by decide +kernel
theorem dL_read_26 : decode cL_read 26 = .ok (.iconst 3, 1) := by decide +kernel
theorem dL_read_27 : decode cL_read 27 = .ok (.ireturn, 1) := by decide +kernel
theorem dL_read_28 : decode cL_read 28 = .ok (.iconst 0, 1) := by decide +kernel
theorem dL_read_29 : decode cL_read 29 = .ok (.ireturn, 1) := by decide +kernel
theorem dL_fit_0 : decode cL_fit 0 = .ok (.aload_n 3, 1) := by decide +kernel
theorem dL_fit_1 : decode cL_fit 1 = .ok (.iconst 0, 1) := by decide +kernel
theorem dL_fit_2 : decode cL_fit 2 = .ok (.aload_n 0, 1) := by decide +kernel
theorem dL_fit_3 : decode cL_fit 3 = .ok (.iload_n 1, 1) := by decide +kernel
theorem dL_fit_4 : decode cL_fit 4 = .ok (.iload_n 2, 1) := by decide +kernel
theorem dL_fit_5 : decode cL_fit 5 = .ok (.invokevirtual 29, 3) := by decide +kernel
theorem dL_fit_8 : decode cL_fit 8 = .ok (.i2l, 1) := by decide +kernel
theorem dL_fit_9 : decode cL_fit 9 = .ok (.lastore, 1) := by decide +kernel
theorem dL_fit_10 : decode cL_fit 10 = .ok (.goto 11, 3) := by decide +kernel
theorem dL_fit_13 : decode cL_fit 13 = .ok (.astore 4, 2) := by decide +kernel
theorem dL_fit_15 : decode cL_fit 15 = .ok (.iconst 1, 1) := by decide +kernel
theorem dL_fit_16 : decode cL_fit 16 = .ok (.ireturn, 1) := by decide +kernel
theorem dL_fit_17 : decode cL_fit 17 = .ok (.astore 4, 2) := by decide +kernel
theorem dL_fit_19 : decode cL_fit 19 = .ok (.iconst 2, 1) := by decide +kernel
theorem dL_fit_20 : decode cL_fit 20 = .ok (.ireturn, 1) := by decide +kernel
theorem dL_fit_21 : decode cL_fit 21 = .ok (.iconst 0, 1) := by decide +kernel
theorem dL_fit_22 : decode cL_fit 22 = .ok (.ireturn, 1) := by decide +kernel
theorem dL_back_0 : decode cL_back 0 = .ok (.aload_n 3, 1) := by decide +kernel
theorem dL_back_1 : decode cL_back 1 = .ok (.iconst 0, 1) := by decide +kernel
theorem dL_back_2 : decode cL_back 2 = .ok (.aload_n 0, 1) := by decide +kernel
theorem dL_back_3 : decode cL_back 3 = .ok (.iload_n 1, 1) := by decide +kernel
theorem dL_back_4 : decode cL_back 4 = .ok (.iload_n 2, 1) := by decide +kernel
theorem dL_back_5 : decode cL_back 5 = .ok (.invokevirtual 33, 3) := by decide +kernel
theorem dL_back_8 : decode cL_back 8 = .ok (.dastore, 1) := by decide +kernel
theorem dL_back_9 : decode cL_back 9 = .ok (.goto 7, 3) := by decide +kernel
theorem dL_back_12 : decode cL_back 12 = .ok (.astore 4, 2) := by decide +kernel
theorem dL_back_14 : decode cL_back 14 = .ok (.iconst 1, 1) := by decide +kernel
theorem dL_back_15 : decode cL_back 15 = .ok (.ireturn, 1) := by decide +kernel
theorem dL_back_16 : decode cL_back 16 = .ok (.iconst 0, 1) := by decide +kernel
theorem dL_back_17 : decode cL_back 17 = .ok (.ireturn, 1) := by decide +kernel
theorem dL_form_0 : decode cL_form 0 = .ok (.aload 4, 2) := by decide +kernel
theorem dL_form_2 : decode cL_form 2 = .ok (.iconst 0, 1) := by decide +kernel
theorem dL_form_3 : decode cL_form 3 = .ok (.aload_n 0, 1) := by decide +kernel
theorem dL_form_4 : decode cL_form 4 = .ok (.iload_n 1, 1) := by decide +kernel
theorem dL_form_5 : decode cL_form 5 = .ok (.dload_n 2, 1) := by decide +kernel
theorem dL_form_6 : decode cL_form 6 = .ok (.invokevirtual 37, 3) := by decide +kernel
theorem dL_form_9 : decode cL_form 9 = .ok (.dastore, 1) := by decide +kernel
theorem dL_form_10 : decode cL_form 10 = .ok (.goto 11, 3) := by decide +kernel
theorem dL_form_13 : decode cL_form 13 = .ok (.astore 5, 2) := by decide +kernel
theorem dL_form_15 : decode cL_form 15 = .ok (.iconst 1, 1) := by decide +kernel
theorem dL_form_16 : decode cL_form 16 = .ok (.ireturn, 1) := by decide +kernel
theorem dL_form_17 : decode cL_form 17 = .ok (.astore 5, 2) := by decide +kernel
theorem dL_form_19 : decode cL_form 19 = .ok (.iconst 2, 1) := by decide +kernel
theorem dL_form_20 : decode cL_form 20 = .ok (.ireturn, 1) := by decide +kernel
theorem dL_form_21 : decode cL_form 21 = .ok (.iconst 0, 1) := by decide +kernel
theorem dL_form_22 : decode cL_form 22 = .ok (.ireturn, 1) := by decide +kernel
theorem dL_minutes_0 : decode cL_minutes 0 = .ok (.aload_n 3, 1) := by decide +kernel
theorem dL_minutes_1 : decode cL_minutes 1 = .ok (.iconst 0, 1) := by decide +kernel
theorem dL_minutes_2 : decode cL_minutes 2 = .ok (.aload_n 0, 1) := by decide +kernel
theorem dL_minutes_3 : decode cL_minutes 3 = .ok (.dload_n 1, 1) := by decide +kernel
theorem dL_minutes_4 : decode cL_minutes 4 = .ok (.invokevirtual 40, 3) := by decide +kernel
theorem dL_minutes_7 : decode cL_minutes 7 = .ok (.dastore, 1) := by decide +kernel
theorem dL_minutes_8 : decode cL_minutes 8 = .ok (.goto 7, 3) := by decide +kernel
theorem dL_minutes_11 : decode cL_minutes 11 = .ok (.astore 4, 2) := by decide +kernel
theorem dL_minutes_13 : decode cL_minutes 13 = .ok (.iconst 1, 1) := by decide +kernel
theorem dL_minutes_14 : decode cL_minutes 14 = .ok (.ireturn, 1) := by decide +kernel
theorem dL_minutes_15 : decode cL_minutes 15 = .ok (.iconst 0, 1) := by decide +kernel
theorem dL_minutes_16 : decode cL_minutes 16 = .ok (.ireturn, 1) := by decide +kernel
theorem dL_piece_0 : decode cL_piece 0 = .ok (.aload 5, 2) := by decide +kernel
theorem dL_piece_2 : decode cL_piece 2 = .ok (.iconst 0, 1) := by decide +kernel
theorem dL_piece_3 : decode cL_piece 3 = .ok (.aload_n 0, 1) := by decide +kernel
theorem dL_piece_4 : decode cL_piece 4 = .ok (.dload_n 1, 1) := by decide +kernel
theorem dL_piece_5 : decode cL_piece 5 = .ok (.dload_n 3, 1) := by decide +kernel
theorem dL_piece_6 : decode cL_piece 6 = .ok (.invokevirtual 44, 3) := by decide +kernel
theorem dL_piece_9 : decode cL_piece 9 = .ok (.i2l, 1) := by decide +kernel
theorem dL_piece_10 : decode cL_piece 10 = .ok (.lastore, 1) := by decide +kernel
theorem dL_piece_11 : decode cL_piece 11 = .ok (.goto 11, 3) := by decide +kernel
theorem dL_piece_14 : decode cL_piece 14 = .ok (.astore 6, 2) := by decide +kernel
theorem dL_piece_16 : decode cL_piece 16 = .ok (.iconst 1, 1) := by decide +kernel
theorem dL_piece_17 : decode cL_piece 17 = .ok (.ireturn, 1) := by decide +kernel
theorem dL_piece_18 : decode cL_piece 18 = .ok (.astore 6, 2) := by decide +kernel
theorem dL_piece_20 : decode cL_piece 20 = .ok (.iconst 2, 1) := by decide +kernel
theorem dL_piece_21 : decode cL_piece 21 = .ok (.ireturn, 1) := by decide +kernel
theorem dL_piece_22 : decode cL_piece 22 = .ok (.iconst 0, 1) := by decide +kernel
theorem dL_piece_23 : decode cL_piece 23 = .ok (.ireturn, 1) := by decide +kernel
theorem dL_length_0 : decode cL_length 0 = .ok (.aload 4, 2) := by decide +kernel
theorem dL_length_2 : decode cL_length 2 = .ok (.iconst 0, 1) := by decide +kernel
theorem dL_length_3 : decode cL_length 3 = .ok (.aload_n 0, 1) := by decide +kernel
theorem dL_length_4 : decode cL_length 4 = .ok (.iload_n 1, 1) := by decide +kernel
theorem dL_length_5 : decode cL_length 5 = .ok (.dload_n 2, 1) := by decide +kernel
theorem dL_length_6 : decode cL_length 6 = .ok (.invokevirtual 48, 3) := by decide +kernel
theorem dL_length_9 : decode cL_length 9 = .ok (.dastore, 1) := by decide +kernel
theorem dL_length_10 : decode cL_length 10 = .ok (.goto 7, 3) := by decide +kernel
theorem dL_length_13 : decode cL_length 13 = .ok (.astore 5, 2) := by decide +kernel
theorem dL_length_15 : decode cL_length 15 = .ok (.iconst 1, 1) := by decide +kernel
theorem dL_length_16 : decode cL_length 16 = .ok (.ireturn, 1) := by decide +kernel
theorem dL_length_17 : decode cL_length 17 = .ok (.iconst 0, 1) := by decide +kernel
theorem dL_length_18 : decode cL_length 18 = .ok (.ireturn, 1) := by decide +kernel
theorem dL_kerfs_0 : decode cL_kerfs 0 = .ok (.aload 9, 2) := by decide +kernel
theorem dL_kerfs_2 : decode cL_kerfs 2 = .ok (.iconst 0, 1) := by decide +kernel
theorem dL_kerfs_3 : decode cL_kerfs 3 = .ok (.aload_n 0, 1) := by decide +kernel
theorem dL_kerfs_4 : decode cL_kerfs 4 = .ok (.dload_n 1, 1) := by decide +kernel
theorem dL_kerfs_5 : decode cL_kerfs 5 = .ok (.dload_n 3, 1) := by decide +kernel
theorem dL_kerfs_6 : decode cL_kerfs 6 = .ok (.dload 5, 2) := by decide +kernel
theorem dL_kerfs_8 : decode cL_kerfs 8 = .ok (.dload 7, 2) := by decide +kernel
theorem dL_kerfs_10 : decode cL_kerfs 10 = .ok (.invokevirtual 52, 3) := by decide +kernel
theorem dL_kerfs_13 : decode cL_kerfs 13 = .ok (.i2l, 1) := by decide +kernel
theorem dL_kerfs_14 : decode cL_kerfs 14 = .ok (.lastore, 1) := by decide +kernel
theorem dL_kerfs_15 : decode cL_kerfs 15 = .ok (.goto 7, 3) := by decide +kernel
theorem dL_kerfs_18 : decode cL_kerfs 18 = .ok (.astore 10, 2) := by decide +kernel
theorem dL_kerfs_20 : decode cL_kerfs 20 = .ok (.iconst 1, 1) := by decide +kernel
theorem dL_kerfs_21 : decode cL_kerfs 21 = .ok (.ireturn, 1) := by decide +kernel
theorem dL_kerfs_22 : decode cL_kerfs 22 = .ok (.iconst 0, 1) := by decide +kernel
theorem dL_kerfs_23 : decode cL_kerfs 23 = .ok (.ireturn, 1) := by decide +kernel
theorem dL_kerfAt_0 : decode cL_kerfAt 0 = .ok (.aload 4, 2) := by decide +kernel
theorem dL_kerfAt_2 : decode cL_kerfAt 2 = .ok (.iconst 0, 1) := by decide +kernel
theorem dL_kerfAt_3 : decode cL_kerfAt 3 = .ok (.aload_n 0, 1) := by decide +kernel
theorem dL_kerfAt_4 : decode cL_kerfAt 4 = .ok (.iload_n 1, 1) := by decide +kernel
theorem dL_kerfAt_5 : decode cL_kerfAt 5 = .ok (.dload_n 2, 1) := by decide +kernel
theorem dL_kerfAt_6 : decode cL_kerfAt 6 = .ok (.invokevirtual 56, 3) := by decide +kernel
theorem dL_kerfAt_9 : decode cL_kerfAt 9 = .ok (.dastore, 1) := by decide +kernel
theorem dL_kerfAt_10 : decode cL_kerfAt 10 = .ok (.goto 15, 3) := by decide +kernel
theorem dL_kerfAt_13 : decode cL_kerfAt 13 = .ok (.astore 5, 2) := by decide +kernel
theorem dL_kerfAt_15 : decode cL_kerfAt 15 = .ok (.iconst 1, 1) := by decide +kernel
theorem dL_kerfAt_16 : decode cL_kerfAt 16 = .ok (.ireturn, 1) := by decide +kernel
theorem dL_kerfAt_17 : decode cL_kerfAt 17 = .ok (.astore 5, 2) := by decide +kernel
theorem dL_kerfAt_19 : decode cL_kerfAt 19 = .ok (.iconst 2, 1) := by decide +kernel
theorem dL_kerfAt_20 : decode cL_kerfAt 20 = .ok (.ireturn, 1) := by decide +kernel
theorem dL_kerfAt_21 : decode cL_kerfAt 21 = .ok (.astore 5, 2) := by decide +kernel
theorem dL_kerfAt_23 : decode cL_kerfAt 23 = .ok (.iconst 3, 1) := by decide +kernel
theorem dL_kerfAt_24 : decode cL_kerfAt 24 = .ok (.ireturn, 1) := by decide +kernel
theorem dL_kerfAt_25 : decode cL_kerfAt 25 = .ok (.iconst 0, 1) := by decide +kernel
theorem dL_kerfAt_26 : decode cL_kerfAt 26 = .ok (.ireturn, 1) := by decide +kernel
theorem dL_rest_0 : decode cL_rest 0 = .ok (.aload_n 1, 1) := by decide +kernel
theorem dL_rest_1 : decode cL_rest 1 = .ok (.iconst 0, 1) := by decide +kernel
theorem dL_rest_2 : decode cL_rest 2 = .ok (.aload_n 0, 1) := by decide +kernel
theorem dL_rest_3 : decode cL_rest 3 = .ok (.invokevirtual 59, 3) := by decide +kernel
theorem dL_rest_6 : decode cL_rest 6 = .ok (.dastore, 1) := by decide +kernel
theorem dL_rest_7 : decode cL_rest 7 = .ok (.goto 6, 3) := by decide +kernel
theorem dL_rest_10 : decode cL_rest 10 = .ok (.astore_n 2, 1) := by decide +kernel
theorem dL_rest_11 : decode cL_rest 11 = .ok (.iconst 1, 1) := by decide +kernel
theorem dL_rest_12 : decode cL_rest 12 = .ok (.ireturn, 1) := by decide +kernel
theorem dL_rest_13 : decode cL_rest 13 = .ok (.iconst 0, 1) := by decide +kernel
theorem dL_rest_14 : decode cL_rest 14 = .ok (.ireturn, 1) := by decide +kernel
theorem dL_broken_0 : decode cL_broken 0 = .ok (.aload 4, 2) := by decide +kernel
theorem dL_broken_2 : decode cL_broken 2 = .ok (.iconst 0, 1) := by decide +kernel
theorem dL_broken_3 : decode cL_broken 3 = .ok (.aload_n 0, 1) := by decide +kernel
theorem dL_broken_4 : decode cL_broken 4 = .ok (.iload_n 1, 1) := by decide +kernel
theorem dL_broken_5 : decode cL_broken 5 = .ok (.iload_n 2, 1) := by decide +kernel
theorem dL_broken_6 : decode cL_broken 6 = .ok (.iload_n 3, 1) := by decide +kernel
theorem dL_broken_7 : decode cL_broken 7 = .ok (.invokevirtual 63, 3) := by decide +kernel
theorem dL_broken_10 : decode cL_broken 10 = .ok (.lastore, 1) := by decide +kernel
theorem dL_broken_11 : decode cL_broken 11 = .ok (.goto 11, 3) := by decide +kernel
theorem dL_broken_14 : decode cL_broken 14 = .ok (.astore 5, 2) := by decide +kernel
theorem dL_broken_16 : decode cL_broken 16 = .ok (.iconst 1, 1) := by decide +kernel
theorem dL_broken_17 : decode cL_broken 17 = .ok (.ireturn, 1) := by decide +kernel
theorem dL_broken_18 : decode cL_broken 18 = .ok (.astore 5, 2) := by decide +kernel
theorem dL_broken_20 : decode cL_broken 20 = .ok (.iconst 2, 1) := by decide +kernel
theorem dL_broken_21 : decode cL_broken 21 = .ok (.ireturn, 1) := by decide +kernel
theorem dL_broken_22 : decode cL_broken 22 = .ok (.iconst 0, 1) := by decide +kernel
theorem dL_broken_23 : decode cL_broken 23 = .ok (.ireturn, 1) := by decide +kernel
theorem dL_relaxed_0 : decode cL_relaxed 0 = .ok (.aload_n 3, 1) := by decide +kernel
theorem dL_relaxed_1 : decode cL_relaxed 1 = .ok (.iconst 0, 1) := by decide +kernel
theorem dL_relaxed_2 : decode cL_relaxed 2 = .ok (.aload_n 0, 1) := by decide +kernel
theorem dL_relaxed_3 : decode cL_relaxed 3 = .ok (.iload_n 1, 1) := by decide +kernel
theorem dL_relaxed_4 : decode cL_relaxed 4 = .ok (.iload_n 2, 1) := by decide +kernel
theorem dL_relaxed_5 : decode cL_relaxed 5 = .ok (.invokevirtual 67, 3) := by decide +kernel
theorem dL_relaxed_8 : decode cL_relaxed 8 = .ok (.dastore, 1) := by decide +kernel
theorem dL_relaxed_9 : decode cL_relaxed 9 = .ok (.goto 11, 3) := by decide +kernel
theorem dL_relaxed_12 : decode cL_relaxed 12 = .ok (.astore 4, 2) := by decide +kernel
theorem dL_relaxed_14 : decode cL_relaxed 14 = .ok (.iconst 1, 1) := by decide +kernel
theorem dL_relaxed_15 : decode cL_relaxed 15 = .ok (.ireturn, 1) := by decide +kernel
theorem dL_relaxed_16 : decode cL_relaxed 16 = .ok (.astore 4, 2) := by decide +kernel
theorem dL_relaxed_18 : decode cL_relaxed 18 = .ok (.iconst 2, 1) := by decide +kernel
theorem dL_relaxed_19 : decode cL_relaxed 19 = .ok (.ireturn, 1) := by decide +kernel
theorem dL_relaxed_20 : decode cL_relaxed 20 = .ok (.iconst 0, 1) := by decide +kernel
theorem dL_relaxed_21 : decode cL_relaxed 21 = .ok (.ireturn, 1) := by decide +kernel
theorem dL_law_0 : decode cL_law 0 = .ok (.new 8, 3) := by decide +kernel
theorem dL_law_3 : decode cL_law 3 = .ok (.dup, 1) := by decide +kernel
theorem dL_law_4 : decode cL_law 4 = .ok (.invokespecial 70, 3) := by decide +kernel
theorem dL_law_7 : decode cL_law 7 = .ok (.astore_n 1, 1) := by decide +kernel
theorem dL_law_8 : decode cL_law 8 = .ok (.new 71, 3) := by decide +kernel
theorem dL_law_11 : decode cL_law 11 = .ok (.dup, 1) := by decide +kernel
theorem dL_law_12 : decode cL_law 12 = .ok (.invokespecial 73, 3) := by decide +kernel
theorem dL_law_15 : decode cL_law 15 = .ok (.astore_n 2, 1) := by decide +kernel
theorem dL_law_16 : decode cL_law 16 = .ok (.iconst 1, 1) := by decide +kernel
theorem dL_law_17 : decode cL_law 17 = .ok (.newarray .long, 2) := by decide +kernel
theorem dL_law_19 : decode cL_law 19 = .ok (.astore_n 3, 1) := by decide +kernel
theorem dL_law_20 : decode cL_law 20 = .ok (.iconst 1, 1) := by decide +kernel
theorem dL_law_21 : decode cL_law 21 = .ok (.newarray .double, 2) := by decide +kernel
theorem dL_law_23 : decode cL_law 23 = .ok (.astore 4, 2) := by decide +kernel
theorem dL_law_25 : decode cL_law 25 = .ok (.iconst 0, 1) := by decide +kernel
theorem dL_law_26 : decode cL_law 26 = .ok (.istore 5, 2) := by decide +kernel
theorem dL_law_28 : decode cL_law 28 = .ok (.iload 5, 2) := by decide +kernel
theorem dL_law_30 : decode cL_law 30 = .ok (.aload_n 0, 1) := by decide +kernel
theorem dL_law_31 : decode cL_law 31 = .ok (.arraylength, 1) := by decide +kernel
theorem dL_law_32 : decode cL_law 32 = .ok (.iconst 5, 1) := by decide +kernel
theorem dL_law_33 : decode cL_law 33 = .ok (.isub, 1) := by decide +kernel
theorem dL_law_34 : decode cL_law 34 = .ok (.if_icmp .gt 1516, 3) := by decide +kernel
theorem dL_law_37 : decode cL_law 37 = .ok (.aload_n 0, 1) := by decide +kernel
theorem dL_law_38 : decode cL_law 38 = .ok (.iload 5, 2) := by decide +kernel
theorem dL_law_40 : decode cL_law 40 = .ok (.iaload, 1) := by decide +kernel
theorem dL_law_41 : decode cL_law 41 = .ok (.bipush 15, 2) := by decide +kernel
theorem dL_law_43 : decode cL_law 43 = .ok (.iand, 1) := by decide +kernel
theorem dL_law_44 : decode cL_law 44 = .ok (.tableswitch 1500 0 15 #[80, 180, 279, 379, 479, 547, 636, 735, 822, 910, 921, 1036, 1168, 1267, 1332, 1411], 80) := by decide +kernel
theorem dL_law_124 : decode cL_law 124 = .ok (.aload_n 1, 1) := by decide +kernel
theorem dL_law_125 : decode cL_law 125 = .ok (.aload_n 0, 1) := by decide +kernel
theorem dL_law_126 : decode cL_law 126 = .ok (.iload 5, 2) := by decide +kernel
theorem dL_law_128 : decode cL_law 128 = .ok (.iconst 1, 1) := by decide +kernel
theorem dL_law_129 : decode cL_law 129 = .ok (.iadd, 1) := by decide +kernel
theorem dL_law_130 : decode cL_law 130 = .ok (.iaload, 1) := by decide +kernel
theorem dL_law_131 : decode cL_law 131 = .ok (.aload_n 0, 1) := by decide +kernel
theorem dL_law_132 : decode cL_law 132 = .ok (.iload 5, 2) := by decide +kernel
theorem dL_law_134 : decode cL_law 134 = .ok (.iconst 2, 1) := by decide +kernel
theorem dL_law_135 : decode cL_law 135 = .ok (.iadd, 1) := by decide +kernel
theorem dL_law_136 : decode cL_law 136 = .ok (.iaload, 1) := by decide +kernel
theorem dL_law_137 : decode cL_law 137 = .ok (.i2d, 1) := by decide +kernel
theorem dL_law_138 : decode cL_law 138 = .ok (.ldc2_w 74, 3) := by decide +kernel
theorem dL_law_141 : decode cL_law 141 = .ok (.dmul, 1) := by decide +kernel
theorem dL_law_142 : decode cL_law 142 = .ok (.aload_n 0, 1) := by decide +kernel
theorem dL_law_143 : decode cL_law 143 = .ok (.iload 5, 2) := by decide +kernel
theorem dL_law_145 : decode cL_law 145 = .ok (.iconst 3, 1) := by decide +kernel
theorem dL_law_146 : decode cL_law 146 = .ok (.iadd, 1) := by decide +kernel
theorem dL_law_147 : decode cL_law 147 = .ok (.iaload, 1) := by decide +kernel
theorem dL_law_148 : decode cL_law 148 = .ok (.i2d, 1) := by decide +kernel
theorem dL_law_149 : decode cL_law 149 = .ok (.ldc2_w 74, 3) := by decide +kernel
theorem dL_law_152 : decode cL_law 152 = .ok (.dmul, 1) := by decide +kernel
theorem dL_law_153 : decode cL_law 153 = .ok (.aload_n 3, 1) := by decide +kernel
theorem dL_law_154 : decode cL_law 154 = .ok (.invokestatic 76, 3) := by decide +kernel
theorem dL_law_157 : decode cL_law 157 = .ok (.istore 6, 2) := by decide +kernel
theorem dL_law_159 : decode cL_law 159 = .ok (.aload_n 2, 1) := by decide +kernel
theorem dL_law_160 : decode cL_law 160 = .ok (.aload_n 0, 1) := by decide +kernel
theorem dL_law_161 : decode cL_law 161 = .ok (.iload 5, 2) := by decide +kernel
theorem dL_law_163 : decode cL_law 163 = .ok (.iconst 1, 1) := by decide +kernel
theorem dL_law_164 : decode cL_law 164 = .ok (.iadd, 1) := by decide +kernel
theorem dL_law_165 : decode cL_law 165 = .ok (.iaload, 1) := by decide +kernel
theorem dL_law_166 : decode cL_law 166 = .ok (.aload_n 0, 1) := by decide +kernel
theorem dL_law_167 : decode cL_law 167 = .ok (.iload 5, 2) := by decide +kernel
theorem dL_law_169 : decode cL_law 169 = .ok (.iconst 2, 1) := by decide +kernel
theorem dL_law_170 : decode cL_law 170 = .ok (.iadd, 1) := by decide +kernel
theorem dL_law_171 : decode cL_law 171 = .ok (.iaload, 1) := by decide +kernel
theorem dL_law_172 : decode cL_law 172 = .ok (.i2d, 1) := by decide +kernel
theorem dL_law_173 : decode cL_law 173 = .ok (.ldc2_w 74, 3) := by decide +kernel
theorem dL_law_176 : decode cL_law 176 = .ok (.dmul, 1) := by decide +kernel
theorem dL_law_177 : decode cL_law 177 = .ok (.aload_n 0, 1) := by decide +kernel
theorem dL_law_178 : decode cL_law 178 = .ok (.iload 5, 2) := by decide +kernel
theorem dL_law_180 : decode cL_law 180 = .ok (.iconst 3, 1) := by decide +kernel
theorem dL_law_181 : decode cL_law 181 = .ok (.iadd, 1) := by decide +kernel
theorem dL_law_182 : decode cL_law 182 = .ok (.iaload, 1) := by decide +kernel
theorem dL_law_183 : decode cL_law 183 = .ok (.i2d, 1) := by decide +kernel
theorem dL_law_184 : decode cL_law 184 = .ok (.ldc2_w 74, 3) := by decide +kernel
theorem dL_law_187 : decode cL_law 187 = .ok (.dmul, 1) := by decide +kernel
theorem dL_law_188 : decode cL_law 188 = .ok (.invokevirtual 81, 3) := by decide +kernel
theorem dL_law_191 : decode cL_law 191 = .ok (.istore 7, 2) := by decide +kernel
theorem dL_law_193 : decode cL_law 193 = .ok (.aload_n 2, 1) := by decide +kernel
theorem dL_law_194 : decode cL_law 194 = .ok (.invokevirtual 82, 3) := by decide +kernel
theorem dL_law_197 : decode cL_law 197 = .ok (.iload 6, 2) := by decide +kernel
theorem dL_law_199 : decode cL_law 199 = .ok (.if_icmp .eq 5, 3) := by decide +kernel
theorem dL_law_202 : decode cL_law 202 = .ok (.iconst 0, 1) := by decide +kernel
theorem dL_law_203 : decode cL_law 203 = .ok (.ireturn, 1) := by decide +kernel
theorem dL_law_204 : decode cL_law 204 = .ok (.iload 6, 2) := by decide +kernel
theorem dL_law_206 : decode cL_law 206 = .ok (.ifCond .ne 15, 3) := by decide +kernel
theorem dL_law_209 : decode cL_law 209 = .ok (.aload_n 3, 1) := by decide +kernel
theorem dL_law_210 : decode cL_law 210 = .ok (.iconst 0, 1) := by decide +kernel
theorem dL_law_211 : decode cL_law 211 = .ok (.laload, 1) := by decide +kernel
theorem dL_law_212 : decode cL_law 212 = .ok (.iload 7, 2) := by decide +kernel
theorem dL_law_214 : decode cL_law 214 = .ok (.i2l, 1) := by decide +kernel
theorem dL_law_215 : decode cL_law 215 = .ok (.lcmp, 1) := by decide +kernel
theorem dL_law_216 : decode cL_law 216 = .ok (.ifCond .eq 5, 3) := by decide +kernel
theorem dL_law_219 : decode cL_law 219 = .ok (.iconst 0, 1) := by decide +kernel
theorem dL_law_220 : decode cL_law 220 = .ok (.ireturn, 1) := by decide +kernel
theorem dL_law_221 : decode cL_law 221 = .ok (.goto 1323, 3) := by decide +kernel
theorem dL_law_224 : decode cL_law 224 = .ok (.aload_n 1, 1) := by decide +kernel
theorem dL_law_225 : decode cL_law 225 = .ok (.aload_n 0, 1) := by decide +kernel
theorem dL_law_226 : decode cL_law 226 = .ok (.iload 5, 2) := by decide +kernel
theorem dL_law_228 : decode cL_law 228 = .ok (.iconst 1, 1) := by decide +kernel
theorem dL_law_229 : decode cL_law 229 = .ok (.iadd, 1) := by decide +kernel
theorem dL_law_230 : decode cL_law 230 = .ok (.iaload, 1) := by decide +kernel
theorem dL_law_231 : decode cL_law 231 = .ok (.aload_n 0, 1) := by decide +kernel
theorem dL_law_232 : decode cL_law 232 = .ok (.iload 5, 2) := by decide +kernel
theorem dL_law_234 : decode cL_law 234 = .ok (.iconst 2, 1) := by decide +kernel
theorem dL_law_235 : decode cL_law 235 = .ok (.iadd, 1) := by decide +kernel
theorem dL_law_236 : decode cL_law 236 = .ok (.iaload, 1) := by decide +kernel
theorem dL_law_237 : decode cL_law 237 = .ok (.i2d, 1) := by decide +kernel
theorem dL_law_238 : decode cL_law 238 = .ok (.ldc2_w 74, 3) := by decide +kernel
theorem dL_law_241 : decode cL_law 241 = .ok (.dmul, 1) := by decide +kernel
theorem dL_law_242 : decode cL_law 242 = .ok (.aload 4, 2) := by decide +kernel
theorem dL_law_244 : decode cL_law 244 = .ok (.invokestatic 86, 3) := by decide +kernel
theorem dL_law_247 : decode cL_law 247 = .ok (.istore 6, 2) := by decide +kernel
theorem dL_law_249 : decode cL_law 249 = .ok (.aload_n 2, 1) := by decide +kernel
theorem dL_law_250 : decode cL_law 250 = .ok (.aload_n 0, 1) := by decide +kernel
theorem dL_law_251 : decode cL_law 251 = .ok (.iload 5, 2) := by decide +kernel
theorem dL_law_253 : decode cL_law 253 = .ok (.iconst 1, 1) := by decide +kernel
theorem dL_law_254 : decode cL_law 254 = .ok (.iadd, 1) := by decide +kernel
theorem dL_law_255 : decode cL_law 255 = .ok (.iaload, 1) := by decide +kernel
theorem dL_law_256 : decode cL_law 256 = .ok (.aload_n 0, 1) := by decide +kernel
theorem dL_law_257 : decode cL_law 257 = .ok (.iload 5, 2) := by decide +kernel
theorem dL_law_259 : decode cL_law 259 = .ok (.iconst 2, 1) := by decide +kernel
theorem dL_law_260 : decode cL_law 260 = .ok (.iadd, 1) := by decide +kernel
theorem dL_law_261 : decode cL_law 261 = .ok (.iaload, 1) := by decide +kernel
theorem dL_law_262 : decode cL_law 262 = .ok (.i2d, 1) := by decide +kernel
theorem dL_law_263 : decode cL_law 263 = .ok (.ldc2_w 74, 3) := by decide +kernel
theorem dL_law_266 : decode cL_law 266 = .ok (.dmul, 1) := by decide +kernel
theorem dL_law_267 : decode cL_law 267 = .ok (.invokevirtual 89, 3) := by decide +kernel
theorem dL_law_270 : decode cL_law 270 = .ok (.dstore 7, 2) := by decide +kernel
theorem dL_law_272 : decode cL_law 272 = .ok (.aload_n 2, 1) := by decide +kernel
theorem dL_law_273 : decode cL_law 273 = .ok (.invokevirtual 82, 3) := by decide +kernel
theorem dL_law_276 : decode cL_law 276 = .ok (.iload 6, 2) := by decide +kernel
theorem dL_law_278 : decode cL_law 278 = .ok (.if_icmp .eq 5, 3) := by decide +kernel
theorem dL_law_281 : decode cL_law 281 = .ok (.iconst 0, 1) := by decide +kernel
theorem dL_law_282 : decode cL_law 282 = .ok (.ireturn, 1) := by decide +kernel
theorem dL_law_283 : decode cL_law 283 = .ok (.iload 6, 2) := by decide +kernel
theorem dL_law_285 : decode cL_law 285 = .ok (.ifCond .ne 35, 3) := by decide +kernel
theorem dL_law_288 : decode cL_law 288 = .ok (.aload 4, 2) := by decide +kernel
theorem dL_law_290 : decode cL_law 290 = .ok (.iconst 0, 1) := by decide +kernel
theorem dL_law_291 : decode cL_law 291 = .ok (.daload, 1) := by decide +kernel
theorem dL_law_292 : decode cL_law 292 = .ok (.dload 7, 2) := by decide +kernel
theorem dL_law_294 : decode cL_law 294 = .ok (.dcmp .l, 1) := by decide +kernel
theorem dL_law_295 : decode cL_law 295 = .ok (.ifCond .eq 25, 3) := by decide +kernel
theorem dL_law_298 : decode cL_law 298 = .ok (.aload 4, 2) := by decide +kernel
theorem dL_law_300 : decode cL_law 300 = .ok (.iconst 0, 1) := by decide +kernel
theorem dL_law_301 : decode cL_law 301 = .ok (.daload, 1) := by decide +kernel
theorem dL_law_302 : decode cL_law 302 = .ok (.aload 4, 2) := by decide +kernel
theorem dL_law_304 : decode cL_law 304 = .ok (.iconst 0, 1) := by decide +kernel
theorem dL_law_305 : decode cL_law 305 = .ok (.daload, 1) := by decide +kernel
theorem dL_law_306 : decode cL_law 306 = .ok (.dcmp .l, 1) := by decide +kernel
theorem dL_law_307 : decode cL_law 307 = .ok (.ifCond .eq 11, 3) := by decide +kernel
theorem dL_law_310 : decode cL_law 310 = .ok (.dload 7, 2) := by decide +kernel
theorem dL_law_312 : decode cL_law 312 = .ok (.dload 7, 2) := by decide +kernel
theorem dL_law_314 : decode cL_law 314 = .ok (.dcmp .l, 1) := by decide +kernel
theorem dL_law_315 : decode cL_law 315 = .ok (.ifCond .ne 5, 3) := by decide +kernel
theorem dL_law_318 : decode cL_law 318 = .ok (.iconst 0, 1) := by decide +kernel
theorem dL_law_319 : decode cL_law 319 = .ok (.ireturn, 1) := by decide +kernel
theorem dL_law_320 : decode cL_law 320 = .ok (.goto 1224, 3) := by decide +kernel
theorem dL_law_323 : decode cL_law 323 = .ok (.aload_n 1, 1) := by decide +kernel
theorem dL_law_324 : decode cL_law 324 = .ok (.aload_n 0, 1) := by decide +kernel
theorem dL_law_325 : decode cL_law 325 = .ok (.iload 5, 2) := by decide +kernel
theorem dL_law_327 : decode cL_law 327 = .ok (.iconst 1, 1) := by decide +kernel
theorem dL_law_328 : decode cL_law 328 = .ok (.iadd, 1) := by decide +kernel
theorem dL_law_329 : decode cL_law 329 = .ok (.iaload, 1) := by decide +kernel
theorem dL_law_330 : decode cL_law 330 = .ok (.aload_n 0, 1) := by decide +kernel
theorem dL_law_331 : decode cL_law 331 = .ok (.iload 5, 2) := by decide +kernel
theorem dL_law_333 : decode cL_law 333 = .ok (.iconst 2, 1) := by decide +kernel
theorem dL_law_334 : decode cL_law 334 = .ok (.iadd, 1) := by decide +kernel
theorem dL_law_335 : decode cL_law 335 = .ok (.iaload, 1) := by decide +kernel
theorem dL_law_336 : decode cL_law 336 = .ok (.i2d, 1) := by decide +kernel
theorem dL_law_337 : decode cL_law 337 = .ok (.ldc2_w 74, 3) := by decide +kernel
theorem dL_law_340 : decode cL_law 340 = .ok (.dmul, 1) := by decide +kernel
theorem dL_law_341 : decode cL_law 341 = .ok (.aload_n 0, 1) := by decide +kernel
theorem dL_law_342 : decode cL_law 342 = .ok (.iload 5, 2) := by decide +kernel
theorem dL_law_344 : decode cL_law 344 = .ok (.iconst 3, 1) := by decide +kernel
theorem dL_law_345 : decode cL_law 345 = .ok (.iadd, 1) := by decide +kernel
theorem dL_law_346 : decode cL_law 346 = .ok (.iaload, 1) := by decide +kernel
theorem dL_law_347 : decode cL_law 347 = .ok (.i2d, 1) := by decide +kernel
theorem dL_law_348 : decode cL_law 348 = .ok (.ldc2_w 74, 3) := by decide +kernel
theorem dL_law_351 : decode cL_law 351 = .ok (.dmul, 1) := by decide +kernel
theorem dL_law_352 : decode cL_law 352 = .ok (.aload_n 3, 1) := by decide +kernel
theorem dL_law_353 : decode cL_law 353 = .ok (.invokestatic 90, 3) := by decide +kernel
theorem dL_law_356 : decode cL_law 356 = .ok (.istore 6, 2) := by decide +kernel
theorem dL_law_358 : decode cL_law 358 = .ok (.aload_n 2, 1) := by decide +kernel
theorem dL_law_359 : decode cL_law 359 = .ok (.aload_n 0, 1) := by decide +kernel
theorem dL_law_360 : decode cL_law 360 = .ok (.iload 5, 2) := by decide +kernel
theorem dL_law_362 : decode cL_law 362 = .ok (.iconst 1, 1) := by decide +kernel
theorem dL_law_363 : decode cL_law 363 = .ok (.iadd, 1) := by decide +kernel
theorem dL_law_364 : decode cL_law 364 = .ok (.iaload, 1) := by decide +kernel
theorem dL_law_365 : decode cL_law 365 = .ok (.aload_n 0, 1) := by decide +kernel
theorem dL_law_366 : decode cL_law 366 = .ok (.iload 5, 2) := by decide +kernel
theorem dL_law_368 : decode cL_law 368 = .ok (.iconst 2, 1) := by decide +kernel
theorem dL_law_369 : decode cL_law 369 = .ok (.iadd, 1) := by decide +kernel
theorem dL_law_370 : decode cL_law 370 = .ok (.iaload, 1) := by decide +kernel
theorem dL_law_371 : decode cL_law 371 = .ok (.i2d, 1) := by decide +kernel
theorem dL_law_372 : decode cL_law 372 = .ok (.ldc2_w 74, 3) := by decide +kernel
theorem dL_law_375 : decode cL_law 375 = .ok (.dmul, 1) := by decide +kernel
theorem dL_law_376 : decode cL_law 376 = .ok (.aload_n 0, 1) := by decide +kernel
theorem dL_law_377 : decode cL_law 377 = .ok (.iload 5, 2) := by decide +kernel
theorem dL_law_379 : decode cL_law 379 = .ok (.iconst 3, 1) := by decide +kernel
theorem dL_law_380 : decode cL_law 380 = .ok (.iadd, 1) := by decide +kernel
theorem dL_law_381 : decode cL_law 381 = .ok (.iaload, 1) := by decide +kernel
theorem dL_law_382 : decode cL_law 382 = .ok (.i2d, 1) := by decide +kernel
theorem dL_law_383 : decode cL_law 383 = .ok (.ldc2_w 74, 3) := by decide +kernel
theorem dL_law_386 : decode cL_law 386 = .ok (.dmul, 1) := by decide +kernel
theorem dL_law_387 : decode cL_law 387 = .ok (.invokevirtual 92, 3) := by decide +kernel
theorem dL_law_390 : decode cL_law 390 = .ok (.istore 7, 2) := by decide +kernel
theorem dL_law_392 : decode cL_law 392 = .ok (.aload_n 2, 1) := by decide +kernel
theorem dL_law_393 : decode cL_law 393 = .ok (.invokevirtual 82, 3) := by decide +kernel
theorem dL_law_396 : decode cL_law 396 = .ok (.iload 6, 2) := by decide +kernel
theorem dL_law_398 : decode cL_law 398 = .ok (.if_icmp .eq 5, 3) := by decide +kernel
theorem dL_law_401 : decode cL_law 401 = .ok (.iconst 0, 1) := by decide +kernel
theorem dL_law_402 : decode cL_law 402 = .ok (.ireturn, 1) := by decide +kernel
theorem dL_law_403 : decode cL_law 403 = .ok (.iload 6, 2) := by decide +kernel
theorem dL_law_405 : decode cL_law 405 = .ok (.ifCond .ne 15, 3) := by decide +kernel
theorem dL_law_408 : decode cL_law 408 = .ok (.aload_n 3, 1) := by decide +kernel
theorem dL_law_409 : decode cL_law 409 = .ok (.iconst 0, 1) := by decide +kernel
theorem dL_law_410 : decode cL_law 410 = .ok (.laload, 1) := by decide +kernel
theorem dL_law_411 : decode cL_law 411 = .ok (.iload 7, 2) := by decide +kernel
theorem dL_law_413 : decode cL_law 413 = .ok (.i2l, 1) := by decide +kernel
theorem dL_law_414 : decode cL_law 414 = .ok (.lcmp, 1) := by decide +kernel
theorem dL_law_415 : decode cL_law 415 = .ok (.ifCond .eq 5, 3) := by decide +kernel
theorem dL_law_418 : decode cL_law 418 = .ok (.iconst 0, 1) := by decide +kernel
theorem dL_law_419 : decode cL_law 419 = .ok (.ireturn, 1) := by decide +kernel
theorem dL_law_420 : decode cL_law 420 = .ok (.goto 1124, 3) := by decide +kernel
theorem dL_law_423 : decode cL_law 423 = .ok (.aload_n 1, 1) := by decide +kernel
theorem dL_law_424 : decode cL_law 424 = .ok (.aload_n 0, 1) := by decide +kernel
theorem dL_law_425 : decode cL_law 425 = .ok (.iload 5, 2) := by decide +kernel
theorem dL_law_427 : decode cL_law 427 = .ok (.iconst 1, 1) := by decide +kernel
theorem dL_law_428 : decode cL_law 428 = .ok (.iadd, 1) := by decide +kernel
theorem dL_law_429 : decode cL_law 429 = .ok (.iaload, 1) := by decide +kernel
theorem dL_law_430 : decode cL_law 430 = .ok (.aload_n 0, 1) := by decide +kernel
theorem dL_law_431 : decode cL_law 431 = .ok (.iload 5, 2) := by decide +kernel
theorem dL_law_433 : decode cL_law 433 = .ok (.iconst 2, 1) := by decide +kernel
theorem dL_law_434 : decode cL_law 434 = .ok (.iadd, 1) := by decide +kernel
theorem dL_law_435 : decode cL_law 435 = .ok (.iaload, 1) := by decide +kernel
theorem dL_law_436 : decode cL_law 436 = .ok (.i2d, 1) := by decide +kernel
theorem dL_law_437 : decode cL_law 437 = .ok (.ldc2_w 74, 3) := by decide +kernel
theorem dL_law_440 : decode cL_law 440 = .ok (.dmul, 1) := by decide +kernel
theorem dL_law_441 : decode cL_law 441 = .ok (.aload_n 0, 1) := by decide +kernel
theorem dL_law_442 : decode cL_law 442 = .ok (.iload 5, 2) := by decide +kernel
theorem dL_law_444 : decode cL_law 444 = .ok (.iconst 3, 1) := by decide +kernel
theorem dL_law_445 : decode cL_law 445 = .ok (.iadd, 1) := by decide +kernel
theorem dL_law_446 : decode cL_law 446 = .ok (.iaload, 1) := by decide +kernel
theorem dL_law_447 : decode cL_law 447 = .ok (.i2d, 1) := by decide +kernel
theorem dL_law_448 : decode cL_law 448 = .ok (.ldc2_w 74, 3) := by decide +kernel
theorem dL_law_451 : decode cL_law 451 = .ok (.dmul, 1) := by decide +kernel
theorem dL_law_452 : decode cL_law 452 = .ok (.aload_n 3, 1) := by decide +kernel
theorem dL_law_453 : decode cL_law 453 = .ok (.invokestatic 93, 3) := by decide +kernel
theorem dL_law_456 : decode cL_law 456 = .ok (.istore 6, 2) := by decide +kernel
theorem dL_law_458 : decode cL_law 458 = .ok (.aload_n 2, 1) := by decide +kernel
theorem dL_law_459 : decode cL_law 459 = .ok (.aload_n 0, 1) := by decide +kernel
theorem dL_law_460 : decode cL_law 460 = .ok (.iload 5, 2) := by decide +kernel
theorem dL_law_462 : decode cL_law 462 = .ok (.iconst 1, 1) := by decide +kernel
theorem dL_law_463 : decode cL_law 463 = .ok (.iadd, 1) := by decide +kernel
theorem dL_law_464 : decode cL_law 464 = .ok (.iaload, 1) := by decide +kernel
theorem dL_law_465 : decode cL_law 465 = .ok (.aload_n 0, 1) := by decide +kernel
theorem dL_law_466 : decode cL_law 466 = .ok (.iload 5, 2) := by decide +kernel
theorem dL_law_468 : decode cL_law 468 = .ok (.iconst 2, 1) := by decide +kernel
theorem dL_law_469 : decode cL_law 469 = .ok (.iadd, 1) := by decide +kernel
theorem dL_law_470 : decode cL_law 470 = .ok (.iaload, 1) := by decide +kernel
theorem dL_law_471 : decode cL_law 471 = .ok (.i2d, 1) := by decide +kernel
theorem dL_law_472 : decode cL_law 472 = .ok (.ldc2_w 74, 3) := by decide +kernel
theorem dL_law_475 : decode cL_law 475 = .ok (.dmul, 1) := by decide +kernel
theorem dL_law_476 : decode cL_law 476 = .ok (.aload_n 0, 1) := by decide +kernel
theorem dL_law_477 : decode cL_law 477 = .ok (.iload 5, 2) := by decide +kernel
theorem dL_law_479 : decode cL_law 479 = .ok (.iconst 3, 1) := by decide +kernel
theorem dL_law_480 : decode cL_law 480 = .ok (.iadd, 1) := by decide +kernel
theorem dL_law_481 : decode cL_law 481 = .ok (.iaload, 1) := by decide +kernel
theorem dL_law_482 : decode cL_law 482 = .ok (.i2d, 1) := by decide +kernel
theorem dL_law_483 : decode cL_law 483 = .ok (.ldc2_w 74, 3) := by decide +kernel
theorem dL_law_486 : decode cL_law 486 = .ok (.dmul, 1) := by decide +kernel
theorem dL_law_487 : decode cL_law 487 = .ok (.invokevirtual 95, 3) := by decide +kernel
theorem dL_law_490 : decode cL_law 490 = .ok (.istore 7, 2) := by decide +kernel
theorem dL_law_492 : decode cL_law 492 = .ok (.aload_n 2, 1) := by decide +kernel
theorem dL_law_493 : decode cL_law 493 = .ok (.invokevirtual 82, 3) := by decide +kernel
theorem dL_law_496 : decode cL_law 496 = .ok (.iload 6, 2) := by decide +kernel
theorem dL_law_498 : decode cL_law 498 = .ok (.if_icmp .eq 5, 3) := by decide +kernel
theorem dL_law_501 : decode cL_law 501 = .ok (.iconst 0, 1) := by decide +kernel
theorem dL_law_502 : decode cL_law 502 = .ok (.ireturn, 1) := by decide +kernel
theorem dL_law_503 : decode cL_law 503 = .ok (.iload 6, 2) := by decide +kernel
theorem dL_law_505 : decode cL_law 505 = .ok (.ifCond .ne 15, 3) := by decide +kernel
theorem dL_law_508 : decode cL_law 508 = .ok (.aload_n 3, 1) := by decide +kernel
theorem dL_law_509 : decode cL_law 509 = .ok (.iconst 0, 1) := by decide +kernel
theorem dL_law_510 : decode cL_law 510 = .ok (.laload, 1) := by decide +kernel
theorem dL_law_511 : decode cL_law 511 = .ok (.iload 7, 2) := by decide +kernel
theorem dL_law_513 : decode cL_law 513 = .ok (.i2l, 1) := by decide +kernel
theorem dL_law_514 : decode cL_law 514 = .ok (.lcmp, 1) := by decide +kernel
theorem dL_law_515 : decode cL_law 515 = .ok (.ifCond .eq 5, 3) := by decide +kernel
theorem dL_law_518 : decode cL_law 518 = .ok (.iconst 0, 1) := by decide +kernel
theorem dL_law_519 : decode cL_law 519 = .ok (.ireturn, 1) := by decide +kernel
theorem dL_law_520 : decode cL_law 520 = .ok (.goto 1024, 3) := by decide +kernel
theorem dL_law_523 : decode cL_law 523 = .ok (.aload_n 1, 1) := by decide +kernel
theorem dL_law_524 : decode cL_law 524 = .ok (.aload_n 0, 1) := by decide +kernel
theorem dL_law_525 : decode cL_law 525 = .ok (.iload 5, 2) := by decide +kernel
theorem dL_law_527 : decode cL_law 527 = .ok (.iconst 1, 1) := by decide +kernel
theorem dL_law_528 : decode cL_law 528 = .ok (.iadd, 1) := by decide +kernel
theorem dL_law_529 : decode cL_law 529 = .ok (.iaload, 1) := by decide +kernel
theorem dL_law_530 : decode cL_law 530 = .ok (.aload_n 0, 1) := by decide +kernel
theorem dL_law_531 : decode cL_law 531 = .ok (.iload 5, 2) := by decide +kernel
theorem dL_law_533 : decode cL_law 533 = .ok (.iconst 2, 1) := by decide +kernel
theorem dL_law_534 : decode cL_law 534 = .ok (.iadd, 1) := by decide +kernel
theorem dL_law_535 : decode cL_law 535 = .ok (.iaload, 1) := by decide +kernel
theorem dL_law_536 : decode cL_law 536 = .ok (.aload_n 3, 1) := by decide +kernel
theorem dL_law_537 : decode cL_law 537 = .ok (.invokestatic 96, 3) := by decide +kernel
theorem dL_law_540 : decode cL_law 540 = .ok (.istore 6, 2) := by decide +kernel
theorem dL_law_542 : decode cL_law 542 = .ok (.aload_n 2, 1) := by decide +kernel
theorem dL_law_543 : decode cL_law 543 = .ok (.aload_n 0, 1) := by decide +kernel
theorem dL_law_544 : decode cL_law 544 = .ok (.iload 5, 2) := by decide +kernel
theorem dL_law_546 : decode cL_law 546 = .ok (.iconst 1, 1) := by decide +kernel
theorem dL_law_547 : decode cL_law 547 = .ok (.iadd, 1) := by decide +kernel
theorem dL_law_548 : decode cL_law 548 = .ok (.iaload, 1) := by decide +kernel
theorem dL_law_549 : decode cL_law 549 = .ok (.aload_n 0, 1) := by decide +kernel
theorem dL_law_550 : decode cL_law 550 = .ok (.iload 5, 2) := by decide +kernel
theorem dL_law_552 : decode cL_law 552 = .ok (.iconst 2, 1) := by decide +kernel
theorem dL_law_553 : decode cL_law 553 = .ok (.iadd, 1) := by decide +kernel
theorem dL_law_554 : decode cL_law 554 = .ok (.iaload, 1) := by decide +kernel
theorem dL_law_555 : decode cL_law 555 = .ok (.invokevirtual 99, 3) := by decide +kernel
theorem dL_law_558 : decode cL_law 558 = .ok (.istore 7, 2) := by decide +kernel
theorem dL_law_560 : decode cL_law 560 = .ok (.aload_n 2, 1) := by decide +kernel
theorem dL_law_561 : decode cL_law 561 = .ok (.invokevirtual 82, 3) := by decide +kernel
theorem dL_law_564 : decode cL_law 564 = .ok (.iload 6, 2) := by decide +kernel
theorem dL_law_566 : decode cL_law 566 = .ok (.if_icmp .eq 5, 3) := by decide +kernel
theorem dL_law_569 : decode cL_law 569 = .ok (.iconst 0, 1) := by decide +kernel
theorem dL_law_570 : decode cL_law 570 = .ok (.ireturn, 1) := by decide +kernel
theorem dL_law_571 : decode cL_law 571 = .ok (.iload 6, 2) := by decide +kernel
theorem dL_law_573 : decode cL_law 573 = .ok (.ifCond .ne 15, 3) := by decide +kernel
theorem dL_law_576 : decode cL_law 576 = .ok (.aload_n 3, 1) := by decide +kernel
theorem dL_law_577 : decode cL_law 577 = .ok (.iconst 0, 1) := by decide +kernel
theorem dL_law_578 : decode cL_law 578 = .ok (.laload, 1) := by decide +kernel
theorem dL_law_579 : decode cL_law 579 = .ok (.iload 7, 2) := by decide +kernel
theorem dL_law_581 : decode cL_law 581 = .ok (.i2l, 1) := by decide +kernel
theorem dL_law_582 : decode cL_law 582 = .ok (.lcmp, 1) := by decide +kernel
theorem dL_law_583 : decode cL_law 583 = .ok (.ifCond .eq 5, 3) := by decide +kernel
theorem dL_law_586 : decode cL_law 586 = .ok (.iconst 0, 1) := by decide +kernel
theorem dL_law_587 : decode cL_law 587 = .ok (.ireturn, 1) := by decide +kernel
theorem dL_law_588 : decode cL_law 588 = .ok (.goto 956, 3) := by decide +kernel
theorem dL_law_591 : decode cL_law 591 = .ok (.aload_n 1, 1) := by decide +kernel
theorem dL_law_592 : decode cL_law 592 = .ok (.aload_n 0, 1) := by decide +kernel
theorem dL_law_593 : decode cL_law 593 = .ok (.iload 5, 2) := by decide +kernel
theorem dL_law_595 : decode cL_law 595 = .ok (.iconst 1, 1) := by decide +kernel
theorem dL_law_596 : decode cL_law 596 = .ok (.iadd, 1) := by decide +kernel
theorem dL_law_597 : decode cL_law 597 = .ok (.iaload, 1) := by decide +kernel
theorem dL_law_598 : decode cL_law 598 = .ok (.aload_n 0, 1) := by decide +kernel
theorem dL_law_599 : decode cL_law 599 = .ok (.iload 5, 2) := by decide +kernel
theorem dL_law_601 : decode cL_law 601 = .ok (.iconst 2, 1) := by decide +kernel
theorem dL_law_602 : decode cL_law 602 = .ok (.iadd, 1) := by decide +kernel
