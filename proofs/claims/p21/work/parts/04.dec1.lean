theorem dX0_init_0 : decode cX0_init 0 = .ok (.aload_n 0, 1) := by decide +kernel
theorem dX0_init_1 : decode cX0_init 1 = .ok (.invokespecial 1, 3) := by decide +kernel
theorem dX0_init_4 : decode cX0_init 4 = .ok (.aload_n 0, 1) := by decide +kernel
theorem dX0_init_5 : decode cX0_init 5 = .ok (.iload_n 1, 1) := by decide +kernel
theorem dX0_init_6 : decode cX0_init 6 = .ok (.putfield 7, 3) := by decide +kernel
theorem dX0_init_9 : decode cX0_init 9 = .ok (.aload_n 0, 1) := by decide +kernel
theorem dX0_init_10 : decode cX0_init 10 = .ok (.iload_n 2, 1) := by decide +kernel
theorem dX0_init_11 : decode cX0_init 11 = .ok (.putfield 13, 3) := by decide +kernel
theorem dX0_init_14 : decode cX0_init 14 = .ok (.aload_n 0, 1) := by decide +kernel
theorem dX0_init_15 : decode cX0_init 15 = .ok (.iload_n 3, 1) := by decide +kernel
theorem dX0_init_16 : decode cX0_init 16 = .ok (.putfield 16, 3) := by decide +kernel
theorem dX0_init_19 : decode cX0_init 19 = .ok (.return_, 1) := by decide +kernel
theorem dX1_init_0 : decode cX1_init 0 = .ok (.aload_n 0, 1) := by decide +kernel
theorem dX1_init_1 : decode cX1_init 1 = .ok (.invokespecial 3, 3) := by decide +kernel
theorem dX1_init_4 : decode cX1_init 4 = .ok (.aload_n 0, 1) := by decide +kernel
theorem dX1_init_5 : decode cX1_init 5 = .ok (.iload_n 1, 1) := by decide +kernel
theorem dX1_init_6 : decode cX1_init 6 = .ok (.putfield 9, 3) := by decide +kernel
theorem dX1_init_9 : decode cX1_init 9 = .ok (.return_, 1) := by decide +kernel
theorem dX1_isTaken_0 : decode cX1_isTaken 0 = .ok (.aload_n 0, 1) := by decide +kernel
theorem dX1_isTaken_1 : decode cX1_isTaken 1 = .ok (.getfield 15, 3) := by decide +kernel
theorem dX1_isTaken_4 : decode cX1_isTaken 4 = .ok (.ifnull 7, 3) := by decide +kernel
theorem dX1_isTaken_7 : decode cX1_isTaken 7 = .ok (.iconst 1, 1) := by decide +kernel
theorem dX1_isTaken_8 : decode cX1_isTaken 8 = .ok (.goto 4, 3) := by decide +kernel
theorem dX1_isTaken_11 : decode cX1_isTaken 11 = .ok (.iconst 0, 1) := by decide +kernel
theorem dX1_isTaken_12 : decode cX1_isTaken 12 = .ok (.ireturn, 1) := by decide +kernel
theorem dX1_isTakenBy_0 : decode cX1_isTakenBy 0 = .ok (.aload_n 0, 1) := by decide +kernel
theorem dX1_isTakenBy_1 : decode cX1_isTakenBy 1 = .ok (.getfield 15, 3) := by decide +kernel
theorem dX1_isTakenBy_4 : decode cX1_isTakenBy 4 = .ok (.ifnull 15, 3) := by decide +kernel
theorem dX1_isTakenBy_7 : decode cX1_isTakenBy 7 = .ok (.aload_n 0, 1) := by decide +kernel
theorem dX1_isTakenBy_8 : decode cX1_isTakenBy 8 = .ok (.getfield 15, 3) := by decide +kernel
theorem dX1_isTakenBy_11 : decode cX1_isTakenBy 11 = .ok (.aload_n 1, 1) := by decide +kernel
theorem dX1_isTakenBy_12 : decode cX1_isTakenBy 12 = .ok (.if_acmp .ne 7, 3) := by decide +kernel
theorem dX1_isTakenBy_15 : decode cX1_isTakenBy 15 = .ok (.iconst 1, 1) := by decide +kernel
theorem dX1_isTakenBy_16 : decode cX1_isTakenBy 16 = .ok (.goto 4, 3) := by decide +kernel
theorem dX1_isTakenBy_19 : decode cX1_isTakenBy 19 = .ok (.iconst 0, 1) := by decide +kernel
theorem dX1_isTakenBy_20 : decode cX1_isTakenBy 20 = .ok (.ireturn, 1) := by decide +kernel
theorem dX1_isMouldy_0 : decode cX1_isMouldy 0 = .ok (.aload_n 0, 1) := by decide +kernel
theorem dX1_isMouldy_1 : decode cX1_isMouldy 1 = .ok (.getfield 15, 3) := by decide +kernel
theorem dX1_isMouldy_4 : decode cX1_isMouldy 4 = .ok (.ifnull 14, 3) := by decide +kernel
theorem dX1_isMouldy_7 : decode cX1_isMouldy 7 = .ok (.aload_n 0, 1) := by decide +kernel
theorem dX1_isMouldy_8 : decode cX1_isMouldy 8 = .ok (.getfield 19, 3) := by decide +kernel
theorem dX1_isMouldy_11 : decode cX1_isMouldy 11 = .ok (.ifCond .le 7, 3) := by decide +kernel
theorem dX1_isMouldy_14 : decode cX1_isMouldy 14 = .ok (.iconst 1, 1) := by decide +kernel
theorem dX1_isMouldy_15 : decode cX1_isMouldy 15 = .ok (.goto 4, 3) := by decide +kernel
theorem dX1_isMouldy_18 : decode cX1_isMouldy 18 = .ok (.iconst 0, 1) := by decide +kernel
theorem dX1_isMouldy_19 : decode cX1_isMouldy 19 = .ok (.ireturn, 1) := by decide +kernel
theorem dX1_wetness_0 : decode cX1_wetness 0 = .ok (.aload_n 0, 1) := by decide +kernel
theorem dX1_wetness_1 : decode cX1_wetness 1 = .ok (.getfield 22, 3) := by decide +kernel
theorem dX1_wetness_4 : decode cX1_wetness 4 = .ok (.aload_n 0, 1) := by decide +kernel
theorem dX1_wetness_5 : decode cX1_wetness 5 = .ok (.getfield 25, 3) := by decide +kernel
theorem dX1_wetness_8 : decode cX1_wetness 8 = .ok (.iadd, 1) := by decide +kernel
theorem dX1_wetness_9 : decode cX1_wetness 9 = .ok (.iconst 2, 1) := by decide +kernel
theorem dX1_wetness_10 : decode cX1_wetness 10 = .ok (.idiv, 1) := by decide +kernel
theorem dX1_wetness_11 : decode cX1_wetness 11 = .ok (.ireturn, 1) := by decide +kernel
theorem dX1_fits_0 : decode cX1_fits 0 = .ok (.aload_n 0, 1) := by decide +kernel
theorem dX1_fits_1 : decode cX1_fits 1 = .ok (.aload_n 1, 1) := by decide +kernel
theorem dX1_fits_2 : decode cX1_fits 2 = .ok (.getfield 28, 3) := by decide +kernel
theorem dX1_fits_5 : decode cX1_fits 5 = .ok (.invokevirtual 31, 3) := by decide +kernel
theorem dX1_fits_8 : decode cX1_fits 8 = .ok (.ifCond .eq 25, 3) := by decide +kernel
theorem dX1_fits_11 : decode cX1_fits 11 = .ok (.aload_n 0, 1) := by decide +kernel
theorem dX1_fits_12 : decode cX1_fits 12 = .ok (.invokevirtual 35, 3) := by decide +kernel
theorem dX1_fits_15 : decode cX1_fits 15 = .ok (.aload_n 1, 1) := by decide +kernel
theorem dX1_fits_16 : decode cX1_fits 16 = .ok (.getfield 39, 3) := by decide +kernel
theorem dX1_fits_19 : decode cX1_fits 19 = .ok (.if_icmp .gt 14, 3) := by decide +kernel
theorem dX1_fits_22 : decode cX1_fits 22 = .ok (.aload_n 0, 1) := by decide +kernel
theorem dX1_fits_23 : decode cX1_fits 23 = .ok (.getfield 19, 3) := by decide +kernel
theorem dX1_fits_26 : decode cX1_fits 26 = .ok (.ifCond .ne 7, 3) := by decide +kernel
theorem dX1_fits_29 : decode cX1_fits 29 = .ok (.iconst 1, 1) := by decide +kernel
theorem dX1_fits_30 : decode cX1_fits 30 = .ok (.goto 4, 3) := by decide +kernel
theorem dX1_fits_33 : decode cX1_fits 33 = .ok (.iconst 0, 1) := by decide +kernel
theorem dX1_fits_34 : decode cX1_fits 34 = .ok (.ireturn, 1) := by decide +kernel
theorem dX1_receiveNew_0 : decode cX1_receiveNew 0 = .ok (.aload_n 0, 1) := by decide +kernel
theorem dX1_receiveNew_1 : decode cX1_receiveNew 1 = .ok (.aload_n 1, 1) := by decide +kernel
theorem dX1_receiveNew_2 : decode cX1_receiveNew 2 = .ok (.putfield 15, 3) := by decide +kernel
theorem dX1_receiveNew_5 : decode cX1_receiveNew 5 = .ok (.aload_n 0, 1) := by decide +kernel
theorem dX1_receiveNew_6 : decode cX1_receiveNew 6 = .ok (.iload_n 2, 1) := by decide +kernel
theorem dX1_receiveNew_7 : decode cX1_receiveNew 7 = .ok (.putfield 22, 3) := by decide +kernel
theorem dX1_receiveNew_10 : decode cX1_receiveNew 10 = .ok (.aload_n 0, 1) := by decide +kernel
theorem dX1_receiveNew_11 : decode cX1_receiveNew 11 = .ok (.iload_n 2, 1) := by decide +kernel
theorem dX1_receiveNew_12 : decode cX1_receiveNew 12 = .ok (.putfield 25, 3) := by decide +kernel
theorem dX1_receiveNew_15 : decode cX1_receiveNew 15 = .ok (.aload_n 0, 1) := by decide +kernel
theorem dX1_receiveNew_16 : decode cX1_receiveNew 16 = .ok (.iconst 0, 1) := by decide +kernel
theorem dX1_receiveNew_17 : decode cX1_receiveNew 17 = .ok (.putfield 42, 3) := by decide +kernel
theorem dX1_receiveNew_20 : decode cX1_receiveNew 20 = .ok (.aload_n 0, 1) := by decide +kernel
theorem dX1_receiveNew_21 : decode cX1_receiveNew 21 = .ok (.iconst 0, 1) := by decide +kernel
theorem dX1_receiveNew_22 : decode cX1_receiveNew 22 = .ok (.putfield 19, 3) := by decide +kernel
theorem dX1_receiveNew_25 : decode cX1_receiveNew 25 = .ok (.return_, 1) := by decide +kernel
theorem dX1_clear_0 : decode cX1_clear 0 = .ok (.aload_n 0, 1) := by decide +kernel
theorem dX1_clear_1 : decode cX1_clear 1 = .ok (.aconst_null, 1) := by decide +kernel
theorem dX1_clear_2 : decode cX1_clear 2 = .ok (.iconst 0, 1) := by decide +kernel
theorem dX1_clear_3 : decode cX1_clear 3 = .ok (.invokevirtual 45, 3) := by decide +kernel
theorem dX1_clear_6 : decode cX1_clear 6 = .ok (.return_, 1) := by decide +kernel
theorem dX1_copyBundleOf_0 : decode cX1_copyBundleOf 0 = .ok (.aload_n 0, 1) := by decide +kernel
theorem dX1_copyBundleOf_1 : decode cX1_copyBundleOf 1 = .ok (.aload_n 1, 1) := by decide +kernel
theorem dX1_copyBundleOf_2 : decode cX1_copyBundleOf 2 = .ok (.getfield 15, 3) := by decide +kernel
theorem dX1_copyBundleOf_5 : decode cX1_copyBundleOf 5 = .ok (.putfield 15, 3) := by decide +kernel
theorem dX1_copyBundleOf_8 : decode cX1_copyBundleOf 8 = .ok (.aload_n 0, 1) := by decide +kernel
theorem dX1_copyBundleOf_9 : decode cX1_copyBundleOf 9 = .ok (.aload_n 1, 1) := by decide +kernel
theorem dX1_copyBundleOf_10 : decode cX1_copyBundleOf 10 = .ok (.getfield 22, 3) := by decide +kernel
theorem dX1_copyBundleOf_13 : decode cX1_copyBundleOf 13 = .ok (.putfield 22, 3) := by decide +kernel
theorem dX1_copyBundleOf_16 : decode cX1_copyBundleOf 16 = .ok (.aload_n 0, 1) := by decide +kernel
theorem dX1_copyBundleOf_17 : decode cX1_copyBundleOf 17 = .ok (.aload_n 1, 1) := by decide +kernel
theorem dX1_copyBundleOf_18 : decode cX1_copyBundleOf 18 = .ok (.getfield 25, 3) := by decide +kernel
theorem dX1_copyBundleOf_21 : decode cX1_copyBundleOf 21 = .ok (.putfield 25, 3) := by decide +kernel
theorem dX1_copyBundleOf_24 : decode cX1_copyBundleOf 24 = .ok (.aload_n 0, 1) := by decide +kernel
theorem dX1_copyBundleOf_25 : decode cX1_copyBundleOf 25 = .ok (.aload_n 1, 1) := by decide +kernel
theorem dX1_copyBundleOf_26 : decode cX1_copyBundleOf 26 = .ok (.getfield 42, 3) := by decide +kernel
theorem dX1_copyBundleOf_29 : decode cX1_copyBundleOf 29 = .ok (.putfield 42, 3) := by decide +kernel
theorem dX1_copyBundleOf_32 : decode cX1_copyBundleOf 32 = .ok (.aload_n 0, 1) := by decide +kernel
theorem dX1_copyBundleOf_33 : decode cX1_copyBundleOf 33 = .ok (.aload_n 1, 1) := by decide +kernel
theorem dX1_copyBundleOf_34 : decode cX1_copyBundleOf 34 = .ok (.getfield 19, 3) := by decide +kernel
theorem dX1_copyBundleOf_37 : decode cX1_copyBundleOf 37 = .ok (.putfield 19, 3) := by decide +kernel
theorem dX1_copyBundleOf_40 : decode cX1_copyBundleOf 40 = .ok (.return_, 1) := by decide +kernel
theorem dX1_exchangeSides_0 : decode cX1_exchangeSides 0 = .ok (.aload_n 0, 1) := by decide +kernel
theorem dX1_exchangeSides_1 : decode cX1_exchangeSides 1 = .ok (.getfield 22, 3) := by decide +kernel
theorem dX1_exchangeSides_4 : decode cX1_exchangeSides 4 = .ok (.istore_n 1, 1) := by decide +kernel
theorem dX1_exchangeSides_5 : decode cX1_exchangeSides 5 = .ok (.aload_n 0, 1) := by decide +kernel
theorem dX1_exchangeSides_6 : decode cX1_exchangeSides 6 = .ok (.aload_n 0, 1) := by decide +kernel
theorem dX1_exchangeSides_7 : decode cX1_exchangeSides 7 = .ok (.getfield 25, 3) := by decide +kernel
theorem dX1_exchangeSides_10 : decode cX1_exchangeSides 10 = .ok (.putfield 22, 3) := by decide +kernel
theorem dX1_exchangeSides_13 : decode cX1_exchangeSides 13 = .ok (.aload_n 0, 1) := by decide +kernel
theorem dX1_exchangeSides_14 : decode cX1_exchangeSides 14 = .ok (.iload_n 1, 1) := by decide +kernel
theorem dX1_exchangeSides_15 : decode cX1_exchangeSides 15 = .ok (.putfield 25, 3) := by decide +kernel
theorem dX1_exchangeSides_18 : decode cX1_exchangeSides 18 = .ok (.return_, 1) := by decide +kernel
theorem dX1_neighbours_0 : decode cX1_neighbours 0 = .ok (.iconst 0, 1) := by decide +kernel
theorem dX1_neighbours_1 : decode cX1_neighbours 1 = .ok (.istore_n 1, 1) := by decide +kernel
theorem dX1_neighbours_2 : decode cX1_neighbours 2 = .ok (.aload_n 0, 1) := by decide +kernel
theorem dX1_neighbours_3 : decode cX1_neighbours 3 = .ok (.getfield 49, 3) := by decide +kernel
theorem dX1_neighbours_6 : decode cX1_neighbours 6 = .ok (.ifnull 16, 3) := by decide +kernel
theorem dX1_neighbours_9 : decode cX1_neighbours 9 = .ok (.aload_n 0, 1) := by decide +kernel
theorem dX1_neighbours_10 : decode cX1_neighbours 10 = .ok (.getfield 49, 3) := by decide +kernel
theorem dX1_neighbours_13 : decode cX1_neighbours 13 = .ok (.invokevirtual 53, 3) := by decide +kernel
theorem dX1_neighbours_16 : decode cX1_neighbours 16 = .ok (.ifCond .eq 6, 3) := by decide +kernel
theorem dX1_neighbours_19 : decode cX1_neighbours 19 = .ok (.iinc 1 1, 3) := by decide +kernel
theorem dX1_neighbours_22 : decode cX1_neighbours 22 = .ok (.aload_n 0, 1) := by decide +kernel
theorem dX1_neighbours_23 : decode cX1_neighbours 23 = .ok (.getfield 57, 3) := by decide +kernel
theorem dX1_neighbours_26 : decode cX1_neighbours 26 = .ok (.ifnull 16, 3) := by decide +kernel
theorem dX1_neighbours_29 : decode cX1_neighbours 29 = .ok (.aload_n 0, 1) := by decide +kernel
theorem dX1_neighbours_30 : decode cX1_neighbours 30 = .ok (.getfield 57, 3) := by decide +kernel
theorem dX1_neighbours_33 : decode cX1_neighbours 33 = .ok (.invokevirtual 53, 3) := by decide +kernel
theorem dX1_neighbours_36 : decode cX1_neighbours 36 = .ok (.ifCond .eq 6, 3) := by decide +kernel
theorem dX1_neighbours_39 : decode cX1_neighbours 39 = .ok (.iinc 1 1, 3) := by decide +kernel
theorem dX1_neighbours_42 : decode cX1_neighbours 42 = .ok (.iload_n 1, 1) := by decide +kernel
theorem dX1_neighbours_43 : decode cX1_neighbours 43 = .ok (.ireturn, 1) := by decide +kernel
theorem dX1_wetterNeighbours_0 : decode cX1_wetterNeighbours 0 = .ok (.iconst 0, 1) := by decide +kernel
theorem dX1_wetterNeighbours_1 : decode cX1_wetterNeighbours 1 = .ok (.istore_n 1, 1) := by decide +kernel
theorem dX1_wetterNeighbours_2 : decode cX1_wetterNeighbours 2 = .ok (.aload_n 0, 1) := by decide +kernel
theorem dX1_wetterNeighbours_3 : decode cX1_wetterNeighbours 3 = .ok (.getfield 49, 3) := by decide +kernel
theorem dX1_wetterNeighbours_6 : decode cX1_wetterNeighbours 6 = .ok (.ifnull 17, 3) := by decide +kernel
theorem dX1_wetterNeighbours_9 : decode cX1_wetterNeighbours 9 = .ok (.aload_n 0, 1) := by decide +kernel
theorem dX1_wetterNeighbours_10 : decode cX1_wetterNeighbours 10 = .ok (.getfield 49, 3) := by decide +kernel
theorem dX1_wetterNeighbours_13 : decode cX1_wetterNeighbours 13 = .ok (.aload_n 0, 1) := by decide +kernel
theorem dX1_wetterNeighbours_14 : decode cX1_wetterNeighbours 14 = .ok (.invokevirtual 60, 3) := by decide +kernel
theorem dX1_wetterNeighbours_17 : decode cX1_wetterNeighbours 17 = .ok (.ifCond .eq 6, 3) := by decide +kernel
theorem dX1_wetterNeighbours_20 : decode cX1_wetterNeighbours 20 = .ok (.iinc 1 1, 3) := by decide +kernel
theorem dX1_wetterNeighbours_23 : decode cX1_wetterNeighbours 23 = .ok (.aload_n 0, 1) := by decide +kernel
theorem dX1_wetterNeighbours_24 : decode cX1_wetterNeighbours 24 = .ok (.getfield 57, 3) := by decide +kernel
theorem dX1_wetterNeighbours_27 : decode cX1_wetterNeighbours 27 = .ok (.ifnull 17, 3) := by decide +kernel
theorem dX1_wetterNeighbours_30 : decode cX1_wetterNeighbours 30 = .ok (.aload_n 0, 1) := by decide +kernel
theorem dX1_wetterNeighbours_31 : decode cX1_wetterNeighbours 31 = .ok (.getfield 57, 3) := by decide +kernel
theorem dX1_wetterNeighbours_34 : decode cX1_wetterNeighbours 34 = .ok (.aload_n 0, 1) := by decide +kernel
theorem dX1_wetterNeighbours_35 : decode cX1_wetterNeighbours 35 = .ok (.invokevirtual 60, 3) := by decide +kernel
theorem dX1_wetterNeighbours_38 : decode cX1_wetterNeighbours 38 = .ok (.ifCond .eq 6, 3) := by decide +kernel
theorem dX1_wetterNeighbours_41 : decode cX1_wetterNeighbours 41 = .ok (.iinc 1 1, 3) := by decide +kernel
theorem dX1_wetterNeighbours_44 : decode cX1_wetterNeighbours 44 = .ok (.iload_n 1, 1) := by decide +kernel
theorem dX1_wetterNeighbours_45 : decode cX1_wetterNeighbours 45 = .ok (.ireturn, 1) := by decide +kernel
theorem dX1_isWetterThan_0 : decode cX1_isWetterThan 0 = .ok (.aload_n 0, 1) := by decide +kernel
theorem dX1_isWetterThan_1 : decode cX1_isWetterThan 1 = .ok (.invokevirtual 53, 3) := by decide +kernel
theorem dX1_isWetterThan_4 : decode cX1_isWetterThan 4 = .ok (.ifCond .eq 18, 3) := by decide +kernel
theorem dX1_isWetterThan_7 : decode cX1_isWetterThan 7 = .ok (.aload_n 0, 1) := by decide +kernel
theorem dX1_isWetterThan_8 : decode cX1_isWetterThan 8 = .ok (.invokevirtual 35, 3) := by decide +kernel
theorem dX1_isWetterThan_11 : decode cX1_isWetterThan 11 = .ok (.aload_n 1, 1) := by decide +kernel
theorem dX1_isWetterThan_12 : decode cX1_isWetterThan 12 = .ok (.invokevirtual 35, 3) := by decide +kernel
theorem dX1_isWetterThan_15 : decode cX1_isWetterThan 15 = .ok (.if_icmp .le 7, 3) := by decide +kernel
theorem dX1_isWetterThan_18 : decode cX1_isWetterThan 18 = .ok (.iconst 1, 1) := by decide +kernel
theorem dX1_isWetterThan_19 : decode cX1_isWetterThan 19 = .ok (.goto 4, 3) := by decide +kernel
theorem dX1_isWetterThan_22 : decode cX1_isWetterThan 22 = .ok (.iconst 0, 1) := by decide +kernel
theorem dX1_isWetterThan_23 : decode cX1_isWetterThan 23 = .ok (.ireturn, 1) := by decide +kernel
theorem dX1_spreadsMould_0 : decode cX1_spreadsMould 0 = .ok (.aload_n 0, 1) := by decide +kernel
theorem dX1_spreadsMould_1 : decode cX1_spreadsMould 1 = .ok (.invokevirtual 53, 3) := by decide +kernel
theorem dX1_spreadsMould_4 : decode cX1_spreadsMould 4 = .ok (.ifCond .eq 15, 3) := by decide +kernel
theorem dX1_spreadsMould_7 : decode cX1_spreadsMould 7 = .ok (.aload_n 0, 1) := by decide +kernel
theorem dX1_spreadsMould_8 : decode cX1_spreadsMould 8 = .ok (.getfield 19, 3) := by decide +kernel
theorem dX1_spreadsMould_11 : decode cX1_spreadsMould 11 = .ok (.iconst 3, 1) := by decide +kernel
theorem dX1_spreadsMould_12 : decode cX1_spreadsMould 12 = .ok (.if_icmp .lt 7, 3) := by decide +kernel
theorem dX1_spreadsMould_15 : decode cX1_spreadsMould 15 = .ok (.iconst 1, 1) := by decide +kernel
theorem dX1_spreadsMould_16 : decode cX1_spreadsMould 16 = .ok (.goto 4, 3) := by decide +kernel
theorem dX1_spreadsMould_19 : decode cX1_spreadsMould 19 = .ok (.iconst 0, 1) := by decide +kernel
theorem dX1_spreadsMould_20 : decode cX1_spreadsMould 20 = .ok (.ireturn, 1) := by decide +kernel
theorem dX1_beginDay_0 : decode cX1_beginDay 0 = .ok (.aload_n 0, 1) := by decide +kernel
theorem dX1_beginDay_1 : decode cX1_beginDay 1 = .ok (.getfield 15, 3) := by decide +kernel
theorem dX1_beginDay_4 : decode cX1_beginDay 4 = .ok (.ifnonnull 4, 3) := by decide +kernel
theorem dX1_beginDay_7 : decode cX1_beginDay 7 = .ok (.return_, 1) := by decide +kernel
theorem dX1_beginDay_8 : decode cX1_beginDay 8 = .ok (.aload_n 0, 1) := by decide +kernel
theorem dX1_beginDay_9 : decode cX1_beginDay 9 = .ok (.iconst 0, 1) := by decide +kernel
theorem dX1_beginDay_10 : decode cX1_beginDay 10 = .ok (.aload_n 0, 1) := by decide +kernel
theorem dX1_beginDay_11 : decode cX1_beginDay 11 = .ok (.getfield 15, 3) := by decide +kernel
theorem dX1_beginDay_14 : decode cX1_beginDay 14 = .ok (.getfield 64, 3) := by decide +kernel
theorem dX1_beginDay_17 : decode cX1_beginDay 17 = .ok (.aload_n 0, 1) := by decide +kernel
theorem dX1_beginDay_18 : decode cX1_beginDay 18 = .ok (.getfield 9, 3) := by decide +kernel
theorem dX1_beginDay_21 : decode cX1_beginDay 21 = .ok (.iadd, 1) := by decide +kernel
theorem dX1_beginDay_22 : decode cX1_beginDay 22 = .ok (.iconst 2, 1) := by decide +kernel
theorem dX1_beginDay_23 : decode cX1_beginDay 23 = .ok (.iload_n 1, 1) := by decide +kernel
theorem dX1_beginDay_24 : decode cX1_beginDay 24 = .ok (.imul, 1) := by decide +kernel
theorem dX1_beginDay_25 : decode cX1_beginDay 25 = .ok (.iadd, 1) := by decide +kernel
theorem dX1_beginDay_26 : decode cX1_beginDay 26 = .ok (.iload_n 2, 1) := by decide +kernel
theorem dX1_beginDay_27 : decode cX1_beginDay 27 = .ok (.isub, 1) := by decide +kernel
theorem dX1_beginDay_28 : decode cX1_beginDay 28 = .ok (.aload_n 0, 1) := by decide +kernel
theorem dX1_beginDay_29 : decode cX1_beginDay 29 = .ok (.invokevirtual 69, 3) := by decide +kernel
theorem dX1_beginDay_32 : decode cX1_beginDay 32 = .ok (.isub, 1) := by decide +kernel
theorem dX1_beginDay_33 : decode cX1_beginDay 33 = .ok (.invokestatic 72, 3) := by decide +kernel
theorem dX1_beginDay_36 : decode cX1_beginDay 36 = .ok (.putfield 78, 3) := by decide +kernel
theorem dX1_beginDay_39 : decode cX1_beginDay 39 = .ok (.aload_n 0, 1) := by decide +kernel
theorem dX1_beginDay_40 : decode cX1_beginDay 40 = .ok (.aload_n 0, 1) := by decide +kernel
theorem dX1_beginDay_41 : decode cX1_beginDay 41 = .ok (.getfield 49, 3) := by decide +kernel
theorem dX1_beginDay_44 : decode cX1_beginDay 44 = .ok (.ifnull 13, 3) := by decide +kernel
theorem dX1_beginDay_47 : decode cX1_beginDay 47 = .ok (.aload_n 0, 1) := by decide +kernel
theorem dX1_beginDay_48 : decode cX1_beginDay 48 = .ok (.getfield 49, 3) := by decide +kernel
theorem dX1_beginDay_51 : decode cX1_beginDay 51 = .ok (.invokevirtual 81, 3) := by decide +kernel
theorem dX1_beginDay_54 : decode cX1_beginDay 54 = .ok (.ifCond .ne 20, 3) := by decide +kernel
theorem dX1_beginDay_57 : decode cX1_beginDay 57 = .ok (.aload_n 0, 1) := by decide +kernel
theorem dX1_beginDay_58 : decode cX1_beginDay 58 = .ok (.getfield 57, 3) := by decide +kernel
theorem dX1_beginDay_61 : decode cX1_beginDay 61 = .ok (.ifnull 17, 3) := by decide +kernel
theorem dX1_beginDay_64 : decode cX1_beginDay 64 = .ok (.aload_n 0, 1) := by decide +kernel
theorem dX1_beginDay_65 : decode cX1_beginDay 65 = .ok (.getfield 57, 3) := by decide +kernel
theorem dX1_beginDay_68 : decode cX1_beginDay 68 = .ok (.invokevirtual 81, 3) := by decide +kernel
theorem dX1_beginDay_71 : decode cX1_beginDay 71 = .ok (.ifCond .eq 7, 3) := by decide +kernel
theorem dX1_beginDay_74 : decode cX1_beginDay 74 = .ok (.iconst 1, 1) := by decide +kernel
theorem dX1_beginDay_75 : decode cX1_beginDay 75 = .ok (.goto 4, 3) := by decide +kernel
theorem dX1_beginDay_78 : decode cX1_beginDay 78 = .ok (.iconst 0, 1) := by decide +kernel
theorem dX1_beginDay_79 : decode cX1_beginDay 79 = .ok (.putfield 84, 3) := by decide +kernel
theorem dX1_beginDay_82 : decode cX1_beginDay 82 = .ok (.return_, 1) := by decide +kernel
theorem dX1_endDay_0 : decode cX1_endDay 0 = .ok (.aload_n 0, 1) := by decide +kernel
theorem dX1_endDay_1 : decode cX1_endDay 1 = .ok (.getfield 15, 3) := by decide +kernel
theorem dX1_endDay_4 : decode cX1_endDay 4 = .ok (.ifnonnull 4, 3) := by decide +kernel
theorem dX1_endDay_7 : decode cX1_endDay 7 = .ok (.return_, 1) := by decide +kernel
theorem dX1_endDay_8 : decode cX1_endDay 8 = .ok (.aload_n 0, 1) := by decide +kernel
theorem dX1_endDay_9 : decode cX1_endDay 9 = .ok (.iconst 0, 1) := by decide +kernel
theorem dX1_endDay_10 : decode cX1_endDay 10 = .ok (.aload_n 0, 1) := by decide +kernel
theorem dX1_endDay_11 : decode cX1_endDay 11 = .ok (.getfield 22, 3) := by decide +kernel
theorem dX1_endDay_14 : decode cX1_endDay 14 = .ok (.aload_n 0, 1) := by decide +kernel
theorem dX1_endDay_15 : decode cX1_endDay 15 = .ok (.getfield 78, 3) := by decide +kernel
theorem dX1_endDay_18 : decode cX1_endDay 18 = .ok (.isub, 1) := by decide +kernel
theorem dX1_endDay_19 : decode cX1_endDay 19 = .ok (.invokestatic 72, 3) := by decide +kernel
theorem dX1_endDay_22 : decode cX1_endDay 22 = .ok (.putfield 22, 3) := by decide +kernel
theorem dX1_endDay_25 : decode cX1_endDay 25 = .ok (.aload_n 0, 1) := by decide +kernel
theorem dX1_endDay_26 : decode cX1_endDay 26 = .ok (.iconst 0, 1) := by decide +kernel
theorem dX1_endDay_27 : decode cX1_endDay 27 = .ok (.aload_n 0, 1) := by decide +kernel
theorem dX1_endDay_28 : decode cX1_endDay 28 = .ok (.getfield 25, 3) := by decide +kernel
theorem dX1_endDay_31 : decode cX1_endDay 31 = .ok (.aload_n 0, 1) := by decide +kernel
theorem dX1_endDay_32 : decode cX1_endDay 32 = .ok (.getfield 78, 3) := by decide +kernel
theorem dX1_endDay_35 : decode cX1_endDay 35 = .ok (.iconst 2, 1) := by decide +kernel
theorem dX1_endDay_36 : decode cX1_endDay 36 = .ok (.idiv, 1) := by decide +kernel
theorem dX1_endDay_37 : decode cX1_endDay 37 = .ok (.isub, 1) := by decide +kernel
theorem dX1_endDay_38 : decode cX1_endDay 38 = .ok (.invokestatic 72, 3) := by decide +kernel
theorem dX1_endDay_41 : decode cX1_endDay 41 = .ok (.putfield 25, 3) := by decide +kernel
theorem dX1_endDay_44 : decode cX1_endDay 44 = .ok (.aload_n 0, 1) := by decide +kernel
theorem dX1_endDay_45 : decode cX1_endDay 45 = .ok (.aload_n 0, 1) := by decide +kernel
theorem dX1_endDay_46 : decode cX1_endDay 46 = .ok (.invokevirtual 35, 3) := by decide +kernel
theorem dX1_endDay_49 : decode cX1_endDay 49 = .ok (.aload_n 0, 1) := by decide +kernel
theorem dX1_endDay_50 : decode cX1_endDay 50 = .ok (.getfield 15, 3) := by decide +kernel
theorem dX1_endDay_53 : decode cX1_endDay 53 = .ok (.getfield 88, 3) := by decide +kernel
theorem dX1_endDay_56 : decode cX1_endDay 56 = .ok (.if_icmp .le 12, 3) := by decide +kernel
theorem dX1_endDay_59 : decode cX1_endDay 59 = .ok (.aload_n 0, 1) := by decide +kernel
theorem dX1_endDay_60 : decode cX1_endDay 60 = .ok (.getfield 42, 3) := by decide +kernel
theorem dX1_endDay_63 : decode cX1_endDay 63 = .ok (.iconst 1, 1) := by decide +kernel
theorem dX1_endDay_64 : decode cX1_endDay 64 = .ok (.iadd, 1) := by decide +kernel
theorem dX1_endDay_65 : decode cX1_endDay 65 = .ok (.goto 4, 3) := by decide +kernel
theorem dX1_endDay_68 : decode cX1_endDay 68 = .ok (.iconst 0, 1) := by decide +kernel
theorem dX1_endDay_69 : decode cX1_endDay 69 = .ok (.putfield 42, 3) := by decide +kernel
theorem dX1_endDay_72 : decode cX1_endDay 72 = .ok (.aload_n 0, 1) := by decide +kernel
theorem dX1_endDay_73 : decode cX1_endDay 73 = .ok (.getfield 42, 3) := by decide +kernel
theorem dX1_endDay_76 : decode cX1_endDay 76 = .ok (.iconst 3, 1) := by decide +kernel
theorem dX1_endDay_77 : decode cX1_endDay 77 = .ok (.if_icmp .lt 18, 3) := by decide +kernel
theorem dX1_endDay_80 : decode cX1_endDay 80 = .ok (.aload_n 0, 1) := by decide +kernel
theorem dX1_endDay_81 : decode cX1_endDay 81 = .ok (.bipush 9, 2) := by decide +kernel
theorem dX1_endDay_83 : decode cX1_endDay 83 = .ok (.aload_n 0, 1) := by decide +kernel
theorem dX1_endDay_84 : decode cX1_endDay 84 = .ok (.getfield 19, 3) := by decide +kernel
theorem dX1_endDay_87 : decode cX1_endDay 87 = .ok (.iconst 1, 1) := by decide +kernel
theorem dX1_endDay_88 : decode cX1_endDay 88 = .ok (.iadd, 1) := by decide +kernel
theorem dX1_endDay_89 : decode cX1_endDay 89 = .ok (.invokestatic 91, 3) := by decide +kernel
theorem dX1_endDay_92 : decode cX1_endDay 92 = .ok (.putfield 19, 3) := by decide +kernel
theorem dX1_endDay_95 : decode cX1_endDay 95 = .ok (.aload_n 0, 1) := by decide +kernel
theorem dX1_endDay_96 : decode cX1_endDay 96 = .ok (.getfield 19, 3) := by decide +kernel
theorem dX1_endDay_99 : decode cX1_endDay 99 = .ok (.ifCond .ne 15, 3) := by decide +kernel
theorem dX1_endDay_102 : decode cX1_endDay 102 = .ok (.aload_n 0, 1) := by decide +kernel
theorem dX1_endDay_103 : decode cX1_endDay 103 = .ok (.getfield 84, 3) := by decide +kernel
theorem dX1_endDay_106 : decode cX1_endDay 106 = .ok (.ifCond .eq 8, 3) := by decide +kernel
theorem dX1_endDay_109 : decode cX1_endDay 109 = .ok (.aload_n 0, 1) := by decide +kernel
theorem dX1_endDay_110 : decode cX1_endDay 110 = .ok (.iconst 1, 1) := by decide +kernel
theorem dX1_endDay_111 : decode cX1_endDay 111 = .ok (.putfield 19, 3) := by decide +kernel
theorem dX1_endDay_114 : decode cX1_endDay 114 = .ok (.return_, 1) := by decide +kernel
theorem dX1_tells_0 : decode cX1_tells 0 = .ok (.aload_n 0, 1) := by decide +kernel
theorem dX1_tells_1 : decode cX1_tells 1 = .ok (.getfield 15, 3) := by decide +kernel
theorem dX1_tells_4 : decode cX1_tells 4 = .ok (.ifnonnull 5, 3) := by decide +kernel
theorem dX1_tells_7 : decode cX1_tells 7 = .ok (.iconst (-1), 1) := by decide +kernel
theorem dX1_tells_8 : decode cX1_tells 8 = .ok (.ireturn, 1) := by decide +kernel
theorem dX1_tells_9 : decode cX1_tells 9 = .ok (.iload_n 1, 1) := by decide +kernel
theorem dX1_tells_10 : decode cX1_tells 10 = .ok (.tableswitch 80 0 6 #[42, 50, 55, 60, 65, 70, 75], 42) := by decide +kernel
theorem dX1_tells_52 : decode cX1_tells 52 = .ok (.aload_n 0, 1) := by decide +kernel
theorem dX1_tells_53 : decode cX1_tells 53 = .ok (.getfield 15, 3) := by decide +kernel
theorem dX1_tells_56 : decode cX1_tells 56 = .ok (.getfield 94, 3) := by decide +kernel
theorem dX1_tells_59 : decode cX1_tells 59 = .ok (.ireturn, 1) := by decide +kernel
theorem dX1_tells_60 : decode cX1_tells 60 = .ok (.aload_n 0, 1) := by decide +kernel
theorem dX1_tells_61 : decode cX1_tells 61 = .ok (.getfield 22, 3) := by decide +kernel
theorem dX1_tells_64 : decode cX1_tells 64 = .ok (.ireturn, 1) := by decide +kernel
theorem dX1_tells_65 : decode cX1_tells 65 = .ok (.aload_n 0, 1) := by decide +kernel
theorem dX1_tells_66 : decode cX1_tells 66 = .ok (.getfield 25, 3) := by decide +kernel
theorem dX1_tells_69 : decode cX1_tells 69 = .ok (.ireturn, 1) := by decide +kernel
theorem dX1_tells_70 : decode cX1_tells 70 = .ok (.aload_n 0, 1) := by decide +kernel
theorem dX1_tells_71 : decode cX1_tells 71 = .ok (.invokevirtual 35, 3) := by decide +kernel
theorem dX1_tells_74 : decode cX1_tells 74 = .ok (.ireturn, 1) := by decide +kernel
theorem dX1_tells_75 : decode cX1_tells 75 = .ok (.aload_n 0, 1) := by decide +kernel
theorem dX1_tells_76 : decode cX1_tells 76 = .ok (.getfield 42, 3) := by decide +kernel
theorem dX1_tells_79 : decode cX1_tells 79 = .ok (.ireturn, 1) := by decide +kernel
theorem dX1_tells_80 : decode cX1_tells 80 = .ok (.aload_n 0, 1) := by decide +kernel
theorem dX1_tells_81 : decode cX1_tells 81 = .ok (.getfield 19, 3) := by decide +kernel
theorem dX1_tells_84 : decode cX1_tells 84 = .ok (.ireturn, 1) := by decide +kernel
theorem dX1_tells_85 : decode cX1_tells 85 = .ok (.aload_n 0, 1) := by decide +kernel
theorem dX1_tells_86 : decode cX1_tells 86 = .ok (.invokevirtual 97, 3) := by decide +kernel
theorem dX1_tells_89 : decode cX1_tells 89 = .ok (.ireturn, 1) := by decide +kernel
theorem dX1_tells_90 : decode cX1_tells 90 = .ok (.aload_n 0, 1) := by decide +kernel
theorem dX1_tells_91 : decode cX1_tells 91 = .ok (.invokevirtual 69, 3) := by decide +kernel
theorem dX1_tells_94 : decode cX1_tells 94 = .ok (.ireturn, 1) := by decide +kernel
theorem dX2_init_0 : decode cX2_init 0 = .ok (.aload_n 0, 1) := by decide +kernel
theorem dX2_init_1 : decode cX2_init 1 = .ok (.invokespecial 1, 3) := by decide +kernel
theorem dX2_init_4 : decode cX2_init 4 = .ok (.aload_n 0, 1) := by decide +kernel
theorem dX2_init_5 : decode cX2_init 5 = .ok (.aload_n 1, 1) := by decide +kernel
theorem dX2_init_6 : decode cX2_init 6 = .ok (.putfield 7, 3) := by decide +kernel
theorem dX2_init_9 : decode cX2_init 9 = .ok (.aload_n 0, 1) := by decide +kernel
theorem dX2_init_10 : decode cX2_init 10 = .ok (.iload_n 2, 1) := by decide +kernel
theorem dX2_init_11 : decode cX2_init 11 = .ok (.putfield 13, 3) := by decide +kernel
theorem dX2_init_14 : decode cX2_init 14 = .ok (.aload_n 0, 1) := by decide +kernel
theorem dX2_init_15 : decode cX2_init 15 = .ok (.iload_n 3, 1) := by decide +kernel
theorem dX2_init_16 : decode cX2_init 16 = .ok (.putfield 17, 3) := by decide +kernel
theorem dX2_init_19 : decode cX2_init 19 = .ok (.aload_n 0, 1) := by decide +kernel
theorem dX2_init_20 : decode cX2_init 20 = .ok (.iconst 0, 1) := by decide +kernel
theorem dX2_init_21 : decode cX2_init 21 = .ok (.putfield 20, 3) := by decide +kernel
theorem dX2_init_24 : decode cX2_init 24 = .ok (.return_, 1) := by decide +kernel
theorem dX2_needsSome_0 : decode cX2_needsSome 0 = .ok (.aload_n 0, 1) := by decide +kernel
theorem dX2_needsSome_1 : decode cX2_needsSome 1 = .ok (.getfield 20, 3) := by decide +kernel
theorem dX2_needsSome_4 : decode cX2_needsSome 4 = .ok (.aload_n 0, 1) := by decide +kernel
theorem dX2_needsSome_5 : decode cX2_needsSome 5 = .ok (.getfield 13, 3) := by decide +kernel
theorem dX2_needsSome_8 : decode cX2_needsSome 8 = .ok (.if_icmp .ge 7, 3) := by decide +kernel
theorem dX2_needsSome_11 : decode cX2_needsSome 11 = .ok (.iconst 1, 1) := by decide +kernel
theorem dX2_needsSome_12 : decode cX2_needsSome 12 = .ok (.goto 4, 3) := by decide +kernel
theorem dX2_needsSome_15 : decode cX2_needsSome 15 = .ok (.iconst 0, 1) := by decide +kernel
theorem dX2_needsSome_16 : decode cX2_needsSome 16 = .ok (.ireturn, 1) := by decide +kernel
theorem dX3_init_0 : decode cX3_init 0 = .ok (.aload_n 0, 1) := by decide +kernel
theorem dX3_init_1 : decode cX3_init 1 = .ok (.invokespecial 3, 3) := by decide +kernel
theorem dX3_init_4 : decode cX3_init 4 = .ok (.aload_n 0, 1) := by decide +kernel
theorem dX3_init_5 : decode cX3_init 5 = .ok (.bipush 40, 2) := by decide +kernel
theorem dX3_init_7 : decode cX3_init 7 = .ok (.anewarray 9, 3) := by decide +kernel
theorem dX3_init_10 : decode cX3_init 10 = .ok (.putfield 11, 3) := by decide +kernel
theorem dX3_init_13 : decode cX3_init 13 = .ok (.iconst 0, 1) := by decide +kernel
theorem dX3_init_14 : decode cX3_init 14 = .ok (.istore_n 1, 1) := by decide +kernel
theorem dX3_init_15 : decode cX3_init 15 = .ok (.iload_n 1, 1) := by decide +kernel
theorem dX3_init_16 : decode cX3_init 16 = .ok (.iconst 5, 1) := by decide +kernel
theorem dX3_init_17 : decode cX3_init 17 = .ok (.if_icmp .ge 67, 3) := by decide +kernel
theorem dX3_init_20 : decode cX3_init 20 = .ok (.aconst_null, 1) := by decide +kernel
theorem dX3_init_21 : decode cX3_init 21 = .ok (.astore_n 2, 1) := by decide +kernel
theorem dX3_init_22 : decode cX3_init 22 = .ok (.iconst 0, 1) := by decide +kernel
theorem dX3_init_23 : decode cX3_init 23 = .ok (.istore_n 3, 1) := by decide +kernel
theorem dX3_init_24 : decode cX3_init 24 = .ok (.iload_n 3, 1) := by decide +kernel
theorem dX3_init_25 : decode cX3_init 25 = .ok (.bipush 8, 2) := by decide +kernel
theorem dX3_init_27 : decode cX3_init 27 = .ok (.if_icmp .ge 51, 3) := by decide +kernel
theorem dX3_init_30 : decode cX3_init 30 = .ok (.new 9, 3) := by decide +kernel
theorem dX3_init_33 : decode cX3_init 33 = .ok (.dup, 1) := by decide +kernel
theorem dX3_init_34 : decode cX3_init 34 = .ok (.iload_n 1, 1) := by decide +kernel
theorem dX3_init_35 : decode cX3_init 35 = .ok (.invokespecial 17, 3) := by decide +kernel
theorem dX3_init_38 : decode cX3_init 38 = .ok (.astore 4, 2) := by decide +kernel
theorem dX3_init_40 : decode cX3_init 40 = .ok (.aload 4, 2) := by decide +kernel
theorem dX3_init_42 : decode cX3_init 42 = .ok (.aload_n 2, 1) := by decide +kernel
theorem dX3_init_43 : decode cX3_init 43 = .ok (.putfield 20, 3) := by decide +kernel
theorem dX3_init_46 : decode cX3_init 46 = .ok (.aload_n 2, 1) := by decide +kernel
theorem dX3_init_47 : decode cX3_init 47 = .ok (.ifnull 9, 3) := by decide +kernel
theorem dX3_init_50 : decode cX3_init 50 = .ok (.aload_n 2, 1) := by decide +kernel
theorem dX3_init_51 : decode cX3_init 51 = .ok (.aload 4, 2) := by decide +kernel
theorem dX3_init_53 : decode cX3_init 53 = .ok (.putfield 24, 3) := by decide +kernel
theorem dX3_init_56 : decode cX3_init 56 = .ok (.aload_n 0, 1) := by decide +kernel
theorem dX3_init_57 : decode cX3_init 57 = .ok (.getfield 11, 3) := by decide +kernel
theorem dX3_init_60 : decode cX3_init 60 = .ok (.iload_n 1, 1) := by decide +kernel
theorem dX3_init_61 : decode cX3_init 61 = .ok (.bipush 8, 2) := by decide +kernel
theorem dX3_init_63 : decode cX3_init 63 = .ok (.imul, 1) := by decide +kernel
theorem dX3_init_64 : decode cX3_init 64 = .ok (.iload_n 3, 1) := by decide +kernel
theorem dX3_init_65 : decode cX3_init 65 = .ok (.iadd, 1) := by decide +kernel
theorem dX3_init_66 : decode cX3_init 66 = .ok (.aload 4, 2) := by decide +kernel
theorem dX3_init_68 : decode cX3_init 68 = .ok (.aastore, 1) := by decide +kernel
theorem dX3_init_69 : decode cX3_init 69 = .ok (.aload 4, 2) := by decide +kernel
theorem dX3_init_71 : decode cX3_init 71 = .ok (.astore_n 2, 1) := by decide +kernel
theorem dX3_init_72 : decode cX3_init 72 = .ok (.iinc 3 1, 3) := by decide +kernel
theorem dX3_init_75 : decode cX3_init 75 = .ok (.goto (-51), 3) := by decide +kernel
theorem dX3_init_78 : decode cX3_init 78 = .ok (.iinc 1 1, 3) := by decide +kernel
theorem dX3_init_81 : decode cX3_init 81 = .ok (.goto (-66), 3) := by decide +kernel
theorem dX3_init_84 : decode cX3_init 84 = .ok (.return_, 1) := by decide +kernel
theorem dX3_hookAt_0 : decode cX3_hookAt 0 = .ok (.iload_n 1, 1) := by decide +kernel
theorem dX3_hookAt_1 : decode cX3_hookAt 1 = .ok (.iconst 0, 1) := by decide +kernel
theorem dX3_hookAt_2 : decode cX3_hookAt 2 = .ok (.iconst 4, 1) := by decide +kernel
theorem dX3_hookAt_3 : decode cX3_hookAt 3 = .ok (.invokestatic 27, 3) := by decide +kernel
theorem dX3_hookAt_6 : decode cX3_hookAt 6 = .ok (.ifCond .eq 13, 3) := by decide +kernel
theorem dX3_hookAt_9 : decode cX3_hookAt 9 = .ok (.iload_n 2, 1) := by decide +kernel
theorem dX3_hookAt_10 : decode cX3_hookAt 10 = .ok (.iconst 0, 1) := by decide +kernel
theorem dX3_hookAt_11 : decode cX3_hookAt 11 = .ok (.bipush 7, 2) := by decide +kernel
theorem dX3_hookAt_13 : decode cX3_hookAt 13 = .ok (.invokestatic 27, 3) := by decide +kernel
theorem dX3_hookAt_16 : decode cX3_hookAt 16 = .ok (.ifCond .ne 5, 3) := by decide +kernel
theorem dX3_hookAt_19 : decode cX3_hookAt 19 = .ok (.aconst_null, 1) := by decide +kernel
theorem dX3_hookAt_20 : decode cX3_hookAt 20 = .ok (.areturn, 1) := by decide +kernel
theorem dX3_hookAt_21 : decode cX3_hookAt 21 = .ok (.aload_n 0, 1) := by decide +kernel
theorem dX3_hookAt_22 : decode cX3_hookAt 22 = .ok (.getfield 11, 3) := by decide +kernel
theorem dX3_hookAt_25 : decode cX3_hookAt 25 = .ok (.iload_n 1, 1) := by decide +kernel
theorem dX3_hookAt_26 : decode cX3_hookAt 26 = .ok (.bipush 8, 2) := by decide +kernel
theorem dX3_hookAt_28 : decode cX3_hookAt 28 = .ok (.imul, 1) := by decide +kernel
theorem dX3_hookAt_29 : decode cX3_hookAt 29 = .ok (.iload_n 2, 1) := by decide +kernel
theorem dX3_hookAt_30 : decode cX3_hookAt 30 = .ok (.iadd, 1) := by decide +kernel
theorem dX3_hookAt_31 : decode cX3_hookAt 31 = .ok (.aaload, 1) := by decide +kernel
theorem dX3_hookAt_32 : decode cX3_hookAt 32 = .ok (.areturn, 1) := by decide +kernel
theorem dX3_copyAllOf_0 : decode cX3_copyAllOf 0 = .ok (.iconst 0, 1) := by decide +kernel
theorem dX3_copyAllOf_1 : decode cX3_copyAllOf 1 = .ok (.istore_n 2, 1) := by decide +kernel
theorem dX3_copyAllOf_2 : decode cX3_copyAllOf 2 = .ok (.iload_n 2, 1) := by decide +kernel
theorem dX3_copyAllOf_3 : decode cX3_copyAllOf 3 = .ok (.aload_n 0, 1) := by decide +kernel
theorem dX3_copyAllOf_4 : decode cX3_copyAllOf 4 = .ok (.getfield 11, 3) := by decide +kernel
theorem dX3_copyAllOf_7 : decode cX3_copyAllOf 7 = .ok (.arraylength, 1) := by decide +kernel
theorem dX3_copyAllOf_8 : decode cX3_copyAllOf 8 = .ok (.if_icmp .ge 33, 3) := by decide +kernel
theorem dX3_copyAllOf_11 : decode cX3_copyAllOf 11 = .ok (.iload_n 2, 1) := by decide +kernel
theorem dX3_copyAllOf_12 : decode cX3_copyAllOf 12 = .ok (.aload_n 1, 1) := by decide +kernel
theorem dX3_copyAllOf_13 : decode cX3_copyAllOf 13 = .ok (.getfield 11, 3) := by decide +kernel
theorem dX3_copyAllOf_16 : decode cX3_copyAllOf 16 = .ok (.arraylength, 1) := by decide +kernel
theorem dX3_copyAllOf_17 : decode cX3_copyAllOf 17 = .ok (.if_icmp .ge 24, 3) := by decide +kernel
theorem dX3_copyAllOf_20 : decode cX3_copyAllOf 20 = .ok (.aload_n 0, 1) := by decide +kernel
theorem dX3_copyAllOf_21 : decode cX3_copyAllOf 21 = .ok (.getfield 11, 3) := by decide +kernel
theorem dX3_copyAllOf_24 : decode cX3_copyAllOf 24 = .ok (.iload_n 2, 1) := by decide +kernel
theorem dX3_copyAllOf_25 : decode cX3_copyAllOf 25 = .ok (.aaload, 1) := by decide +kernel
theorem dX3_copyAllOf_26 : decode cX3_copyAllOf 26 = .ok (.aload_n 1, 1) := by decide +kernel
theorem dX3_copyAllOf_27 : decode cX3_copyAllOf 27 = .ok (.getfield 11, 3) := by decide +kernel
theorem dX3_copyAllOf_30 : decode cX3_copyAllOf 30 = .ok (.iload_n 2, 1) := by decide +kernel
theorem dX3_copyAllOf_31 : decode cX3_copyAllOf 31 = .ok (.aaload, 1) := by decide +kernel
theorem dX3_copyAllOf_32 : decode cX3_copyAllOf 32 = .ok (.invokevirtual 31, 3) := by decide +kernel
theorem dX3_copyAllOf_35 : decode cX3_copyAllOf 35 = .ok (.iinc 2 1, 3) := by decide +kernel
theorem dX3_copyAllOf_38 : decode cX3_copyAllOf 38 = .ok (.goto (-36), 3) := by decide +kernel
theorem dX3_copyAllOf_41 : decode cX3_copyAllOf 41 = .ok (.return_, 1) := by decide +kernel
theorem dX3_turnAllOn_0 : decode cX3_turnAllOn 0 = .ok (.iconst 0, 1) := by decide +kernel
theorem dX3_turnAllOn_1 : decode cX3_turnAllOn 1 = .ok (.istore_n 2, 1) := by decide +kernel
theorem dX3_turnAllOn_2 : decode cX3_turnAllOn 2 = .ok (.aload_n 0, 1) := by decide +kernel
theorem dX3_turnAllOn_3 : decode cX3_turnAllOn 3 = .ok (.getfield 11, 3) := by decide +kernel
theorem dX3_turnAllOn_6 : decode cX3_turnAllOn 6 = .ok (.astore_n 3, 1) := by decide +kernel
theorem dX3_turnAllOn_7 : decode cX3_turnAllOn 7 = .ok (.aload_n 3, 1) := by decide +kernel
theorem dX3_turnAllOn_8 : decode cX3_turnAllOn 8 = .ok (.arraylength, 1) := by decide +kernel
theorem dX3_turnAllOn_9 : decode cX3_turnAllOn 9 = .ok (.istore 4, 2) := by decide +kernel
theorem dX3_turnAllOn_11 : decode cX3_turnAllOn 11 = .ok (.iconst 0, 1) := by decide +kernel
theorem dX3_turnAllOn_12 : decode cX3_turnAllOn 12 = .ok (.istore 5, 2) := by decide +kernel
theorem dX3_turnAllOn_14 : decode cX3_turnAllOn 14 = .ok (.iload 5, 2) := by decide +kernel
theorem dX3_turnAllOn_16 : decode cX3_turnAllOn 16 = .ok (.iload 4, 2) := by decide +kernel
theorem dX3_turnAllOn_18 : decode cX3_turnAllOn 18 = .ok (.if_icmp .ge 40, 3) := by decide +kernel
theorem dX3_turnAllOn_21 : decode cX3_turnAllOn 21 = .ok (.aload_n 3, 1) := by decide +kernel
theorem dX3_turnAllOn_22 : decode cX3_turnAllOn 22 = .ok (.iload 5, 2) := by decide +kernel
theorem dX3_turnAllOn_24 : decode cX3_turnAllOn 24 = .ok (.aaload, 1) := by decide +kernel
theorem dX3_turnAllOn_25 : decode cX3_turnAllOn 25 = .ok (.astore 6, 2) := by decide +kernel
theorem dX3_turnAllOn_27 : decode cX3_turnAllOn 27 = .ok (.aload 6, 2) := by decide +kernel
theorem dX3_turnAllOn_29 : decode cX3_turnAllOn 29 = .ok (.getfield 35, 3) := by decide +kernel
theorem dX3_turnAllOn_32 : decode cX3_turnAllOn 32 = .ok (.iload_n 1, 1) := by decide +kernel
theorem dX3_turnAllOn_33 : decode cX3_turnAllOn 33 = .ok (.if_icmp .ne 19, 3) := by decide +kernel
theorem dX3_turnAllOn_36 : decode cX3_turnAllOn 36 = .ok (.aload 6, 2) := by decide +kernel
theorem dX3_turnAllOn_38 : decode cX3_turnAllOn 38 = .ok (.invokevirtual 39, 3) := by decide +kernel
theorem dX3_turnAllOn_41 : decode cX3_turnAllOn 41 = .ok (.ifCond .eq 11, 3) := by decide +kernel
theorem dX3_turnAllOn_44 : decode cX3_turnAllOn 44 = .ok (.aload 6, 2) := by decide +kernel
theorem dX3_turnAllOn_46 : decode cX3_turnAllOn 46 = .ok (.invokevirtual 43, 3) := by decide +kernel
theorem dX3_turnAllOn_49 : decode cX3_turnAllOn 49 = .ok (.iinc 2 1, 3) := by decide +kernel
theorem dX3_turnAllOn_52 : decode cX3_turnAllOn 52 = .ok (.iinc 5 1, 3) := by decide +kernel
theorem dX3_turnAllOn_55 : decode cX3_turnAllOn 55 = .ok (.goto (-41), 3) := by decide +kernel
theorem dX3_turnAllOn_58 : decode cX3_turnAllOn 58 = .ok (.iload_n 2, 1) := by decide +kernel
theorem dX3_turnAllOn_59 : decode cX3_turnAllOn 59 = .ok (.ireturn, 1) := by decide +kernel
theorem dX3_letDaysGo_0 : decode cX3_letDaysGo 0 = .ok (.iconst 0, 1) := by decide +kernel
theorem dX3_letDaysGo_1 : decode cX3_letDaysGo 1 = .ok (.istore 4, 2) := by decide +kernel
theorem dX3_letDaysGo_3 : decode cX3_letDaysGo 3 = .ok (.iload 4, 2) := by decide +kernel
theorem dX3_letDaysGo_5 : decode cX3_letDaysGo 5 = .ok (.iload_n 1, 1) := by decide +kernel
theorem dX3_letDaysGo_6 : decode cX3_letDaysGo 6 = .ok (.if_icmp .ge 89, 3) := by decide +kernel
theorem dX3_letDaysGo_9 : decode cX3_letDaysGo 9 = .ok (.aload_n 0, 1) := by decide +kernel
theorem dX3_letDaysGo_10 : decode cX3_letDaysGo 10 = .ok (.getfield 11, 3) := by decide +kernel
theorem dX3_letDaysGo_13 : decode cX3_letDaysGo 13 = .ok (.astore 5, 2) := by decide +kernel
theorem dX3_letDaysGo_15 : decode cX3_letDaysGo 15 = .ok (.aload 5, 2) := by decide +kernel
theorem dX3_letDaysGo_17 : decode cX3_letDaysGo 17 = .ok (.arraylength, 1) := by decide +kernel
theorem dX3_letDaysGo_18 : decode cX3_letDaysGo 18 = .ok (.istore 6, 2) := by decide +kernel
theorem dX3_letDaysGo_20 : decode cX3_letDaysGo 20 = .ok (.iconst 0, 1) := by decide +kernel
theorem dX3_letDaysGo_21 : decode cX3_letDaysGo 21 = .ok (.istore 7, 2) := by decide +kernel
theorem dX3_letDaysGo_23 : decode cX3_letDaysGo 23 = .ok (.iload 7, 2) := by decide +kernel
theorem dX3_letDaysGo_25 : decode cX3_letDaysGo 25 = .ok (.iload 6, 2) := by decide +kernel
theorem dX3_letDaysGo_27 : decode cX3_letDaysGo 27 = .ok (.if_icmp .ge 23, 3) := by decide +kernel
theorem dX3_letDaysGo_30 : decode cX3_letDaysGo 30 = .ok (.aload 5, 2) := by decide +kernel
theorem dX3_letDaysGo_32 : decode cX3_letDaysGo 32 = .ok (.iload 7, 2) := by decide +kernel
theorem dX3_letDaysGo_34 : decode cX3_letDaysGo 34 = .ok (.aaload, 1) := by decide +kernel
theorem dX3_letDaysGo_35 : decode cX3_letDaysGo 35 = .ok (.astore 8, 2) := by decide +kernel
theorem dX3_letDaysGo_37 : decode cX3_letDaysGo 37 = .ok (.aload 8, 2) := by decide +kernel
theorem dX3_letDaysGo_39 : decode cX3_letDaysGo 39 = .ok (.iload_n 2, 1) := by decide +kernel
theorem dX3_letDaysGo_40 : decode cX3_letDaysGo 40 = .ok (.iload_n 3, 1) := by decide +kernel
theorem dX3_letDaysGo_41 : decode cX3_letDaysGo 41 = .ok (.invokevirtual 46, 3) := by decide +kernel
theorem dX3_letDaysGo_44 : decode cX3_letDaysGo 44 = .ok (.iinc 7 1, 3) := by decide +kernel
theorem dX3_letDaysGo_47 : decode cX3_letDaysGo 47 = .ok (.goto (-24), 3) := by decide +kernel
theorem dX3_letDaysGo_50 : decode cX3_letDaysGo 50 = .ok (.aload_n 0, 1) := by decide +kernel
theorem dX3_letDaysGo_51 : decode cX3_letDaysGo 51 = .ok (.getfield 11, 3) := by decide +kernel
theorem dX3_letDaysGo_54 : decode cX3_letDaysGo 54 = .ok (.astore 5, 2) := by decide +kernel
theorem dX3_letDaysGo_56 : decode cX3_letDaysGo 56 = .ok (.aload 5, 2) := by decide +kernel
theorem dX3_letDaysGo_58 : decode cX3_letDaysGo 58 = .ok (.arraylength, 1) := by decide +kernel
theorem dX3_letDaysGo_59 : decode cX3_letDaysGo 59 = .ok (.istore 6, 2) := by decide +kernel
theorem dX3_letDaysGo_61 : decode cX3_letDaysGo 61 = .ok (.iconst 0, 1) := by decide +kernel
theorem dX3_letDaysGo_62 : decode cX3_letDaysGo 62 = .ok (.istore 7, 2) := by decide +kernel
theorem dX3_letDaysGo_64 : decode cX3_letDaysGo 64 = .ok (.iload 7, 2) := by decide +kernel
theorem dX3_letDaysGo_66 : decode cX3_letDaysGo 66 = .ok (.iload 6, 2) := by decide +kernel
theorem dX3_letDaysGo_68 : decode cX3_letDaysGo 68 = .ok (.if_icmp .ge 21, 3) := by decide +kernel
theorem dX3_letDaysGo_71 : decode cX3_letDaysGo 71 = .ok (.aload 5, 2) := by decide +kernel
theorem dX3_letDaysGo_73 : decode cX3_letDaysGo 73 = .ok (.iload 7, 2) := by decide +kernel
theorem dX3_letDaysGo_75 : decode cX3_letDaysGo 75 = .ok (.aaload, 1) := by decide +kernel
theorem dX3_letDaysGo_76 : decode cX3_letDaysGo 76 = .ok (.astore 8, 2) := by decide +kernel
theorem dX3_letDaysGo_78 : decode cX3_letDaysGo 78 = .ok (.aload 8, 2) := by decide +kernel
theorem dX3_letDaysGo_80 : decode cX3_letDaysGo 80 = .ok (.invokevirtual 50, 3) := by decide +kernel
theorem dX3_letDaysGo_83 : decode cX3_letDaysGo 83 = .ok (.iinc 7 1, 3) := by decide +kernel
theorem dX3_letDaysGo_86 : decode cX3_letDaysGo 86 = .ok (.goto (-22), 3) := by decide +kernel
theorem dX3_letDaysGo_89 : decode cX3_letDaysGo 89 = .ok (.iinc 4 1, 3) := by decide +kernel
theorem dX3_letDaysGo_92 : decode cX3_letDaysGo 92 = .ok (.goto (-89), 3) := by decide +kernel
theorem dX3_letDaysGo_95 : decode cX3_letDaysGo 95 = .ok (.return_, 1) := by decide +kernel
theorem dX3_giveTo_0 : decode cX3_giveTo 0 = .ok (.iconst 0, 1) := by decide +kernel
theorem dX3_giveTo_1 : decode cX3_giveTo 1 = .ok (.istore_n 2, 1) := by decide +kernel
theorem dX3_giveTo_2 : decode cX3_giveTo 2 = .ok (.iconst 4, 1) := by decide +kernel
theorem dX3_giveTo_3 : decode cX3_giveTo 3 = .ok (.istore_n 3, 1) := by decide +kernel
theorem dX3_giveTo_4 : decode cX3_giveTo 4 = .ok (.iload_n 3, 1) := by decide +kernel
theorem dX3_giveTo_5 : decode cX3_giveTo 5 = .ok (.ifCond .lt 73, 3) := by decide +kernel
theorem dX3_giveTo_8 : decode cX3_giveTo 8 = .ok (.iconst 0, 1) := by decide +kernel
theorem dX3_giveTo_9 : decode cX3_giveTo 9 = .ok (.istore 4, 2) := by decide +kernel
theorem dX3_giveTo_11 : decode cX3_giveTo 11 = .ok (.iload 4, 2) := by decide +kernel
theorem dX3_giveTo_13 : decode cX3_giveTo 13 = .ok (.bipush 8, 2) := by decide +kernel
theorem dX3_giveTo_15 : decode cX3_giveTo 15 = .ok (.if_icmp .ge 57, 3) := by decide +kernel
theorem dX3_giveTo_18 : decode cX3_giveTo 18 = .ok (.aload_n 0, 1) := by decide +kernel
theorem dX3_giveTo_19 : decode cX3_giveTo 19 = .ok (.iload_n 3, 1) := by decide +kernel
theorem dX3_giveTo_20 : decode cX3_giveTo 20 = .ok (.iload 4, 2) := by decide +kernel
theorem dX3_giveTo_22 : decode cX3_giveTo 22 = .ok (.invokevirtual 53, 3) := by decide +kernel
theorem dX3_giveTo_25 : decode cX3_giveTo 25 = .ok (.astore 5, 2) := by decide +kernel
theorem dX3_giveTo_27 : decode cX3_giveTo 27 = .ok (.aload 5, 2) := by decide +kernel
theorem dX3_giveTo_29 : decode cX3_giveTo 29 = .ok (.ifnull 37, 3) := by decide +kernel
theorem dX3_giveTo_32 : decode cX3_giveTo 32 = .ok (.aload_n 1, 1) := by decide +kernel
theorem dX3_giveTo_33 : decode cX3_giveTo 33 = .ok (.invokevirtual 57, 3) := by decide +kernel
theorem dX3_giveTo_36 : decode cX3_giveTo 36 = .ok (.ifCond .eq 30, 3) := by decide +kernel
theorem dX3_giveTo_39 : decode cX3_giveTo 39 = .ok (.aload 5, 2) := by decide +kernel
theorem dX3_giveTo_41 : decode cX3_giveTo 41 = .ok (.aload_n 1, 1) := by decide +kernel
theorem dX3_giveTo_42 : decode cX3_giveTo 42 = .ok (.invokevirtual 62, 3) := by decide +kernel
theorem dX3_giveTo_45 : decode cX3_giveTo 45 = .ok (.ifCond .eq 21, 3) := by decide +kernel
theorem dX3_giveTo_48 : decode cX3_giveTo 48 = .ok (.aload 5, 2) := by decide +kernel
theorem dX3_giveTo_50 : decode cX3_giveTo 50 = .ok (.invokevirtual 66, 3) := by decide +kernel
theorem dX3_giveTo_53 : decode cX3_giveTo 53 = .ok (.aload_n 1, 1) := by decide +kernel
theorem dX3_giveTo_54 : decode cX3_giveTo 54 = .ok (.dup, 1) := by decide +kernel
theorem dX3_giveTo_55 : decode cX3_giveTo 55 = .ok (.getfield 69, 3) := by decide +kernel
theorem dX3_giveTo_58 : decode cX3_giveTo 58 = .ok (.iconst 1, 1) := by decide +kernel
theorem dX3_giveTo_59 : decode cX3_giveTo 59 = .ok (.iadd, 1) := by decide +kernel
theorem dX3_giveTo_60 : decode cX3_giveTo 60 = .ok (.putfield 69, 3) := by decide +kernel
theorem dX3_giveTo_63 : decode cX3_giveTo 63 = .ok (.iinc 2 1, 3) := by decide +kernel
theorem dX3_giveTo_66 : decode cX3_giveTo 66 = .ok (.iinc 4 1, 3) := by decide +kernel
theorem dX3_giveTo_69 : decode cX3_giveTo 69 = .ok (.goto (-58), 3) := by decide +kernel
theorem dX3_giveTo_72 : decode cX3_giveTo 72 = .ok (.iinc 3 (-1), 3) := by decide +kernel
theorem dX3_giveTo_75 : decode cX3_giveTo 75 = .ok (.goto (-71), 3) := by decide +kernel
theorem dX3_giveTo_78 : decode cX3_giveTo 78 = .ok (.iload_n 2, 1) := by decide +kernel
theorem dX3_giveTo_79 : decode cX3_giveTo 79 = .ok (.ireturn, 1) := by decide +kernel
theorem dX3_bundles_0 : decode cX3_bundles 0 = .ok (.iconst 0, 1) := by decide +kernel
theorem dX3_bundles_1 : decode cX3_bundles 1 = .ok (.istore_n 1, 1) := by decide +kernel
theorem dX3_bundles_2 : decode cX3_bundles 2 = .ok (.aload_n 0, 1) := by decide +kernel
theorem dX3_bundles_3 : decode cX3_bundles 3 = .ok (.getfield 11, 3) := by decide +kernel
theorem dX3_bundles_6 : decode cX3_bundles 6 = .ok (.astore_n 2, 1) := by decide +kernel
theorem dX3_bundles_7 : decode cX3_bundles 7 = .ok (.aload_n 2, 1) := by decide +kernel
theorem dX3_bundles_8 : decode cX3_bundles 8 = .ok (.arraylength, 1) := by decide +kernel
theorem dX3_bundles_9 : decode cX3_bundles 9 = .ok (.istore_n 3, 1) := by decide +kernel
theorem dX3_bundles_10 : decode cX3_bundles 10 = .ok (.iconst 0, 1) := by decide +kernel
theorem dX3_bundles_11 : decode cX3_bundles 11 = .ok (.istore 4, 2) := by decide +kernel
theorem dX3_bundles_13 : decode cX3_bundles 13 = .ok (.iload 4, 2) := by decide +kernel
theorem dX3_bundles_15 : decode cX3_bundles 15 = .ok (.iload_n 3, 1) := by decide +kernel
theorem dX3_bundles_16 : decode cX3_bundles 16 = .ok (.if_icmp .ge 26, 3) := by decide +kernel
theorem dX3_bundles_19 : decode cX3_bundles 19 = .ok (.aload_n 2, 1) := by decide +kernel
theorem dX3_bundles_20 : decode cX3_bundles 20 = .ok (.iload 4, 2) := by decide +kernel
theorem dX3_bundles_22 : decode cX3_bundles 22 = .ok (.aaload, 1) := by decide +kernel
theorem dX3_bundles_23 : decode cX3_bundles 23 = .ok (.astore 5, 2) := by decide +kernel
theorem dX3_bundles_25 : decode cX3_bundles 25 = .ok (.aload 5, 2) := by decide +kernel
theorem dX3_bundles_27 : decode cX3_bundles 27 = .ok (.invokevirtual 39, 3) := by decide +kernel
theorem dX3_bundles_30 : decode cX3_bundles 30 = .ok (.ifCond .eq 6, 3) := by decide +kernel
theorem dX3_bundles_33 : decode cX3_bundles 33 = .ok (.iinc 1 1, 3) := by decide +kernel
theorem dX3_bundles_36 : decode cX3_bundles 36 = .ok (.iinc 4 1, 3) := by decide +kernel
theorem dX3_bundles_39 : decode cX3_bundles 39 = .ok (.goto (-26), 3) := by decide +kernel
theorem dX3_bundles_42 : decode cX3_bundles 42 = .ok (.iload_n 1, 1) := by decide +kernel
theorem dX3_bundles_43 : decode cX3_bundles 43 = .ok (.ireturn, 1) := by decide +kernel
theorem dX3_mouldyBundles_0 : decode cX3_mouldyBundles 0 = .ok (.iconst 0, 1) := by decide +kernel
theorem dX3_mouldyBundles_1 : decode cX3_mouldyBundles 1 = .ok (.istore_n 1, 1) := by decide +kernel
theorem dX3_mouldyBundles_2 : decode cX3_mouldyBundles 2 = .ok (.aload_n 0, 1) := by decide +kernel
theorem dX3_mouldyBundles_3 : decode cX3_mouldyBundles 3 = .ok (.getfield 11, 3) := by decide +kernel
theorem dX3_mouldyBundles_6 : decode cX3_mouldyBundles 6 = .ok (.astore_n 2, 1) := by decide +kernel
theorem dX3_mouldyBundles_7 : decode cX3_mouldyBundles 7 = .ok (.aload_n 2, 1) := by decide +kernel
theorem dX3_mouldyBundles_8 : decode cX3_mouldyBundles 8 = .ok (.arraylength, 1) := by decide +kernel
theorem dX3_mouldyBundles_9 : decode cX3_mouldyBundles 9 = .ok (.istore_n 3, 1) := by decide +kernel
theorem dX3_mouldyBundles_10 : decode cX3_mouldyBundles 10 = .ok (.iconst 0, 1) := by decide +kernel
theorem dX3_mouldyBundles_11 : decode cX3_mouldyBundles 11 = .ok (.istore 4, 2) := by decide +kernel
theorem dX3_mouldyBundles_13 : decode cX3_mouldyBundles 13 = .ok (.iload 4, 2) := by decide +kernel
theorem dX3_mouldyBundles_15 : decode cX3_mouldyBundles 15 = .ok (.iload_n 3, 1) := by decide +kernel
theorem dX3_mouldyBundles_16 : decode cX3_mouldyBundles 16 = .ok (.if_icmp .ge 26, 3) := by decide +kernel
theorem dX3_mouldyBundles_19 : decode cX3_mouldyBundles 19 = .ok (.aload_n 2, 1) := by decide +kernel
theorem dX3_mouldyBundles_20 : decode cX3_mouldyBundles 20 = .ok (.iload 4, 2) := by decide +kernel
theorem dX3_mouldyBundles_22 : decode cX3_mouldyBundles 22 = .ok (.aaload, 1) := by decide +kernel
theorem dX3_mouldyBundles_23 : decode cX3_mouldyBundles 23 = .ok (.astore 5, 2) := by decide +kernel
theorem dX3_mouldyBundles_25 : decode cX3_mouldyBundles 25 = .ok (.aload 5, 2) := by decide +kernel
theorem dX3_mouldyBundles_27 : decode cX3_mouldyBundles 27 = .ok (.invokevirtual 72, 3) := by decide +kernel
theorem dX3_mouldyBundles_30 : decode cX3_mouldyBundles 30 = .ok (.ifCond .eq 6, 3) := by decide +kernel
theorem dX3_mouldyBundles_33 : decode cX3_mouldyBundles 33 = .ok (.iinc 1 1, 3) := by decide +kernel
theorem dX3_mouldyBundles_36 : decode cX3_mouldyBundles 36 = .ok (.iinc 4 1, 3) := by decide +kernel
theorem dX3_mouldyBundles_39 : decode cX3_mouldyBundles 39 = .ok (.goto (-26), 3) := by decide +kernel
theorem dX3_mouldyBundles_42 : decode cX3_mouldyBundles 42 = .ok (.iload_n 1, 1) := by decide +kernel
theorem dX3_mouldyBundles_43 : decode cX3_mouldyBundles 43 = .ok (.ireturn, 1) := by decide +kernel
theorem dX3_sumOfWetness_0 : decode cX3_sumOfWetness 0 = .ok (.iconst 0, 1) := by decide +kernel
theorem dX3_sumOfWetness_1 : decode cX3_sumOfWetness 1 = .ok (.istore_n 1, 1) := by decide +kernel
theorem dX3_sumOfWetness_2 : decode cX3_sumOfWetness 2 = .ok (.aload_n 0, 1) := by decide +kernel
theorem dX3_sumOfWetness_3 : decode cX3_sumOfWetness 3 = .ok (.getfield 11, 3) := by decide +kernel
theorem dX3_sumOfWetness_6 : decode cX3_sumOfWetness 6 = .ok (.astore_n 2, 1) := by decide +kernel
theorem dX3_sumOfWetness_7 : decode cX3_sumOfWetness 7 = .ok (.aload_n 2, 1) := by decide +kernel
theorem dX3_sumOfWetness_8 : decode cX3_sumOfWetness 8 = .ok (.arraylength, 1) := by decide +kernel
theorem dX3_sumOfWetness_9 : decode cX3_sumOfWetness 9 = .ok (.istore_n 3, 1) := by decide +kernel
theorem dX3_sumOfWetness_10 : decode cX3_sumOfWetness 10 = .ok (.iconst 0, 1) := by decide +kernel
theorem dX3_sumOfWetness_11 : decode cX3_sumOfWetness 11 = .ok (.istore 4, 2) := by decide +kernel
theorem dX3_sumOfWetness_13 : decode cX3_sumOfWetness 13 = .ok (.iload 4, 2) := by decide +kernel
theorem dX3_sumOfWetness_15 : decode cX3_sumOfWetness 15 = .ok (.iload_n 3, 1) := by decide +kernel
theorem dX3_sumOfWetness_16 : decode cX3_sumOfWetness 16 = .ok (.if_icmp .ge 31, 3) := by decide +kernel
theorem dX3_sumOfWetness_19 : decode cX3_sumOfWetness 19 = .ok (.aload_n 2, 1) := by decide +kernel
theorem dX3_sumOfWetness_20 : decode cX3_sumOfWetness 20 = .ok (.iload 4, 2) := by decide +kernel
theorem dX3_sumOfWetness_22 : decode cX3_sumOfWetness 22 = .ok (.aaload, 1) := by decide +kernel
theorem dX3_sumOfWetness_23 : decode cX3_sumOfWetness 23 = .ok (.astore 5, 2) := by decide +kernel
theorem dX3_sumOfWetness_25 : decode cX3_sumOfWetness 25 = .ok (.aload 5, 2) := by decide +kernel
theorem dX3_sumOfWetness_27 : decode cX3_sumOfWetness 27 = .ok (.invokevirtual 39, 3) := by decide +kernel
theorem dX3_sumOfWetness_30 : decode cX3_sumOfWetness 30 = .ok (.ifCond .eq 11, 3) := by decide +kernel
theorem dX3_sumOfWetness_33 : decode cX3_sumOfWetness 33 = .ok (.iload_n 1, 1) := by decide +kernel
theorem dX3_sumOfWetness_34 : decode cX3_sumOfWetness 34 = .ok (.aload 5, 2) := by decide +kernel
theorem dX3_sumOfWetness_36 : decode cX3_sumOfWetness 36 = .ok (.invokevirtual 75, 3) := by decide +kernel
theorem dX3_sumOfWetness_39 : decode cX3_sumOfWetness 39 = .ok (.iadd, 1) := by decide +kernel
theorem dX3_sumOfWetness_40 : decode cX3_sumOfWetness 40 = .ok (.istore_n 1, 1) := by decide +kernel
theorem dX3_sumOfWetness_41 : decode cX3_sumOfWetness 41 = .ok (.iinc 4 1, 3) := by decide +kernel
theorem dX3_sumOfWetness_44 : decode cX3_sumOfWetness 44 = .ok (.goto (-31), 3) := by decide +kernel
theorem dX3_sumOfWetness_47 : decode cX3_sumOfWetness 47 = .ok (.iload_n 1, 1) := by decide +kernel
theorem dX3_sumOfWetness_48 : decode cX3_sumOfWetness 48 = .ok (.ireturn, 1) := by decide +kernel
theorem dX3_bundlesOf_0 : decode cX3_bundlesOf 0 = .ok (.iconst 0, 1) := by decide +kernel
theorem dX3_bundlesOf_1 : decode cX3_bundlesOf 1 = .ok (.istore_n 2, 1) := by decide +kernel
theorem dX3_bundlesOf_2 : decode cX3_bundlesOf 2 = .ok (.aload_n 0, 1) := by decide +kernel
theorem dX3_bundlesOf_3 : decode cX3_bundlesOf 3 = .ok (.getfield 11, 3) := by decide +kernel
theorem dX3_bundlesOf_6 : decode cX3_bundlesOf 6 = .ok (.astore_n 3, 1) := by decide +kernel
theorem dX3_bundlesOf_7 : decode cX3_bundlesOf 7 = .ok (.aload_n 3, 1) := by decide +kernel
theorem dX3_bundlesOf_8 : decode cX3_bundlesOf 8 = .ok (.arraylength, 1) := by decide +kernel
theorem dX3_bundlesOf_9 : decode cX3_bundlesOf 9 = .ok (.istore 4, 2) := by decide +kernel
theorem dX3_bundlesOf_11 : decode cX3_bundlesOf 11 = .ok (.iconst 0, 1) := by decide +kernel
theorem dX3_bundlesOf_12 : decode cX3_bundlesOf 12 = .ok (.istore 5, 2) := by decide +kernel
theorem dX3_bundlesOf_14 : decode cX3_bundlesOf 14 = .ok (.iload 5, 2) := by decide +kernel
theorem dX3_bundlesOf_16 : decode cX3_bundlesOf 16 = .ok (.iload 4, 2) := by decide +kernel
theorem dX3_bundlesOf_18 : decode cX3_bundlesOf 18 = .ok (.if_icmp .ge 27, 3) := by decide +kernel
theorem dX3_bundlesOf_21 : decode cX3_bundlesOf 21 = .ok (.aload_n 3, 1) := by decide +kernel
theorem dX3_bundlesOf_22 : decode cX3_bundlesOf 22 = .ok (.iload 5, 2) := by decide +kernel
theorem dX3_bundlesOf_24 : decode cX3_bundlesOf 24 = .ok (.aaload, 1) := by decide +kernel
theorem dX3_bundlesOf_25 : decode cX3_bundlesOf 25 = .ok (.astore 6, 2) := by decide +kernel
theorem dX3_bundlesOf_27 : decode cX3_bundlesOf 27 = .ok (.aload 6, 2) := by decide +kernel
theorem dX3_bundlesOf_29 : decode cX3_bundlesOf 29 = .ok (.aload_n 1, 1) := by decide +kernel
theorem dX3_bundlesOf_30 : decode cX3_bundlesOf 30 = .ok (.invokevirtual 79, 3) := by decide +kernel
theorem dX3_bundlesOf_33 : decode cX3_bundlesOf 33 = .ok (.ifCond .eq 6, 3) := by decide +kernel
theorem dX3_bundlesOf_36 : decode cX3_bundlesOf 36 = .ok (.iinc 2 1, 3) := by decide +kernel
theorem dX3_bundlesOf_39 : decode cX3_bundlesOf 39 = .ok (.iinc 5 1, 3) := by decide +kernel
theorem dX3_bundlesOf_42 : decode cX3_bundlesOf 42 = .ok (.goto (-28), 3) := by decide +kernel
theorem dX3_bundlesOf_45 : decode cX3_bundlesOf 45 = .ok (.iload_n 2, 1) := by decide +kernel
theorem dX3_bundlesOf_46 : decode cX3_bundlesOf 46 = .ok (.ireturn, 1) := by decide +kernel
theorem dX3_mouldyBundlesOf_0 : decode cX3_mouldyBundlesOf 0 = .ok (.iconst 0, 1) := by decide +kernel
theorem dX3_mouldyBundlesOf_1 : decode cX3_mouldyBundlesOf 1 = .ok (.istore_n 2, 1) := by decide +kernel
theorem dX3_mouldyBundlesOf_2 : decode cX3_mouldyBundlesOf 2 = .ok (.aload_n 0, 1) := by decide +kernel
theorem dX3_mouldyBundlesOf_3 : decode cX3_mouldyBundlesOf 3 = .ok (.getfield 11, 3) := by decide +kernel
theorem dX3_mouldyBundlesOf_6 : decode cX3_mouldyBundlesOf 6 = .ok (.astore_n 3, 1) := by decide +kernel
theorem dX3_mouldyBundlesOf_7 : decode cX3_mouldyBundlesOf 7 = .ok (.aload_n 3, 1) := by decide +kernel
theorem dX3_mouldyBundlesOf_8 : decode cX3_mouldyBundlesOf 8 = .ok (.arraylength, 1) := by decide +kernel
theorem dX3_mouldyBundlesOf_9 : decode cX3_mouldyBundlesOf 9 = .ok (.istore 4, 2) := by decide +kernel
theorem dX3_mouldyBundlesOf_11 : decode cX3_mouldyBundlesOf 11 = .ok (.iconst 0, 1) := by decide +kernel
theorem dX3_mouldyBundlesOf_12 : decode cX3_mouldyBundlesOf 12 = .ok (.istore 5, 2) := by decide +kernel
theorem dX3_mouldyBundlesOf_14 : decode cX3_mouldyBundlesOf 14 = .ok (.iload 5, 2) := by decide +kernel
theorem dX3_mouldyBundlesOf_16 : decode cX3_mouldyBundlesOf 16 = .ok (.iload 4, 2) := by decide +kernel
theorem dX3_mouldyBundlesOf_18 : decode cX3_mouldyBundlesOf 18 = .ok (.if_icmp .ge 35, 3) := by decide +kernel
theorem dX3_mouldyBundlesOf_21 : decode cX3_mouldyBundlesOf 21 = .ok (.aload_n 3, 1) := by decide +kernel
theorem dX3_mouldyBundlesOf_22 : decode cX3_mouldyBundlesOf 22 = .ok (.iload 5, 2) := by decide +kernel
theorem dX3_mouldyBundlesOf_24 : decode cX3_mouldyBundlesOf 24 = .ok (.aaload, 1) := by decide +kernel
theorem dX3_mouldyBundlesOf_25 : decode cX3_mouldyBundlesOf 25 = .ok (.astore 6, 2) := by decide +kernel
theorem dX3_mouldyBundlesOf_27 : decode cX3_mouldyBundlesOf 27 = .ok (.aload 6, 2) := by decide +kernel
theorem dX3_mouldyBundlesOf_29 : decode cX3_mouldyBundlesOf 29 = .ok (.aload_n 1, 1) := by decide +kernel
theorem dX3_mouldyBundlesOf_30 : decode cX3_mouldyBundlesOf 30 = .ok (.invokevirtual 79, 3) := by decide +kernel
theorem dX3_mouldyBundlesOf_33 : decode cX3_mouldyBundlesOf 33 = .ok (.ifCond .eq 14, 3) := by decide +kernel
theorem dX3_mouldyBundlesOf_36 : decode cX3_mouldyBundlesOf 36 = .ok (.aload 6, 2) := by decide +kernel
theorem dX3_mouldyBundlesOf_38 : decode cX3_mouldyBundlesOf 38 = .ok (.invokevirtual 72, 3) := by decide +kernel
theorem dX3_mouldyBundlesOf_41 : decode cX3_mouldyBundlesOf 41 = .ok (.ifCond .eq 6, 3) := by decide +kernel
theorem dX3_mouldyBundlesOf_44 : decode cX3_mouldyBundlesOf 44 = .ok (.iinc 2 1, 3) := by decide +kernel
theorem dX3_mouldyBundlesOf_47 : decode cX3_mouldyBundlesOf 47 = .ok (.iinc 5 1, 3) := by decide +kernel
theorem dX3_mouldyBundlesOf_50 : decode cX3_mouldyBundlesOf 50 = .ok (.goto (-36), 3) := by decide +kernel
theorem dX3_mouldyBundlesOf_53 : decode cX3_mouldyBundlesOf 53 = .ok (.iload_n 2, 1) := by decide +kernel
theorem dX3_mouldyBundlesOf_54 : decode cX3_mouldyBundlesOf 54 = .ok (.ireturn, 1) := by decide +kernel
theorem dX3_leastCleanWetnessOf_0 : decode cX3_leastCleanWetnessOf 0 = .ok (.iconst (-1), 1) := by decide +kernel
theorem dX3_leastCleanWetnessOf_1 : decode cX3_leastCleanWetnessOf 1 = .ok (.istore_n 2, 1) := by decide +kernel
theorem dX3_leastCleanWetnessOf_2 : decode cX3_leastCleanWetnessOf 2 = .ok (.aload_n 0, 1) := by decide +kernel
theorem dX3_leastCleanWetnessOf_3 : decode cX3_leastCleanWetnessOf 3 = .ok (.getfield 11, 3) := by decide +kernel
theorem dX3_leastCleanWetnessOf_6 : decode cX3_leastCleanWetnessOf 6 = .ok (.astore_n 3, 1) := by decide +kernel
theorem dX3_leastCleanWetnessOf_7 : decode cX3_leastCleanWetnessOf 7 = .ok (.aload_n 3, 1) := by decide +kernel
theorem dX3_leastCleanWetnessOf_8 : decode cX3_leastCleanWetnessOf 8 = .ok (.arraylength, 1) := by decide +kernel
theorem dX3_leastCleanWetnessOf_9 : decode cX3_leastCleanWetnessOf 9 = .ok (.istore 4, 2) := by decide +kernel
theorem dX3_leastCleanWetnessOf_11 : decode cX3_leastCleanWetnessOf 11 = .ok (.iconst 0, 1) := by decide +kernel
theorem dX3_leastCleanWetnessOf_12 : decode cX3_leastCleanWetnessOf 12 = .ok (.istore 5, 2) := by decide +kernel
theorem dX3_leastCleanWetnessOf_14 : decode cX3_leastCleanWetnessOf 14 = .ok (.iload 5, 2) := by decide +kernel
theorem dX3_leastCleanWetnessOf_16 : decode cX3_leastCleanWetnessOf 16 = .ok (.iload 4, 2) := by decide +kernel
theorem dX3_leastCleanWetnessOf_18 : decode cX3_leastCleanWetnessOf 18 = .ok (.if_icmp .ge 51, 3) := by decide +kernel
theorem dX3_leastCleanWetnessOf_21 : decode cX3_leastCleanWetnessOf 21 = .ok (.aload_n 3, 1) := by decide +kernel
theorem dX3_leastCleanWetnessOf_22 : decode cX3_leastCleanWetnessOf 22 = .ok (.iload 5, 2) := by decide +kernel
theorem dX3_leastCleanWetnessOf_24 : decode cX3_leastCleanWetnessOf 24 = .ok (.aaload, 1) := by decide +kernel
theorem dX3_leastCleanWetnessOf_25 : decode cX3_leastCleanWetnessOf 25 = .ok (.astore 6, 2) := by decide +kernel
theorem dX3_leastCleanWetnessOf_27 : decode cX3_leastCleanWetnessOf 27 = .ok (.aload 6, 2) := by decide +kernel
theorem dX3_leastCleanWetnessOf_29 : decode cX3_leastCleanWetnessOf 29 = .ok (.aload_n 1, 1) := by decide +kernel
theorem dX3_leastCleanWetnessOf_30 : decode cX3_leastCleanWetnessOf 30 = .ok (.invokevirtual 79, 3) := by decide +kernel
theorem dX3_leastCleanWetnessOf_33 : decode cX3_leastCleanWetnessOf 33 = .ok (.ifCond .eq 30, 3) := by decide +kernel
theorem dX3_leastCleanWetnessOf_36 : decode cX3_leastCleanWetnessOf 36 = .ok (.aload 6, 2) := by decide +kernel
theorem dX3_leastCleanWetnessOf_38 : decode cX3_leastCleanWetnessOf 38 = .ok (.invokevirtual 72, 3) := by decide +kernel
theorem dX3_leastCleanWetnessOf_41 : decode cX3_leastCleanWetnessOf 41 = .ok (.ifCond .ne 22, 3) := by decide +kernel
theorem dX3_leastCleanWetnessOf_44 : decode cX3_leastCleanWetnessOf 44 = .ok (.iload_n 2, 1) := by decide +kernel
theorem dX3_leastCleanWetnessOf_45 : decode cX3_leastCleanWetnessOf 45 = .ok (.ifCond .lt 12, 3) := by decide +kernel
theorem dX3_leastCleanWetnessOf_48 : decode cX3_leastCleanWetnessOf 48 = .ok (.aload 6, 2) := by decide +kernel
theorem dX3_leastCleanWetnessOf_50 : decode cX3_leastCleanWetnessOf 50 = .ok (.invokevirtual 75, 3) := by decide +kernel
theorem dX3_leastCleanWetnessOf_53 : decode cX3_leastCleanWetnessOf 53 = .ok (.iload_n 2, 1) := by decide +kernel
theorem dX3_leastCleanWetnessOf_54 : decode cX3_leastCleanWetnessOf 54 = .ok (.if_icmp .ge 9, 3) := by decide +kernel
theorem dX3_leastCleanWetnessOf_57 : decode cX3_leastCleanWetnessOf 57 = .ok (.aload 6, 2) := by decide +kernel
theorem dX3_leastCleanWetnessOf_59 : decode cX3_leastCleanWetnessOf 59 = .ok (.invokevirtual 75, 3) := by decide +kernel
theorem dX3_leastCleanWetnessOf_62 : decode cX3_leastCleanWetnessOf 62 = .ok (.istore_n 2, 1) := by decide +kernel
theorem dX3_leastCleanWetnessOf_63 : decode cX3_leastCleanWetnessOf 63 = .ok (.iinc 5 1, 3) := by decide +kernel
theorem dX3_leastCleanWetnessOf_66 : decode cX3_leastCleanWetnessOf 66 = .ok (.goto (-52), 3) := by decide +kernel
theorem dX3_leastCleanWetnessOf_69 : decode cX3_leastCleanWetnessOf 69 = .ok (.iload_n 2, 1) := by decide +kernel
theorem dX3_leastCleanWetnessOf_70 : decode cX3_leastCleanWetnessOf 70 = .ok (.ireturn, 1) := by decide +kernel
theorem dX3_bundlesThatFit_0 : decode cX3_bundlesThatFit 0 = .ok (.iconst 0, 1) := by decide +kernel
theorem dX3_bundlesThatFit_1 : decode cX3_bundlesThatFit 1 = .ok (.istore_n 2, 1) := by decide +kernel
theorem dX3_bundlesThatFit_2 : decode cX3_bundlesThatFit 2 = .ok (.aload_n 0, 1) := by decide +kernel
theorem dX3_bundlesThatFit_3 : decode cX3_bundlesThatFit 3 = .ok (.getfield 11, 3) := by decide +kernel
theorem dX3_bundlesThatFit_6 : decode cX3_bundlesThatFit 6 = .ok (.astore_n 3, 1) := by decide +kernel
theorem dX3_bundlesThatFit_7 : decode cX3_bundlesThatFit 7 = .ok (.aload_n 3, 1) := by decide +kernel
theorem dX3_bundlesThatFit_8 : decode cX3_bundlesThatFit 8 = .ok (.arraylength, 1) := by decide +kernel
theorem dX3_bundlesThatFit_9 : decode cX3_bundlesThatFit 9 = .ok (.istore 4, 2) := by decide +kernel
theorem dX3_bundlesThatFit_11 : decode cX3_bundlesThatFit 11 = .ok (.iconst 0, 1) := by decide +kernel
theorem dX3_bundlesThatFit_12 : decode cX3_bundlesThatFit 12 = .ok (.istore 5, 2) := by decide +kernel
theorem dX3_bundlesThatFit_14 : decode cX3_bundlesThatFit 14 = .ok (.iload 5, 2) := by decide +kernel
theorem dX3_bundlesThatFit_16 : decode cX3_bundlesThatFit 16 = .ok (.iload 4, 2) := by decide +kernel
theorem dX3_bundlesThatFit_18 : decode cX3_bundlesThatFit 18 = .ok (.if_icmp .ge 27, 3) := by decide +kernel
theorem dX3_bundlesThatFit_21 : decode cX3_bundlesThatFit 21 = .ok (.aload_n 3, 1) := by decide +kernel
theorem dX3_bundlesThatFit_22 : decode cX3_bundlesThatFit 22 = .ok (.iload 5, 2) := by decide +kernel
theorem dX3_bundlesThatFit_24 : decode cX3_bundlesThatFit 24 = .ok (.aaload, 1) := by decide +kernel
theorem dX3_bundlesThatFit_25 : decode cX3_bundlesThatFit 25 = .ok (.astore 6, 2) := by decide +kernel
theorem dX3_bundlesThatFit_27 : decode cX3_bundlesThatFit 27 = .ok (.aload 6, 2) := by decide +kernel
theorem dX3_bundlesThatFit_29 : decode cX3_bundlesThatFit 29 = .ok (.aload_n 1, 1) := by decide +kernel
theorem dX3_bundlesThatFit_30 : decode cX3_bundlesThatFit 30 = .ok (.invokevirtual 62, 3) := by decide +kernel
theorem dX3_bundlesThatFit_33 : decode cX3_bundlesThatFit 33 = .ok (.ifCond .eq 6, 3) := by decide +kernel
theorem dX3_bundlesThatFit_36 : decode cX3_bundlesThatFit 36 = .ok (.iinc 2 1, 3) := by decide +kernel
theorem dX3_bundlesThatFit_39 : decode cX3_bundlesThatFit 39 = .ok (.iinc 5 1, 3) := by decide +kernel
theorem dX3_bundlesThatFit_42 : decode cX3_bundlesThatFit 42 = .ok (.goto (-28), 3) := by decide +kernel
theorem dX3_bundlesThatFit_45 : decode cX3_bundlesThatFit 45 = .ok (.iload_n 2, 1) := by decide +kernel
theorem dX3_bundlesThatFit_46 : decode cX3_bundlesThatFit 46 = .ok (.ireturn, 1) := by decide +kernel
theorem dX4_init_0 : decode cX4_init 0 = .ok (.aload_n 0, 1) := by decide +kernel
theorem dX4_init_1 : decode cX4_init 1 = .ok (.invokespecial 1, 3) := by decide +kernel
theorem dX4_init_4 : decode cX4_init 4 = .ok (.aload_n 0, 1) := by decide +kernel
theorem dX4_init_5 : decode cX4_init 5 = .ok (.new 7, 3) := by decide +kernel
theorem dX4_init_8 : decode cX4_init 8 = .ok (.dup, 1) := by decide +kernel
theorem dX4_init_9 : decode cX4_init 9 = .ok (.invokespecial 9, 3) := by decide +kernel
theorem dX4_init_12 : decode cX4_init 12 = .ok (.putfield 10, 3) := by decide +kernel
theorem dX4_init_15 : decode cX4_init 15 = .ok (.aload_n 0, 1) := by decide +kernel
theorem dX4_init_16 : decode cX4_init 16 = .ok (.new 7, 3) := by decide +kernel
theorem dX4_init_19 : decode cX4_init 19 = .ok (.dup, 1) := by decide +kernel
theorem dX4_init_20 : decode cX4_init 20 = .ok (.invokespecial 9, 3) := by decide +kernel
theorem dX4_init_23 : decode cX4_init 23 = .ok (.putfield 16, 3) := by decide +kernel
theorem dX4_init_26 : decode cX4_init 26 = .ok (.aload_n 0, 1) := by decide +kernel
theorem dX4_init_27 : decode cX4_init 27 = .ok (.new 19, 3) := by decide +kernel
theorem dX4_init_30 : decode cX4_init 30 = .ok (.dup, 1) := by decide +kernel
theorem dX4_init_31 : decode cX4_init 31 = .ok (.invokespecial 21, 3) := by decide +kernel
theorem dX4_init_34 : decode cX4_init 34 = .ok (.putfield 22, 3) := by decide +kernel
theorem dX4_init_37 : decode cX4_init 37 = .ok (.aload_n 0, 1) := by decide +kernel
theorem dX4_init_38 : decode cX4_init 38 = .ok (.new 19, 3) := by decide +kernel
theorem dX4_init_41 : decode cX4_init 41 = .ok (.dup, 1) := by decide +kernel
theorem dX4_init_42 : decode cX4_init 42 = .ok (.invokespecial 21, 3) := by decide +kernel
theorem dX4_init_45 : decode cX4_init 45 = .ok (.putfield 26, 3) := by decide +kernel
theorem dX4_init_48 : decode cX4_init 48 = .ok (.aload_n 0, 1) := by decide +kernel
theorem dX4_init_49 : decode cX4_init 49 = .ok (.iconst 0, 1) := by decide +kernel
theorem dX4_init_50 : decode cX4_init 50 = .ok (.putfield 29, 3) := by decide +kernel
theorem dX4_init_53 : decode cX4_init 53 = .ok (.aload_n 0, 1) := by decide +kernel
theorem dX4_init_54 : decode cX4_init 54 = .ok (.iconst 0, 1) := by decide +kernel
theorem dX4_init_55 : decode cX4_init 55 = .ok (.putfield 33, 3) := by decide +kernel
theorem dX4_init_58 : decode cX4_init 58 = .ok (.return_, 1) := by decide +kernel
theorem dX4_herb_0 : decode cX4_herb 0 = .ok (.iload_n 1, 1) := by decide +kernel
theorem dX4_herb_1 : decode cX4_herb 1 = .ok (.iconst 1, 1) := by decide +kernel
theorem dX4_herb_2 : decode cX4_herb 2 = .ok (.bipush 9, 2) := by decide +kernel
theorem dX4_herb_4 : decode cX4_herb 4 = .ok (.invokestatic 36, 3) := by decide +kernel
theorem dX4_herb_7 : decode cX4_herb 7 = .ok (.ifCond .ne 13, 3) := by decide +kernel
theorem dX4_herb_10 : decode cX4_herb 10 = .ok (.new 40, 3) := by decide +kernel
theorem dX4_herb_13 : decode cX4_herb 13 = .ok (.dup, 1) := by decide +kernel
theorem dX4_herb_14 : decode cX4_herb 14 = .ok (.ldc 42, 2) := by decide +kernel
theorem dX4_herb_16 : decode cX4_herb 16 = .ok (.invokespecial 44, 3) := by decide +kernel
theorem dX4_herb_19 : decode cX4_herb 19 = .ok (.athrow, 1) := by decide +kernel
theorem dX4_herb_20 : decode cX4_herb 20 = .ok (.iload_n 2, 1) := by decide +kernel
theorem dX4_herb_21 : decode cX4_herb 21 = .ok (.bipush 20, 2) := by decide +kernel
theorem dX4_herb_23 : decode cX4_herb 23 = .ok (.bipush 90, 2) := by decide +kernel
theorem dX4_herb_25 : decode cX4_herb 25 = .ok (.invokestatic 36, 3) := by decide +kernel
theorem dX4_herb_28 : decode cX4_herb 28 = .ok (.ifCond .ne 13, 3) := by decide +kernel
theorem dX4_herb_31 : decode cX4_herb 31 = .ok (.new 40, 3) := by decide +kernel
theorem dX4_herb_34 : decode cX4_herb 34 = .ok (.dup, 1) := by decide +kernel
theorem dX4_herb_35 : decode cX4_herb 35 = .ok (.ldc 47, 2) := by decide +kernel
theorem dX4_herb_37 : decode cX4_herb 37 = .ok (.invokespecial 44, 3) := by decide +kernel
theorem dX4_herb_40 : decode cX4_herb 40 = .ok (.athrow, 1) := by decide +kernel
theorem dX4_herb_41 : decode cX4_herb 41 = .ok (.aload_n 0, 1) := by decide +kernel
theorem dX4_herb_42 : decode cX4_herb 42 = .ok (.getfield 10, 3) := by decide +kernel
theorem dX4_herb_45 : decode cX4_herb 45 = .ok (.invokevirtual 49, 3) := by decide +kernel
theorem dX4_herb_48 : decode cX4_herb 48 = .ok (.bipush 6, 2) := by decide +kernel
theorem dX4_herb_50 : decode cX4_herb 50 = .ok (.if_icmp .lt 13, 3) := by decide +kernel
theorem dX4_herb_53 : decode cX4_herb 53 = .ok (.new 53, 3) := by decide +kernel
theorem dX4_herb_56 : decode cX4_herb 56 = .ok (.dup, 1) := by decide +kernel
theorem dX4_herb_57 : decode cX4_herb 57 = .ok (.ldc 55, 2) := by decide +kernel
theorem dX4_herb_59 : decode cX4_herb 59 = .ok (.invokespecial 57, 3) := by decide +kernel
theorem dX4_herb_62 : decode cX4_herb 62 = .ok (.athrow, 1) := by decide +kernel
theorem dX4_herb_63 : decode cX4_herb 63 = .ok (.aload_n 0, 1) := by decide +kernel
theorem dX4_herb_64 : decode cX4_herb 64 = .ok (.getfield 10, 3) := by decide +kernel
theorem dX4_herb_67 : decode cX4_herb 67 = .ok (.invokevirtual 49, 3) := by decide +kernel
theorem dX4_herb_70 : decode cX4_herb 70 = .ok (.istore_n 3, 1) := by decide +kernel
theorem dX4_herb_71 : decode cX4_herb 71 = .ok (.aload_n 0, 1) := by decide +kernel
theorem dX4_herb_72 : decode cX4_herb 72 = .ok (.getfield 10, 3) := by decide +kernel
theorem dX4_herb_75 : decode cX4_herb 75 = .ok (.new 58, 3) := by decide +kernel
theorem dX4_herb_78 : decode cX4_herb 78 = .ok (.dup, 1) := by decide +kernel
theorem dX4_herb_79 : decode cX4_herb 79 = .ok (.iload_n 3, 1) := by decide +kernel
theorem dX4_herb_80 : decode cX4_herb 80 = .ok (.iload_n 1, 1) := by decide +kernel
theorem dX4_herb_81 : decode cX4_herb 81 = .ok (.iload_n 2, 1) := by decide +kernel
theorem dX4_herb_82 : decode cX4_herb 82 = .ok (.invokespecial 60, 3) := by decide +kernel
theorem dX4_herb_85 : decode cX4_herb 85 = .ok (.invokevirtual 63, 3) := by decide +kernel
theorem dX4_herb_88 : decode cX4_herb 88 = .ok (.pop, 1) := by decide +kernel
theorem dX4_herb_89 : decode cX4_herb 89 = .ok (.iload_n 3, 1) := by decide +kernel
theorem dX4_herb_90 : decode cX4_herb 90 = .ok (.ireturn, 1) := by decide +kernel
theorem dX4_hang_0 : decode cX4_hang 0 = .ok (.aload_n 0, 1) := by decide +kernel
theorem dX4_hang_1 : decode cX4_hang 1 = .ok (.getfield 22, 3) := by decide +kernel
theorem dX4_hang_4 : decode cX4_hang 4 = .ok (.iload_n 1, 1) := by decide +kernel
theorem dX4_hang_5 : decode cX4_hang 5 = .ok (.iload_n 2, 1) := by decide +kernel
theorem dX4_hang_6 : decode cX4_hang 6 = .ok (.invokevirtual 67, 3) := by decide +kernel
theorem dX4_hang_9 : decode cX4_hang 9 = .ok (.astore 5, 2) := by decide +kernel
theorem dX4_hang_11 : decode cX4_hang 11 = .ok (.aload 5, 2) := by decide +kernel
theorem dX4_hang_13 : decode cX4_hang 13 = .ok (.ifnonnull 13, 3) := by decide +kernel
theorem dX4_hang_16 : decode cX4_hang 16 = .ok (.new 71, 3) := by decide +kernel
theorem dX4_hang_19 : decode cX4_hang 19 = .ok (.dup, 1) := by decide +kernel
theorem dX4_hang_20 : decode cX4_hang 20 = .ok (.ldc 73, 2) := by decide +kernel
theorem dX4_hang_22 : decode cX4_hang 22 = .ok (.invokespecial 75, 3) := by decide +kernel
theorem dX4_hang_25 : decode cX4_hang 25 = .ok (.athrow, 1) := by decide +kernel
theorem dX4_hang_26 : decode cX4_hang 26 = .ok (.aload_n 0, 1) := by decide +kernel
theorem dX4_hang_27 : decode cX4_hang 27 = .ok (.iload_n 3, 1) := by decide +kernel
theorem dX4_hang_28 : decode cX4_hang 28 = .ok (.invokevirtual 76, 3) := by decide +kernel
theorem dX4_hang_31 : decode cX4_hang 31 = .ok (.astore 6, 2) := by decide +kernel
theorem dX4_hang_33 : decode cX4_hang 33 = .ok (.aload 6, 2) := by decide +kernel
theorem dX4_hang_35 : decode cX4_hang 35 = .ok (.ifnonnull 13, 3) := by decide +kernel
theorem dX4_hang_38 : decode cX4_hang 38 = .ok (.new 71, 3) := by decide +kernel
theorem dX4_hang_41 : decode cX4_hang 41 = .ok (.dup, 1) := by decide +kernel
theorem dX4_hang_42 : decode cX4_hang 42 = .ok (.ldc 80, 2) := by decide +kernel
theorem dX4_hang_44 : decode cX4_hang 44 = .ok (.invokespecial 75, 3) := by decide +kernel
theorem dX4_hang_47 : decode cX4_hang 47 = .ok (.athrow, 1) := by decide +kernel
theorem dX4_hang_48 : decode cX4_hang 48 = .ok (.iload 4, 2) := by decide +kernel
theorem dX4_hang_50 : decode cX4_hang 50 = .ok (.iconst 0, 1) := by decide +kernel
theorem dX4_hang_51 : decode cX4_hang 51 = .ok (.bipush 100, 2) := by decide +kernel
theorem dX4_hang_53 : decode cX4_hang 53 = .ok (.invokestatic 36, 3) := by decide +kernel
theorem dX4_hang_56 : decode cX4_hang 56 = .ok (.ifCond .ne 13, 3) := by decide +kernel
theorem dX4_hang_59 : decode cX4_hang 59 = .ok (.new 40, 3) := by decide +kernel
theorem dX4_hang_62 : decode cX4_hang 62 = .ok (.dup, 1) := by decide +kernel
theorem dX4_hang_63 : decode cX4_hang 63 = .ok (.ldc 82, 2) := by decide +kernel
theorem dX4_hang_65 : decode cX4_hang 65 = .ok (.invokespecial 44, 3) := by decide +kernel
theorem dX4_hang_68 : decode cX4_hang 68 = .ok (.athrow, 1) := by decide +kernel
theorem dX4_hang_69 : decode cX4_hang 69 = .ok (.aload 5, 2) := by decide +kernel
theorem dX4_hang_71 : decode cX4_hang 71 = .ok (.invokevirtual 84, 3) := by decide +kernel
theorem dX4_hang_74 : decode cX4_hang 74 = .ok (.ifCond .eq 13, 3) := by decide +kernel
theorem dX4_hang_77 : decode cX4_hang 77 = .ok (.new 53, 3) := by decide +kernel
theorem dX4_hang_80 : decode cX4_hang 80 = .ok (.dup, 1) := by decide +kernel
theorem dX4_hang_81 : decode cX4_hang 81 = .ok (.ldc 90, 2) := by decide +kernel
theorem dX4_hang_83 : decode cX4_hang 83 = .ok (.invokespecial 57, 3) := by decide +kernel
theorem dX4_hang_86 : decode cX4_hang 86 = .ok (.athrow, 1) := by decide +kernel
theorem dX4_hang_87 : decode cX4_hang 87 = .ok (.aload 5, 2) := by decide +kernel
theorem dX4_hang_89 : decode cX4_hang 89 = .ok (.aload 6, 2) := by decide +kernel
theorem dX4_hang_91 : decode cX4_hang 91 = .ok (.iload 4, 2) := by decide +kernel
theorem dX4_hang_93 : decode cX4_hang 93 = .ok (.invokevirtual 92, 3) := by decide +kernel
theorem dX4_hang_96 : decode cX4_hang 96 = .ok (.aload_n 0, 1) := by decide +kernel
theorem dX4_hang_97 : decode cX4_hang 97 = .ok (.getfield 22, 3) := by decide +kernel
theorem dX4_hang_100 : decode cX4_hang 100 = .ok (.invokevirtual 96, 3) := by decide +kernel
theorem dX4_hang_103 : decode cX4_hang 103 = .ok (.ireturn, 1) := by decide +kernel
theorem dX4_take_0 : decode cX4_take 0 = .ok (.aload_n 0, 1) := by decide +kernel
theorem dX4_take_1 : decode cX4_take 1 = .ok (.getfield 22, 3) := by decide +kernel
theorem dX4_take_4 : decode cX4_take 4 = .ok (.iload_n 1, 1) := by decide +kernel
theorem dX4_take_5 : decode cX4_take 5 = .ok (.iload_n 2, 1) := by decide +kernel
theorem dX4_take_6 : decode cX4_take 6 = .ok (.invokevirtual 67, 3) := by decide +kernel
theorem dX4_take_9 : decode cX4_take 9 = .ok (.astore_n 3, 1) := by decide +kernel
theorem dX4_take_10 : decode cX4_take 10 = .ok (.aload_n 3, 1) := by decide +kernel
theorem dX4_take_11 : decode cX4_take 11 = .ok (.ifnonnull 13, 3) := by decide +kernel
theorem dX4_take_14 : decode cX4_take 14 = .ok (.new 71, 3) := by decide +kernel
theorem dX4_take_17 : decode cX4_take 17 = .ok (.dup, 1) := by decide +kernel
theorem dX4_take_18 : decode cX4_take 18 = .ok (.ldc 73, 2) := by decide +kernel
theorem dX4_take_20 : decode cX4_take 20 = .ok (.invokespecial 75, 3) := by decide +kernel
theorem dX4_take_23 : decode cX4_take 23 = .ok (.athrow, 1) := by decide +kernel
theorem dX4_take_24 : decode cX4_take 24 = .ok (.aload_n 3, 1) := by decide +kernel
theorem dX4_take_25 : decode cX4_take 25 = .ok (.invokevirtual 84, 3) := by decide +kernel
theorem dX4_take_28 : decode cX4_take 28 = .ok (.ifCond .ne 13, 3) := by decide +kernel
theorem dX4_take_31 : decode cX4_take 31 = .ok (.new 53, 3) := by decide +kernel
theorem dX4_take_34 : decode cX4_take 34 = .ok (.dup, 1) := by decide +kernel
theorem dX4_take_35 : decode cX4_take 35 = .ok (.ldc 99, 2) := by decide +kernel
theorem dX4_take_37 : decode cX4_take 37 = .ok (.invokespecial 57, 3) := by decide +kernel
theorem dX4_take_40 : decode cX4_take 40 = .ok (.athrow, 1) := by decide +kernel
theorem dX4_take_41 : decode cX4_take 41 = .ok (.aload_n 3, 1) := by decide +kernel
theorem dX4_take_42 : decode cX4_take 42 = .ok (.invokevirtual 101, 3) := by decide +kernel
theorem dX4_take_45 : decode cX4_take 45 = .ok (.istore 4, 2) := by decide +kernel
theorem dX4_take_47 : decode cX4_take 47 = .ok (.aload_n 3, 1) := by decide +kernel
theorem dX4_take_48 : decode cX4_take 48 = .ok (.invokevirtual 104, 3) := by decide +kernel
theorem dX4_take_51 : decode cX4_take 51 = .ok (.iload 4, 2) := by decide +kernel
theorem dX4_take_53 : decode cX4_take 53 = .ok (.ireturn, 1) := by decide +kernel
theorem dX4_move_0 : decode cX4_move 0 = .ok (.aload_n 0, 1) := by decide +kernel
theorem dX4_move_1 : decode cX4_move 1 = .ok (.getfield 22, 3) := by decide +kernel
theorem dX4_move_4 : decode cX4_move 4 = .ok (.iload_n 1, 1) := by decide +kernel
theorem dX4_move_5 : decode cX4_move 5 = .ok (.iload_n 2, 1) := by decide +kernel
theorem dX4_move_6 : decode cX4_move 6 = .ok (.invokevirtual 67, 3) := by decide +kernel
theorem dX4_move_9 : decode cX4_move 9 = .ok (.astore 5, 2) := by decide +kernel
theorem dX4_move_11 : decode cX4_move 11 = .ok (.aload_n 0, 1) := by decide +kernel
theorem dX4_move_12 : decode cX4_move 12 = .ok (.getfield 22, 3) := by decide +kernel
theorem dX4_move_15 : decode cX4_move 15 = .ok (.iload_n 3, 1) := by decide +kernel
theorem dX4_move_16 : decode cX4_move 16 = .ok (.iload 4, 2) := by decide +kernel
theorem dX4_move_18 : decode cX4_move 18 = .ok (.invokevirtual 67, 3) := by decide +kernel
theorem dX4_move_21 : decode cX4_move 21 = .ok (.astore 6, 2) := by decide +kernel
theorem dX4_move_23 : decode cX4_move 23 = .ok (.aload 5, 2) := by decide +kernel
theorem dX4_move_25 : decode cX4_move 25 = .ok (.ifnull 8, 3) := by decide +kernel
theorem dX4_move_28 : decode cX4_move 28 = .ok (.aload 6, 2) := by decide +kernel
theorem dX4_move_30 : decode cX4_move 30 = .ok (.ifnonnull 13, 3) := by decide +kernel
theorem dX4_move_33 : decode cX4_move 33 = .ok (.new 71, 3) := by decide +kernel
theorem dX4_move_36 : decode cX4_move 36 = .ok (.dup, 1) := by decide +kernel
theorem dX4_move_37 : decode cX4_move 37 = .ok (.ldc 73, 2) := by decide +kernel
theorem dX4_move_39 : decode cX4_move 39 = .ok (.invokespecial 75, 3) := by decide +kernel
theorem dX4_move_42 : decode cX4_move 42 = .ok (.athrow, 1) := by decide +kernel
theorem dX4_move_43 : decode cX4_move 43 = .ok (.aload 5, 2) := by decide +kernel
theorem dX4_move_45 : decode cX4_move 45 = .ok (.invokevirtual 84, 3) := by decide +kernel
theorem dX4_move_48 : decode cX4_move 48 = .ok (.ifCond .ne 13, 3) := by decide +kernel
theorem dX4_move_51 : decode cX4_move 51 = .ok (.new 53, 3) := by decide +kernel
theorem dX4_move_54 : decode cX4_move 54 = .ok (.dup, 1) := by decide +kernel
theorem dX4_move_55 : decode cX4_move 55 = .ok (.ldc 107, 2) := by decide +kernel
theorem dX4_move_57 : decode cX4_move 57 = .ok (.invokespecial 57, 3) := by decide +kernel
theorem dX4_move_60 : decode cX4_move 60 = .ok (.athrow, 1) := by decide +kernel
theorem dX4_move_61 : decode cX4_move 61 = .ok (.aload 6, 2) := by decide +kernel
theorem dX4_move_63 : decode cX4_move 63 = .ok (.invokevirtual 84, 3) := by decide +kernel
theorem dX4_move_66 : decode cX4_move 66 = .ok (.ifCond .eq 13, 3) := by decide +kernel
theorem dX4_move_69 : decode cX4_move 69 = .ok (.new 53, 3) := by decide +kernel
theorem dX4_move_72 : decode cX4_move 72 = .ok (.dup, 1) := by decide +kernel
theorem dX4_move_73 : decode cX4_move 73 = .ok (.ldc 109, 2) := by decide +kernel
theorem dX4_move_75 : decode cX4_move 75 = .ok (.invokespecial 57, 3) := by decide +kernel
theorem dX4_move_78 : decode cX4_move 78 = .ok (.athrow, 1) := by decide +kernel
theorem dX4_move_79 : decode cX4_move 79 = .ok (.aload 6, 2) := by decide +kernel
theorem dX4_move_81 : decode cX4_move 81 = .ok (.aload 5, 2) := by decide +kernel
theorem dX4_move_83 : decode cX4_move 83 = .ok (.invokevirtual 111, 3) := by decide +kernel
theorem dX4_move_86 : decode cX4_move 86 = .ok (.aload 5, 2) := by decide +kernel
theorem dX4_move_88 : decode cX4_move 88 = .ok (.invokevirtual 104, 3) := by decide +kernel
theorem dX4_move_91 : decode cX4_move 91 = .ok (.aload 6, 2) := by decide +kernel
theorem dX4_move_93 : decode cX4_move 93 = .ok (.invokevirtual 115, 3) := by decide +kernel
theorem dX4_move_96 : decode cX4_move 96 = .ok (.ireturn, 1) := by decide +kernel
theorem dX4_turn_0 : decode cX4_turn 0 = .ok (.iload_n 1, 1) := by decide +kernel
theorem dX4_turn_1 : decode cX4_turn 1 = .ok (.iconst 0, 1) := by decide +kernel
theorem dX4_turn_2 : decode cX4_turn 2 = .ok (.iconst 4, 1) := by decide +kernel
theorem dX4_turn_3 : decode cX4_turn 3 = .ok (.invokestatic 36, 3) := by decide +kernel
theorem dX4_turn_6 : decode cX4_turn 6 = .ok (.ifCond .ne 13, 3) := by decide +kernel
theorem dX4_turn_9 : decode cX4_turn 9 = .ok (.new 71, 3) := by decide +kernel
theorem dX4_turn_12 : decode cX4_turn 12 = .ok (.dup, 1) := by decide +kernel
theorem dX4_turn_13 : decode cX4_turn 13 = .ok (.ldc 118, 2) := by decide +kernel
theorem dX4_turn_15 : decode cX4_turn 15 = .ok (.invokespecial 75, 3) := by decide +kernel
theorem dX4_turn_18 : decode cX4_turn 18 = .ok (.athrow, 1) := by decide +kernel
theorem dX4_turn_19 : decode cX4_turn 19 = .ok (.aload_n 0, 1) := by decide +kernel
theorem dX4_turn_20 : decode cX4_turn 20 = .ok (.getfield 22, 3) := by decide +kernel
theorem dX4_turn_23 : decode cX4_turn 23 = .ok (.iload_n 1, 1) := by decide +kernel
theorem dX4_turn_24 : decode cX4_turn 24 = .ok (.invokevirtual 120, 3) := by decide +kernel
theorem dX4_turn_27 : decode cX4_turn 27 = .ok (.ireturn, 1) := by decide +kernel
theorem dX4_setWindow_0 : decode cX4_setWindow 0 = .ok (.iload_n 1, 1) := by decide +kernel
theorem dX4_setWindow_1 : decode cX4_setWindow 1 = .ok (.iconst 0, 1) := by decide +kernel
theorem dX4_setWindow_2 : decode cX4_setWindow 2 = .ok (.iconst 3, 1) := by decide +kernel
theorem dX4_setWindow_3 : decode cX4_setWindow 3 = .ok (.invokestatic 36, 3) := by decide +kernel
theorem dX4_setWindow_6 : decode cX4_setWindow 6 = .ok (.ifCond .ne 13, 3) := by decide +kernel
theorem dX4_setWindow_9 : decode cX4_setWindow 9 = .ok (.new 40, 3) := by decide +kernel
theorem dX4_setWindow_12 : decode cX4_setWindow 12 = .ok (.dup, 1) := by decide +kernel
theorem dX4_setWindow_13 : decode cX4_setWindow 13 = .ok (.ldc 124, 2) := by decide +kernel
theorem dX4_setWindow_15 : decode cX4_setWindow 15 = .ok (.invokespecial 44, 3) := by decide +kernel
theorem dX4_setWindow_18 : decode cX4_setWindow 18 = .ok (.athrow, 1) := by decide +kernel
theorem dX4_setWindow_19 : decode cX4_setWindow 19 = .ok (.aload_n 0, 1) := by decide +kernel
theorem dX4_setWindow_20 : decode cX4_setWindow 20 = .ok (.getfield 29, 3) := by decide +kernel
theorem dX4_setWindow_23 : decode cX4_setWindow 23 = .ok (.istore_n 2, 1) := by decide +kernel
theorem dX4_setWindow_24 : decode cX4_setWindow 24 = .ok (.aload_n 0, 1) := by decide +kernel
theorem dX4_setWindow_25 : decode cX4_setWindow 25 = .ok (.iload_n 1, 1) := by decide +kernel
theorem dX4_setWindow_26 : decode cX4_setWindow 26 = .ok (.putfield 29, 3) := by decide +kernel
theorem dX4_setWindow_29 : decode cX4_setWindow 29 = .ok (.iload_n 2, 1) := by decide +kernel
theorem dX4_setWindow_30 : decode cX4_setWindow 30 = .ok (.ireturn, 1) := by decide +kernel
theorem dX4_order_0 : decode cX4_order 0 = .ok (.aload_n 0, 1) := by decide +kernel
theorem dX4_order_1 : decode cX4_order 1 = .ok (.iload_n 1, 1) := by decide +kernel
theorem dX4_order_2 : decode cX4_order 2 = .ok (.invokevirtual 76, 3) := by decide +kernel
theorem dX4_order_5 : decode cX4_order 5 = .ok (.astore 4, 2) := by decide +kernel
theorem dX4_order_7 : decode cX4_order 7 = .ok (.aload 4, 2) := by decide +kernel
theorem dX4_order_9 : decode cX4_order 9 = .ok (.ifnonnull 13, 3) := by decide +kernel
theorem dX4_order_12 : decode cX4_order 12 = .ok (.new 71, 3) := by decide +kernel
theorem dX4_order_15 : decode cX4_order 15 = .ok (.dup, 1) := by decide +kernel
theorem dX4_order_16 : decode cX4_order 16 = .ok (.ldc 80, 2) := by decide +kernel
theorem dX4_order_18 : decode cX4_order 18 = .ok (.invokespecial 75, 3) := by decide +kernel
theorem dX4_order_21 : decode cX4_order 21 = .ok (.athrow, 1) := by decide +kernel
theorem dX4_order_22 : decode cX4_order 22 = .ok (.iload_n 2, 1) := by decide +kernel
theorem dX4_order_23 : decode cX4_order 23 = .ok (.iconst 1, 1) := by decide +kernel
theorem dX4_order_24 : decode cX4_order 24 = .ok (.bipush 9, 2) := by decide +kernel
theorem dX4_order_26 : decode cX4_order 26 = .ok (.invokestatic 36, 3) := by decide +kernel
theorem dX4_order_29 : decode cX4_order 29 = .ok (.ifCond .ne 13, 3) := by decide +kernel
theorem dX4_order_32 : decode cX4_order 32 = .ok (.new 40, 3) := by decide +kernel
theorem dX4_order_35 : decode cX4_order 35 = .ok (.dup, 1) := by decide +kernel
theorem dX4_order_36 : decode cX4_order 36 = .ok (.ldc 126, 2) := by decide +kernel
theorem dX4_order_38 : decode cX4_order 38 = .ok (.invokespecial 44, 3) := by decide +kernel
theorem dX4_order_41 : decode cX4_order 41 = .ok (.athrow, 1) := by decide +kernel
theorem dX4_order_42 : decode cX4_order 42 = .ok (.iload_n 3, 1) := by decide +kernel
theorem dX4_order_43 : decode cX4_order 43 = .ok (.iconst 0, 1) := by decide +kernel
theorem dX4_order_44 : decode cX4_order 44 = .ok (.bipush 60, 2) := by decide +kernel
theorem dX4_order_46 : decode cX4_order 46 = .ok (.invokestatic 36, 3) := by decide +kernel
theorem dX4_order_49 : decode cX4_order 49 = .ok (.ifCond .ne 13, 3) := by decide +kernel
theorem dX4_order_52 : decode cX4_order 52 = .ok (.new 40, 3) := by decide +kernel
theorem dX4_order_55 : decode cX4_order 55 = .ok (.dup, 1) := by decide +kernel
theorem dX4_order_56 : decode cX4_order 56 = .ok (.ldc 128, 2) := by decide +kernel
theorem dX4_order_58 : decode cX4_order 58 = .ok (.invokespecial 44, 3) := by decide +kernel
theorem dX4_order_61 : decode cX4_order 61 = .ok (.athrow, 1) := by decide +kernel
theorem dX4_order_62 : decode cX4_order 62 = .ok (.aload_n 0, 1) := by decide +kernel
theorem dX4_order_63 : decode cX4_order 63 = .ok (.getfield 16, 3) := by decide +kernel
theorem dX4_order_66 : decode cX4_order 66 = .ok (.invokevirtual 49, 3) := by decide +kernel
theorem dX4_order_69 : decode cX4_order 69 = .ok (.bipush 6, 2) := by decide +kernel
theorem dX4_order_71 : decode cX4_order 71 = .ok (.if_icmp .lt 13, 3) := by decide +kernel
theorem dX4_order_74 : decode cX4_order 74 = .ok (.new 53, 3) := by decide +kernel
theorem dX4_order_77 : decode cX4_order 77 = .ok (.dup, 1) := by decide +kernel
theorem dX4_order_78 : decode cX4_order 78 = .ok (.ldc 130, 2) := by decide +kernel
theorem dX4_order_80 : decode cX4_order 80 = .ok (.invokespecial 57, 3) := by decide +kernel
theorem dX4_order_83 : decode cX4_order 83 = .ok (.athrow, 1) := by decide +kernel
theorem dX4_order_84 : decode cX4_order 84 = .ok (.aload_n 0, 1) := by decide +kernel
theorem dX4_order_85 : decode cX4_order 85 = .ok (.getfield 16, 3) := by decide +kernel
theorem dX4_order_88 : decode cX4_order 88 = .ok (.invokevirtual 49, 3) := by decide +kernel
theorem dX4_order_91 : decode cX4_order 91 = .ok (.istore 5, 2) := by decide +kernel
theorem dX4_order_93 : decode cX4_order 93 = .ok (.aload_n 0, 1) := by decide +kernel
theorem dX4_order_94 : decode cX4_order 94 = .ok (.getfield 16, 3) := by decide +kernel
theorem dX4_order_97 : decode cX4_order 97 = .ok (.new 132, 3) := by decide +kernel
theorem dX4_order_100 : decode cX4_order 100 = .ok (.dup, 1) := by decide +kernel
theorem dX4_order_101 : decode cX4_order 101 = .ok (.aload 4, 2) := by decide +kernel
theorem dX4_order_103 : decode cX4_order 103 = .ok (.iload_n 2, 1) := by decide +kernel
theorem dX4_order_104 : decode cX4_order 104 = .ok (.iload_n 3, 1) := by decide +kernel
theorem dX4_order_105 : decode cX4_order 105 = .ok (.invokespecial 134, 3) := by decide +kernel
theorem dX4_order_108 : decode cX4_order 108 = .ok (.invokevirtual 63, 3) := by decide +kernel
theorem dX4_order_111 : decode cX4_order 111 = .ok (.pop, 1) := by decide +kernel
theorem dX4_order_112 : decode cX4_order 112 = .ok (.iload 5, 2) := by decide +kernel
theorem dX4_order_114 : decode cX4_order 114 = .ok (.ireturn, 1) := by decide +kernel
theorem dX4_fill_0 : decode cX4_fill 0 = .ok (.iconst 0, 1) := by decide +kernel
theorem dX4_fill_1 : decode cX4_fill 1 = .ok (.istore_n 1, 1) := by decide +kernel
theorem dX4_fill_2 : decode cX4_fill 2 = .ok (.iconst 0, 1) := by decide +kernel
theorem dX4_fill_3 : decode cX4_fill 3 = .ok (.istore_n 2, 1) := by decide +kernel
theorem dX4_fill_4 : decode cX4_fill 4 = .ok (.iload_n 2, 1) := by decide +kernel
theorem dX4_fill_5 : decode cX4_fill 5 = .ok (.aload_n 0, 1) := by decide +kernel
theorem dX4_fill_6 : decode cX4_fill 6 = .ok (.getfield 16, 3) := by decide +kernel
theorem dX4_fill_9 : decode cX4_fill 9 = .ok (.invokevirtual 49, 3) := by decide +kernel
theorem dX4_fill_12 : decode cX4_fill 12 = .ok (.if_icmp .ge 30, 3) := by decide +kernel
theorem dX4_fill_15 : decode cX4_fill 15 = .ok (.iload_n 1, 1) := by decide +kernel
theorem dX4_fill_16 : decode cX4_fill 16 = .ok (.aload_n 0, 1) := by decide +kernel
theorem dX4_fill_17 : decode cX4_fill 17 = .ok (.getfield 22, 3) := by decide +kernel
theorem dX4_fill_20 : decode cX4_fill 20 = .ok (.aload_n 0, 1) := by decide +kernel
theorem dX4_fill_21 : decode cX4_fill 21 = .ok (.getfield 16, 3) := by decide +kernel
theorem dX4_fill_24 : decode cX4_fill 24 = .ok (.iload_n 2, 1) := by decide +kernel
theorem dX4_fill_25 : decode cX4_fill 25 = .ok (.invokevirtual 137, 3) := by decide +kernel
theorem dX4_fill_28 : decode cX4_fill 28 = .ok (.checkcast 132, 3) := by decide +kernel
theorem dX4_fill_31 : decode cX4_fill 31 = .ok (.invokevirtual 141, 3) := by decide +kernel
theorem dX4_fill_34 : decode cX4_fill 34 = .ok (.iadd, 1) := by decide +kernel
theorem dX4_fill_35 : decode cX4_fill 35 = .ok (.istore_n 1, 1) := by decide +kernel
theorem dX4_fill_36 : decode cX4_fill 36 = .ok (.iinc 2 1, 3) := by decide +kernel
theorem dX4_fill_39 : decode cX4_fill 39 = .ok (.goto (-35), 3) := by decide +kernel
theorem dX4_fill_42 : decode cX4_fill 42 = .ok (.iload_n 1, 1) := by decide +kernel
theorem dX4_fill_43 : decode cX4_fill 43 = .ok (.ireturn, 1) := by decide +kernel
theorem dX4_pass_0 : decode cX4_pass 0 = .ok (.iload_n 1, 1) := by decide +kernel
theorem dX4_pass_1 : decode cX4_pass 1 = .ok (.iconst 1, 1) := by decide +kernel
theorem dX4_pass_2 : decode cX4_pass 2 = .ok (.bipush 60, 2) := by decide +kernel
theorem dX4_pass_4 : decode cX4_pass 4 = .ok (.invokestatic 36, 3) := by decide +kernel
theorem dX4_pass_7 : decode cX4_pass 7 = .ok (.ifCond .ne 13, 3) := by decide +kernel
theorem dX4_pass_10 : decode cX4_pass 10 = .ok (.new 40, 3) := by decide +kernel
theorem dX4_pass_13 : decode cX4_pass 13 = .ok (.dup, 1) := by decide +kernel
theorem dX4_pass_14 : decode cX4_pass 14 = .ok (.ldc 145, 2) := by decide +kernel
theorem dX4_pass_16 : decode cX4_pass 16 = .ok (.invokespecial 44, 3) := by decide +kernel
theorem dX4_pass_19 : decode cX4_pass 19 = .ok (.athrow, 1) := by decide +kernel
theorem dX4_pass_20 : decode cX4_pass 20 = .ok (.iload_n 2, 1) := by decide +kernel
theorem dX4_pass_21 : decode cX4_pass 21 = .ok (.iconst 0, 1) := by decide +kernel
theorem dX4_pass_22 : decode cX4_pass 22 = .ok (.bipush 9, 2) := by decide +kernel
theorem dX4_pass_24 : decode cX4_pass 24 = .ok (.invokestatic 36, 3) := by decide +kernel
theorem dX4_pass_27 : decode cX4_pass 27 = .ok (.ifCond .ne 13, 3) := by decide +kernel
theorem dX4_pass_30 : decode cX4_pass 30 = .ok (.new 40, 3) := by decide +kernel
theorem dX4_pass_33 : decode cX4_pass 33 = .ok (.dup, 1) := by decide +kernel
theorem dX4_pass_34 : decode cX4_pass 34 = .ok (.ldc 147, 2) := by decide +kernel
theorem dX4_pass_36 : decode cX4_pass 36 = .ok (.invokespecial 44, 3) := by decide +kernel
theorem dX4_pass_39 : decode cX4_pass 39 = .ok (.athrow, 1) := by decide +kernel
theorem dX4_pass_40 : decode cX4_pass 40 = .ok (.aload_n 0, 1) := by decide +kernel
theorem dX4_pass_41 : decode cX4_pass 41 = .ok (.getfield 22, 3) := by decide +kernel
theorem dX4_pass_44 : decode cX4_pass 44 = .ok (.iload_n 1, 1) := by decide +kernel
theorem dX4_pass_45 : decode cX4_pass 45 = .ok (.aload_n 0, 1) := by decide +kernel
theorem dX4_pass_46 : decode cX4_pass 46 = .ok (.getfield 29, 3) := by decide +kernel
theorem dX4_pass_49 : decode cX4_pass 49 = .ok (.iload_n 2, 1) := by decide +kernel
theorem dX4_pass_50 : decode cX4_pass 50 = .ok (.invokevirtual 149, 3) := by decide +kernel
theorem dX4_pass_53 : decode cX4_pass 53 = .ok (.aload_n 0, 1) := by decide +kernel
theorem dX4_pass_54 : decode cX4_pass 54 = .ok (.dup, 1) := by decide +kernel
theorem dX4_pass_55 : decode cX4_pass 55 = .ok (.getfield 33, 3) := by decide +kernel
theorem dX4_pass_58 : decode cX4_pass 58 = .ok (.iload_n 1, 1) := by decide +kernel
theorem dX4_pass_59 : decode cX4_pass 59 = .ok (.iadd, 1) := by decide +kernel
theorem dX4_pass_60 : decode cX4_pass 60 = .ok (.putfield 33, 3) := by decide +kernel
theorem dX4_pass_63 : decode cX4_pass 63 = .ok (.aload_n 0, 1) := by decide +kernel
theorem dX4_pass_64 : decode cX4_pass 64 = .ok (.getfield 22, 3) := by decide +kernel
theorem dX4_pass_67 : decode cX4_pass 67 = .ok (.invokevirtual 152, 3) := by decide +kernel
theorem dX4_pass_70 : decode cX4_pass 70 = .ok (.ireturn, 1) := by decide +kernel
theorem dX4_told_0 : decode cX4_told 0 = .ok (.aload_n 0, 1) := by decide +kernel
theorem dX4_told_1 : decode cX4_told 1 = .ok (.getfield 22, 3) := by decide +kernel
theorem dX4_told_4 : decode cX4_told 4 = .ok (.iload_n 1, 1) := by decide +kernel
theorem dX4_told_5 : decode cX4_told 5 = .ok (.iload_n 2, 1) := by decide +kernel
theorem dX4_told_6 : decode cX4_told 6 = .ok (.invokevirtual 67, 3) := by decide +kernel
theorem dX4_told_9 : decode cX4_told 9 = .ok (.astore 4, 2) := by decide +kernel
theorem dX4_told_11 : decode cX4_told 11 = .ok (.aload 4, 2) := by decide +kernel
theorem dX4_told_13 : decode cX4_told 13 = .ok (.ifnonnull 13, 3) := by decide +kernel
theorem dX4_told_16 : decode cX4_told 16 = .ok (.new 71, 3) := by decide +kernel
theorem dX4_told_19 : decode cX4_told 19 = .ok (.dup, 1) := by decide +kernel
theorem dX4_told_20 : decode cX4_told 20 = .ok (.ldc 73, 2) := by decide +kernel
theorem dX4_told_22 : decode cX4_told 22 = .ok (.invokespecial 75, 3) := by decide +kernel
theorem dX4_told_25 : decode cX4_told 25 = .ok (.athrow, 1) := by decide +kernel
theorem dX4_told_26 : decode cX4_told 26 = .ok (.iload_n 3, 1) := by decide +kernel
theorem dX4_told_27 : decode cX4_told 27 = .ok (.iconst 0, 1) := by decide +kernel
theorem dX4_told_28 : decode cX4_told 28 = .ok (.bipush 7, 2) := by decide +kernel
theorem dX4_told_30 : decode cX4_told 30 = .ok (.invokestatic 36, 3) := by decide +kernel
theorem dX4_told_33 : decode cX4_told 33 = .ok (.ifCond .ne 13, 3) := by decide +kernel
theorem dX4_told_36 : decode cX4_told 36 = .ok (.new 71, 3) := by decide +kernel
theorem dX4_told_39 : decode cX4_told 39 = .ok (.dup, 1) := by decide +kernel
theorem dX4_told_40 : decode cX4_told 40 = .ok (.ldc 155, 2) := by decide +kernel
theorem dX4_told_42 : decode cX4_told 42 = .ok (.invokespecial 75, 3) := by decide +kernel
theorem dX4_told_45 : decode cX4_told 45 = .ok (.athrow, 1) := by decide +kernel
theorem dX4_told_46 : decode cX4_told 46 = .ok (.aload 4, 2) := by decide +kernel
theorem dX4_told_48 : decode cX4_told 48 = .ok (.iload_n 3, 1) := by decide +kernel
theorem dX4_told_49 : decode cX4_told 49 = .ok (.invokevirtual 157, 3) := by decide +kernel
theorem dX4_told_52 : decode cX4_told 52 = .ok (.ireturn, 1) := by decide +kernel
theorem dX4_about_0 : decode cX4_about 0 = .ok (.aload_n 0, 1) := by decide +kernel
theorem dX4_about_1 : decode cX4_about 1 = .ok (.iload_n 1, 1) := by decide +kernel
theorem dX4_about_2 : decode cX4_about 2 = .ok (.invokevirtual 76, 3) := by decide +kernel
theorem dX4_about_5 : decode cX4_about 5 = .ok (.astore_n 3, 1) := by decide +kernel
theorem dX4_about_6 : decode cX4_about 6 = .ok (.aload_n 3, 1) := by decide +kernel
theorem dX4_about_7 : decode cX4_about 7 = .ok (.ifnonnull 13, 3) := by decide +kernel
theorem dX4_about_10 : decode cX4_about 10 = .ok (.new 71, 3) := by decide +kernel
theorem dX4_about_13 : decode cX4_about 13 = .ok (.dup, 1) := by decide +kernel
theorem dX4_about_14 : decode cX4_about 14 = .ok (.ldc 80, 2) := by decide +kernel
theorem dX4_about_16 : decode cX4_about 16 = .ok (.invokespecial 75, 3) := by decide +kernel
theorem dX4_about_19 : decode cX4_about 19 = .ok (.athrow, 1) := by decide +kernel
theorem dX4_about_20 : decode cX4_about 20 = .ok (.iload_n 2, 1) := by decide +kernel
theorem dX4_about_21 : decode cX4_about 21 = .ok (.tableswitch 72 0 4 #[35, 40, 45, 54, 63], 35) := by decide +kernel
theorem dX4_about_56 : decode cX4_about 56 = .ok (.aload_n 3, 1) := by decide +kernel
theorem dX4_about_57 : decode cX4_about 57 = .ok (.getfield 160, 3) := by decide +kernel
theorem dX4_about_60 : decode cX4_about 60 = .ok (.ireturn, 1) := by decide +kernel
theorem dX4_about_61 : decode cX4_about 61 = .ok (.aload_n 3, 1) := by decide +kernel
theorem dX4_about_62 : decode cX4_about 62 = .ok (.getfield 163, 3) := by decide +kernel
theorem dX4_about_65 : decode cX4_about 65 = .ok (.ireturn, 1) := by decide +kernel
theorem dX4_about_66 : decode cX4_about 66 = .ok (.aload_n 0, 1) := by decide +kernel
theorem dX4_about_67 : decode cX4_about 67 = .ok (.getfield 22, 3) := by decide +kernel
theorem dX4_about_70 : decode cX4_about 70 = .ok (.aload_n 3, 1) := by decide +kernel
theorem dX4_about_71 : decode cX4_about 71 = .ok (.invokevirtual 166, 3) := by decide +kernel
theorem dX4_about_74 : decode cX4_about 74 = .ok (.ireturn, 1) := by decide +kernel
theorem dX4_about_75 : decode cX4_about 75 = .ok (.aload_n 0, 1) := by decide +kernel
theorem dX4_about_76 : decode cX4_about 76 = .ok (.getfield 22, 3) := by decide +kernel
theorem dX4_about_79 : decode cX4_about 79 = .ok (.aload_n 3, 1) := by decide +kernel
theorem dX4_about_80 : decode cX4_about 80 = .ok (.invokevirtual 170, 3) := by decide +kernel
theorem dX4_about_83 : decode cX4_about 83 = .ok (.ireturn, 1) := by decide +kernel
theorem dX4_about_84 : decode cX4_about 84 = .ok (.aload_n 0, 1) := by decide +kernel
theorem dX4_about_85 : decode cX4_about 85 = .ok (.getfield 22, 3) := by decide +kernel
theorem dX4_about_88 : decode cX4_about 88 = .ok (.aload_n 3, 1) := by decide +kernel
theorem dX4_about_89 : decode cX4_about 89 = .ok (.invokevirtual 173, 3) := by decide +kernel
theorem dX4_about_92 : decode cX4_about 92 = .ok (.ireturn, 1) := by decide +kernel
theorem dX4_about_93 : decode cX4_about 93 = .ok (.new 71, 3) := by decide +kernel
theorem dX4_about_96 : decode cX4_about 96 = .ok (.dup, 1) := by decide +kernel
theorem dX4_about_97 : decode cX4_about 97 = .ok (.ldc 176, 2) := by decide +kernel
theorem dX4_about_99 : decode cX4_about 99 = .ok (.invokespecial 75, 3) := by decide +kernel
theorem dX4_about_102 : decode cX4_about 102 = .ok (.athrow, 1) := by decide +kernel
theorem dX4_asked_0 : decode cX4_asked 0 = .ok (.iload_n 1, 1) := by decide +kernel
theorem dX4_asked_1 : decode cX4_asked 1 = .ok (.ifCond .lt 14, 3) := by decide +kernel
theorem dX4_asked_4 : decode cX4_asked 4 = .ok (.iload_n 1, 1) := by decide +kernel
theorem dX4_asked_5 : decode cX4_asked 5 = .ok (.aload_n 0, 1) := by decide +kernel
theorem dX4_asked_6 : decode cX4_asked 6 = .ok (.getfield 16, 3) := by decide +kernel
theorem dX4_asked_9 : decode cX4_asked 9 = .ok (.invokevirtual 49, 3) := by decide +kernel
theorem dX4_asked_12 : decode cX4_asked 12 = .ok (.if_icmp .lt 13, 3) := by decide +kernel
theorem dX4_asked_15 : decode cX4_asked 15 = .ok (.new 71, 3) := by decide +kernel
theorem dX4_asked_18 : decode cX4_asked 18 = .ok (.dup, 1) := by decide +kernel
theorem dX4_asked_19 : decode cX4_asked 19 = .ok (.ldc 178, 2) := by decide +kernel
theorem dX4_asked_21 : decode cX4_asked 21 = .ok (.invokespecial 75, 3) := by decide +kernel
theorem dX4_asked_24 : decode cX4_asked 24 = .ok (.athrow, 1) := by decide +kernel
theorem dX4_asked_25 : decode cX4_asked 25 = .ok (.aload_n 0, 1) := by decide +kernel
theorem dX4_asked_26 : decode cX4_asked 26 = .ok (.getfield 16, 3) := by decide +kernel
theorem dX4_asked_29 : decode cX4_asked 29 = .ok (.iload_n 1, 1) := by decide +kernel
theorem dX4_asked_30 : decode cX4_asked 30 = .ok (.invokevirtual 137, 3) := by decide +kernel
theorem dX4_asked_33 : decode cX4_asked 33 = .ok (.checkcast 132, 3) := by decide +kernel
theorem dX4_asked_36 : decode cX4_asked 36 = .ok (.astore_n 3, 1) := by decide +kernel
theorem dX4_asked_37 : decode cX4_asked 37 = .ok (.iload_n 2, 1) := by decide +kernel
theorem dX4_asked_38 : decode cX4_asked 38 = .ok (.tableswitch 66 0 4 #[34, 42, 47, 52, 57], 34) := by decide +kernel
theorem dX4_asked_72 : decode cX4_asked 72 = .ok (.aload_n 3, 1) := by decide +kernel
theorem dX4_asked_73 : decode cX4_asked 73 = .ok (.getfield 180, 3) := by decide +kernel
theorem dX4_asked_76 : decode cX4_asked 76 = .ok (.getfield 184, 3) := by decide +kernel
theorem dX4_asked_79 : decode cX4_asked 79 = .ok (.ireturn, 1) := by decide +kernel
theorem dX4_asked_80 : decode cX4_asked 80 = .ok (.aload_n 3, 1) := by decide +kernel
theorem dX4_asked_81 : decode cX4_asked 81 = .ok (.getfield 187, 3) := by decide +kernel
theorem dX4_asked_84 : decode cX4_asked 84 = .ok (.ireturn, 1) := by decide +kernel
theorem dX4_asked_85 : decode cX4_asked 85 = .ok (.aload_n 3, 1) := by decide +kernel
theorem dX4_asked_86 : decode cX4_asked 86 = .ok (.getfield 190, 3) := by decide +kernel
theorem dX4_asked_89 : decode cX4_asked 89 = .ok (.ireturn, 1) := by decide +kernel
theorem dX4_asked_90 : decode cX4_asked 90 = .ok (.aload_n 3, 1) := by decide +kernel
theorem dX4_asked_91 : decode cX4_asked 91 = .ok (.getfield 193, 3) := by decide +kernel
theorem dX4_asked_94 : decode cX4_asked 94 = .ok (.ireturn, 1) := by decide +kernel
theorem dX4_asked_95 : decode cX4_asked 95 = .ok (.aload_n 0, 1) := by decide +kernel
theorem dX4_asked_96 : decode cX4_asked 96 = .ok (.getfield 22, 3) := by decide +kernel
theorem dX4_asked_99 : decode cX4_asked 99 = .ok (.aload_n 3, 1) := by decide +kernel
theorem dX4_asked_100 : decode cX4_asked 100 = .ok (.invokevirtual 196, 3) := by decide +kernel
theorem dX4_asked_103 : decode cX4_asked 103 = .ok (.ireturn, 1) := by decide +kernel
theorem dX4_asked_104 : decode cX4_asked 104 = .ok (.new 71, 3) := by decide +kernel
theorem dX4_asked_107 : decode cX4_asked 107 = .ok (.dup, 1) := by decide +kernel
theorem dX4_asked_108 : decode cX4_asked 108 = .ok (.ldc 176, 2) := by decide +kernel
theorem dX4_asked_110 : decode cX4_asked 110 = .ok (.invokespecial 75, 3) := by decide +kernel
theorem dX4_asked_113 : decode cX4_asked 113 = .ok (.athrow, 1) := by decide +kernel
theorem dX4_count_0 : decode cX4_count 0 = .ok (.iload_n 1, 1) := by decide +kernel
theorem dX4_count_1 : decode cX4_count 1 = .ok (.tableswitch 111 0 8 #[51, 56, 64, 72, 80, 88, 93, 98, 103], 51) := by decide +kernel
theorem dX4_count_52 : decode cX4_count 52 = .ok (.aload_n 0, 1) := by decide +kernel
theorem dX4_count_53 : decode cX4_count 53 = .ok (.getfield 33, 3) := by decide +kernel
theorem dX4_count_56 : decode cX4_count 56 = .ok (.ireturn, 1) := by decide +kernel
theorem dX4_count_57 : decode cX4_count 57 = .ok (.aload_n 0, 1) := by decide +kernel
theorem dX4_count_58 : decode cX4_count 58 = .ok (.getfield 10, 3) := by decide +kernel
theorem dX4_count_61 : decode cX4_count 61 = .ok (.invokevirtual 49, 3) := by decide +kernel
theorem dX4_count_64 : decode cX4_count 64 = .ok (.ireturn, 1) := by decide +kernel
theorem dX4_count_65 : decode cX4_count 65 = .ok (.aload_n 0, 1) := by decide +kernel
theorem dX4_count_66 : decode cX4_count 66 = .ok (.getfield 22, 3) := by decide +kernel
theorem dX4_count_69 : decode cX4_count 69 = .ok (.invokevirtual 96, 3) := by decide +kernel
theorem dX4_count_72 : decode cX4_count 72 = .ok (.ireturn, 1) := by decide +kernel
theorem dX4_count_73 : decode cX4_count 73 = .ok (.aload_n 0, 1) := by decide +kernel
theorem dX4_count_74 : decode cX4_count 74 = .ok (.getfield 22, 3) := by decide +kernel
theorem dX4_count_77 : decode cX4_count 77 = .ok (.invokevirtual 152, 3) := by decide +kernel
theorem dX4_count_80 : decode cX4_count 80 = .ok (.ireturn, 1) := by decide +kernel
theorem dX4_count_81 : decode cX4_count 81 = .ok (.aload_n 0, 1) := by decide +kernel
theorem dX4_count_82 : decode cX4_count 82 = .ok (.getfield 16, 3) := by decide +kernel
theorem dX4_count_85 : decode cX4_count 85 = .ok (.invokevirtual 49, 3) := by decide +kernel
theorem dX4_count_88 : decode cX4_count 88 = .ok (.ireturn, 1) := by decide +kernel
theorem dX4_count_89 : decode cX4_count 89 = .ok (.aload_n 0, 1) := by decide +kernel
theorem dX4_count_90 : decode cX4_count 90 = .ok (.invokevirtual 199, 3) := by decide +kernel
theorem dX4_count_93 : decode cX4_count 93 = .ok (.ireturn, 1) := by decide +kernel
theorem dX4_count_94 : decode cX4_count 94 = .ok (.aload_n 0, 1) := by decide +kernel
theorem dX4_count_95 : decode cX4_count 95 = .ok (.invokevirtual 202, 3) := by decide +kernel
theorem dX4_count_98 : decode cX4_count 98 = .ok (.ireturn, 1) := by decide +kernel
theorem dX4_count_99 : decode cX4_count 99 = .ok (.aload_n 0, 1) := by decide +kernel
theorem dX4_count_100 : decode cX4_count 100 = .ok (.getfield 29, 3) := by decide +kernel
theorem dX4_count_103 : decode cX4_count 103 = .ok (.ireturn, 1) := by decide +kernel
theorem dX4_count_104 : decode cX4_count 104 = .ok (.aload_n 0, 1) := by decide +kernel
theorem dX4_count_105 : decode cX4_count 105 = .ok (.getfield 22, 3) := by decide +kernel
theorem dX4_count_108 : decode cX4_count 108 = .ok (.invokevirtual 205, 3) := by decide +kernel
theorem dX4_count_111 : decode cX4_count 111 = .ok (.ireturn, 1) := by decide +kernel
theorem dX4_count_112 : decode cX4_count 112 = .ok (.new 71, 3) := by decide +kernel
theorem dX4_count_115 : decode cX4_count 115 = .ok (.dup, 1) := by decide +kernel
theorem dX4_count_116 : decode cX4_count 116 = .ok (.ldc 208, 2) := by decide +kernel
theorem dX4_count_118 : decode cX4_count 118 = .ok (.invokespecial 75, 3) := by decide +kernel
theorem dX4_count_121 : decode cX4_count 121 = .ok (.athrow, 1) := by decide +kernel
theorem dX4_foresee_0 : decode cX4_foresee 0 = .ok (.iload_n 1, 1) := by decide +kernel
theorem dX4_foresee_1 : decode cX4_foresee 1 = .ok (.iconst 1, 1) := by decide +kernel
theorem dX4_foresee_2 : decode cX4_foresee 2 = .ok (.bipush 60, 2) := by decide +kernel
theorem dX4_foresee_4 : decode cX4_foresee 4 = .ok (.invokestatic 36, 3) := by decide +kernel
theorem dX4_foresee_7 : decode cX4_foresee 7 = .ok (.ifCond .ne 13, 3) := by decide +kernel
theorem dX4_foresee_10 : decode cX4_foresee 10 = .ok (.new 40, 3) := by decide +kernel
theorem dX4_foresee_13 : decode cX4_foresee 13 = .ok (.dup, 1) := by decide +kernel
theorem dX4_foresee_14 : decode cX4_foresee 14 = .ok (.ldc 145, 2) := by decide +kernel
theorem dX4_foresee_16 : decode cX4_foresee 16 = .ok (.invokespecial 44, 3) := by decide +kernel
theorem dX4_foresee_19 : decode cX4_foresee 19 = .ok (.athrow, 1) := by decide +kernel
theorem dX4_foresee_20 : decode cX4_foresee 20 = .ok (.iload_n 2, 1) := by decide +kernel
theorem dX4_foresee_21 : decode cX4_foresee 21 = .ok (.iconst 0, 1) := by decide +kernel
theorem dX4_foresee_22 : decode cX4_foresee 22 = .ok (.bipush 9, 2) := by decide +kernel
theorem dX4_foresee_24 : decode cX4_foresee 24 = .ok (.invokestatic 36, 3) := by decide +kernel
theorem dX4_foresee_27 : decode cX4_foresee 27 = .ok (.ifCond .ne 13, 3) := by decide +kernel
theorem dX4_foresee_30 : decode cX4_foresee 30 = .ok (.new 40, 3) := by decide +kernel
theorem dX4_foresee_33 : decode cX4_foresee 33 = .ok (.dup, 1) := by decide +kernel
theorem dX4_foresee_34 : decode cX4_foresee 34 = .ok (.ldc 147, 2) := by decide +kernel
theorem dX4_foresee_36 : decode cX4_foresee 36 = .ok (.invokespecial 44, 3) := by decide +kernel
theorem dX4_foresee_39 : decode cX4_foresee 39 = .ok (.athrow, 1) := by decide +kernel
theorem dX4_foresee_40 : decode cX4_foresee 40 = .ok (.iload_n 3, 1) := by decide +kernel
theorem dX4_foresee_41 : decode cX4_foresee 41 = .ok (.iconst 3, 1) := by decide +kernel
theorem dX4_foresee_42 : decode cX4_foresee 42 = .ok (.if_icmp .eq 19, 3) := by decide +kernel
theorem dX4_foresee_45 : decode cX4_foresee 45 = .ok (.iload_n 3, 1) := by decide +kernel
theorem dX4_foresee_46 : decode cX4_foresee 46 = .ok (.bipush 8, 2) := by decide +kernel
theorem dX4_foresee_48 : decode cX4_foresee 48 = .ok (.if_icmp .eq 13, 3) := by decide +kernel
theorem dX4_foresee_51 : decode cX4_foresee 51 = .ok (.new 71, 3) := by decide +kernel
theorem dX4_foresee_54 : decode cX4_foresee 54 = .ok (.dup, 1) := by decide +kernel
theorem dX4_foresee_55 : decode cX4_foresee 55 = .ok (.ldc 214, 2) := by decide +kernel
theorem dX4_foresee_57 : decode cX4_foresee 57 = .ok (.invokespecial 75, 3) := by decide +kernel
theorem dX4_foresee_60 : decode cX4_foresee 60 = .ok (.athrow, 1) := by decide +kernel
theorem dX4_foresee_61 : decode cX4_foresee 61 = .ok (.aload_n 0, 1) := by decide +kernel
theorem dX4_foresee_62 : decode cX4_foresee 62 = .ok (.getfield 26, 3) := by decide +kernel
theorem dX4_foresee_65 : decode cX4_foresee 65 = .ok (.aload_n 0, 1) := by decide +kernel
theorem dX4_foresee_66 : decode cX4_foresee 66 = .ok (.getfield 22, 3) := by decide +kernel
theorem dX4_foresee_69 : decode cX4_foresee 69 = .ok (.invokevirtual 210, 3) := by decide +kernel
theorem dX4_foresee_72 : decode cX4_foresee 72 = .ok (.aload_n 0, 1) := by decide +kernel
theorem dX4_foresee_73 : decode cX4_foresee 73 = .ok (.getfield 26, 3) := by decide +kernel
theorem dX4_foresee_76 : decode cX4_foresee 76 = .ok (.iload_n 1, 1) := by decide +kernel
theorem dX4_foresee_77 : decode cX4_foresee 77 = .ok (.aload_n 0, 1) := by decide +kernel
theorem dX4_foresee_78 : decode cX4_foresee 78 = .ok (.getfield 29, 3) := by decide +kernel
theorem dX4_foresee_81 : decode cX4_foresee 81 = .ok (.iload_n 2, 1) := by decide +kernel
theorem dX4_foresee_82 : decode cX4_foresee 82 = .ok (.invokevirtual 149, 3) := by decide +kernel
theorem dX4_foresee_85 : decode cX4_foresee 85 = .ok (.iload_n 3, 1) := by decide +kernel
theorem dX4_foresee_86 : decode cX4_foresee 86 = .ok (.iconst 3, 1) := by decide +kernel
theorem dX4_foresee_87 : decode cX4_foresee 87 = .ok (.if_icmp .ne 13, 3) := by decide +kernel
theorem dX4_foresee_90 : decode cX4_foresee 90 = .ok (.aload_n 0, 1) := by decide +kernel
theorem dX4_foresee_91 : decode cX4_foresee 91 = .ok (.getfield 26, 3) := by decide +kernel
theorem dX4_foresee_94 : decode cX4_foresee 94 = .ok (.invokevirtual 152, 3) := by decide +kernel
theorem dX4_foresee_97 : decode cX4_foresee 97 = .ok (.goto 10, 3) := by decide +kernel
theorem dX4_foresee_100 : decode cX4_foresee 100 = .ok (.aload_n 0, 1) := by decide +kernel
theorem dX4_foresee_101 : decode cX4_foresee 101 = .ok (.getfield 26, 3) := by decide +kernel
theorem dX4_foresee_104 : decode cX4_foresee 104 = .ok (.invokevirtual 205, 3) := by decide +kernel
theorem dX4_foresee_107 : decode cX4_foresee 107 = .ok (.ireturn, 1) := by decide +kernel
theorem dX4_mean_0 : decode cX4_mean 0 = .ok (.aload_n 0, 1) := by decide +kernel
theorem dX4_mean_1 : decode cX4_mean 1 = .ok (.getfield 22, 3) := by decide +kernel
theorem dX4_mean_4 : decode cX4_mean 4 = .ok (.invokevirtual 96, 3) := by decide +kernel
theorem dX4_mean_7 : decode cX4_mean 7 = .ok (.istore_n 1, 1) := by decide +kernel
theorem dX4_mean_8 : decode cX4_mean 8 = .ok (.iload_n 1, 1) := by decide +kernel
theorem dX4_mean_9 : decode cX4_mean 9 = .ok (.ifCond .ne 5, 3) := by decide +kernel
theorem dX4_mean_12 : decode cX4_mean 12 = .ok (.dconst 0, 1) := by decide +kernel
theorem dX4_mean_13 : decode cX4_mean 13 = .ok (.dreturn, 1) := by decide +kernel
theorem dX4_mean_14 : decode cX4_mean 14 = .ok (.aload_n 0, 1) := by decide +kernel
theorem dX4_mean_15 : decode cX4_mean 15 = .ok (.getfield 22, 3) := by decide +kernel
theorem dX4_mean_18 : decode cX4_mean 18 = .ok (.invokevirtual 205, 3) := by decide +kernel
theorem dX4_mean_21 : decode cX4_mean 21 = .ok (.i2d, 1) := by decide +kernel
theorem dX4_mean_22 : decode cX4_mean 22 = .ok (.iload_n 1, 1) := by decide +kernel
theorem dX4_mean_23 : decode cX4_mean 23 = .ok (.i2d, 1) := by decide +kernel
theorem dX4_mean_24 : decode cX4_mean 24 = .ok (.ddiv, 1) := by decide +kernel
theorem dX4_mean_25 : decode cX4_mean 25 = .ok (.dreturn, 1) := by decide +kernel
theorem dX4_digest_0 : decode cX4_digest 0 = .ok (.ldc2_w 222, 3) := by decide +kernel
theorem dX4_digest_3 : decode cX4_digest 3 = .ok (.lstore_n 1, 1) := by decide +kernel
theorem dX4_digest_4 : decode cX4_digest 4 = .ok (.iconst 0, 1) := by decide +kernel
theorem dX4_digest_5 : decode cX4_digest 5 = .ok (.istore_n 3, 1) := by decide +kernel
theorem dX4_digest_6 : decode cX4_digest 6 = .ok (.iload_n 3, 1) := by decide +kernel
theorem dX4_digest_7 : decode cX4_digest 7 = .ok (.bipush 8, 2) := by decide +kernel
theorem dX4_digest_9 : decode cX4_digest 9 = .ok (.if_icmp .gt 22, 3) := by decide +kernel
theorem dX4_digest_12 : decode cX4_digest 12 = .ok (.lload_n 1, 1) := by decide +kernel
theorem dX4_digest_13 : decode cX4_digest 13 = .ok (.ldc2_w 224, 3) := by decide +kernel
theorem dX4_digest_16 : decode cX4_digest 16 = .ok (.lmul, 1) := by decide +kernel
theorem dX4_digest_17 : decode cX4_digest 17 = .ok (.aload_n 0, 1) := by decide +kernel
theorem dX4_digest_18 : decode cX4_digest 18 = .ok (.iload_n 3, 1) := by decide +kernel
theorem dX4_digest_19 : decode cX4_digest 19 = .ok (.invokevirtual 226, 3) := by decide +kernel
theorem dX4_digest_22 : decode cX4_digest 22 = .ok (.i2l, 1) := by decide +kernel
theorem dX4_digest_23 : decode cX4_digest 23 = .ok (.ladd, 1) := by decide +kernel
theorem dX4_digest_24 : decode cX4_digest 24 = .ok (.lstore_n 1, 1) := by decide +kernel
theorem dX4_digest_25 : decode cX4_digest 25 = .ok (.iinc 3 1, 3) := by decide +kernel
theorem dX4_digest_28 : decode cX4_digest 28 = .ok (.goto (-22), 3) := by decide +kernel
theorem dX4_digest_31 : decode cX4_digest 31 = .ok (.iconst 0, 1) := by decide +kernel
theorem dX4_digest_32 : decode cX4_digest 32 = .ok (.istore_n 3, 1) := by decide +kernel
theorem dX4_digest_33 : decode cX4_digest 33 = .ok (.iload_n 3, 1) := by decide +kernel
theorem dX4_digest_34 : decode cX4_digest 34 = .ok (.aload_n 0, 1) := by decide +kernel
theorem dX4_digest_35 : decode cX4_digest 35 = .ok (.getfield 10, 3) := by decide +kernel
theorem dX4_digest_38 : decode cX4_digest 38 = .ok (.invokevirtual 49, 3) := by decide +kernel
theorem dX4_digest_41 : decode cX4_digest 41 = .ok (.if_icmp .ge 39, 3) := by decide +kernel
theorem dX4_digest_44 : decode cX4_digest 44 = .ok (.iconst 0, 1) := by decide +kernel
theorem dX4_digest_45 : decode cX4_digest 45 = .ok (.istore 4, 2) := by decide +kernel
theorem dX4_digest_47 : decode cX4_digest 47 = .ok (.iload 4, 2) := by decide +kernel
theorem dX4_digest_49 : decode cX4_digest 49 = .ok (.iconst 4, 1) := by decide +kernel
theorem dX4_digest_50 : decode cX4_digest 50 = .ok (.if_icmp .gt 24, 3) := by decide +kernel
theorem dX4_digest_53 : decode cX4_digest 53 = .ok (.lload_n 1, 1) := by decide +kernel
theorem dX4_digest_54 : decode cX4_digest 54 = .ok (.ldc2_w 224, 3) := by decide +kernel
theorem dX4_digest_57 : decode cX4_digest 57 = .ok (.lmul, 1) := by decide +kernel
theorem dX4_digest_58 : decode cX4_digest 58 = .ok (.aload_n 0, 1) := by decide +kernel
theorem dX4_digest_59 : decode cX4_digest 59 = .ok (.iload_n 3, 1) := by decide +kernel
theorem dX4_digest_60 : decode cX4_digest 60 = .ok (.iload 4, 2) := by decide +kernel
theorem dX4_digest_62 : decode cX4_digest 62 = .ok (.invokevirtual 229, 3) := by decide +kernel
theorem dX4_digest_65 : decode cX4_digest 65 = .ok (.i2l, 1) := by decide +kernel
theorem dX4_digest_66 : decode cX4_digest 66 = .ok (.ladd, 1) := by decide +kernel
theorem dX4_digest_67 : decode cX4_digest 67 = .ok (.lstore_n 1, 1) := by decide +kernel
theorem dX4_digest_68 : decode cX4_digest 68 = .ok (.iinc 4 1, 3) := by decide +kernel
theorem dX4_digest_71 : decode cX4_digest 71 = .ok (.goto (-24), 3) := by decide +kernel
theorem dX4_digest_74 : decode cX4_digest 74 = .ok (.iinc 3 1, 3) := by decide +kernel
theorem dX4_digest_77 : decode cX4_digest 77 = .ok (.goto (-44), 3) := by decide +kernel
theorem dX4_digest_80 : decode cX4_digest 80 = .ok (.iconst 0, 1) := by decide +kernel
theorem dX4_digest_81 : decode cX4_digest 81 = .ok (.istore_n 3, 1) := by decide +kernel
theorem dX4_digest_82 : decode cX4_digest 82 = .ok (.iload_n 3, 1) := by decide +kernel
theorem dX4_digest_83 : decode cX4_digest 83 = .ok (.aload_n 0, 1) := by decide +kernel
theorem dX4_digest_84 : decode cX4_digest 84 = .ok (.getfield 16, 3) := by decide +kernel
theorem dX4_digest_87 : decode cX4_digest 87 = .ok (.invokevirtual 49, 3) := by decide +kernel
theorem dX4_digest_90 : decode cX4_digest 90 = .ok (.if_icmp .ge 39, 3) := by decide +kernel
theorem dX4_digest_93 : decode cX4_digest 93 = .ok (.iconst 0, 1) := by decide +kernel
theorem dX4_digest_94 : decode cX4_digest 94 = .ok (.istore 4, 2) := by decide +kernel
theorem dX4_digest_96 : decode cX4_digest 96 = .ok (.iload 4, 2) := by decide +kernel
theorem dX4_digest_98 : decode cX4_digest 98 = .ok (.iconst 4, 1) := by decide +kernel
theorem dX4_digest_99 : decode cX4_digest 99 = .ok (.if_icmp .gt 24, 3) := by decide +kernel
theorem dX4_digest_102 : decode cX4_digest 102 = .ok (.lload_n 1, 1) := by decide +kernel
theorem dX4_digest_103 : decode cX4_digest 103 = .ok (.ldc2_w 224, 3) := by decide +kernel
theorem dX4_digest_106 : decode cX4_digest 106 = .ok (.lmul, 1) := by decide +kernel
theorem dX4_digest_107 : decode cX4_digest 107 = .ok (.aload_n 0, 1) := by decide +kernel
theorem dX4_digest_108 : decode cX4_digest 108 = .ok (.iload_n 3, 1) := by decide +kernel
theorem dX4_digest_109 : decode cX4_digest 109 = .ok (.iload 4, 2) := by decide +kernel
theorem dX4_digest_111 : decode cX4_digest 111 = .ok (.invokevirtual 232, 3) := by decide +kernel
theorem dX4_digest_114 : decode cX4_digest 114 = .ok (.i2l, 1) := by decide +kernel
theorem dX4_digest_115 : decode cX4_digest 115 = .ok (.ladd, 1) := by decide +kernel
theorem dX4_digest_116 : decode cX4_digest 116 = .ok (.lstore_n 1, 1) := by decide +kernel
theorem dX4_digest_117 : decode cX4_digest 117 = .ok (.iinc 4 1, 3) := by decide +kernel
theorem dX4_digest_120 : decode cX4_digest 120 = .ok (.goto (-24), 3) := by decide +kernel
theorem dX4_digest_123 : decode cX4_digest 123 = .ok (.iinc 3 1, 3) := by decide +kernel
theorem dX4_digest_126 : decode cX4_digest 126 = .ok (.goto (-44), 3) := by decide +kernel
theorem dX4_digest_129 : decode cX4_digest 129 = .ok (.iconst 0, 1) := by decide +kernel
theorem dX4_digest_130 : decode cX4_digest 130 = .ok (.istore_n 3, 1) := by decide +kernel
theorem dX4_digest_131 : decode cX4_digest 131 = .ok (.iload_n 3, 1) := by decide +kernel
theorem dX4_digest_132 : decode cX4_digest 132 = .ok (.iconst 5, 1) := by decide +kernel
theorem dX4_digest_133 : decode cX4_digest 133 = .ok (.if_icmp .ge 57, 3) := by decide +kernel
theorem dX4_digest_136 : decode cX4_digest 136 = .ok (.iconst 0, 1) := by decide +kernel
theorem dX4_digest_137 : decode cX4_digest 137 = .ok (.istore 4, 2) := by decide +kernel
theorem dX4_digest_139 : decode cX4_digest 139 = .ok (.iload 4, 2) := by decide +kernel
theorem dX4_digest_141 : decode cX4_digest 141 = .ok (.bipush 8, 2) := by decide +kernel
theorem dX4_digest_143 : decode cX4_digest 143 = .ok (.if_icmp .ge 41, 3) := by decide +kernel
theorem dX4_digest_146 : decode cX4_digest 146 = .ok (.iconst 0, 1) := by decide +kernel
theorem dX4_digest_147 : decode cX4_digest 147 = .ok (.istore 5, 2) := by decide +kernel
theorem dX4_digest_149 : decode cX4_digest 149 = .ok (.iload 5, 2) := by decide +kernel
theorem dX4_digest_151 : decode cX4_digest 151 = .ok (.iconst 5, 1) := by decide +kernel
theorem dX4_digest_152 : decode cX4_digest 152 = .ok (.if_icmp .gt 26, 3) := by decide +kernel
theorem dX4_digest_155 : decode cX4_digest 155 = .ok (.lload_n 1, 1) := by decide +kernel
theorem dX4_digest_156 : decode cX4_digest 156 = .ok (.ldc2_w 224, 3) := by decide +kernel
theorem dX4_digest_159 : decode cX4_digest 159 = .ok (.lmul, 1) := by decide +kernel
theorem dX4_digest_160 : decode cX4_digest 160 = .ok (.aload_n 0, 1) := by decide +kernel
theorem dX4_digest_161 : decode cX4_digest 161 = .ok (.iload_n 3, 1) := by decide +kernel
theorem dX4_digest_162 : decode cX4_digest 162 = .ok (.iload 4, 2) := by decide +kernel
theorem dX4_digest_164 : decode cX4_digest 164 = .ok (.iload 5, 2) := by decide +kernel
theorem dX4_digest_166 : decode cX4_digest 166 = .ok (.invokevirtual 235, 3) := by decide +kernel
theorem dX4_digest_169 : decode cX4_digest 169 = .ok (.i2l, 1) := by decide +kernel
theorem dX4_digest_170 : decode cX4_digest 170 = .ok (.ladd, 1) := by decide +kernel
theorem dX4_digest_171 : decode cX4_digest 171 = .ok (.lstore_n 1, 1) := by decide +kernel
theorem dX4_digest_172 : decode cX4_digest 172 = .ok (.iinc 5 1, 3) := by decide +kernel
theorem dX4_digest_175 : decode cX4_digest 175 = .ok (.goto (-26), 3) := by decide +kernel
theorem dX4_digest_178 : decode cX4_digest 178 = .ok (.iinc 4 1, 3) := by decide +kernel
theorem dX4_digest_181 : decode cX4_digest 181 = .ok (.goto (-42), 3) := by decide +kernel
theorem dX4_digest_184 : decode cX4_digest 184 = .ok (.iinc 3 1, 3) := by decide +kernel
theorem dX4_digest_187 : decode cX4_digest 187 = .ok (.goto (-56), 3) := by decide +kernel
theorem dX4_digest_190 : decode cX4_digest 190 = .ok (.lload_n 1, 1) := by decide +kernel
theorem dX4_digest_191 : decode cX4_digest 191 = .ok (.lreturn, 1) := by decide +kernel
theorem dX4_isWithin_0 : decode cX4_isWithin 0 = .ok (.iload_n 0, 1) := by decide +kernel
theorem dX4_isWithin_1 : decode cX4_isWithin 1 = .ok (.iload_n 1, 1) := by decide +kernel
theorem dX4_isWithin_2 : decode cX4_isWithin 2 = .ok (.if_icmp .lt 12, 3) := by decide +kernel
theorem dX4_isWithin_5 : decode cX4_isWithin 5 = .ok (.iload_n 0, 1) := by decide +kernel
theorem dX4_isWithin_6 : decode cX4_isWithin 6 = .ok (.iload_n 2, 1) := by decide +kernel
theorem dX4_isWithin_7 : decode cX4_isWithin 7 = .ok (.if_icmp .gt 7, 3) := by decide +kernel
theorem dX4_isWithin_10 : decode cX4_isWithin 10 = .ok (.iconst 1, 1) := by decide +kernel
theorem dX4_isWithin_11 : decode cX4_isWithin 11 = .ok (.goto 4, 3) := by decide +kernel
theorem dX4_isWithin_14 : decode cX4_isWithin 14 = .ok (.iconst 0, 1) := by decide +kernel
theorem dX4_isWithin_15 : decode cX4_isWithin 15 = .ok (.ireturn, 1) := by decide +kernel
theorem dX4_herbNumbered_0 : decode cX4_herbNumbered 0 = .ok (.iload_n 1, 1) := by decide +kernel
theorem dX4_herbNumbered_1 : decode cX4_herbNumbered 1 = .ok (.ifCond .lt 28, 3) := by decide +kernel
theorem dX4_herbNumbered_4 : decode cX4_herbNumbered 4 = .ok (.iload_n 1, 1) := by decide +kernel
theorem dX4_herbNumbered_5 : decode cX4_herbNumbered 5 = .ok (.aload_n 0, 1) := by decide +kernel
theorem dX4_herbNumbered_6 : decode cX4_herbNumbered 6 = .ok (.getfield 10, 3) := by decide +kernel
theorem dX4_herbNumbered_9 : decode cX4_herbNumbered 9 = .ok (.invokevirtual 49, 3) := by decide +kernel
theorem dX4_herbNumbered_12 : decode cX4_herbNumbered 12 = .ok (.if_icmp .ge 17, 3) := by decide +kernel
theorem dX4_herbNumbered_15 : decode cX4_herbNumbered 15 = .ok (.aload_n 0, 1) := by decide +kernel
theorem dX4_herbNumbered_16 : decode cX4_herbNumbered 16 = .ok (.getfield 10, 3) := by decide +kernel
theorem dX4_herbNumbered_19 : decode cX4_herbNumbered 19 = .ok (.iload_n 1, 1) := by decide +kernel
theorem dX4_herbNumbered_20 : decode cX4_herbNumbered 20 = .ok (.invokevirtual 137, 3) := by decide +kernel
theorem dX4_herbNumbered_23 : decode cX4_herbNumbered 23 = .ok (.checkcast 58, 3) := by decide +kernel
theorem dX4_herbNumbered_26 : decode cX4_herbNumbered 26 = .ok (.goto 4, 3) := by decide +kernel
theorem dX4_herbNumbered_29 : decode cX4_herbNumbered 29 = .ok (.aconst_null, 1) := by decide +kernel
theorem dX4_herbNumbered_30 : decode cX4_herbNumbered 30 = .ok (.areturn, 1) := by decide +kernel
theorem dX4_ordersThatGotAll_0 : decode cX4_ordersThatGotAll 0 = .ok (.iconst 0, 1) := by decide +kernel
theorem dX4_ordersThatGotAll_1 : decode cX4_ordersThatGotAll 1 = .ok (.istore_n 1, 1) := by decide +kernel
theorem dX4_ordersThatGotAll_2 : decode cX4_ordersThatGotAll 2 = .ok (.iconst 0, 1) := by decide +kernel
theorem dX4_ordersThatGotAll_3 : decode cX4_ordersThatGotAll 3 = .ok (.istore_n 2, 1) := by decide +kernel
theorem dX4_ordersThatGotAll_4 : decode cX4_ordersThatGotAll 4 = .ok (.iload_n 2, 1) := by decide +kernel
theorem dX4_ordersThatGotAll_5 : decode cX4_ordersThatGotAll 5 = .ok (.aload_n 0, 1) := by decide +kernel
theorem dX4_ordersThatGotAll_6 : decode cX4_ordersThatGotAll 6 = .ok (.getfield 16, 3) := by decide +kernel
theorem dX4_ordersThatGotAll_9 : decode cX4_ordersThatGotAll 9 = .ok (.invokevirtual 49, 3) := by decide +kernel
theorem dX4_ordersThatGotAll_12 : decode cX4_ordersThatGotAll 12 = .ok (.if_icmp .ge 29, 3) := by decide +kernel
theorem dX4_ordersThatGotAll_15 : decode cX4_ordersThatGotAll 15 = .ok (.aload_n 0, 1) := by decide +kernel
theorem dX4_ordersThatGotAll_16 : decode cX4_ordersThatGotAll 16 = .ok (.getfield 16, 3) := by decide +kernel
theorem dX4_ordersThatGotAll_19 : decode cX4_ordersThatGotAll 19 = .ok (.iload_n 2, 1) := by decide +kernel
theorem dX4_ordersThatGotAll_20 : decode cX4_ordersThatGotAll 20 = .ok (.invokevirtual 137, 3) := by decide +kernel
theorem dX4_ordersThatGotAll_23 : decode cX4_ordersThatGotAll 23 = .ok (.checkcast 132, 3) := by decide +kernel
theorem dX4_ordersThatGotAll_26 : decode cX4_ordersThatGotAll 26 = .ok (.invokevirtual 239, 3) := by decide +kernel
theorem dX4_ordersThatGotAll_29 : decode cX4_ordersThatGotAll 29 = .ok (.ifCond .ne 6, 3) := by decide +kernel
theorem dX4_ordersThatGotAll_32 : decode cX4_ordersThatGotAll 32 = .ok (.iinc 1 1, 3) := by decide +kernel
theorem dX4_ordersThatGotAll_35 : decode cX4_ordersThatGotAll 35 = .ok (.iinc 2 1, 3) := by decide +kernel
theorem dX4_ordersThatGotAll_38 : decode cX4_ordersThatGotAll 38 = .ok (.goto (-34), 3) := by decide +kernel
theorem dX4_ordersThatGotAll_41 : decode cX4_ordersThatGotAll 41 = .ok (.iload_n 1, 1) := by decide +kernel
theorem dX4_ordersThatGotAll_42 : decode cX4_ordersThatGotAll 42 = .ok (.ireturn, 1) := by decide +kernel
theorem dX4_bundlesGiven_0 : decode cX4_bundlesGiven 0 = .ok (.iconst 0, 1) := by decide +kernel
theorem dX4_bundlesGiven_1 : decode cX4_bundlesGiven 1 = .ok (.istore_n 1, 1) := by decide +kernel
theorem dX4_bundlesGiven_2 : decode cX4_bundlesGiven 2 = .ok (.iconst 0, 1) := by decide +kernel
theorem dX4_bundlesGiven_3 : decode cX4_bundlesGiven 3 = .ok (.istore_n 2, 1) := by decide +kernel
theorem dX4_bundlesGiven_4 : decode cX4_bundlesGiven 4 = .ok (.iload_n 2, 1) := by decide +kernel
theorem dX4_bundlesGiven_5 : decode cX4_bundlesGiven 5 = .ok (.aload_n 0, 1) := by decide +kernel
theorem dX4_bundlesGiven_6 : decode cX4_bundlesGiven 6 = .ok (.getfield 16, 3) := by decide +kernel
theorem dX4_bundlesGiven_9 : decode cX4_bundlesGiven 9 = .ok (.invokevirtual 49, 3) := by decide +kernel
theorem dX4_bundlesGiven_12 : decode cX4_bundlesGiven 12 = .ok (.if_icmp .ge 26, 3) := by decide +kernel
theorem dX4_bundlesGiven_15 : decode cX4_bundlesGiven 15 = .ok (.iload_n 1, 1) := by decide +kernel
theorem dX4_bundlesGiven_16 : decode cX4_bundlesGiven 16 = .ok (.aload_n 0, 1) := by decide +kernel
theorem dX4_bundlesGiven_17 : decode cX4_bundlesGiven 17 = .ok (.getfield 16, 3) := by decide +kernel
theorem dX4_bundlesGiven_20 : decode cX4_bundlesGiven 20 = .ok (.iload_n 2, 1) := by decide +kernel
theorem dX4_bundlesGiven_21 : decode cX4_bundlesGiven 21 = .ok (.invokevirtual 137, 3) := by decide +kernel
theorem dX4_bundlesGiven_24 : decode cX4_bundlesGiven 24 = .ok (.checkcast 132, 3) := by decide +kernel
theorem dX4_bundlesGiven_27 : decode cX4_bundlesGiven 27 = .ok (.getfield 193, 3) := by decide +kernel
theorem dX4_bundlesGiven_30 : decode cX4_bundlesGiven 30 = .ok (.iadd, 1) := by decide +kernel
theorem dX4_bundlesGiven_31 : decode cX4_bundlesGiven 31 = .ok (.istore_n 1, 1) := by decide +kernel
theorem dX4_bundlesGiven_32 : decode cX4_bundlesGiven 32 = .ok (.iinc 2 1, 3) := by decide +kernel
theorem dX4_bundlesGiven_35 : decode cX4_bundlesGiven 35 = .ok (.goto (-31), 3) := by decide +kernel
theorem dX4_bundlesGiven_38 : decode cX4_bundlesGiven 38 = .ok (.iload_n 1, 1) := by decide +kernel
theorem dX4_bundlesGiven_39 : decode cX4_bundlesGiven 39 = .ok (.ireturn, 1) := by decide +kernel
theorem dX5_init_0 : decode cX5_init 0 = .ok (.aload_n 0, 1) := by decide +kernel
theorem dX5_init_1 : decode cX5_init 1 = .ok (.invokespecial 1, 3) := by decide +kernel
theorem dX5_init_4 : decode cX5_init 4 = .ok (.aload_n 0, 1) := by decide +kernel
theorem dX5_init_5 : decode cX5_init 5 = .ok (.iconst 0, 1) := by decide +kernel
theorem dX5_init_6 : decode cX5_init 6 = .ok (.anewarray 7, 3) := by decide +kernel
theorem dX5_init_9 : decode cX5_init 9 = .ok (.putfield 9, 3) := by decide +kernel
theorem dX5_init_12 : decode cX5_init 12 = .ok (.aload_n 0, 1) := by decide +kernel
theorem dX5_init_13 : decode cX5_init 13 = .ok (.iconst 0, 1) := by decide +kernel
theorem dX5_init_14 : decode cX5_init 14 = .ok (.anewarray 7, 3) := by decide +kernel
theorem dX5_init_17 : decode cX5_init 17 = .ok (.putfield 15, 3) := by decide +kernel
theorem dX5_init_20 : decode cX5_init 20 = .ok (.aload_n 0, 1) := by decide +kernel
theorem dX5_init_21 : decode cX5_init 21 = .ok (.iconst 5, 1) := by decide +kernel
theorem dX5_init_22 : decode cX5_init 22 = .ok (.bipush 8, 2) := by decide +kernel
theorem dX5_init_24 : decode cX5_init 24 = .ok (.multianewarray 18 2, 4) := by decide +kernel
theorem dX5_init_28 : decode cX5_init 28 = .ok (.putfield 20, 3) := by decide +kernel
theorem dX5_init_31 : decode cX5_init 31 = .ok (.return_, 1) := by decide +kernel
theorem dX5_more_0 : decode cX5_more 0 = .ok (.aload_n 0, 1) := by decide +kernel
theorem dX5_more_1 : decode cX5_more 1 = .ok (.arraylength, 1) := by decide +kernel
theorem dX5_more_2 : decode cX5_more 2 = .ok (.iconst 1, 1) := by decide +kernel
theorem dX5_more_3 : decode cX5_more 3 = .ok (.iadd, 1) := by decide +kernel
theorem dX5_more_4 : decode cX5_more 4 = .ok (.anewarray 7, 3) := by decide +kernel
theorem dX5_more_7 : decode cX5_more 7 = .ok (.astore_n 2, 1) := by decide +kernel
theorem dX5_more_8 : decode cX5_more 8 = .ok (.iconst 0, 1) := by decide +kernel
theorem dX5_more_9 : decode cX5_more 9 = .ok (.istore_n 3, 1) := by decide +kernel
theorem dX5_more_10 : decode cX5_more 10 = .ok (.iload_n 3, 1) := by decide +kernel
theorem dX5_more_11 : decode cX5_more 11 = .ok (.aload_n 0, 1) := by decide +kernel
theorem dX5_more_12 : decode cX5_more 12 = .ok (.arraylength, 1) := by decide +kernel
theorem dX5_more_13 : decode cX5_more 13 = .ok (.if_icmp .ge 15, 3) := by decide +kernel
theorem dX5_more_16 : decode cX5_more 16 = .ok (.aload_n 2, 1) := by decide +kernel
theorem dX5_more_17 : decode cX5_more 17 = .ok (.iload_n 3, 1) := by decide +kernel
theorem dX5_more_18 : decode cX5_more 18 = .ok (.aload_n 0, 1) := by decide +kernel
theorem dX5_more_19 : decode cX5_more 19 = .ok (.iload_n 3, 1) := by decide +kernel
theorem dX5_more_20 : decode cX5_more 20 = .ok (.aaload, 1) := by decide +kernel
theorem dX5_more_21 : decode cX5_more 21 = .ok (.aastore, 1) := by decide +kernel
theorem dX5_more_22 : decode cX5_more 22 = .ok (.iinc 3 1, 3) := by decide +kernel
theorem dX5_more_25 : decode cX5_more 25 = .ok (.goto (-15), 3) := by decide +kernel
theorem dX5_more_28 : decode cX5_more 28 = .ok (.aload_n 2, 1) := by decide +kernel
theorem dX5_more_29 : decode cX5_more 29 = .ok (.aload_n 0, 1) := by decide +kernel
theorem dX5_more_30 : decode cX5_more 30 = .ok (.arraylength, 1) := by decide +kernel
theorem dX5_more_31 : decode cX5_more 31 = .ok (.aload_n 1, 1) := by decide +kernel
theorem dX5_more_32 : decode cX5_more 32 = .ok (.aastore, 1) := by decide +kernel
theorem dX5_more_33 : decode cX5_more 33 = .ok (.aload_n 2, 1) := by decide +kernel
theorem dX5_more_34 : decode cX5_more 34 = .ok (.areturn, 1) := by decide +kernel
theorem dX5_wet_0 : decode cX5_wet 0 = .ok (.aload_n 0, 1) := by decide +kernel
theorem dX5_wet_1 : decode cX5_wet 1 = .ok (.iconst 1, 1) := by decide +kernel
theorem dX5_wet_2 : decode cX5_wet 2 = .ok (.iaload, 1) := by decide +kernel
theorem dX5_wet_3 : decode cX5_wet 3 = .ok (.aload_n 0, 1) := by decide +kernel
theorem dX5_wet_4 : decode cX5_wet 4 = .ok (.iconst 2, 1) := by decide +kernel
theorem dX5_wet_5 : decode cX5_wet 5 = .ok (.iaload, 1) := by decide +kernel
theorem dX5_wet_6 : decode cX5_wet 6 = .ok (.iadd, 1) := by decide +kernel
theorem dX5_wet_7 : decode cX5_wet 7 = .ok (.iconst 2, 1) := by decide +kernel
theorem dX5_wet_8 : decode cX5_wet 8 = .ok (.idiv, 1) := by decide +kernel
theorem dX5_wet_9 : decode cX5_wet 9 = .ok (.ireturn, 1) := by decide +kernel
theorem dX5_near_0 : decode cX5_near 0 = .ok (.iconst 0, 1) := by decide +kernel
theorem dX5_near_1 : decode cX5_near 1 = .ok (.istore 4, 2) := by decide +kernel
theorem dX5_near_3 : decode cX5_near 3 = .ok (.iload_n 2, 1) := by decide +kernel
theorem dX5_near_4 : decode cX5_near 4 = .ok (.iconst 1, 1) := by decide +kernel
theorem dX5_near_5 : decode cX5_near 5 = .ok (.isub, 1) := by decide +kernel
theorem dX5_near_6 : decode cX5_near 6 = .ok (.istore 5, 2) := by decide +kernel
theorem dX5_near_8 : decode cX5_near 8 = .ok (.iload 5, 2) := by decide +kernel
theorem dX5_near_10 : decode cX5_near 10 = .ok (.iload_n 2, 1) := by decide +kernel
theorem dX5_near_11 : decode cX5_near 11 = .ok (.iconst 1, 1) := by decide +kernel
theorem dX5_near_12 : decode cX5_near 12 = .ok (.iadd, 1) := by decide +kernel
theorem dX5_near_13 : decode cX5_near 13 = .ok (.if_icmp .gt 101, 3) := by decide +kernel
theorem dX5_near_16 : decode cX5_near 16 = .ok (.iload 5, 2) := by decide +kernel
theorem dX5_near_18 : decode cX5_near 18 = .ok (.ifCond .lt 90, 3) := by decide +kernel
theorem dX5_near_21 : decode cX5_near 21 = .ok (.iload 5, 2) := by decide +kernel
theorem dX5_near_23 : decode cX5_near 23 = .ok (.bipush 7, 2) := by decide +kernel
theorem dX5_near_25 : decode cX5_near 25 = .ok (.if_icmp .gt 83, 3) := by decide +kernel
theorem dX5_near_28 : decode cX5_near 28 = .ok (.aload_n 0, 1) := by decide +kernel
theorem dX5_near_29 : decode cX5_near 29 = .ok (.getfield 20, 3) := by decide +kernel
theorem dX5_near_32 : decode cX5_near 32 = .ok (.iload_n 1, 1) := by decide +kernel
theorem dX5_near_33 : decode cX5_near 33 = .ok (.aaload, 1) := by decide +kernel
theorem dX5_near_34 : decode cX5_near 34 = .ok (.iload 5, 2) := by decide +kernel
theorem dX5_near_36 : decode cX5_near 36 = .ok (.aaload, 1) := by decide +kernel
theorem dX5_near_37 : decode cX5_near 37 = .ok (.ifnonnull 6, 3) := by decide +kernel
theorem dX5_near_40 : decode cX5_near 40 = .ok (.goto 68, 3) := by decide +kernel
theorem dX5_near_43 : decode cX5_near 43 = .ok (.iload 4, 2) := by decide +kernel
theorem dX5_near_45 : decode cX5_near 45 = .ok (.iload_n 3, 1) := by decide +kernel
theorem dX5_near_46 : decode cX5_near 46 = .ok (.ifCond .eq 54, 3) := by decide +kernel
theorem dX5_near_49 : decode cX5_near 49 = .ok (.iload_n 3, 1) := by decide +kernel
theorem dX5_near_50 : decode cX5_near 50 = .ok (.iconst 1, 1) := by decide +kernel
theorem dX5_near_51 : decode cX5_near 51 = .ok (.if_icmp .ne 29, 3) := by decide +kernel
theorem dX5_near_54 : decode cX5_near 54 = .ok (.aload_n 0, 1) := by decide +kernel
theorem dX5_near_55 : decode cX5_near 55 = .ok (.getfield 20, 3) := by decide +kernel
theorem dX5_near_58 : decode cX5_near 58 = .ok (.iload_n 1, 1) := by decide +kernel
theorem dX5_near_59 : decode cX5_near 59 = .ok (.aaload, 1) := by decide +kernel
theorem dX5_near_60 : decode cX5_near 60 = .ok (.iload 5, 2) := by decide +kernel
theorem dX5_near_62 : decode cX5_near 62 = .ok (.aaload, 1) := by decide +kernel
theorem dX5_near_63 : decode cX5_near 63 = .ok (.invokestatic 38, 3) := by decide +kernel
theorem dX5_near_66 : decode cX5_near 66 = .ok (.aload_n 0, 1) := by decide +kernel
theorem dX5_near_67 : decode cX5_near 67 = .ok (.getfield 20, 3) := by decide +kernel
theorem dX5_near_70 : decode cX5_near 70 = .ok (.iload_n 1, 1) := by decide +kernel
theorem dX5_near_71 : decode cX5_near 71 = .ok (.aaload, 1) := by decide +kernel
theorem dX5_near_72 : decode cX5_near 72 = .ok (.iload_n 2, 1) := by decide +kernel
theorem dX5_near_73 : decode cX5_near 73 = .ok (.aaload, 1) := by decide +kernel
theorem dX5_near_74 : decode cX5_near 74 = .ok (.invokestatic 38, 3) := by decide +kernel
theorem dX5_near_77 : decode cX5_near 77 = .ok (.if_icmp .gt 23, 3) := by decide +kernel
theorem dX5_near_80 : decode cX5_near 80 = .ok (.iload_n 3, 1) := by decide +kernel
theorem dX5_near_81 : decode cX5_near 81 = .ok (.iconst 2, 1) := by decide +kernel
theorem dX5_near_82 : decode cX5_near 82 = .ok (.if_icmp .ne 22, 3) := by decide +kernel
theorem dX5_near_85 : decode cX5_near 85 = .ok (.aload_n 0, 1) := by decide +kernel
theorem dX5_near_86 : decode cX5_near 86 = .ok (.getfield 20, 3) := by decide +kernel
theorem dX5_near_89 : decode cX5_near 89 = .ok (.iload_n 1, 1) := by decide +kernel
theorem dX5_near_90 : decode cX5_near 90 = .ok (.aaload, 1) := by decide +kernel
theorem dX5_near_91 : decode cX5_near 91 = .ok (.iload 5, 2) := by decide +kernel
theorem dX5_near_93 : decode cX5_near 93 = .ok (.aaload, 1) := by decide +kernel
theorem dX5_near_94 : decode cX5_near 94 = .ok (.iconst 4, 1) := by decide +kernel
theorem dX5_near_95 : decode cX5_near 95 = .ok (.iaload, 1) := by decide +kernel
theorem dX5_near_96 : decode cX5_near 96 = .ok (.iconst 2, 1) := by decide +kernel
theorem dX5_near_97 : decode cX5_near 97 = .ok (.if_icmp .le 7, 3) := by decide +kernel
theorem dX5_near_100 : decode cX5_near 100 = .ok (.iconst 1, 1) := by decide +kernel
theorem dX5_near_101 : decode cX5_near 101 = .ok (.goto 4, 3) := by decide +kernel
theorem dX5_near_104 : decode cX5_near 104 = .ok (.iconst 0, 1) := by decide +kernel
theorem dX5_near_105 : decode cX5_near 105 = .ok (.iadd, 1) := by decide +kernel
theorem dX5_near_106 : decode cX5_near 106 = .ok (.istore 4, 2) := by decide +kernel
theorem dX5_near_108 : decode cX5_near 108 = .ok (.iinc 5 2, 3) := by decide +kernel
theorem dX5_near_111 : decode cX5_near 111 = .ok (.goto (-103), 3) := by decide +kernel
theorem dX5_near_114 : decode cX5_near 114 = .ok (.iload 4, 2) := by decide +kernel
theorem dX5_near_116 : decode cX5_near 116 = .ok (.ireturn, 1) := by decide +kernel
theorem dX5_go_0 : decode cX5_go 0 = .ok (.iconst 5, 1) := by decide +kernel
theorem dX5_go_1 : decode cX5_go 1 = .ok (.bipush 8, 2) := by decide +kernel
theorem dX5_go_3 : decode cX5_go 3 = .ok (.multianewarray 42 2, 4) := by decide +kernel
theorem dX5_go_7 : decode cX5_go 7 = .ok (.astore_n 2, 1) := by decide +kernel
theorem dX5_go_8 : decode cX5_go 8 = .ok (.iconst 5, 1) := by decide +kernel
theorem dX5_go_9 : decode cX5_go 9 = .ok (.bipush 8, 2) := by decide +kernel
theorem dX5_go_11 : decode cX5_go 11 = .ok (.multianewarray 43 2, 4) := by decide +kernel
theorem dX5_go_15 : decode cX5_go 15 = .ok (.astore_n 3, 1) := by decide +kernel
theorem dX5_go_16 : decode cX5_go 16 = .ok (.iconst 0, 1) := by decide +kernel
theorem dX5_go_17 : decode cX5_go 17 = .ok (.istore 4, 2) := by decide +kernel
theorem dX5_go_19 : decode cX5_go 19 = .ok (.iload 4, 2) := by decide +kernel
theorem dX5_go_21 : decode cX5_go 21 = .ok (.iconst 5, 1) := by decide +kernel
theorem dX5_go_22 : decode cX5_go 22 = .ok (.if_icmp .ge 116, 3) := by decide +kernel
theorem dX5_go_25 : decode cX5_go 25 = .ok (.iconst 0, 1) := by decide +kernel
theorem dX5_go_26 : decode cX5_go 26 = .ok (.istore 5, 2) := by decide +kernel
theorem dX5_go_28 : decode cX5_go 28 = .ok (.iload 5, 2) := by decide +kernel
theorem dX5_go_30 : decode cX5_go 30 = .ok (.bipush 8, 2) := by decide +kernel
theorem dX5_go_32 : decode cX5_go 32 = .ok (.if_icmp .ge 100, 3) := by decide +kernel
theorem dX5_go_35 : decode cX5_go 35 = .ok (.aload_n 0, 1) := by decide +kernel
theorem dX5_go_36 : decode cX5_go 36 = .ok (.getfield 20, 3) := by decide +kernel
theorem dX5_go_39 : decode cX5_go 39 = .ok (.iload 4, 2) := by decide +kernel
theorem dX5_go_41 : decode cX5_go 41 = .ok (.aaload, 1) := by decide +kernel
theorem dX5_go_42 : decode cX5_go 42 = .ok (.iload 5, 2) := by decide +kernel
theorem dX5_go_44 : decode cX5_go 44 = .ok (.aaload, 1) := by decide +kernel
theorem dX5_go_45 : decode cX5_go 45 = .ok (.ifnonnull 6, 3) := by decide +kernel
theorem dX5_go_48 : decode cX5_go 48 = .ok (.goto 78, 3) := by decide +kernel
theorem dX5_go_51 : decode cX5_go 51 = .ok (.aload_n 2, 1) := by decide +kernel
theorem dX5_go_52 : decode cX5_go 52 = .ok (.iload 4, 2) := by decide +kernel
theorem dX5_go_54 : decode cX5_go 54 = .ok (.aaload, 1) := by decide +kernel
theorem dX5_go_55 : decode cX5_go 55 = .ok (.iload 5, 2) := by decide +kernel
theorem dX5_go_57 : decode cX5_go 57 = .ok (.aload_n 0, 1) := by decide +kernel
theorem dX5_go_58 : decode cX5_go 58 = .ok (.getfield 9, 3) := by decide +kernel
theorem dX5_go_61 : decode cX5_go 61 = .ok (.aload_n 0, 1) := by decide +kernel
theorem dX5_go_62 : decode cX5_go 62 = .ok (.getfield 20, 3) := by decide +kernel
theorem dX5_go_65 : decode cX5_go 65 = .ok (.iload 4, 2) := by decide +kernel
theorem dX5_go_67 : decode cX5_go 67 = .ok (.aaload, 1) := by decide +kernel
theorem dX5_go_68 : decode cX5_go 68 = .ok (.iload 5, 2) := by decide +kernel
theorem dX5_go_70 : decode cX5_go 70 = .ok (.aaload, 1) := by decide +kernel
theorem dX5_go_71 : decode cX5_go 71 = .ok (.iconst 0, 1) := by decide +kernel
theorem dX5_go_72 : decode cX5_go 72 = .ok (.iaload, 1) := by decide +kernel
theorem dX5_go_73 : decode cX5_go 73 = .ok (.aaload, 1) := by decide +kernel
theorem dX5_go_74 : decode cX5_go 74 = .ok (.iconst 0, 1) := by decide +kernel
theorem dX5_go_75 : decode cX5_go 75 = .ok (.iaload, 1) := by decide +kernel
theorem dX5_go_76 : decode cX5_go 76 = .ok (.iload 4, 2) := by decide +kernel
theorem dX5_go_78 : decode cX5_go 78 = .ok (.iadd, 1) := by decide +kernel
theorem dX5_go_79 : decode cX5_go 79 = .ok (.aload_n 0, 1) := by decide +kernel
theorem dX5_go_80 : decode cX5_go 80 = .ok (.getfield 28, 3) := by decide +kernel
theorem dX5_go_83 : decode cX5_go 83 = .ok (.iadd, 1) := by decide +kernel
theorem dX5_go_84 : decode cX5_go 84 = .ok (.aload_n 0, 1) := by decide +kernel
theorem dX5_go_85 : decode cX5_go 85 = .ok (.getfield 28, 3) := by decide +kernel
theorem dX5_go_88 : decode cX5_go 88 = .ok (.iadd, 1) := by decide +kernel
theorem dX5_go_89 : decode cX5_go 89 = .ok (.iload_n 1, 1) := by decide +kernel
theorem dX5_go_90 : decode cX5_go 90 = .ok (.isub, 1) := by decide +kernel
theorem dX5_go_91 : decode cX5_go 91 = .ok (.aload_n 0, 1) := by decide +kernel
theorem dX5_go_92 : decode cX5_go 92 = .ok (.iload 4, 2) := by decide +kernel
theorem dX5_go_94 : decode cX5_go 94 = .ok (.iload 5, 2) := by decide +kernel
theorem dX5_go_96 : decode cX5_go 96 = .ok (.iconst 1, 1) := by decide +kernel
theorem dX5_go_97 : decode cX5_go 97 = .ok (.invokevirtual 45, 3) := by decide +kernel
theorem dX5_go_100 : decode cX5_go 100 = .ok (.isub, 1) := by decide +kernel
theorem dX5_go_101 : decode cX5_go 101 = .ok (.iastore, 1) := by decide +kernel
theorem dX5_go_102 : decode cX5_go 102 = .ok (.aload_n 3, 1) := by decide +kernel
theorem dX5_go_103 : decode cX5_go 103 = .ok (.iload 4, 2) := by decide +kernel
theorem dX5_go_105 : decode cX5_go 105 = .ok (.aaload, 1) := by decide +kernel
theorem dX5_go_106 : decode cX5_go 106 = .ok (.iload 5, 2) := by decide +kernel
theorem dX5_go_108 : decode cX5_go 108 = .ok (.aload_n 0, 1) := by decide +kernel
theorem dX5_go_109 : decode cX5_go 109 = .ok (.iload 4, 2) := by decide +kernel
theorem dX5_go_111 : decode cX5_go 111 = .ok (.iload 5, 2) := by decide +kernel
theorem dX5_go_113 : decode cX5_go 113 = .ok (.iconst 2, 1) := by decide +kernel
theorem dX5_go_114 : decode cX5_go 114 = .ok (.invokevirtual 45, 3) := by decide +kernel
theorem dX5_go_117 : decode cX5_go 117 = .ok (.ifCond .le 7, 3) := by decide +kernel
theorem dX5_go_120 : decode cX5_go 120 = .ok (.iconst 1, 1) := by decide +kernel
theorem dX5_go_121 : decode cX5_go 121 = .ok (.goto 4, 3) := by decide +kernel
theorem dX5_go_124 : decode cX5_go 124 = .ok (.iconst 0, 1) := by decide +kernel
theorem dX5_go_125 : decode cX5_go 125 = .ok (.bastore, 1) := by decide +kernel
theorem dX5_go_126 : decode cX5_go 126 = .ok (.iinc 5 1, 3) := by decide +kernel
theorem dX5_go_129 : decode cX5_go 129 = .ok (.goto (-101), 3) := by decide +kernel
theorem dX5_go_132 : decode cX5_go 132 = .ok (.iinc 4 1, 3) := by decide +kernel
theorem dX5_go_135 : decode cX5_go 135 = .ok (.goto (-116), 3) := by decide +kernel
theorem dX5_go_138 : decode cX5_go 138 = .ok (.iconst 0, 1) := by decide +kernel
theorem dX5_go_139 : decode cX5_go 139 = .ok (.istore 4, 2) := by decide +kernel
theorem dX5_go_141 : decode cX5_go 141 = .ok (.iload 4, 2) := by decide +kernel
theorem dX5_go_143 : decode cX5_go 143 = .ok (.iconst 5, 1) := by decide +kernel
theorem dX5_go_144 : decode cX5_go 144 = .ok (.if_icmp .ge 183, 3) := by decide +kernel
theorem dX5_go_147 : decode cX5_go 147 = .ok (.iconst 0, 1) := by decide +kernel
theorem dX5_go_148 : decode cX5_go 148 = .ok (.istore 5, 2) := by decide +kernel
theorem dX5_go_150 : decode cX5_go 150 = .ok (.iload 5, 2) := by decide +kernel
theorem dX5_go_152 : decode cX5_go 152 = .ok (.bipush 8, 2) := by decide +kernel
theorem dX5_go_154 : decode cX5_go 154 = .ok (.if_icmp .ge 167, 3) := by decide +kernel
theorem dX5_go_157 : decode cX5_go 157 = .ok (.aload_n 0, 1) := by decide +kernel
theorem dX5_go_158 : decode cX5_go 158 = .ok (.getfield 20, 3) := by decide +kernel
theorem dX5_go_161 : decode cX5_go 161 = .ok (.iload 4, 2) := by decide +kernel
theorem dX5_go_163 : decode cX5_go 163 = .ok (.aaload, 1) := by decide +kernel
theorem dX5_go_164 : decode cX5_go 164 = .ok (.iload 5, 2) := by decide +kernel
theorem dX5_go_166 : decode cX5_go 166 = .ok (.aaload, 1) := by decide +kernel
theorem dX5_go_167 : decode cX5_go 167 = .ok (.astore 6, 2) := by decide +kernel
theorem dX5_go_169 : decode cX5_go 169 = .ok (.aload 6, 2) := by decide +kernel
theorem dX5_go_171 : decode cX5_go 171 = .ok (.ifnonnull 6, 3) := by decide +kernel
theorem dX5_go_174 : decode cX5_go 174 = .ok (.goto 141, 3) := by decide +kernel
theorem dX5_go_177 : decode cX5_go 177 = .ok (.iconst 1, 1) := by decide +kernel
theorem dX5_go_178 : decode cX5_go 178 = .ok (.istore 7, 2) := by decide +kernel
theorem dX5_go_180 : decode cX5_go 180 = .ok (.iload 7, 2) := by decide +kernel
theorem dX5_go_182 : decode cX5_go 182 = .ok (.aload_n 2, 1) := by decide +kernel
theorem dX5_go_183 : decode cX5_go 183 = .ok (.iload 4, 2) := by decide +kernel
theorem dX5_go_185 : decode cX5_go 185 = .ok (.aaload, 1) := by decide +kernel
theorem dX5_go_186 : decode cX5_go 186 = .ok (.iload 5, 2) := by decide +kernel
theorem dX5_go_188 : decode cX5_go 188 = .ok (.iaload, 1) := by decide +kernel
theorem dX5_go_189 : decode cX5_go 189 = .ok (.if_icmp .gt 46, 3) := by decide +kernel
theorem dX5_go_192 : decode cX5_go 192 = .ok (.aload 6, 2) := by decide +kernel
theorem dX5_go_194 : decode cX5_go 194 = .ok (.iconst 1, 1) := by decide +kernel
theorem dX5_go_195 : decode cX5_go 195 = .ok (.iaload, 1) := by decide +kernel
theorem dX5_go_196 : decode cX5_go 196 = .ok (.ifCond .le 11, 3) := by decide +kernel
theorem dX5_go_199 : decode cX5_go 199 = .ok (.aload 6, 2) := by decide +kernel
theorem dX5_go_201 : decode cX5_go 201 = .ok (.iconst 1, 1) := by decide +kernel
theorem dX5_go_202 : decode cX5_go 202 = .ok (.dup2, 1) := by decide +kernel
theorem dX5_go_203 : decode cX5_go 203 = .ok (.iaload, 1) := by decide +kernel
theorem dX5_go_204 : decode cX5_go 204 = .ok (.iconst 1, 1) := by decide +kernel
theorem dX5_go_205 : decode cX5_go 205 = .ok (.isub, 1) := by decide +kernel
theorem dX5_go_206 : decode cX5_go 206 = .ok (.iastore, 1) := by decide +kernel
theorem dX5_go_207 : decode cX5_go 207 = .ok (.iload 7, 2) := by decide +kernel
theorem dX5_go_209 : decode cX5_go 209 = .ok (.iconst 2, 1) := by decide +kernel
theorem dX5_go_210 : decode cX5_go 210 = .ok (.irem, 1) := by decide +kernel
theorem dX5_go_211 : decode cX5_go 211 = .ok (.ifCond .ne 18, 3) := by decide +kernel
theorem dX5_go_214 : decode cX5_go 214 = .ok (.aload 6, 2) := by decide +kernel
theorem dX5_go_216 : decode cX5_go 216 = .ok (.iconst 2, 1) := by decide +kernel
theorem dX5_go_217 : decode cX5_go 217 = .ok (.iaload, 1) := by decide +kernel
theorem dX5_go_218 : decode cX5_go 218 = .ok (.ifCond .le 11, 3) := by decide +kernel
theorem dX5_go_221 : decode cX5_go 221 = .ok (.aload 6, 2) := by decide +kernel
theorem dX5_go_223 : decode cX5_go 223 = .ok (.iconst 2, 1) := by decide +kernel
theorem dX5_go_224 : decode cX5_go 224 = .ok (.dup2, 1) := by decide +kernel
theorem dX5_go_225 : decode cX5_go 225 = .ok (.iaload, 1) := by decide +kernel
theorem dX5_go_226 : decode cX5_go 226 = .ok (.iconst 1, 1) := by decide +kernel
theorem dX5_go_227 : decode cX5_go 227 = .ok (.isub, 1) := by decide +kernel
theorem dX5_go_228 : decode cX5_go 228 = .ok (.iastore, 1) := by decide +kernel
theorem dX5_go_229 : decode cX5_go 229 = .ok (.iinc 7 1, 3) := by decide +kernel
theorem dX5_go_232 : decode cX5_go 232 = .ok (.goto (-52), 3) := by decide +kernel
theorem dX5_go_235 : decode cX5_go 235 = .ok (.aload 6, 2) := by decide +kernel
theorem dX5_go_237 : decode cX5_go 237 = .ok (.iconst 3, 1) := by decide +kernel
theorem dX5_go_238 : decode cX5_go 238 = .ok (.aload 6, 2) := by decide +kernel
theorem dX5_go_240 : decode cX5_go 240 = .ok (.invokestatic 38, 3) := by decide +kernel
theorem dX5_go_243 : decode cX5_go 243 = .ok (.aload_n 0, 1) := by decide +kernel
theorem dX5_go_244 : decode cX5_go 244 = .ok (.getfield 9, 3) := by decide +kernel
theorem dX5_go_247 : decode cX5_go 247 = .ok (.aload 6, 2) := by decide +kernel
theorem dX5_go_249 : decode cX5_go 249 = .ok (.iconst 0, 1) := by decide +kernel
theorem dX5_go_250 : decode cX5_go 250 = .ok (.iaload, 1) := by decide +kernel
theorem dX5_go_251 : decode cX5_go 251 = .ok (.aaload, 1) := by decide +kernel
theorem dX5_go_252 : decode cX5_go 252 = .ok (.iconst 1, 1) := by decide +kernel
theorem dX5_go_253 : decode cX5_go 253 = .ok (.iaload, 1) := by decide +kernel
theorem dX5_go_254 : decode cX5_go 254 = .ok (.if_icmp .le 12, 3) := by decide +kernel
theorem dX5_go_257 : decode cX5_go 257 = .ok (.aload 6, 2) := by decide +kernel
theorem dX5_go_259 : decode cX5_go 259 = .ok (.iconst 3, 1) := by decide +kernel
theorem dX5_go_260 : decode cX5_go 260 = .ok (.iaload, 1) := by decide +kernel
theorem dX5_go_261 : decode cX5_go 261 = .ok (.iconst 1, 1) := by decide +kernel
theorem dX5_go_262 : decode cX5_go 262 = .ok (.iadd, 1) := by decide +kernel
theorem dX5_go_263 : decode cX5_go 263 = .ok (.goto 4, 3) := by decide +kernel
theorem dX5_go_266 : decode cX5_go 266 = .ok (.iconst 0, 1) := by decide +kernel
theorem dX5_go_267 : decode cX5_go 267 = .ok (.iastore, 1) := by decide +kernel
theorem dX5_go_268 : decode cX5_go 268 = .ok (.aload 6, 2) := by decide +kernel
theorem dX5_go_270 : decode cX5_go 270 = .ok (.iconst 3, 1) := by decide +kernel
theorem dX5_go_271 : decode cX5_go 271 = .ok (.iaload, 1) := by decide +kernel
theorem dX5_go_272 : decode cX5_go 272 = .ok (.iconst 2, 1) := by decide +kernel
theorem dX5_go_273 : decode cX5_go 273 = .ok (.if_icmp .le 20, 3) := by decide +kernel
theorem dX5_go_276 : decode cX5_go 276 = .ok (.aload 6, 2) := by decide +kernel
theorem dX5_go_278 : decode cX5_go 278 = .ok (.iconst 4, 1) := by decide +kernel
theorem dX5_go_279 : decode cX5_go 279 = .ok (.iaload, 1) := by decide +kernel
theorem dX5_go_280 : decode cX5_go 280 = .ok (.bipush 9, 2) := by decide +kernel
theorem dX5_go_282 : decode cX5_go 282 = .ok (.if_icmp .ge 11, 3) := by decide +kernel
theorem dX5_go_285 : decode cX5_go 285 = .ok (.aload 6, 2) := by decide +kernel
theorem dX5_go_287 : decode cX5_go 287 = .ok (.iconst 4, 1) := by decide +kernel
theorem dX5_go_288 : decode cX5_go 288 = .ok (.dup2, 1) := by decide +kernel
theorem dX5_go_289 : decode cX5_go 289 = .ok (.iaload, 1) := by decide +kernel
theorem dX5_go_290 : decode cX5_go 290 = .ok (.iconst 1, 1) := by decide +kernel
theorem dX5_go_291 : decode cX5_go 291 = .ok (.iadd, 1) := by decide +kernel
theorem dX5_go_292 : decode cX5_go 292 = .ok (.iastore, 1) := by decide +kernel
theorem dX5_go_293 : decode cX5_go 293 = .ok (.aload 6, 2) := by decide +kernel
theorem dX5_go_295 : decode cX5_go 295 = .ok (.iconst 4, 1) := by decide +kernel
theorem dX5_go_296 : decode cX5_go 296 = .ok (.iaload, 1) := by decide +kernel
theorem dX5_go_297 : decode cX5_go 297 = .ok (.ifCond .ne 18, 3) := by decide +kernel
theorem dX5_go_300 : decode cX5_go 300 = .ok (.aload_n 3, 1) := by decide +kernel
theorem dX5_go_301 : decode cX5_go 301 = .ok (.iload 4, 2) := by decide +kernel
theorem dX5_go_303 : decode cX5_go 303 = .ok (.aaload, 1) := by decide +kernel
theorem dX5_go_304 : decode cX5_go 304 = .ok (.iload 5, 2) := by decide +kernel
theorem dX5_go_306 : decode cX5_go 306 = .ok (.baload, 1) := by decide +kernel
theorem dX5_go_307 : decode cX5_go 307 = .ok (.ifCond .eq 8, 3) := by decide +kernel
theorem dX5_go_310 : decode cX5_go 310 = .ok (.aload 6, 2) := by decide +kernel
theorem dX5_go_312 : decode cX5_go 312 = .ok (.iconst 4, 1) := by decide +kernel
theorem dX5_go_313 : decode cX5_go 313 = .ok (.iconst 1, 1) := by decide +kernel
theorem dX5_go_314 : decode cX5_go 314 = .ok (.iastore, 1) := by decide +kernel
theorem dX5_go_315 : decode cX5_go 315 = .ok (.iinc 5 1, 3) := by decide +kernel
theorem dX5_go_318 : decode cX5_go 318 = .ok (.goto (-168), 3) := by decide +kernel
theorem dX5_go_321 : decode cX5_go 321 = .ok (.iinc 4 1, 3) := by decide +kernel
theorem dX5_go_324 : decode cX5_go 324 = .ok (.goto (-183), 3) := by decide +kernel
theorem dX5_go_327 : decode cX5_go 327 = .ok (.aload_n 0, 1) := by decide +kernel
theorem dX5_go_328 : decode cX5_go 328 = .ok (.dup, 1) := by decide +kernel
theorem dX5_go_329 : decode cX5_go 329 = .ok (.getfield 24, 3) := by decide +kernel
theorem dX5_go_332 : decode cX5_go 332 = .ok (.iconst 1, 1) := by decide +kernel
theorem dX5_go_333 : decode cX5_go 333 = .ok (.iadd, 1) := by decide +kernel
theorem dX5_go_334 : decode cX5_go 334 = .ok (.putfield 24, 3) := by decide +kernel
theorem dX5_go_337 : decode cX5_go 337 = .ok (.return_, 1) := by decide +kernel
theorem dX5_turn_0 : decode cX5_turn 0 = .ok (.aload_n 0, 1) := by decide +kernel
theorem dX5_turn_1 : decode cX5_turn 1 = .ok (.getfield 20, 3) := by decide +kernel
theorem dX5_turn_4 : decode cX5_turn 4 = .ok (.iload_n 1, 1) := by decide +kernel
theorem dX5_turn_5 : decode cX5_turn 5 = .ok (.aaload, 1) := by decide +kernel
theorem dX5_turn_6 : decode cX5_turn 6 = .ok (.astore_n 2, 1) := by decide +kernel
theorem dX5_turn_7 : decode cX5_turn 7 = .ok (.aload_n 2, 1) := by decide +kernel
theorem dX5_turn_8 : decode cX5_turn 8 = .ok (.arraylength, 1) := by decide +kernel
theorem dX5_turn_9 : decode cX5_turn 9 = .ok (.istore_n 3, 1) := by decide +kernel
theorem dX5_turn_10 : decode cX5_turn 10 = .ok (.iconst 0, 1) := by decide +kernel
theorem dX5_turn_11 : decode cX5_turn 11 = .ok (.istore 4, 2) := by decide +kernel
theorem dX5_turn_13 : decode cX5_turn 13 = .ok (.iload 4, 2) := by decide +kernel
theorem dX5_turn_15 : decode cX5_turn 15 = .ok (.iload_n 3, 1) := by decide +kernel
theorem dX5_turn_16 : decode cX5_turn 16 = .ok (.if_icmp .ge 43, 3) := by decide +kernel
theorem dX5_turn_19 : decode cX5_turn 19 = .ok (.aload_n 2, 1) := by decide +kernel
theorem dX5_turn_20 : decode cX5_turn 20 = .ok (.iload 4, 2) := by decide +kernel
theorem dX5_turn_22 : decode cX5_turn 22 = .ok (.aaload, 1) := by decide +kernel
theorem dX5_turn_23 : decode cX5_turn 23 = .ok (.astore 5, 2) := by decide +kernel
theorem dX5_turn_25 : decode cX5_turn 25 = .ok (.aload 5, 2) := by decide +kernel
theorem dX5_turn_27 : decode cX5_turn 27 = .ok (.ifnonnull 6, 3) := by decide +kernel
theorem dX5_turn_30 : decode cX5_turn 30 = .ok (.goto 23, 3) := by decide +kernel
theorem dX5_turn_33 : decode cX5_turn 33 = .ok (.aload 5, 2) := by decide +kernel
theorem dX5_turn_35 : decode cX5_turn 35 = .ok (.iconst 1, 1) := by decide +kernel
theorem dX5_turn_36 : decode cX5_turn 36 = .ok (.iaload, 1) := by decide +kernel
theorem dX5_turn_37 : decode cX5_turn 37 = .ok (.istore 6, 2) := by decide +kernel
theorem dX5_turn_39 : decode cX5_turn 39 = .ok (.aload 5, 2) := by decide +kernel
theorem dX5_turn_41 : decode cX5_turn 41 = .ok (.iconst 1, 1) := by decide +kernel
theorem dX5_turn_42 : decode cX5_turn 42 = .ok (.aload 5, 2) := by decide +kernel
theorem dX5_turn_44 : decode cX5_turn 44 = .ok (.iconst 2, 1) := by decide +kernel
theorem dX5_turn_45 : decode cX5_turn 45 = .ok (.iaload, 1) := by decide +kernel
theorem dX5_turn_46 : decode cX5_turn 46 = .ok (.iastore, 1) := by decide +kernel
theorem dX5_turn_47 : decode cX5_turn 47 = .ok (.aload 5, 2) := by decide +kernel
theorem dX5_turn_49 : decode cX5_turn 49 = .ok (.iconst 2, 1) := by decide +kernel
theorem dX5_turn_50 : decode cX5_turn 50 = .ok (.iload 6, 2) := by decide +kernel
theorem dX5_turn_52 : decode cX5_turn 52 = .ok (.iastore, 1) := by decide +kernel
theorem dX5_turn_53 : decode cX5_turn 53 = .ok (.iinc 4 1, 3) := by decide +kernel
theorem dX5_turn_56 : decode cX5_turn 56 = .ok (.goto (-43), 3) := by decide +kernel
theorem dX5_turn_59 : decode cX5_turn 59 = .ok (.return_, 1) := by decide +kernel
theorem dX5_fits_0 : decode cX5_fits 0 = .ok (.aload_n 1, 1) := by decide +kernel
theorem dX5_fits_1 : decode cX5_fits 1 = .ok (.ifnull 32, 3) := by decide +kernel
theorem dX5_fits_4 : decode cX5_fits 4 = .ok (.aload_n 1, 1) := by decide +kernel
theorem dX5_fits_5 : decode cX5_fits 5 = .ok (.iconst 0, 1) := by decide +kernel
theorem dX5_fits_6 : decode cX5_fits 6 = .ok (.iaload, 1) := by decide +kernel
theorem dX5_fits_7 : decode cX5_fits 7 = .ok (.aload_n 2, 1) := by decide +kernel
theorem dX5_fits_8 : decode cX5_fits 8 = .ok (.iconst 0, 1) := by decide +kernel
theorem dX5_fits_9 : decode cX5_fits 9 = .ok (.iaload, 1) := by decide +kernel
theorem dX5_fits_10 : decode cX5_fits 10 = .ok (.if_icmp .ne 23, 3) := by decide +kernel
theorem dX5_fits_13 : decode cX5_fits 13 = .ok (.aload_n 1, 1) := by decide +kernel
theorem dX5_fits_14 : decode cX5_fits 14 = .ok (.invokestatic 38, 3) := by decide +kernel
theorem dX5_fits_17 : decode cX5_fits 17 = .ok (.aload_n 2, 1) := by decide +kernel
theorem dX5_fits_18 : decode cX5_fits 18 = .ok (.iconst 2, 1) := by decide +kernel
theorem dX5_fits_19 : decode cX5_fits 19 = .ok (.iaload, 1) := by decide +kernel
theorem dX5_fits_20 : decode cX5_fits 20 = .ok (.if_icmp .gt 13, 3) := by decide +kernel
theorem dX5_fits_23 : decode cX5_fits 23 = .ok (.aload_n 1, 1) := by decide +kernel
theorem dX5_fits_24 : decode cX5_fits 24 = .ok (.iconst 4, 1) := by decide +kernel
theorem dX5_fits_25 : decode cX5_fits 25 = .ok (.iaload, 1) := by decide +kernel
theorem dX5_fits_26 : decode cX5_fits 26 = .ok (.ifCond .ne 7, 3) := by decide +kernel
theorem dX5_fits_29 : decode cX5_fits 29 = .ok (.iconst 1, 1) := by decide +kernel
theorem dX5_fits_30 : decode cX5_fits 30 = .ok (.goto 4, 3) := by decide +kernel
theorem dX5_fits_33 : decode cX5_fits 33 = .ok (.iconst 0, 1) := by decide +kernel
theorem dX5_fits_34 : decode cX5_fits 34 = .ok (.ireturn, 1) := by decide +kernel
theorem dX5_fill_0 : decode cX5_fill 0 = .ok (.iconst 0, 1) := by decide +kernel
theorem dX5_fill_1 : decode cX5_fill 1 = .ok (.istore_n 1, 1) := by decide +kernel
theorem dX5_fill_2 : decode cX5_fill 2 = .ok (.aload_n 0, 1) := by decide +kernel
theorem dX5_fill_3 : decode cX5_fill 3 = .ok (.getfield 15, 3) := by decide +kernel
theorem dX5_fill_6 : decode cX5_fill 6 = .ok (.astore_n 2, 1) := by decide +kernel
theorem dX5_fill_7 : decode cX5_fill 7 = .ok (.aload_n 2, 1) := by decide +kernel
theorem dX5_fill_8 : decode cX5_fill 8 = .ok (.arraylength, 1) := by decide +kernel
theorem dX5_fill_9 : decode cX5_fill 9 = .ok (.istore_n 3, 1) := by decide +kernel
theorem dX5_fill_10 : decode cX5_fill 10 = .ok (.iconst 0, 1) := by decide +kernel
theorem dX5_fill_11 : decode cX5_fill 11 = .ok (.istore 4, 2) := by decide +kernel
theorem dX5_fill_13 : decode cX5_fill 13 = .ok (.iload 4, 2) := by decide +kernel
theorem dX5_fill_15 : decode cX5_fill 15 = .ok (.iload_n 3, 1) := by decide +kernel
theorem dX5_fill_16 : decode cX5_fill 16 = .ok (.if_icmp .ge 102, 3) := by decide +kernel
theorem dX5_fill_19 : decode cX5_fill 19 = .ok (.aload_n 2, 1) := by decide +kernel
theorem dX5_fill_20 : decode cX5_fill 20 = .ok (.iload 4, 2) := by decide +kernel
theorem dX5_fill_22 : decode cX5_fill 22 = .ok (.aaload, 1) := by decide +kernel
theorem dX5_fill_23 : decode cX5_fill 23 = .ok (.astore 5, 2) := by decide +kernel
theorem dX5_fill_25 : decode cX5_fill 25 = .ok (.bipush 39, 2) := by decide +kernel
theorem dX5_fill_27 : decode cX5_fill 27 = .ok (.istore 6, 2) := by decide +kernel
theorem dX5_fill_29 : decode cX5_fill 29 = .ok (.iload 6, 2) := by decide +kernel
theorem dX5_fill_31 : decode cX5_fill 31 = .ok (.ifCond .lt 81, 3) := by decide +kernel
theorem dX5_fill_34 : decode cX5_fill 34 = .ok (.iload 6, 2) := by decide +kernel
theorem dX5_fill_36 : decode cX5_fill 36 = .ok (.bipush 8, 2) := by decide +kernel
theorem dX5_fill_38 : decode cX5_fill 38 = .ok (.idiv, 1) := by decide +kernel
theorem dX5_fill_39 : decode cX5_fill 39 = .ok (.istore 7, 2) := by decide +kernel
theorem dX5_fill_41 : decode cX5_fill 41 = .ok (.bipush 7, 2) := by decide +kernel
theorem dX5_fill_43 : decode cX5_fill 43 = .ok (.iload 6, 2) := by decide +kernel
theorem dX5_fill_45 : decode cX5_fill 45 = .ok (.bipush 8, 2) := by decide +kernel
theorem dX5_fill_47 : decode cX5_fill 47 = .ok (.irem, 1) := by decide +kernel
theorem dX5_fill_48 : decode cX5_fill 48 = .ok (.isub, 1) := by decide +kernel
theorem dX5_fill_49 : decode cX5_fill 49 = .ok (.istore 8, 2) := by decide +kernel
theorem dX5_fill_51 : decode cX5_fill 51 = .ok (.aload 5, 2) := by decide +kernel
theorem dX5_fill_53 : decode cX5_fill 53 = .ok (.iconst 3, 1) := by decide +kernel
theorem dX5_fill_54 : decode cX5_fill 54 = .ok (.iaload, 1) := by decide +kernel
theorem dX5_fill_55 : decode cX5_fill 55 = .ok (.aload 5, 2) := by decide +kernel
theorem dX5_fill_57 : decode cX5_fill 57 = .ok (.iconst 1, 1) := by decide +kernel
theorem dX5_fill_58 : decode cX5_fill 58 = .ok (.iaload, 1) := by decide +kernel
theorem dX5_fill_59 : decode cX5_fill 59 = .ok (.if_icmp .eq 47, 3) := by decide +kernel
theorem dX5_fill_62 : decode cX5_fill 62 = .ok (.aload_n 0, 1) := by decide +kernel
theorem dX5_fill_63 : decode cX5_fill 63 = .ok (.aload_n 0, 1) := by decide +kernel
theorem dX5_fill_64 : decode cX5_fill 64 = .ok (.getfield 20, 3) := by decide +kernel
theorem dX5_fill_67 : decode cX5_fill 67 = .ok (.iload 7, 2) := by decide +kernel
theorem dX5_fill_69 : decode cX5_fill 69 = .ok (.aaload, 1) := by decide +kernel
theorem dX5_fill_70 : decode cX5_fill 70 = .ok (.iload 8, 2) := by decide +kernel
theorem dX5_fill_72 : decode cX5_fill 72 = .ok (.aaload, 1) := by decide +kernel
theorem dX5_fill_73 : decode cX5_fill 73 = .ok (.aload 5, 2) := by decide +kernel
theorem dX5_fill_75 : decode cX5_fill 75 = .ok (.invokevirtual 49, 3) := by decide +kernel
theorem dX5_fill_78 : decode cX5_fill 78 = .ok (.ifCond .ne 6, 3) := by decide +kernel
theorem dX5_fill_81 : decode cX5_fill 81 = .ok (.goto 25, 3) := by decide +kernel
theorem dX5_fill_84 : decode cX5_fill 84 = .ok (.aload_n 0, 1) := by decide +kernel
theorem dX5_fill_85 : decode cX5_fill 85 = .ok (.getfield 20, 3) := by decide +kernel
theorem dX5_fill_88 : decode cX5_fill 88 = .ok (.iload 7, 2) := by decide +kernel
theorem dX5_fill_90 : decode cX5_fill 90 = .ok (.aaload, 1) := by decide +kernel
theorem dX5_fill_91 : decode cX5_fill 91 = .ok (.iload 8, 2) := by decide +kernel
theorem dX5_fill_93 : decode cX5_fill 93 = .ok (.aconst_null, 1) := by decide +kernel
theorem dX5_fill_94 : decode cX5_fill 94 = .ok (.aastore, 1) := by decide +kernel
theorem dX5_fill_95 : decode cX5_fill 95 = .ok (.aload 5, 2) := by decide +kernel
theorem dX5_fill_97 : decode cX5_fill 97 = .ok (.iconst 3, 1) := by decide +kernel
theorem dX5_fill_98 : decode cX5_fill 98 = .ok (.dup2, 1) := by decide +kernel
theorem dX5_fill_99 : decode cX5_fill 99 = .ok (.iaload, 1) := by decide +kernel
theorem dX5_fill_100 : decode cX5_fill 100 = .ok (.iconst 1, 1) := by decide +kernel
theorem dX5_fill_101 : decode cX5_fill 101 = .ok (.iadd, 1) := by decide +kernel
theorem dX5_fill_102 : decode cX5_fill 102 = .ok (.iastore, 1) := by decide +kernel
theorem dX5_fill_103 : decode cX5_fill 103 = .ok (.iinc 1 1, 3) := by decide +kernel
theorem dX5_fill_106 : decode cX5_fill 106 = .ok (.iinc 6 (-1), 3) := by decide +kernel
theorem dX5_fill_109 : decode cX5_fill 109 = .ok (.goto (-80), 3) := by decide +kernel
theorem dX5_fill_112 : decode cX5_fill 112 = .ok (.iinc 4 1, 3) := by decide +kernel
theorem dX5_fill_115 : decode cX5_fill 115 = .ok (.goto (-102), 3) := by decide +kernel
theorem dX5_fill_118 : decode cX5_fill 118 = .ok (.aload_n 0, 1) := by decide +kernel
theorem dX5_fill_119 : decode cX5_fill 119 = .ok (.dup, 1) := by decide +kernel
theorem dX5_fill_120 : decode cX5_fill 120 = .ok (.getfield 31, 3) := by decide +kernel
theorem dX5_fill_123 : decode cX5_fill 123 = .ok (.iload_n 1, 1) := by decide +kernel
theorem dX5_fill_124 : decode cX5_fill 124 = .ok (.iadd, 1) := by decide +kernel
theorem dX5_fill_125 : decode cX5_fill 125 = .ok (.putfield 31, 3) := by decide +kernel
theorem dX5_fill_128 : decode cX5_fill 128 = .ok (.iload_n 1, 1) := by decide +kernel
theorem dX5_fill_129 : decode cX5_fill 129 = .ok (.ireturn, 1) := by decide +kernel
theorem dX5_sums_0 : decode cX5_sums 0 = .ok (.iconst 3, 1) := by decide +kernel
theorem dX5_sums_1 : decode cX5_sums 1 = .ok (.newarray .int, 2) := by decide +kernel
theorem dX5_sums_3 : decode cX5_sums 3 = .ok (.astore_n 1, 1) := by decide +kernel
theorem dX5_sums_4 : decode cX5_sums 4 = .ok (.aload_n 0, 1) := by decide +kernel
theorem dX5_sums_5 : decode cX5_sums 5 = .ok (.getfield 20, 3) := by decide +kernel
theorem dX5_sums_8 : decode cX5_sums 8 = .ok (.astore_n 2, 1) := by decide +kernel
theorem dX5_sums_9 : decode cX5_sums 9 = .ok (.aload_n 2, 1) := by decide +kernel
theorem dX5_sums_10 : decode cX5_sums 10 = .ok (.arraylength, 1) := by decide +kernel
theorem dX5_sums_11 : decode cX5_sums 11 = .ok (.istore_n 3, 1) := by decide +kernel
theorem dX5_sums_12 : decode cX5_sums 12 = .ok (.iconst 0, 1) := by decide +kernel
theorem dX5_sums_13 : decode cX5_sums 13 = .ok (.istore 4, 2) := by decide +kernel
theorem dX5_sums_15 : decode cX5_sums 15 = .ok (.iload 4, 2) := by decide +kernel
theorem dX5_sums_17 : decode cX5_sums 17 = .ok (.iload_n 3, 1) := by decide +kernel
theorem dX5_sums_18 : decode cX5_sums 18 = .ok (.if_icmp .ge 91, 3) := by decide +kernel
theorem dX5_sums_21 : decode cX5_sums 21 = .ok (.aload_n 2, 1) := by decide +kernel
theorem dX5_sums_22 : decode cX5_sums 22 = .ok (.iload 4, 2) := by decide +kernel
theorem dX5_sums_24 : decode cX5_sums 24 = .ok (.aaload, 1) := by decide +kernel
theorem dX5_sums_25 : decode cX5_sums 25 = .ok (.astore 5, 2) := by decide +kernel
theorem dX5_sums_27 : decode cX5_sums 27 = .ok (.aload 5, 2) := by decide +kernel
theorem dX5_sums_29 : decode cX5_sums 29 = .ok (.astore 6, 2) := by decide +kernel
theorem dX5_sums_31 : decode cX5_sums 31 = .ok (.aload 6, 2) := by decide +kernel
theorem dX5_sums_33 : decode cX5_sums 33 = .ok (.arraylength, 1) := by decide +kernel
theorem dX5_sums_34 : decode cX5_sums 34 = .ok (.istore 7, 2) := by decide +kernel
theorem dX5_sums_36 : decode cX5_sums 36 = .ok (.iconst 0, 1) := by decide +kernel
theorem dX5_sums_37 : decode cX5_sums 37 = .ok (.istore 8, 2) := by decide +kernel
theorem dX5_sums_39 : decode cX5_sums 39 = .ok (.iload 8, 2) := by decide +kernel
theorem dX5_sums_41 : decode cX5_sums 41 = .ok (.iload 7, 2) := by decide +kernel
theorem dX5_sums_43 : decode cX5_sums 43 = .ok (.if_icmp .ge 60, 3) := by decide +kernel
theorem dX5_sums_46 : decode cX5_sums 46 = .ok (.aload 6, 2) := by decide +kernel
theorem dX5_sums_48 : decode cX5_sums 48 = .ok (.iload 8, 2) := by decide +kernel
theorem dX5_sums_50 : decode cX5_sums 50 = .ok (.aaload, 1) := by decide +kernel
theorem dX5_sums_51 : decode cX5_sums 51 = .ok (.astore 9, 2) := by decide +kernel
theorem dX5_sums_53 : decode cX5_sums 53 = .ok (.aload 9, 2) := by decide +kernel
theorem dX5_sums_55 : decode cX5_sums 55 = .ok (.ifnonnull 6, 3) := by decide +kernel
theorem dX5_sums_58 : decode cX5_sums 58 = .ok (.goto 39, 3) := by decide +kernel
theorem dX5_sums_61 : decode cX5_sums 61 = .ok (.aload_n 1, 1) := by decide +kernel
theorem dX5_sums_62 : decode cX5_sums 62 = .ok (.iconst 0, 1) := by decide +kernel
theorem dX5_sums_63 : decode cX5_sums 63 = .ok (.dup2, 1) := by decide +kernel
theorem dX5_sums_64 : decode cX5_sums 64 = .ok (.iaload, 1) := by decide +kernel
theorem dX5_sums_65 : decode cX5_sums 65 = .ok (.iconst 1, 1) := by decide +kernel
theorem dX5_sums_66 : decode cX5_sums 66 = .ok (.iadd, 1) := by decide +kernel
theorem dX5_sums_67 : decode cX5_sums 67 = .ok (.iastore, 1) := by decide +kernel
theorem dX5_sums_68 : decode cX5_sums 68 = .ok (.aload_n 1, 1) := by decide +kernel
theorem dX5_sums_69 : decode cX5_sums 69 = .ok (.iconst 1, 1) := by decide +kernel
theorem dX5_sums_70 : decode cX5_sums 70 = .ok (.dup2, 1) := by decide +kernel
theorem dX5_sums_71 : decode cX5_sums 71 = .ok (.iaload, 1) := by decide +kernel
theorem dX5_sums_72 : decode cX5_sums 72 = .ok (.aload 9, 2) := by decide +kernel
theorem dX5_sums_74 : decode cX5_sums 74 = .ok (.iconst 4, 1) := by decide +kernel
theorem dX5_sums_75 : decode cX5_sums 75 = .ok (.iaload, 1) := by decide +kernel
theorem dX5_sums_76 : decode cX5_sums 76 = .ok (.ifCond .le 7, 3) := by decide +kernel
theorem dX5_sums_79 : decode cX5_sums 79 = .ok (.iconst 1, 1) := by decide +kernel
theorem dX5_sums_80 : decode cX5_sums 80 = .ok (.goto 4, 3) := by decide +kernel
theorem dX5_sums_83 : decode cX5_sums 83 = .ok (.iconst 0, 1) := by decide +kernel
theorem dX5_sums_84 : decode cX5_sums 84 = .ok (.iadd, 1) := by decide +kernel
theorem dX5_sums_85 : decode cX5_sums 85 = .ok (.iastore, 1) := by decide +kernel
theorem dX5_sums_86 : decode cX5_sums 86 = .ok (.aload_n 1, 1) := by decide +kernel
theorem dX5_sums_87 : decode cX5_sums 87 = .ok (.iconst 2, 1) := by decide +kernel
theorem dX5_sums_88 : decode cX5_sums 88 = .ok (.dup2, 1) := by decide +kernel
theorem dX5_sums_89 : decode cX5_sums 89 = .ok (.iaload, 1) := by decide +kernel
theorem dX5_sums_90 : decode cX5_sums 90 = .ok (.aload 9, 2) := by decide +kernel
theorem dX5_sums_92 : decode cX5_sums 92 = .ok (.invokestatic 38, 3) := by decide +kernel
theorem dX5_sums_95 : decode cX5_sums 95 = .ok (.iadd, 1) := by decide +kernel
theorem dX5_sums_96 : decode cX5_sums 96 = .ok (.iastore, 1) := by decide +kernel
theorem dX5_sums_97 : decode cX5_sums 97 = .ok (.iinc 8 1, 3) := by decide +kernel
theorem dX5_sums_100 : decode cX5_sums 100 = .ok (.goto (-61), 3) := by decide +kernel
theorem dX5_sums_103 : decode cX5_sums 103 = .ok (.iinc 4 1, 3) := by decide +kernel
theorem dX5_sums_106 : decode cX5_sums 106 = .ok (.goto (-91), 3) := by decide +kernel
theorem dX5_sums_109 : decode cX5_sums 109 = .ok (.aload_n 1, 1) := by decide +kernel
theorem dX5_sums_110 : decode cX5_sums 110 = .ok (.areturn, 1) := by decide +kernel
theorem dX5_isSame_0 : decode cX5_isSame 0 = .ok (.aload_n 0, 1) := by decide +kernel
theorem dX5_isSame_1 : decode cX5_isSame 1 = .ok (.invokevirtual 53, 3) := by decide +kernel
theorem dX5_isSame_4 : decode cX5_isSame 4 = .ok (.astore_n 2, 1) := by decide +kernel
theorem dX5_isSame_5 : decode cX5_isSame 5 = .ok (.iconst 0, 1) := by decide +kernel
theorem dX5_isSame_6 : decode cX5_isSame 6 = .ok (.istore_n 3, 1) := by decide +kernel
theorem dX5_isSame_7 : decode cX5_isSame 7 = .ok (.aload_n 0, 1) := by decide +kernel
theorem dX5_isSame_8 : decode cX5_isSame 8 = .ok (.getfield 15, 3) := by decide +kernel
theorem dX5_isSame_11 : decode cX5_isSame 11 = .ok (.astore 4, 2) := by decide +kernel
theorem dX5_isSame_13 : decode cX5_isSame 13 = .ok (.aload 4, 2) := by decide +kernel
theorem dX5_isSame_15 : decode cX5_isSame 15 = .ok (.arraylength, 1) := by decide +kernel
theorem dX5_isSame_16 : decode cX5_isSame 16 = .ok (.istore 5, 2) := by decide +kernel
theorem dX5_isSame_18 : decode cX5_isSame 18 = .ok (.iconst 0, 1) := by decide +kernel
theorem dX5_isSame_19 : decode cX5_isSame 19 = .ok (.istore 6, 2) := by decide +kernel
theorem dX5_isSame_21 : decode cX5_isSame 21 = .ok (.iload 6, 2) := by decide +kernel
theorem dX5_isSame_23 : decode cX5_isSame 23 = .ok (.iload 5, 2) := by decide +kernel
theorem dX5_isSame_25 : decode cX5_isSame 25 = .ok (.if_icmp .ge 35, 3) := by decide +kernel
theorem dX5_isSame_28 : decode cX5_isSame 28 = .ok (.aload 4, 2) := by decide +kernel
theorem dX5_isSame_30 : decode cX5_isSame 30 = .ok (.iload 6, 2) := by decide +kernel
theorem dX5_isSame_32 : decode cX5_isSame 32 = .ok (.aaload, 1) := by decide +kernel
theorem dX5_isSame_33 : decode cX5_isSame 33 = .ok (.astore 7, 2) := by decide +kernel
theorem dX5_isSame_35 : decode cX5_isSame 35 = .ok (.iload_n 3, 1) := by decide +kernel
theorem dX5_isSame_36 : decode cX5_isSame 36 = .ok (.aload 7, 2) := by decide +kernel
theorem dX5_isSame_38 : decode cX5_isSame 38 = .ok (.iconst 3, 1) := by decide +kernel
theorem dX5_isSame_39 : decode cX5_isSame 39 = .ok (.iaload, 1) := by decide +kernel
