theorem dX3_copyFrom_162 : decode cX3_copyFrom 162 = .ok (.iconst 0, 1) := by decide +kernel
theorem dX3_copyFrom_163 : decode cX3_copyFrom 163 = .ok (.bipush 6, 2) := by decide +kernel
theorem dX3_copyFrom_165 : decode cX3_copyFrom 165 = .ok (.invokestatic 62, 3) := by decide +kernel
theorem dX3_copyFrom_168 : decode cX3_copyFrom 168 = .ok (.aload_n 1, 1) := by decide +kernel
theorem dX3_copyFrom_169 : decode cX3_copyFrom 169 = .ok (.getfield 56, 3) := by decide +kernel
theorem dX3_copyFrom_172 : decode cX3_copyFrom 172 = .ok (.iconst 0, 1) := by decide +kernel
theorem dX3_copyFrom_173 : decode cX3_copyFrom 173 = .ok (.aload_n 0, 1) := by decide +kernel
theorem dX3_copyFrom_174 : decode cX3_copyFrom 174 = .ok (.getfield 56, 3) := by decide +kernel
theorem dX3_copyFrom_177 : decode cX3_copyFrom 177 = .ok (.iconst 0, 1) := by decide +kernel
theorem dX3_copyFrom_178 : decode cX3_copyFrom 178 = .ok (.bipush 6, 2) := by decide +kernel
theorem dX3_copyFrom_180 : decode cX3_copyFrom 180 = .ok (.invokestatic 62, 3) := by decide +kernel
theorem dX3_copyFrom_183 : decode cX3_copyFrom 183 = .ok (.return_, 1) := by decide +kernel
theorem dX3_has_0 : decode cX3_has 0 = .ok (.iload_n 1, 1) := by decide +kernel
theorem dX3_has_1 : decode cX3_has 1 = .ok (.ifCond .lt 15, 3) := by decide +kernel
theorem dX3_has_4 : decode cX3_has 4 = .ok (.iload_n 1, 1) := by decide +kernel
theorem dX3_has_5 : decode cX3_has 5 = .ok (.aload_n 0, 1) := by decide +kernel
theorem dX3_has_6 : decode cX3_has 6 = .ok (.getfield 9, 3) := by decide +kernel
theorem dX3_has_9 : decode cX3_has 9 = .ok (.if_icmp .ge 7, 3) := by decide +kernel
theorem dX3_has_12 : decode cX3_has 12 = .ok (.iconst 1, 1) := by decide +kernel
theorem dX3_has_13 : decode cX3_has 13 = .ok (.goto 4, 3) := by decide +kernel
theorem dX3_has_16 : decode cX3_has 16 = .ok (.iconst 0, 1) := by decide +kernel
theorem dX3_has_17 : decode cX3_has 17 = .ok (.ireturn, 1) := by decide +kernel
theorem dX3_addPupil_0 : decode cX3_addPupil 0 = .ok (.aload_n 0, 1) := by decide +kernel
theorem dX3_addPupil_1 : decode cX3_addPupil 1 = .ok (.getfield 9, 3) := by decide +kernel
theorem dX3_addPupil_4 : decode cX3_addPupil 4 = .ok (.bipush 6, 2) := by decide +kernel
theorem dX3_addPupil_6 : decode cX3_addPupil 6 = .ok (.if_icmp .lt 5, 3) := by decide +kernel
theorem dX3_addPupil_9 : decode cX3_addPupil 9 = .ok (.iconst 0, 1) := by decide +kernel
theorem dX3_addPupil_10 : decode cX3_addPupil 10 = .ok (.ireturn, 1) := by decide +kernel
theorem dX3_addPupil_11 : decode cX3_addPupil 11 = .ok (.aload_n 0, 1) := by decide +kernel
theorem dX3_addPupil_12 : decode cX3_addPupil 12 = .ok (.getfield 9, 3) := by decide +kernel
theorem dX3_addPupil_15 : decode cX3_addPupil 15 = .ok (.istore 4, 2) := by decide +kernel
theorem dX3_addPupil_17 : decode cX3_addPupil 17 = .ok (.aload_n 0, 1) := by decide +kernel
theorem dX3_addPupil_18 : decode cX3_addPupil 18 = .ok (.dup, 1) := by decide +kernel
theorem dX3_addPupil_19 : decode cX3_addPupil 19 = .ok (.getfield 9, 3) := by decide +kernel
theorem dX3_addPupil_22 : decode cX3_addPupil 22 = .ok (.iconst 1, 1) := by decide +kernel
theorem dX3_addPupil_23 : decode cX3_addPupil 23 = .ok (.iadd, 1) := by decide +kernel
theorem dX3_addPupil_24 : decode cX3_addPupil 24 = .ok (.putfield 9, 3) := by decide +kernel
theorem dX3_addPupil_27 : decode cX3_addPupil 27 = .ok (.aload_n 0, 1) := by decide +kernel
theorem dX3_addPupil_28 : decode cX3_addPupil 28 = .ok (.getfield 31, 3) := by decide +kernel
theorem dX3_addPupil_31 : decode cX3_addPupil 31 = .ok (.iload 4, 2) := by decide +kernel
theorem dX3_addPupil_33 : decode cX3_addPupil 33 = .ok (.iload_n 1, 1) := by decide +kernel
theorem dX3_addPupil_34 : decode cX3_addPupil 34 = .ok (.iastore, 1) := by decide +kernel
theorem dX3_addPupil_35 : decode cX3_addPupil 35 = .ok (.aload_n 0, 1) := by decide +kernel
theorem dX3_addPupil_36 : decode cX3_addPupil 36 = .ok (.getfield 35, 3) := by decide +kernel
theorem dX3_addPupil_39 : decode cX3_addPupil 39 = .ok (.iload 4, 2) := by decide +kernel
theorem dX3_addPupil_41 : decode cX3_addPupil 41 = .ok (.iload_n 2, 1) := by decide +kernel
theorem dX3_addPupil_42 : decode cX3_addPupil 42 = .ok (.iastore, 1) := by decide +kernel
theorem dX3_addPupil_43 : decode cX3_addPupil 43 = .ok (.aload_n 0, 1) := by decide +kernel
theorem dX3_addPupil_44 : decode cX3_addPupil 44 = .ok (.getfield 38, 3) := by decide +kernel
theorem dX3_addPupil_47 : decode cX3_addPupil 47 = .ok (.iload 4, 2) := by decide +kernel
theorem dX3_addPupil_49 : decode cX3_addPupil 49 = .ok (.iload_n 3, 1) := by decide +kernel
theorem dX3_addPupil_50 : decode cX3_addPupil 50 = .ok (.iastore, 1) := by decide +kernel
theorem dX3_addPupil_51 : decode cX3_addPupil 51 = .ok (.aload_n 0, 1) := by decide +kernel
theorem dX3_addPupil_52 : decode cX3_addPupil 52 = .ok (.getfield 41, 3) := by decide +kernel
theorem dX3_addPupil_55 : decode cX3_addPupil 55 = .ok (.iload 4, 2) := by decide +kernel
theorem dX3_addPupil_57 : decode cX3_addPupil 57 = .ok (.iconst 0, 1) := by decide +kernel
theorem dX3_addPupil_58 : decode cX3_addPupil 58 = .ok (.iastore, 1) := by decide +kernel
theorem dX3_addPupil_59 : decode cX3_addPupil 59 = .ok (.aload_n 0, 1) := by decide +kernel
theorem dX3_addPupil_60 : decode cX3_addPupil 60 = .ok (.iload 4, 2) := by decide +kernel
theorem dX3_addPupil_62 : decode cX3_addPupil 62 = .ok (.aload_n 0, 1) := by decide +kernel
theorem dX3_addPupil_63 : decode cX3_addPupil 63 = .ok (.getfield 15, 3) := by decide +kernel
theorem dX3_addPupil_66 : decode cX3_addPupil 66 = .ok (.invokevirtual 68, 3) := by decide +kernel
theorem dX3_addPupil_69 : decode cX3_addPupil 69 = .ok (.aload_n 0, 1) := by decide +kernel
theorem dX3_addPupil_70 : decode cX3_addPupil 70 = .ok (.getfield 50, 3) := by decide +kernel
theorem dX3_addPupil_73 : decode cX3_addPupil 73 = .ok (.iload 4, 2) := by decide +kernel
theorem dX3_addPupil_75 : decode cX3_addPupil 75 = .ok (.iload 4, 2) := by decide +kernel
theorem dX3_addPupil_77 : decode cX3_addPupil 77 = .ok (.iastore, 1) := by decide +kernel
theorem dX3_addPupil_78 : decode cX3_addPupil 78 = .ok (.aload_n 0, 1) := by decide +kernel
theorem dX3_addPupil_79 : decode cX3_addPupil 79 = .ok (.invokevirtual 72, 3) := by decide +kernel
theorem dX3_addPupil_82 : decode cX3_addPupil 82 = .ok (.iconst 1, 1) := by decide +kernel
theorem dX3_addPupil_83 : decode cX3_addPupil 83 = .ok (.ireturn, 1) := by decide +kernel
theorem dX3_setHours_0 : decode cX3_setHours 0 = .ok (.iload_n 1, 1) := by decide +kernel
theorem dX3_setHours_1 : decode cX3_setHours 1 = .ok (.iconst 1, 1) := by decide +kernel
theorem dX3_setHours_2 : decode cX3_setHours 2 = .ok (.if_icmp .lt 8, 3) := by decide +kernel
theorem dX3_setHours_5 : decode cX3_setHours 5 = .ok (.iload_n 1, 1) := by decide +kernel
theorem dX3_setHours_6 : decode cX3_setHours 6 = .ok (.iconst 3, 1) := by decide +kernel
theorem dX3_setHours_7 : decode cX3_setHours 7 = .ok (.if_icmp .le 5, 3) := by decide +kernel
theorem dX3_setHours_10 : decode cX3_setHours 10 = .ok (.iconst 0, 1) := by decide +kernel
theorem dX3_setHours_11 : decode cX3_setHours 11 = .ok (.ireturn, 1) := by decide +kernel
theorem dX3_setHours_12 : decode cX3_setHours 12 = .ok (.aload_n 0, 1) := by decide +kernel
theorem dX3_setHours_13 : decode cX3_setHours 13 = .ok (.iload_n 1, 1) := by decide +kernel
theorem dX3_setHours_14 : decode cX3_setHours 14 = .ok (.putfield 15, 3) := by decide +kernel
theorem dX3_setHours_17 : decode cX3_setHours 17 = .ok (.iconst 0, 1) := by decide +kernel
theorem dX3_setHours_18 : decode cX3_setHours 18 = .ok (.istore_n 2, 1) := by decide +kernel
theorem dX3_setHours_19 : decode cX3_setHours 19 = .ok (.iload_n 2, 1) := by decide +kernel
theorem dX3_setHours_20 : decode cX3_setHours 20 = .ok (.aload_n 0, 1) := by decide +kernel
theorem dX3_setHours_21 : decode cX3_setHours 21 = .ok (.getfield 9, 3) := by decide +kernel
theorem dX3_setHours_24 : decode cX3_setHours 24 = .ok (.if_icmp .ge 15, 3) := by decide +kernel
theorem dX3_setHours_27 : decode cX3_setHours 27 = .ok (.aload_n 0, 1) := by decide +kernel
theorem dX3_setHours_28 : decode cX3_setHours 28 = .ok (.iload_n 2, 1) := by decide +kernel
theorem dX3_setHours_29 : decode cX3_setHours 29 = .ok (.iload_n 1, 1) := by decide +kernel
theorem dX3_setHours_30 : decode cX3_setHours 30 = .ok (.invokevirtual 68, 3) := by decide +kernel
theorem dX3_setHours_33 : decode cX3_setHours 33 = .ok (.iinc 2 1, 3) := by decide +kernel
theorem dX3_setHours_36 : decode cX3_setHours 36 = .ok (.goto (-17), 3) := by decide +kernel
theorem dX3_setHours_39 : decode cX3_setHours 39 = .ok (.iconst 1, 1) := by decide +kernel
theorem dX3_setHours_40 : decode cX3_setHours 40 = .ok (.ireturn, 1) := by decide +kernel
theorem dX3_setRing_0 : decode cX3_setRing 0 = .ok (.aload_n 0, 1) := by decide +kernel
theorem dX3_setRing_1 : decode cX3_setRing 1 = .ok (.iload_n 1, 1) := by decide +kernel
theorem dX3_setRing_2 : decode cX3_setRing 2 = .ok (.putfield 27, 3) := by decide +kernel
theorem dX3_setRing_5 : decode cX3_setRing 5 = .ok (.aload_n 0, 1) := by decide +kernel
theorem dX3_setRing_6 : decode cX3_setRing 6 = .ok (.invokevirtual 72, 3) := by decide +kernel
theorem dX3_setRing_9 : decode cX3_setRing 9 = .ok (.return_, 1) := by decide +kernel
theorem dX3_setLearn_0 : decode cX3_setLearn 0 = .ok (.aload_n 0, 1) := by decide +kernel
theorem dX3_setLearn_1 : decode cX3_setLearn 1 = .ok (.iload_n 1, 1) := by decide +kernel
theorem dX3_setLearn_2 : decode cX3_setLearn 2 = .ok (.invokevirtual 75, 3) := by decide +kernel
theorem dX3_setLearn_5 : decode cX3_setLearn 5 = .ok (.ifCond .eq 22, 3) := by decide +kernel
theorem dX3_setLearn_8 : decode cX3_setLearn 8 = .ok (.aload_n 0, 1) := by decide +kernel
theorem dX3_setLearn_9 : decode cX3_setLearn 9 = .ok (.getfield 44, 3) := by decide +kernel
theorem dX3_setLearn_12 : decode cX3_setLearn 12 = .ok (.iload_n 1, 1) := by decide +kernel
theorem dX3_setLearn_13 : decode cX3_setLearn 13 = .ok (.iload_n 2, 1) := by decide +kernel
theorem dX3_setLearn_14 : decode cX3_setLearn 14 = .ok (.iastore, 1) := by decide +kernel
theorem dX3_setLearn_15 : decode cX3_setLearn 15 = .ok (.aload_n 0, 1) := by decide +kernel
theorem dX3_setLearn_16 : decode cX3_setLearn 16 = .ok (.getfield 47, 3) := by decide +kernel
theorem dX3_setLearn_19 : decode cX3_setLearn 19 = .ok (.iload_n 1, 1) := by decide +kernel
theorem dX3_setLearn_20 : decode cX3_setLearn 20 = .ok (.aload_n 0, 1) := by decide +kernel
theorem dX3_setLearn_21 : decode cX3_setLearn 21 = .ok (.getfield 15, 3) := by decide +kernel
theorem dX3_setLearn_24 : decode cX3_setLearn 24 = .ok (.iload_n 2, 1) := by decide +kernel
theorem dX3_setLearn_25 : decode cX3_setLearn 25 = .ok (.isub, 1) := by decide +kernel
theorem dX3_setLearn_26 : decode cX3_setLearn 26 = .ok (.iastore, 1) := by decide +kernel
theorem dX3_setLearn_27 : decode cX3_setLearn 27 = .ok (.return_, 1) := by decide +kernel
theorem dX3_learnsLike_0 : decode cX3_learnsLike 0 = .ok (.iconst 0, 1) := by decide +kernel
theorem dX3_learnsLike_1 : decode cX3_learnsLike 1 = .ok (.istore_n 2, 1) := by decide +kernel
theorem dX3_learnsLike_2 : decode cX3_learnsLike 2 = .ok (.iload_n 2, 1) := by decide +kernel
theorem dX3_learnsLike_3 : decode cX3_learnsLike 3 = .ok (.aload_n 0, 1) := by decide +kernel
theorem dX3_learnsLike_4 : decode cX3_learnsLike 4 = .ok (.getfield 9, 3) := by decide +kernel
theorem dX3_learnsLike_7 : decode cX3_learnsLike 7 = .ok (.if_icmp .ge 26, 3) := by decide +kernel
theorem dX3_learnsLike_10 : decode cX3_learnsLike 10 = .ok (.aload_n 0, 1) := by decide +kernel
theorem dX3_learnsLike_11 : decode cX3_learnsLike 11 = .ok (.getfield 44, 3) := by decide +kernel
theorem dX3_learnsLike_14 : decode cX3_learnsLike 14 = .ok (.iload_n 2, 1) := by decide +kernel
theorem dX3_learnsLike_15 : decode cX3_learnsLike 15 = .ok (.iaload, 1) := by decide +kernel
theorem dX3_learnsLike_16 : decode cX3_learnsLike 16 = .ok (.aload_n 1, 1) := by decide +kernel
theorem dX3_learnsLike_17 : decode cX3_learnsLike 17 = .ok (.getfield 44, 3) := by decide +kernel
theorem dX3_learnsLike_20 : decode cX3_learnsLike 20 = .ok (.iload_n 2, 1) := by decide +kernel
theorem dX3_learnsLike_21 : decode cX3_learnsLike 21 = .ok (.iaload, 1) := by decide +kernel
theorem dX3_learnsLike_22 : decode cX3_learnsLike 22 = .ok (.if_icmp .eq 5, 3) := by decide +kernel
theorem dX3_learnsLike_25 : decode cX3_learnsLike 25 = .ok (.iconst 0, 1) := by decide +kernel
theorem dX3_learnsLike_26 : decode cX3_learnsLike 26 = .ok (.ireturn, 1) := by decide +kernel
theorem dX3_learnsLike_27 : decode cX3_learnsLike 27 = .ok (.iinc 2 1, 3) := by decide +kernel
theorem dX3_learnsLike_30 : decode cX3_learnsLike 30 = .ok (.goto (-28), 3) := by decide +kernel
theorem dX3_learnsLike_33 : decode cX3_learnsLike 33 = .ok (.iconst 1, 1) := by decide +kernel
theorem dX3_learnsLike_34 : decode cX3_learnsLike 34 = .ok (.ireturn, 1) := by decide +kernel
theorem dX3_seatOf_0 : decode cX3_seatOf 0 = .ok (.iconst 0, 1) := by decide +kernel
theorem dX3_seatOf_1 : decode cX3_seatOf 1 = .ok (.istore_n 2, 1) := by decide +kernel
theorem dX3_seatOf_2 : decode cX3_seatOf 2 = .ok (.iload_n 2, 1) := by decide +kernel
theorem dX3_seatOf_3 : decode cX3_seatOf 3 = .ok (.aload_n 0, 1) := by decide +kernel
theorem dX3_seatOf_4 : decode cX3_seatOf 4 = .ok (.getfield 9, 3) := by decide +kernel
theorem dX3_seatOf_7 : decode cX3_seatOf 7 = .ok (.if_icmp .ge 21, 3) := by decide +kernel
theorem dX3_seatOf_10 : decode cX3_seatOf 10 = .ok (.aload_n 0, 1) := by decide +kernel
theorem dX3_seatOf_11 : decode cX3_seatOf 11 = .ok (.getfield 50, 3) := by decide +kernel
theorem dX3_seatOf_14 : decode cX3_seatOf 14 = .ok (.iload_n 2, 1) := by decide +kernel
theorem dX3_seatOf_15 : decode cX3_seatOf 15 = .ok (.iaload, 1) := by decide +kernel
theorem dX3_seatOf_16 : decode cX3_seatOf 16 = .ok (.iload_n 1, 1) := by decide +kernel
theorem dX3_seatOf_17 : decode cX3_seatOf 17 = .ok (.if_icmp .ne 5, 3) := by decide +kernel
theorem dX3_seatOf_20 : decode cX3_seatOf 20 = .ok (.iload_n 2, 1) := by decide +kernel
theorem dX3_seatOf_21 : decode cX3_seatOf 21 = .ok (.ireturn, 1) := by decide +kernel
theorem dX3_seatOf_22 : decode cX3_seatOf 22 = .ok (.iinc 2 1, 3) := by decide +kernel
theorem dX3_seatOf_25 : decode cX3_seatOf 25 = .ok (.goto (-23), 3) := by decide +kernel
theorem dX3_seatOf_28 : decode cX3_seatOf 28 = .ok (.bipush (-9), 2) := by decide +kernel
theorem dX3_seatOf_30 : decode cX3_seatOf 30 = .ok (.ireturn, 1) := by decide +kernel
theorem dX3_changeSeats_0 : decode cX3_changeSeats 0 = .ok (.aload_n 0, 1) := by decide +kernel
theorem dX3_changeSeats_1 : decode cX3_changeSeats 1 = .ok (.iload_n 1, 1) := by decide +kernel
theorem dX3_changeSeats_2 : decode cX3_changeSeats 2 = .ok (.invokevirtual 79, 3) := by decide +kernel
theorem dX3_changeSeats_5 : decode cX3_changeSeats 5 = .ok (.istore_n 3, 1) := by decide +kernel
theorem dX3_changeSeats_6 : decode cX3_changeSeats 6 = .ok (.aload_n 0, 1) := by decide +kernel
theorem dX3_changeSeats_7 : decode cX3_changeSeats 7 = .ok (.iload_n 2, 1) := by decide +kernel
theorem dX3_changeSeats_8 : decode cX3_changeSeats 8 = .ok (.invokevirtual 79, 3) := by decide +kernel
theorem dX3_changeSeats_11 : decode cX3_changeSeats 11 = .ok (.istore 4, 2) := by decide +kernel
theorem dX3_changeSeats_13 : decode cX3_changeSeats 13 = .ok (.iload_n 3, 1) := by decide +kernel
theorem dX3_changeSeats_14 : decode cX3_changeSeats 14 = .ok (.ifCond .lt 27, 3) := by decide +kernel
theorem dX3_changeSeats_17 : decode cX3_changeSeats 17 = .ok (.iload 4, 2) := by decide +kernel
theorem dX3_changeSeats_19 : decode cX3_changeSeats 19 = .ok (.ifCond .lt 22, 3) := by decide +kernel
theorem dX3_changeSeats_22 : decode cX3_changeSeats 22 = .ok (.aload_n 0, 1) := by decide +kernel
theorem dX3_changeSeats_23 : decode cX3_changeSeats 23 = .ok (.getfield 50, 3) := by decide +kernel
theorem dX3_changeSeats_26 : decode cX3_changeSeats 26 = .ok (.iload_n 3, 1) := by decide +kernel
theorem dX3_changeSeats_27 : decode cX3_changeSeats 27 = .ok (.iload_n 2, 1) := by decide +kernel
theorem dX3_changeSeats_28 : decode cX3_changeSeats 28 = .ok (.iastore, 1) := by decide +kernel
theorem dX3_changeSeats_29 : decode cX3_changeSeats 29 = .ok (.aload_n 0, 1) := by decide +kernel
theorem dX3_changeSeats_30 : decode cX3_changeSeats 30 = .ok (.getfield 50, 3) := by decide +kernel
theorem dX3_changeSeats_33 : decode cX3_changeSeats 33 = .ok (.iload 4, 2) := by decide +kernel
theorem dX3_changeSeats_35 : decode cX3_changeSeats 35 = .ok (.iload_n 1, 1) := by decide +kernel
theorem dX3_changeSeats_36 : decode cX3_changeSeats 36 = .ok (.iastore, 1) := by decide +kernel
theorem dX3_changeSeats_37 : decode cX3_changeSeats 37 = .ok (.aload_n 0, 1) := by decide +kernel
theorem dX3_changeSeats_38 : decode cX3_changeSeats 38 = .ok (.invokevirtual 72, 3) := by decide +kernel
theorem dX3_changeSeats_41 : decode cX3_changeSeats 41 = .ok (.return_, 1) := by decide +kernel
theorem dX3_sitByNumbers_0 : decode cX3_sitByNumbers 0 = .ok (.iconst 0, 1) := by decide +kernel
theorem dX3_sitByNumbers_1 : decode cX3_sitByNumbers 1 = .ok (.istore_n 1, 1) := by decide +kernel
theorem dX3_sitByNumbers_2 : decode cX3_sitByNumbers 2 = .ok (.iload_n 1, 1) := by decide +kernel
theorem dX3_sitByNumbers_3 : decode cX3_sitByNumbers 3 = .ok (.aload_n 0, 1) := by decide +kernel
theorem dX3_sitByNumbers_4 : decode cX3_sitByNumbers 4 = .ok (.getfield 9, 3) := by decide +kernel
theorem dX3_sitByNumbers_7 : decode cX3_sitByNumbers 7 = .ok (.if_icmp .ge 16, 3) := by decide +kernel
theorem dX3_sitByNumbers_10 : decode cX3_sitByNumbers 10 = .ok (.aload_n 0, 1) := by decide +kernel
theorem dX3_sitByNumbers_11 : decode cX3_sitByNumbers 11 = .ok (.getfield 50, 3) := by decide +kernel
theorem dX3_sitByNumbers_14 : decode cX3_sitByNumbers 14 = .ok (.iload_n 1, 1) := by decide +kernel
theorem dX3_sitByNumbers_15 : decode cX3_sitByNumbers 15 = .ok (.iload_n 1, 1) := by decide +kernel
theorem dX3_sitByNumbers_16 : decode cX3_sitByNumbers 16 = .ok (.iastore, 1) := by decide +kernel
theorem dX3_sitByNumbers_17 : decode cX3_sitByNumbers 17 = .ok (.iinc 1 1, 3) := by decide +kernel
theorem dX3_sitByNumbers_20 : decode cX3_sitByNumbers 20 = .ok (.goto (-18), 3) := by decide +kernel
theorem dX3_sitByNumbers_23 : decode cX3_sitByNumbers 23 = .ok (.aload_n 0, 1) := by decide +kernel
theorem dX3_sitByNumbers_24 : decode cX3_sitByNumbers 24 = .ok (.invokevirtual 72, 3) := by decide +kernel
theorem dX3_sitByNumbers_27 : decode cX3_sitByNumbers 27 = .ok (.return_, 1) := by decide +kernel
theorem dX3_findNeighbours_0 : decode cX3_findNeighbours 0 = .ok (.iconst 0, 1) := by decide +kernel
theorem dX3_findNeighbours_1 : decode cX3_findNeighbours 1 = .ok (.istore_n 1, 1) := by decide +kernel
theorem dX3_findNeighbours_2 : decode cX3_findNeighbours 2 = .ok (.iload_n 1, 1) := by decide +kernel
theorem dX3_findNeighbours_3 : decode cX3_findNeighbours 3 = .ok (.aload_n 0, 1) := by decide +kernel
theorem dX3_findNeighbours_4 : decode cX3_findNeighbours 4 = .ok (.getfield 9, 3) := by decide +kernel
theorem dX3_findNeighbours_7 : decode cX3_findNeighbours 7 = .ok (.if_icmp .ge 119, 3) := by decide +kernel
theorem dX3_findNeighbours_10 : decode cX3_findNeighbours 10 = .ok (.aload_n 0, 1) := by decide +kernel
theorem dX3_findNeighbours_11 : decode cX3_findNeighbours 11 = .ok (.getfield 50, 3) := by decide +kernel
theorem dX3_findNeighbours_14 : decode cX3_findNeighbours 14 = .ok (.iload_n 1, 1) := by decide +kernel
theorem dX3_findNeighbours_15 : decode cX3_findNeighbours 15 = .ok (.iaload, 1) := by decide +kernel
theorem dX3_findNeighbours_16 : decode cX3_findNeighbours 16 = .ok (.istore_n 2, 1) := by decide +kernel
theorem dX3_findNeighbours_17 : decode cX3_findNeighbours 17 = .ok (.iload_n 1, 1) := by decide +kernel
theorem dX3_findNeighbours_18 : decode cX3_findNeighbours 18 = .ok (.ifCond .le 14, 3) := by decide +kernel
theorem dX3_findNeighbours_21 : decode cX3_findNeighbours 21 = .ok (.aload_n 0, 1) := by decide +kernel
theorem dX3_findNeighbours_22 : decode cX3_findNeighbours 22 = .ok (.getfield 50, 3) := by decide +kernel
theorem dX3_findNeighbours_25 : decode cX3_findNeighbours 25 = .ok (.iload_n 1, 1) := by decide +kernel
theorem dX3_findNeighbours_26 : decode cX3_findNeighbours 26 = .ok (.iconst 1, 1) := by decide +kernel
theorem dX3_findNeighbours_27 : decode cX3_findNeighbours 27 = .ok (.isub, 1) := by decide +kernel
theorem dX3_findNeighbours_28 : decode cX3_findNeighbours 28 = .ok (.iaload, 1) := by decide +kernel
theorem dX3_findNeighbours_29 : decode cX3_findNeighbours 29 = .ok (.goto 26, 3) := by decide +kernel
theorem dX3_findNeighbours_32 : decode cX3_findNeighbours 32 = .ok (.aload_n 0, 1) := by decide +kernel
theorem dX3_findNeighbours_33 : decode cX3_findNeighbours 33 = .ok (.getfield 27, 3) := by decide +kernel
theorem dX3_findNeighbours_36 : decode cX3_findNeighbours 36 = .ok (.ifCond .eq 17, 3) := by decide +kernel
theorem dX3_findNeighbours_39 : decode cX3_findNeighbours 39 = .ok (.aload_n 0, 1) := by decide +kernel
theorem dX3_findNeighbours_40 : decode cX3_findNeighbours 40 = .ok (.getfield 50, 3) := by decide +kernel
theorem dX3_findNeighbours_43 : decode cX3_findNeighbours 43 = .ok (.aload_n 0, 1) := by decide +kernel
theorem dX3_findNeighbours_44 : decode cX3_findNeighbours 44 = .ok (.getfield 9, 3) := by decide +kernel
theorem dX3_findNeighbours_47 : decode cX3_findNeighbours 47 = .ok (.iconst 1, 1) := by decide +kernel
theorem dX3_findNeighbours_48 : decode cX3_findNeighbours 48 = .ok (.isub, 1) := by decide +kernel
theorem dX3_findNeighbours_49 : decode cX3_findNeighbours 49 = .ok (.iaload, 1) := by decide +kernel
theorem dX3_findNeighbours_50 : decode cX3_findNeighbours 50 = .ok (.goto 5, 3) := by decide +kernel
theorem dX3_findNeighbours_53 : decode cX3_findNeighbours 53 = .ok (.bipush (-9), 2) := by decide +kernel
theorem dX3_findNeighbours_55 : decode cX3_findNeighbours 55 = .ok (.istore_n 3, 1) := by decide +kernel
theorem dX3_findNeighbours_56 : decode cX3_findNeighbours 56 = .ok (.iload_n 1, 1) := by decide +kernel
theorem dX3_findNeighbours_57 : decode cX3_findNeighbours 57 = .ok (.aload_n 0, 1) := by decide +kernel
theorem dX3_findNeighbours_58 : decode cX3_findNeighbours 58 = .ok (.getfield 9, 3) := by decide +kernel
theorem dX3_findNeighbours_61 : decode cX3_findNeighbours 61 = .ok (.iconst 1, 1) := by decide +kernel
theorem dX3_findNeighbours_62 : decode cX3_findNeighbours 62 = .ok (.isub, 1) := by decide +kernel
theorem dX3_findNeighbours_63 : decode cX3_findNeighbours 63 = .ok (.if_icmp .ge 14, 3) := by decide +kernel
theorem dX3_findNeighbours_66 : decode cX3_findNeighbours 66 = .ok (.aload_n 0, 1) := by decide +kernel
theorem dX3_findNeighbours_67 : decode cX3_findNeighbours 67 = .ok (.getfield 50, 3) := by decide +kernel
theorem dX3_findNeighbours_70 : decode cX3_findNeighbours 70 = .ok (.iload_n 1, 1) := by decide +kernel
theorem dX3_findNeighbours_71 : decode cX3_findNeighbours 71 = .ok (.iconst 1, 1) := by decide +kernel
theorem dX3_findNeighbours_72 : decode cX3_findNeighbours 72 = .ok (.iadd, 1) := by decide +kernel
theorem dX3_findNeighbours_73 : decode cX3_findNeighbours 73 = .ok (.iaload, 1) := by decide +kernel
theorem dX3_findNeighbours_74 : decode cX3_findNeighbours 74 = .ok (.goto 21, 3) := by decide +kernel
theorem dX3_findNeighbours_77 : decode cX3_findNeighbours 77 = .ok (.aload_n 0, 1) := by decide +kernel
theorem dX3_findNeighbours_78 : decode cX3_findNeighbours 78 = .ok (.getfield 27, 3) := by decide +kernel
theorem dX3_findNeighbours_81 : decode cX3_findNeighbours 81 = .ok (.ifCond .eq 12, 3) := by decide +kernel
theorem dX3_findNeighbours_84 : decode cX3_findNeighbours 84 = .ok (.aload_n 0, 1) := by decide +kernel
theorem dX3_findNeighbours_85 : decode cX3_findNeighbours 85 = .ok (.getfield 50, 3) := by decide +kernel
theorem dX3_findNeighbours_88 : decode cX3_findNeighbours 88 = .ok (.iconst 0, 1) := by decide +kernel
theorem dX3_findNeighbours_89 : decode cX3_findNeighbours 89 = .ok (.iaload, 1) := by decide +kernel
theorem dX3_findNeighbours_90 : decode cX3_findNeighbours 90 = .ok (.goto 5, 3) := by decide +kernel
theorem dX3_findNeighbours_93 : decode cX3_findNeighbours 93 = .ok (.bipush (-9), 2) := by decide +kernel
theorem dX3_findNeighbours_95 : decode cX3_findNeighbours 95 = .ok (.istore 4, 2) := by decide +kernel
theorem dX3_findNeighbours_97 : decode cX3_findNeighbours 97 = .ok (.aload_n 0, 1) := by decide +kernel
theorem dX3_findNeighbours_98 : decode cX3_findNeighbours 98 = .ok (.iload_n 2, 1) := by decide +kernel
theorem dX3_findNeighbours_99 : decode cX3_findNeighbours 99 = .ok (.invokevirtual 75, 3) := by decide +kernel
theorem dX3_findNeighbours_102 : decode cX3_findNeighbours 102 = .ok (.ifCond .eq 18, 3) := by decide +kernel
theorem dX3_findNeighbours_105 : decode cX3_findNeighbours 105 = .ok (.aload_n 0, 1) := by decide +kernel
theorem dX3_findNeighbours_106 : decode cX3_findNeighbours 106 = .ok (.getfield 53, 3) := by decide +kernel
theorem dX3_findNeighbours_109 : decode cX3_findNeighbours 109 = .ok (.iload_n 2, 1) := by decide +kernel
theorem dX3_findNeighbours_110 : decode cX3_findNeighbours 110 = .ok (.iload 4, 2) := by decide +kernel
theorem dX3_findNeighbours_112 : decode cX3_findNeighbours 112 = .ok (.iastore, 1) := by decide +kernel
theorem dX3_findNeighbours_113 : decode cX3_findNeighbours 113 = .ok (.aload_n 0, 1) := by decide +kernel
theorem dX3_findNeighbours_114 : decode cX3_findNeighbours 114 = .ok (.getfield 56, 3) := by decide +kernel
theorem dX3_findNeighbours_117 : decode cX3_findNeighbours 117 = .ok (.iload_n 2, 1) := by decide +kernel
theorem dX3_findNeighbours_118 : decode cX3_findNeighbours 118 = .ok (.iload_n 3, 1) := by decide +kernel
theorem dX3_findNeighbours_119 : decode cX3_findNeighbours 119 = .ok (.iastore, 1) := by decide +kernel
theorem dX3_findNeighbours_120 : decode cX3_findNeighbours 120 = .ok (.iinc 1 1, 3) := by decide +kernel
theorem dX3_findNeighbours_123 : decode cX3_findNeighbours 123 = .ok (.goto (-121), 3) := by decide +kernel
theorem dX3_findNeighbours_126 : decode cX3_findNeighbours 126 = .ok (.return_, 1) := by decide +kernel
theorem dX4_init_0 : decode cX4_init 0 = .ok (.aload_n 0, 1) := by decide +kernel
theorem dX4_init_1 : decode cX4_init 1 = .ok (.invokespecial 3, 3) := by decide +kernel
theorem dX4_init_4 : decode cX4_init 4 = .ok (.aload_n 0, 1) := by decide +kernel
theorem dX4_init_5 : decode cX4_init 5 = .ok (.new 9, 3) := by decide +kernel
theorem dX4_init_8 : decode cX4_init 8 = .ok (.dup, 1) := by decide +kernel
theorem dX4_init_9 : decode cX4_init 9 = .ok (.invokespecial 11, 3) := by decide +kernel
theorem dX4_init_12 : decode cX4_init 12 = .ok (.putfield 12, 3) := by decide +kernel
theorem dX4_init_15 : decode cX4_init 15 = .ok (.aload_n 0, 1) := by decide +kernel
theorem dX4_init_16 : decode cX4_init 16 = .ok (.bipush 6, 2) := by decide +kernel
theorem dX4_init_18 : decode cX4_init 18 = .ok (.newarray .int, 2) := by decide +kernel
theorem dX4_init_20 : decode cX4_init 20 = .ok (.putfield 18, 3) := by decide +kernel
theorem dX4_init_23 : decode cX4_init 23 = .ok (.aload_n 0, 1) := by decide +kernel
theorem dX4_init_24 : decode cX4_init 24 = .ok (.iconst 0, 1) := by decide +kernel
theorem dX4_init_25 : decode cX4_init 25 = .ok (.putfield 22, 3) := by decide +kernel
theorem dX4_init_28 : decode cX4_init 28 = .ok (.aload_n 0, 1) := by decide +kernel
theorem dX4_init_29 : decode cX4_init 29 = .ok (.iconst 0, 1) := by decide +kernel
theorem dX4_init_30 : decode cX4_init 30 = .ok (.putfield 26, 3) := by decide +kernel
theorem dX4_init_33 : decode cX4_init 33 = .ok (.aload_n 0, 1) := by decide +kernel
theorem dX4_init_34 : decode cX4_init 34 = .ok (.iconst 0, 1) := by decide +kernel
theorem dX4_init_35 : decode cX4_init 35 = .ok (.putfield 29, 3) := by decide +kernel
theorem dX4_init_38 : decode cX4_init 38 = .ok (.return_, 1) := by decide +kernel
theorem dX4_findBest_0 : decode cX4_findBest 0 = .ok (.aload_n 0, 1) := by decide +kernel
theorem dX4_findBest_1 : decode cX4_findBest 1 = .ok (.aload_n 1, 1) := by decide +kernel
theorem dX4_findBest_2 : decode cX4_findBest 2 = .ok (.invokevirtual 32, 3) := by decide +kernel
theorem dX4_findBest_5 : decode cX4_findBest 5 = .ok (.aload_n 0, 1) := by decide +kernel
theorem dX4_findBest_6 : decode cX4_findBest 6 = .ok (.iconst (-1), 1) := by decide +kernel
theorem dX4_findBest_7 : decode cX4_findBest 7 = .ok (.putfield 22, 3) := by decide +kernel
theorem dX4_findBest_10 : decode cX4_findBest 10 = .ok (.aload_n 0, 1) := by decide +kernel
theorem dX4_findBest_11 : decode cX4_findBest 11 = .ok (.iconst (-1), 1) := by decide +kernel
theorem dX4_findBest_12 : decode cX4_findBest 12 = .ok (.putfield 26, 3) := by decide +kernel
theorem dX4_findBest_15 : decode cX4_findBest 15 = .ok (.iconst 1, 1) := by decide +kernel
theorem dX4_findBest_16 : decode cX4_findBest 16 = .ok (.istore_n 2, 1) := by decide +kernel
theorem dX4_findBest_17 : decode cX4_findBest 17 = .ok (.iconst 0, 1) := by decide +kernel
theorem dX4_findBest_18 : decode cX4_findBest 18 = .ok (.istore_n 3, 1) := by decide +kernel
theorem dX4_findBest_19 : decode cX4_findBest 19 = .ok (.iload_n 3, 1) := by decide +kernel
theorem dX4_findBest_20 : decode cX4_findBest 20 = .ok (.sipush 720, 3) := by decide +kernel
theorem dX4_findBest_23 : decode cX4_findBest 23 = .ok (.if_icmp .ge 82, 3) := by decide +kernel
theorem dX4_findBest_26 : decode cX4_findBest 26 = .ok (.iload_n 2, 1) := by decide +kernel
theorem dX4_findBest_27 : decode cX4_findBest 27 = .ok (.ifCond .eq 78, 3) := by decide +kernel
theorem dX4_findBest_30 : decode cX4_findBest 30 = .ok (.aload_n 0, 1) := by decide +kernel
theorem dX4_findBest_31 : decode cX4_findBest 31 = .ok (.getfield 12, 3) := by decide +kernel
theorem dX4_findBest_34 : decode cX4_findBest 34 = .ok (.invokestatic 36, 3) := by decide +kernel
theorem dX4_findBest_37 : decode cX4_findBest 37 = .ok (.invokestatic 42, 3) := by decide +kernel
theorem dX4_findBest_40 : decode cX4_findBest 40 = .ok (.istore 4, 2) := by decide +kernel
theorem dX4_findBest_42 : decode cX4_findBest 42 = .ok (.aload_n 0, 1) := by decide +kernel
theorem dX4_findBest_43 : decode cX4_findBest 43 = .ok (.getfield 12, 3) := by decide +kernel
theorem dX4_findBest_46 : decode cX4_findBest 46 = .ok (.invokestatic 48, 3) := by decide +kernel
theorem dX4_findBest_49 : decode cX4_findBest 49 = .ok (.istore 5, 2) := by decide +kernel
theorem dX4_findBest_51 : decode cX4_findBest 51 = .ok (.iload 4, 2) := by decide +kernel
theorem dX4_findBest_53 : decode cX4_findBest 53 = .ok (.aload_n 0, 1) := by decide +kernel
theorem dX4_findBest_54 : decode cX4_findBest 54 = .ok (.getfield 22, 3) := by decide +kernel
theorem dX4_findBest_57 : decode cX4_findBest 57 = .ok (.if_icmp .gt 21, 3) := by decide +kernel
theorem dX4_findBest_60 : decode cX4_findBest 60 = .ok (.iload 4, 2) := by decide +kernel
theorem dX4_findBest_62 : decode cX4_findBest 62 = .ok (.aload_n 0, 1) := by decide +kernel
theorem dX4_findBest_63 : decode cX4_findBest 63 = .ok (.getfield 22, 3) := by decide +kernel
theorem dX4_findBest_66 : decode cX4_findBest 66 = .ok (.if_icmp .ne 28, 3) := by decide +kernel
theorem dX4_findBest_69 : decode cX4_findBest 69 = .ok (.iload 5, 2) := by decide +kernel
theorem dX4_findBest_71 : decode cX4_findBest 71 = .ok (.aload_n 0, 1) := by decide +kernel
theorem dX4_findBest_72 : decode cX4_findBest 72 = .ok (.getfield 26, 3) := by decide +kernel
theorem dX4_findBest_75 : decode cX4_findBest 75 = .ok (.if_icmp .le 19, 3) := by decide +kernel
theorem dX4_findBest_78 : decode cX4_findBest 78 = .ok (.aload_n 0, 1) := by decide +kernel
theorem dX4_findBest_79 : decode cX4_findBest 79 = .ok (.iload 4, 2) := by decide +kernel
theorem dX4_findBest_81 : decode cX4_findBest 81 = .ok (.putfield 22, 3) := by decide +kernel
theorem dX4_findBest_84 : decode cX4_findBest 84 = .ok (.aload_n 0, 1) := by decide +kernel
theorem dX4_findBest_85 : decode cX4_findBest 85 = .ok (.iload 5, 2) := by decide +kernel
theorem dX4_findBest_87 : decode cX4_findBest 87 = .ok (.putfield 26, 3) := by decide +kernel
theorem dX4_findBest_90 : decode cX4_findBest 90 = .ok (.aload_n 0, 1) := by decide +kernel
theorem dX4_findBest_91 : decode cX4_findBest 91 = .ok (.invokevirtual 51, 3) := by decide +kernel
theorem dX4_findBest_94 : decode cX4_findBest 94 = .ok (.aload_n 0, 1) := by decide +kernel
theorem dX4_findBest_95 : decode cX4_findBest 95 = .ok (.invokevirtual 54, 3) := by decide +kernel
theorem dX4_findBest_98 : decode cX4_findBest 98 = .ok (.istore_n 2, 1) := by decide +kernel
theorem dX4_findBest_99 : decode cX4_findBest 99 = .ok (.iinc 3 1, 3) := by decide +kernel
theorem dX4_findBest_102 : decode cX4_findBest 102 = .ok (.goto (-83), 3) := by decide +kernel
theorem dX4_findBest_105 : decode cX4_findBest 105 = .ok (.return_, 1) := by decide +kernel
theorem dX4_findLeastSum_0 : decode cX4_findLeastSum 0 = .ok (.aload_n 0, 1) := by decide +kernel
theorem dX4_findLeastSum_1 : decode cX4_findLeastSum 1 = .ok (.aload_n 1, 1) := by decide +kernel
theorem dX4_findLeastSum_2 : decode cX4_findLeastSum 2 = .ok (.invokevirtual 32, 3) := by decide +kernel
theorem dX4_findLeastSum_5 : decode cX4_findLeastSum 5 = .ok (.ldc 58, 2) := by decide +kernel
theorem dX4_findLeastSum_7 : decode cX4_findLeastSum 7 = .ok (.istore_n 2, 1) := by decide +kernel
theorem dX4_findLeastSum_8 : decode cX4_findLeastSum 8 = .ok (.iconst 1, 1) := by decide +kernel
theorem dX4_findLeastSum_9 : decode cX4_findLeastSum 9 = .ok (.istore_n 3, 1) := by decide +kernel
theorem dX4_findLeastSum_10 : decode cX4_findLeastSum 10 = .ok (.iconst 0, 1) := by decide +kernel
theorem dX4_findLeastSum_11 : decode cX4_findLeastSum 11 = .ok (.istore 4, 2) := by decide +kernel
theorem dX4_findLeastSum_13 : decode cX4_findLeastSum 13 = .ok (.iload 4, 2) := by decide +kernel
theorem dX4_findLeastSum_15 : decode cX4_findLeastSum 15 = .ok (.sipush 720, 3) := by decide +kernel
theorem dX4_findLeastSum_18 : decode cX4_findLeastSum 18 = .ok (.if_icmp .ge 30, 3) := by decide +kernel
theorem dX4_findLeastSum_21 : decode cX4_findLeastSum 21 = .ok (.iload_n 3, 1) := by decide +kernel
theorem dX4_findLeastSum_22 : decode cX4_findLeastSum 22 = .ok (.ifCond .eq 26, 3) := by decide +kernel
theorem dX4_findLeastSum_25 : decode cX4_findLeastSum 25 = .ok (.iload_n 2, 1) := by decide +kernel
theorem dX4_findLeastSum_26 : decode cX4_findLeastSum 26 = .ok (.aload_n 0, 1) := by decide +kernel
theorem dX4_findLeastSum_27 : decode cX4_findLeastSum 27 = .ok (.getfield 12, 3) := by decide +kernel
theorem dX4_findLeastSum_30 : decode cX4_findLeastSum 30 = .ok (.invokestatic 48, 3) := by decide +kernel
theorem dX4_findLeastSum_33 : decode cX4_findLeastSum 33 = .ok (.invokestatic 59, 3) := by decide +kernel
theorem dX4_findLeastSum_36 : decode cX4_findLeastSum 36 = .ok (.istore_n 2, 1) := by decide +kernel
theorem dX4_findLeastSum_37 : decode cX4_findLeastSum 37 = .ok (.aload_n 0, 1) := by decide +kernel
theorem dX4_findLeastSum_38 : decode cX4_findLeastSum 38 = .ok (.invokevirtual 54, 3) := by decide +kernel
theorem dX4_findLeastSum_41 : decode cX4_findLeastSum 41 = .ok (.istore_n 3, 1) := by decide +kernel
theorem dX4_findLeastSum_42 : decode cX4_findLeastSum 42 = .ok (.iinc 4 1, 3) := by decide +kernel
theorem dX4_findLeastSum_45 : decode cX4_findLeastSum 45 = .ok (.goto (-32), 3) := by decide +kernel
theorem dX4_findLeastSum_48 : decode cX4_findLeastSum 48 = .ok (.iload_n 2, 1) := by decide +kernel
theorem dX4_findLeastSum_49 : decode cX4_findLeastSum 49 = .ok (.ireturn, 1) := by decide +kernel
theorem dX4_findFitting_0 : decode cX4_findFitting 0 = .ok (.aload_n 0, 1) := by decide +kernel
theorem dX4_findFitting_1 : decode cX4_findFitting 1 = .ok (.aload_n 1, 1) := by decide +kernel
theorem dX4_findFitting_2 : decode cX4_findFitting 2 = .ok (.invokevirtual 32, 3) := by decide +kernel
theorem dX4_findFitting_5 : decode cX4_findFitting 5 = .ok (.aload_n 0, 1) := by decide +kernel
theorem dX4_findFitting_6 : decode cX4_findFitting 6 = .ok (.iconst 0, 1) := by decide +kernel
theorem dX4_findFitting_7 : decode cX4_findFitting 7 = .ok (.putfield 29, 3) := by decide +kernel
theorem dX4_findFitting_10 : decode cX4_findFitting 10 = .ok (.iconst 1, 1) := by decide +kernel
theorem dX4_findFitting_11 : decode cX4_findFitting 11 = .ok (.istore_n 3, 1) := by decide +kernel
theorem dX4_findFitting_12 : decode cX4_findFitting 12 = .ok (.iconst 0, 1) := by decide +kernel
theorem dX4_findFitting_13 : decode cX4_findFitting 13 = .ok (.istore 4, 2) := by decide +kernel
theorem dX4_findFitting_15 : decode cX4_findFitting 15 = .ok (.iload 4, 2) := by decide +kernel
theorem dX4_findFitting_17 : decode cX4_findFitting 17 = .ok (.sipush 720, 3) := by decide +kernel
theorem dX4_findFitting_20 : decode cX4_findFitting 20 = .ok (.if_icmp .ge 47, 3) := by decide +kernel
theorem dX4_findFitting_23 : decode cX4_findFitting 23 = .ok (.iload_n 3, 1) := by decide +kernel
theorem dX4_findFitting_24 : decode cX4_findFitting 24 = .ok (.ifCond .eq 43, 3) := by decide +kernel
theorem dX4_findFitting_27 : decode cX4_findFitting 27 = .ok (.aload_n 0, 1) := by decide +kernel
theorem dX4_findFitting_28 : decode cX4_findFitting 28 = .ok (.aload_n 2, 1) := by decide +kernel
theorem dX4_findFitting_29 : decode cX4_findFitting 29 = .ok (.invokevirtual 65, 3) := by decide +kernel
theorem dX4_findFitting_32 : decode cX4_findFitting 32 = .ok (.ifCond .ne 24, 3) := by decide +kernel
theorem dX4_findFitting_35 : decode cX4_findFitting 35 = .ok (.aload_n 0, 1) := by decide +kernel
theorem dX4_findFitting_36 : decode cX4_findFitting 36 = .ok (.getfield 29, 3) := by decide +kernel
theorem dX4_findFitting_39 : decode cX4_findFitting 39 = .ok (.ifCond .ne 7, 3) := by decide +kernel
theorem dX4_findFitting_42 : decode cX4_findFitting 42 = .ok (.aload_n 0, 1) := by decide +kernel
theorem dX4_findFitting_43 : decode cX4_findFitting 43 = .ok (.invokevirtual 51, 3) := by decide +kernel
theorem dX4_findFitting_46 : decode cX4_findFitting 46 = .ok (.aload_n 0, 1) := by decide +kernel
theorem dX4_findFitting_47 : decode cX4_findFitting 47 = .ok (.dup, 1) := by decide +kernel
