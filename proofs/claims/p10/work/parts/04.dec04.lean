theorem dX5_isAtRest_30 : decode cX5_isAtRest 30 = .ok (.ireturn, 1) := by decide +kernel
theorem dX5_wouldDoOtherwise_0 : decode cX5_wouldDoOtherwise 0 = .ok (.aload_n 0, 1) := by decide +kernel
theorem dX5_wouldDoOtherwise_1 : decode cX5_wouldDoOtherwise 1 = .ok (.getfield 12, 3) := by decide +kernel
theorem dX5_wouldDoOtherwise_4 : decode cX5_wouldDoOtherwise 4 = .ok (.getfield 61, 3) := by decide +kernel
theorem dX5_wouldDoOtherwise_7 : decode cX5_wouldDoOtherwise 7 = .ok (.iload_n 1, 1) := by decide +kernel
theorem dX5_wouldDoOtherwise_8 : decode cX5_wouldDoOtherwise 8 = .ok (.iaload, 1) := by decide +kernel
theorem dX5_wouldDoOtherwise_9 : decode cX5_wouldDoOtherwise 9 = .ok (.istore_n 2, 1) := by decide +kernel
theorem dX5_wouldDoOtherwise_10 : decode cX5_wouldDoOtherwise 10 = .ok (.aload_n 0, 1) := by decide +kernel
theorem dX5_wouldDoOtherwise_11 : decode cX5_wouldDoOtherwise 11 = .ok (.getfield 12, 3) := by decide +kernel
theorem dX5_wouldDoOtherwise_14 : decode cX5_wouldDoOtherwise 14 = .ok (.iload_n 1, 1) := by decide +kernel
theorem dX5_wouldDoOtherwise_15 : decode cX5_wouldDoOtherwise 15 = .ok (.invokestatic 87, 3) := by decide +kernel
theorem dX5_wouldDoOtherwise_18 : decode cX5_wouldDoOtherwise 18 = .ok (.istore_n 3, 1) := by decide +kernel
theorem dX5_wouldDoOtherwise_19 : decode cX5_wouldDoOtherwise 19 = .ok (.iconst 0, 1) := by decide +kernel
theorem dX5_wouldDoOtherwise_20 : decode cX5_wouldDoOtherwise 20 = .ok (.istore 4, 2) := by decide +kernel
theorem dX5_wouldDoOtherwise_22 : decode cX5_wouldDoOtherwise 22 = .ok (.iconst 0, 1) := by decide +kernel
theorem dX5_wouldDoOtherwise_23 : decode cX5_wouldDoOtherwise 23 = .ok (.istore 5, 2) := by decide +kernel
theorem dX5_wouldDoOtherwise_25 : decode cX5_wouldDoOtherwise 25 = .ok (.iload 5, 2) := by decide +kernel
theorem dX5_wouldDoOtherwise_27 : decode cX5_wouldDoOtherwise 27 = .ok (.aload_n 0, 1) := by decide +kernel
theorem dX5_wouldDoOtherwise_28 : decode cX5_wouldDoOtherwise 28 = .ok (.getfield 12, 3) := by decide +kernel
theorem dX5_wouldDoOtherwise_31 : decode cX5_wouldDoOtherwise 31 = .ok (.getfield 80, 3) := by decide +kernel
theorem dX5_wouldDoOtherwise_34 : decode cX5_wouldDoOtherwise 34 = .ok (.if_icmp .gt 49, 3) := by decide +kernel
theorem dX5_wouldDoOtherwise_37 : decode cX5_wouldDoOtherwise 37 = .ok (.iload 4, 2) := by decide +kernel
theorem dX5_wouldDoOtherwise_39 : decode cX5_wouldDoOtherwise 39 = .ok (.ifCond .ne 44, 3) := by decide +kernel
theorem dX5_wouldDoOtherwise_42 : decode cX5_wouldDoOtherwise 42 = .ok (.iload 5, 2) := by decide +kernel
theorem dX5_wouldDoOtherwise_44 : decode cX5_wouldDoOtherwise 44 = .ok (.iload_n 2, 1) := by decide +kernel
theorem dX5_wouldDoOtherwise_45 : decode cX5_wouldDoOtherwise 45 = .ok (.if_icmp .eq 32, 3) := by decide +kernel
theorem dX5_wouldDoOtherwise_48 : decode cX5_wouldDoOtherwise 48 = .ok (.aload_n 0, 1) := by decide +kernel
theorem dX5_wouldDoOtherwise_49 : decode cX5_wouldDoOtherwise 49 = .ok (.getfield 12, 3) := by decide +kernel
theorem dX5_wouldDoOtherwise_52 : decode cX5_wouldDoOtherwise 52 = .ok (.iload_n 1, 1) := by decide +kernel
theorem dX5_wouldDoOtherwise_53 : decode cX5_wouldDoOtherwise 53 = .ok (.iload 5, 2) := by decide +kernel
theorem dX5_wouldDoOtherwise_55 : decode cX5_wouldDoOtherwise 55 = .ok (.invokevirtual 76, 3) := by decide +kernel
theorem dX5_wouldDoOtherwise_58 : decode cX5_wouldDoOtherwise 58 = .ok (.aload_n 0, 1) := by decide +kernel
theorem dX5_wouldDoOtherwise_59 : decode cX5_wouldDoOtherwise 59 = .ok (.getfield 12, 3) := by decide +kernel
theorem dX5_wouldDoOtherwise_62 : decode cX5_wouldDoOtherwise 62 = .ok (.iload_n 1, 1) := by decide +kernel
theorem dX5_wouldDoOtherwise_63 : decode cX5_wouldDoOtherwise 63 = .ok (.invokestatic 87, 3) := by decide +kernel
theorem dX5_wouldDoOtherwise_66 : decode cX5_wouldDoOtherwise 66 = .ok (.iload_n 3, 1) := by decide +kernel
theorem dX5_wouldDoOtherwise_67 : decode cX5_wouldDoOtherwise 67 = .ok (.if_icmp .le 7, 3) := by decide +kernel
theorem dX5_wouldDoOtherwise_70 : decode cX5_wouldDoOtherwise 70 = .ok (.iconst 1, 1) := by decide +kernel
theorem dX5_wouldDoOtherwise_71 : decode cX5_wouldDoOtherwise 71 = .ok (.goto 4, 3) := by decide +kernel
theorem dX5_wouldDoOtherwise_74 : decode cX5_wouldDoOtherwise 74 = .ok (.iconst 0, 1) := by decide +kernel
theorem dX5_wouldDoOtherwise_75 : decode cX5_wouldDoOtherwise 75 = .ok (.istore 4, 2) := by decide +kernel
theorem dX5_wouldDoOtherwise_77 : decode cX5_wouldDoOtherwise 77 = .ok (.iinc 5 1, 3) := by decide +kernel
theorem dX5_wouldDoOtherwise_80 : decode cX5_wouldDoOtherwise 80 = .ok (.goto (-55), 3) := by decide +kernel
theorem dX5_wouldDoOtherwise_83 : decode cX5_wouldDoOtherwise 83 = .ok (.aload_n 0, 1) := by decide +kernel
theorem dX5_wouldDoOtherwise_84 : decode cX5_wouldDoOtherwise 84 = .ok (.getfield 12, 3) := by decide +kernel
theorem dX5_wouldDoOtherwise_87 : decode cX5_wouldDoOtherwise 87 = .ok (.iload_n 1, 1) := by decide +kernel
theorem dX5_wouldDoOtherwise_88 : decode cX5_wouldDoOtherwise 88 = .ok (.iload_n 2, 1) := by decide +kernel
theorem dX5_wouldDoOtherwise_89 : decode cX5_wouldDoOtherwise 89 = .ok (.invokevirtual 76, 3) := by decide +kernel
theorem dX5_wouldDoOtherwise_92 : decode cX5_wouldDoOtherwise 92 = .ok (.iload 4, 2) := by decide +kernel
theorem dX5_wouldDoOtherwise_94 : decode cX5_wouldDoOtherwise 94 = .ok (.ireturn, 1) := by decide +kernel
theorem dX6_goBy_0 : decode cX6_goBy 0 = .ok (.iconst 0, 1) := by decide +kernel
theorem dX6_goBy_1 : decode cX6_goBy 1 = .ok (.istore_n 1, 1) := by decide +kernel
theorem dX6_goBy_2 : decode cX6_goBy 2 = .ok (.iload_n 1, 1) := by decide +kernel
theorem dX6_goBy_3 : decode cX6_goBy 3 = .ok (.aload_n 0, 1) := by decide +kernel
theorem dX6_goBy_4 : decode cX6_goBy 4 = .ok (.getfield 9, 3) := by decide +kernel
theorem dX6_goBy_7 : decode cX6_goBy 7 = .ok (.if_icmp .ge 25, 3) := by decide +kernel
theorem dX6_goBy_10 : decode cX6_goBy 10 = .ok (.aload_n 0, 1) := by decide +kernel
theorem dX6_goBy_11 : decode cX6_goBy 11 = .ok (.getfield 15, 3) := by decide +kernel
theorem dX6_goBy_14 : decode cX6_goBy 14 = .ok (.iload_n 1, 1) := by decide +kernel
theorem dX6_goBy_15 : decode cX6_goBy 15 = .ok (.aload_n 0, 1) := by decide +kernel
theorem dX6_goBy_16 : decode cX6_goBy 16 = .ok (.getfield 19, 3) := by decide +kernel
theorem dX6_goBy_19 : decode cX6_goBy 19 = .ok (.aload_n 0, 1) := by decide +kernel
theorem dX6_goBy_20 : decode cX6_goBy 20 = .ok (.iload_n 1, 1) := by decide +kernel
theorem dX6_goBy_21 : decode cX6_goBy 21 = .ok (.invokestatic 22, 3) := by decide +kernel
theorem dX6_goBy_24 : decode cX6_goBy 24 = .ok (.isub, 1) := by decide +kernel
theorem dX6_goBy_25 : decode cX6_goBy 25 = .ok (.iastore, 1) := by decide +kernel
theorem dX6_goBy_26 : decode cX6_goBy 26 = .ok (.iinc 1 1, 3) := by decide +kernel
theorem dX6_goBy_29 : decode cX6_goBy 29 = .ok (.goto (-27), 3) := by decide +kernel
theorem dX6_goBy_32 : decode cX6_goBy 32 = .ok (.iconst 0, 1) := by decide +kernel
theorem dX6_goBy_33 : decode cX6_goBy 33 = .ok (.istore_n 1, 1) := by decide +kernel
theorem dX6_goBy_34 : decode cX6_goBy 34 = .ok (.iload_n 1, 1) := by decide +kernel
theorem dX6_goBy_35 : decode cX6_goBy 35 = .ok (.aload_n 0, 1) := by decide +kernel
theorem dX6_goBy_36 : decode cX6_goBy 36 = .ok (.getfield 9, 3) := by decide +kernel
theorem dX6_goBy_39 : decode cX6_goBy 39 = .ok (.if_icmp .ge 20, 3) := by decide +kernel
theorem dX6_goBy_42 : decode cX6_goBy 42 = .ok (.aload_n 0, 1) := by decide +kernel
theorem dX6_goBy_43 : decode cX6_goBy 43 = .ok (.iload_n 1, 1) := by decide +kernel
theorem dX6_goBy_44 : decode cX6_goBy 44 = .ok (.aload_n 0, 1) := by decide +kernel
theorem dX6_goBy_45 : decode cX6_goBy 45 = .ok (.getfield 15, 3) := by decide +kernel
theorem dX6_goBy_48 : decode cX6_goBy 48 = .ok (.iload_n 1, 1) := by decide +kernel
theorem dX6_goBy_49 : decode cX6_goBy 49 = .ok (.iaload, 1) := by decide +kernel
theorem dX6_goBy_50 : decode cX6_goBy 50 = .ok (.invokevirtual 28, 3) := by decide +kernel
theorem dX6_goBy_53 : decode cX6_goBy 53 = .ok (.iinc 1 1, 3) := by decide +kernel
theorem dX6_goBy_56 : decode cX6_goBy 56 = .ok (.goto (-22), 3) := by decide +kernel
theorem dX6_goBy_59 : decode cX6_goBy 59 = .ok (.aload_n 0, 1) := by decide +kernel
theorem dX6_goBy_60 : decode cX6_goBy 60 = .ok (.dup, 1) := by decide +kernel
theorem dX6_goBy_61 : decode cX6_goBy 61 = .ok (.getfield 32, 3) := by decide +kernel
theorem dX6_goBy_64 : decode cX6_goBy 64 = .ok (.iconst 1, 1) := by decide +kernel
theorem dX6_goBy_65 : decode cX6_goBy 65 = .ok (.iadd, 1) := by decide +kernel
theorem dX6_goBy_66 : decode cX6_goBy 66 = .ok (.putfield 32, 3) := by decide +kernel
theorem dX6_goBy_69 : decode cX6_goBy 69 = .ok (.return_, 1) := by decide +kernel
theorem dX6_teachNext_0 : decode cX6_teachNext 0 = .ok (.aload_n 0, 1) := by decide +kernel
theorem dX6_teachNext_1 : decode cX6_teachNext 1 = .ok (.getfield 35, 3) := by decide +kernel
theorem dX6_teachNext_4 : decode cX6_teachNext 4 = .ok (.iload_n 1, 1) := by decide +kernel
theorem dX6_teachNext_5 : decode cX6_teachNext 5 = .ok (.iaload, 1) := by decide +kernel
theorem dX6_teachNext_6 : decode cX6_teachNext 6 = .ok (.tableswitch 75 0 5 #[38, 40, 45, 52, 69, 75], 38) := by decide +kernel
theorem dX6_teachNext_44 : decode cX6_teachNext 44 = .ok (.iconst 0, 1) := by decide +kernel
theorem dX6_teachNext_45 : decode cX6_teachNext 45 = .ok (.ireturn, 1) := by decide +kernel
theorem dX6_teachNext_46 : decode cX6_teachNext 46 = .ok (.aload_n 0, 1) := by decide +kernel
theorem dX6_teachNext_47 : decode cX6_teachNext 47 = .ok (.getfield 19, 3) := by decide +kernel
theorem dX6_teachNext_50 : decode cX6_teachNext 50 = .ok (.ireturn, 1) := by decide +kernel
theorem dX6_teachNext_51 : decode cX6_teachNext 51 = .ok (.aload_n 0, 1) := by decide +kernel
theorem dX6_teachNext_52 : decode cX6_teachNext 52 = .ok (.getfield 19, 3) := by decide +kernel
theorem dX6_teachNext_55 : decode cX6_teachNext 55 = .ok (.iconst 2, 1) := by decide +kernel
theorem dX6_teachNext_56 : decode cX6_teachNext 56 = .ok (.idiv, 1) := by decide +kernel
theorem dX6_teachNext_57 : decode cX6_teachNext 57 = .ok (.ireturn, 1) := by decide +kernel
theorem dX6_teachNext_58 : decode cX6_teachNext 58 = .ok (.aload_n 0, 1) := by decide +kernel
theorem dX6_teachNext_59 : decode cX6_teachNext 59 = .ok (.iload_n 1, 1) := by decide +kernel
theorem dX6_teachNext_60 : decode cX6_teachNext 60 = .ok (.invokestatic 38, 3) := by decide +kernel
theorem dX6_teachNext_63 : decode cX6_teachNext 63 = .ok (.ifCond .eq 10, 3) := by decide +kernel
theorem dX6_teachNext_66 : decode cX6_teachNext 66 = .ok (.aload_n 0, 1) := by decide +kernel
theorem dX6_teachNext_67 : decode cX6_teachNext 67 = .ok (.getfield 19, 3) := by decide +kernel
theorem dX6_teachNext_70 : decode cX6_teachNext 70 = .ok (.goto 4, 3) := by decide +kernel
theorem dX6_teachNext_73 : decode cX6_teachNext 73 = .ok (.iconst 0, 1) := by decide +kernel
theorem dX6_teachNext_74 : decode cX6_teachNext 74 = .ok (.ireturn, 1) := by decide +kernel
theorem dX6_teachNext_75 : decode cX6_teachNext 75 = .ok (.aload_n 0, 1) := by decide +kernel
theorem dX6_teachNext_76 : decode cX6_teachNext 76 = .ok (.iload_n 1, 1) := by decide +kernel
theorem dX6_teachNext_77 : decode cX6_teachNext 77 = .ok (.invokestatic 42, 3) := by decide +kernel
theorem dX6_teachNext_80 : decode cX6_teachNext 80 = .ok (.ireturn, 1) := by decide +kernel
theorem dX6_teachNext_81 : decode cX6_teachNext 81 = .ok (.aload_n 0, 1) := by decide +kernel
theorem dX6_teachNext_82 : decode cX6_teachNext 82 = .ok (.getfield 45, 3) := by decide +kernel
theorem dX6_teachNext_85 : decode cX6_teachNext 85 = .ok (.iload_n 1, 1) := by decide +kernel
theorem dX6_teachNext_86 : decode cX6_teachNext 86 = .ok (.iaload, 1) := by decide +kernel
theorem dX6_teachNext_87 : decode cX6_teachNext 87 = .ok (.ireturn, 1) := by decide +kernel
theorem dX6_wasTaught_0 : decode cX6_wasTaught 0 = .ok (.aload_n 0, 1) := by decide +kernel
theorem dX6_wasTaught_1 : decode cX6_wasTaught 1 = .ok (.getfield 48, 3) := by decide +kernel
theorem dX6_wasTaught_4 : decode cX6_wasTaught 4 = .ok (.iload_n 1, 1) := by decide +kernel
theorem dX6_wasTaught_5 : decode cX6_wasTaught 5 = .ok (.iaload, 1) := by decide +kernel
theorem dX6_wasTaught_6 : decode cX6_wasTaught 6 = .ok (.istore_n 2, 1) := by decide +kernel
theorem dX6_wasTaught_7 : decode cX6_wasTaught 7 = .ok (.aload_n 0, 1) := by decide +kernel
theorem dX6_wasTaught_8 : decode cX6_wasTaught 8 = .ok (.iload_n 2, 1) := by decide +kernel
theorem dX6_wasTaught_9 : decode cX6_wasTaught 9 = .ok (.invokevirtual 51, 3) := by decide +kernel
theorem dX6_wasTaught_12 : decode cX6_wasTaught 12 = .ok (.ifCond .eq 17, 3) := by decide +kernel
theorem dX6_wasTaught_15 : decode cX6_wasTaught 15 = .ok (.aload_n 0, 1) := by decide +kernel
theorem dX6_wasTaught_16 : decode cX6_wasTaught 16 = .ok (.getfield 45, 3) := by decide +kernel
theorem dX6_wasTaught_19 : decode cX6_wasTaught 19 = .ok (.iload_n 2, 1) := by decide +kernel
theorem dX6_wasTaught_20 : decode cX6_wasTaught 20 = .ok (.iaload, 1) := by decide +kernel
theorem dX6_wasTaught_21 : decode cX6_wasTaught 21 = .ok (.iconst 1, 1) := by decide +kernel
theorem dX6_wasTaught_22 : decode cX6_wasTaught 22 = .ok (.if_icmp .lt 7, 3) := by decide +kernel
theorem dX6_wasTaught_25 : decode cX6_wasTaught 25 = .ok (.iconst 1, 1) := by decide +kernel
theorem dX6_wasTaught_26 : decode cX6_wasTaught 26 = .ok (.goto 4, 3) := by decide +kernel
theorem dX6_wasTaught_29 : decode cX6_wasTaught 29 = .ok (.iconst 0, 1) := by decide +kernel
theorem dX6_wasTaught_30 : decode cX6_wasTaught 30 = .ok (.ireturn, 1) := by decide +kernel
theorem dX6_teachForBestMark_0 : decode cX6_teachForBestMark 0 = .ok (.aload_n 0, 1) := by decide +kernel
theorem dX6_teachForBestMark_1 : decode cX6_teachForBestMark 1 = .ok (.getfield 55, 3) := by decide +kernel
theorem dX6_teachForBestMark_4 : decode cX6_teachForBestMark 4 = .ok (.iload_n 1, 1) := by decide +kernel
theorem dX6_teachForBestMark_5 : decode cX6_teachForBestMark 5 = .ok (.iaload, 1) := by decide +kernel
theorem dX6_teachForBestMark_6 : decode cX6_teachForBestMark 6 = .ok (.istore_n 2, 1) := by decide +kernel
theorem dX6_teachForBestMark_7 : decode cX6_teachForBestMark 7 = .ok (.iconst 0, 1) := by decide +kernel
theorem dX6_teachForBestMark_8 : decode cX6_teachForBestMark 8 = .ok (.istore_n 3, 1) := by decide +kernel
theorem dX6_teachForBestMark_9 : decode cX6_teachForBestMark 9 = .ok (.iconst (-1), 1) := by decide +kernel
theorem dX6_teachForBestMark_10 : decode cX6_teachForBestMark 10 = .ok (.istore 4, 2) := by decide +kernel
theorem dX6_teachForBestMark_12 : decode cX6_teachForBestMark 12 = .ok (.iconst 0, 1) := by decide +kernel
theorem dX6_teachForBestMark_13 : decode cX6_teachForBestMark 13 = .ok (.istore 5, 2) := by decide +kernel
theorem dX6_teachForBestMark_15 : decode cX6_teachForBestMark 15 = .ok (.iload 5, 2) := by decide +kernel
theorem dX6_teachForBestMark_17 : decode cX6_teachForBestMark 17 = .ok (.aload_n 0, 1) := by decide +kernel
theorem dX6_teachForBestMark_18 : decode cX6_teachForBestMark 18 = .ok (.getfield 19, 3) := by decide +kernel
theorem dX6_teachForBestMark_21 : decode cX6_teachForBestMark 21 = .ok (.if_icmp .gt 42, 3) := by decide +kernel
theorem dX6_teachForBestMark_24 : decode cX6_teachForBestMark 24 = .ok (.aload_n 0, 1) := by decide +kernel
theorem dX6_teachForBestMark_25 : decode cX6_teachForBestMark 25 = .ok (.iload_n 1, 1) := by decide +kernel
theorem dX6_teachForBestMark_26 : decode cX6_teachForBestMark 26 = .ok (.aload_n 0, 1) := by decide +kernel
theorem dX6_teachForBestMark_27 : decode cX6_teachForBestMark 27 = .ok (.getfield 19, 3) := by decide +kernel
theorem dX6_teachForBestMark_30 : decode cX6_teachForBestMark 30 = .ok (.iload 5, 2) := by decide +kernel
theorem dX6_teachForBestMark_32 : decode cX6_teachForBestMark 32 = .ok (.isub, 1) := by decide +kernel
theorem dX6_teachForBestMark_33 : decode cX6_teachForBestMark 33 = .ok (.invokevirtual 28, 3) := by decide +kernel
theorem dX6_teachForBestMark_36 : decode cX6_teachForBestMark 36 = .ok (.aload_n 0, 1) := by decide +kernel
theorem dX6_teachForBestMark_37 : decode cX6_teachForBestMark 37 = .ok (.iload_n 1, 1) := by decide +kernel
theorem dX6_teachForBestMark_38 : decode cX6_teachForBestMark 38 = .ok (.invokestatic 58, 3) := by decide +kernel
theorem dX6_teachForBestMark_41 : decode cX6_teachForBestMark 41 = .ok (.istore 6, 2) := by decide +kernel
theorem dX6_teachForBestMark_43 : decode cX6_teachForBestMark 43 = .ok (.iload 6, 2) := by decide +kernel
theorem dX6_teachForBestMark_45 : decode cX6_teachForBestMark 45 = .ok (.iload 4, 2) := by decide +kernel
theorem dX6_teachForBestMark_47 : decode cX6_teachForBestMark 47 = .ok (.if_icmp .le 10, 3) := by decide +kernel
theorem dX6_teachForBestMark_50 : decode cX6_teachForBestMark 50 = .ok (.iload 6, 2) := by decide +kernel
theorem dX6_teachForBestMark_52 : decode cX6_teachForBestMark 52 = .ok (.istore 4, 2) := by decide +kernel
theorem dX6_teachForBestMark_54 : decode cX6_teachForBestMark 54 = .ok (.iload 5, 2) := by decide +kernel
theorem dX6_teachForBestMark_56 : decode cX6_teachForBestMark 56 = .ok (.istore_n 3, 1) := by decide +kernel
theorem dX6_teachForBestMark_57 : decode cX6_teachForBestMark 57 = .ok (.iinc 5 1, 3) := by decide +kernel
theorem dX6_teachForBestMark_60 : decode cX6_teachForBestMark 60 = .ok (.goto (-45), 3) := by decide +kernel
theorem dX6_teachForBestMark_63 : decode cX6_teachForBestMark 63 = .ok (.aload_n 0, 1) := by decide +kernel
theorem dX6_teachForBestMark_64 : decode cX6_teachForBestMark 64 = .ok (.iload_n 1, 1) := by decide +kernel
theorem dX6_teachForBestMark_65 : decode cX6_teachForBestMark 65 = .ok (.iload_n 2, 1) := by decide +kernel
theorem dX6_teachForBestMark_66 : decode cX6_teachForBestMark 66 = .ok (.invokevirtual 28, 3) := by decide +kernel
theorem dX6_teachForBestMark_69 : decode cX6_teachForBestMark 69 = .ok (.iload_n 3, 1) := by decide +kernel
theorem dX6_teachForBestMark_70 : decode cX6_teachForBestMark 70 = .ok (.ireturn, 1) := by decide +kernel
theorem dX7_init_0 : decode cX7_init 0 = .ok (.aload_n 0, 1) := by decide +kernel
theorem dX7_init_1 : decode cX7_init 1 = .ok (.invokespecial 1, 3) := by decide +kernel
theorem dX7_init_4 : decode cX7_init 4 = .ok (.aload_n 0, 1) := by decide +kernel
theorem dX7_init_5 : decode cX7_init 5 = .ok (.new 7, 3) := by decide +kernel
theorem dX7_init_8 : decode cX7_init 8 = .ok (.dup, 1) := by decide +kernel
theorem dX7_init_9 : decode cX7_init 9 = .ok (.invokespecial 9, 3) := by decide +kernel
theorem dX7_init_12 : decode cX7_init 12 = .ok (.putfield 10, 3) := by decide +kernel
theorem dX7_init_15 : decode cX7_init 15 = .ok (.aload_n 0, 1) := by decide +kernel
theorem dX7_init_16 : decode cX7_init 16 = .ok (.new 7, 3) := by decide +kernel
theorem dX7_init_19 : decode cX7_init 19 = .ok (.dup, 1) := by decide +kernel
theorem dX7_init_20 : decode cX7_init 20 = .ok (.invokespecial 9, 3) := by decide +kernel
theorem dX7_init_23 : decode cX7_init 23 = .ok (.putfield 16, 3) := by decide +kernel
theorem dX7_init_26 : decode cX7_init 26 = .ok (.aload_n 0, 1) := by decide +kernel
theorem dX7_init_27 : decode cX7_init 27 = .ok (.new 19, 3) := by decide +kernel
theorem dX7_init_30 : decode cX7_init 30 = .ok (.dup, 1) := by decide +kernel
theorem dX7_init_31 : decode cX7_init 31 = .ok (.bipush 64, 2) := by decide +kernel
theorem dX7_init_33 : decode cX7_init 33 = .ok (.invokespecial 21, 3) := by decide +kernel
theorem dX7_init_36 : decode cX7_init 36 = .ok (.putfield 24, 3) := by decide +kernel
theorem dX7_init_39 : decode cX7_init 39 = .ok (.aload_n 0, 1) := by decide +kernel
theorem dX7_init_40 : decode cX7_init 40 = .ok (.new 19, 3) := by decide +kernel
theorem dX7_init_43 : decode cX7_init 43 = .ok (.dup, 1) := by decide +kernel
theorem dX7_init_44 : decode cX7_init 44 = .ok (.bipush 6, 2) := by decide +kernel
theorem dX7_init_46 : decode cX7_init 46 = .ok (.invokespecial 21, 3) := by decide +kernel
theorem dX7_init_49 : decode cX7_init 49 = .ok (.putfield 28, 3) := by decide +kernel
theorem dX7_init_52 : decode cX7_init 52 = .ok (.aload_n 0, 1) := by decide +kernel
theorem dX7_init_53 : decode cX7_init 53 = .ok (.new 31, 3) := by decide +kernel
theorem dX7_init_56 : decode cX7_init 56 = .ok (.dup, 1) := by decide +kernel
theorem dX7_init_57 : decode cX7_init 57 = .ok (.invokespecial 33, 3) := by decide +kernel
theorem dX7_init_60 : decode cX7_init 60 = .ok (.putfield 34, 3) := by decide +kernel
theorem dX7_init_63 : decode cX7_init 63 = .ok (.aload_n 0, 1) := by decide +kernel
theorem dX7_init_64 : decode cX7_init 64 = .ok (.new 38, 3) := by decide +kernel
theorem dX7_init_67 : decode cX7_init 67 = .ok (.dup, 1) := by decide +kernel
theorem dX7_init_68 : decode cX7_init 68 = .ok (.invokespecial 40, 3) := by decide +kernel
theorem dX7_init_71 : decode cX7_init 71 = .ok (.putfield 41, 3) := by decide +kernel
theorem dX7_init_74 : decode cX7_init 74 = .ok (.aload_n 0, 1) := by decide +kernel
theorem dX7_init_75 : decode cX7_init 75 = .ok (.new 45, 3) := by decide +kernel
theorem dX7_init_78 : decode cX7_init 78 = .ok (.dup, 1) := by decide +kernel
theorem dX7_init_79 : decode cX7_init 79 = .ok (.invokespecial 47, 3) := by decide +kernel
theorem dX7_init_82 : decode cX7_init 82 = .ok (.putfield 48, 3) := by decide +kernel
theorem dX7_init_85 : decode cX7_init 85 = .ok (.aload_n 0, 1) := by decide +kernel
theorem dX7_init_86 : decode cX7_init 86 = .ok (.bipush 7, 2) := by decide +kernel
theorem dX7_init_88 : decode cX7_init 88 = .ok (.newarray .int, 2) := by decide +kernel
theorem dX7_init_90 : decode cX7_init 90 = .ok (.putfield 52, 3) := by decide +kernel
theorem dX7_init_93 : decode cX7_init 93 = .ok (.aload_n 0, 1) := by decide +kernel
theorem dX7_init_94 : decode cX7_init 94 = .ok (.new 7, 3) := by decide +kernel
theorem dX7_init_97 : decode cX7_init 97 = .ok (.dup, 1) := by decide +kernel
theorem dX7_init_98 : decode cX7_init 98 = .ok (.invokespecial 9, 3) := by decide +kernel
theorem dX7_init_101 : decode cX7_init 101 = .ok (.putfield 56, 3) := by decide +kernel
theorem dX7_init_104 : decode cX7_init 104 = .ok (.aload_n 0, 1) := by decide +kernel
theorem dX7_init_105 : decode cX7_init 105 = .ok (.new 19, 3) := by decide +kernel
theorem dX7_init_108 : decode cX7_init 108 = .ok (.dup, 1) := by decide +kernel
theorem dX7_init_109 : decode cX7_init 109 = .ok (.bipush 64, 2) := by decide +kernel
theorem dX7_init_111 : decode cX7_init 111 = .ok (.invokespecial 21, 3) := by decide +kernel
theorem dX7_init_114 : decode cX7_init 114 = .ok (.putfield 59, 3) := by decide +kernel
theorem dX7_init_117 : decode cX7_init 117 = .ok (.aload_n 0, 1) := by decide +kernel
theorem dX7_init_118 : decode cX7_init 118 = .ok (.new 19, 3) := by decide +kernel
theorem dX7_init_121 : decode cX7_init 121 = .ok (.dup, 1) := by decide +kernel
theorem dX7_init_122 : decode cX7_init 122 = .ok (.bipush 6, 2) := by decide +kernel
theorem dX7_init_124 : decode cX7_init 124 = .ok (.invokespecial 21, 3) := by decide +kernel
theorem dX7_init_127 : decode cX7_init 127 = .ok (.putfield 62, 3) := by decide +kernel
theorem dX7_init_130 : decode cX7_init 130 = .ok (.aload_n 0, 1) := by decide +kernel
theorem dX7_init_131 : decode cX7_init 131 = .ok (.iconst 0, 1) := by decide +kernel
theorem dX7_init_132 : decode cX7_init 132 = .ok (.putfield 65, 3) := by decide +kernel
theorem dX7_init_135 : decode cX7_init 135 = .ok (.return_, 1) := by decide +kernel
theorem dX7_letter_0 : decode cX7_letter 0 = .ok (.iload_n 1, 1) := by decide +kernel
theorem dX7_letter_1 : decode cX7_letter 1 = .ok (.ifCond .ge 10, 3) := by decide +kernel
theorem dX7_letter_4 : decode cX7_letter 4 = .ok (.aload_n 0, 1) := by decide +kernel
theorem dX7_letter_5 : decode cX7_letter 5 = .ok (.bipush (-4), 2) := by decide +kernel
theorem dX7_letter_7 : decode cX7_letter 7 = .ok (.invokevirtual 69, 3) := by decide +kernel
theorem dX7_letter_10 : decode cX7_letter 10 = .ok (.ireturn, 1) := by decide +kernel
theorem dX7_letter_11 : decode cX7_letter 11 = .ok (.iload_n 1, 1) := by decide +kernel
theorem dX7_letter_12 : decode cX7_letter 12 = .ok (.sipush 255, 3) := by decide +kernel
theorem dX7_letter_15 : decode cX7_letter 15 = .ok (.if_icmp .gt 13, 3) := by decide +kernel
theorem dX7_letter_18 : decode cX7_letter 18 = .ok (.aload_n 0, 1) := by decide +kernel
theorem dX7_letter_19 : decode cX7_letter 19 = .ok (.getfield 24, 3) := by decide +kernel
theorem dX7_letter_22 : decode cX7_letter 22 = .ok (.invokevirtual 73, 3) := by decide +kernel
theorem dX7_letter_25 : decode cX7_letter 25 = .ok (.ifCond .eq 10, 3) := by decide +kernel
theorem dX7_letter_28 : decode cX7_letter 28 = .ok (.aload_n 0, 1) := by decide +kernel
theorem dX7_letter_29 : decode cX7_letter 29 = .ok (.bipush (-6), 2) := by decide +kernel
theorem dX7_letter_31 : decode cX7_letter 31 = .ok (.invokevirtual 69, 3) := by decide +kernel
theorem dX7_letter_34 : decode cX7_letter 34 = .ok (.ireturn, 1) := by decide +kernel
theorem dX7_letter_35 : decode cX7_letter 35 = .ok (.aload_n 0, 1) := by decide +kernel
theorem dX7_letter_36 : decode cX7_letter 36 = .ok (.getfield 24, 3) := by decide +kernel
theorem dX7_letter_39 : decode cX7_letter 39 = .ok (.iload_n 1, 1) := by decide +kernel
theorem dX7_letter_40 : decode cX7_letter 40 = .ok (.invokevirtual 77, 3) := by decide +kernel
theorem dX7_letter_43 : decode cX7_letter 43 = .ok (.aload_n 0, 1) := by decide +kernel
theorem dX7_letter_44 : decode cX7_letter 44 = .ok (.getfield 24, 3) := by decide +kernel
theorem dX7_letter_47 : decode cX7_letter 47 = .ok (.getfield 80, 3) := by decide +kernel
theorem dX7_letter_50 : decode cX7_letter 50 = .ok (.ireturn, 1) := by decide +kernel
theorem dX7_school_0 : decode cX7_school 0 = .ok (.aload_n 0, 1) := by decide +kernel
theorem dX7_school_1 : decode cX7_school 1 = .ok (.getfield 16, 3) := by decide +kernel
theorem dX7_school_4 : decode cX7_school 4 = .ok (.aload_n 0, 1) := by decide +kernel
theorem dX7_school_5 : decode cX7_school 5 = .ok (.getfield 10, 3) := by decide +kernel
theorem dX7_school_8 : decode cX7_school 8 = .ok (.invokevirtual 84, 3) := by decide +kernel
theorem dX7_school_11 : decode cX7_school 11 = .ok (.aload_n 0, 1) := by decide +kernel
theorem dX7_school_12 : decode cX7_school 12 = .ok (.getfield 34, 3) := by decide +kernel
theorem dX7_school_15 : decode cX7_school 15 = .ok (.aload_n 0, 1) := by decide +kernel
theorem dX7_school_16 : decode cX7_school 16 = .ok (.getfield 24, 3) := by decide +kernel
theorem dX7_school_19 : decode cX7_school 19 = .ok (.aload_n 0, 1) := by decide +kernel
theorem dX7_school_20 : decode cX7_school 20 = .ok (.getfield 16, 3) := by decide +kernel
theorem dX7_school_23 : decode cX7_school 23 = .ok (.invokevirtual 88, 3) := by decide +kernel
theorem dX7_school_26 : decode cX7_school 26 = .ok (.istore_n 1, 1) := by decide +kernel
theorem dX7_school_27 : decode cX7_school 27 = .ok (.iload_n 1, 1) := by decide +kernel
theorem dX7_school_28 : decode cX7_school 28 = .ok (.ifCond .lt 14, 3) := by decide +kernel
theorem dX7_school_31 : decode cX7_school 31 = .ok (.aload_n 0, 1) := by decide +kernel
theorem dX7_school_32 : decode cX7_school 32 = .ok (.getfield 10, 3) := by decide +kernel
theorem dX7_school_35 : decode cX7_school 35 = .ok (.aload_n 0, 1) := by decide +kernel
theorem dX7_school_36 : decode cX7_school 36 = .ok (.getfield 16, 3) := by decide +kernel
theorem dX7_school_39 : decode cX7_school 39 = .ok (.invokevirtual 84, 3) := by decide +kernel
theorem dX7_school_42 : decode cX7_school 42 = .ok (.aload_n 0, 1) := by decide +kernel
theorem dX7_school_43 : decode cX7_school 43 = .ok (.getfield 24, 3) := by decide +kernel
theorem dX7_school_46 : decode cX7_school 46 = .ok (.invokevirtual 92, 3) := by decide +kernel
theorem dX7_school_49 : decode cX7_school 49 = .ok (.iload_n 1, 1) := by decide +kernel
theorem dX7_school_50 : decode cX7_school 50 = .ok (.ireturn, 1) := by decide +kernel
theorem dX7_pupil_0 : decode cX7_pupil 0 = .ok (.aload_n 0, 1) := by decide +kernel
theorem dX7_pupil_1 : decode cX7_pupil 1 = .ok (.getfield 10, 3) := by decide +kernel
theorem dX7_pupil_4 : decode cX7_pupil 4 = .ok (.iload_n 1, 1) := by decide +kernel
theorem dX7_pupil_5 : decode cX7_pupil 5 = .ok (.invokevirtual 95, 3) := by decide +kernel
theorem dX7_pupil_8 : decode cX7_pupil 8 = .ok (.ifCond .ne 9, 3) := by decide +kernel
theorem dX7_pupil_11 : decode cX7_pupil 11 = .ok (.aload_n 0, 1) := by decide +kernel
theorem dX7_pupil_12 : decode cX7_pupil 12 = .ok (.iconst (-1), 1) := by decide +kernel
theorem dX7_pupil_13 : decode cX7_pupil 13 = .ok (.invokevirtual 69, 3) := by decide +kernel
theorem dX7_pupil_16 : decode cX7_pupil 16 = .ok (.ireturn, 1) := by decide +kernel
theorem dX7_pupil_17 : decode cX7_pupil 17 = .ok (.iload_n 2, 1) := by decide +kernel
theorem dX7_pupil_18 : decode cX7_pupil 18 = .ok (.tableswitch 125 0 7 #[46, 56, 66, 76, 86, 96, 106, 115], 46) := by decide +kernel
theorem dX7_pupil_64 : decode cX7_pupil 64 = .ok (.aload_n 0, 1) := by decide +kernel
theorem dX7_pupil_65 : decode cX7_pupil 65 = .ok (.getfield 10, 3) := by decide +kernel
theorem dX7_pupil_68 : decode cX7_pupil 68 = .ok (.getfield 99, 3) := by decide +kernel
theorem dX7_pupil_71 : decode cX7_pupil 71 = .ok (.iload_n 1, 1) := by decide +kernel
theorem dX7_pupil_72 : decode cX7_pupil 72 = .ok (.iaload, 1) := by decide +kernel
theorem dX7_pupil_73 : decode cX7_pupil 73 = .ok (.ireturn, 1) := by decide +kernel
theorem dX7_pupil_74 : decode cX7_pupil 74 = .ok (.aload_n 0, 1) := by decide +kernel
theorem dX7_pupil_75 : decode cX7_pupil 75 = .ok (.getfield 10, 3) := by decide +kernel
theorem dX7_pupil_78 : decode cX7_pupil 78 = .ok (.getfield 102, 3) := by decide +kernel
theorem dX7_pupil_81 : decode cX7_pupil 81 = .ok (.iload_n 1, 1) := by decide +kernel
theorem dX7_pupil_82 : decode cX7_pupil 82 = .ok (.iaload, 1) := by decide +kernel
theorem dX7_pupil_83 : decode cX7_pupil 83 = .ok (.ireturn, 1) := by decide +kernel
theorem dX7_pupil_84 : decode cX7_pupil 84 = .ok (.aload_n 0, 1) := by decide +kernel
theorem dX7_pupil_85 : decode cX7_pupil 85 = .ok (.getfield 10, 3) := by decide +kernel
theorem dX7_pupil_88 : decode cX7_pupil 88 = .ok (.getfield 105, 3) := by decide +kernel
theorem dX7_pupil_91 : decode cX7_pupil 91 = .ok (.iload_n 1, 1) := by decide +kernel
theorem dX7_pupil_92 : decode cX7_pupil 92 = .ok (.iaload, 1) := by decide +kernel
theorem dX7_pupil_93 : decode cX7_pupil 93 = .ok (.ireturn, 1) := by decide +kernel
theorem dX7_pupil_94 : decode cX7_pupil 94 = .ok (.aload_n 0, 1) := by decide +kernel
theorem dX7_pupil_95 : decode cX7_pupil 95 = .ok (.getfield 10, 3) := by decide +kernel
theorem dX7_pupil_98 : decode cX7_pupil 98 = .ok (.getfield 108, 3) := by decide +kernel
theorem dX7_pupil_101 : decode cX7_pupil 101 = .ok (.iload_n 1, 1) := by decide +kernel
theorem dX7_pupil_102 : decode cX7_pupil 102 = .ok (.iaload, 1) := by decide +kernel
theorem dX7_pupil_103 : decode cX7_pupil 103 = .ok (.ireturn, 1) := by decide +kernel
theorem dX7_pupil_104 : decode cX7_pupil 104 = .ok (.aload_n 0, 1) := by decide +kernel
theorem dX7_pupil_105 : decode cX7_pupil 105 = .ok (.getfield 10, 3) := by decide +kernel
theorem dX7_pupil_108 : decode cX7_pupil 108 = .ok (.getfield 111, 3) := by decide +kernel
theorem dX7_pupil_111 : decode cX7_pupil 111 = .ok (.iload_n 1, 1) := by decide +kernel
theorem dX7_pupil_112 : decode cX7_pupil 112 = .ok (.iaload, 1) := by decide +kernel
theorem dX7_pupil_113 : decode cX7_pupil 113 = .ok (.ireturn, 1) := by decide +kernel
theorem dX7_pupil_114 : decode cX7_pupil 114 = .ok (.aload_n 0, 1) := by decide +kernel
theorem dX7_pupil_115 : decode cX7_pupil 115 = .ok (.getfield 10, 3) := by decide +kernel
theorem dX7_pupil_118 : decode cX7_pupil 118 = .ok (.getfield 114, 3) := by decide +kernel
theorem dX7_pupil_121 : decode cX7_pupil 121 = .ok (.iload_n 1, 1) := by decide +kernel
theorem dX7_pupil_122 : decode cX7_pupil 122 = .ok (.iaload, 1) := by decide +kernel
theorem dX7_pupil_123 : decode cX7_pupil 123 = .ok (.ireturn, 1) := by decide +kernel
theorem dX7_pupil_124 : decode cX7_pupil 124 = .ok (.aload_n 0, 1) := by decide +kernel
theorem dX7_pupil_125 : decode cX7_pupil 125 = .ok (.getfield 10, 3) := by decide +kernel
theorem dX7_pupil_128 : decode cX7_pupil 128 = .ok (.iload_n 1, 1) := by decide +kernel
theorem dX7_pupil_129 : decode cX7_pupil 129 = .ok (.invokevirtual 117, 3) := by decide +kernel
theorem dX7_pupil_132 : decode cX7_pupil 132 = .ok (.ireturn, 1) := by decide +kernel
theorem dX7_pupil_133 : decode cX7_pupil 133 = .ok (.aload_n 0, 1) := by decide +kernel
theorem dX7_pupil_134 : decode cX7_pupil 134 = .ok (.getfield 10, 3) := by decide +kernel
theorem dX7_pupil_137 : decode cX7_pupil 137 = .ok (.getfield 120, 3) := by decide +kernel
theorem dX7_pupil_140 : decode cX7_pupil 140 = .ok (.iload_n 1, 1) := by decide +kernel
theorem dX7_pupil_141 : decode cX7_pupil 141 = .ok (.iaload, 1) := by decide +kernel
theorem dX7_pupil_142 : decode cX7_pupil 142 = .ok (.ireturn, 1) := by decide +kernel
theorem dX7_pupil_143 : decode cX7_pupil 143 = .ok (.aload_n 0, 1) := by decide +kernel
theorem dX7_pupil_144 : decode cX7_pupil 144 = .ok (.bipush (-2), 2) := by decide +kernel
theorem dX7_pupil_146 : decode cX7_pupil 146 = .ok (.invokevirtual 69, 3) := by decide +kernel
theorem dX7_pupil_149 : decode cX7_pupil 149 = .ok (.ireturn, 1) := by decide +kernel
theorem dX7_sick_0 : decode cX7_sick 0 = .ok (.aload_n 0, 1) := by decide +kernel
theorem dX7_sick_1 : decode cX7_sick 1 = .ok (.getfield 10, 3) := by decide +kernel
theorem dX7_sick_4 : decode cX7_sick 4 = .ok (.iload_n 1, 1) := by decide +kernel
theorem dX7_sick_5 : decode cX7_sick 5 = .ok (.invokevirtual 95, 3) := by decide +kernel
theorem dX7_sick_8 : decode cX7_sick 8 = .ok (.ifCond .ne 9, 3) := by decide +kernel
theorem dX7_sick_11 : decode cX7_sick 11 = .ok (.aload_n 0, 1) := by decide +kernel
theorem dX7_sick_12 : decode cX7_sick 12 = .ok (.iconst (-1), 1) := by decide +kernel
theorem dX7_sick_13 : decode cX7_sick 13 = .ok (.invokevirtual 69, 3) := by decide +kernel
theorem dX7_sick_16 : decode cX7_sick 16 = .ok (.ireturn, 1) := by decide +kernel
theorem dX7_sick_17 : decode cX7_sick 17 = .ok (.iload_n 2, 1) := by decide +kernel
theorem dX7_sick_18 : decode cX7_sick 18 = .ok (.ifCond .lt 8, 3) := by decide +kernel
theorem dX7_sick_21 : decode cX7_sick 21 = .ok (.iload_n 2, 1) := by decide +kernel
theorem dX7_sick_22 : decode cX7_sick 22 = .ok (.iconst 1, 1) := by decide +kernel
theorem dX7_sick_23 : decode cX7_sick 23 = .ok (.if_icmp .le 10, 3) := by decide +kernel
theorem dX7_sick_26 : decode cX7_sick 26 = .ok (.aload_n 0, 1) := by decide +kernel
theorem dX7_sick_27 : decode cX7_sick 27 = .ok (.bipush (-2), 2) := by decide +kernel
theorem dX7_sick_29 : decode cX7_sick 29 = .ok (.invokevirtual 69, 3) := by decide +kernel
theorem dX7_sick_32 : decode cX7_sick 32 = .ok (.ireturn, 1) := by decide +kernel
theorem dX7_sick_33 : decode cX7_sick 33 = .ok (.aload_n 0, 1) := by decide +kernel
theorem dX7_sick_34 : decode cX7_sick 34 = .ok (.getfield 10, 3) := by decide +kernel
theorem dX7_sick_37 : decode cX7_sick 37 = .ok (.getfield 108, 3) := by decide +kernel
theorem dX7_sick_40 : decode cX7_sick 40 = .ok (.iload_n 1, 1) := by decide +kernel
theorem dX7_sick_41 : decode cX7_sick 41 = .ok (.iaload, 1) := by decide +kernel
theorem dX7_sick_42 : decode cX7_sick 42 = .ok (.istore_n 3, 1) := by decide +kernel
theorem dX7_sick_43 : decode cX7_sick 43 = .ok (.aload_n 0, 1) := by decide +kernel
theorem dX7_sick_44 : decode cX7_sick 44 = .ok (.getfield 10, 3) := by decide +kernel
theorem dX7_sick_47 : decode cX7_sick 47 = .ok (.getfield 108, 3) := by decide +kernel
theorem dX7_sick_50 : decode cX7_sick 50 = .ok (.iload_n 1, 1) := by decide +kernel
theorem dX7_sick_51 : decode cX7_sick 51 = .ok (.iload_n 2, 1) := by decide +kernel
theorem dX7_sick_52 : decode cX7_sick 52 = .ok (.iastore, 1) := by decide +kernel
theorem dX7_sick_53 : decode cX7_sick 53 = .ok (.iload_n 3, 1) := by decide +kernel
theorem dX7_sick_54 : decode cX7_sick 54 = .ok (.ireturn, 1) := by decide +kernel
theorem dX7_learn_0 : decode cX7_learn 0 = .ok (.aload_n 0, 1) := by decide +kernel
theorem dX7_learn_1 : decode cX7_learn 1 = .ok (.getfield 10, 3) := by decide +kernel
theorem dX7_learn_4 : decode cX7_learn 4 = .ok (.iload_n 1, 1) := by decide +kernel
theorem dX7_learn_5 : decode cX7_learn 5 = .ok (.invokevirtual 95, 3) := by decide +kernel
theorem dX7_learn_8 : decode cX7_learn 8 = .ok (.ifCond .ne 9, 3) := by decide +kernel
theorem dX7_learn_11 : decode cX7_learn 11 = .ok (.aload_n 0, 1) := by decide +kernel
theorem dX7_learn_12 : decode cX7_learn 12 = .ok (.iconst (-1), 1) := by decide +kernel
theorem dX7_learn_13 : decode cX7_learn 13 = .ok (.invokevirtual 69, 3) := by decide +kernel
theorem dX7_learn_16 : decode cX7_learn 16 = .ok (.ireturn, 1) := by decide +kernel
