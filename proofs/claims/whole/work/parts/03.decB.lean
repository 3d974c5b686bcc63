theorem dX7_init_0 : decode cX7_init 0 = .ok (.aload_n 0, 1) := by decide +kernel
theorem dX7_init_1 : decode cX7_init 1 = .ok (.invokespecial 3, 3) := by decide +kernel
theorem dX7_init_4 : decode cX7_init 4 = .ok (.aload_n 0, 1) := by decide +kernel
theorem dX7_init_5 : decode cX7_init 5 = .ok (.new 9, 3) := by decide +kernel
theorem dX7_init_8 : decode cX7_init 8 = .ok (.dup, 1) := by decide +kernel
theorem dX7_init_9 : decode cX7_init 9 = .ok (.invokespecial 11, 3) := by decide +kernel
theorem dX7_init_12 : decode cX7_init 12 = .ok (.putfield 12, 3) := by decide +kernel
theorem dX7_init_15 : decode cX7_init 15 = .ok (.aload_n 0, 1) := by decide +kernel
theorem dX7_init_16 : decode cX7_init 16 = .ok (.new 16, 3) := by decide +kernel
theorem dX7_init_19 : decode cX7_init 19 = .ok (.dup, 1) := by decide +kernel
theorem dX7_init_20 : decode cX7_init 20 = .ok (.invokespecial 18, 3) := by decide +kernel
theorem dX7_init_23 : decode cX7_init 23 = .ok (.putfield 19, 3) := by decide +kernel
theorem dX7_init_26 : decode cX7_init 26 = .ok (.aload_n 0, 1) := by decide +kernel
theorem dX7_init_27 : decode cX7_init 27 = .ok (.new 23, 3) := by decide +kernel
theorem dX7_init_30 : decode cX7_init 30 = .ok (.dup, 1) := by decide +kernel
theorem dX7_init_31 : decode cX7_init 31 = .ok (.invokespecial 25, 3) := by decide +kernel
theorem dX7_init_34 : decode cX7_init 34 = .ok (.putfield 26, 3) := by decide +kernel
theorem dX7_init_37 : decode cX7_init 37 = .ok (.aload_n 0, 1) := by decide +kernel
theorem dX7_init_38 : decode cX7_init 38 = .ok (.new 30, 3) := by decide +kernel
theorem dX7_init_41 : decode cX7_init 41 = .ok (.dup, 1) := by decide +kernel
theorem dX7_init_42 : decode cX7_init 42 = .ok (.aload_n 0, 1) := by decide +kernel
theorem dX7_init_43 : decode cX7_init 43 = .ok (.getfield 19, 3) := by decide +kernel
theorem dX7_init_46 : decode cX7_init 46 = .ok (.aload_n 0, 1) := by decide +kernel
theorem dX7_init_47 : decode cX7_init 47 = .ok (.getfield 26, 3) := by decide +kernel
theorem dX7_init_50 : decode cX7_init 50 = .ok (.invokespecial 32, 3) := by decide +kernel
theorem dX7_init_53 : decode cX7_init 53 = .ok (.putfield 35, 3) := by decide +kernel
theorem dX7_init_56 : decode cX7_init 56 = .ok (.aload_n 0, 1) := by decide +kernel
theorem dX7_init_57 : decode cX7_init 57 = .ok (.new 39, 3) := by decide +kernel
theorem dX7_init_60 : decode cX7_init 60 = .ok (.dup, 1) := by decide +kernel
theorem dX7_init_61 : decode cX7_init 61 = .ok (.invokespecial 41, 3) := by decide +kernel
theorem dX7_init_64 : decode cX7_init 64 = .ok (.putfield 42, 3) := by decide +kernel
theorem dX7_init_67 : decode cX7_init 67 = .ok (.aload_n 0, 1) := by decide +kernel
theorem dX7_init_68 : decode cX7_init 68 = .ok (.new 46, 3) := by decide +kernel
theorem dX7_init_71 : decode cX7_init 71 = .ok (.dup, 1) := by decide +kernel
theorem dX7_init_72 : decode cX7_init 72 = .ok (.invokespecial 48, 3) := by decide +kernel
theorem dX7_init_75 : decode cX7_init 75 = .ok (.putfield 49, 3) := by decide +kernel
theorem dX7_init_78 : decode cX7_init 78 = .ok (.aload_n 0, 1) := by decide +kernel
theorem dX7_init_79 : decode cX7_init 79 = .ok (.iconst 0, 1) := by decide +kernel
theorem dX7_init_80 : decode cX7_init 80 = .ok (.putfield 53, 3) := by decide +kernel
theorem dX7_init_83 : decode cX7_init 83 = .ok (.return_, 1) := by decide +kernel
theorem dX7_feed_0 : decode cX7_feed 0 = .ok (.aload_n 0, 1) := by decide +kernel
theorem dX7_feed_1 : decode cX7_feed 1 = .ok (.getfield 12, 3) := by decide +kernel
theorem dX7_feed_4 : decode cX7_feed 4 = .ok (.invokevirtual 57, 3) := by decide +kernel
theorem dX7_feed_7 : decode cX7_feed 7 = .ok (.bipush 20, 2) := by decide +kernel
theorem dX7_feed_9 : decode cX7_feed 9 = .ok (.iadd, 1) := by decide +kernel
theorem dX7_feed_10 : decode cX7_feed 10 = .ok (.sipush 200, 3) := by decide +kernel
theorem dX7_feed_13 : decode cX7_feed 13 = .ok (.if_icmp .le 5, 3) := by decide +kernel
theorem dX7_feed_16 : decode cX7_feed 16 = .ok (.iconst (-1), 1) := by decide +kernel
theorem dX7_feed_17 : decode cX7_feed 17 = .ok (.ireturn, 1) := by decide +kernel
theorem dX7_feed_18 : decode cX7_feed 18 = .ok (.aload_n 0, 1) := by decide +kernel
theorem dX7_feed_19 : decode cX7_feed 19 = .ok (.getfield 12, 3) := by decide +kernel
theorem dX7_feed_22 : decode cX7_feed 22 = .ok (.iload_n 1, 1) := by decide +kernel
theorem dX7_feed_23 : decode cX7_feed 23 = .ok (.invokevirtual 61, 3) := by decide +kernel
theorem dX7_feed_26 : decode cX7_feed 26 = .ok (.aload_n 0, 1) := by decide +kernel
theorem dX7_feed_27 : decode cX7_feed 27 = .ok (.getfield 12, 3) := by decide +kernel
theorem dX7_feed_30 : decode cX7_feed 30 = .ok (.iload_n 2, 1) := by decide +kernel
theorem dX7_feed_31 : decode cX7_feed 31 = .ok (.invokevirtual 61, 3) := by decide +kernel
theorem dX7_feed_34 : decode cX7_feed 34 = .ok (.aload_n 0, 1) := by decide +kernel
theorem dX7_feed_35 : decode cX7_feed 35 = .ok (.getfield 12, 3) := by decide +kernel
theorem dX7_feed_38 : decode cX7_feed 38 = .ok (.iload_n 3, 1) := by decide +kernel
theorem dX7_feed_39 : decode cX7_feed 39 = .ok (.invokevirtual 61, 3) := by decide +kernel
theorem dX7_feed_42 : decode cX7_feed 42 = .ok (.aload_n 0, 1) := by decide +kernel
theorem dX7_feed_43 : decode cX7_feed 43 = .ok (.getfield 12, 3) := by decide +kernel
theorem dX7_feed_46 : decode cX7_feed 46 = .ok (.iload 4, 2) := by decide +kernel
theorem dX7_feed_48 : decode cX7_feed 48 = .ok (.invokevirtual 61, 3) := by decide +kernel
theorem dX7_feed_51 : decode cX7_feed 51 = .ok (.aload_n 0, 1) := by decide +kernel
theorem dX7_feed_52 : decode cX7_feed 52 = .ok (.getfield 12, 3) := by decide +kernel
theorem dX7_feed_55 : decode cX7_feed 55 = .ok (.iload 5, 2) := by decide +kernel
theorem dX7_feed_57 : decode cX7_feed 57 = .ok (.invokevirtual 61, 3) := by decide +kernel
theorem dX7_feed_60 : decode cX7_feed 60 = .ok (.aload_n 0, 1) := by decide +kernel
theorem dX7_feed_61 : decode cX7_feed 61 = .ok (.getfield 12, 3) := by decide +kernel
theorem dX7_feed_64 : decode cX7_feed 64 = .ok (.invokevirtual 57, 3) := by decide +kernel
theorem dX7_feed_67 : decode cX7_feed 67 = .ok (.ireturn, 1) := by decide +kernel
theorem dX7_end_0 : decode cX7_end 0 = .ok (.aload_n 0, 1) := by decide +kernel
theorem dX7_end_1 : decode cX7_end 1 = .ok (.getfield 12, 3) := by decide +kernel
theorem dX7_end_4 : decode cX7_end 4 = .ok (.iload_n 1, 1) := by decide +kernel
theorem dX7_end_5 : decode cX7_end 5 = .ok (.invokevirtual 65, 3) := by decide +kernel
theorem dX7_end_8 : decode cX7_end 8 = .ok (.ireturn, 1) := by decide +kernel
theorem dX7_road_0 : decode cX7_road 0 = .ok (.iload_n 1, 1) := by decide +kernel
theorem dX7_road_1 : decode cX7_road 1 = .ok (.bipush 16, 2) := by decide +kernel
theorem dX7_road_3 : decode cX7_road 3 = .ok (.invokestatic 69, 3) := by decide +kernel
theorem dX7_road_6 : decode cX7_road 6 = .ok (.ifCond .eq 14, 3) := by decide +kernel
theorem dX7_road_9 : decode cX7_road 9 = .ok (.aload_n 0, 1) := by decide +kernel
theorem dX7_road_10 : decode cX7_road 10 = .ok (.getfield 19, 3) := by decide +kernel
theorem dX7_road_13 : decode cX7_road 13 = .ok (.iload_n 1, 1) := by decide +kernel
theorem dX7_road_14 : decode cX7_road 14 = .ok (.invokevirtual 73, 3) := by decide +kernel
theorem dX7_road_17 : decode cX7_road 17 = .ok (.ifCond .eq 5, 3) := by decide +kernel
theorem dX7_road_20 : decode cX7_road 20 = .ok (.iconst 0, 1) := by decide +kernel
theorem dX7_road_21 : decode cX7_road 21 = .ok (.ireturn, 1) := by decide +kernel
theorem dX7_road_22 : decode cX7_road 22 = .ok (.iload_n 2, 1) := by decide +kernel
theorem dX7_road_23 : decode cX7_road 23 = .ok (.bipush 8, 2) := by decide +kernel
theorem dX7_road_25 : decode cX7_road 25 = .ok (.invokestatic 69, 3) := by decide +kernel
theorem dX7_road_28 : decode cX7_road 28 = .ok (.ifCond .eq 17, 3) := by decide +kernel
theorem dX7_road_31 : decode cX7_road 31 = .ok (.iload_n 3, 1) := by decide +kernel
theorem dX7_road_32 : decode cX7_road 32 = .ok (.bipush 8, 2) := by decide +kernel
theorem dX7_road_34 : decode cX7_road 34 = .ok (.invokestatic 69, 3) := by decide +kernel
theorem dX7_road_37 : decode cX7_road 37 = .ok (.ifCond .eq 8, 3) := by decide +kernel
theorem dX7_road_40 : decode cX7_road 40 = .ok (.iload_n 2, 1) := by decide +kernel
theorem dX7_road_41 : decode cX7_road 41 = .ok (.iload_n 3, 1) := by decide +kernel
theorem dX7_road_42 : decode cX7_road 42 = .ok (.if_icmp .ne 5, 3) := by decide +kernel
theorem dX7_road_45 : decode cX7_road 45 = .ok (.iconst 0, 1) := by decide +kernel
theorem dX7_road_46 : decode cX7_road 46 = .ok (.ireturn, 1) := by decide +kernel
theorem dX7_road_47 : decode cX7_road 47 = .ok (.iload 4, 2) := by decide +kernel
theorem dX7_road_49 : decode cX7_road 49 = .ok (.iconst (-1), 1) := by decide +kernel
theorem dX7_road_50 : decode cX7_road 50 = .ok (.if_icmp .eq 14, 3) := by decide +kernel
theorem dX7_road_53 : decode cX7_road 53 = .ok (.iload 4, 2) := by decide +kernel
theorem dX7_road_55 : decode cX7_road 55 = .ok (.iconst 4, 1) := by decide +kernel
theorem dX7_road_56 : decode cX7_road 56 = .ok (.invokestatic 69, 3) := by decide +kernel
theorem dX7_road_59 : decode cX7_road 59 = .ok (.ifCond .ne 5, 3) := by decide +kernel
theorem dX7_road_62 : decode cX7_road 62 = .ok (.iconst 0, 1) := by decide +kernel
theorem dX7_road_63 : decode cX7_road 63 = .ok (.ireturn, 1) := by decide +kernel
theorem dX7_road_64 : decode cX7_road 64 = .ok (.aload_n 0, 1) := by decide +kernel
theorem dX7_road_65 : decode cX7_road 65 = .ok (.getfield 19, 3) := by decide +kernel
theorem dX7_road_68 : decode cX7_road 68 = .ok (.iload_n 1, 1) := by decide +kernel
theorem dX7_road_69 : decode cX7_road 69 = .ok (.iload_n 2, 1) := by decide +kernel
theorem dX7_road_70 : decode cX7_road 70 = .ok (.iload_n 3, 1) := by decide +kernel
theorem dX7_road_71 : decode cX7_road 71 = .ok (.iload 4, 2) := by decide +kernel
theorem dX7_road_73 : decode cX7_road 73 = .ok (.invokevirtual 76, 3) := by decide +kernel
theorem dX7_road_76 : decode cX7_road 76 = .ok (.aload_n 0, 1) := by decide +kernel
theorem dX7_road_77 : decode cX7_road 77 = .ok (.getfield 35, 3) := by decide +kernel
theorem dX7_road_80 : decode cX7_road 80 = .ok (.invokevirtual 80, 3) := by decide +kernel
theorem dX7_road_83 : decode cX7_road 83 = .ok (.iconst 1, 1) := by decide +kernel
theorem dX7_road_84 : decode cX7_road 84 = .ok (.ireturn, 1) := by decide +kernel
theorem dX7_count_0 : decode cX7_count 0 = .ok (.aload_n 0, 1) := by decide +kernel
theorem dX7_count_1 : decode cX7_count 1 = .ok (.iload_n 1, 1) := by decide +kernel
theorem dX7_count_2 : decode cX7_count 2 = .ok (.iload_n 2, 1) := by decide +kernel
theorem dX7_count_3 : decode cX7_count 3 = .ok (.invokevirtual 83, 3) := by decide +kernel
theorem dX7_count_6 : decode cX7_count 6 = .ok (.istore_n 3, 1) := by decide +kernel
theorem dX7_count_7 : decode cX7_count 7 = .ok (.aload_n 0, 1) := by decide +kernel
theorem dX7_count_8 : decode cX7_count 8 = .ok (.getfield 12, 3) := by decide +kernel
theorem dX7_count_11 : decode cX7_count 11 = .ok (.iconst 0, 1) := by decide +kernel
theorem dX7_count_12 : decode cX7_count 12 = .ok (.invokevirtual 65, 3) := by decide +kernel
theorem dX7_count_15 : decode cX7_count 15 = .ok (.pop, 1) := by decide +kernel
theorem dX7_count_16 : decode cX7_count 16 = .ok (.aload_n 0, 1) := by decide +kernel
theorem dX7_count_17 : decode cX7_count 17 = .ok (.getfield 35, 3) := by decide +kernel
theorem dX7_count_20 : decode cX7_count 20 = .ok (.invokevirtual 80, 3) := by decide +kernel
theorem dX7_count_23 : decode cX7_count 23 = .ok (.iload_n 3, 1) := by decide +kernel
theorem dX7_count_24 : decode cX7_count 24 = .ok (.ireturn, 1) := by decide +kernel
theorem dX7_counts_0 : decode cX7_counts 0 = .ok (.aload_n 0, 1) := by decide +kernel
theorem dX7_counts_1 : decode cX7_counts 1 = .ok (.iload_n 1, 1) := by decide +kernel
theorem dX7_counts_2 : decode cX7_counts 2 = .ok (.iload_n 2, 1) := by decide +kernel
theorem dX7_counts_3 : decode cX7_counts 3 = .ok (.invokevirtual 87, 3) := by decide +kernel
theorem dX7_counts_6 : decode cX7_counts 6 = .ok (.istore_n 3, 1) := by decide +kernel
theorem dX7_counts_7 : decode cX7_counts 7 = .ok (.aload_n 0, 1) := by decide +kernel
theorem dX7_counts_8 : decode cX7_counts 8 = .ok (.getfield 12, 3) := by decide +kernel
theorem dX7_counts_11 : decode cX7_counts 11 = .ok (.iconst 0, 1) := by decide +kernel
theorem dX7_counts_12 : decode cX7_counts 12 = .ok (.invokevirtual 65, 3) := by decide +kernel
theorem dX7_counts_15 : decode cX7_counts 15 = .ok (.pop, 1) := by decide +kernel
theorem dX7_counts_16 : decode cX7_counts 16 = .ok (.aload_n 0, 1) := by decide +kernel
theorem dX7_counts_17 : decode cX7_counts 17 = .ok (.getfield 35, 3) := by decide +kernel
theorem dX7_counts_20 : decode cX7_counts 20 = .ok (.invokevirtual 80, 3) := by decide +kernel
theorem dX7_counts_23 : decode cX7_counts 23 = .ok (.iload_n 3, 1) := by decide +kernel
theorem dX7_counts_24 : decode cX7_counts 24 = .ok (.ireturn, 1) := by decide +kernel
theorem dX7_later_0 : decode cX7_later 0 = .ok (.aload_n 0, 1) := by decide +kernel
theorem dX7_later_1 : decode cX7_later 1 = .ok (.getfield 53, 3) := by decide +kernel
theorem dX7_later_4 : decode cX7_later 4 = .ok (.bipush 99, 2) := by decide +kernel
theorem dX7_later_6 : decode cX7_later 6 = .ok (.if_icmp .lt 5, 3) := by decide +kernel
theorem dX7_later_9 : decode cX7_later 9 = .ok (.iconst (-1), 1) := by decide +kernel
theorem dX7_later_10 : decode cX7_later 10 = .ok (.ireturn, 1) := by decide +kernel
theorem dX7_later_11 : decode cX7_later 11 = .ok (.aload_n 0, 1) := by decide +kernel
theorem dX7_later_12 : decode cX7_later 12 = .ok (.dup, 1) := by decide +kernel
theorem dX7_later_13 : decode cX7_later 13 = .ok (.getfield 53, 3) := by decide +kernel
theorem dX7_later_16 : decode cX7_later 16 = .ok (.iconst 1, 1) := by decide +kernel
theorem dX7_later_17 : decode cX7_later 17 = .ok (.iadd, 1) := by decide +kernel
theorem dX7_later_18 : decode cX7_later 18 = .ok (.putfield 53, 3) := by decide +kernel
theorem dX7_later_21 : decode cX7_later 21 = .ok (.aload_n 0, 1) := by decide +kernel
theorem dX7_later_22 : decode cX7_later 22 = .ok (.getfield 53, 3) := by decide +kernel
theorem dX7_later_25 : decode cX7_later 25 = .ok (.ireturn, 1) := by decide +kernel
theorem dX7_works_0 : decode cX7_works 0 = .ok (.aload_n 0, 1) := by decide +kernel
theorem dX7_works_1 : decode cX7_works 1 = .ok (.getfield 19, 3) := by decide +kernel
theorem dX7_works_4 : decode cX7_works 4 = .ok (.iload_n 1, 1) := by decide +kernel
theorem dX7_works_5 : decode cX7_works 5 = .ok (.invokevirtual 73, 3) := by decide +kernel
theorem dX7_works_8 : decode cX7_works 8 = .ok (.ifCond .eq 18, 3) := by decide +kernel
theorem dX7_works_11 : decode cX7_works 11 = .ok (.iload_n 2, 1) := by decide +kernel
theorem dX7_works_12 : decode cX7_works 12 = .ok (.ifCond .lt 14, 3) := by decide +kernel
theorem dX7_works_15 : decode cX7_works 15 = .ok (.iload_n 2, 1) := by decide +kernel
theorem dX7_works_16 : decode cX7_works 16 = .ok (.iload_n 3, 1) := by decide +kernel
theorem dX7_works_17 : decode cX7_works 17 = .ok (.if_icmp .gt 9, 3) := by decide +kernel
theorem dX7_works_20 : decode cX7_works 20 = .ok (.iload_n 3, 1) := by decide +kernel
theorem dX7_works_21 : decode cX7_works 21 = .ok (.bipush 84, 2) := by decide +kernel
theorem dX7_works_23 : decode cX7_works 23 = .ok (.if_icmp .le 5, 3) := by decide +kernel
theorem dX7_works_26 : decode cX7_works 26 = .ok (.iconst (-1), 1) := by decide +kernel
theorem dX7_works_27 : decode cX7_works 27 = .ok (.ireturn, 1) := by decide +kernel
theorem dX7_works_28 : decode cX7_works 28 = .ok (.iconst 0, 1) := by decide +kernel
theorem dX7_works_29 : decode cX7_works 29 = .ok (.istore 5, 2) := by decide +kernel
theorem dX7_works_31 : decode cX7_works 31 = .ok (.iload_n 2, 1) := by decide +kernel
theorem dX7_works_32 : decode cX7_works 32 = .ok (.istore 6, 2) := by decide +kernel
theorem dX7_works_34 : decode cX7_works 34 = .ok (.iload 6, 2) := by decide +kernel
theorem dX7_works_36 : decode cX7_works 36 = .ok (.iload_n 3, 1) := by decide +kernel
theorem dX7_works_37 : decode cX7_works 37 = .ok (.if_icmp .ge 31, 3) := by decide +kernel
theorem dX7_works_40 : decode cX7_works 40 = .ok (.aload_n 0, 1) := by decide +kernel
theorem dX7_works_41 : decode cX7_works 41 = .ok (.getfield 26, 3) := by decide +kernel
theorem dX7_works_44 : decode cX7_works 44 = .ok (.iload_n 1, 1) := by decide +kernel
theorem dX7_works_45 : decode cX7_works 45 = .ok (.bipush 84, 2) := by decide +kernel
theorem dX7_works_47 : decode cX7_works 47 = .ok (.imul, 1) := by decide +kernel
theorem dX7_works_48 : decode cX7_works 48 = .ok (.iload 6, 2) := by decide +kernel
theorem dX7_works_50 : decode cX7_works 50 = .ok (.iadd, 1) := by decide +kernel
theorem dX7_works_51 : decode cX7_works 51 = .ok (.iload 4, 2) := by decide +kernel
theorem dX7_works_53 : decode cX7_works 53 = .ok (.invokevirtual 90, 3) := by decide +kernel
theorem dX7_works_56 : decode cX7_works 56 = .ok (.ifCond .eq 6, 3) := by decide +kernel
theorem dX7_works_59 : decode cX7_works 59 = .ok (.iinc 5 1, 3) := by decide +kernel
theorem dX7_works_62 : decode cX7_works 62 = .ok (.iinc 6 1, 3) := by decide +kernel
theorem dX7_works_65 : decode cX7_works 65 = .ok (.goto (-31), 3) := by decide +kernel
theorem dX7_works_68 : decode cX7_works 68 = .ok (.aload_n 0, 1) := by decide +kernel
theorem dX7_works_69 : decode cX7_works 69 = .ok (.getfield 35, 3) := by decide +kernel
theorem dX7_works_72 : decode cX7_works 72 = .ok (.invokevirtual 80, 3) := by decide +kernel
theorem dX7_works_75 : decode cX7_works 75 = .ok (.iload 5, 2) := by decide +kernel
theorem dX7_works_77 : decode cX7_works 77 = .ok (.ireturn, 1) := by decide +kernel
theorem dX7_seen_0 : decode cX7_seen 0 = .ok (.aload_n 0, 1) := by decide +kernel
theorem dX7_seen_1 : decode cX7_seen 1 = .ok (.iload_n 1, 1) := by decide +kernel
theorem dX7_seen_2 : decode cX7_seen 2 = .ok (.iload_n 3, 1) := by decide +kernel
theorem dX7_seen_3 : decode cX7_seen 3 = .ok (.invokevirtual 94, 3) := by decide +kernel
theorem dX7_seen_6 : decode cX7_seen 6 = .ok (.ifCond .eq 12, 3) := by decide +kernel
theorem dX7_seen_9 : decode cX7_seen 9 = .ok (.iload_n 2, 1) := by decide +kernel
theorem dX7_seen_10 : decode cX7_seen 10 = .ok (.bipush 84, 2) := by decide +kernel
theorem dX7_seen_12 : decode cX7_seen 12 = .ok (.invokestatic 69, 3) := by decide +kernel
theorem dX7_seen_15 : decode cX7_seen 15 = .ok (.ifCond .ne 6, 3) := by decide +kernel
theorem dX7_seen_18 : decode cX7_seen 18 = .ok (.bipush (-4), 2) := by decide +kernel
theorem dX7_seen_20 : decode cX7_seen 20 = .ok (.ireturn, 1) := by decide +kernel
theorem dX7_seen_21 : decode cX7_seen 21 = .ok (.aload_n 0, 1) := by decide +kernel
theorem dX7_seen_22 : decode cX7_seen 22 = .ok (.getfield 26, 3) := by decide +kernel
theorem dX7_seen_25 : decode cX7_seen 25 = .ok (.iload_n 1, 1) := by decide +kernel
theorem dX7_seen_26 : decode cX7_seen 26 = .ok (.bipush 84, 2) := by decide +kernel
theorem dX7_seen_28 : decode cX7_seen 28 = .ok (.imul, 1) := by decide +kernel
theorem dX7_seen_29 : decode cX7_seen 29 = .ok (.iload_n 2, 1) := by decide +kernel
theorem dX7_seen_30 : decode cX7_seen 30 = .ok (.iadd, 1) := by decide +kernel
theorem dX7_seen_31 : decode cX7_seen 31 = .ok (.iload_n 3, 1) := by decide +kernel
theorem dX7_seen_32 : decode cX7_seen 32 = .ok (.invokevirtual 97, 3) := by decide +kernel
theorem dX7_seen_35 : decode cX7_seen 35 = .ok (.ireturn, 1) := by decide +kernel
theorem dX7_kind_0 : decode cX7_kind 0 = .ok (.aload_n 0, 1) := by decide +kernel
theorem dX7_kind_1 : decode cX7_kind 1 = .ok (.iload_n 1, 1) := by decide +kernel
theorem dX7_kind_2 : decode cX7_kind 2 = .ok (.iload_n 3, 1) := by decide +kernel
theorem dX7_kind_3 : decode cX7_kind 3 = .ok (.invokevirtual 94, 3) := by decide +kernel
theorem dX7_kind_6 : decode cX7_kind 6 = .ok (.ifCond .eq 21, 3) := by decide +kernel
theorem dX7_kind_9 : decode cX7_kind 9 = .ok (.iload_n 2, 1) := by decide +kernel
theorem dX7_kind_10 : decode cX7_kind 10 = .ok (.bipush 84, 2) := by decide +kernel
theorem dX7_kind_12 : decode cX7_kind 12 = .ok (.invokestatic 69, 3) := by decide +kernel
theorem dX7_kind_15 : decode cX7_kind 15 = .ok (.ifCond .eq 12, 3) := by decide +kernel
theorem dX7_kind_18 : decode cX7_kind 18 = .ok (.iload 4, 2) := by decide +kernel
theorem dX7_kind_20 : decode cX7_kind 20 = .ok (.iconst 3, 1) := by decide +kernel
theorem dX7_kind_21 : decode cX7_kind 21 = .ok (.invokestatic 69, 3) := by decide +kernel
theorem dX7_kind_24 : decode cX7_kind 24 = .ok (.ifCond .ne 5, 3) := by decide +kernel
theorem dX7_kind_27 : decode cX7_kind 27 = .ok (.iconst (-1), 1) := by decide +kernel
theorem dX7_kind_28 : decode cX7_kind 28 = .ok (.ireturn, 1) := by decide +kernel
theorem dX7_kind_29 : decode cX7_kind 29 = .ok (.iload_n 1, 1) := by decide +kernel
theorem dX7_kind_30 : decode cX7_kind 30 = .ok (.bipush 84, 2) := by decide +kernel
theorem dX7_kind_32 : decode cX7_kind 32 = .ok (.imul, 1) := by decide +kernel
theorem dX7_kind_33 : decode cX7_kind 33 = .ok (.iload_n 2, 1) := by decide +kernel
theorem dX7_kind_34 : decode cX7_kind 34 = .ok (.iadd, 1) := by decide +kernel
theorem dX7_kind_35 : decode cX7_kind 35 = .ok (.istore 5, 2) := by decide +kernel
theorem dX7_kind_37 : decode cX7_kind 37 = .ok (.aload_n 0, 1) := by decide +kernel
theorem dX7_kind_38 : decode cX7_kind 38 = .ok (.getfield 26, 3) := by decide +kernel
theorem dX7_kind_41 : decode cX7_kind 41 = .ok (.iload 5, 2) := by decide +kernel
theorem dX7_kind_43 : decode cX7_kind 43 = .ok (.iload_n 3, 1) := by decide +kernel
theorem dX7_kind_44 : decode cX7_kind 44 = .ok (.invokevirtual 97, 3) := by decide +kernel
theorem dX7_kind_47 : decode cX7_kind 47 = .ok (.ifCond .ge 7, 3) := by decide +kernel
theorem dX7_kind_50 : decode cX7_kind 50 = .ok (.iconst (-1), 1) := by decide +kernel
theorem dX7_kind_51 : decode cX7_kind 51 = .ok (.goto 15, 3) := by decide +kernel
theorem dX7_kind_54 : decode cX7_kind 54 = .ok (.aload_n 0, 1) := by decide +kernel
theorem dX7_kind_55 : decode cX7_kind 55 = .ok (.getfield 26, 3) := by decide +kernel
theorem dX7_kind_58 : decode cX7_kind 58 = .ok (.iload 5, 2) := by decide +kernel
theorem dX7_kind_60 : decode cX7_kind 60 = .ok (.iload_n 3, 1) := by decide +kernel
theorem dX7_kind_61 : decode cX7_kind 61 = .ok (.iload 4, 2) := by decide +kernel
theorem dX7_kind_63 : decode cX7_kind 63 = .ok (.invokevirtual 100, 3) := by decide +kernel
theorem dX7_kind_66 : decode cX7_kind 66 = .ok (.ireturn, 1) := by decide +kernel
theorem dX7_whole_0 : decode cX7_whole 0 = .ok (.aload_n 0, 1) := by decide +kernel
theorem dX7_whole_1 : decode cX7_whole 1 = .ok (.iload_n 1, 1) := by decide +kernel
theorem dX7_whole_2 : decode cX7_whole 2 = .ok (.iload_n 2, 1) := by decide +kernel
theorem dX7_whole_3 : decode cX7_whole 3 = .ok (.invokevirtual 94, 3) := by decide +kernel
theorem dX7_whole_6 : decode cX7_whole 6 = .ok (.ifCond .ne 5, 3) := by decide +kernel
theorem dX7_whole_9 : decode cX7_whole 9 = .ok (.iconst (-1), 1) := by decide +kernel
theorem dX7_whole_10 : decode cX7_whole 10 = .ok (.ireturn, 1) := by decide +kernel
theorem dX7_whole_11 : decode cX7_whole 11 = .ok (.aload_n 0, 1) := by decide +kernel
theorem dX7_whole_12 : decode cX7_whole 12 = .ok (.getfield 35, 3) := by decide +kernel
theorem dX7_whole_15 : decode cX7_whole 15 = .ok (.iload_n 2, 1) := by decide +kernel
theorem dX7_whole_16 : decode cX7_whole 16 = .ok (.invokevirtual 104, 3) := by decide +kernel
theorem dX7_whole_19 : decode cX7_whole 19 = .ok (.aload_n 0, 1) := by decide +kernel
theorem dX7_whole_20 : decode cX7_whole 20 = .ok (.getfield 35, 3) := by decide +kernel
theorem dX7_whole_23 : decode cX7_whole 23 = .ok (.iload_n 1, 1) := by decide +kernel
theorem dX7_whole_24 : decode cX7_whole 24 = .ok (.invokevirtual 107, 3) := by decide +kernel
theorem dX7_whole_27 : decode cX7_whole 27 = .ok (.ifCond .eq 7, 3) := by decide +kernel
theorem dX7_whole_30 : decode cX7_whole 30 = .ok (.iconst 1, 1) := by decide +kernel
theorem dX7_whole_31 : decode cX7_whole 31 = .ok (.goto 4, 3) := by decide +kernel
theorem dX7_whole_34 : decode cX7_whole 34 = .ok (.iconst 0, 1) := by decide +kernel
theorem dX7_whole_35 : decode cX7_whole 35 = .ok (.ireturn, 1) := by decide +kernel
theorem dX7_posts_0 : decode cX7_posts 0 = .ok (.iload_n 1, 1) := by decide +kernel
theorem dX7_posts_1 : decode cX7_posts 1 = .ok (.iconst 4, 1) := by decide +kernel
theorem dX7_posts_2 : decode cX7_posts 2 = .ok (.invokestatic 69, 3) := by decide +kernel
theorem dX7_posts_5 : decode cX7_posts 5 = .ok (.ifCond .eq 7, 3) := by decide +kernel
theorem dX7_posts_8 : decode cX7_posts 8 = .ok (.iload_n 2, 1) := by decide +kernel
theorem dX7_posts_9 : decode cX7_posts 9 = .ok (.ifCond .ge 5, 3) := by decide +kernel
theorem dX7_posts_12 : decode cX7_posts 12 = .ok (.iconst (-1), 1) := by decide +kernel
theorem dX7_posts_13 : decode cX7_posts 13 = .ok (.ireturn, 1) := by decide +kernel
theorem dX7_posts_14 : decode cX7_posts 14 = .ok (.aload_n 0, 1) := by decide +kernel
theorem dX7_posts_15 : decode cX7_posts 15 = .ok (.getfield 35, 3) := by decide +kernel
theorem dX7_posts_18 : decode cX7_posts 18 = .ok (.iload_n 2, 1) := by decide +kernel
theorem dX7_posts_19 : decode cX7_posts 19 = .ok (.invokevirtual 104, 3) := by decide +kernel
theorem dX7_posts_22 : decode cX7_posts 22 = .ok (.aload_n 0, 1) := by decide +kernel
theorem dX7_posts_23 : decode cX7_posts 23 = .ok (.getfield 35, 3) := by decide +kernel
theorem dX7_posts_26 : decode cX7_posts 26 = .ok (.iload_n 1, 1) := by decide +kernel
theorem dX7_posts_27 : decode cX7_posts 27 = .ok (.invokevirtual 110, 3) := by decide +kernel
theorem dX7_posts_30 : decode cX7_posts 30 = .ok (.ifCond .eq 14, 3) := by decide +kernel
theorem dX7_posts_33 : decode cX7_posts 33 = .ok (.aload_n 0, 1) := by decide +kernel
theorem dX7_posts_34 : decode cX7_posts 34 = .ok (.getfield 35, 3) := by decide +kernel
theorem dX7_posts_37 : decode cX7_posts 37 = .ok (.iload_n 1, 1) := by decide +kernel
theorem dX7_posts_38 : decode cX7_posts 38 = .ok (.invokevirtual 113, 3) := by decide +kernel
theorem dX7_posts_41 : decode cX7_posts 41 = .ok (.goto 4, 3) := by decide +kernel
theorem dX7_posts_44 : decode cX7_posts 44 = .ok (.iconst 0, 1) := by decide +kernel
theorem dX7_posts_45 : decode cX7_posts 45 = .ok (.ireturn, 1) := by decide +kernel
theorem dX7_worth_0 : decode cX7_worth 0 = .ok (.iload_n 1, 1) := by decide +kernel
theorem dX7_worth_1 : decode cX7_worth 1 = .ok (.iconst 4, 1) := by decide +kernel
theorem dX7_worth_2 : decode cX7_worth 2 = .ok (.invokestatic 69, 3) := by decide +kernel
theorem dX7_worth_5 : decode cX7_worth 5 = .ok (.ifCond .eq 16, 3) := by decide +kernel
theorem dX7_worth_8 : decode cX7_worth 8 = .ok (.iload_n 2, 1) := by decide +kernel
theorem dX7_worth_9 : decode cX7_worth 9 = .ok (.bipush 84, 2) := by decide +kernel
theorem dX7_worth_11 : decode cX7_worth 11 = .ok (.invokestatic 69, 3) := by decide +kernel
theorem dX7_worth_14 : decode cX7_worth 14 = .ok (.ifCond .eq 7, 3) := by decide +kernel
theorem dX7_worth_17 : decode cX7_worth 17 = .ok (.iload_n 3, 1) := by decide +kernel
theorem dX7_worth_18 : decode cX7_worth 18 = .ok (.ifCond .ge 13, 3) := by decide +kernel
theorem dX7_worth_21 : decode cX7_worth 21 = .ok (.new 117, 3) := by decide +kernel
theorem dX7_worth_24 : decode cX7_worth 24 = .ok (.dup, 1) := by decide +kernel
theorem dX7_worth_25 : decode cX7_worth 25 = .ok (.ldc 119, 2) := by decide +kernel
theorem dX7_worth_27 : decode cX7_worth 27 = .ok (.invokespecial 121, 3) := by decide +kernel
theorem dX7_worth_30 : decode cX7_worth 30 = .ok (.athrow, 1) := by decide +kernel
theorem dX7_worth_31 : decode cX7_worth 31 = .ok (.aload_n 0, 1) := by decide +kernel
theorem dX7_worth_32 : decode cX7_worth 32 = .ok (.getfield 35, 3) := by decide +kernel
theorem dX7_worth_35 : decode cX7_worth 35 = .ok (.iload_n 3, 1) := by decide +kernel
theorem dX7_worth_36 : decode cX7_worth 36 = .ok (.invokevirtual 104, 3) := by decide +kernel
theorem dX7_worth_39 : decode cX7_worth 39 = .ok (.aload_n 0, 1) := by decide +kernel
theorem dX7_worth_40 : decode cX7_worth 40 = .ok (.getfield 35, 3) := by decide +kernel
theorem dX7_worth_43 : decode cX7_worth 43 = .ok (.iload_n 1, 1) := by decide +kernel
theorem dX7_worth_44 : decode cX7_worth 44 = .ok (.invokevirtual 110, 3) := by decide +kernel
theorem dX7_worth_47 : decode cX7_worth 47 = .ok (.ifCond .ne 13, 3) := by decide +kernel
theorem dX7_worth_50 : decode cX7_worth 50 = .ok (.new 117, 3) := by decide +kernel
theorem dX7_worth_53 : decode cX7_worth 53 = .ok (.dup, 1) := by decide +kernel
theorem dX7_worth_54 : decode cX7_worth 54 = .ok (.ldc 124, 2) := by decide +kernel
theorem dX7_worth_56 : decode cX7_worth 56 = .ok (.invokespecial 121, 3) := by decide +kernel
theorem dX7_worth_59 : decode cX7_worth 59 = .ok (.athrow, 1) := by decide +kernel
theorem dX7_worth_60 : decode cX7_worth 60 = .ok (.aload_n 0, 1) := by decide +kernel
theorem dX7_worth_61 : decode cX7_worth 61 = .ok (.getfield 35, 3) := by decide +kernel
theorem dX7_worth_64 : decode cX7_worth 64 = .ok (.iload_n 1, 1) := by decide +kernel
theorem dX7_worth_65 : decode cX7_worth 65 = .ok (.iload_n 2, 1) := by decide +kernel
theorem dX7_worth_66 : decode cX7_worth 66 = .ok (.invokevirtual 126, 3) := by decide +kernel
theorem dX7_worth_69 : decode cX7_worth 69 = .ok (.ireturn, 1) := by decide +kernel
theorem dX7_sample_0 : decode cX7_sample 0 = .ok (.aload_n 0, 1) := by decide +kernel
theorem dX7_sample_1 : decode cX7_sample 1 = .ok (.iload_n 1, 1) := by decide +kernel
theorem dX7_sample_2 : decode cX7_sample 2 = .ok (.iload_n 2, 1) := by decide +kernel
theorem dX7_sample_3 : decode cX7_sample 3 = .ok (.invokevirtual 94, 3) := by decide +kernel
theorem dX7_sample_6 : decode cX7_sample 6 = .ok (.ifCond .ne 5, 3) := by decide +kernel
theorem dX7_sample_9 : decode cX7_sample 9 = .ok (.iconst (-1), 1) := by decide +kernel
theorem dX7_sample_10 : decode cX7_sample 10 = .ok (.ireturn, 1) := by decide +kernel
theorem dX7_sample_11 : decode cX7_sample 11 = .ok (.aload_n 0, 1) := by decide +kernel
theorem dX7_sample_12 : decode cX7_sample 12 = .ok (.getfield 35, 3) := by decide +kernel
theorem dX7_sample_15 : decode cX7_sample 15 = .ok (.iload_n 2, 1) := by decide +kernel
theorem dX7_sample_16 : decode cX7_sample 16 = .ok (.invokevirtual 104, 3) := by decide +kernel
theorem dX7_sample_19 : decode cX7_sample 19 = .ok (.aload_n 0, 1) := by decide +kernel
theorem dX7_sample_20 : decode cX7_sample 20 = .ok (.getfield 35, 3) := by decide +kernel
theorem dX7_sample_23 : decode cX7_sample 23 = .ok (.iload_n 1, 1) := by decide +kernel
theorem dX7_sample_24 : decode cX7_sample 24 = .ok (.invokevirtual 129, 3) := by decide +kernel
theorem dX7_sample_27 : decode cX7_sample 27 = .ok (.ireturn, 1) := by decide +kernel
theorem dX7_fit_0 : decode cX7_fit 0 = .ok (.aload_n 0, 1) := by decide +kernel
theorem dX7_fit_1 : decode cX7_fit 1 = .ok (.iload_n 1, 1) := by decide +kernel
theorem dX7_fit_2 : decode cX7_fit 2 = .ok (.iload_n 3, 1) := by decide +kernel
theorem dX7_fit_3 : decode cX7_fit 3 = .ok (.invokevirtual 94, 3) := by decide +kernel
theorem dX7_fit_6 : decode cX7_fit 6 = .ok (.ifCond .ne 5, 3) := by decide +kernel
theorem dX7_fit_9 : decode cX7_fit 9 = .ok (.iconst (-1), 1) := by decide +kernel
theorem dX7_fit_10 : decode cX7_fit 10 = .ok (.ireturn, 1) := by decide +kernel
theorem dX7_fit_11 : decode cX7_fit 11 = .ok (.aload_n 0, 1) := by decide +kernel
theorem dX7_fit_12 : decode cX7_fit 12 = .ok (.getfield 35, 3) := by decide +kernel
theorem dX7_fit_15 : decode cX7_fit 15 = .ok (.iload_n 3, 1) := by decide +kernel
theorem dX7_fit_16 : decode cX7_fit 16 = .ok (.invokevirtual 104, 3) := by decide +kernel
theorem dX7_fit_19 : decode cX7_fit 19 = .ok (.aload_n 0, 1) := by decide +kernel
theorem dX7_fit_20 : decode cX7_fit 20 = .ok (.getfield 35, 3) := by decide +kernel
theorem dX7_fit_23 : decode cX7_fit 23 = .ok (.iload_n 1, 1) := by decide +kernel
theorem dX7_fit_24 : decode cX7_fit 24 = .ok (.iload_n 2, 1) := by decide +kernel
theorem dX7_fit_25 : decode cX7_fit 25 = .ok (.invokevirtual 132, 3) := by decide +kernel
theorem dX7_fit_28 : decode cX7_fit 28 = .ok (.ireturn, 1) := by decide +kernel
theorem dX7_year_0 : decode cX7_year 0 = .ok (.aload_n 0, 1) := by decide +kernel
theorem dX7_year_1 : decode cX7_year 1 = .ok (.iload_n 1, 1) := by decide +kernel
theorem dX7_year_2 : decode cX7_year 2 = .ok (.iload_n 2, 1) := by decide +kernel
theorem dX7_year_3 : decode cX7_year 3 = .ok (.invokevirtual 94, 3) := by decide +kernel
theorem dX7_year_6 : decode cX7_year 6 = .ok (.ifCond .eq 10, 3) := by decide +kernel
theorem dX7_year_9 : decode cX7_year 9 = .ok (.iload_n 3, 1) := by decide +kernel
theorem dX7_year_10 : decode cX7_year 10 = .ok (.invokestatic 135, 3) := by decide +kernel
theorem dX7_year_13 : decode cX7_year 13 = .ok (.ifCond .ne 13, 3) := by decide +kernel
theorem dX7_year_16 : decode cX7_year 16 = .ok (.new 117, 3) := by decide +kernel
theorem dX7_year_19 : decode cX7_year 19 = .ok (.dup, 1) := by decide +kernel
theorem dX7_year_20 : decode cX7_year 20 = .ok (.ldc 138, 2) := by decide +kernel
theorem dX7_year_22 : decode cX7_year 22 = .ok (.invokespecial 121, 3) := by decide +kernel
theorem dX7_year_25 : decode cX7_year 25 = .ok (.athrow, 1) := by decide +kernel
theorem dX7_year_26 : decode cX7_year 26 = .ok (.aload_n 0, 1) := by decide +kernel
theorem dX7_year_27 : decode cX7_year 27 = .ok (.getfield 35, 3) := by decide +kernel
theorem dX7_year_30 : decode cX7_year 30 = .ok (.iload_n 2, 1) := by decide +kernel
theorem dX7_year_31 : decode cX7_year 31 = .ok (.invokevirtual 104, 3) := by decide +kernel
theorem dX7_year_34 : decode cX7_year 34 = .ok (.aload_n 0, 1) := by decide +kernel
theorem dX7_year_35 : decode cX7_year 35 = .ok (.getfield 35, 3) := by decide +kernel
theorem dX7_year_38 : decode cX7_year 38 = .ok (.iload_n 1, 1) := by decide +kernel
theorem dX7_year_39 : decode cX7_year 39 = .ok (.aload_n 0, 1) := by decide +kernel
theorem dX7_year_40 : decode cX7_year 40 = .ok (.getfield 49, 3) := by decide +kernel
theorem dX7_year_43 : decode cX7_year 43 = .ok (.invokevirtual 140, 3) := by decide +kernel
theorem dX7_year_46 : decode cX7_year 46 = .ok (.ifCond .ne 13, 3) := by decide +kernel
theorem dX7_year_49 : decode cX7_year 49 = .ok (.new 117, 3) := by decide +kernel
theorem dX7_year_52 : decode cX7_year 52 = .ok (.dup, 1) := by decide +kernel
theorem dX7_year_53 : decode cX7_year 53 = .ok (.ldc 144, 2) := by decide +kernel
theorem dX7_year_55 : decode cX7_year 55 = .ok (.invokespecial 121, 3) := by decide +kernel
theorem dX7_year_58 : decode cX7_year 58 = .ok (.athrow, 1) := by decide +kernel
theorem dX7_year_59 : decode cX7_year 59 = .ok (.aload_n 0, 1) := by decide +kernel
theorem dX7_year_60 : decode cX7_year 60 = .ok (.getfield 49, 3) := by decide +kernel
theorem dX7_year_63 : decode cX7_year 63 = .ok (.iload_n 3, 1) := by decide +kernel
theorem dX7_year_64 : decode cX7_year 64 = .ok (.invokevirtual 146, 3) := by decide +kernel
theorem dX7_year_67 : decode cX7_year 67 = .ok (.lreturn, 1) := by decide +kernel
theorem dX7_trial_0 : decode cX7_trial 0 = .ok (.aload_n 0, 1) := by decide +kernel
theorem dX7_trial_1 : decode cX7_trial 1 = .ok (.iload_n 1, 1) := by decide +kernel
theorem dX7_trial_2 : decode cX7_trial 2 = .ok (.iload_n 2, 1) := by decide +kernel
theorem dX7_trial_3 : decode cX7_trial 3 = .ok (.invokevirtual 94, 3) := by decide +kernel
theorem dX7_trial_6 : decode cX7_trial 6 = .ok (.ifCond .eq 10, 3) := by decide +kernel
theorem dX7_trial_9 : decode cX7_trial 9 = .ok (.iload_n 3, 1) := by decide +kernel
theorem dX7_trial_10 : decode cX7_trial 10 = .ok (.invokestatic 135, 3) := by decide +kernel
theorem dX7_trial_13 : decode cX7_trial 13 = .ok (.ifCond .ne 13, 3) := by decide +kernel
theorem dX7_trial_16 : decode cX7_trial 16 = .ok (.new 117, 3) := by decide +kernel
theorem dX7_trial_19 : decode cX7_trial 19 = .ok (.dup, 1) := by decide +kernel
theorem dX7_trial_20 : decode cX7_trial 20 = .ok (.ldc 138, 2) := by decide +kernel
theorem dX7_trial_22 : decode cX7_trial 22 = .ok (.invokespecial 121, 3) := by decide +kernel
theorem dX7_trial_25 : decode cX7_trial 25 = .ok (.athrow, 1) := by decide +kernel
theorem dX7_trial_26 : decode cX7_trial 26 = .ok (.aload_n 0, 1) := by decide +kernel
theorem dX7_trial_27 : decode cX7_trial 27 = .ok (.getfield 35, 3) := by decide +kernel
theorem dX7_trial_30 : decode cX7_trial 30 = .ok (.iload_n 2, 1) := by decide +kernel
theorem dX7_trial_31 : decode cX7_trial 31 = .ok (.invokevirtual 104, 3) := by decide +kernel
theorem dX7_trial_34 : decode cX7_trial 34 = .ok (.aload_n 0, 1) := by decide +kernel
theorem dX7_trial_35 : decode cX7_trial 35 = .ok (.getfield 35, 3) := by decide +kernel
theorem dX7_trial_38 : decode cX7_trial 38 = .ok (.iload_n 1, 1) := by decide +kernel
theorem dX7_trial_39 : decode cX7_trial 39 = .ok (.aload_n 0, 1) := by decide +kernel
theorem dX7_trial_40 : decode cX7_trial 40 = .ok (.getfield 49, 3) := by decide +kernel
theorem dX7_trial_43 : decode cX7_trial 43 = .ok (.invokevirtual 150, 3) := by decide +kernel
theorem dX7_trial_46 : decode cX7_trial 46 = .ok (.ifCond .ne 13, 3) := by decide +kernel
theorem dX7_trial_49 : decode cX7_trial 49 = .ok (.new 117, 3) := by decide +kernel
theorem dX7_trial_52 : decode cX7_trial 52 = .ok (.dup, 1) := by decide +kernel
theorem dX7_trial_53 : decode cX7_trial 53 = .ok (.ldc 153, 2) := by decide +kernel
theorem dX7_trial_55 : decode cX7_trial 55 = .ok (.invokespecial 121, 3) := by decide +kernel
theorem dX7_trial_58 : decode cX7_trial 58 = .ok (.athrow, 1) := by decide +kernel
theorem dX7_trial_59 : decode cX7_trial 59 = .ok (.aload_n 0, 1) := by decide +kernel
theorem dX7_trial_60 : decode cX7_trial 60 = .ok (.getfield 49, 3) := by decide +kernel
theorem dX7_trial_63 : decode cX7_trial 63 = .ok (.iload_n 3, 1) := by decide +kernel
theorem dX7_trial_64 : decode cX7_trial 64 = .ok (.invokevirtual 146, 3) := by decide +kernel
theorem dX7_trial_67 : decode cX7_trial 67 = .ok (.lreturn, 1) := by decide +kernel
theorem dX7_flow_0 : decode cX7_flow 0 = .ok (.aload_n 0, 1) := by decide +kernel
theorem dX7_flow_1 : decode cX7_flow 1 = .ok (.iload_n 1, 1) := by decide +kernel
theorem dX7_flow_2 : decode cX7_flow 2 = .ok (.iload_n 2, 1) := by decide +kernel
theorem dX7_flow_3 : decode cX7_flow 3 = .ok (.invokevirtual 94, 3) := by decide +kernel
theorem dX7_flow_6 : decode cX7_flow 6 = .ok (.ifCond .ne 5, 3) := by decide +kernel
theorem dX7_flow_9 : decode cX7_flow 9 = .ok (.iconst (-1), 1) := by decide +kernel
theorem dX7_flow_10 : decode cX7_flow 10 = .ok (.ireturn, 1) := by decide +kernel
theorem dX7_flow_11 : decode cX7_flow 11 = .ok (.aload_n 0, 1) := by decide +kernel
theorem dX7_flow_12 : decode cX7_flow 12 = .ok (.getfield 35, 3) := by decide +kernel
theorem dX7_flow_15 : decode cX7_flow 15 = .ok (.iload_n 2, 1) := by decide +kernel
theorem dX7_flow_16 : decode cX7_flow 16 = .ok (.invokevirtual 104, 3) := by decide +kernel
theorem dX7_flow_19 : decode cX7_flow 19 = .ok (.aload_n 0, 1) := by decide +kernel
theorem dX7_flow_20 : decode cX7_flow 20 = .ok (.getfield 35, 3) := by decide +kernel
theorem dX7_flow_23 : decode cX7_flow 23 = .ok (.invokevirtual 155, 3) := by decide +kernel
theorem dX7_flow_26 : decode cX7_flow 26 = .ok (.aload_n 0, 1) := by decide +kernel
theorem dX7_flow_27 : decode cX7_flow 27 = .ok (.getfield 35, 3) := by decide +kernel
theorem dX7_flow_30 : decode cX7_flow 30 = .ok (.iload_n 1, 1) := by decide +kernel
theorem dX7_flow_31 : decode cX7_flow 31 = .ok (.invokevirtual 158, 3) := by decide +kernel
theorem dX7_flow_34 : decode cX7_flow 34 = .ok (.ireturn, 1) := by decide +kernel
theorem dX7_missing_0 : decode cX7_missing 0 = .ok (.iload_n 1, 1) := by decide +kernel
theorem dX7_missing_1 : decode cX7_missing 1 = .ok (.bipush 8, 2) := by decide +kernel
theorem dX7_missing_3 : decode cX7_missing 3 = .ok (.invokestatic 69, 3) := by decide +kernel
theorem dX7_missing_6 : decode cX7_missing 6 = .ok (.ifCond .eq 7, 3) := by decide +kernel
theorem dX7_missing_9 : decode cX7_missing 9 = .ok (.iload_n 2, 1) := by decide +kernel
theorem dX7_missing_10 : decode cX7_missing 10 = .ok (.ifCond .ge 13, 3) := by decide +kernel
theorem dX7_missing_13 : decode cX7_missing 13 = .ok (.new 117, 3) := by decide +kernel
theorem dX7_missing_16 : decode cX7_missing 16 = .ok (.dup, 1) := by decide +kernel
theorem dX7_missing_17 : decode cX7_missing 17 = .ok (.ldc 161, 2) := by decide +kernel
theorem dX7_missing_19 : decode cX7_missing 19 = .ok (.invokespecial 121, 3) := by decide +kernel
theorem dX7_missing_22 : decode cX7_missing 22 = .ok (.athrow, 1) := by decide +kernel
theorem dX7_missing_23 : decode cX7_missing 23 = .ok (.aload_n 0, 1) := by decide +kernel
theorem dX7_missing_24 : decode cX7_missing 24 = .ok (.getfield 35, 3) := by decide +kernel
theorem dX7_missing_27 : decode cX7_missing 27 = .ok (.iload_n 2, 1) := by decide +kernel
theorem dX7_missing_28 : decode cX7_missing 28 = .ok (.invokevirtual 104, 3) := by decide +kernel
theorem dX7_missing_31 : decode cX7_missing 31 = .ok (.aload_n 0, 1) := by decide +kernel
theorem dX7_missing_32 : decode cX7_missing 32 = .ok (.getfield 35, 3) := by decide +kernel
theorem dX7_missing_35 : decode cX7_missing 35 = .ok (.invokevirtual 155, 3) := by decide +kernel
theorem dX7_missing_38 : decode cX7_missing 38 = .ok (.aload_n 0, 1) := by decide +kernel
theorem dX7_missing_39 : decode cX7_missing 39 = .ok (.iload_n 1, 1) := by decide +kernel
theorem dX7_missing_40 : decode cX7_missing 40 = .ok (.invokevirtual 163, 3) := by decide +kernel
theorem dX7_missing_43 : decode cX7_missing 43 = .ok (.ireturn, 1) := by decide +kernel
theorem dX7_agreed_0 : decode cX7_agreed 0 = .ok (.aload_n 0, 1) := by decide +kernel
theorem dX7_agreed_1 : decode cX7_agreed 1 = .ok (.iload_n 1, 1) := by decide +kernel
theorem dX7_agreed_2 : decode cX7_agreed 2 = .ok (.iload_n 2, 1) := by decide +kernel
theorem dX7_agreed_3 : decode cX7_agreed 3 = .ok (.invokevirtual 94, 3) := by decide +kernel
theorem dX7_agreed_6 : decode cX7_agreed 6 = .ok (.ifCond .eq 10, 3) := by decide +kernel
theorem dX7_agreed_9 : decode cX7_agreed 9 = .ok (.iload_n 3, 1) := by decide +kernel
theorem dX7_agreed_10 : decode cX7_agreed 10 = .ok (.invokestatic 135, 3) := by decide +kernel
theorem dX7_agreed_13 : decode cX7_agreed 13 = .ok (.ifCond .ne 13, 3) := by decide +kernel
theorem dX7_agreed_16 : decode cX7_agreed 16 = .ok (.new 117, 3) := by decide +kernel
theorem dX7_agreed_19 : decode cX7_agreed 19 = .ok (.dup, 1) := by decide +kernel
theorem dX7_agreed_20 : decode cX7_agreed 20 = .ok (.ldc 138, 2) := by decide +kernel
theorem dX7_agreed_22 : decode cX7_agreed 22 = .ok (.invokespecial 121, 3) := by decide +kernel
theorem dX7_agreed_25 : decode cX7_agreed 25 = .ok (.athrow, 1) := by decide +kernel
theorem dX7_agreed_26 : decode cX7_agreed 26 = .ok (.aload_n 0, 1) := by decide +kernel
theorem dX7_agreed_27 : decode cX7_agreed 27 = .ok (.getfield 35, 3) := by decide +kernel
theorem dX7_agreed_30 : decode cX7_agreed 30 = .ok (.iload_n 2, 1) := by decide +kernel
theorem dX7_agreed_31 : decode cX7_agreed 31 = .ok (.invokevirtual 104, 3) := by decide +kernel
theorem dX7_agreed_34 : decode cX7_agreed 34 = .ok (.aload_n 0, 1) := by decide +kernel
theorem dX7_agreed_35 : decode cX7_agreed 35 = .ok (.getfield 35, 3) := by decide +kernel
theorem dX7_agreed_38 : decode cX7_agreed 38 = .ok (.invokevirtual 155, 3) := by decide +kernel
theorem dX7_agreed_41 : decode cX7_agreed 41 = .ok (.aload_n 0, 1) := by decide +kernel
theorem dX7_agreed_42 : decode cX7_agreed 42 = .ok (.getfield 35, 3) := by decide +kernel
theorem dX7_agreed_45 : decode cX7_agreed 45 = .ok (.iload_n 1, 1) := by decide +kernel
theorem dX7_agreed_46 : decode cX7_agreed 46 = .ok (.invokevirtual 158, 3) := by decide +kernel
theorem dX7_agreed_49 : decode cX7_agreed 49 = .ok (.iconst (-1), 1) := by decide +kernel
theorem dX7_agreed_50 : decode cX7_agreed 50 = .ok (.if_icmp .ne 13, 3) := by decide +kernel
theorem dX7_agreed_53 : decode cX7_agreed 53 = .ok (.new 117, 3) := by decide +kernel
theorem dX7_agreed_56 : decode cX7_agreed 56 = .ok (.dup, 1) := by decide +kernel
theorem dX7_agreed_57 : decode cX7_agreed 57 = .ok (.ldc 166, 2) := by decide +kernel
theorem dX7_agreed_59 : decode cX7_agreed 59 = .ok (.invokespecial 121, 3) := by decide +kernel
theorem dX7_agreed_62 : decode cX7_agreed 62 = .ok (.athrow, 1) := by decide +kernel
theorem dX7_agreed_63 : decode cX7_agreed 63 = .ok (.aload_n 0, 1) := by decide +kernel
theorem dX7_agreed_64 : decode cX7_agreed 64 = .ok (.invokevirtual 168, 3) := by decide +kernel
theorem dX7_agreed_67 : decode cX7_agreed 67 = .ok (.aload_n 0, 1) := by decide +kernel
theorem dX7_agreed_68 : decode cX7_agreed 68 = .ok (.getfield 42, 3) := by decide +kernel
theorem dX7_agreed_71 : decode cX7_agreed 71 = .ok (.aload_n 0, 1) := by decide +kernel
theorem dX7_agreed_72 : decode cX7_agreed 72 = .ok (.getfield 19, 3) := by decide +kernel
theorem dX7_agreed_75 : decode cX7_agreed 75 = .ok (.iload_n 1, 1) := by decide +kernel
theorem dX7_agreed_76 : decode cX7_agreed 76 = .ok (.invokevirtual 171, 3) := by decide +kernel
theorem dX7_agreed_79 : decode cX7_agreed 79 = .ok (.aload_n 0, 1) := by decide +kernel
theorem dX7_agreed_80 : decode cX7_agreed 80 = .ok (.getfield 19, 3) := by decide +kernel
theorem dX7_agreed_83 : decode cX7_agreed 83 = .ok (.iload_n 1, 1) := by decide +kernel
theorem dX7_agreed_84 : decode cX7_agreed 84 = .ok (.invokevirtual 174, 3) := by decide +kernel
theorem dX7_agreed_87 : decode cX7_agreed 87 = .ok (.aload_n 0, 1) := by decide +kernel
theorem dX7_agreed_88 : decode cX7_agreed 88 = .ok (.getfield 35, 3) := by decide +kernel
theorem dX7_agreed_91 : decode cX7_agreed 91 = .ok (.iload_n 1, 1) := by decide +kernel
theorem dX7_agreed_92 : decode cX7_agreed 92 = .ok (.invokevirtual 158, 3) := by decide +kernel
theorem dX7_agreed_95 : decode cX7_agreed 95 = .ok (.aload_n 0, 1) := by decide +kernel
theorem dX7_agreed_96 : decode cX7_agreed 96 = .ok (.getfield 35, 3) := by decide +kernel
theorem dX7_agreed_99 : decode cX7_agreed 99 = .ok (.iload_n 1, 1) := by decide +kernel
theorem dX7_agreed_100 : decode cX7_agreed 100 = .ok (.invokevirtual 177, 3) := by decide +kernel
theorem dX7_agreed_103 : decode cX7_agreed 103 = .ok (.aload_n 0, 1) := by decide +kernel
theorem dX7_agreed_104 : decode cX7_agreed 104 = .ok (.getfield 49, 3) := by decide +kernel
theorem dX7_agreed_107 : decode cX7_agreed 107 = .ok (.invokevirtual 180, 3) := by decide +kernel
theorem dX7_agreed_110 : decode cX7_agreed 110 = .ok (.aload_n 0, 1) := by decide +kernel
theorem dX7_agreed_111 : decode cX7_agreed 111 = .ok (.getfield 49, 3) := by decide +kernel
theorem dX7_agreed_114 : decode cX7_agreed 114 = .ok (.iload_n 3, 1) := by decide +kernel
theorem dX7_agreed_115 : decode cX7_agreed 115 = .ok (.invokevirtual 146, 3) := by decide +kernel
theorem dX7_agreed_118 : decode cX7_agreed 118 = .ok (.lreturn, 1) := by decide +kernel
theorem dX7_told_0 : decode cX7_told 0 = .ok (.iload_n 1, 1) := by decide +kernel
theorem dX7_told_1 : decode cX7_told 1 = .ok (.tableswitch 60 0 3 #[31, 39, 47, 52], 31) := by decide +kernel
theorem dX7_told_32 : decode cX7_told 32 = .ok (.aload_n 0, 1) := by decide +kernel
theorem dX7_told_33 : decode cX7_told 33 = .ok (.getfield 19, 3) := by decide +kernel
theorem dX7_told_36 : decode cX7_told 36 = .ok (.invokevirtual 184, 3) := by decide +kernel
theorem dX7_told_39 : decode cX7_told 39 = .ok (.ireturn, 1) := by decide +kernel
theorem dX7_told_40 : decode cX7_told 40 = .ok (.aload_n 0, 1) := by decide +kernel
theorem dX7_told_41 : decode cX7_told 41 = .ok (.getfield 26, 3) := by decide +kernel
theorem dX7_told_44 : decode cX7_told 44 = .ok (.invokevirtual 187, 3) := by decide +kernel
theorem dX7_told_47 : decode cX7_told 47 = .ok (.ireturn, 1) := by decide +kernel
theorem dX7_told_48 : decode cX7_told 48 = .ok (.aload_n 0, 1) := by decide +kernel
theorem dX7_told_49 : decode cX7_told 49 = .ok (.getfield 53, 3) := by decide +kernel
theorem dX7_told_52 : decode cX7_told 52 = .ok (.ireturn, 1) := by decide +kernel
theorem dX7_told_53 : decode cX7_told 53 = .ok (.aload_n 0, 1) := by decide +kernel
theorem dX7_told_54 : decode cX7_told 54 = .ok (.getfield 12, 3) := by decide +kernel
theorem dX7_told_57 : decode cX7_told 57 = .ok (.invokevirtual 57, 3) := by decide +kernel
theorem dX7_told_60 : decode cX7_told 60 = .ok (.ireturn, 1) := by decide +kernel
theorem dX7_told_61 : decode cX7_told 61 = .ok (.iconst (-1), 1) := by decide +kernel
theorem dX7_told_62 : decode cX7_told 62 = .ok (.ireturn, 1) := by decide +kernel
theorem dX7_isBelow_0 : decode cX7_isBelow 0 = .ok (.iload_n 0, 1) := by decide +kernel
theorem dX7_isBelow_1 : decode cX7_isBelow 1 = .ok (.ifCond .lt 12, 3) := by decide +kernel
theorem dX7_isBelow_4 : decode cX7_isBelow 4 = .ok (.iload_n 0, 1) := by decide +kernel
theorem dX7_isBelow_5 : decode cX7_isBelow 5 = .ok (.iload_n 1, 1) := by decide +kernel
theorem dX7_isBelow_6 : decode cX7_isBelow 6 = .ok (.if_icmp .ge 7, 3) := by decide +kernel
theorem dX7_isBelow_9 : decode cX7_isBelow 9 = .ok (.iconst 1, 1) := by decide +kernel
theorem dX7_isBelow_10 : decode cX7_isBelow 10 = .ok (.goto 4, 3) := by decide +kernel
theorem dX7_isBelow_13 : decode cX7_isBelow 13 = .ok (.iconst 0, 1) := by decide +kernel
theorem dX7_isBelow_14 : decode cX7_isBelow 14 = .ok (.ireturn, 1) := by decide +kernel
theorem dX7_isPart_0 : decode cX7_isPart 0 = .ok (.iload_n 0, 1) := by decide +kernel
theorem dX7_isPart_1 : decode cX7_isPart 1 = .ok (.ifCond .eq 8, 3) := by decide +kernel
theorem dX7_isPart_4 : decode cX7_isPart 4 = .ok (.iload_n 0, 1) := by decide +kernel
theorem dX7_isPart_5 : decode cX7_isPart 5 = .ok (.iconst 1, 1) := by decide +kernel
theorem dX7_isPart_6 : decode cX7_isPart 6 = .ok (.if_icmp .ne 7, 3) := by decide +kernel
theorem dX7_isPart_9 : decode cX7_isPart 9 = .ok (.iconst 1, 1) := by decide +kernel
theorem dX7_isPart_10 : decode cX7_isPart 10 = .ok (.goto 4, 3) := by decide +kernel
theorem dX7_isPart_13 : decode cX7_isPart 13 = .ok (.iconst 0, 1) := by decide +kernel
theorem dX7_isPart_14 : decode cX7_isPart 14 = .ok (.ireturn, 1) := by decide +kernel
theorem dX7_isAskable_0 : decode cX7_isAskable 0 = .ok (.aload_n 0, 1) := by decide +kernel
theorem dX7_isAskable_1 : decode cX7_isAskable 1 = .ok (.getfield 19, 3) := by decide +kernel
theorem dX7_isAskable_4 : decode cX7_isAskable 4 = .ok (.iload_n 1, 1) := by decide +kernel
theorem dX7_isAskable_5 : decode cX7_isAskable 5 = .ok (.invokevirtual 73, 3) := by decide +kernel
theorem dX7_isAskable_8 : decode cX7_isAskable 8 = .ok (.ifCond .eq 11, 3) := by decide +kernel
theorem dX7_isAskable_11 : decode cX7_isAskable 11 = .ok (.iload_n 2, 1) := by decide +kernel
theorem dX7_isAskable_12 : decode cX7_isAskable 12 = .ok (.ifCond .lt 7, 3) := by decide +kernel
theorem dX7_isAskable_15 : decode cX7_isAskable 15 = .ok (.iconst 1, 1) := by decide +kernel
theorem dX7_isAskable_16 : decode cX7_isAskable 16 = .ok (.goto 4, 3) := by decide +kernel
theorem dX7_isAskable_19 : decode cX7_isAskable 19 = .ok (.iconst 0, 1) := by decide +kernel
theorem dX7_isAskable_20 : decode cX7_isAskable 20 = .ok (.ireturn, 1) := by decide +kernel
theorem dX7_enterKinds_0 : decode cX7_enterKinds 0 = .ok (.aload_n 0, 1) := by decide +kernel
theorem dX7_enterKinds_1 : decode cX7_enterKinds 1 = .ok (.getfield 19, 3) := by decide +kernel
theorem dX7_enterKinds_4 : decode cX7_enterKinds 4 = .ok (.iload_n 1, 1) := by decide +kernel
theorem dX7_enterKinds_5 : decode cX7_enterKinds 5 = .ok (.invokevirtual 73, 3) := by decide +kernel
theorem dX7_enterKinds_8 : decode cX7_enterKinds 8 = .ok (.ifCond .eq 12, 3) := by decide +kernel
theorem dX7_enterKinds_11 : decode cX7_enterKinds 11 = .ok (.iload_n 2, 1) := by decide +kernel
theorem dX7_enterKinds_12 : decode cX7_enterKinds 12 = .ok (.bipush 84, 2) := by decide +kernel
theorem dX7_enterKinds_14 : decode cX7_enterKinds 14 = .ok (.invokestatic 69, 3) := by decide +kernel
theorem dX7_enterKinds_17 : decode cX7_enterKinds 17 = .ok (.ifCond .ne 5, 3) := by decide +kernel
theorem dX7_enterKinds_20 : decode cX7_enterKinds 20 = .ok (.iconst (-1), 1) := by decide +kernel
theorem dX7_enterKinds_21 : decode cX7_enterKinds 21 = .ok (.ireturn, 1) := by decide +kernel
theorem dX7_enterKinds_22 : decode cX7_enterKinds 22 = .ok (.aload_n 0, 1) := by decide +kernel
theorem dX7_enterKinds_23 : decode cX7_enterKinds 23 = .ok (.getfield 12, 3) := by decide +kernel
theorem dX7_enterKinds_26 : decode cX7_enterKinds 26 = .ok (.invokevirtual 57, 3) := by decide +kernel
theorem dX7_enterKinds_29 : decode cX7_enterKinds 29 = .ok (.bipush 7, 2) := by decide +kernel
theorem dX7_enterKinds_31 : decode cX7_enterKinds 31 = .ok (.if_icmp .ne 14, 3) := by decide +kernel
theorem dX7_enterKinds_34 : decode cX7_enterKinds 34 = .ok (.aload_n 0, 1) := by decide +kernel
theorem dX7_enterKinds_35 : decode cX7_enterKinds 35 = .ok (.getfield 26, 3) := by decide +kernel
theorem dX7_enterKinds_38 : decode cX7_enterKinds 38 = .ok (.iconst 1, 1) := by decide +kernel
theorem dX7_enterKinds_39 : decode cX7_enterKinds 39 = .ok (.invokevirtual 188, 3) := by decide +kernel
theorem dX7_enterKinds_42 : decode cX7_enterKinds 42 = .ok (.ifCond .ne 5, 3) := by decide +kernel
theorem dX7_enterKinds_45 : decode cX7_enterKinds 45 = .ok (.iconst (-1), 1) := by decide +kernel
theorem dX7_enterKinds_46 : decode cX7_enterKinds 46 = .ok (.ireturn, 1) := by decide +kernel
theorem dX7_enterKinds_47 : decode cX7_enterKinds 47 = .ok (.aload_n 0, 1) := by decide +kernel
theorem dX7_enterKinds_48 : decode cX7_enterKinds 48 = .ok (.getfield 12, 3) := by decide +kernel
theorem dX7_enterKinds_51 : decode cX7_enterKinds 51 = .ok (.iconst 0, 1) := by decide +kernel
theorem dX7_enterKinds_52 : decode cX7_enterKinds 52 = .ok (.invokevirtual 191, 3) := by decide +kernel
theorem dX7_enterKinds_55 : decode cX7_enterKinds 55 = .ok (.aload_n 0, 1) := by decide +kernel
theorem dX7_enterKinds_56 : decode cX7_enterKinds 56 = .ok (.getfield 12, 3) := by decide +kernel
theorem dX7_enterKinds_59 : decode cX7_enterKinds 59 = .ok (.iconst 3, 1) := by decide +kernel
theorem dX7_enterKinds_60 : decode cX7_enterKinds 60 = .ok (.invokevirtual 191, 3) := by decide +kernel
theorem dX7_enterKinds_63 : decode cX7_enterKinds 63 = .ok (.iadd, 1) := by decide +kernel
theorem dX7_enterKinds_64 : decode cX7_enterKinds 64 = .ok (.istore_n 3, 1) := by decide +kernel
theorem dX7_enterKinds_65 : decode cX7_enterKinds 65 = .ok (.aload_n 0, 1) := by decide +kernel
theorem dX7_enterKinds_66 : decode cX7_enterKinds 66 = .ok (.getfield 12, 3) := by decide +kernel
theorem dX7_enterKinds_69 : decode cX7_enterKinds 69 = .ok (.iconst 1, 1) := by decide +kernel
theorem dX7_enterKinds_70 : decode cX7_enterKinds 70 = .ok (.invokevirtual 191, 3) := by decide +kernel
theorem dX7_enterKinds_73 : decode cX7_enterKinds 73 = .ok (.aload_n 0, 1) := by decide +kernel
theorem dX7_enterKinds_74 : decode cX7_enterKinds 74 = .ok (.getfield 12, 3) := by decide +kernel
theorem dX7_enterKinds_77 : decode cX7_enterKinds 77 = .ok (.iconst 4, 1) := by decide +kernel
theorem dX7_enterKinds_78 : decode cX7_enterKinds 78 = .ok (.invokevirtual 191, 3) := by decide +kernel
theorem dX7_enterKinds_81 : decode cX7_enterKinds 81 = .ok (.iadd, 1) := by decide +kernel
theorem dX7_enterKinds_82 : decode cX7_enterKinds 82 = .ok (.istore 4, 2) := by decide +kernel
theorem dX7_enterKinds_84 : decode cX7_enterKinds 84 = .ok (.aload_n 0, 1) := by decide +kernel
theorem dX7_enterKinds_85 : decode cX7_enterKinds 85 = .ok (.getfield 12, 3) := by decide +kernel
theorem dX7_enterKinds_88 : decode cX7_enterKinds 88 = .ok (.iconst 2, 1) := by decide +kernel
theorem dX7_enterKinds_89 : decode cX7_enterKinds 89 = .ok (.invokevirtual 191, 3) := by decide +kernel
theorem dX7_enterKinds_92 : decode cX7_enterKinds 92 = .ok (.aload_n 0, 1) := by decide +kernel
theorem dX7_enterKinds_93 : decode cX7_enterKinds 93 = .ok (.getfield 12, 3) := by decide +kernel
theorem dX7_enterKinds_96 : decode cX7_enterKinds 96 = .ok (.iconst 5, 1) := by decide +kernel
theorem dX7_enterKinds_97 : decode cX7_enterKinds 97 = .ok (.invokevirtual 191, 3) := by decide +kernel
theorem dX7_enterKinds_100 : decode cX7_enterKinds 100 = .ok (.iadd, 1) := by decide +kernel
theorem dX7_enterKinds_101 : decode cX7_enterKinds 101 = .ok (.istore 5, 2) := by decide +kernel
theorem dX7_enterKinds_103 : decode cX7_enterKinds 103 = .ok (.iload_n 3, 1) := by decide +kernel
theorem dX7_enterKinds_104 : decode cX7_enterKinds 104 = .ok (.iload 4, 2) := by decide +kernel
theorem dX7_enterKinds_106 : decode cX7_enterKinds 106 = .ok (.iadd, 1) := by decide +kernel
theorem dX7_enterKinds_107 : decode cX7_enterKinds 107 = .ok (.iload 5, 2) := by decide +kernel
theorem dX7_enterKinds_109 : decode cX7_enterKinds 109 = .ok (.iadd, 1) := by decide +kernel
theorem dX7_enterKinds_110 : decode cX7_enterKinds 110 = .ok (.aload_n 0, 1) := by decide +kernel
theorem dX7_enterKinds_111 : decode cX7_enterKinds 111 = .ok (.getfield 12, 3) := by decide +kernel
theorem dX7_enterKinds_114 : decode cX7_enterKinds 114 = .ok (.bipush 6, 2) := by decide +kernel
theorem dX7_enterKinds_116 : decode cX7_enterKinds 116 = .ok (.invokevirtual 191, 3) := by decide +kernel
theorem dX7_enterKinds_119 : decode cX7_enterKinds 119 = .ok (.isub, 1) := by decide +kernel
theorem dX7_enterKinds_120 : decode cX7_enterKinds 120 = .ok (.istore 6, 2) := by decide +kernel
theorem dX7_enterKinds_122 : decode cX7_enterKinds 122 = .ok (.iload 6, 2) := by decide +kernel
theorem dX7_enterKinds_124 : decode cX7_enterKinds 124 = .ok (.ifCond .lt 10, 3) := by decide +kernel
theorem dX7_enterKinds_127 : decode cX7_enterKinds 127 = .ok (.iload 6, 2) := by decide +kernel
theorem dX7_enterKinds_129 : decode cX7_enterKinds 129 = .ok (.bipush 50, 2) := by decide +kernel
theorem dX7_enterKinds_131 : decode cX7_enterKinds 131 = .ok (.if_icmp .le 5, 3) := by decide +kernel
theorem dX7_enterKinds_134 : decode cX7_enterKinds 134 = .ok (.iconst (-1), 1) := by decide +kernel
theorem dX7_enterKinds_135 : decode cX7_enterKinds 135 = .ok (.ireturn, 1) := by decide +kernel
theorem dX7_enterKinds_136 : decode cX7_enterKinds 136 = .ok (.aload_n 0, 1) := by decide +kernel
theorem dX7_enterKinds_137 : decode cX7_enterKinds 137 = .ok (.getfield 26, 3) := by decide +kernel
theorem dX7_enterKinds_140 : decode cX7_enterKinds 140 = .ok (.iload_n 1, 1) := by decide +kernel
theorem dX7_enterKinds_141 : decode cX7_enterKinds 141 = .ok (.bipush 84, 2) := by decide +kernel
theorem dX7_enterKinds_143 : decode cX7_enterKinds 143 = .ok (.imul, 1) := by decide +kernel
theorem dX7_enterKinds_144 : decode cX7_enterKinds 144 = .ok (.iload_n 2, 1) := by decide +kernel
theorem dX7_enterKinds_145 : decode cX7_enterKinds 145 = .ok (.iadd, 1) := by decide +kernel
theorem dX7_enterKinds_146 : decode cX7_enterKinds 146 = .ok (.aload_n 0, 1) := by decide +kernel
theorem dX7_enterKinds_147 : decode cX7_enterKinds 147 = .ok (.getfield 53, 3) := by decide +kernel
theorem dX7_enterKinds_150 : decode cX7_enterKinds 150 = .ok (.iload 6, 2) := by decide +kernel
theorem dX7_enterKinds_152 : decode cX7_enterKinds 152 = .ok (.invokevirtual 194, 3) := by decide +kernel
theorem dX7_enterKinds_155 : decode cX7_enterKinds 155 = .ok (.aload_n 0, 1) := by decide +kernel
theorem dX7_enterKinds_156 : decode cX7_enterKinds 156 = .ok (.getfield 26, 3) := by decide +kernel
theorem dX7_enterKinds_159 : decode cX7_enterKinds 159 = .ok (.iload_n 3, 1) := by decide +kernel
theorem dX7_enterKinds_160 : decode cX7_enterKinds 160 = .ok (.iload 4, 2) := by decide +kernel
theorem dX7_enterKinds_162 : decode cX7_enterKinds 162 = .ok (.iload 5, 2) := by decide +kernel
theorem dX7_enterKinds_164 : decode cX7_enterKinds 164 = .ok (.invokevirtual 198, 3) := by decide +kernel
theorem dX7_enterKinds_167 : decode cX7_enterKinds 167 = .ok (.iload 6, 2) := by decide +kernel
theorem dX7_enterKinds_169 : decode cX7_enterKinds 169 = .ok (.ireturn, 1) := by decide +kernel
theorem dX7_enterRow_0 : decode cX7_enterRow 0 = .ok (.aload_n 0, 1) := by decide +kernel
theorem dX7_enterRow_1 : decode cX7_enterRow 1 = .ok (.getfield 12, 3) := by decide +kernel
theorem dX7_enterRow_4 : decode cX7_enterRow 4 = .ok (.invokevirtual 57, 3) := by decide +kernel
theorem dX7_enterRow_7 : decode cX7_enterRow 7 = .ok (.istore_n 3, 1) := by decide +kernel
theorem dX7_enterRow_8 : decode cX7_enterRow 8 = .ok (.aload_n 0, 1) := by decide +kernel
theorem dX7_enterRow_9 : decode cX7_enterRow 9 = .ok (.getfield 19, 3) := by decide +kernel
theorem dX7_enterRow_12 : decode cX7_enterRow 12 = .ok (.iload_n 1, 1) := by decide +kernel
theorem dX7_enterRow_13 : decode cX7_enterRow 13 = .ok (.invokevirtual 73, 3) := by decide +kernel
theorem dX7_enterRow_16 : decode cX7_enterRow 16 = .ok (.ifCond .eq 15, 3) := by decide +kernel
theorem dX7_enterRow_19 : decode cX7_enterRow 19 = .ok (.iload_n 2, 1) := by decide +kernel
theorem dX7_enterRow_20 : decode cX7_enterRow 20 = .ok (.ifCond .lt 11, 3) := by decide +kernel
theorem dX7_enterRow_23 : decode cX7_enterRow 23 = .ok (.iload_n 2, 1) := by decide +kernel
theorem dX7_enterRow_24 : decode cX7_enterRow 24 = .ok (.bipush 84, 2) := by decide +kernel
theorem dX7_enterRow_26 : decode cX7_enterRow 26 = .ok (.iload_n 3, 1) := by decide +kernel
theorem dX7_enterRow_27 : decode cX7_enterRow 27 = .ok (.isub, 1) := by decide +kernel
theorem dX7_enterRow_28 : decode cX7_enterRow 28 = .ok (.if_icmp .le 5, 3) := by decide +kernel
theorem dX7_enterRow_31 : decode cX7_enterRow 31 = .ok (.iconst (-1), 1) := by decide +kernel
theorem dX7_enterRow_32 : decode cX7_enterRow 32 = .ok (.ireturn, 1) := by decide +kernel
theorem dX7_enterRow_33 : decode cX7_enterRow 33 = .ok (.aload_n 0, 1) := by decide +kernel
theorem dX7_enterRow_34 : decode cX7_enterRow 34 = .ok (.getfield 26, 3) := by decide +kernel
theorem dX7_enterRow_37 : decode cX7_enterRow 37 = .ok (.iload_n 3, 1) := by decide +kernel
theorem dX7_enterRow_38 : decode cX7_enterRow 38 = .ok (.invokevirtual 188, 3) := by decide +kernel
theorem dX7_enterRow_41 : decode cX7_enterRow 41 = .ok (.ifCond .eq 13, 3) := by decide +kernel
theorem dX7_enterRow_44 : decode cX7_enterRow 44 = .ok (.aload_n 0, 1) := by decide +kernel
theorem dX7_enterRow_45 : decode cX7_enterRow 45 = .ok (.getfield 12, 3) := by decide +kernel
theorem dX7_enterRow_48 : decode cX7_enterRow 48 = .ok (.invokevirtual 201, 3) := by decide +kernel
theorem dX7_enterRow_51 : decode cX7_enterRow 51 = .ok (.ifCond .ne 5, 3) := by decide +kernel
theorem dX7_enterRow_54 : decode cX7_enterRow 54 = .ok (.iconst (-1), 1) := by decide +kernel
theorem dX7_enterRow_55 : decode cX7_enterRow 55 = .ok (.ireturn, 1) := by decide +kernel
theorem dX7_enterRow_56 : decode cX7_enterRow 56 = .ok (.iconst 0, 1) := by decide +kernel
theorem dX7_enterRow_57 : decode cX7_enterRow 57 = .ok (.istore 4, 2) := by decide +kernel
theorem dX7_enterRow_59 : decode cX7_enterRow 59 = .ok (.iload 4, 2) := by decide +kernel
theorem dX7_enterRow_61 : decode cX7_enterRow 61 = .ok (.iload_n 3, 1) := by decide +kernel
theorem dX7_enterRow_62 : decode cX7_enterRow 62 = .ok (.if_icmp .ge 86, 3) := by decide +kernel
theorem dX7_enterRow_65 : decode cX7_enterRow 65 = .ok (.aload_n 0, 1) := by decide +kernel
theorem dX7_enterRow_66 : decode cX7_enterRow 66 = .ok (.getfield 12, 3) := by decide +kernel
theorem dX7_enterRow_69 : decode cX7_enterRow 69 = .ok (.iload 4, 2) := by decide +kernel
theorem dX7_enterRow_71 : decode cX7_enterRow 71 = .ok (.invokevirtual 191, 3) := by decide +kernel
theorem dX7_enterRow_74 : decode cX7_enterRow 74 = .ok (.istore 5, 2) := by decide +kernel
theorem dX7_enterRow_76 : decode cX7_enterRow 76 = .ok (.iload 5, 2) := by decide +kernel
theorem dX7_enterRow_78 : decode cX7_enterRow 78 = .ok (.sipush 255, 3) := by decide +kernel
theorem dX7_enterRow_81 : decode cX7_enterRow 81 = .ok (.if_icmp .eq 7, 3) := by decide +kernel
theorem dX7_enterRow_84 : decode cX7_enterRow 84 = .ok (.iconst 1, 1) := by decide +kernel
theorem dX7_enterRow_85 : decode cX7_enterRow 85 = .ok (.goto 4, 3) := by decide +kernel
theorem dX7_enterRow_88 : decode cX7_enterRow 88 = .ok (.iconst 0, 1) := by decide +kernel
theorem dX7_enterRow_89 : decode cX7_enterRow 89 = .ok (.istore 6, 2) := by decide +kernel
theorem dX7_enterRow_91 : decode cX7_enterRow 91 = .ok (.aload_n 0, 1) := by decide +kernel
theorem dX7_enterRow_92 : decode cX7_enterRow 92 = .ok (.getfield 26, 3) := by decide +kernel
theorem dX7_enterRow_95 : decode cX7_enterRow 95 = .ok (.iload_n 1, 1) := by decide +kernel
theorem dX7_enterRow_96 : decode cX7_enterRow 96 = .ok (.bipush 84, 2) := by decide +kernel
theorem dX7_enterRow_98 : decode cX7_enterRow 98 = .ok (.imul, 1) := by decide +kernel
theorem dX7_enterRow_99 : decode cX7_enterRow 99 = .ok (.iload_n 2, 1) := by decide +kernel
theorem dX7_enterRow_100 : decode cX7_enterRow 100 = .ok (.iadd, 1) := by decide +kernel
theorem dX7_enterRow_101 : decode cX7_enterRow 101 = .ok (.iload 4, 2) := by decide +kernel
theorem dX7_enterRow_103 : decode cX7_enterRow 103 = .ok (.iadd, 1) := by decide +kernel
theorem dX7_enterRow_104 : decode cX7_enterRow 104 = .ok (.aload_n 0, 1) := by decide +kernel
theorem dX7_enterRow_105 : decode cX7_enterRow 105 = .ok (.getfield 53, 3) := by decide +kernel
theorem dX7_enterRow_108 : decode cX7_enterRow 108 = .ok (.iload 6, 2) := by decide +kernel
theorem dX7_enterRow_110 : decode cX7_enterRow 110 = .ok (.ifCond .eq 8, 3) := by decide +kernel
theorem dX7_enterRow_113 : decode cX7_enterRow 113 = .ok (.iload 5, 2) := by decide +kernel
theorem dX7_enterRow_115 : decode cX7_enterRow 115 = .ok (.goto 4, 3) := by decide +kernel
theorem dX7_enterRow_118 : decode cX7_enterRow 118 = .ok (.iconst (-1), 1) := by decide +kernel
theorem dX7_enterRow_119 : decode cX7_enterRow 119 = .ok (.invokevirtual 194, 3) := by decide +kernel
theorem dX7_enterRow_122 : decode cX7_enterRow 122 = .ok (.aload_n 0, 1) := by decide +kernel
theorem dX7_enterRow_123 : decode cX7_enterRow 123 = .ok (.getfield 26, 3) := by decide +kernel
theorem dX7_enterRow_126 : decode cX7_enterRow 126 = .ok (.iload 6, 2) := by decide +kernel
theorem dX7_enterRow_128 : decode cX7_enterRow 128 = .ok (.ifCond .eq 8, 3) := by decide +kernel
theorem dX7_enterRow_131 : decode cX7_enterRow 131 = .ok (.iload 5, 2) := by decide +kernel
theorem dX7_enterRow_133 : decode cX7_enterRow 133 = .ok (.goto 4, 3) := by decide +kernel
theorem dX7_enterRow_136 : decode cX7_enterRow 136 = .ok (.iconst 0, 1) := by decide +kernel
theorem dX7_enterRow_137 : decode cX7_enterRow 137 = .ok (.iconst 0, 1) := by decide +kernel
theorem dX7_enterRow_138 : decode cX7_enterRow 138 = .ok (.iconst 0, 1) := by decide +kernel
theorem dX7_enterRow_139 : decode cX7_enterRow 139 = .ok (.invokevirtual 198, 3) := by decide +kernel
theorem dX7_enterRow_142 : decode cX7_enterRow 142 = .ok (.iinc 4 1, 3) := by decide +kernel
theorem dX7_enterRow_145 : decode cX7_enterRow 145 = .ok (.goto (-86), 3) := by decide +kernel
theorem dX7_enterRow_148 : decode cX7_enterRow 148 = .ok (.iload_n 3, 1) := by decide +kernel
theorem dX7_enterRow_149 : decode cX7_enterRow 149 = .ok (.ireturn, 1) := by decide +kernel
theorem dX7_excessAt_0 : decode cX7_excessAt 0 = .ok (.iconst 0, 1) := by decide +kernel
theorem dX7_excessAt_1 : decode cX7_excessAt 1 = .ok (.istore_n 2, 1) := by decide +kernel
theorem dX7_excessAt_2 : decode cX7_excessAt 2 = .ok (.iconst 0, 1) := by decide +kernel
theorem dX7_excessAt_3 : decode cX7_excessAt 3 = .ok (.istore_n 3, 1) := by decide +kernel
theorem dX7_excessAt_4 : decode cX7_excessAt 4 = .ok (.iload_n 3, 1) := by decide +kernel
theorem dX7_excessAt_5 : decode cX7_excessAt 5 = .ok (.bipush 16, 2) := by decide +kernel
theorem dX7_excessAt_7 : decode cX7_excessAt 7 = .ok (.if_icmp .ge 67, 3) := by decide +kernel
theorem dX7_excessAt_10 : decode cX7_excessAt 10 = .ok (.aload_n 0, 1) := by decide +kernel
theorem dX7_excessAt_11 : decode cX7_excessAt 11 = .ok (.getfield 35, 3) := by decide +kernel
theorem dX7_excessAt_14 : decode cX7_excessAt 14 = .ok (.iload_n 3, 1) := by decide +kernel
theorem dX7_excessAt_15 : decode cX7_excessAt 15 = .ok (.invokevirtual 158, 3) := by decide +kernel
theorem dX7_excessAt_18 : decode cX7_excessAt 18 = .ok (.iconst (-1), 1) := by decide +kernel
theorem dX7_excessAt_19 : decode cX7_excessAt 19 = .ok (.if_icmp .eq 49, 3) := by decide +kernel
theorem dX7_excessAt_22 : decode cX7_excessAt 22 = .ok (.aload_n 0, 1) := by decide +kernel
theorem dX7_excessAt_23 : decode cX7_excessAt 23 = .ok (.getfield 19, 3) := by decide +kernel
theorem dX7_excessAt_26 : decode cX7_excessAt 26 = .ok (.iload_n 3, 1) := by decide +kernel
theorem dX7_excessAt_27 : decode cX7_excessAt 27 = .ok (.invokevirtual 174, 3) := by decide +kernel
theorem dX7_excessAt_30 : decode cX7_excessAt 30 = .ok (.iload_n 1, 1) := by decide +kernel
theorem dX7_excessAt_31 : decode cX7_excessAt 31 = .ok (.if_icmp .ne 14, 3) := by decide +kernel
theorem dX7_excessAt_34 : decode cX7_excessAt 34 = .ok (.iload_n 2, 1) := by decide +kernel
theorem dX7_excessAt_35 : decode cX7_excessAt 35 = .ok (.aload_n 0, 1) := by decide +kernel
theorem dX7_excessAt_36 : decode cX7_excessAt 36 = .ok (.getfield 35, 3) := by decide +kernel
theorem dX7_excessAt_39 : decode cX7_excessAt 39 = .ok (.iload_n 3, 1) := by decide +kernel
theorem dX7_excessAt_40 : decode cX7_excessAt 40 = .ok (.invokevirtual 158, 3) := by decide +kernel
theorem dX7_excessAt_43 : decode cX7_excessAt 43 = .ok (.iadd, 1) := by decide +kernel
theorem dX7_excessAt_44 : decode cX7_excessAt 44 = .ok (.istore_n 2, 1) := by decide +kernel
theorem dX7_excessAt_45 : decode cX7_excessAt 45 = .ok (.aload_n 0, 1) := by decide +kernel
theorem dX7_excessAt_46 : decode cX7_excessAt 46 = .ok (.getfield 19, 3) := by decide +kernel
theorem dX7_excessAt_49 : decode cX7_excessAt 49 = .ok (.iload_n 3, 1) := by decide +kernel
theorem dX7_excessAt_50 : decode cX7_excessAt 50 = .ok (.invokevirtual 171, 3) := by decide +kernel
theorem dX7_excessAt_53 : decode cX7_excessAt 53 = .ok (.iload_n 1, 1) := by decide +kernel
theorem dX7_excessAt_54 : decode cX7_excessAt 54 = .ok (.if_icmp .ne 14, 3) := by decide +kernel
theorem dX7_excessAt_57 : decode cX7_excessAt 57 = .ok (.iload_n 2, 1) := by decide +kernel
theorem dX7_excessAt_58 : decode cX7_excessAt 58 = .ok (.aload_n 0, 1) := by decide +kernel
theorem dX7_excessAt_59 : decode cX7_excessAt 59 = .ok (.getfield 35, 3) := by decide +kernel
theorem dX7_excessAt_62 : decode cX7_excessAt 62 = .ok (.iload_n 3, 1) := by decide +kernel
theorem dX7_excessAt_63 : decode cX7_excessAt 63 = .ok (.invokevirtual 158, 3) := by decide +kernel
theorem dX7_excessAt_66 : decode cX7_excessAt 66 = .ok (.isub, 1) := by decide +kernel
theorem dX7_excessAt_67 : decode cX7_excessAt 67 = .ok (.istore_n 2, 1) := by decide +kernel
theorem dX7_excessAt_68 : decode cX7_excessAt 68 = .ok (.iinc 3 1, 3) := by decide +kernel
theorem dX7_excessAt_71 : decode cX7_excessAt 71 = .ok (.goto (-67), 3) := by decide +kernel
theorem dX7_excessAt_74 : decode cX7_excessAt 74 = .ok (.iload_n 2, 1) := by decide +kernel
theorem dX7_excessAt_75 : decode cX7_excessAt 75 = .ok (.ireturn, 1) := by decide +kernel
theorem dX7_settleBalance_0 : decode cX7_settleBalance 0 = .ok (.aload_n 0, 1) := by decide +kernel
theorem dX7_settleBalance_1 : decode cX7_settleBalance 1 = .ok (.getfield 42, 3) := by decide +kernel
theorem dX7_settleBalance_4 : decode cX7_settleBalance 4 = .ok (.invokevirtual 205, 3) := by decide +kernel
theorem dX7_settleBalance_7 : decode cX7_settleBalance 7 = .ok (.iconst 0, 1) := by decide +kernel
theorem dX7_settleBalance_8 : decode cX7_settleBalance 8 = .ok (.istore_n 1, 1) := by decide +kernel
theorem dX7_settleBalance_9 : decode cX7_settleBalance 9 = .ok (.iload_n 1, 1) := by decide +kernel
theorem dX7_settleBalance_10 : decode cX7_settleBalance 10 = .ok (.bipush 16, 2) := by decide +kernel
theorem dX7_settleBalance_12 : decode cX7_settleBalance 12 = .ok (.if_icmp .ge 52, 3) := by decide +kernel
theorem dX7_settleBalance_15 : decode cX7_settleBalance 15 = .ok (.aload_n 0, 1) := by decide +kernel
theorem dX7_settleBalance_16 : decode cX7_settleBalance 16 = .ok (.getfield 35, 3) := by decide +kernel
theorem dX7_settleBalance_19 : decode cX7_settleBalance 19 = .ok (.iload_n 1, 1) := by decide +kernel
theorem dX7_settleBalance_20 : decode cX7_settleBalance 20 = .ok (.invokevirtual 158, 3) := by decide +kernel
theorem dX7_settleBalance_23 : decode cX7_settleBalance 23 = .ok (.iconst (-1), 1) := by decide +kernel
theorem dX7_settleBalance_24 : decode cX7_settleBalance 24 = .ok (.if_icmp .eq 34, 3) := by decide +kernel
theorem dX7_settleBalance_27 : decode cX7_settleBalance 27 = .ok (.aload_n 0, 1) := by decide +kernel
theorem dX7_settleBalance_28 : decode cX7_settleBalance 28 = .ok (.getfield 42, 3) := by decide +kernel
theorem dX7_settleBalance_31 : decode cX7_settleBalance 31 = .ok (.aload_n 0, 1) := by decide +kernel
theorem dX7_settleBalance_32 : decode cX7_settleBalance 32 = .ok (.getfield 19, 3) := by decide +kernel
theorem dX7_settleBalance_35 : decode cX7_settleBalance 35 = .ok (.iload_n 1, 1) := by decide +kernel
theorem dX7_settleBalance_36 : decode cX7_settleBalance 36 = .ok (.invokevirtual 171, 3) := by decide +kernel
theorem dX7_settleBalance_39 : decode cX7_settleBalance 39 = .ok (.aload_n 0, 1) := by decide +kernel
theorem dX7_settleBalance_40 : decode cX7_settleBalance 40 = .ok (.getfield 19, 3) := by decide +kernel
theorem dX7_settleBalance_43 : decode cX7_settleBalance 43 = .ok (.iload_n 1, 1) := by decide +kernel
theorem dX7_settleBalance_44 : decode cX7_settleBalance 44 = .ok (.invokevirtual 174, 3) := by decide +kernel
theorem dX7_settleBalance_47 : decode cX7_settleBalance 47 = .ok (.aload_n 0, 1) := by decide +kernel
theorem dX7_settleBalance_48 : decode cX7_settleBalance 48 = .ok (.getfield 35, 3) := by decide +kernel
theorem dX7_settleBalance_51 : decode cX7_settleBalance 51 = .ok (.iload_n 1, 1) := by decide +kernel
theorem dX7_settleBalance_52 : decode cX7_settleBalance 52 = .ok (.invokevirtual 177, 3) := by decide +kernel
theorem dX7_settleBalance_55 : decode cX7_settleBalance 55 = .ok (.invokevirtual 208, 3) := by decide +kernel
theorem dX7_settleBalance_58 : decode cX7_settleBalance 58 = .ok (.iinc 1 1, 3) := by decide +kernel
theorem dX7_settleBalance_61 : decode cX7_settleBalance 61 = .ok (.goto (-52), 3) := by decide +kernel
theorem dX7_settleBalance_64 : decode cX7_settleBalance 64 = .ok (.iconst 0, 1) := by decide +kernel
theorem dX7_settleBalance_65 : decode cX7_settleBalance 65 = .ok (.istore_n 1, 1) := by decide +kernel
theorem dX7_settleBalance_66 : decode cX7_settleBalance 66 = .ok (.iload_n 1, 1) := by decide +kernel
theorem dX7_settleBalance_67 : decode cX7_settleBalance 67 = .ok (.iconst 4, 1) := by decide +kernel
theorem dX7_settleBalance_68 : decode cX7_settleBalance 68 = .ok (.if_icmp .ge 22, 3) := by decide +kernel
theorem dX7_settleBalance_71 : decode cX7_settleBalance 71 = .ok (.aload_n 0, 1) := by decide +kernel
theorem dX7_settleBalance_72 : decode cX7_settleBalance 72 = .ok (.getfield 42, 3) := by decide +kernel
theorem dX7_settleBalance_75 : decode cX7_settleBalance 75 = .ok (.iload_n 1, 1) := by decide +kernel
theorem dX7_settleBalance_76 : decode cX7_settleBalance 76 = .ok (.aload_n 0, 1) := by decide +kernel
theorem dX7_settleBalance_77 : decode cX7_settleBalance 77 = .ok (.iload_n 1, 1) := by decide +kernel
theorem dX7_settleBalance_78 : decode cX7_settleBalance 78 = .ok (.invokevirtual 163, 3) := by decide +kernel
theorem dX7_settleBalance_81 : decode cX7_settleBalance 81 = .ok (.invokevirtual 211, 3) := by decide +kernel
theorem dX7_settleBalance_84 : decode cX7_settleBalance 84 = .ok (.iinc 1 1, 3) := by decide +kernel
theorem dX7_settleBalance_87 : decode cX7_settleBalance 87 = .ok (.goto (-21), 3) := by decide +kernel
theorem dX7_settleBalance_90 : decode cX7_settleBalance 90 = .ok (.aload_n 0, 1) := by decide +kernel
theorem dX7_settleBalance_91 : decode cX7_settleBalance 91 = .ok (.getfield 42, 3) := by decide +kernel
theorem dX7_settleBalance_94 : decode cX7_settleBalance 94 = .ok (.invokevirtual 215, 3) := by decide +kernel
theorem dX7_settleBalance_97 : decode cX7_settleBalance 97 = .ok (.return_, 1) := by decide +kernel
