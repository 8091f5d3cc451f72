theorem d_TypeFinder_count_8 : decode b_TypeFinder_count 8 = .ok (.invokevirtual 119, 3) := by decide +kernel
theorem d_TypeFinder_count_11 : decode b_TypeFinder_count 11 = .ok (.ireturn, 1) := by decide +kernel
theorem d_TypeFinder_count_12 : decode b_TypeFinder_count 12 = .ok (.iload_n 1, 1) := by decide +kernel
theorem d_TypeFinder_count_13 : decode b_TypeFinder_count 13 = .ok (.iconst 1, 1) := by decide +kernel
theorem d_TypeFinder_count_14 : decode b_TypeFinder_count 14 = .ok (.if_icmp .ne 14, 3) := by decide +kernel
theorem d_TypeFinder_count_17 : decode b_TypeFinder_count 17 = .ok (.aload_n 0, 1) := by decide +kernel
theorem d_TypeFinder_count_18 : decode b_TypeFinder_count 18 = .ok (.getfield 23, 3) := by decide +kernel
theorem d_TypeFinder_count_21 : decode b_TypeFinder_count 21 = .ok (.getfield 122, 3) := by decide +kernel
theorem d_TypeFinder_count_24 : decode b_TypeFinder_count 24 = .ok (.invokevirtual 126, 3) := by decide +kernel
theorem d_TypeFinder_count_27 : decode b_TypeFinder_count 27 = .ok (.ireturn, 1) := by decide +kernel
theorem d_TypeFinder_count_28 : decode b_TypeFinder_count 28 = .ok (.iload_n 1, 1) := by decide +kernel
theorem d_TypeFinder_count_29 : decode b_TypeFinder_count 29 = .ok (.ifCond .ge 7, 3) := by decide +kernel
theorem d_TypeFinder_count_32 : decode b_TypeFinder_count 32 = .ok (.iconst (-1), 1) := by decide +kernel
theorem d_TypeFinder_count_33 : decode b_TypeFinder_count 33 = .ok (.goto 13, 3) := by decide +kernel
theorem d_TypeFinder_count_36 : decode b_TypeFinder_count 36 = .ok (.aload_n 0, 1) := by decide +kernel
theorem d_TypeFinder_count_37 : decode b_TypeFinder_count 37 = .ok (.getfield 23, 3) := by decide +kernel
theorem d_TypeFinder_count_40 : decode b_TypeFinder_count 40 = .ok (.iload_n 1, 1) := by decide +kernel
theorem d_TypeFinder_count_41 : decode b_TypeFinder_count 41 = .ok (.iconst 2, 1) := by decide +kernel
theorem d_TypeFinder_count_42 : decode b_TypeFinder_count 42 = .ok (.isub, 1) := by decide +kernel
theorem d_TypeFinder_count_43 : decode b_TypeFinder_count 43 = .ok (.invokevirtual 131, 3) := by decide +kernel
theorem d_TypeFinder_count_46 : decode b_TypeFinder_count 46 = .ok (.ireturn, 1) := by decide +kernel
theorem d_TypeFinder_matches_0 : decode b_TypeFinder_matches 0 = .ok (.iload_n 1, 1) := by decide +kernel
theorem d_TypeFinder_matches_1 : decode b_TypeFinder_matches 1 = .ok (.ifCond .ne 8, 3) := by decide +kernel
theorem d_TypeFinder_matches_4 : decode b_TypeFinder_matches 4 = .ok (.aload_n 0, 1) := by decide +kernel
theorem d_TypeFinder_matches_5 : decode b_TypeFinder_matches 5 = .ok (.getfield 113, 3) := by decide +kernel
theorem d_TypeFinder_matches_8 : decode b_TypeFinder_matches 8 = .ok (.ireturn, 1) := by decide +kernel
theorem d_TypeFinder_matches_9 : decode b_TypeFinder_matches 9 = .ok (.iload_n 1, 1) := by decide +kernel
theorem d_TypeFinder_matches_10 : decode b_TypeFinder_matches 10 = .ok (.iconst 1, 1) := by decide +kernel
theorem d_TypeFinder_matches_11 : decode b_TypeFinder_matches 11 = .ok (.if_icmp .ne 10, 3) := by decide +kernel
theorem d_TypeFinder_matches_14 : decode b_TypeFinder_matches 14 = .ok (.aload_n 0, 1) := by decide +kernel
theorem d_TypeFinder_matches_15 : decode b_TypeFinder_matches 15 = .ok (.getfield 116, 3) := by decide +kernel
theorem d_TypeFinder_matches_18 : decode b_TypeFinder_matches 18 = .ok (.goto 4, 3) := by decide +kernel
theorem d_TypeFinder_matches_21 : decode b_TypeFinder_matches 21 = .ok (.iconst (-1), 1) := by decide +kernel
theorem d_TypeFinder_matches_22 : decode b_TypeFinder_matches 22 = .ok (.ireturn, 1) := by decide +kernel
theorem d_TypeFinder_scheme_0 : decode b_TypeFinder_scheme 0 = .ok (.aload_n 0, 1) := by decide +kernel
theorem d_TypeFinder_scheme_1 : decode b_TypeFinder_scheme 1 = .ok (.getfield 23, 3) := by decide +kernel
theorem d_TypeFinder_scheme_4 : decode b_TypeFinder_scheme 4 = .ok (.iload_n 1, 1) := by decide +kernel
theorem d_TypeFinder_scheme_5 : decode b_TypeFinder_scheme 5 = .ok (.invokevirtual 96, 3) := by decide +kernel
theorem d_TypeFinder_scheme_8 : decode b_TypeFinder_scheme 8 = .ok (.astore_n 2, 1) := by decide +kernel
theorem d_TypeFinder_scheme_9 : decode b_TypeFinder_scheme 9 = .ok (.aload_n 2, 1) := by decide +kernel
theorem d_TypeFinder_scheme_10 : decode b_TypeFinder_scheme 10 = .ok (.ifnonnull 7, 3) := by decide +kernel
theorem d_TypeFinder_scheme_13 : decode b_TypeFinder_scheme 13 = .ok (.iconst (-1), 1) := by decide +kernel
theorem d_TypeFinder_scheme_14 : decode b_TypeFinder_scheme 14 = .ok (.goto 14, 3) := by decide +kernel
theorem d_TypeFinder_scheme_28 : decode b_TypeFinder_scheme 28 = .ok (.ireturn, 1) := by decide +kernel
theorem d_TypeFinder_written_0 : decode b_TypeFinder_written 0 = .ok (.aload_n 0, 1) := by decide +kernel
theorem d_TypeFinder_written_1 : decode b_TypeFinder_written 1 = .ok (.getfield 39, 3) := by decide +kernel
theorem d_TypeFinder_written_4 : decode b_TypeFinder_written 4 = .ok (.iload_n 1, 1) := by decide +kernel
theorem d_TypeFinder_written_5 : decode b_TypeFinder_written 5 = .ok (.invokevirtual 105, 3) := by decide +kernel
theorem d_TypeFinder_written_8 : decode b_TypeFinder_written 8 = .ok (.ireturn, 1) := by decide +kernel
