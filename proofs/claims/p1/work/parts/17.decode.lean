theorem dX6_nearValue_1 : decode cX6_nearValue 1 = .ok (.iload_n 2, 1) := by decide +kernel
theorem dX6_nearValue_12 : decode cX6_nearValue 12 = .ok (.iconst 0, 1) := by decide +kernel
theorem dX6_nearValue_13 : decode cX6_nearValue 13 = .ok (.ireturn, 1) := by decide +kernel
theorem dX6_nearValue_14 : decode cX6_nearValue 14 = .ok (.aload_n 0, 1) := by decide +kernel
theorem dX6_nearValue_15 : decode cX6_nearValue 15 = .ok (.getfield 10, 3) := by decide +kernel
theorem dX6_nearValue_18 : decode cX6_nearValue 18 = .ok (.iload_n 1, 1) := by decide +kernel
theorem dX6_nearValue_19 : decode cX6_nearValue 19 = .ok (.iload_n 2, 1) := by decide +kernel
theorem dX6_nearValue_2 : decode cX6_nearValue 2 = .ok (.invokestatic 111, 3) := by decide +kernel
theorem dX6_nearValue_20 : decode cX6_nearValue 20 = .ok (.invokestatic 114, 3) := by decide +kernel
theorem dX6_nearValue_23 : decode cX6_nearValue 23 = .ok (.astore_n 3, 1) := by decide +kernel
theorem dX6_nearValue_24 : decode cX6_nearValue 24 = .ok (.aload_n 3, 1) := by decide +kernel
theorem dX6_nearValue_25 : decode cX6_nearValue 25 = .ok (.ifnonnull 9, 3) := by decide +kernel
theorem dX6_nearValue_28 : decode cX6_nearValue 28 = .ok (.sipush (-1000), 3) := by decide +kernel
theorem dX6_nearValue_31 : decode cX6_nearValue 31 = .ok (.goto 6, 3) := by decide +kernel
theorem dX6_nearValue_37 : decode cX6_nearValue 37 = .ok (.ireturn, 1) := by decide +kernel
theorem dX6_nearValue_5 : decode cX6_nearValue 5 = .ok (.iconst 1, 1) := by decide +kernel
theorem dX6_nearValue_6 : decode cX6_nearValue 6 = .ok (.invokevirtual 77, 3) := by decide +kernel
theorem dX6_nearValue_9 : decode cX6_nearValue 9 = .ok (.ifCond .eq 5, 3) := by decide +kernel
theorem dX6_near_0 : decode cX6_near 0 = .ok (.aload_n 0, 1) := by decide +kernel
theorem dX6_near_1 : decode cX6_near 1 = .ok (.iload_n 2, 1) := by decide +kernel
theorem dX6_near_12 : decode cX6_near 12 = .ok (.aload_n 0, 1) := by decide +kernel
theorem dX6_near_13 : decode cX6_near 13 = .ok (.aload_n 0, 1) := by decide +kernel
theorem dX6_near_14 : decode cX6_near 14 = .ok (.getfield 10, 3) := by decide +kernel
theorem dX6_near_17 : decode cX6_near 17 = .ok (.iload_n 1, 1) := by decide +kernel
theorem dX6_near_18 : decode cX6_near 18 = .ok (.iload_n 2, 1) := by decide +kernel
theorem dX6_near_19 : decode cX6_near 19 = .ok (.invokestatic 114, 3) := by decide +kernel
theorem dX6_near_2 : decode cX6_near 2 = .ok (.invokestatic 111, 3) := by decide +kernel
theorem dX6_near_22 : decode cX6_near 22 = .ok (.ifnonnull 7, 3) := by decide +kernel
theorem dX6_near_25 : decode cX6_near 25 = .ok (.iconst 1, 1) := by decide +kernel
theorem dX6_near_26 : decode cX6_near 26 = .ok (.goto 4, 3) := by decide +kernel
theorem dX6_near_30 : decode cX6_near 30 = .ok (.iconst 2, 1) := by decide +kernel
theorem dX6_near_31 : decode cX6_near 31 = .ok (.invokevirtual 84, 3) := by decide +kernel
theorem dX6_near_34 : decode cX6_near 34 = .ok (.ifCond .eq 7, 3) := by decide +kernel
theorem dX6_near_37 : decode cX6_near 37 = .ok (.iconst 0, 1) := by decide +kernel
theorem dX6_near_38 : decode cX6_near 38 = .ok (.goto 14, 3) := by decide +kernel
theorem dX6_near_5 : decode cX6_near 5 = .ok (.iconst 1, 1) := by decide +kernel
theorem dX6_near_52 : decode cX6_near 52 = .ok (.ireturn, 1) := by decide +kernel
theorem dX6_near_6 : decode cX6_near 6 = .ok (.invokevirtual 77, 3) := by decide +kernel
theorem dX6_near_9 : decode cX6_near 9 = .ok (.ifCond .ne 28, 3) := by decide +kernel
theorem dX6_next_0 : decode cX6_next 0 = .ok (.aload_n 0, 1) := by decide +kernel
theorem dX6_next_1 : decode cX6_next 1 = .ok (.iload_n 1, 1) := by decide +kernel
theorem dX6_next_108 : decode cX6_next 108 = .ok (.aload 4, 2) := by decide +kernel
theorem dX6_next_110 : decode cX6_next 110 = .ok (.invokestatic 140, 3) := by decide +kernel
theorem dX6_next_113 : decode cX6_next 113 = .ok (.areturn, 1) := by decide +kernel
theorem dX6_next_12 : decode cX6_next 12 = .ok (.aload_n 0, 1) := by decide +kernel
theorem dX6_next_13 : decode cX6_next 13 = .ok (.iload_n 2, 1) := by decide +kernel
theorem dX6_next_14 : decode cX6_next 14 = .ok (.iconst 1, 1) := by decide +kernel
theorem dX6_next_15 : decode cX6_next 15 = .ok (.if_icmp .lt 9, 3) := by decide +kernel
theorem dX6_next_18 : decode cX6_next 18 = .ok (.iload_n 2, 1) := by decide +kernel
theorem dX6_next_19 : decode cX6_next 19 = .ok (.bipush 24, 2) := by decide +kernel
theorem dX6_next_2 : decode cX6_next 2 = .ok (.invokestatic 192, 3) := by decide +kernel
theorem dX6_next_21 : decode cX6_next 21 = .ok (.if_icmp .le 7, 3) := by decide +kernel
theorem dX6_next_24 : decode cX6_next 24 = .ok (.iconst 1, 1) := by decide +kernel
theorem dX6_next_25 : decode cX6_next 25 = .ok (.goto 4, 3) := by decide +kernel
theorem dX6_next_28 : decode cX6_next 28 = .ok (.iconst 0, 1) := by decide +kernel
theorem dX6_next_29 : decode cX6_next 29 = .ok (.iconst 2, 1) := by decide +kernel
theorem dX6_next_30 : decode cX6_next 30 = .ok (.invokevirtual 84, 3) := by decide +kernel
theorem dX6_next_33 : decode cX6_next 33 = .ok (.ifCond .eq 6, 3) := by decide +kernel
theorem dX6_next_36 : decode cX6_next 36 = .ok (.ldc 122, 2) := by decide +kernel
theorem dX6_next_38 : decode cX6_next 38 = .ok (.areturn, 1) := by decide +kernel
theorem dX6_next_39 : decode cX6_next 39 = .ok (.aload_n 0, 1) := by decide +kernel
theorem dX6_next_40 : decode cX6_next 40 = .ok (.iload_n 1, 1) := by decide +kernel
theorem dX6_next_41 : decode cX6_next 41 = .ok (.invokevirtual 195, 3) := by decide +kernel
theorem dX6_next_44 : decode cX6_next 44 = .ok (.astore_n 3, 1) := by decide +kernel
theorem dX6_next_45 : decode cX6_next 45 = .ok (.iload_n 2, 1) := by decide +kernel
theorem dX6_next_46 : decode cX6_next 46 = .ok (.aload_n 3, 1) := by decide +kernel
theorem dX6_next_47 : decode cX6_next 47 = .ok (.arraylength, 1) := by decide +kernel
theorem dX6_next_48 : decode cX6_next 48 = .ok (.invokestatic 199, 3) := by decide +kernel
theorem dX6_next_5 : decode cX6_next 5 = .ok (.iconst 1, 1) := by decide +kernel
theorem dX6_next_51 : decode cX6_next 51 = .ok (.newarray .int, 2) := by decide +kernel
theorem dX6_next_53 : decode cX6_next 53 = .ok (.astore 4, 2) := by decide +kernel
theorem dX6_next_55 : decode cX6_next 55 = .ok (.iconst 0, 1) := by decide +kernel
theorem dX6_next_56 : decode cX6_next 56 = .ok (.istore 5, 2) := by decide +kernel
theorem dX6_next_58 : decode cX6_next 58 = .ok (.iload 5, 2) := by decide +kernel
theorem dX6_next_6 : decode cX6_next 6 = .ok (.invokevirtual 77, 3) := by decide +kernel
theorem dX6_next_60 : decode cX6_next 60 = .ok (.aload 4, 2) := by decide +kernel
theorem dX6_next_62 : decode cX6_next 62 = .ok (.arraylength, 1) := by decide +kernel
theorem dX6_next_63 : decode cX6_next 63 = .ok (.if_icmp .ge 45, 3) := by decide +kernel
theorem dX6_next_9 : decode cX6_next 9 = .ok (.ifCond .ne 27, 3) := by decide +kernel
theorem dX6_ofPager_0 : decode cX6_ofPager 0 = .ok (.aload_n 0, 1) := by decide +kernel
theorem dX6_ofPager_1 : decode cX6_ofPager 1 = .ok (.iload_n 1, 1) := by decide +kernel
theorem dX6_ofPager_12 : decode cX6_ofPager 12 = .ok (.aload_n 0, 1) := by decide +kernel
theorem dX6_ofPager_13 : decode cX6_ofPager 13 = .ok (.iload_n 2, 1) := by decide +kernel
theorem dX6_ofPager_14 : decode cX6_ofPager 14 = .ok (.ifCond .lt 8, 3) := by decide +kernel
theorem dX6_ofPager_17 : decode cX6_ofPager 17 = .ok (.iload_n 2, 1) := by decide +kernel
theorem dX6_ofPager_18 : decode cX6_ofPager 18 = .ok (.iconst 3, 1) := by decide +kernel
theorem dX6_ofPager_19 : decode cX6_ofPager 19 = .ok (.if_icmp .le 7, 3) := by decide +kernel
theorem dX6_ofPager_2 : decode cX6_ofPager 2 = .ok (.invokestatic 192, 3) := by decide +kernel
theorem dX6_ofPager_22 : decode cX6_ofPager 22 = .ok (.iconst 1, 1) := by decide +kernel
theorem dX6_ofPager_23 : decode cX6_ofPager 23 = .ok (.goto 4, 3) := by decide +kernel
theorem dX6_ofPager_26 : decode cX6_ofPager 26 = .ok (.iconst 0, 1) := by decide +kernel
theorem dX6_ofPager_27 : decode cX6_ofPager 27 = .ok (.iconst 2, 1) := by decide +kernel
theorem dX6_ofPager_28 : decode cX6_ofPager 28 = .ok (.invokevirtual 84, 3) := by decide +kernel
theorem dX6_ofPager_31 : decode cX6_ofPager 31 = .ok (.ifCond .eq 7, 3) := by decide +kernel
theorem dX6_ofPager_34 : decode cX6_ofPager 34 = .ok (.iconst 0, 1) := by decide +kernel
theorem dX6_ofPager_35 : decode cX6_ofPager 35 = .ok (.goto 9, 3) := by decide +kernel
theorem dX6_ofPager_38 : decode cX6_ofPager 38 = .ok (.aload_n 0, 1) := by decide +kernel
theorem dX6_ofPager_39 : decode cX6_ofPager 39 = .ok (.iload_n 1, 1) := by decide +kernel
theorem dX6_ofPager_40 : decode cX6_ofPager 40 = .ok (.iload_n 2, 1) := by decide +kernel
theorem dX6_ofPager_41 : decode cX6_ofPager 41 = .ok (.invokevirtual 208, 3) := by decide +kernel
theorem dX6_ofPager_44 : decode cX6_ofPager 44 = .ok (.ireturn, 1) := by decide +kernel
theorem dX6_ofPager_5 : decode cX6_ofPager 5 = .ok (.iconst 1, 1) := by decide +kernel
theorem dX6_ofPager_6 : decode cX6_ofPager 6 = .ok (.invokevirtual 77, 3) := by decide +kernel
theorem dX6_ofPager_9 : decode cX6_ofPager 9 = .ok (.ifCond .ne 25, 3) := by decide +kernel
theorem dX6_one_0 : decode cX6_one 0 = .ok (.iload_n 0, 1) := by decide +kernel
theorem dX6_one_1 : decode cX6_one 1 = .ok (.ifCond .eq 7, 3) := by decide +kernel
theorem dX6_one_8 : decode cX6_one 8 = .ok (.iconst 0, 1) := by decide +kernel
theorem dX6_one_9 : decode cX6_one 9 = .ok (.ireturn, 1) := by decide +kernel
theorem dX6_page_0 : decode cX6_page 0 = .ok (.aload_n 0, 1) := by decide +kernel
theorem dX6_page_1 : decode cX6_page 1 = .ok (.iload_n 1, 1) := by decide +kernel
theorem dX6_page_12 : decode cX6_page 12 = .ok (.iconst 0, 1) := by decide +kernel
theorem dX6_page_13 : decode cX6_page 13 = .ok (.ireturn, 1) := by decide +kernel
theorem dX6_page_14 : decode cX6_page 14 = .ok (.aload_n 0, 1) := by decide +kernel
theorem dX6_page_15 : decode cX6_page 15 = .ok (.getfield 33, 3) := by decide +kernel
theorem dX6_page_18 : decode cX6_page 18 = .ok (.iload_n 1, 1) := by decide +kernel
theorem dX6_page_19 : decode cX6_page 19 = .ok (.iaload, 1) := by decide +kernel
theorem dX6_page_2 : decode cX6_page 2 = .ok (.invokestatic 192, 3) := by decide +kernel
theorem dX6_page_20 : decode cX6_page 20 = .ok (.istore_n 2, 1) := by decide +kernel
theorem dX6_page_21 : decode cX6_page 21 = .ok (.aload_n 0, 1) := by decide +kernel
theorem dX6_page_22 : decode cX6_page 22 = .ok (.getfield 25, 3) := by decide +kernel
theorem dX6_page_25 : decode cX6_page 25 = .ok (.iload_n 1, 1) := by decide +kernel
theorem dX6_page_26 : decode cX6_page 26 = .ok (.iconst 0, 1) := by decide +kernel
theorem dX6_page_27 : decode cX6_page 27 = .ok (.bastore, 1) := by decide +kernel
theorem dX6_page_28 : decode cX6_page 28 = .ok (.aload_n 0, 1) := by decide +kernel
theorem dX6_page_29 : decode cX6_page 29 = .ok (.getfield 29, 3) := by decide +kernel
theorem dX6_page_32 : decode cX6_page 32 = .ok (.iload_n 1, 1) := by decide +kernel
theorem dX6_page_33 : decode cX6_page 33 = .ok (.iconst 0, 1) := by decide +kernel
theorem dX6_page_34 : decode cX6_page 34 = .ok (.iastore, 1) := by decide +kernel
theorem dX6_page_35 : decode cX6_page 35 = .ok (.aload_n 0, 1) := by decide +kernel
theorem dX6_page_36 : decode cX6_page 36 = .ok (.getfield 33, 3) := by decide +kernel
theorem dX6_page_39 : decode cX6_page 39 = .ok (.iload_n 1, 1) := by decide +kernel
theorem dX6_page_40 : decode cX6_page 40 = .ok (.iconst 0, 1) := by decide +kernel
theorem dX6_page_41 : decode cX6_page 41 = .ok (.iastore, 1) := by decide +kernel
theorem dX6_page_42 : decode cX6_page 42 = .ok (.iload_n 2, 1) := by decide +kernel
theorem dX6_page_43 : decode cX6_page 43 = .ok (.ireturn, 1) := by decide +kernel
theorem dX6_page_5 : decode cX6_page 5 = .ok (.iconst 1, 1) := by decide +kernel
theorem dX6_page_6 : decode cX6_page 6 = .ok (.invokevirtual 77, 3) := by decide +kernel
theorem dX6_page_9 : decode cX6_page 9 = .ok (.ifCond .eq 5, 3) := by decide +kernel
theorem dX6_pagerNow_0 : decode cX6_pagerNow 0 = .ok (.iload_n 2, 1) := by decide +kernel
theorem dX6_pagerNow_1 : decode cX6_pagerNow 1 = .ok (.ifCond .ne 12, 3) := by decide +kernel
theorem dX6_pagerNow_10 : decode cX6_pagerNow 10 = .ok (.goto 40, 3) := by decide +kernel
theorem dX6_pagerNow_13 : decode cX6_pagerNow 13 = .ok (.iload_n 2, 1) := by decide +kernel
theorem dX6_pagerNow_14 : decode cX6_pagerNow 14 = .ok (.iconst 1, 1) := by decide +kernel
theorem dX6_pagerNow_15 : decode cX6_pagerNow 15 = .ok (.if_icmp .ne 12, 3) := by decide +kernel
theorem dX6_pagerNow_18 : decode cX6_pagerNow 18 = .ok (.aload_n 0, 1) := by decide +kernel
theorem dX6_pagerNow_19 : decode cX6_pagerNow 19 = .ok (.iload_n 1, 1) := by decide +kernel
theorem dX6_pagerNow_20 : decode cX6_pagerNow 20 = .ok (.invokevirtual 195, 3) := by decide +kernel
theorem dX6_pagerNow_23 : decode cX6_pagerNow 23 = .ok (.arraylength, 1) := by decide +kernel
theorem dX6_pagerNow_24 : decode cX6_pagerNow 24 = .ok (.goto 26, 3) := by decide +kernel
theorem dX6_pagerNow_27 : decode cX6_pagerNow 27 = .ok (.iload_n 2, 1) := by decide +kernel
theorem dX6_pagerNow_28 : decode cX6_pagerNow 28 = .ok (.iconst 2, 1) := by decide +kernel
theorem dX6_pagerNow_29 : decode cX6_pagerNow 29 = .ok (.if_icmp .ne 15, 3) := by decide +kernel
theorem dX6_pagerNow_32 : decode cX6_pagerNow 32 = .ok (.aload_n 0, 1) := by decide +kernel
theorem dX6_pagerNow_33 : decode cX6_pagerNow 33 = .ok (.getfield 25, 3) := by decide +kernel
theorem dX6_pagerNow_36 : decode cX6_pagerNow 36 = .ok (.iload_n 1, 1) := by decide +kernel
theorem dX6_pagerNow_37 : decode cX6_pagerNow 37 = .ok (.baload, 1) := by decide +kernel
theorem dX6_pagerNow_38 : decode cX6_pagerNow 38 = .ok (.invokestatic 204, 3) := by decide +kernel
theorem dX6_pagerNow_4 : decode cX6_pagerNow 4 = .ok (.aload_n 0, 1) := by decide +kernel
theorem dX6_pagerNow_41 : decode cX6_pagerNow 41 = .ok (.goto 9, 3) := by decide +kernel
theorem dX6_pagerNow_44 : decode cX6_pagerNow 44 = .ok (.aload_n 0, 1) := by decide +kernel
theorem dX6_pagerNow_45 : decode cX6_pagerNow 45 = .ok (.getfield 29, 3) := by decide +kernel
theorem dX6_pagerNow_48 : decode cX6_pagerNow 48 = .ok (.iload_n 1, 1) := by decide +kernel
theorem dX6_pagerNow_49 : decode cX6_pagerNow 49 = .ok (.iaload, 1) := by decide +kernel
theorem dX6_pagerNow_5 : decode cX6_pagerNow 5 = .ok (.getfield 33, 3) := by decide +kernel
theorem dX6_pagerNow_50 : decode cX6_pagerNow 50 = .ok (.ireturn, 1) := by decide +kernel
theorem dX6_pagerNow_8 : decode cX6_pagerNow 8 = .ok (.iload_n 1, 1) := by decide +kernel
theorem dX6_pagerNow_9 : decode cX6_pagerNow 9 = .ok (.iaload, 1) := by decide +kernel
theorem dX6_poll_0 : decode cX6_poll 0 = .ok (.aload_n 0, 1) := by decide +kernel
theorem dX6_poll_1 : decode cX6_poll 1 = .ok (.aload_n 0, 1) := by decide +kernel
theorem dX6_poll_11 : decode cX6_poll 11 = .ok (.iconst 1, 1) := by decide +kernel
theorem dX6_poll_12 : decode cX6_poll 12 = .ok (.goto 4, 3) := by decide +kernel
theorem dX6_poll_16 : decode cX6_poll 16 = .ok (.iconst 1, 1) := by decide +kernel
theorem dX6_poll_17 : decode cX6_poll 17 = .ok (.invokevirtual 77, 3) := by decide +kernel
theorem dX6_poll_2 : decode cX6_poll 2 = .ok (.getfield 10, 3) := by decide +kernel
theorem dX6_poll_20 : decode cX6_poll 20 = .ok (.ifCond .eq 7, 3) := by decide +kernel
theorem dX6_poll_23 : decode cX6_poll 23 = .ok (.iconst 0, 1) := by decide +kernel
theorem dX6_poll_24 : decode cX6_poll 24 = .ok (.goto 15, 3) := by decide +kernel
theorem dX6_poll_39 : decode cX6_poll 39 = .ok (.ireturn, 1) := by decide +kernel
theorem dX6_poll_5 : decode cX6_poll 5 = .ok (.invokevirtual 40, 3) := by decide +kernel
theorem dX6_poll_8 : decode cX6_poll 8 = .ok (.ifCond .ne 7, 3) := by decide +kernel
theorem dX6_putNew_0 : decode cX6_putNew 0 = .ok (.aload_n 0, 1) := by decide +kernel
theorem dX6_putNew_1 : decode cX6_putNew 1 = .ok (.iload_n 2, 1) := by decide +kernel
theorem dX6_putNew_12 : decode cX6_putNew 12 = .ok (.aload_n 0, 1) := by decide +kernel
theorem dX6_putNew_13 : decode cX6_putNew 13 = .ok (.aload_n 0, 1) := by decide +kernel
theorem dX6_putNew_14 : decode cX6_putNew 14 = .ok (.iload_n 1, 1) := by decide +kernel
theorem dX6_putNew_15 : decode cX6_putNew 15 = .ok (.invokevirtual 81, 3) := by decide +kernel
theorem dX6_putNew_18 : decode cX6_putNew 18 = .ok (.iconst 2, 1) := by decide +kernel
theorem dX6_putNew_19 : decode cX6_putNew 19 = .ok (.invokevirtual 84, 3) := by decide +kernel
theorem dX6_putNew_2 : decode cX6_putNew 2 = .ok (.invokestatic 73, 3) := by decide +kernel
theorem dX6_putNew_22 : decode cX6_putNew 22 = .ok (.ifCond .eq 5, 3) := by decide +kernel
theorem dX6_putNew_25 : decode cX6_putNew 25 = .ok (.iconst 0, 1) := by decide +kernel
theorem dX6_putNew_26 : decode cX6_putNew 26 = .ok (.ireturn, 1) := by decide +kernel
theorem dX6_putNew_27 : decode cX6_putNew 27 = .ok (.aload_n 0, 1) := by decide +kernel
theorem dX6_putNew_28 : decode cX6_putNew 28 = .ok (.getfield 10, 3) := by decide +kernel
theorem dX6_putNew_31 : decode cX6_putNew 31 = .ok (.iload_n 1, 1) := by decide +kernel
theorem dX6_putNew_32 : decode cX6_putNew 32 = .ok (.invokestatic 60, 3) := by decide +kernel
theorem dX6_putNew_35 : decode cX6_putNew 35 = .ok (.istore_n 3, 1) := by decide +kernel
theorem dX6_putNew_36 : decode cX6_putNew 36 = .ok (.aload_n 0, 1) := by decide +kernel
theorem dX6_putNew_37 : decode cX6_putNew 37 = .ok (.iload_n 1, 1) := by decide +kernel
theorem dX6_putNew_38 : decode cX6_putNew 38 = .ok (.iload_n 3, 1) := by decide +kernel
theorem dX6_putNew_39 : decode cX6_putNew 39 = .ok (.sipush (-1000), 3) := by decide +kernel
theorem dX6_putNew_42 : decode cX6_putNew 42 = .ok (.if_icmp .ne 7, 3) := by decide +kernel
theorem dX6_putNew_45 : decode cX6_putNew 45 = .ok (.iload_n 2, 1) := by decide +kernel
theorem dX6_putNew_46 : decode cX6_putNew 46 = .ok (.goto 4, 3) := by decide +kernel
theorem dX6_putNew_5 : decode cX6_putNew 5 = .ok (.iconst 1, 1) := by decide +kernel
theorem dX6_putNew_50 : decode cX6_putNew 50 = .ok (.invokevirtual 87, 3) := by decide +kernel
theorem dX6_putNew_53 : decode cX6_putNew 53 = .ok (.ireturn, 1) := by decide +kernel
theorem dX6_putNew_6 : decode cX6_putNew 6 = .ok (.invokevirtual 77, 3) := by decide +kernel
theorem dX6_putNew_9 : decode cX6_putNew 9 = .ok (.ifCond .ne 16, 3) := by decide +kernel
theorem dX6_putNow_0 : decode cX6_putNow 0 = .ok (.aload_n 0, 1) := by decide +kernel
theorem dX6_putNow_1 : decode cX6_putNow 1 = .ok (.getfield 10, 3) := by decide +kernel
theorem dX6_putNow_10 : decode cX6_putNow 10 = .ok (.iload_n 1, 1) := by decide +kernel
theorem dX6_putNow_11 : decode cX6_putNow 11 = .ok (.iload_n 2, 1) := by decide +kernel
theorem dX6_putNow_12 : decode cX6_putNow 12 = .ok (.invokevirtual 67, 3) := by decide +kernel
theorem dX6_putNow_15 : decode cX6_putNow 15 = .ok (.aload_n 0, 1) := by decide +kernel
theorem dX6_putNow_16 : decode cX6_putNow 16 = .ok (.invokevirtual 70, 3) := by decide +kernel
theorem dX6_putNow_19 : decode cX6_putNow 19 = .ok (.pop, 1) := by decide +kernel
theorem dX6_putNow_20 : decode cX6_putNow 20 = .ok (.iload_n 3, 1) := by decide +kernel
theorem dX6_putNow_21 : decode cX6_putNow 21 = .ok (.ireturn, 1) := by decide +kernel
theorem dX6_putNow_4 : decode cX6_putNow 4 = .ok (.iload_n 1, 1) := by decide +kernel
theorem dX6_putNow_5 : decode cX6_putNow 5 = .ok (.invokestatic 60, 3) := by decide +kernel
theorem dX6_putNow_8 : decode cX6_putNow 8 = .ok (.istore_n 3, 1) := by decide +kernel
theorem dX6_putNow_9 : decode cX6_putNow 9 = .ok (.aload_n 0, 1) := by decide +kernel
theorem dX6_put_0 : decode cX6_put 0 = .ok (.aload_n 0, 1) := by decide +kernel
theorem dX6_put_1 : decode cX6_put 1 = .ok (.iload_n 2, 1) := by decide +kernel
theorem dX6_put_12 : decode cX6_put 12 = .ok (.aload_n 0, 1) := by decide +kernel
theorem dX6_put_13 : decode cX6_put 13 = .ok (.aload_n 0, 1) := by decide +kernel
theorem dX6_put_14 : decode cX6_put 14 = .ok (.iload_n 1, 1) := by decide +kernel
theorem dX6_put_15 : decode cX6_put 15 = .ok (.invokevirtual 81, 3) := by decide +kernel
theorem dX6_put_18 : decode cX6_put 18 = .ok (.iconst 2, 1) := by decide +kernel
theorem dX6_put_19 : decode cX6_put 19 = .ok (.invokevirtual 84, 3) := by decide +kernel
theorem dX6_put_2 : decode cX6_put 2 = .ok (.invokestatic 73, 3) := by decide +kernel
theorem dX6_put_22 : decode cX6_put 22 = .ok (.ifCond .eq 7, 3) := by decide +kernel
theorem dX6_put_25 : decode cX6_put 25 = .ok (.iconst 0, 1) := by decide +kernel
theorem dX6_put_26 : decode cX6_put 26 = .ok (.goto 9, 3) := by decide +kernel
theorem dX6_put_29 : decode cX6_put 29 = .ok (.aload_n 0, 1) := by decide +kernel
theorem dX6_put_30 : decode cX6_put 30 = .ok (.iload_n 1, 1) := by decide +kernel
theorem dX6_put_31 : decode cX6_put 31 = .ok (.iload_n 2, 1) := by decide +kernel
theorem dX6_put_32 : decode cX6_put 32 = .ok (.invokevirtual 87, 3) := by decide +kernel
theorem dX6_put_35 : decode cX6_put 35 = .ok (.ireturn, 1) := by decide +kernel
theorem dX6_put_5 : decode cX6_put 5 = .ok (.iconst 1, 1) := by decide +kernel
theorem dX6_put_6 : decode cX6_put 6 = .ok (.invokevirtual 77, 3) := by decide +kernel
theorem dX6_put_9 : decode cX6_put 9 = .ok (.ifCond .ne 16, 3) := by decide +kernel
theorem dX6_rangeAge_0 : decode cX6_rangeAge 0 = .ok (.aload_n 0, 1) := by decide +kernel
theorem dX6_rangeAge_1 : decode cX6_rangeAge 1 = .ok (.iload_n 1, 1) := by decide +kernel
theorem dX6_rangeAge_10 : decode cX6_rangeAge 10 = .ok (.iconst 0, 1) := by decide +kernel
theorem dX6_rangeAge_11 : decode cX6_rangeAge 11 = .ok (.iconst 1, 1) := by decide +kernel
theorem dX6_rangeAge_12 : decode cX6_rangeAge 12 = .ok (.invokevirtual 77, 3) := by decide +kernel
theorem dX6_rangeAge_15 : decode cX6_rangeAge 15 = .ok (.ifCond .ne 28, 3) := by decide +kernel
theorem dX6_rangeAge_18 : decode cX6_rangeAge 18 = .ok (.aload_n 0, 1) := by decide +kernel
theorem dX6_rangeAge_19 : decode cX6_rangeAge 19 = .ok (.aload_n 0, 1) := by decide +kernel
theorem dX6_rangeAge_2 : decode cX6_rangeAge 2 = .ok (.iload_n 2, 1) := by decide +kernel
theorem dX6_rangeAge_20 : decode cX6_rangeAge 20 = .ok (.iload_n 1, 1) := by decide +kernel
theorem dX6_rangeAge_21 : decode cX6_rangeAge 21 = .ok (.iload_n 2, 1) := by decide +kernel
theorem dX6_rangeAge_22 : decode cX6_rangeAge 22 = .ok (.invokevirtual 103, 3) := by decide +kernel
theorem dX6_rangeAge_25 : decode cX6_rangeAge 25 = .ok (.invokevirtual 40, 3) := by decide +kernel
theorem dX6_rangeAge_28 : decode cX6_rangeAge 28 = .ok (.ifCond .ne 7, 3) := by decide +kernel
theorem dX6_rangeAge_3 : decode cX6_rangeAge 3 = .ok (.if_icmp .le 7, 3) := by decide +kernel
theorem dX6_rangeAge_31 : decode cX6_rangeAge 31 = .ok (.iconst 1, 1) := by decide +kernel
theorem dX6_rangeAge_32 : decode cX6_rangeAge 32 = .ok (.goto 4, 3) := by decide +kernel
theorem dX6_rangeAge_36 : decode cX6_rangeAge 36 = .ok (.iconst 2, 1) := by decide +kernel
theorem dX6_rangeAge_37 : decode cX6_rangeAge 37 = .ok (.invokevirtual 84, 3) := by decide +kernel
theorem dX6_rangeAge_40 : decode cX6_rangeAge 40 = .ok (.ifCond .eq 7, 3) := by decide +kernel
theorem dX6_rangeAge_43 : decode cX6_rangeAge 43 = .ok (.iconst 0, 1) := by decide +kernel
theorem dX6_rangeAge_44 : decode cX6_rangeAge 44 = .ok (.goto 13, 3) := by decide +kernel
theorem dX6_rangeAge_57 : decode cX6_rangeAge 57 = .ok (.ireturn, 1) := by decide +kernel
theorem dX6_rangeAge_6 : decode cX6_rangeAge 6 = .ok (.iconst 1, 1) := by decide +kernel
theorem dX6_rangeAge_7 : decode cX6_rangeAge 7 = .ok (.goto 4, 3) := by decide +kernel
theorem dX6_rangeClear_0 : decode cX6_rangeClear 0 = .ok (.aload_n 0, 1) := by decide +kernel
theorem dX6_rangeClear_1 : decode cX6_rangeClear 1 = .ok (.iconst 0, 1) := by decide +kernel
theorem dX6_rangeClear_10 : decode cX6_rangeClear 10 = .ok (.sipush (-9999), 3) := by decide +kernel
theorem dX6_rangeClear_13 : decode cX6_rangeClear 13 = .ok (.ireturn, 1) := by decide +kernel
theorem dX6_rangeClear_14 : decode cX6_rangeClear 14 = .ok (.aload_n 0, 1) := by decide +kernel
theorem dX6_rangeClear_15 : decode cX6_rangeClear 15 = .ok (.iload_n 1, 1) := by decide +kernel
theorem dX6_rangeClear_16 : decode cX6_rangeClear 16 = .ok (.iload_n 2, 1) := by decide +kernel
theorem dX6_rangeClear_17 : decode cX6_rangeClear 17 = .ok (.invokevirtual 103, 3) := by decide +kernel
theorem dX6_rangeClear_2 : decode cX6_rangeClear 2 = .ok (.putfield 36, 3) := by decide +kernel
theorem dX6_rangeClear_20 : decode cX6_rangeClear 20 = .ok (.invokestatic 95, 3) := by decide +kernel
theorem dX6_rangeClear_23 : decode cX6_rangeClear 23 = .ok (.astore_n 3, 1) := by decide +kernel
theorem dX6_rangeClear_24 : decode cX6_rangeClear 24 = .ok (.aload_n 3, 1) := by decide +kernel
theorem dX6_rangeClear_25 : decode cX6_rangeClear 25 = .ok (.arraylength, 1) := by decide +kernel
theorem dX6_rangeClear_26 : decode cX6_rangeClear 26 = .ok (.istore 4, 2) := by decide +kernel
theorem dX6_rangeClear_28 : decode cX6_rangeClear 28 = .ok (.iconst 0, 1) := by decide +kernel
theorem dX6_rangeClear_29 : decode cX6_rangeClear 29 = .ok (.istore 5, 2) := by decide +kernel
theorem dX6_rangeClear_31 : decode cX6_rangeClear 31 = .ok (.iload 5, 2) := by decide +kernel
theorem dX6_rangeClear_33 : decode cX6_rangeClear 33 = .ok (.iload 4, 2) := by decide +kernel
theorem dX6_rangeClear_35 : decode cX6_rangeClear 35 = .ok (.if_icmp .ge 21, 3) := by decide +kernel
theorem dX6_rangeClear_5 : decode cX6_rangeClear 5 = .ok (.iload_n 1, 1) := by decide +kernel
theorem dX6_rangeClear_56 : decode cX6_rangeClear 56 = .ok (.aload_n 0, 1) := by decide +kernel
theorem dX6_rangeClear_57 : decode cX6_rangeClear 57 = .ok (.invokevirtual 70, 3) := by decide +kernel
theorem dX6_rangeClear_6 : decode cX6_rangeClear 6 = .ok (.iload_n 2, 1) := by decide +kernel
theorem dX6_rangeClear_60 : decode cX6_rangeClear 60 = .ok (.ireturn, 1) := by decide +kernel
theorem dX6_rangeClear_7 : decode cX6_rangeClear 7 = .ok (.if_icmp .le 7, 3) := by decide +kernel
theorem dX6_rangeEnd_0 : decode cX6_rangeEnd 0 = .ok (.aload_n 0, 1) := by decide +kernel
theorem dX6_rangeEnd_1 : decode cX6_rangeEnd 1 = .ok (.iload_n 1, 1) := by decide +kernel
theorem dX6_rangeEnd_10 : decode cX6_rangeEnd 10 = .ok (.iconst 0, 1) := by decide +kernel
theorem dX6_rangeEnd_11 : decode cX6_rangeEnd 11 = .ok (.iconst 1, 1) := by decide +kernel
theorem dX6_rangeEnd_12 : decode cX6_rangeEnd 12 = .ok (.invokevirtual 77, 3) := by decide +kernel
theorem dX6_rangeEnd_15 : decode cX6_rangeEnd 15 = .ok (.ifCond .ne 28, 3) := by decide +kernel
theorem dX6_rangeEnd_18 : decode cX6_rangeEnd 18 = .ok (.aload_n 0, 1) := by decide +kernel
theorem dX6_rangeEnd_19 : decode cX6_rangeEnd 19 = .ok (.aload_n 0, 1) := by decide +kernel
theorem dX6_rangeEnd_2 : decode cX6_rangeEnd 2 = .ok (.iload_n 2, 1) := by decide +kernel
theorem dX6_rangeEnd_20 : decode cX6_rangeEnd 20 = .ok (.iload_n 1, 1) := by decide +kernel
theorem dX6_rangeEnd_21 : decode cX6_rangeEnd 21 = .ok (.iload_n 2, 1) := by decide +kernel
theorem dX6_rangeEnd_22 : decode cX6_rangeEnd 22 = .ok (.invokevirtual 103, 3) := by decide +kernel
theorem dX6_rangeEnd_25 : decode cX6_rangeEnd 25 = .ok (.invokevirtual 40, 3) := by decide +kernel
theorem dX6_rangeEnd_28 : decode cX6_rangeEnd 28 = .ok (.ifCond .ne 7, 3) := by decide +kernel
theorem dX6_rangeEnd_3 : decode cX6_rangeEnd 3 = .ok (.if_icmp .le 7, 3) := by decide +kernel
theorem dX6_rangeEnd_31 : decode cX6_rangeEnd 31 = .ok (.iconst 1, 1) := by decide +kernel
theorem dX6_rangeEnd_32 : decode cX6_rangeEnd 32 = .ok (.goto 4, 3) := by decide +kernel
theorem dX6_rangeEnd_36 : decode cX6_rangeEnd 36 = .ok (.iconst 2, 1) := by decide +kernel
theorem dX6_rangeEnd_37 : decode cX6_rangeEnd 37 = .ok (.invokevirtual 84, 3) := by decide +kernel
theorem dX6_rangeEnd_40 : decode cX6_rangeEnd 40 = .ok (.ifCond .eq 7, 3) := by decide +kernel
theorem dX6_rangeEnd_43 : decode cX6_rangeEnd 43 = .ok (.iconst 0, 1) := by decide +kernel
theorem dX6_rangeEnd_44 : decode cX6_rangeEnd 44 = .ok (.goto 13, 3) := by decide +kernel
theorem dX6_rangeEnd_57 : decode cX6_rangeEnd 57 = .ok (.ireturn, 1) := by decide +kernel
theorem dX6_rangeEnd_6 : decode cX6_rangeEnd 6 = .ok (.iconst 1, 1) := by decide +kernel
theorem dX6_rangeEnd_7 : decode cX6_rangeEnd 7 = .ok (.goto 4, 3) := by decide +kernel
theorem dX6_rangeNear_0 : decode cX6_rangeNear 0 = .ok (.aload_n 0, 1) := by decide +kernel
theorem dX6_rangeNear_1 : decode cX6_rangeNear 1 = .ok (.iload_n 1, 1) := by decide +kernel
theorem dX6_rangeNear_11 : decode cX6_rangeNear 11 = .ok (.ifCond .eq 7, 3) := by decide +kernel
theorem dX6_rangeNear_14 : decode cX6_rangeNear 14 = .ok (.iconst 1, 1) := by decide +kernel
theorem dX6_rangeNear_15 : decode cX6_rangeNear 15 = .ok (.goto 4, 3) := by decide +kernel
theorem dX6_rangeNear_18 : decode cX6_rangeNear 18 = .ok (.iconst 0, 1) := by decide +kernel
theorem dX6_rangeNear_19 : decode cX6_rangeNear 19 = .ok (.iconst 1, 1) := by decide +kernel
theorem dX6_rangeNear_2 : decode cX6_rangeNear 2 = .ok (.iload_n 2, 1) := by decide +kernel
theorem dX6_rangeNear_20 : decode cX6_rangeNear 20 = .ok (.invokevirtual 77, 3) := by decide +kernel
theorem dX6_rangeNear_23 : decode cX6_rangeNear 23 = .ok (.ifCond .ne 31, 3) := by decide +kernel
theorem dX6_rangeNear_26 : decode cX6_rangeNear 26 = .ok (.aload_n 0, 1) := by decide +kernel
theorem dX6_rangeNear_27 : decode cX6_rangeNear 27 = .ok (.aload_n 0, 1) := by decide +kernel
theorem dX6_rangeNear_28 : decode cX6_rangeNear 28 = .ok (.iload_n 1, 1) := by decide +kernel
theorem dX6_rangeNear_29 : decode cX6_rangeNear 29 = .ok (.iload_n 2, 1) := by decide +kernel
theorem dX6_rangeNear_3 : decode cX6_rangeNear 3 = .ok (.if_icmp .gt 11, 3) := by decide +kernel
theorem dX6_rangeNear_30 : decode cX6_rangeNear 30 = .ok (.invokevirtual 103, 3) := by decide +kernel
theorem dX6_rangeNear_33 : decode cX6_rangeNear 33 = .ok (.iload_n 3, 1) := by decide +kernel
theorem dX6_rangeNear_34 : decode cX6_rangeNear 34 = .ok (.iload 4, 2) := by decide +kernel
theorem dX6_rangeNear_36 : decode cX6_rangeNear 36 = .ok (.invokestatic 114, 3) := by decide +kernel
theorem dX6_rangeNear_39 : decode cX6_rangeNear 39 = .ok (.ifnonnull 7, 3) := by decide +kernel
theorem dX6_rangeNear_42 : decode cX6_rangeNear 42 = .ok (.iconst 1, 1) := by decide +kernel
theorem dX6_rangeNear_43 : decode cX6_rangeNear 43 = .ok (.goto 4, 3) := by decide +kernel
theorem dX6_rangeNear_47 : decode cX6_rangeNear 47 = .ok (.iconst 2, 1) := by decide +kernel
theorem dX6_rangeNear_48 : decode cX6_rangeNear 48 = .ok (.invokevirtual 84, 3) := by decide +kernel
theorem dX6_rangeNear_51 : decode cX6_rangeNear 51 = .ok (.ifCond .eq 7, 3) := by decide +kernel
theorem dX6_rangeNear_54 : decode cX6_rangeNear 54 = .ok (.iconst 0, 1) := by decide +kernel
theorem dX6_rangeNear_55 : decode cX6_rangeNear 55 = .ok (.goto 17, 3) := by decide +kernel
theorem dX6_rangeNear_6 : decode cX6_rangeNear 6 = .ok (.iload 4, 2) := by decide +kernel
theorem dX6_rangeNear_72 : decode cX6_rangeNear 72 = .ok (.ireturn, 1) := by decide +kernel
theorem dX6_rangeNear_8 : decode cX6_rangeNear 8 = .ok (.invokestatic 111, 3) := by decide +kernel
theorem dX6_rangePoll_0 : decode cX6_rangePoll 0 = .ok (.aload_n 0, 1) := by decide +kernel
theorem dX6_rangePoll_1 : decode cX6_rangePoll 1 = .ok (.iload_n 1, 1) := by decide +kernel
theorem dX6_rangePoll_10 : decode cX6_rangePoll 10 = .ok (.iconst 0, 1) := by decide +kernel
theorem dX6_rangePoll_11 : decode cX6_rangePoll 11 = .ok (.iconst 1, 1) := by decide +kernel
theorem dX6_rangePoll_12 : decode cX6_rangePoll 12 = .ok (.invokevirtual 77, 3) := by decide +kernel
theorem dX6_rangePoll_15 : decode cX6_rangePoll 15 = .ok (.ifCond .ne 28, 3) := by decide +kernel
theorem dX6_rangePoll_18 : decode cX6_rangePoll 18 = .ok (.aload_n 0, 1) := by decide +kernel
theorem dX6_rangePoll_19 : decode cX6_rangePoll 19 = .ok (.aload_n 0, 1) := by decide +kernel
theorem dX6_rangePoll_2 : decode cX6_rangePoll 2 = .ok (.iload_n 2, 1) := by decide +kernel
theorem dX6_rangePoll_20 : decode cX6_rangePoll 20 = .ok (.iload_n 1, 1) := by decide +kernel
theorem dX6_rangePoll_21 : decode cX6_rangePoll 21 = .ok (.iload_n 2, 1) := by decide +kernel
theorem dX6_rangePoll_22 : decode cX6_rangePoll 22 = .ok (.invokevirtual 103, 3) := by decide +kernel
theorem dX6_rangePoll_25 : decode cX6_rangePoll 25 = .ok (.invokevirtual 40, 3) := by decide +kernel
theorem dX6_rangePoll_28 : decode cX6_rangePoll 28 = .ok (.ifCond .ne 7, 3) := by decide +kernel
theorem dX6_rangePoll_3 : decode cX6_rangePoll 3 = .ok (.if_icmp .le 7, 3) := by decide +kernel
theorem dX6_rangePoll_31 : decode cX6_rangePoll 31 = .ok (.iconst 1, 1) := by decide +kernel
theorem dX6_rangePoll_32 : decode cX6_rangePoll 32 = .ok (.goto 4, 3) := by decide +kernel
theorem dX6_rangePoll_36 : decode cX6_rangePoll 36 = .ok (.iconst 2, 1) := by decide +kernel
theorem dX6_rangePoll_37 : decode cX6_rangePoll 37 = .ok (.invokevirtual 84, 3) := by decide +kernel
theorem dX6_rangePoll_40 : decode cX6_rangePoll 40 = .ok (.ifCond .eq 7, 3) := by decide +kernel
theorem dX6_rangePoll_43 : decode cX6_rangePoll 43 = .ok (.iconst 0, 1) := by decide +kernel
theorem dX6_rangePoll_44 : decode cX6_rangePoll 44 = .ok (.goto 17, 3) := by decide +kernel
theorem dX6_rangePoll_6 : decode cX6_rangePoll 6 = .ok (.iconst 1, 1) := by decide +kernel
theorem dX6_rangePoll_61 : decode cX6_rangePoll 61 = .ok (.ireturn, 1) := by decide +kernel
theorem dX6_rangePoll_7 : decode cX6_rangePoll 7 = .ok (.goto 4, 3) := by decide +kernel
theorem dX6_rangePut_0 : decode cX6_rangePut 0 = .ok (.aload_n 0, 1) := by decide +kernel
theorem dX6_rangePut_1 : decode cX6_rangePut 1 = .ok (.iload 4, 2) := by decide +kernel
theorem dX6_rangePut_10 : decode cX6_rangePut 10 = .ok (.ifCond .ne 16, 3) := by decide +kernel
theorem dX6_rangePut_13 : decode cX6_rangePut 13 = .ok (.aload_n 0, 1) := by decide +kernel
theorem dX6_rangePut_14 : decode cX6_rangePut 14 = .ok (.aload_n 0, 1) := by decide +kernel
theorem dX6_rangePut_15 : decode cX6_rangePut 15 = .ok (.iload_n 3, 1) := by decide +kernel
theorem dX6_rangePut_16 : decode cX6_rangePut 16 = .ok (.invokevirtual 81, 3) := by decide +kernel
theorem dX6_rangePut_19 : decode cX6_rangePut 19 = .ok (.iconst 2, 1) := by decide +kernel
theorem dX6_rangePut_20 : decode cX6_rangePut 20 = .ok (.invokevirtual 84, 3) := by decide +kernel
theorem dX6_rangePut_23 : decode cX6_rangePut 23 = .ok (.ifCond .eq 5, 3) := by decide +kernel
theorem dX6_rangePut_26 : decode cX6_rangePut 26 = .ok (.iconst 0, 1) := by decide +kernel
theorem dX6_rangePut_27 : decode cX6_rangePut 27 = .ok (.ireturn, 1) := by decide +kernel
theorem dX6_rangePut_28 : decode cX6_rangePut 28 = .ok (.iload_n 3, 1) := by decide +kernel
theorem dX6_rangePut_29 : decode cX6_rangePut 29 = .ok (.iload_n 1, 1) := by decide +kernel
theorem dX6_rangePut_3 : decode cX6_rangePut 3 = .ok (.invokestatic 73, 3) := by decide +kernel
theorem dX6_rangePut_30 : decode cX6_rangePut 30 = .ok (.if_icmp .lt 8, 3) := by decide +kernel
theorem dX6_rangePut_33 : decode cX6_rangePut 33 = .ok (.iload_n 3, 1) := by decide +kernel
theorem dX6_rangePut_34 : decode cX6_rangePut 34 = .ok (.iload_n 2, 1) := by decide +kernel
theorem dX6_rangePut_35 : decode cX6_rangePut 35 = .ok (.if_icmp .le 9, 3) := by decide +kernel
theorem dX6_rangePut_38 : decode cX6_rangePut 38 = .ok (.sipush (-9999), 3) := by decide +kernel
theorem dX6_rangePut_41 : decode cX6_rangePut 41 = .ok (.goto 10, 3) := by decide +kernel
theorem dX6_rangePut_44 : decode cX6_rangePut 44 = .ok (.aload_n 0, 1) := by decide +kernel
theorem dX6_rangePut_45 : decode cX6_rangePut 45 = .ok (.iload_n 3, 1) := by decide +kernel
theorem dX6_rangePut_46 : decode cX6_rangePut 46 = .ok (.iload 4, 2) := by decide +kernel
theorem dX6_rangePut_48 : decode cX6_rangePut 48 = .ok (.invokevirtual 87, 3) := by decide +kernel
theorem dX6_rangePut_51 : decode cX6_rangePut 51 = .ok (.ireturn, 1) := by decide +kernel
theorem dX6_rangePut_6 : decode cX6_rangePut 6 = .ok (.iconst 1, 1) := by decide +kernel
theorem dX6_rangePut_7 : decode cX6_rangePut 7 = .ok (.invokevirtual 77, 3) := by decide +kernel
theorem dX6_rangeSum_0 : decode cX6_rangeSum 0 = .ok (.aload_n 0, 1) := by decide +kernel
theorem dX6_rangeSum_1 : decode cX6_rangeSum 1 = .ok (.iload_n 1, 1) := by decide +kernel
theorem dX6_rangeSum_10 : decode cX6_rangeSum 10 = .ok (.iconst 0, 1) := by decide +kernel
theorem dX6_rangeSum_11 : decode cX6_rangeSum 11 = .ok (.iconst 1, 1) := by decide +kernel
theorem dX6_rangeSum_12 : decode cX6_rangeSum 12 = .ok (.invokevirtual 77, 3) := by decide +kernel
theorem dX6_rangeSum_15 : decode cX6_rangeSum 15 = .ok (.ifCond .eq 5, 3) := by decide +kernel
theorem dX6_rangeSum_18 : decode cX6_rangeSum 18 = .ok (.iconst 0, 1) := by decide +kernel
theorem dX6_rangeSum_19 : decode cX6_rangeSum 19 = .ok (.ireturn, 1) := by decide +kernel
theorem dX6_rangeSum_2 : decode cX6_rangeSum 2 = .ok (.iload_n 2, 1) := by decide +kernel
theorem dX6_rangeSum_20 : decode cX6_rangeSum 20 = .ok (.iconst 0, 1) := by decide +kernel
theorem dX6_rangeSum_21 : decode cX6_rangeSum 21 = .ok (.istore_n 3, 1) := by decide +kernel
theorem dX6_rangeSum_22 : decode cX6_rangeSum 22 = .ok (.aload_n 0, 1) := by decide +kernel
theorem dX6_rangeSum_23 : decode cX6_rangeSum 23 = .ok (.iload_n 1, 1) := by decide +kernel
theorem dX6_rangeSum_24 : decode cX6_rangeSum 24 = .ok (.iload_n 2, 1) := by decide +kernel
theorem dX6_rangeSum_25 : decode cX6_rangeSum 25 = .ok (.invokevirtual 103, 3) := by decide +kernel
theorem dX6_rangeSum_28 : decode cX6_rangeSum 28 = .ok (.invokevirtual 167, 3) := by decide +kernel
theorem dX6_rangeSum_3 : decode cX6_rangeSum 3 = .ok (.if_icmp .le 7, 3) := by decide +kernel
theorem dX6_rangeSum_31 : decode cX6_rangeSum 31 = .ok (.astore 4, 2) := by decide +kernel
theorem dX6_rangeSum_33 : decode cX6_rangeSum 33 = .ok (.aload 4, 2) := by decide +kernel
theorem dX6_rangeSum_35 : decode cX6_rangeSum 35 = .ok (.invokeinterface 171 1, 5) := by decide +kernel
theorem dX6_rangeSum_40 : decode cX6_rangeSum 40 = .ok (.ifCond .eq 25, 3) := by decide +kernel
theorem dX6_rangeSum_6 : decode cX6_rangeSum 6 = .ok (.iconst 1, 1) := by decide +kernel
theorem dX6_rangeSum_65 : decode cX6_rangeSum 65 = .ok (.iload_n 3, 1) := by decide +kernel
theorem dX6_rangeSum_66 : decode cX6_rangeSum 66 = .ok (.ireturn, 1) := by decide +kernel
theorem dX6_rangeSum_7 : decode cX6_rangeSum 7 = .ok (.goto 4, 3) := by decide +kernel
theorem dX6_rangeText_0 : decode cX6_rangeText 0 = .ok (.aload_n 0, 1) := by decide +kernel
theorem dX6_rangeText_1 : decode cX6_rangeText 1 = .ok (.iload_n 1, 1) := by decide +kernel
theorem dX6_rangeText_10 : decode cX6_rangeText 10 = .ok (.iconst 0, 1) := by decide +kernel
theorem dX6_rangeText_11 : decode cX6_rangeText 11 = .ok (.iconst 1, 1) := by decide +kernel
theorem dX6_rangeText_12 : decode cX6_rangeText 12 = .ok (.invokevirtual 77, 3) := by decide +kernel
theorem dX6_rangeText_15 : decode cX6_rangeText 15 = .ok (.ifCond .eq 8, 3) := by decide +kernel
theorem dX6_rangeText_18 : decode cX6_rangeText 18 = .ok (.ldc 122, 2) := by decide +kernel
theorem dX6_rangeText_2 : decode cX6_rangeText 2 = .ok (.iload_n 2, 1) := by decide +kernel
theorem dX6_rangeText_20 : decode cX6_rangeText 20 = .ok (.goto 14, 3) := by decide +kernel
theorem dX6_rangeText_23 : decode cX6_rangeText 23 = .ok (.aload_n 0, 1) := by decide +kernel
theorem dX6_rangeText_24 : decode cX6_rangeText 24 = .ok (.iload_n 1, 1) := by decide +kernel
theorem dX6_rangeText_25 : decode cX6_rangeText 25 = .ok (.iload_n 2, 1) := by decide +kernel
theorem dX6_rangeText_26 : decode cX6_rangeText 26 = .ok (.invokevirtual 103, 3) := by decide +kernel
theorem dX6_rangeText_29 : decode cX6_rangeText 29 = .ok (.ldc 131, 2) := by decide +kernel
theorem dX6_rangeText_3 : decode cX6_rangeText 3 = .ok (.if_icmp .le 7, 3) := by decide +kernel
theorem dX6_rangeText_31 : decode cX6_rangeText 31 = .ok (.invokestatic 155, 3) := by decide +kernel
theorem dX6_rangeText_34 : decode cX6_rangeText 34 = .ok (.areturn, 1) := by decide +kernel
theorem dX6_rangeText_6 : decode cX6_rangeText 6 = .ok (.iconst 1, 1) := by decide +kernel
theorem dX6_rangeText_7 : decode cX6_rangeText 7 = .ok (.goto 4, 3) := by decide +kernel
theorem dX6_rangeUse_0 : decode cX6_rangeUse 0 = .ok (.aload_n 0, 1) := by decide +kernel
theorem dX6_rangeUse_1 : decode cX6_rangeUse 1 = .ok (.iload_n 1, 1) := by decide +kernel
theorem dX6_rangeUse_10 : decode cX6_rangeUse 10 = .ok (.iconst 0, 1) := by decide +kernel
theorem dX6_rangeUse_11 : decode cX6_rangeUse 11 = .ok (.iconst 1, 1) := by decide +kernel
theorem dX6_rangeUse_12 : decode cX6_rangeUse 12 = .ok (.invokevirtual 77, 3) := by decide +kernel
theorem dX6_rangeUse_15 : decode cX6_rangeUse 15 = .ok (.ifCond .eq 8, 3) := by decide +kernel
theorem dX6_rangeUse_18 : decode cX6_rangeUse 18 = .ok (.ldc 122, 2) := by decide +kernel
theorem dX6_rangeUse_2 : decode cX6_rangeUse 2 = .ok (.iload_n 2, 1) := by decide +kernel
theorem dX6_rangeUse_20 : decode cX6_rangeUse 20 = .ok (.goto 12, 3) := by decide +kernel
theorem dX6_rangeUse_23 : decode cX6_rangeUse 23 = .ok (.aload_n 0, 1) := by decide +kernel
theorem dX6_rangeUse_24 : decode cX6_rangeUse 24 = .ok (.iload_n 1, 1) := by decide +kernel
theorem dX6_rangeUse_25 : decode cX6_rangeUse 25 = .ok (.iload_n 2, 1) := by decide +kernel
theorem dX6_rangeUse_26 : decode cX6_rangeUse 26 = .ok (.invokevirtual 103, 3) := by decide +kernel
theorem dX6_rangeUse_29 : decode cX6_rangeUse 29 = .ok (.invokestatic 181, 3) := by decide +kernel
theorem dX6_rangeUse_3 : decode cX6_rangeUse 3 = .ok (.if_icmp .le 7, 3) := by decide +kernel
theorem dX6_rangeUse_32 : decode cX6_rangeUse 32 = .ok (.areturn, 1) := by decide +kernel
theorem dX6_rangeUse_6 : decode cX6_rangeUse 6 = .ok (.iconst 1, 1) := by decide +kernel
theorem dX6_rangeUse_7 : decode cX6_rangeUse 7 = .ok (.goto 4, 3) := by decide +kernel
theorem dX6_range_0 : decode cX6_range 0 = .ok (.new 7, 3) := by decide +kernel
theorem dX6_range_11 : decode cX6_range 11 = .ok (.iload 4, 2) := by decide +kernel
theorem dX6_range_13 : decode cX6_range 13 = .ok (.aload_n 0, 1) := by decide +kernel
theorem dX6_range_14 : decode cX6_range 14 = .ok (.getfield 10, 3) := by decide +kernel
theorem dX6_range_17 : decode cX6_range 17 = .ok (.invokevirtual 40, 3) := by decide +kernel
theorem dX6_range_20 : decode cX6_range 20 = .ok (.if_icmp .ge 62, 3) := by decide +kernel
theorem dX6_range_3 : decode cX6_range 3 = .ok (.dup, 1) := by decide +kernel
theorem dX6_range_4 : decode cX6_range 4 = .ok (.invokespecial 9, 3) := by decide +kernel
theorem dX6_range_7 : decode cX6_range 7 = .ok (.astore_n 3, 1) := by decide +kernel
theorem dX6_range_8 : decode cX6_range 8 = .ok (.iconst 0, 1) := by decide +kernel
theorem dX6_range_82 : decode cX6_range 82 = .ok (.aload_n 3, 1) := by decide +kernel
theorem dX6_range_83 : decode cX6_range 83 = .ok (.areturn, 1) := by decide +kernel
theorem dX6_range_9 : decode cX6_range 9 = .ok (.istore 4, 2) := by decide +kernel
theorem dX6_removeIf_0 : decode cX6_removeIf 0 = .ok (.aload_n 0, 1) := by decide +kernel
theorem dX6_removeIf_1 : decode cX6_removeIf 1 = .ok (.iconst 0, 1) := by decide +kernel
theorem dX6_removeIf_10 : decode cX6_removeIf 10 = .ok (.invokestatic 49, 3) := by decide +kernel
theorem dX6_removeIf_13 : decode cX6_removeIf 13 = .ok (.ifCond .lt 19, 3) := by decide +kernel
theorem dX6_removeIf_2 : decode cX6_removeIf 2 = .ok (.putfield 36, 3) := by decide +kernel
theorem dX6_removeIf_32 : decode cX6_removeIf 32 = .ok (.iconst 0, 1) := by decide +kernel
theorem dX6_removeIf_33 : decode cX6_removeIf 33 = .ok (.istore_n 3, 1) := by decide +kernel
theorem dX6_removeIf_34 : decode cX6_removeIf 34 = .ok (.iload_n 3, 1) := by decide +kernel
theorem dX6_removeIf_35 : decode cX6_removeIf 35 = .ok (.ifCond .eq 8, 3) := by decide +kernel
theorem dX6_removeIf_43 : decode cX6_removeIf 43 = .ok (.aload_n 0, 1) := by decide +kernel
theorem dX6_removeIf_44 : decode cX6_removeIf 44 = .ok (.invokevirtual 70, 3) := by decide +kernel
theorem dX6_removeIf_47 : decode cX6_removeIf 47 = .ok (.pop, 1) := by decide +kernel
theorem dX6_removeIf_48 : decode cX6_removeIf 48 = .ok (.iload_n 3, 1) := by decide +kernel
theorem dX6_removeIf_49 : decode cX6_removeIf 49 = .ok (.ireturn, 1) := by decide +kernel
theorem dX6_removeIf_5 : decode cX6_removeIf 5 = .ok (.aload_n 0, 1) := by decide +kernel
theorem dX6_removeIf_6 : decode cX6_removeIf 6 = .ok (.getfield 10, 3) := by decide +kernel
theorem dX6_removeIf_9 : decode cX6_removeIf 9 = .ok (.iload_n 1, 1) := by decide +kernel
theorem dX6_remove_0 : decode cX6_remove 0 = .ok (.aload_n 0, 1) := by decide +kernel
theorem dX6_remove_1 : decode cX6_remove 1 = .ok (.iconst 0, 1) := by decide +kernel
theorem dX6_remove_10 : decode cX6_remove 10 = .ok (.invokestatic 60, 3) := by decide +kernel
theorem dX6_remove_13 : decode cX6_remove 13 = .ok (.istore_n 2, 1) := by decide +kernel
theorem dX6_remove_14 : decode cX6_remove 14 = .ok (.iload_n 2, 1) := by decide +kernel
theorem dX6_remove_15 : decode cX6_remove 15 = .ok (.sipush (-1000), 3) := by decide +kernel
theorem dX6_remove_18 : decode cX6_remove 18 = .ok (.if_icmp .eq 8, 3) := by decide +kernel
theorem dX6_remove_2 : decode cX6_remove 2 = .ok (.putfield 36, 3) := by decide +kernel
theorem dX6_remove_26 : decode cX6_remove 26 = .ok (.aload_n 0, 1) := by decide +kernel
theorem dX6_remove_27 : decode cX6_remove 27 = .ok (.invokevirtual 70, 3) := by decide +kernel
theorem dX6_remove_30 : decode cX6_remove 30 = .ok (.pop, 1) := by decide +kernel
theorem dX6_remove_31 : decode cX6_remove 31 = .ok (.iload_n 2, 1) := by decide +kernel
theorem dX6_remove_32 : decode cX6_remove 32 = .ok (.ireturn, 1) := by decide +kernel
theorem dX6_remove_5 : decode cX6_remove 5 = .ok (.aload_n 0, 1) := by decide +kernel
theorem dX6_remove_6 : decode cX6_remove 6 = .ok (.getfield 10, 3) := by decide +kernel
theorem dX6_remove_9 : decode cX6_remove 9 = .ok (.iload_n 1, 1) := by decide +kernel
theorem dX6_replaceIf_0 : decode cX6_replaceIf 0 = .ok (.aload_n 0, 1) := by decide +kernel
theorem dX6_replaceIf_1 : decode cX6_replaceIf 1 = .ok (.iload_n 3, 1) := by decide +kernel
theorem dX6_replaceIf_12 : decode cX6_replaceIf 12 = .ok (.iconst 0, 1) := by decide +kernel
theorem dX6_replaceIf_13 : decode cX6_replaceIf 13 = .ok (.ireturn, 1) := by decide +kernel
theorem dX6_replaceIf_14 : decode cX6_replaceIf 14 = .ok (.aload_n 0, 1) := by decide +kernel
theorem dX6_replaceIf_15 : decode cX6_replaceIf 15 = .ok (.getfield 10, 3) := by decide +kernel
theorem dX6_replaceIf_18 : decode cX6_replaceIf 18 = .ok (.iload_n 1, 1) := by decide +kernel
theorem dX6_replaceIf_19 : decode cX6_replaceIf 19 = .ok (.invokestatic 49, 3) := by decide +kernel
theorem dX6_replaceIf_2 : decode cX6_replaceIf 2 = .ok (.invokestatic 73, 3) := by decide +kernel
theorem dX6_replaceIf_22 : decode cX6_replaceIf 22 = .ok (.ifCond .lt 19, 3) := by decide +kernel
theorem dX6_replaceIf_41 : decode cX6_replaceIf 41 = .ok (.iconst 0, 1) := by decide +kernel
theorem dX6_replaceIf_42 : decode cX6_replaceIf 42 = .ok (.istore 4, 2) := by decide +kernel
theorem dX6_replaceIf_44 : decode cX6_replaceIf 44 = .ok (.iload 4, 2) := by decide +kernel
theorem dX6_replaceIf_46 : decode cX6_replaceIf 46 = .ok (.ifCond .eq 10, 3) := by decide +kernel
theorem dX6_replaceIf_5 : decode cX6_replaceIf 5 = .ok (.iconst 1, 1) := by decide +kernel
theorem dX6_replaceIf_56 : decode cX6_replaceIf 56 = .ok (.iload 4, 2) := by decide +kernel
theorem dX6_replaceIf_58 : decode cX6_replaceIf 58 = .ok (.ireturn, 1) := by decide +kernel
theorem dX6_replaceIf_6 : decode cX6_replaceIf 6 = .ok (.invokevirtual 77, 3) := by decide +kernel
theorem dX6_replaceIf_9 : decode cX6_replaceIf 9 = .ok (.ifCond .eq 5, 3) := by decide +kernel
theorem dX6_replace_0 : decode cX6_replace 0 = .ok (.aload_n 0, 1) := by decide +kernel
theorem dX6_replace_1 : decode cX6_replace 1 = .ok (.iload_n 2, 1) := by decide +kernel
theorem dX6_replace_12 : decode cX6_replace 12 = .ok (.iconst 0, 1) := by decide +kernel
theorem dX6_replace_13 : decode cX6_replace 13 = .ok (.ireturn, 1) := by decide +kernel
theorem dX6_replace_14 : decode cX6_replace 14 = .ok (.aload_n 0, 1) := by decide +kernel
theorem dX6_replace_15 : decode cX6_replace 15 = .ok (.getfield 10, 3) := by decide +kernel
theorem dX6_replace_18 : decode cX6_replace 18 = .ok (.iload_n 1, 1) := by decide +kernel
theorem dX6_replace_19 : decode cX6_replace 19 = .ok (.invokestatic 49, 3) := by decide +kernel
theorem dX6_replace_2 : decode cX6_replace 2 = .ok (.invokestatic 73, 3) := by decide +kernel
theorem dX6_replace_22 : decode cX6_replace 22 = .ok (.ifCond .ge 9, 3) := by decide +kernel
theorem dX6_replace_25 : decode cX6_replace 25 = .ok (.sipush (-1000), 3) := by decide +kernel
theorem dX6_replace_28 : decode cX6_replace 28 = .ok (.goto 9, 3) := by decide +kernel
theorem dX6_replace_37 : decode cX6_replace 37 = .ok (.ireturn, 1) := by decide +kernel
theorem dX6_replace_5 : decode cX6_replace 5 = .ok (.iconst 1, 1) := by decide +kernel
theorem dX6_replace_6 : decode cX6_replace 6 = .ok (.invokevirtual 77, 3) := by decide +kernel
theorem dX6_replace_9 : decode cX6_replace 9 = .ok (.ifCond .eq 5, 3) := by decide +kernel
theorem dX6_size_0 : decode cX6_size 0 = .ok (.aload_n 0, 1) := by decide +kernel
theorem dX6_size_1 : decode cX6_size 1 = .ok (.iconst 0, 1) := by decide +kernel
theorem dX6_size_12 : decode cX6_size 12 = .ok (.ireturn, 1) := by decide +kernel
theorem dX6_size_2 : decode cX6_size 2 = .ok (.putfield 36, 3) := by decide +kernel
theorem dX6_size_5 : decode cX6_size 5 = .ok (.aload_n 0, 1) := by decide +kernel
theorem dX6_size_6 : decode cX6_size 6 = .ok (.getfield 10, 3) := by decide +kernel
theorem dX6_size_9 : decode cX6_size 9 = .ok (.invokevirtual 40, 3) := by decide +kernel
theorem dX6_start_0 : decode cX6_start 0 = .ok (.aload_n 0, 1) := by decide +kernel
theorem dX6_start_1 : decode cX6_start 1 = .ok (.iload_n 1, 1) := by decide +kernel
theorem dX6_start_10 : decode cX6_start 10 = .ok (.putfield 36, 3) := by decide +kernel
theorem dX6_start_13 : decode cX6_start 13 = .ok (.iload_n 1, 1) := by decide +kernel
theorem dX6_start_14 : decode cX6_start 14 = .ok (.ireturn, 1) := by decide +kernel
theorem dX6_start_2 : decode cX6_start 2 = .ok (.ifCond .eq 7, 3) := by decide +kernel
theorem dX6_start_5 : decode cX6_start 5 = .ok (.iload_n 2, 1) := by decide +kernel
theorem dX6_start_6 : decode cX6_start 6 = .ok (.goto 4, 3) := by decide +kernel
theorem dX6_start_9 : decode cX6_start 9 = .ok (.iconst 0, 1) := by decide +kernel
theorem dX6_steps_0 : decode cX6_steps 0 = .ok (.aload_n 0, 1) := by decide +kernel
theorem dX6_steps_1 : decode cX6_steps 1 = .ok (.iconst 0, 1) := by decide +kernel
theorem dX6_steps_12 : decode cX6_steps 12 = .ok (.ireturn, 1) := by decide +kernel
theorem dX6_steps_2 : decode cX6_steps 2 = .ok (.putfield 36, 3) := by decide +kernel
theorem dX6_steps_5 : decode cX6_steps 5 = .ok (.aload_n 0, 1) := by decide +kernel
theorem dX6_steps_6 : decode cX6_steps 6 = .ok (.getfield 19, 3) := by decide +kernel
theorem dX6_steps_9 : decode cX6_steps 9 = .ok (.invokevirtual 40, 3) := by decide +kernel
theorem dX6_textNow_0 : decode cX6_textNow 0 = .ok (.new 124, 3) := by decide +kernel
theorem dX6_textNow_12 : decode cX6_textNow 12 = .ok (.aload_n 0, 1) := by decide +kernel
theorem dX6_textNow_13 : decode cX6_textNow 13 = .ok (.getfield 10, 3) := by decide +kernel
theorem dX6_textNow_16 : decode cX6_textNow 16 = .ok (.ldc 153, 2) := by decide +kernel
theorem dX6_textNow_18 : decode cX6_textNow 18 = .ok (.invokestatic 155, 3) := by decide +kernel
theorem dX6_textNow_21 : decode cX6_textNow 21 = .ok (.invokevirtual 127, 3) := by decide +kernel
theorem dX6_textNow_24 : decode cX6_textNow 24 = .ok (.ldc 159, 2) := by decide +kernel
theorem dX6_textNow_26 : decode cX6_textNow 26 = .ok (.invokevirtual 127, 3) := by decide +kernel
theorem dX6_textNow_29 : decode cX6_textNow 29 = .ok (.invokevirtual 136, 3) := by decide +kernel
theorem dX6_textNow_3 : decode cX6_textNow 3 = .ok (.dup, 1) := by decide +kernel
theorem dX6_textNow_32 : decode cX6_textNow 32 = .ok (.areturn, 1) := by decide +kernel
theorem dX6_textNow_4 : decode cX6_textNow 4 = .ok (.invokespecial 126, 3) := by decide +kernel
theorem dX6_textNow_7 : decode cX6_textNow 7 = .ok (.ldc 151, 2) := by decide +kernel
theorem dX6_textNow_9 : decode cX6_textNow 9 = .ok (.invokevirtual 127, 3) := by decide +kernel
theorem dX6_text_0 : decode cX6_text 0 = .ok (.aload_n 0, 1) := by decide +kernel
theorem dX6_text_1 : decode cX6_text 1 = .ok (.iconst 0, 1) := by decide +kernel
theorem dX6_text_2 : decode cX6_text 2 = .ok (.putfield 36, 3) := by decide +kernel
theorem dX6_text_5 : decode cX6_text 5 = .ok (.aload_n 0, 1) := by decide +kernel
theorem dX6_text_6 : decode cX6_text 6 = .ok (.invokevirtual 161, 3) := by decide +kernel
theorem dX6_text_9 : decode cX6_text 9 = .ok (.areturn, 1) := by decide +kernel
theorem dX6_thrown_0 : decode cX6_thrown 0 = .ok (.aload_n 0, 1) := by decide +kernel
theorem dX6_thrown_1 : decode cX6_thrown 1 = .ok (.getfield 36, 3) := by decide +kernel
theorem dX6_thrown_4 : decode cX6_thrown 4 = .ok (.ireturn, 1) := by decide +kernel
theorem dX6_toldOf_0 : decode cX6_toldOf 0 = .ok (.ldc 122, 2) := by decide +kernel
theorem dX6_toldOf_10 : decode cX6_toldOf 10 = .ok (.istore 4, 2) := by decide +kernel
theorem dX6_toldOf_12 : decode cX6_toldOf 12 = .ok (.iconst 0, 1) := by decide +kernel
theorem dX6_toldOf_13 : decode cX6_toldOf 13 = .ok (.istore 5, 2) := by decide +kernel
theorem dX6_toldOf_15 : decode cX6_toldOf 15 = .ok (.iload 5, 2) := by decide +kernel
theorem dX6_toldOf_17 : decode cX6_toldOf 17 = .ok (.iload 4, 2) := by decide +kernel
theorem dX6_toldOf_19 : decode cX6_toldOf 19 = .ok (.if_icmp .ge 65, 3) := by decide +kernel
theorem dX6_toldOf_2 : decode cX6_toldOf 2 = .ok (.astore_n 2, 1) := by decide +kernel
theorem dX6_toldOf_3 : decode cX6_toldOf 3 = .ok (.aload_n 0, 1) := by decide +kernel
theorem dX6_toldOf_4 : decode cX6_toldOf 4 = .ok (.invokestatic 95, 3) := by decide +kernel
theorem dX6_toldOf_7 : decode cX6_toldOf 7 = .ok (.astore_n 3, 1) := by decide +kernel
theorem dX6_toldOf_8 : decode cX6_toldOf 8 = .ok (.aload_n 3, 1) := by decide +kernel
theorem dX6_toldOf_84 : decode cX6_toldOf 84 = .ok (.aload_n 2, 1) := by decide +kernel
theorem dX6_toldOf_85 : decode cX6_toldOf 85 = .ok (.areturn, 1) := by decide +kernel
theorem dX6_toldOf_9 : decode cX6_toldOf 9 = .ok (.arraylength, 1) := by decide +kernel
theorem dX6_undo_0 : decode cX6_undo 0 = .ok (.aload_n 0, 1) := by decide +kernel
theorem dX6_undo_1 : decode cX6_undo 1 = .ok (.iconst 0, 1) := by decide +kernel
theorem dX6_undo_12 : decode cX6_undo 12 = .ok (.ifCond .ne 7, 3) := by decide +kernel
theorem dX6_undo_15 : decode cX6_undo 15 = .ok (.sipush (-9999), 3) := by decide +kernel
theorem dX6_undo_18 : decode cX6_undo 18 = .ok (.ireturn, 1) := by decide +kernel
theorem dX6_undo_2 : decode cX6_undo 2 = .ok (.putfield 36, 3) := by decide +kernel
theorem dX6_undo_5 : decode cX6_undo 5 = .ok (.aload_n 0, 1) := by decide +kernel
theorem dX6_undo_6 : decode cX6_undo 6 = .ok (.getfield 19, 3) := by decide +kernel
theorem dX6_undo_9 : decode cX6_undo 9 = .ok (.invokevirtual 40, 3) := by decide +kernel
theorem dX6_used_0 : decode cX6_used 0 = .ok (.aload_n 0, 1) := by decide +kernel
theorem dX6_used_1 : decode cX6_used 1 = .ok (.getfield 10, 3) := by decide +kernel
theorem dX6_used_10 : decode cX6_used 10 = .ok (.ifCond .lt 12, 3) := by decide +kernel
theorem dX6_used_22 : decode cX6_used 22 = .ok (.aload_n 0, 1) := by decide +kernel
theorem dX6_used_23 : decode cX6_used 23 = .ok (.getfield 10, 3) := by decide +kernel
theorem dX6_used_26 : decode cX6_used 26 = .ok (.iconst 2, 1) := by decide +kernel
theorem dX6_used_27 : decode cX6_used 27 = .ok (.newarray .int, 2) := by decide +kernel
theorem dX6_used_29 : decode cX6_used 29 = .ok (.dup, 1) := by decide +kernel
theorem dX6_used_30 : decode cX6_used 30 = .ok (.iconst 0, 1) := by decide +kernel
theorem dX6_used_31 : decode cX6_used 31 = .ok (.iload_n 1, 1) := by decide +kernel
theorem dX6_used_32 : decode cX6_used 32 = .ok (.iastore, 1) := by decide +kernel
theorem dX6_used_33 : decode cX6_used 33 = .ok (.dup, 1) := by decide +kernel
theorem dX6_used_34 : decode cX6_used 34 = .ok (.iconst 1, 1) := by decide +kernel
theorem dX6_used_35 : decode cX6_used 35 = .ok (.iload_n 2, 1) := by decide +kernel
theorem dX6_used_36 : decode cX6_used 36 = .ok (.iastore, 1) := by decide +kernel
theorem dX6_used_37 : decode cX6_used 37 = .ok (.invokevirtual 56, 3) := by decide +kernel
theorem dX6_used_4 : decode cX6_used 4 = .ok (.iload_n 1, 1) := by decide +kernel
theorem dX6_used_40 : decode cX6_used 40 = .ok (.pop, 1) := by decide +kernel
theorem dX6_used_41 : decode cX6_used 41 = .ok (.return_, 1) := by decide +kernel
theorem dX6_used_5 : decode cX6_used 5 = .ok (.invokestatic 49, 3) := by decide +kernel
theorem dX6_used_8 : decode cX6_used 8 = .ok (.istore_n 3, 1) := by decide +kernel
theorem dX6_used_9 : decode cX6_used 9 = .ok (.iload_n 3, 1) := by decide +kernel
theorem dX6_usesOf_0 : decode cX6_usesOf 0 = .ok (.aload_n 0, 1) := by decide +kernel
theorem dX6_usesOf_1 : decode cX6_usesOf 1 = .ok (.invokevirtual 40, 3) := by decide +kernel
theorem dX6_usesOf_10 : decode cX6_usesOf 10 = .ok (.aload_n 1, 1) := by decide +kernel
theorem dX6_usesOf_11 : decode cX6_usesOf 11 = .ok (.arraylength, 1) := by decide +kernel
theorem dX6_usesOf_12 : decode cX6_usesOf 12 = .ok (.if_icmp .ge 22, 3) := by decide +kernel
theorem dX6_usesOf_34 : decode cX6_usesOf 34 = .ok (.aload_n 1, 1) := by decide +kernel
theorem dX6_usesOf_35 : decode cX6_usesOf 35 = .ok (.invokestatic 140, 3) := by decide +kernel
theorem dX6_usesOf_38 : decode cX6_usesOf 38 = .ok (.areturn, 1) := by decide +kernel
theorem dX6_usesOf_4 : decode cX6_usesOf 4 = .ok (.newarray .int, 2) := by decide +kernel
theorem dX6_usesOf_6 : decode cX6_usesOf 6 = .ok (.astore_n 1, 1) := by decide +kernel
theorem dX6_usesOf_7 : decode cX6_usesOf 7 = .ok (.iconst 0, 1) := by decide +kernel
theorem dX6_usesOf_8 : decode cX6_usesOf 8 = .ok (.istore_n 2, 1) := by decide +kernel
theorem dX6_usesOf_9 : decode cX6_usesOf 9 = .ok (.iload_n 2, 1) := by decide +kernel
theorem dX6_uses_0 : decode cX6_uses 0 = .ok (.aload_n 0, 1) := by decide +kernel
theorem dX6_uses_1 : decode cX6_uses 1 = .ok (.iconst 0, 1) := by decide +kernel
theorem dX6_uses_12 : decode cX6_uses 12 = .ok (.areturn, 1) := by decide +kernel
theorem dX6_uses_2 : decode cX6_uses 2 = .ok (.putfield 36, 3) := by decide +kernel
theorem dX6_uses_5 : decode cX6_uses 5 = .ok (.aload_n 0, 1) := by decide +kernel
theorem dX6_uses_6 : decode cX6_uses 6 = .ok (.getfield 10, 3) := by decide +kernel
theorem dX6_uses_9 : decode cX6_uses 9 = .ok (.invokestatic 181, 3) := by decide +kernel
theorem dX6_valueIn_0 : decode cX6_valueIn 0 = .ok (.aload_n 0, 1) := by decide +kernel
theorem dX6_valueIn_1 : decode cX6_valueIn 1 = .ok (.iload_n 1, 1) := by decide +kernel
theorem dX6_valueIn_11 : decode cX6_valueIn 11 = .ok (.goto 17, 3) := by decide +kernel
theorem dX6_valueIn_2 : decode cX6_valueIn 2 = .ok (.invokestatic 49, 3) := by decide +kernel
theorem dX6_valueIn_28 : decode cX6_valueIn 28 = .ok (.ireturn, 1) := by decide +kernel
theorem dX6_valueIn_5 : decode cX6_valueIn 5 = .ok (.ifCond .ge 9, 3) := by decide +kernel
theorem dX6_valueIn_8 : decode cX6_valueIn 8 = .ok (.sipush (-1000), 3) := by decide +kernel
theorem dX6_values_0 : decode cX6_values 0 = .ok (.aload_n 0, 1) := by decide +kernel
theorem dX6_values_1 : decode cX6_values 1 = .ok (.iconst 0, 1) := by decide +kernel
theorem dX6_values_12 : decode cX6_values 12 = .ok (.astore_n 1, 1) := by decide +kernel
theorem dX6_values_13 : decode cX6_values 13 = .ok (.iconst 0, 1) := by decide +kernel
theorem dX6_values_14 : decode cX6_values 14 = .ok (.istore_n 2, 1) := by decide +kernel
theorem dX6_values_15 : decode cX6_values 15 = .ok (.iload_n 2, 1) := by decide +kernel
theorem dX6_values_16 : decode cX6_values 16 = .ok (.aload_n 1, 1) := by decide +kernel
theorem dX6_values_17 : decode cX6_values 17 = .ok (.arraylength, 1) := by decide +kernel
theorem dX6_values_18 : decode cX6_values 18 = .ok (.if_icmp .ge 22, 3) := by decide +kernel
theorem dX6_values_2 : decode cX6_values 2 = .ok (.putfield 36, 3) := by decide +kernel
theorem dX6_values_40 : decode cX6_values 40 = .ok (.aload_n 1, 1) := by decide +kernel
theorem dX6_values_41 : decode cX6_values 41 = .ok (.invokestatic 140, 3) := by decide +kernel
theorem dX6_values_44 : decode cX6_values 44 = .ok (.areturn, 1) := by decide +kernel
theorem dX6_values_5 : decode cX6_values 5 = .ok (.aload_n 0, 1) := by decide +kernel
theorem dX6_values_6 : decode cX6_values 6 = .ok (.getfield 10, 3) := by decide +kernel
theorem dX6_values_9 : decode cX6_values 9 = .ok (.invokestatic 95, 3) := by decide +kernel
