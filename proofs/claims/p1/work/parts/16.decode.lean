theorem dX4_put_4 : decode cX4_put 4 = .ok (.aload_n 0, 1) := by decide +kernel
theorem dX4_put_5 : decode cX4_put 5 = .ok (.iload_n 1, 1) := by decide +kernel
theorem dX4_put_6 : decode cX4_put 6 = .ok (.invokevirtual 55, 3) := by decide +kernel
theorem dX4_put_9 : decode cX4_put 9 = .ok (.aload_n 0, 1) := by decide +kernel
theorem dX4_rangeAge_0 : decode cX4_rangeAge 0 = .ok (.iload_n 1, 1) := by decide +kernel
theorem dX4_rangeAge_1 : decode cX4_rangeAge 1 = .ok (.iload_n 2, 1) := by decide +kernel
theorem dX4_rangeAge_11 : decode cX4_rangeAge 11 = .ok (.aload_n 0, 1) := by decide +kernel
theorem dX4_rangeAge_12 : decode cX4_rangeAge 12 = .ok (.getfield 46, 3) := by decide +kernel
theorem dX4_rangeAge_15 : decode cX4_rangeAge 15 = .ok (.invokevirtual 185, 3) := by decide +kernel
theorem dX4_rangeAge_18 : decode cX4_rangeAge 18 = .ok (.ifCond .ne 13, 3) := by decide +kernel
theorem dX4_rangeAge_2 : decode cX4_rangeAge 2 = .ok (.invokestatic 154, 3) := by decide +kernel
theorem dX4_rangeAge_21 : decode cX4_rangeAge 21 = .ok (.new 157, 3) := by decide +kernel
theorem dX4_rangeAge_24 : decode cX4_rangeAge 24 = .ok (.dup, 1) := by decide +kernel
theorem dX4_rangeAge_25 : decode cX4_rangeAge 25 = .ok (.ldc 159, 2) := by decide +kernel
theorem dX4_rangeAge_27 : decode cX4_rangeAge 27 = .ok (.invokespecial 161, 3) := by decide +kernel
theorem dX4_rangeAge_30 : decode cX4_rangeAge 30 = .ok (.athrow, 1) := by decide +kernel
theorem dX4_rangeAge_5 : decode cX4_rangeAge 5 = .ok (.aload_n 0, 1) := by decide +kernel
theorem dX4_rangeAge_6 : decode cX4_rangeAge 6 = .ok (.iload_n 1, 1) := by decide +kernel
theorem dX4_rangeAge_7 : decode cX4_rangeAge 7 = .ok (.iload_n 2, 1) := by decide +kernel
theorem dX4_rangeAge_8 : decode cX4_rangeAge 8 = .ok (.invokevirtual 182, 3) := by decide +kernel
theorem dX4_rangeClear_0 : decode cX4_rangeClear 0 = .ok (.iload_n 1, 1) := by decide +kernel
theorem dX4_rangeClear_1 : decode cX4_rangeClear 1 = .ok (.iload_n 2, 1) := by decide +kernel
theorem dX4_rangeClear_10 : decode cX4_rangeClear 10 = .ok (.getfield 12, 3) := by decide +kernel
theorem dX4_rangeClear_13 : decode cX4_rangeClear 13 = .ok (.iload_n 2, 1) := by decide +kernel
theorem dX4_rangeClear_14 : decode cX4_rangeClear 14 = .ok (.invokevirtual 164, 3) := by decide +kernel
theorem dX4_rangeClear_17 : decode cX4_rangeClear 17 = .ok (.istore_n 3, 1) := by decide +kernel
theorem dX4_rangeClear_18 : decode cX4_rangeClear 18 = .ok (.aload_n 0, 1) := by decide +kernel
theorem dX4_rangeClear_19 : decode cX4_rangeClear 19 = .ok (.getfield 46, 3) := by decide +kernel
theorem dX4_rangeClear_2 : decode cX4_rangeClear 2 = .ok (.if_icmp .le 7, 3) := by decide +kernel
theorem dX4_rangeClear_22 : decode cX4_rangeClear 22 = .ok (.invokevirtual 119, 3) := by decide +kernel
theorem dX4_rangeClear_25 : decode cX4_rangeClear 25 = .ok (.aload_n 0, 1) := by decide +kernel
theorem dX4_rangeClear_26 : decode cX4_rangeClear 26 = .ok (.getfield 12, 3) := by decide +kernel
theorem dX4_rangeClear_29 : decode cX4_rangeClear 29 = .ok (.iload_n 1, 1) := by decide +kernel
theorem dX4_rangeClear_30 : decode cX4_rangeClear 30 = .ok (.invokevirtual 167, 3) := by decide +kernel
theorem dX4_rangeClear_33 : decode cX4_rangeClear 33 = .ok (.istore 4, 2) := by decide +kernel
theorem dX4_rangeClear_35 : decode cX4_rangeClear 35 = .ok (.iload 4, 2) := by decide +kernel
theorem dX4_rangeClear_37 : decode cX4_rangeClear 37 = .ok (.iload_n 3, 1) := by decide +kernel
theorem dX4_rangeClear_38 : decode cX4_rangeClear 38 = .ok (.if_icmp .ge 25, 3) := by decide +kernel
theorem dX4_rangeClear_5 : decode cX4_rangeClear 5 = .ok (.sipush (-9999), 3) := by decide +kernel
theorem dX4_rangeClear_63 : decode cX4_rangeClear 63 = .ok (.aload_n 0, 1) := by decide +kernel
theorem dX4_rangeClear_64 : decode cX4_rangeClear 64 = .ok (.invokevirtual 177, 3) := by decide +kernel
theorem dX4_rangeClear_67 : decode cX4_rangeClear 67 = .ok (.istore 4, 2) := by decide +kernel
theorem dX4_rangeClear_69 : decode cX4_rangeClear 69 = .ok (.aload_n 0, 1) := by decide +kernel
theorem dX4_rangeClear_70 : decode cX4_rangeClear 70 = .ok (.getfield 28, 3) := by decide +kernel
theorem dX4_rangeClear_73 : decode cX4_rangeClear 73 = .ok (.invokevirtual 66, 3) := by decide +kernel
theorem dX4_rangeClear_76 : decode cX4_rangeClear 76 = .ok (.iload 4, 2) := by decide +kernel
theorem dX4_rangeClear_78 : decode cX4_rangeClear 78 = .ok (.ireturn, 1) := by decide +kernel
theorem dX4_rangeClear_8 : decode cX4_rangeClear 8 = .ok (.ireturn, 1) := by decide +kernel
theorem dX4_rangeClear_9 : decode cX4_rangeClear 9 = .ok (.aload_n 0, 1) := by decide +kernel
theorem dX4_rangeEnd_0 : decode cX4_rangeEnd 0 = .ok (.iload_n 1, 1) := by decide +kernel
theorem dX4_rangeEnd_1 : decode cX4_rangeEnd 1 = .ok (.iload_n 2, 1) := by decide +kernel
theorem dX4_rangeEnd_10 : decode cX4_rangeEnd 10 = .ok (.iload_n 2, 1) := by decide +kernel
theorem dX4_rangeEnd_11 : decode cX4_rangeEnd 11 = .ok (.invokevirtual 151, 3) := by decide +kernel
theorem dX4_rangeEnd_14 : decode cX4_rangeEnd 14 = .ok (.ifCond .ne 13, 3) := by decide +kernel
theorem dX4_rangeEnd_17 : decode cX4_rangeEnd 17 = .ok (.new 157, 3) := by decide +kernel
theorem dX4_rangeEnd_2 : decode cX4_rangeEnd 2 = .ok (.invokestatic 154, 3) := by decide +kernel
theorem dX4_rangeEnd_20 : decode cX4_rangeEnd 20 = .ok (.dup, 1) := by decide +kernel
theorem dX4_rangeEnd_21 : decode cX4_rangeEnd 21 = .ok (.ldc 159, 2) := by decide +kernel
theorem dX4_rangeEnd_23 : decode cX4_rangeEnd 23 = .ok (.invokespecial 161, 3) := by decide +kernel
theorem dX4_rangeEnd_26 : decode cX4_rangeEnd 26 = .ok (.athrow, 1) := by decide +kernel
theorem dX4_rangeEnd_5 : decode cX4_rangeEnd 5 = .ok (.aload_n 0, 1) := by decide +kernel
theorem dX4_rangeEnd_6 : decode cX4_rangeEnd 6 = .ok (.getfield 12, 3) := by decide +kernel
theorem dX4_rangeEnd_9 : decode cX4_rangeEnd 9 = .ok (.iload_n 1, 1) := by decide +kernel
theorem dX4_rangeNear_0 : decode cX4_rangeNear 0 = .ok (.iload_n 1, 1) := by decide +kernel
theorem dX4_rangeNear_1 : decode cX4_rangeNear 1 = .ok (.iload_n 2, 1) := by decide +kernel
theorem dX4_rangeNear_10 : decode cX4_rangeNear 10 = .ok (.aload_n 0, 1) := by decide +kernel
theorem dX4_rangeNear_11 : decode cX4_rangeNear 11 = .ok (.getfield 12, 3) := by decide +kernel
theorem dX4_rangeNear_14 : decode cX4_rangeNear 14 = .ok (.iload_n 1, 1) := by decide +kernel
theorem dX4_rangeNear_15 : decode cX4_rangeNear 15 = .ok (.iload_n 2, 1) := by decide +kernel
theorem dX4_rangeNear_16 : decode cX4_rangeNear 16 = .ok (.iload_n 3, 1) := by decide +kernel
theorem dX4_rangeNear_17 : decode cX4_rangeNear 17 = .ok (.iload 4, 2) := by decide +kernel
theorem dX4_rangeNear_19 : decode cX4_rangeNear 19 = .ok (.invokevirtual 110, 3) := by decide +kernel
theorem dX4_rangeNear_2 : decode cX4_rangeNear 2 = .ok (.invokestatic 154, 3) := by decide +kernel
theorem dX4_rangeNear_22 : decode cX4_rangeNear 22 = .ok (.istore 5, 2) := by decide +kernel
theorem dX4_rangeNear_24 : decode cX4_rangeNear 24 = .ok (.iload 5, 2) := by decide +kernel
theorem dX4_rangeNear_26 : decode cX4_rangeNear 26 = .ok (.iconst (-1), 1) := by decide +kernel
theorem dX4_rangeNear_27 : decode cX4_rangeNear 27 = .ok (.if_icmp .ne 13, 3) := by decide +kernel
theorem dX4_rangeNear_30 : decode cX4_rangeNear 30 = .ok (.new 157, 3) := by decide +kernel
theorem dX4_rangeNear_33 : decode cX4_rangeNear 33 = .ok (.dup, 1) := by decide +kernel
theorem dX4_rangeNear_34 : decode cX4_rangeNear 34 = .ok (.ldc 159, 2) := by decide +kernel
theorem dX4_rangeNear_36 : decode cX4_rangeNear 36 = .ok (.invokespecial 161, 3) := by decide +kernel
theorem dX4_rangeNear_39 : decode cX4_rangeNear 39 = .ok (.athrow, 1) := by decide +kernel
theorem dX4_rangeNear_5 : decode cX4_rangeNear 5 = .ok (.iload 4, 2) := by decide +kernel
theorem dX4_rangeNear_7 : decode cX4_rangeNear 7 = .ok (.invokestatic 107, 3) := by decide +kernel
theorem dX4_rangePoll_0 : decode cX4_rangePoll 0 = .ok (.aload_n 0, 1) := by decide +kernel
theorem dX4_rangePoll_1 : decode cX4_rangePoll 1 = .ok (.iload_n 1, 1) := by decide +kernel
theorem dX4_rangePoll_2 : decode cX4_rangePoll 2 = .ok (.iload_n 2, 1) := by decide +kernel
theorem dX4_rangePoll_3 : decode cX4_rangePoll 3 = .ok (.iload_n 3, 1) := by decide +kernel
theorem dX4_rangePoll_4 : decode cX4_rangePoll 4 = .ok (.invokevirtual 99, 3) := by decide +kernel
theorem dX4_rangePut_0 : decode cX4_rangePut 0 = .ok (.iload 4, 2) := by decide +kernel
theorem dX4_rangePut_10 : decode cX4_rangePut 10 = .ok (.iload_n 1, 1) := by decide +kernel
theorem dX4_rangePut_11 : decode cX4_rangePut 11 = .ok (.iload_n 2, 1) := by decide +kernel
theorem dX4_rangePut_12 : decode cX4_rangePut 12 = .ok (.iload_n 3, 1) := by decide +kernel
theorem dX4_rangePut_13 : decode cX4_rangePut 13 = .ok (.invokestatic 170, 3) := by decide +kernel
theorem dX4_rangePut_16 : decode cX4_rangePut 16 = .ok (.ifCond .eq 13, 3) := by decide +kernel
theorem dX4_rangePut_19 : decode cX4_rangePut 19 = .ok (.aload_n 0, 1) := by decide +kernel
theorem dX4_rangePut_2 : decode cX4_rangePut 2 = .ok (.invokestatic 52, 3) := by decide +kernel
theorem dX4_rangePut_20 : decode cX4_rangePut 20 = .ok (.iload_n 3, 1) := by decide +kernel
theorem dX4_rangePut_21 : decode cX4_rangePut 21 = .ok (.iload 4, 2) := by decide +kernel
theorem dX4_rangePut_23 : decode cX4_rangePut 23 = .ok (.invokevirtual 174, 3) := by decide +kernel
theorem dX4_rangePut_26 : decode cX4_rangePut 26 = .ok (.goto 6, 3) := by decide +kernel
theorem dX4_rangePut_29 : decode cX4_rangePut 29 = .ok (.sipush (-9999), 3) := by decide +kernel
theorem dX4_rangePut_32 : decode cX4_rangePut 32 = .ok (.ireturn, 1) := by decide +kernel
theorem dX4_rangePut_5 : decode cX4_rangePut 5 = .ok (.aload_n 0, 1) := by decide +kernel
theorem dX4_rangePut_6 : decode cX4_rangePut 6 = .ok (.iload_n 3, 1) := by decide +kernel
theorem dX4_rangePut_7 : decode cX4_rangePut 7 = .ok (.invokevirtual 55, 3) := by decide +kernel
theorem dX4_rangeSum_0 : decode cX4_rangeSum 0 = .ok (.iload_n 1, 1) := by decide +kernel
theorem dX4_rangeSum_1 : decode cX4_rangeSum 1 = .ok (.iload_n 2, 1) := by decide +kernel
theorem dX4_rangeSum_11 : decode cX4_rangeSum 11 = .ok (.iload_n 2, 1) := by decide +kernel
theorem dX4_rangeSum_12 : decode cX4_rangeSum 12 = .ok (.invokevirtual 164, 3) := by decide +kernel
theorem dX4_rangeSum_15 : decode cX4_rangeSum 15 = .ok (.istore 4, 2) := by decide +kernel
theorem dX4_rangeSum_17 : decode cX4_rangeSum 17 = .ok (.aload_n 0, 1) := by decide +kernel
theorem dX4_rangeSum_18 : decode cX4_rangeSum 18 = .ok (.getfield 12, 3) := by decide +kernel
theorem dX4_rangeSum_2 : decode cX4_rangeSum 2 = .ok (.invokestatic 154, 3) := by decide +kernel
theorem dX4_rangeSum_21 : decode cX4_rangeSum 21 = .ok (.iload_n 1, 1) := by decide +kernel
theorem dX4_rangeSum_22 : decode cX4_rangeSum 22 = .ok (.invokevirtual 167, 3) := by decide +kernel
theorem dX4_rangeSum_25 : decode cX4_rangeSum 25 = .ok (.istore 5, 2) := by decide +kernel
theorem dX4_rangeSum_27 : decode cX4_rangeSum 27 = .ok (.iload 5, 2) := by decide +kernel
theorem dX4_rangeSum_29 : decode cX4_rangeSum 29 = .ok (.iload 4, 2) := by decide +kernel
theorem dX4_rangeSum_31 : decode cX4_rangeSum 31 = .ok (.if_icmp .ge 21, 3) := by decide +kernel
theorem dX4_rangeSum_5 : decode cX4_rangeSum 5 = .ok (.iconst 0, 1) := by decide +kernel
theorem dX4_rangeSum_52 : decode cX4_rangeSum 52 = .ok (.iload_n 3, 1) := by decide +kernel
theorem dX4_rangeSum_53 : decode cX4_rangeSum 53 = .ok (.ireturn, 1) := by decide +kernel
theorem dX4_rangeSum_6 : decode cX4_rangeSum 6 = .ok (.istore_n 3, 1) := by decide +kernel
theorem dX4_rangeSum_7 : decode cX4_rangeSum 7 = .ok (.aload_n 0, 1) := by decide +kernel
theorem dX4_rangeSum_8 : decode cX4_rangeSum 8 = .ok (.getfield 12, 3) := by decide +kernel
theorem dX4_rangeText_0 : decode cX4_rangeText 0 = .ok (.iload_n 1, 1) := by decide +kernel
theorem dX4_rangeText_1 : decode cX4_rangeText 1 = .ok (.iload_n 2, 1) := by decide +kernel
theorem dX4_rangeText_12 : decode cX4_rangeText 12 = .ok (.astore_n 3, 1) := by decide +kernel
theorem dX4_rangeText_13 : decode cX4_rangeText 13 = .ok (.aload_n 0, 1) := by decide +kernel
theorem dX4_rangeText_14 : decode cX4_rangeText 14 = .ok (.aload_n 3, 1) := by decide +kernel
theorem dX4_rangeText_15 : decode cX4_rangeText 15 = .ok (.aload_n 0, 1) := by decide +kernel
theorem dX4_rangeText_16 : decode cX4_rangeText 16 = .ok (.getfield 12, 3) := by decide +kernel
theorem dX4_rangeText_19 : decode cX4_rangeText 19 = .ok (.iload_n 1, 1) := by decide +kernel
theorem dX4_rangeText_2 : decode cX4_rangeText 2 = .ok (.invokestatic 154, 3) := by decide +kernel
theorem dX4_rangeText_20 : decode cX4_rangeText 20 = .ok (.invokevirtual 167, 3) := by decide +kernel
theorem dX4_rangeText_23 : decode cX4_rangeText 23 = .ok (.aload_n 0, 1) := by decide +kernel
theorem dX4_rangeText_24 : decode cX4_rangeText 24 = .ok (.getfield 12, 3) := by decide +kernel
theorem dX4_rangeText_27 : decode cX4_rangeText 27 = .ok (.iload_n 2, 1) := by decide +kernel
theorem dX4_rangeText_28 : decode cX4_rangeText 28 = .ok (.invokevirtual 164, 3) := by decide +kernel
theorem dX4_rangeText_31 : decode cX4_rangeText 31 = .ok (.ldc 180, 2) := by decide +kernel
theorem dX4_rangeText_33 : decode cX4_rangeText 33 = .ok (.invokevirtual 141, 3) := by decide +kernel
theorem dX4_rangeText_36 : decode cX4_rangeText 36 = .ok (.aload_n 3, 1) := by decide +kernel
theorem dX4_rangeText_37 : decode cX4_rangeText 37 = .ok (.invokevirtual 145, 3) := by decide +kernel
theorem dX4_rangeText_40 : decode cX4_rangeText 40 = .ok (.areturn, 1) := by decide +kernel
theorem dX4_rangeText_5 : decode cX4_rangeText 5 = .ok (.new 132, 3) := by decide +kernel
theorem dX4_rangeText_8 : decode cX4_rangeText 8 = .ok (.dup, 1) := by decide +kernel
theorem dX4_rangeText_9 : decode cX4_rangeText 9 = .ok (.invokespecial 134, 3) := by decide +kernel
theorem dX4_rangeUse_0 : decode cX4_rangeUse 0 = .ok (.iload_n 1, 1) := by decide +kernel
theorem dX4_rangeUse_1 : decode cX4_rangeUse 1 = .ok (.iload_n 2, 1) := by decide +kernel
theorem dX4_rangeUse_11 : decode cX4_rangeUse 11 = .ok (.aload_n 0, 1) := by decide +kernel
theorem dX4_rangeUse_12 : decode cX4_rangeUse 12 = .ok (.getfield 46, 3) := by decide +kernel
theorem dX4_rangeUse_15 : decode cX4_rangeUse 15 = .ok (.invokevirtual 128, 3) := by decide +kernel
theorem dX4_rangeUse_18 : decode cX4_rangeUse 18 = .ok (.areturn, 1) := by decide +kernel
theorem dX4_rangeUse_2 : decode cX4_rangeUse 2 = .ok (.invokestatic 154, 3) := by decide +kernel
theorem dX4_rangeUse_5 : decode cX4_rangeUse 5 = .ok (.aload_n 0, 1) := by decide +kernel
theorem dX4_rangeUse_6 : decode cX4_rangeUse 6 = .ok (.iload_n 1, 1) := by decide +kernel
theorem dX4_rangeUse_7 : decode cX4_rangeUse 7 = .ok (.iload_n 2, 1) := by decide +kernel
theorem dX4_rangeUse_8 : decode cX4_rangeUse 8 = .ok (.invokevirtual 182, 3) := by decide +kernel
theorem dX4_removeIf_0 : decode cX4_removeIf 0 = .ok (.aload_n 0, 1) := by decide +kernel
theorem dX4_removeIf_1 : decode cX4_removeIf 1 = .ok (.iload_n 1, 1) := by decide +kernel
theorem dX4_removeIf_10 : decode cX4_removeIf 10 = .ok (.ireturn, 1) := by decide +kernel
theorem dX4_removeIf_2 : decode cX4_removeIf 2 = .ok (.iload_n 2, 1) := by decide +kernel
theorem dX4_removeIf_3 : decode cX4_removeIf 3 = .ok (.invokevirtual 69, 3) := by decide +kernel
theorem dX4_removeIf_6 : decode cX4_removeIf 6 = .ok (.ifCond .ne 5, 3) := by decide +kernel
theorem dX4_removeIf_9 : decode cX4_removeIf 9 = .ok (.iconst 0, 1) := by decide +kernel
theorem dX4_remove_0 : decode cX4_remove 0 = .ok (.aload_n 0, 1) := by decide +kernel
theorem dX4_remove_1 : decode cX4_remove 1 = .ok (.getfield 12, 3) := by decide +kernel
theorem dX4_remove_10 : decode cX4_remove 10 = .ok (.sipush (-1000), 3) := by decide +kernel
theorem dX4_remove_13 : decode cX4_remove 13 = .ok (.if_icmp .eq 15, 3) := by decide +kernel
theorem dX4_remove_28 : decode cX4_remove 28 = .ok (.iload_n 2, 1) := by decide +kernel
theorem dX4_remove_29 : decode cX4_remove 29 = .ok (.ireturn, 1) := by decide +kernel
theorem dX4_remove_4 : decode cX4_remove 4 = .ok (.iload_n 1, 1) := by decide +kernel
theorem dX4_remove_5 : decode cX4_remove 5 = .ok (.invokevirtual 58, 3) := by decide +kernel
theorem dX4_remove_8 : decode cX4_remove 8 = .ok (.istore_n 2, 1) := by decide +kernel
theorem dX4_remove_9 : decode cX4_remove 9 = .ok (.iload_n 2, 1) := by decide +kernel
theorem dX4_replaceIf_0 : decode cX4_replaceIf 0 = .ok (.iload_n 3, 1) := by decide +kernel
theorem dX4_replaceIf_1 : decode cX4_replaceIf 1 = .ok (.invokestatic 52, 3) := by decide +kernel
theorem dX4_replaceIf_10 : decode cX4_replaceIf 10 = .ok (.ifCond .ne 5, 3) := by decide +kernel
theorem dX4_replaceIf_13 : decode cX4_replaceIf 13 = .ok (.iconst 0, 1) := by decide +kernel
theorem dX4_replaceIf_14 : decode cX4_replaceIf 14 = .ok (.ireturn, 1) := by decide +kernel
theorem dX4_replaceIf_4 : decode cX4_replaceIf 4 = .ok (.aload_n 0, 1) := by decide +kernel
theorem dX4_replaceIf_5 : decode cX4_replaceIf 5 = .ok (.iload_n 1, 1) := by decide +kernel
theorem dX4_replaceIf_6 : decode cX4_replaceIf 6 = .ok (.iload_n 2, 1) := by decide +kernel
theorem dX4_replaceIf_7 : decode cX4_replaceIf 7 = .ok (.invokevirtual 69, 3) := by decide +kernel
theorem dX4_replace_0 : decode cX4_replace 0 = .ok (.iload_n 2, 1) := by decide +kernel
theorem dX4_replace_1 : decode cX4_replace 1 = .ok (.invokestatic 52, 3) := by decide +kernel
theorem dX4_replace_12 : decode cX4_replace 12 = .ok (.istore_n 3, 1) := by decide +kernel
theorem dX4_replace_13 : decode cX4_replace 13 = .ok (.iload_n 3, 1) := by decide +kernel
theorem dX4_replace_14 : decode cX4_replace 14 = .ok (.sipush (-1000), 3) := by decide +kernel
theorem dX4_replace_17 : decode cX4_replace 17 = .ok (.if_icmp .eq 16, 3) := by decide +kernel
theorem dX4_replace_33 : decode cX4_replace 33 = .ok (.iload_n 3, 1) := by decide +kernel
theorem dX4_replace_34 : decode cX4_replace 34 = .ok (.ireturn, 1) := by decide +kernel
theorem dX4_replace_4 : decode cX4_replace 4 = .ok (.aload_n 0, 1) := by decide +kernel
theorem dX4_replace_5 : decode cX4_replace 5 = .ok (.getfield 12, 3) := by decide +kernel
theorem dX4_replace_8 : decode cX4_replace 8 = .ok (.iload_n 1, 1) := by decide +kernel
theorem dX4_replace_9 : decode cX4_replace 9 = .ok (.invokevirtual 58, 3) := by decide +kernel
theorem dX4_size_0 : decode cX4_size 0 = .ok (.aload_n 0, 1) := by decide +kernel
theorem dX4_size_1 : decode cX4_size 1 = .ok (.getfield 12, 3) := by decide +kernel
theorem dX4_size_4 : decode cX4_size 4 = .ok (.invokevirtual 95, 3) := by decide +kernel
theorem dX4_size_7 : decode cX4_size 7 = .ok (.ireturn, 1) := by decide +kernel
theorem dX4_steps_0 : decode cX4_steps 0 = .ok (.aload_n 0, 1) := by decide +kernel
theorem dX4_steps_1 : decode cX4_steps 1 = .ok (.getfield 28, 3) := by decide +kernel
theorem dX4_steps_4 : decode cX4_steps 4 = .ok (.invokevirtual 237, 3) := by decide +kernel
theorem dX4_steps_7 : decode cX4_steps 7 = .ok (.ireturn, 1) := by decide +kernel
theorem dX4_stirredPagers_0 : decode cX4_stirredPagers 0 = .ok (.lload_n 1, 1) := by decide +kernel
theorem dX4_stirredPagers_1 : decode cX4_stirredPagers 1 = .ok (.lstore_n 3, 1) := by decide +kernel
theorem dX4_stirredPagers_11 : decode cX4_stirredPagers 11 = .ok (.iconst 0, 1) := by decide +kernel
theorem dX4_stirredPagers_12 : decode cX4_stirredPagers 12 = .ok (.istore 6, 2) := by decide +kernel
theorem dX4_stirredPagers_14 : decode cX4_stirredPagers 14 = .ok (.iload 6, 2) := by decide +kernel
theorem dX4_stirredPagers_16 : decode cX4_stirredPagers 16 = .ok (.iconst 3, 1) := by decide +kernel
theorem dX4_stirredPagers_17 : decode cX4_stirredPagers 17 = .ok (.if_icmp .gt 23, 3) := by decide +kernel
theorem dX4_stirredPagers_2 : decode cX4_stirredPagers 2 = .ok (.iconst 0, 1) := by decide +kernel
theorem dX4_stirredPagers_20 : decode cX4_stirredPagers 20 = .ok (.lload_n 3, 1) := by decide +kernel
theorem dX4_stirredPagers_21 : decode cX4_stirredPagers 21 = .ok (.aload_n 0, 1) := by decide +kernel
theorem dX4_stirredPagers_22 : decode cX4_stirredPagers 22 = .ok (.iload 5, 2) := by decide +kernel
theorem dX4_stirredPagers_24 : decode cX4_stirredPagers 24 = .ok (.iload 6, 2) := by decide +kernel
theorem dX4_stirredPagers_26 : decode cX4_stirredPagers 26 = .ok (.invokevirtual 359, 3) := by decide +kernel
theorem dX4_stirredPagers_29 : decode cX4_stirredPagers 29 = .ok (.i2l, 1) := by decide +kernel
theorem dX4_stirredPagers_3 : decode cX4_stirredPagers 3 = .ok (.istore 5, 2) := by decide +kernel
theorem dX4_stirredPagers_30 : decode cX4_stirredPagers 30 = .ok (.invokestatic 296, 3) := by decide +kernel
theorem dX4_stirredPagers_33 : decode cX4_stirredPagers 33 = .ok (.lstore_n 3, 1) := by decide +kernel
theorem dX4_stirredPagers_34 : decode cX4_stirredPagers 34 = .ok (.iinc 6 1, 3) := by decide +kernel
theorem dX4_stirredPagers_37 : decode cX4_stirredPagers 37 = .ok (.goto (-23), 3) := by decide +kernel
theorem dX4_stirredPagers_40 : decode cX4_stirredPagers 40 = .ok (.iinc 5 1, 3) := by decide +kernel
theorem dX4_stirredPagers_43 : decode cX4_stirredPagers 43 = .ok (.goto (-38), 3) := by decide +kernel
theorem dX4_stirredPagers_46 : decode cX4_stirredPagers 46 = .ok (.lload_n 3, 1) := by decide +kernel
theorem dX4_stirredPagers_47 : decode cX4_stirredPagers 47 = .ok (.lreturn, 1) := by decide +kernel
theorem dX4_stirredPagers_5 : decode cX4_stirredPagers 5 = .ok (.iload 5, 2) := by decide +kernel
theorem dX4_stirredPagers_7 : decode cX4_stirredPagers 7 = .ok (.iconst 3, 1) := by decide +kernel
theorem dX4_stirredPagers_8 : decode cX4_stirredPagers 8 = .ok (.if_icmp .ge 38, 3) := by decide +kernel
theorem dX4_stirredPairs_0 : decode cX4_stirredPairs 0 = .ok (.lload_n 1, 1) := by decide +kernel
theorem dX4_stirredPairs_1 : decode cX4_stirredPairs 1 = .ok (.lstore_n 3, 1) := by decide +kernel
theorem dX4_stirredPairs_11 : decode cX4_stirredPairs 11 = .ok (.invokevirtual 95, 3) := by decide +kernel
theorem dX4_stirredPairs_14 : decode cX4_stirredPairs 14 = .ok (.if_icmp .ge 39, 3) := by decide +kernel
theorem dX4_stirredPairs_2 : decode cX4_stirredPairs 2 = .ok (.iconst 0, 1) := by decide +kernel
theorem dX4_stirredPairs_3 : decode cX4_stirredPairs 3 = .ok (.istore 5, 2) := by decide +kernel
theorem dX4_stirredPairs_5 : decode cX4_stirredPairs 5 = .ok (.iload 5, 2) := by decide +kernel
theorem dX4_stirredPairs_53 : decode cX4_stirredPairs 53 = .ok (.iconst 0, 1) := by decide +kernel
theorem dX4_stirredPairs_54 : decode cX4_stirredPairs 54 = .ok (.istore 5, 2) := by decide +kernel
theorem dX4_stirredPairs_56 : decode cX4_stirredPairs 56 = .ok (.iload 5, 2) := by decide +kernel
theorem dX4_stirredPairs_58 : decode cX4_stirredPairs 58 = .ok (.aload_n 0, 1) := by decide +kernel
theorem dX4_stirredPairs_59 : decode cX4_stirredPairs 59 = .ok (.getfield 21, 3) := by decide +kernel
theorem dX4_stirredPairs_62 : decode cX4_stirredPairs 62 = .ok (.invokevirtual 185, 3) := by decide +kernel
theorem dX4_stirredPairs_65 : decode cX4_stirredPairs 65 = .ok (.if_icmp .ge 24, 3) := by decide +kernel
theorem dX4_stirredPairs_7 : decode cX4_stirredPairs 7 = .ok (.aload_n 0, 1) := by decide +kernel
theorem dX4_stirredPairs_8 : decode cX4_stirredPairs 8 = .ok (.getfield 12, 3) := by decide +kernel
theorem dX4_stirredPairs_89 : decode cX4_stirredPairs 89 = .ok (.lload_n 3, 1) := by decide +kernel
theorem dX4_stirredPairs_90 : decode cX4_stirredPairs 90 = .ok (.lreturn, 1) := by decide +kernel
theorem dX4_stirred_0 : decode cX4_stirred 0 = .ok (.lload_n 0, 1) := by decide +kernel
theorem dX4_stirred_1 : decode cX4_stirred 1 = .ok (.ldc2_w 357, 3) := by decide +kernel
theorem dX4_stirred_4 : decode cX4_stirred 4 = .ok (.lmul, 1) := by decide +kernel
theorem dX4_stirred_5 : decode cX4_stirred 5 = .ok (.lload_n 2, 1) := by decide +kernel
theorem dX4_stirred_6 : decode cX4_stirred 6 = .ok (.ladd, 1) := by decide +kernel
theorem dX4_stirred_7 : decode cX4_stirred 7 = .ok (.lreturn, 1) := by decide +kernel
theorem dX4_storeKept_0 : decode cX4_storeKept 0 = .ok (.iconst 0, 1) := by decide +kernel
theorem dX4_storeKept_1 : decode cX4_storeKept 1 = .ok (.istore_n 1, 1) := by decide +kernel
theorem dX4_storeKept_10 : decode cX4_storeKept 10 = .ok (.iconst 0, 1) := by decide +kernel
theorem dX4_storeKept_11 : decode cX4_storeKept 11 = .ok (.istore_n 3, 1) := by decide +kernel
theorem dX4_storeKept_12 : decode cX4_storeKept 12 = .ok (.iload_n 3, 1) := by decide +kernel
theorem dX4_storeKept_13 : decode cX4_storeKept 13 = .ok (.iload_n 2, 1) := by decide +kernel
theorem dX4_storeKept_14 : decode cX4_storeKept 14 = .ok (.if_icmp .ge 53, 3) := by decide +kernel
theorem dX4_storeKept_2 : decode cX4_storeKept 2 = .ok (.aload_n 0, 1) := by decide +kernel
theorem dX4_storeKept_3 : decode cX4_storeKept 3 = .ok (.getfield 32, 3) := by decide +kernel
theorem dX4_storeKept_6 : decode cX4_storeKept 6 = .ok (.invokevirtual 95, 3) := by decide +kernel
theorem dX4_storeKept_67 : decode cX4_storeKept 67 = .ok (.iload_n 1, 1) := by decide +kernel
theorem dX4_storeKept_68 : decode cX4_storeKept 68 = .ok (.ireturn, 1) := by decide +kernel
theorem dX4_storeKept_9 : decode cX4_storeKept 9 = .ok (.istore_n 2, 1) := by decide +kernel
theorem dX4_store_0 : decode cX4_store 0 = .ok (.aload_n 0, 1) := by decide +kernel
theorem dX4_store_1 : decode cX4_store 1 = .ok (.getfield 12, 3) := by decide +kernel
theorem dX4_store_10 : decode cX4_store 10 = .ok (.iload_n 2, 1) := by decide +kernel
theorem dX4_store_11 : decode cX4_store 11 = .ok (.if_icmp .eq 12, 3) := by decide +kernel
theorem dX4_store_14 : decode cX4_store 14 = .ok (.aload_n 0, 1) := by decide +kernel
theorem dX4_store_15 : decode cX4_store 15 = .ok (.getfield 28, 3) := by decide +kernel
theorem dX4_store_18 : decode cX4_store 18 = .ok (.iload_n 1, 1) := by decide +kernel
theorem dX4_store_19 : decode cX4_store 19 = .ok (.iload_n 3, 1) := by decide +kernel
theorem dX4_store_20 : decode cX4_store 20 = .ok (.invokevirtual 334, 3) := by decide +kernel
theorem dX4_store_23 : decode cX4_store 23 = .ok (.aload_n 0, 1) := by decide +kernel
theorem dX4_store_24 : decode cX4_store 24 = .ok (.iload_n 1, 1) := by decide +kernel
theorem dX4_store_25 : decode cX4_store 25 = .ok (.iload_n 2, 1) := by decide +kernel
theorem dX4_store_26 : decode cX4_store 26 = .ok (.invokevirtual 337, 3) := by decide +kernel
theorem dX4_store_29 : decode cX4_store 29 = .ok (.return_, 1) := by decide +kernel
theorem dX4_store_4 : decode cX4_store 4 = .ok (.iload_n 1, 1) := by decide +kernel
theorem dX4_store_5 : decode cX4_store 5 = .ok (.invokevirtual 58, 3) := by decide +kernel
theorem dX4_store_8 : decode cX4_store 8 = .ok (.istore_n 3, 1) := by decide +kernel
theorem dX4_store_9 : decode cX4_store 9 = .ok (.iload_n 3, 1) := by decide +kernel
theorem dX4_text_0 : decode cX4_text 0 = .ok (.new 132, 3) := by decide +kernel
theorem dX4_text_11 : decode cX4_text 11 = .ok (.invokevirtual 135, 3) := by decide +kernel
theorem dX4_text_14 : decode cX4_text 14 = .ok (.pop, 1) := by decide +kernel
theorem dX4_text_15 : decode cX4_text 15 = .ok (.aload_n 0, 1) := by decide +kernel
theorem dX4_text_16 : decode cX4_text 16 = .ok (.aload_n 1, 1) := by decide +kernel
theorem dX4_text_17 : decode cX4_text 17 = .ok (.iconst 0, 1) := by decide +kernel
theorem dX4_text_18 : decode cX4_text 18 = .ok (.aload_n 0, 1) := by decide +kernel
theorem dX4_text_19 : decode cX4_text 19 = .ok (.getfield 12, 3) := by decide +kernel
theorem dX4_text_22 : decode cX4_text 22 = .ok (.invokevirtual 95, 3) := by decide +kernel
theorem dX4_text_25 : decode cX4_text 25 = .ok (.ldc 139, 2) := by decide +kernel
theorem dX4_text_27 : decode cX4_text 27 = .ok (.invokevirtual 141, 3) := by decide +kernel
theorem dX4_text_3 : decode cX4_text 3 = .ok (.dup, 1) := by decide +kernel
theorem dX4_text_30 : decode cX4_text 30 = .ok (.aload_n 1, 1) := by decide +kernel
theorem dX4_text_31 : decode cX4_text 31 = .ok (.bipush 125, 2) := by decide +kernel
theorem dX4_text_33 : decode cX4_text 33 = .ok (.invokevirtual 135, 3) := by decide +kernel
theorem dX4_text_36 : decode cX4_text 36 = .ok (.pop, 1) := by decide +kernel
theorem dX4_text_37 : decode cX4_text 37 = .ok (.aload_n 1, 1) := by decide +kernel
theorem dX4_text_38 : decode cX4_text 38 = .ok (.invokevirtual 145, 3) := by decide +kernel
theorem dX4_text_4 : decode cX4_text 4 = .ok (.invokespecial 134, 3) := by decide +kernel
theorem dX4_text_41 : decode cX4_text 41 = .ok (.areturn, 1) := by decide +kernel
theorem dX4_text_7 : decode cX4_text 7 = .ok (.astore_n 1, 1) := by decide +kernel
theorem dX4_text_8 : decode cX4_text 8 = .ok (.aload_n 1, 1) := by decide +kernel
theorem dX4_text_9 : decode cX4_text 9 = .ok (.bipush 123, 2) := by decide +kernel
theorem dX4_undo_0 : decode cX4_undo 0 = .ok (.aload_n 0, 1) := by decide +kernel
theorem dX4_undo_1 : decode cX4_undo 1 = .ok (.getfield 28, 3) := by decide +kernel
theorem dX4_undo_10 : decode cX4_undo 10 = .ok (.sipush (-9999), 3) := by decide +kernel
theorem dX4_undo_13 : decode cX4_undo 13 = .ok (.ireturn, 1) := by decide +kernel
theorem dX4_undo_4 : decode cX4_undo 4 = .ok (.invokevirtual 237, 3) := by decide +kernel
theorem dX4_undo_7 : decode cX4_undo 7 = .ok (.ifCond .ne 7, 3) := by decide +kernel
theorem dX4_use_0 : decode cX4_use 0 = .ok (.aload_n 0, 1) := by decide +kernel
theorem dX4_use_1 : decode cX4_use 1 = .ok (.getfield 21, 3) := by decide +kernel
theorem dX4_use_12 : decode cX4_use 12 = .ok (.invokevirtual 345, 3) := by decide +kernel
theorem dX4_use_15 : decode cX4_use 15 = .ok (.aload_n 0, 1) := by decide +kernel
theorem dX4_use_16 : decode cX4_use 16 = .ok (.getfield 21, 3) := by decide +kernel
theorem dX4_use_19 : decode cX4_use 19 = .ok (.iload_n 1, 1) := by decide +kernel
theorem dX4_use_20 : decode cX4_use 20 = .ok (.invokevirtual 125, 3) := by decide +kernel
theorem dX4_use_23 : decode cX4_use 23 = .ok (.return_, 1) := by decide +kernel
theorem dX4_use_4 : decode cX4_use 4 = .ok (.aload_n 0, 1) := by decide +kernel
theorem dX4_use_5 : decode cX4_use 5 = .ok (.getfield 21, 3) := by decide +kernel
theorem dX4_use_8 : decode cX4_use 8 = .ok (.iload_n 1, 1) := by decide +kernel
theorem dX4_use_9 : decode cX4_use 9 = .ok (.invokevirtual 192, 3) := by decide +kernel
theorem dX4_uses_0 : decode cX4_uses 0 = .ok (.aload_n 0, 1) := by decide +kernel
theorem dX4_uses_1 : decode cX4_uses 1 = .ok (.getfield 21, 3) := by decide +kernel
theorem dX4_uses_4 : decode cX4_uses 4 = .ok (.invokevirtual 128, 3) := by decide +kernel
theorem dX4_uses_7 : decode cX4_uses 7 = .ok (.areturn, 1) := by decide +kernel
theorem dX4_values_0 : decode cX4_values 0 = .ok (.aload_n 0, 1) := by decide +kernel
theorem dX4_values_1 : decode cX4_values 1 = .ok (.getfield 12, 3) := by decide +kernel
theorem dX4_values_12 : decode cX4_values 12 = .ok (.invokevirtual 119, 3) := by decide +kernel
theorem dX4_values_15 : decode cX4_values 15 = .ok (.iconst 0, 1) := by decide +kernel
theorem dX4_values_16 : decode cX4_values 16 = .ok (.istore_n 2, 1) := by decide +kernel
theorem dX4_values_17 : decode cX4_values 17 = .ok (.iload_n 2, 1) := by decide +kernel
theorem dX4_values_18 : decode cX4_values 18 = .ok (.iload_n 1, 1) := by decide +kernel
theorem dX4_values_19 : decode cX4_values 19 = .ok (.if_icmp .ge 24, 3) := by decide +kernel
theorem dX4_values_4 : decode cX4_values 4 = .ok (.invokevirtual 95, 3) := by decide +kernel
theorem dX4_values_43 : decode cX4_values 43 = .ok (.aload_n 0, 1) := by decide +kernel
theorem dX4_values_44 : decode cX4_values 44 = .ok (.getfield 46, 3) := by decide +kernel
theorem dX4_values_47 : decode cX4_values 47 = .ok (.invokevirtual 128, 3) := by decide +kernel
theorem dX4_values_50 : decode cX4_values 50 = .ok (.areturn, 1) := by decide +kernel
theorem dX4_values_7 : decode cX4_values 7 = .ok (.istore_n 1, 1) := by decide +kernel
theorem dX4_values_8 : decode cX4_values 8 = .ok (.aload_n 0, 1) := by decide +kernel
theorem dX4_values_9 : decode cX4_values 9 = .ok (.getfield 46, 3) := by decide +kernel
theorem dX5_init_0 : decode cX5_init 0 = .ok (.aload_n 0, 1) := by decide +kernel
theorem dX5_init_1 : decode cX5_init 1 = .ok (.invokespecial 1, 3) := by decide +kernel
theorem dX5_init_4 : decode cX5_init 4 = .ok (.return_, 1) := by decide +kernel
theorem dX6_added_0 : decode cX6_added 0 = .ok (.lload_n 0, 1) := by decide +kernel
theorem dX6_added_1 : decode cX6_added 1 = .ok (.ldc2_w 223, 3) := by decide +kernel
theorem dX6_added_4 : decode cX6_added 4 = .ok (.lmul, 1) := by decide +kernel
theorem dX6_added_5 : decode cX6_added 5 = .ok (.lload_n 2, 1) := by decide +kernel
theorem dX6_added_6 : decode cX6_added 6 = .ok (.ladd, 1) := by decide +kernel
theorem dX6_added_7 : decode cX6_added 7 = .ok (.lreturn, 1) := by decide +kernel
theorem dX6_ageOf_0 : decode cX6_ageOf 0 = .ok (.aload_n 0, 1) := by decide +kernel
theorem dX6_ageOf_1 : decode cX6_ageOf 1 = .ok (.iconst 0, 1) := by decide +kernel
theorem dX6_ageOf_10 : decode cX6_ageOf 10 = .ok (.invokestatic 49, 3) := by decide +kernel
theorem dX6_ageOf_13 : decode cX6_ageOf 13 = .ok (.ifCond .ge 9, 3) := by decide +kernel
theorem dX6_ageOf_16 : decode cX6_ageOf 16 = .ok (.sipush (-1000), 3) := by decide +kernel
theorem dX6_ageOf_19 : decode cX6_ageOf 19 = .ok (.goto 21, 3) := by decide +kernel
theorem dX6_ageOf_2 : decode cX6_ageOf 2 = .ok (.putfield 36, 3) := by decide +kernel
theorem dX6_ageOf_40 : decode cX6_ageOf 40 = .ok (.ireturn, 1) := by decide +kernel
theorem dX6_ageOf_5 : decode cX6_ageOf 5 = .ok (.aload_n 0, 1) := by decide +kernel
theorem dX6_ageOf_6 : decode cX6_ageOf 6 = .ok (.getfield 10, 3) := by decide +kernel
theorem dX6_ageOf_9 : decode cX6_ageOf 9 = .ok (.iload_n 1, 1) := by decide +kernel
theorem dX6_aged_0 : decode cX6_aged 0 = .ok (.aload_n 0, 1) := by decide +kernel
theorem dX6_aged_1 : decode cX6_aged 1 = .ok (.aload_n 0, 1) := by decide +kernel
theorem dX6_aged_11 : decode cX6_aged 11 = .ok (.iconst 1, 1) := by decide +kernel
theorem dX6_aged_12 : decode cX6_aged 12 = .ok (.goto 4, 3) := by decide +kernel
theorem dX6_aged_16 : decode cX6_aged 16 = .ok (.iconst 1, 1) := by decide +kernel
theorem dX6_aged_17 : decode cX6_aged 17 = .ok (.invokevirtual 77, 3) := by decide +kernel
theorem dX6_aged_2 : decode cX6_aged 2 = .ok (.getfield 10, 3) := by decide +kernel
theorem dX6_aged_20 : decode cX6_aged 20 = .ok (.ifCond .eq 7, 3) := by decide +kernel
theorem dX6_aged_23 : decode cX6_aged 23 = .ok (.iconst 0, 1) := by decide +kernel
theorem dX6_aged_24 : decode cX6_aged 24 = .ok (.goto 11, 3) := by decide +kernel
theorem dX6_aged_35 : decode cX6_aged 35 = .ok (.ireturn, 1) := by decide +kernel
theorem dX6_aged_5 : decode cX6_aged 5 = .ok (.invokevirtual 40, 3) := by decide +kernel
theorem dX6_aged_8 : decode cX6_aged 8 = .ok (.ifCond .ne 7, 3) := by decide +kernel
theorem dX6_all_0 : decode cX6_all 0 = .ok (.aload_n 0, 1) := by decide +kernel
theorem dX6_all_1 : decode cX6_all 1 = .ok (.ldc 101, 2) := by decide +kernel
theorem dX6_all_3 : decode cX6_all 3 = .ok (.ldc 102, 2) := by decide +kernel
theorem dX6_all_5 : decode cX6_all 5 = .ok (.invokevirtual 103, 3) := by decide +kernel
theorem dX6_all_8 : decode cX6_all 8 = .ok (.areturn, 1) := by decide +kernel
theorem dX6_apartNow_0 : decode cX6_apartNow 0 = .ok (.iconst 0, 1) := by decide +kernel
theorem dX6_apartNow_1 : decode cX6_apartNow 1 = .ok (.istore_n 1, 1) := by decide +kernel
theorem dX6_apartNow_10 : decode cX6_apartNow 10 = .ok (.aload_n 2, 1) := by decide +kernel
theorem dX6_apartNow_11 : decode cX6_apartNow 11 = .ok (.invokeinterface 171 1, 5) := by decide +kernel
theorem dX6_apartNow_113 : decode cX6_apartNow 113 = .ok (.iload_n 1, 1) := by decide +kernel
theorem dX6_apartNow_114 : decode cX6_apartNow 114 = .ok (.ireturn, 1) := by decide +kernel
theorem dX6_apartNow_16 : decode cX6_apartNow 16 = .ok (.ifCond .eq 43, 3) := by decide +kernel
theorem dX6_apartNow_2 : decode cX6_apartNow 2 = .ok (.aload_n 0, 1) := by decide +kernel
theorem dX6_apartNow_3 : decode cX6_apartNow 3 = .ok (.getfield 10, 3) := by decide +kernel
theorem dX6_apartNow_59 : decode cX6_apartNow 59 = .ok (.aload_n 0, 1) := by decide +kernel
theorem dX6_apartNow_6 : decode cX6_apartNow 6 = .ok (.invokevirtual 167, 3) := by decide +kernel
theorem dX6_apartNow_60 : decode cX6_apartNow 60 = .ok (.getfield 16, 3) := by decide +kernel
theorem dX6_apartNow_63 : decode cX6_apartNow 63 = .ok (.invokevirtual 167, 3) := by decide +kernel
theorem dX6_apartNow_66 : decode cX6_apartNow 66 = .ok (.astore_n 2, 1) := by decide +kernel
theorem dX6_apartNow_67 : decode cX6_apartNow 67 = .ok (.aload_n 2, 1) := by decide +kernel
theorem dX6_apartNow_68 : decode cX6_apartNow 68 = .ok (.invokeinterface 171 1, 5) := by decide +kernel
theorem dX6_apartNow_73 : decode cX6_apartNow 73 = .ok (.ifCond .eq 40, 3) := by decide +kernel
theorem dX6_apartNow_9 : decode cX6_apartNow 9 = .ok (.astore_n 2, 1) := by decide +kernel
theorem dX6_apart_0 : decode cX6_apart 0 = .ok (.aload_n 0, 1) := by decide +kernel
theorem dX6_apart_1 : decode cX6_apart 1 = .ok (.iconst 0, 1) := by decide +kernel
theorem dX6_apart_2 : decode cX6_apart 2 = .ok (.putfield 36, 3) := by decide +kernel
theorem dX6_apart_5 : decode cX6_apart 5 = .ok (.aload_n 0, 1) := by decide +kernel
theorem dX6_apart_6 : decode cX6_apart 6 = .ok (.invokevirtual 214, 3) := by decide +kernel
theorem dX6_apart_9 : decode cX6_apart 9 = .ok (.ireturn, 1) := by decide +kernel
theorem dX6_at_0 : decode cX6_at 0 = .ok (.iconst 0, 1) := by decide +kernel
theorem dX6_at_1 : decode cX6_at 1 = .ok (.istore_n 2, 1) := by decide +kernel
theorem dX6_at_2 : decode cX6_at 2 = .ok (.iload_n 2, 1) := by decide +kernel
theorem dX6_at_3 : decode cX6_at 3 = .ok (.aload_n 0, 1) := by decide +kernel
theorem dX6_at_32 : decode cX6_at 32 = .ok (.iconst (-1), 1) := by decide +kernel
theorem dX6_at_33 : decode cX6_at 33 = .ok (.ireturn, 1) := by decide +kernel
theorem dX6_at_4 : decode cX6_at 4 = .ok (.invokevirtual 40, 3) := by decide +kernel
theorem dX6_at_7 : decode cX6_at 7 = .ok (.if_icmp .ge 25, 3) := by decide +kernel
theorem dX6_back_0 : decode cX6_back 0 = .ok (.aload_n 0, 1) := by decide +kernel
theorem dX6_back_1 : decode cX6_back 1 = .ok (.iconst 0, 1) := by decide +kernel
theorem dX6_back_117 : decode cX6_back 117 = .ok (.aload_n 0, 1) := by decide +kernel
theorem dX6_back_118 : decode cX6_back 118 = .ok (.invokevirtual 70, 3) := by decide +kernel
theorem dX6_back_12 : decode cX6_back 12 = .ok (.astore_n 1, 1) := by decide +kernel
theorem dX6_back_121 : decode cX6_back 121 = .ok (.ireturn, 1) := by decide +kernel
theorem dX6_back_13 : decode cX6_back 13 = .ok (.aload_n 1, 1) := by decide +kernel
theorem dX6_back_14 : decode cX6_back 14 = .ok (.arraylength, 1) := by decide +kernel
theorem dX6_back_15 : decode cX6_back 15 = .ok (.istore_n 2, 1) := by decide +kernel
theorem dX6_back_16 : decode cX6_back 16 = .ok (.iconst 0, 1) := by decide +kernel
theorem dX6_back_17 : decode cX6_back 17 = .ok (.istore_n 3, 1) := by decide +kernel
theorem dX6_back_18 : decode cX6_back 18 = .ok (.iload_n 3, 1) := by decide +kernel
theorem dX6_back_19 : decode cX6_back 19 = .ok (.iload_n 2, 1) := by decide +kernel
theorem dX6_back_2 : decode cX6_back 2 = .ok (.putfield 36, 3) := by decide +kernel
theorem dX6_back_20 : decode cX6_back 20 = .ok (.if_icmp .ge 32, 3) := by decide +kernel
theorem dX6_back_5 : decode cX6_back 5 = .ok (.aload_n 0, 1) := by decide +kernel
theorem dX6_back_52 : decode cX6_back 52 = .ok (.aload_n 0, 1) := by decide +kernel
theorem dX6_back_53 : decode cX6_back 53 = .ok (.getfield 16, 3) := by decide +kernel
theorem dX6_back_56 : decode cX6_back 56 = .ok (.invokestatic 95, 3) := by decide +kernel
theorem dX6_back_59 : decode cX6_back 59 = .ok (.astore_n 1, 1) := by decide +kernel
theorem dX6_back_6 : decode cX6_back 6 = .ok (.getfield 10, 3) := by decide +kernel
theorem dX6_back_60 : decode cX6_back 60 = .ok (.aload_n 1, 1) := by decide +kernel
theorem dX6_back_61 : decode cX6_back 61 = .ok (.arraylength, 1) := by decide +kernel
theorem dX6_back_62 : decode cX6_back 62 = .ok (.istore_n 2, 1) := by decide +kernel
theorem dX6_back_63 : decode cX6_back 63 = .ok (.iconst 0, 1) := by decide +kernel
theorem dX6_back_64 : decode cX6_back 64 = .ok (.istore_n 3, 1) := by decide +kernel
theorem dX6_back_65 : decode cX6_back 65 = .ok (.iload_n 3, 1) := by decide +kernel
theorem dX6_back_66 : decode cX6_back 66 = .ok (.iload_n 2, 1) := by decide +kernel
theorem dX6_back_67 : decode cX6_back 67 = .ok (.if_icmp .ge 50, 3) := by decide +kernel
theorem dX6_back_9 : decode cX6_back 9 = .ok (.invokestatic 95, 3) := by decide +kernel
theorem dX6_clear_0 : decode cX6_clear 0 = .ok (.aload_n 0, 1) := by decide +kernel
theorem dX6_clear_1 : decode cX6_clear 1 = .ok (.iconst 0, 1) := by decide +kernel
theorem dX6_clear_12 : decode cX6_clear 12 = .ok (.astore_n 1, 1) := by decide +kernel
theorem dX6_clear_13 : decode cX6_clear 13 = .ok (.aload_n 1, 1) := by decide +kernel
theorem dX6_clear_14 : decode cX6_clear 14 = .ok (.arraylength, 1) := by decide +kernel
theorem dX6_clear_15 : decode cX6_clear 15 = .ok (.istore_n 2, 1) := by decide +kernel
theorem dX6_clear_16 : decode cX6_clear 16 = .ok (.iconst 0, 1) := by decide +kernel
theorem dX6_clear_17 : decode cX6_clear 17 = .ok (.istore_n 3, 1) := by decide +kernel
theorem dX6_clear_18 : decode cX6_clear 18 = .ok (.iload_n 3, 1) := by decide +kernel
theorem dX6_clear_19 : decode cX6_clear 19 = .ok (.iload_n 2, 1) := by decide +kernel
theorem dX6_clear_2 : decode cX6_clear 2 = .ok (.putfield 36, 3) := by decide +kernel
theorem dX6_clear_20 : decode cX6_clear 20 = .ok (.if_icmp .ge 20, 3) := by decide +kernel
theorem dX6_clear_40 : decode cX6_clear 40 = .ok (.aload_n 0, 1) := by decide +kernel
theorem dX6_clear_41 : decode cX6_clear 41 = .ok (.invokevirtual 70, 3) := by decide +kernel
theorem dX6_clear_44 : decode cX6_clear 44 = .ok (.ireturn, 1) := by decide +kernel
theorem dX6_clear_5 : decode cX6_clear 5 = .ok (.aload_n 0, 1) := by decide +kernel
theorem dX6_clear_6 : decode cX6_clear 6 = .ok (.getfield 10, 3) := by decide +kernel
theorem dX6_clear_9 : decode cX6_clear 9 = .ok (.invokestatic 95, 3) := by decide +kernel
theorem dX6_copy_0 : decode cX6_copy 0 = .ok (.aload_n 0, 1) := by decide +kernel
theorem dX6_copy_1 : decode cX6_copy 1 = .ok (.iconst 0, 1) := by decide +kernel
theorem dX6_copy_10 : decode cX6_copy 10 = .ok (.invokespecial 9, 3) := by decide +kernel
theorem dX6_copy_13 : decode cX6_copy 13 = .ok (.putfield 16, 3) := by decide +kernel
theorem dX6_copy_16 : decode cX6_copy 16 = .ok (.aload_n 0, 1) := by decide +kernel
theorem dX6_copy_17 : decode cX6_copy 17 = .ok (.getfield 10, 3) := by decide +kernel
theorem dX6_copy_2 : decode cX6_copy 2 = .ok (.putfield 36, 3) := by decide +kernel
theorem dX6_copy_20 : decode cX6_copy 20 = .ok (.invokevirtual 167, 3) := by decide +kernel
theorem dX6_copy_23 : decode cX6_copy 23 = .ok (.astore_n 1, 1) := by decide +kernel
theorem dX6_copy_24 : decode cX6_copy 24 = .ok (.aload_n 1, 1) := by decide +kernel
theorem dX6_copy_25 : decode cX6_copy 25 = .ok (.invokeinterface 171 1, 5) := by decide +kernel
theorem dX6_copy_30 : decode cX6_copy 30 = .ok (.ifCond .eq 39, 3) := by decide +kernel
theorem dX6_copy_5 : decode cX6_copy 5 = .ok (.aload_n 0, 1) := by decide +kernel
theorem dX6_copy_6 : decode cX6_copy 6 = .ok (.new 7, 3) := by decide +kernel
theorem dX6_copy_69 : decode cX6_copy 69 = .ok (.aload_n 0, 1) := by decide +kernel
theorem dX6_copy_70 : decode cX6_copy 70 = .ok (.getfield 16, 3) := by decide +kernel
theorem dX6_copy_73 : decode cX6_copy 73 = .ok (.invokevirtual 40, 3) := by decide +kernel
theorem dX6_copy_76 : decode cX6_copy 76 = .ok (.ireturn, 1) := by decide +kernel
theorem dX6_copy_9 : decode cX6_copy 9 = .ok (.dup, 1) := by decide +kernel
theorem dX6_digest_0 : decode cX6_digest 0 = .ok (.aload_n 0, 1) := by decide +kernel
theorem dX6_digest_1 : decode cX6_digest 1 = .ok (.iconst 0, 1) := by decide +kernel
theorem dX6_digest_10 : decode cX6_digest 10 = .ok (.istore_n 3, 1) := by decide +kernel
theorem dX6_digest_102 : decode cX6_digest 102 = .ok (.ifCond .eq 27, 3) := by decide +kernel
theorem dX6_digest_11 : decode cX6_digest 11 = .ok (.iload_n 3, 1) := by decide +kernel
theorem dX6_digest_12 : decode cX6_digest 12 = .ok (.iconst 5, 1) := by decide +kernel
theorem dX6_digest_129 : decode cX6_digest 129 = .ok (.iconst 0, 1) := by decide +kernel
theorem dX6_digest_13 : decode cX6_digest 13 = .ok (.if_icmp .ge 20, 3) := by decide +kernel
theorem dX6_digest_130 : decode cX6_digest 130 = .ok (.istore_n 3, 1) := by decide +kernel
theorem dX6_digest_131 : decode cX6_digest 131 = .ok (.iload_n 3, 1) := by decide +kernel
theorem dX6_digest_132 : decode cX6_digest 132 = .ok (.iconst 3, 1) := by decide +kernel
theorem dX6_digest_133 : decode cX6_digest 133 = .ok (.if_icmp .ge 37, 3) := by decide +kernel
theorem dX6_digest_136 : decode cX6_digest 136 = .ok (.iconst 0, 1) := by decide +kernel
theorem dX6_digest_137 : decode cX6_digest 137 = .ok (.istore 4, 2) := by decide +kernel
theorem dX6_digest_139 : decode cX6_digest 139 = .ok (.iload 4, 2) := by decide +kernel
theorem dX6_digest_141 : decode cX6_digest 141 = .ok (.iconst 4, 1) := by decide +kernel
theorem dX6_digest_142 : decode cX6_digest 142 = .ok (.if_icmp .ge 22, 3) := by decide +kernel
theorem dX6_digest_145 : decode cX6_digest 145 = .ok (.lload_n 1, 1) := by decide +kernel
theorem dX6_digest_146 : decode cX6_digest 146 = .ok (.aload_n 0, 1) := by decide +kernel
theorem dX6_digest_147 : decode cX6_digest 147 = .ok (.iload_n 3, 1) := by decide +kernel
theorem dX6_digest_148 : decode cX6_digest 148 = .ok (.iload 4, 2) := by decide +kernel
theorem dX6_digest_150 : decode cX6_digest 150 = .ok (.invokevirtual 208, 3) := by decide +kernel
theorem dX6_digest_153 : decode cX6_digest 153 = .ok (.i2l, 1) := by decide +kernel
theorem dX6_digest_154 : decode cX6_digest 154 = .ok (.invokestatic 227, 3) := by decide +kernel
theorem dX6_digest_157 : decode cX6_digest 157 = .ok (.lstore_n 1, 1) := by decide +kernel
theorem dX6_digest_158 : decode cX6_digest 158 = .ok (.iinc 4 1, 3) := by decide +kernel
theorem dX6_digest_16 : decode cX6_digest 16 = .ok (.lload_n 1, 1) := by decide +kernel
theorem dX6_digest_161 : decode cX6_digest 161 = .ok (.goto (-22), 3) := by decide +kernel
theorem dX6_digest_164 : decode cX6_digest 164 = .ok (.iinc 3 1, 3) := by decide +kernel
theorem dX6_digest_167 : decode cX6_digest 167 = .ok (.goto (-36), 3) := by decide +kernel
theorem dX6_digest_17 : decode cX6_digest 17 = .ok (.aload_n 0, 1) := by decide +kernel
theorem dX6_digest_170 : decode cX6_digest 170 = .ok (.lload_n 1, 1) := by decide +kernel
theorem dX6_digest_171 : decode cX6_digest 171 = .ok (.aload_n 0, 1) := by decide +kernel
theorem dX6_digest_172 : decode cX6_digest 172 = .ok (.invokevirtual 164, 3) := by decide +kernel
theorem dX6_digest_175 : decode cX6_digest 175 = .ok (.i2l, 1) := by decide +kernel
theorem dX6_digest_176 : decode cX6_digest 176 = .ok (.invokestatic 227, 3) := by decide +kernel
theorem dX6_digest_179 : decode cX6_digest 179 = .ok (.aload_n 0, 1) := by decide +kernel
theorem dX6_digest_18 : decode cX6_digest 18 = .ok (.iload_n 3, 1) := by decide +kernel
theorem dX6_digest_180 : decode cX6_digest 180 = .ok (.invokevirtual 161, 3) := by decide +kernel
theorem dX6_digest_183 : decode cX6_digest 183 = .ok (.invokevirtual 144, 3) := by decide +kernel
theorem dX6_digest_186 : decode cX6_digest 186 = .ok (.i2l, 1) := by decide +kernel
theorem dX6_digest_187 : decode cX6_digest 187 = .ok (.invokestatic 227, 3) := by decide +kernel
theorem dX6_digest_19 : decode cX6_digest 19 = .ok (.invokevirtual 220, 3) := by decide +kernel
theorem dX6_digest_190 : decode cX6_digest 190 = .ok (.aload_n 0, 1) := by decide +kernel
theorem dX6_digest_191 : decode cX6_digest 191 = .ok (.invokevirtual 214, 3) := by decide +kernel
theorem dX6_digest_194 : decode cX6_digest 194 = .ok (.i2l, 1) := by decide +kernel
theorem dX6_digest_195 : decode cX6_digest 195 = .ok (.invokestatic 227, 3) := by decide +kernel
theorem dX6_digest_198 : decode cX6_digest 198 = .ok (.lconst 1, 1) := by decide +kernel
theorem dX6_digest_199 : decode cX6_digest 199 = .ok (.invokestatic 227, 3) := by decide +kernel
theorem dX6_digest_2 : decode cX6_digest 2 = .ok (.putfield 36, 3) := by decide +kernel
theorem dX6_digest_202 : decode cX6_digest 202 = .ok (.lreturn, 1) := by decide +kernel
theorem dX6_digest_22 : decode cX6_digest 22 = .ok (.i2l, 1) := by decide +kernel
theorem dX6_digest_23 : decode cX6_digest 23 = .ok (.invokestatic 227, 3) := by decide +kernel
theorem dX6_digest_26 : decode cX6_digest 26 = .ok (.lstore_n 1, 1) := by decide +kernel
theorem dX6_digest_27 : decode cX6_digest 27 = .ok (.iinc 3 1, 3) := by decide +kernel
theorem dX6_digest_30 : decode cX6_digest 30 = .ok (.goto (-19), 3) := by decide +kernel
theorem dX6_digest_33 : decode cX6_digest 33 = .ok (.aload_n 0, 1) := by decide +kernel
theorem dX6_digest_34 : decode cX6_digest 34 = .ok (.getfield 10, 3) := by decide +kernel
theorem dX6_digest_37 : decode cX6_digest 37 = .ok (.invokestatic 95, 3) := by decide +kernel
theorem dX6_digest_40 : decode cX6_digest 40 = .ok (.astore_n 3, 1) := by decide +kernel
theorem dX6_digest_41 : decode cX6_digest 41 = .ok (.aload_n 3, 1) := by decide +kernel
theorem dX6_digest_42 : decode cX6_digest 42 = .ok (.arraylength, 1) := by decide +kernel
theorem dX6_digest_43 : decode cX6_digest 43 = .ok (.istore 4, 2) := by decide +kernel
theorem dX6_digest_45 : decode cX6_digest 45 = .ok (.iconst 0, 1) := by decide +kernel
theorem dX6_digest_46 : decode cX6_digest 46 = .ok (.istore 5, 2) := by decide +kernel
theorem dX6_digest_48 : decode cX6_digest 48 = .ok (.iload 5, 2) := by decide +kernel
theorem dX6_digest_5 : decode cX6_digest 5 = .ok (.ldc2_w 225, 3) := by decide +kernel
theorem dX6_digest_50 : decode cX6_digest 50 = .ok (.iload 4, 2) := by decide +kernel
theorem dX6_digest_52 : decode cX6_digest 52 = .ok (.if_icmp .ge 36, 3) := by decide +kernel
theorem dX6_digest_8 : decode cX6_digest 8 = .ok (.lstore_n 1, 1) := by decide +kernel
theorem dX6_digest_88 : decode cX6_digest 88 = .ok (.aload_n 0, 1) := by decide +kernel
theorem dX6_digest_89 : decode cX6_digest 89 = .ok (.getfield 10, 3) := by decide +kernel
theorem dX6_digest_9 : decode cX6_digest 9 = .ok (.iconst 0, 1) := by decide +kernel
theorem dX6_digest_92 : decode cX6_digest 92 = .ok (.invokevirtual 167, 3) := by decide +kernel
theorem dX6_digest_95 : decode cX6_digest 95 = .ok (.astore_n 3, 1) := by decide +kernel
theorem dX6_digest_96 : decode cX6_digest 96 = .ok (.aload_n 3, 1) := by decide +kernel
theorem dX6_digest_97 : decode cX6_digest 97 = .ok (.invokeinterface 171 1, 5) := by decide +kernel
theorem dX6_done_0 : decode cX6_done 0 = .ok (.aload_n 0, 1) := by decide +kernel
theorem dX6_done_1 : decode cX6_done 1 = .ok (.getfield 22, 3) := by decide +kernel
theorem dX6_done_12 : decode cX6_done 12 = .ok (.aload_n 0, 1) := by decide +kernel
theorem dX6_done_13 : decode cX6_done 13 = .ok (.getfield 19, 3) := by decide +kernel
theorem dX6_done_16 : decode cX6_done 16 = .ok (.aload_n 0, 1) := by decide +kernel
theorem dX6_done_17 : decode cX6_done 17 = .ok (.getfield 22, 3) := by decide +kernel
theorem dX6_done_20 : decode cX6_done 20 = .ok (.invokevirtual 56, 3) := by decide +kernel
theorem dX6_done_23 : decode cX6_done 23 = .ok (.pop, 1) := by decide +kernel
theorem dX6_done_24 : decode cX6_done 24 = .ok (.aload_n 0, 1) := by decide +kernel
theorem dX6_done_25 : decode cX6_done 25 = .ok (.getfield 19, 3) := by decide +kernel
theorem dX6_done_28 : decode cX6_done 28 = .ok (.invokevirtual 40, 3) := by decide +kernel
theorem dX6_done_31 : decode cX6_done 31 = .ok (.bipush 12, 2) := by decide +kernel
theorem dX6_done_33 : decode cX6_done 33 = .ok (.if_icmp .le 12, 3) := by decide +kernel
theorem dX6_done_4 : decode cX6_done 4 = .ok (.invokevirtual 40, 3) := by decide +kernel
theorem dX6_done_45 : decode cX6_done 45 = .ok (.aload_n 0, 1) := by decide +kernel
theorem dX6_done_46 : decode cX6_done 46 = .ok (.new 7, 3) := by decide +kernel
theorem dX6_done_49 : decode cX6_done 49 = .ok (.dup, 1) := by decide +kernel
theorem dX6_done_50 : decode cX6_done 50 = .ok (.invokespecial 9, 3) := by decide +kernel
theorem dX6_done_53 : decode cX6_done 53 = .ok (.putfield 22, 3) := by decide +kernel
theorem dX6_done_56 : decode cX6_done 56 = .ok (.iload_n 1, 1) := by decide +kernel
theorem dX6_done_57 : decode cX6_done 57 = .ok (.ireturn, 1) := by decide +kernel
theorem dX6_done_7 : decode cX6_done 7 = .ok (.istore_n 1, 1) := by decide +kernel
theorem dX6_done_8 : decode cX6_done 8 = .ok (.iload_n 1, 1) := by decide +kernel
theorem dX6_done_9 : decode cX6_done 9 = .ok (.ifCond .le 15, 3) := by decide +kernel
theorem dX6_dropAged_0 : decode cX6_dropAged 0 = .ok (.aload_n 0, 1) := by decide +kernel
theorem dX6_dropAged_1 : decode cX6_dropAged 1 = .ok (.aload_n 0, 1) := by decide +kernel
theorem dX6_dropAged_11 : decode cX6_dropAged 11 = .ok (.iconst 1, 1) := by decide +kernel
theorem dX6_dropAged_12 : decode cX6_dropAged 12 = .ok (.goto 4, 3) := by decide +kernel
theorem dX6_dropAged_16 : decode cX6_dropAged 16 = .ok (.iconst 1, 1) := by decide +kernel
theorem dX6_dropAged_17 : decode cX6_dropAged 17 = .ok (.invokevirtual 77, 3) := by decide +kernel
theorem dX6_dropAged_2 : decode cX6_dropAged 2 = .ok (.getfield 10, 3) := by decide +kernel
theorem dX6_dropAged_20 : decode cX6_dropAged 20 = .ok (.ifCond .eq 7, 3) := by decide +kernel
theorem dX6_dropAged_23 : decode cX6_dropAged 23 = .ok (.iconst 0, 1) := by decide +kernel
theorem dX6_dropAged_24 : decode cX6_dropAged 24 = .ok (.goto 15, 3) := by decide +kernel
theorem dX6_dropAged_39 : decode cX6_dropAged 39 = .ok (.ireturn, 1) := by decide +kernel
theorem dX6_dropAged_5 : decode cX6_dropAged 5 = .ok (.invokevirtual 40, 3) := by decide +kernel
theorem dX6_dropAged_8 : decode cX6_dropAged 8 = .ok (.ifCond .ne 7, 3) := by decide +kernel
theorem dX6_fails_0 : decode cX6_fails 0 = .ok (.iload_n 1, 1) := by decide +kernel
theorem dX6_fails_1 : decode cX6_fails 1 = .ok (.ifCond .eq 8, 3) := by decide +kernel
theorem dX6_fails_10 : decode cX6_fails 10 = .ok (.ireturn, 1) := by decide +kernel
theorem dX6_fails_4 : decode cX6_fails 4 = .ok (.aload_n 0, 1) := by decide +kernel
theorem dX6_fails_5 : decode cX6_fails 5 = .ok (.iload_n 2, 1) := by decide +kernel
theorem dX6_fails_6 : decode cX6_fails 6 = .ok (.putfield 36, 3) := by decide +kernel
theorem dX6_fails_9 : decode cX6_fails 9 = .ok (.iload_n 1, 1) := by decide +kernel
theorem dX6_first_0 : decode cX6_first 0 = .ok (.aload_n 0, 1) := by decide +kernel
theorem dX6_first_1 : decode cX6_first 1 = .ok (.aload_n 0, 1) := by decide +kernel
theorem dX6_first_11 : decode cX6_first 11 = .ok (.iconst 1, 1) := by decide +kernel
theorem dX6_first_12 : decode cX6_first 12 = .ok (.goto 4, 3) := by decide +kernel
theorem dX6_first_16 : decode cX6_first 16 = .ok (.iconst 1, 1) := by decide +kernel
theorem dX6_first_17 : decode cX6_first 17 = .ok (.invokevirtual 77, 3) := by decide +kernel
theorem dX6_first_2 : decode cX6_first 2 = .ok (.getfield 10, 3) := by decide +kernel
theorem dX6_first_20 : decode cX6_first 20 = .ok (.ifCond .eq 7, 3) := by decide +kernel
theorem dX6_first_23 : decode cX6_first 23 = .ok (.iconst 0, 1) := by decide +kernel
theorem dX6_first_24 : decode cX6_first 24 = .ok (.goto 11, 3) := by decide +kernel
theorem dX6_first_35 : decode cX6_first 35 = .ok (.ireturn, 1) := by decide +kernel
theorem dX6_first_5 : decode cX6_first 5 = .ok (.invokevirtual 40, 3) := by decide +kernel
theorem dX6_first_8 : decode cX6_first 8 = .ok (.ifCond .ne 7, 3) := by decide +kernel
theorem dX6_forget_0 : decode cX6_forget 0 = .ok (.aload_n 0, 1) := by decide +kernel
theorem dX6_forget_1 : decode cX6_forget 1 = .ok (.iconst 0, 1) := by decide +kernel
theorem dX6_forget_12 : decode cX6_forget 12 = .ok (.istore_n 1, 1) := by decide +kernel
theorem dX6_forget_13 : decode cX6_forget 13 = .ok (.aload_n 0, 1) := by decide +kernel
theorem dX6_forget_14 : decode cX6_forget 14 = .ok (.getfield 19, 3) := by decide +kernel
theorem dX6_forget_17 : decode cX6_forget 17 = .ok (.invokevirtual 211, 3) := by decide +kernel
theorem dX6_forget_2 : decode cX6_forget 2 = .ok (.putfield 36, 3) := by decide +kernel
theorem dX6_forget_20 : decode cX6_forget 20 = .ok (.iload_n 1, 1) := by decide +kernel
theorem dX6_forget_21 : decode cX6_forget 21 = .ok (.ireturn, 1) := by decide +kernel
theorem dX6_forget_5 : decode cX6_forget 5 = .ok (.aload_n 0, 1) := by decide +kernel
theorem dX6_forget_6 : decode cX6_forget 6 = .ok (.getfield 19, 3) := by decide +kernel
theorem dX6_forget_9 : decode cX6_forget 9 = .ok (.invokevirtual 40, 3) := by decide +kernel
theorem dX6_getOr_0 : decode cX6_getOr 0 = .ok (.aload_n 0, 1) := by decide +kernel
theorem dX6_getOr_1 : decode cX6_getOr 1 = .ok (.iconst 0, 1) := by decide +kernel
theorem dX6_getOr_10 : decode cX6_getOr 10 = .ok (.invokestatic 49, 3) := by decide +kernel
theorem dX6_getOr_13 : decode cX6_getOr 13 = .ok (.ifCond .ge 7, 3) := by decide +kernel
theorem dX6_getOr_16 : decode cX6_getOr 16 = .ok (.iload_n 2, 1) := by decide +kernel
theorem dX6_getOr_17 : decode cX6_getOr 17 = .ok (.goto 16, 3) := by decide +kernel
theorem dX6_getOr_2 : decode cX6_getOr 2 = .ok (.putfield 36, 3) := by decide +kernel
theorem dX6_getOr_33 : decode cX6_getOr 33 = .ok (.ireturn, 1) := by decide +kernel
theorem dX6_getOr_5 : decode cX6_getOr 5 = .ok (.aload_n 0, 1) := by decide +kernel
theorem dX6_getOr_6 : decode cX6_getOr 6 = .ok (.getfield 10, 3) := by decide +kernel
theorem dX6_getOr_9 : decode cX6_getOr 9 = .ok (.iload_n 1, 1) := by decide +kernel
theorem dX6_get_0 : decode cX6_get 0 = .ok (.aload_n 0, 1) := by decide +kernel
theorem dX6_get_1 : decode cX6_get 1 = .ok (.iconst 0, 1) := by decide +kernel
theorem dX6_get_10 : decode cX6_get 10 = .ok (.invokestatic 49, 3) := by decide +kernel
theorem dX6_get_13 : decode cX6_get 13 = .ok (.ifCond .ge 9, 3) := by decide +kernel
theorem dX6_get_16 : decode cX6_get 16 = .ok (.sipush (-1000), 3) := by decide +kernel
theorem dX6_get_19 : decode cX6_get 19 = .ok (.goto 16, 3) := by decide +kernel
theorem dX6_get_2 : decode cX6_get 2 = .ok (.putfield 36, 3) := by decide +kernel
theorem dX6_get_35 : decode cX6_get 35 = .ok (.ireturn, 1) := by decide +kernel
theorem dX6_get_5 : decode cX6_get 5 = .ok (.aload_n 0, 1) := by decide +kernel
theorem dX6_get_6 : decode cX6_get 6 = .ok (.getfield 10, 3) := by decide +kernel
theorem dX6_get_9 : decode cX6_get 9 = .ok (.iload_n 1, 1) := by decide +kernel
theorem dX6_hasValue_0 : decode cX6_hasValue 0 = .ok (.aload_n 0, 1) := by decide +kernel
theorem dX6_hasValue_1 : decode cX6_hasValue 1 = .ok (.iconst 0, 1) := by decide +kernel
theorem dX6_hasValue_10 : decode cX6_hasValue 10 = .ok (.aload_n 0, 1) := by decide +kernel
theorem dX6_hasValue_11 : decode cX6_hasValue 11 = .ok (.getfield 10, 3) := by decide +kernel
theorem dX6_hasValue_14 : decode cX6_hasValue 14 = .ok (.invokevirtual 40, 3) := by decide +kernel
theorem dX6_hasValue_17 : decode cX6_hasValue 17 = .ok (.if_icmp .ge 34, 3) := by decide +kernel
theorem dX6_hasValue_2 : decode cX6_hasValue 2 = .ok (.putfield 36, 3) := by decide +kernel
theorem dX6_hasValue_5 : decode cX6_hasValue 5 = .ok (.iconst 0, 1) := by decide +kernel
theorem dX6_hasValue_51 : decode cX6_hasValue 51 = .ok (.iload_n 2, 1) := by decide +kernel
theorem dX6_hasValue_52 : decode cX6_hasValue 52 = .ok (.ireturn, 1) := by decide +kernel
theorem dX6_hasValue_6 : decode cX6_hasValue 6 = .ok (.istore_n 2, 1) := by decide +kernel
theorem dX6_hasValue_7 : decode cX6_hasValue 7 = .ok (.iconst 0, 1) := by decide +kernel
theorem dX6_hasValue_8 : decode cX6_hasValue 8 = .ok (.istore_n 3, 1) := by decide +kernel
theorem dX6_hasValue_9 : decode cX6_hasValue 9 = .ok (.iload_n 3, 1) := by decide +kernel
theorem dX6_has_0 : decode cX6_has 0 = .ok (.aload_n 0, 1) := by decide +kernel
theorem dX6_has_1 : decode cX6_has 1 = .ok (.iconst 0, 1) := by decide +kernel
theorem dX6_has_10 : decode cX6_has 10 = .ok (.invokestatic 49, 3) := by decide +kernel
theorem dX6_has_13 : decode cX6_has 13 = .ok (.ifCond .lt 7, 3) := by decide +kernel
theorem dX6_has_2 : decode cX6_has 2 = .ok (.putfield 36, 3) := by decide +kernel
theorem dX6_has_20 : decode cX6_has 20 = .ok (.iconst 0, 1) := by decide +kernel
theorem dX6_has_21 : decode cX6_has 21 = .ok (.ireturn, 1) := by decide +kernel
theorem dX6_has_5 : decode cX6_has 5 = .ok (.aload_n 0, 1) := by decide +kernel
theorem dX6_has_6 : decode cX6_has 6 = .ok (.getfield 10, 3) := by decide +kernel
theorem dX6_has_9 : decode cX6_has 9 = .ok (.iload_n 1, 1) := by decide +kernel
theorem dX6_hashNow_0 : decode cX6_hashNow 0 = .ok (.iconst 0, 1) := by decide +kernel
theorem dX6_hashNow_1 : decode cX6_hashNow 1 = .ok (.istore_n 1, 1) := by decide +kernel
theorem dX6_hashNow_12 : decode cX6_hashNow 12 = .ok (.if_icmp .ge 39, 3) := by decide +kernel
theorem dX6_hashNow_2 : decode cX6_hashNow 2 = .ok (.iconst 0, 1) := by decide +kernel
theorem dX6_hashNow_3 : decode cX6_hashNow 3 = .ok (.istore_n 2, 1) := by decide +kernel
theorem dX6_hashNow_4 : decode cX6_hashNow 4 = .ok (.iload_n 2, 1) := by decide +kernel
theorem dX6_hashNow_5 : decode cX6_hashNow 5 = .ok (.aload_n 0, 1) := by decide +kernel
theorem dX6_hashNow_51 : decode cX6_hashNow 51 = .ok (.iload_n 1, 1) := by decide +kernel
theorem dX6_hashNow_52 : decode cX6_hashNow 52 = .ok (.ireturn, 1) := by decide +kernel
theorem dX6_hashNow_6 : decode cX6_hashNow 6 = .ok (.getfield 10, 3) := by decide +kernel
theorem dX6_hashNow_9 : decode cX6_hashNow 9 = .ok (.invokevirtual 40, 3) := by decide +kernel
theorem dX6_hash_0 : decode cX6_hash 0 = .ok (.aload_n 0, 1) := by decide +kernel
theorem dX6_hash_1 : decode cX6_hash 1 = .ok (.iconst 0, 1) := by decide +kernel
theorem dX6_hash_2 : decode cX6_hash 2 = .ok (.putfield 36, 3) := by decide +kernel
theorem dX6_hash_5 : decode cX6_hash 5 = .ok (.aload_n 0, 1) := by decide +kernel
theorem dX6_hash_6 : decode cX6_hash 6 = .ok (.invokevirtual 164, 3) := by decide +kernel
theorem dX6_hash_9 : decode cX6_hash 9 = .ok (.ireturn, 1) := by decide +kernel
theorem dX6_houseNow_0 : decode cX6_houseNow 0 = .ok (.iconst 0, 1) := by decide +kernel
theorem dX6_houseNow_1 : decode cX6_houseNow 1 = .ok (.istore_n 2, 1) := by decide +kernel
theorem dX6_houseNow_11 : decode cX6_houseNow 11 = .ok (.iconst 0, 1) := by decide +kernel
theorem dX6_houseNow_12 : decode cX6_houseNow 12 = .ok (.istore 5, 2) := by decide +kernel
theorem dX6_houseNow_14 : decode cX6_houseNow 14 = .ok (.iload 5, 2) := by decide +kernel
theorem dX6_houseNow_16 : decode cX6_houseNow 16 = .ok (.iload 4, 2) := by decide +kernel
theorem dX6_houseNow_18 : decode cX6_houseNow 18 = .ok (.if_icmp .ge 23, 3) := by decide +kernel
theorem dX6_houseNow_2 : decode cX6_houseNow 2 = .ok (.aload_n 0, 1) := by decide +kernel
theorem dX6_houseNow_21 : decode cX6_houseNow 21 = .ok (.aload_n 3, 1) := by decide +kernel
theorem dX6_houseNow_22 : decode cX6_houseNow 22 = .ok (.iload 5, 2) := by decide +kernel
theorem dX6_houseNow_24 : decode cX6_houseNow 24 = .ok (.baload, 1) := by decide +kernel
theorem dX6_houseNow_25 : decode cX6_houseNow 25 = .ok (.istore 6, 2) := by decide +kernel
theorem dX6_houseNow_27 : decode cX6_houseNow 27 = .ok (.iload_n 2, 1) := by decide +kernel
theorem dX6_houseNow_28 : decode cX6_houseNow 28 = .ok (.iload 6, 2) := by decide +kernel
theorem dX6_houseNow_3 : decode cX6_houseNow 3 = .ok (.getfield 25, 3) := by decide +kernel
theorem dX6_houseNow_30 : decode cX6_houseNow 30 = .ok (.invokestatic 204, 3) := by decide +kernel
theorem dX6_houseNow_33 : decode cX6_houseNow 33 = .ok (.iadd, 1) := by decide +kernel
theorem dX6_houseNow_34 : decode cX6_houseNow 34 = .ok (.istore_n 2, 1) := by decide +kernel
theorem dX6_houseNow_35 : decode cX6_houseNow 35 = .ok (.iinc 5 1, 3) := by decide +kernel
theorem dX6_houseNow_38 : decode cX6_houseNow 38 = .ok (.goto (-24), 3) := by decide +kernel
theorem dX6_houseNow_41 : decode cX6_houseNow 41 = .ok (.iconst 5, 1) := by decide +kernel
theorem dX6_houseNow_42 : decode cX6_houseNow 42 = .ok (.newarray .int, 2) := by decide +kernel
theorem dX6_houseNow_44 : decode cX6_houseNow 44 = .ok (.dup, 1) := by decide +kernel
theorem dX6_houseNow_45 : decode cX6_houseNow 45 = .ok (.iconst 0, 1) := by decide +kernel
theorem dX6_houseNow_46 : decode cX6_houseNow 46 = .ok (.aload_n 0, 1) := by decide +kernel
theorem dX6_houseNow_47 : decode cX6_houseNow 47 = .ok (.getfield 10, 3) := by decide +kernel
theorem dX6_houseNow_50 : decode cX6_houseNow 50 = .ok (.invokevirtual 40, 3) := by decide +kernel
theorem dX6_houseNow_53 : decode cX6_houseNow 53 = .ok (.iastore, 1) := by decide +kernel
theorem dX6_houseNow_54 : decode cX6_houseNow 54 = .ok (.dup, 1) := by decide +kernel
theorem dX6_houseNow_55 : decode cX6_houseNow 55 = .ok (.iconst 1, 1) := by decide +kernel
theorem dX6_houseNow_56 : decode cX6_houseNow 56 = .ok (.aload_n 0, 1) := by decide +kernel
theorem dX6_houseNow_57 : decode cX6_houseNow 57 = .ok (.getfield 19, 3) := by decide +kernel
theorem dX6_houseNow_6 : decode cX6_houseNow 6 = .ok (.astore_n 3, 1) := by decide +kernel
theorem dX6_houseNow_60 : decode cX6_houseNow 60 = .ok (.invokevirtual 40, 3) := by decide +kernel
theorem dX6_houseNow_63 : decode cX6_houseNow 63 = .ok (.iastore, 1) := by decide +kernel
theorem dX6_houseNow_64 : decode cX6_houseNow 64 = .ok (.dup, 1) := by decide +kernel
theorem dX6_houseNow_65 : decode cX6_houseNow 65 = .ok (.iconst 2, 1) := by decide +kernel
theorem dX6_houseNow_66 : decode cX6_houseNow 66 = .ok (.aload_n 0, 1) := by decide +kernel
theorem dX6_houseNow_67 : decode cX6_houseNow 67 = .ok (.getfield 16, 3) := by decide +kernel
theorem dX6_houseNow_7 : decode cX6_houseNow 7 = .ok (.aload_n 3, 1) := by decide +kernel
theorem dX6_houseNow_70 : decode cX6_houseNow 70 = .ok (.invokevirtual 40, 3) := by decide +kernel
theorem dX6_houseNow_73 : decode cX6_houseNow 73 = .ok (.iastore, 1) := by decide +kernel
theorem dX6_houseNow_74 : decode cX6_houseNow 74 = .ok (.dup, 1) := by decide +kernel
theorem dX6_houseNow_75 : decode cX6_houseNow 75 = .ok (.iconst 3, 1) := by decide +kernel
theorem dX6_houseNow_76 : decode cX6_houseNow 76 = .ok (.iload_n 2, 1) := by decide +kernel
theorem dX6_houseNow_77 : decode cX6_houseNow 77 = .ok (.iastore, 1) := by decide +kernel
theorem dX6_houseNow_78 : decode cX6_houseNow 78 = .ok (.dup, 1) := by decide +kernel
theorem dX6_houseNow_79 : decode cX6_houseNow 79 = .ok (.iconst 4, 1) := by decide +kernel
theorem dX6_houseNow_8 : decode cX6_houseNow 8 = .ok (.arraylength, 1) := by decide +kernel
theorem dX6_houseNow_80 : decode cX6_houseNow 80 = .ok (.aload_n 0, 1) := by decide +kernel
theorem dX6_houseNow_81 : decode cX6_houseNow 81 = .ok (.getfield 217, 3) := by decide +kernel
theorem dX6_houseNow_84 : decode cX6_houseNow 84 = .ok (.iastore, 1) := by decide +kernel
theorem dX6_houseNow_85 : decode cX6_houseNow 85 = .ok (.astore_n 3, 1) := by decide +kernel
theorem dX6_houseNow_86 : decode cX6_houseNow 86 = .ok (.aload_n 3, 1) := by decide +kernel
theorem dX6_houseNow_87 : decode cX6_houseNow 87 = .ok (.iload_n 1, 1) := by decide +kernel
theorem dX6_houseNow_88 : decode cX6_houseNow 88 = .ok (.iaload, 1) := by decide +kernel
theorem dX6_houseNow_89 : decode cX6_houseNow 89 = .ok (.ireturn, 1) := by decide +kernel
theorem dX6_houseNow_9 : decode cX6_houseNow 9 = .ok (.istore 4, 2) := by decide +kernel
theorem dX6_house_0 : decode cX6_house 0 = .ok (.aload_n 0, 1) := by decide +kernel
theorem dX6_house_1 : decode cX6_house 1 = .ok (.iload_n 1, 1) := by decide +kernel
theorem dX6_house_10 : decode cX6_house 10 = .ok (.iconst 1, 1) := by decide +kernel
theorem dX6_house_11 : decode cX6_house 11 = .ok (.goto 4, 3) := by decide +kernel
theorem dX6_house_14 : decode cX6_house 14 = .ok (.iconst 0, 1) := by decide +kernel
theorem dX6_house_15 : decode cX6_house 15 = .ok (.iconst 1, 1) := by decide +kernel
theorem dX6_house_16 : decode cX6_house 16 = .ok (.invokevirtual 77, 3) := by decide +kernel
theorem dX6_house_19 : decode cX6_house 19 = .ok (.ifCond .eq 7, 3) := by decide +kernel
theorem dX6_house_2 : decode cX6_house 2 = .ok (.ifCond .lt 8, 3) := by decide +kernel
theorem dX6_house_22 : decode cX6_house 22 = .ok (.iconst 0, 1) := by decide +kernel
theorem dX6_house_23 : decode cX6_house 23 = .ok (.goto 8, 3) := by decide +kernel
theorem dX6_house_26 : decode cX6_house 26 = .ok (.aload_n 0, 1) := by decide +kernel
theorem dX6_house_27 : decode cX6_house 27 = .ok (.iload_n 1, 1) := by decide +kernel
theorem dX6_house_28 : decode cX6_house 28 = .ok (.invokevirtual 220, 3) := by decide +kernel
theorem dX6_house_31 : decode cX6_house 31 = .ok (.ireturn, 1) := by decide +kernel
theorem dX6_house_5 : decode cX6_house 5 = .ok (.iload_n 1, 1) := by decide +kernel
theorem dX6_house_6 : decode cX6_house 6 = .ok (.iconst 4, 1) := by decide +kernel
theorem dX6_house_7 : decode cX6_house 7 = .ok (.if_icmp .le 7, 3) := by decide +kernel
theorem dX6_inRange_0 : decode cX6_inRange 0 = .ok (.aload_n 0, 1) := by decide +kernel
theorem dX6_inRange_1 : decode cX6_inRange 1 = .ok (.iconst 0, 1) := by decide +kernel
theorem dX6_inRange_10 : decode cX6_inRange 10 = .ok (.sipush (-9999), 3) := by decide +kernel
theorem dX6_inRange_13 : decode cX6_inRange 13 = .ok (.goto 12, 3) := by decide +kernel
theorem dX6_inRange_16 : decode cX6_inRange 16 = .ok (.aload_n 0, 1) := by decide +kernel
theorem dX6_inRange_17 : decode cX6_inRange 17 = .ok (.iload_n 1, 1) := by decide +kernel
theorem dX6_inRange_18 : decode cX6_inRange 18 = .ok (.iload_n 2, 1) := by decide +kernel
theorem dX6_inRange_19 : decode cX6_inRange 19 = .ok (.invokevirtual 103, 3) := by decide +kernel
theorem dX6_inRange_2 : decode cX6_inRange 2 = .ok (.putfield 36, 3) := by decide +kernel
theorem dX6_inRange_22 : decode cX6_inRange 22 = .ok (.invokevirtual 40, 3) := by decide +kernel
theorem dX6_inRange_25 : decode cX6_inRange 25 = .ok (.ireturn, 1) := by decide +kernel
theorem dX6_inRange_5 : decode cX6_inRange 5 = .ok (.iload_n 1, 1) := by decide +kernel
theorem dX6_inRange_6 : decode cX6_inRange 6 = .ok (.iload_n 2, 1) := by decide +kernel
theorem dX6_inRange_7 : decode cX6_inRange 7 = .ok (.if_icmp .le 9, 3) := by decide +kernel
theorem dX6_init_0 : decode cX6_init 0 = .ok (.aload_n 0, 1) := by decide +kernel
theorem dX6_init_1 : decode cX6_init 1 = .ok (.invokespecial 1, 3) := by decide +kernel
theorem dX6_init_12 : decode cX6_init 12 = .ok (.putfield 10, 3) := by decide +kernel
theorem dX6_init_15 : decode cX6_init 15 = .ok (.aload_n 0, 1) := by decide +kernel
theorem dX6_init_16 : decode cX6_init 16 = .ok (.new 7, 3) := by decide +kernel
theorem dX6_init_19 : decode cX6_init 19 = .ok (.dup, 1) := by decide +kernel
theorem dX6_init_20 : decode cX6_init 20 = .ok (.invokespecial 9, 3) := by decide +kernel
theorem dX6_init_23 : decode cX6_init 23 = .ok (.putfield 16, 3) := by decide +kernel
theorem dX6_init_26 : decode cX6_init 26 = .ok (.aload_n 0, 1) := by decide +kernel
theorem dX6_init_27 : decode cX6_init 27 = .ok (.new 7, 3) := by decide +kernel
theorem dX6_init_30 : decode cX6_init 30 = .ok (.dup, 1) := by decide +kernel
theorem dX6_init_31 : decode cX6_init 31 = .ok (.invokespecial 9, 3) := by decide +kernel
theorem dX6_init_34 : decode cX6_init 34 = .ok (.putfield 19, 3) := by decide +kernel
theorem dX6_init_37 : decode cX6_init 37 = .ok (.aload_n 0, 1) := by decide +kernel
theorem dX6_init_38 : decode cX6_init 38 = .ok (.new 7, 3) := by decide +kernel
theorem dX6_init_4 : decode cX6_init 4 = .ok (.aload_n 0, 1) := by decide +kernel
theorem dX6_init_41 : decode cX6_init 41 = .ok (.dup, 1) := by decide +kernel
theorem dX6_init_42 : decode cX6_init 42 = .ok (.invokespecial 9, 3) := by decide +kernel
theorem dX6_init_45 : decode cX6_init 45 = .ok (.putfield 22, 3) := by decide +kernel
theorem dX6_init_48 : decode cX6_init 48 = .ok (.aload_n 0, 1) := by decide +kernel
theorem dX6_init_49 : decode cX6_init 49 = .ok (.iconst 3, 1) := by decide +kernel
theorem dX6_init_5 : decode cX6_init 5 = .ok (.new 7, 3) := by decide +kernel
theorem dX6_init_50 : decode cX6_init 50 = .ok (.newarray .boolean, 2) := by decide +kernel
theorem dX6_init_52 : decode cX6_init 52 = .ok (.putfield 25, 3) := by decide +kernel
theorem dX6_init_55 : decode cX6_init 55 = .ok (.aload_n 0, 1) := by decide +kernel
theorem dX6_init_56 : decode cX6_init 56 = .ok (.iconst 3, 1) := by decide +kernel
theorem dX6_init_57 : decode cX6_init 57 = .ok (.newarray .int, 2) := by decide +kernel
theorem dX6_init_59 : decode cX6_init 59 = .ok (.putfield 29, 3) := by decide +kernel
theorem dX6_init_62 : decode cX6_init 62 = .ok (.aload_n 0, 1) := by decide +kernel
theorem dX6_init_63 : decode cX6_init 63 = .ok (.iconst 3, 1) := by decide +kernel
theorem dX6_init_64 : decode cX6_init 64 = .ok (.newarray .int, 2) := by decide +kernel
theorem dX6_init_66 : decode cX6_init 66 = .ok (.putfield 33, 3) := by decide +kernel
theorem dX6_init_69 : decode cX6_init 69 = .ok (.return_, 1) := by decide +kernel
theorem dX6_init_8 : decode cX6_init 8 = .ok (.dup, 1) := by decide +kernel
theorem dX6_init_9 : decode cX6_init 9 = .ok (.invokespecial 9, 3) := by decide +kernel
theorem dX6_isCopy_0 : decode cX6_isCopy 0 = .ok (.aload_n 0, 1) := by decide +kernel
theorem dX6_isCopy_1 : decode cX6_isCopy 1 = .ok (.iconst 0, 1) := by decide +kernel
theorem dX6_isCopy_12 : decode cX6_isCopy 12 = .ok (.iconst 1, 1) := by decide +kernel
theorem dX6_isCopy_13 : decode cX6_isCopy 13 = .ok (.goto 4, 3) := by decide +kernel
theorem dX6_isCopy_17 : decode cX6_isCopy 17 = .ok (.ireturn, 1) := by decide +kernel
theorem dX6_isCopy_2 : decode cX6_isCopy 2 = .ok (.putfield 36, 3) := by decide +kernel
theorem dX6_isCopy_5 : decode cX6_isCopy 5 = .ok (.aload_n 0, 1) := by decide +kernel
theorem dX6_isCopy_6 : decode cX6_isCopy 6 = .ok (.invokevirtual 214, 3) := by decide +kernel
theorem dX6_isCopy_9 : decode cX6_isCopy 9 = .ok (.ifCond .ne 7, 3) := by decide +kernel
theorem dX6_isFull_0 : decode cX6_isFull 0 = .ok (.aload_n 0, 1) := by decide +kernel
theorem dX6_isFull_1 : decode cX6_isFull 1 = .ok (.getfield 10, 3) := by decide +kernel
theorem dX6_isFull_27 : decode cX6_isFull 27 = .ok (.iconst 0, 1) := by decide +kernel
theorem dX6_isFull_28 : decode cX6_isFull 28 = .ok (.ireturn, 1) := by decide +kernel
theorem dX6_isFull_4 : decode cX6_isFull 4 = .ok (.invokevirtual 40, 3) := by decide +kernel
theorem dX6_isFull_7 : decode cX6_isFull 7 = .ok (.bipush 24, 2) := by decide +kernel
theorem dX6_isFull_9 : decode cX6_isFull 9 = .ok (.if_icmp .ne 18, 3) := by decide +kernel
theorem dX6_isNoHow_0 : decode cX6_isNoHow 0 = .ok (.iload_n 0, 1) := by decide +kernel
theorem dX6_isNoHow_1 : decode cX6_isNoHow 1 = .ok (.ifCond .lt 8, 3) := by decide +kernel
theorem dX6_isNoHow_10 : decode cX6_isNoHow 10 = .ok (.goto 4, 3) := by decide +kernel
theorem dX6_isNoHow_13 : decode cX6_isNoHow 13 = .ok (.iconst 0, 1) := by decide +kernel
theorem dX6_isNoHow_14 : decode cX6_isNoHow 14 = .ok (.ireturn, 1) := by decide +kernel
theorem dX6_isNoHow_4 : decode cX6_isNoHow 4 = .ok (.iload_n 0, 1) := by decide +kernel
theorem dX6_isNoHow_5 : decode cX6_isNoHow 5 = .ok (.iconst 3, 1) := by decide +kernel
theorem dX6_isNoHow_6 : decode cX6_isNoHow 6 = .ok (.if_icmp .le 7, 3) := by decide +kernel
theorem dX6_isNoHow_9 : decode cX6_isNoHow 9 = .ok (.iconst 1, 1) := by decide +kernel
theorem dX6_isNoPager_0 : decode cX6_isNoPager 0 = .ok (.iload_n 0, 1) := by decide +kernel
theorem dX6_isNoPager_1 : decode cX6_isNoPager 1 = .ok (.ifCond .lt 8, 3) := by decide +kernel
theorem dX6_isNoPager_10 : decode cX6_isNoPager 10 = .ok (.goto 4, 3) := by decide +kernel
theorem dX6_isNoPager_13 : decode cX6_isNoPager 13 = .ok (.iconst 0, 1) := by decide +kernel
theorem dX6_isNoPager_14 : decode cX6_isNoPager 14 = .ok (.ireturn, 1) := by decide +kernel
theorem dX6_isNoPager_4 : decode cX6_isNoPager 4 = .ok (.iload_n 0, 1) := by decide +kernel
theorem dX6_isNoPager_5 : decode cX6_isNoPager 5 = .ok (.iconst 3, 1) := by decide +kernel
theorem dX6_isNoPager_6 : decode cX6_isNoPager 6 = .ok (.if_icmp .lt 7, 3) := by decide +kernel
theorem dX6_isNoPager_9 : decode cX6_isNoPager 9 = .ok (.iconst 1, 1) := by decide +kernel
theorem dX6_isNoValue_0 : decode cX6_isNoValue 0 = .ok (.iload_n 0, 1) := by decide +kernel
theorem dX6_isNoValue_1 : decode cX6_isNoValue 1 = .ok (.sipush (-999), 3) := by decide +kernel
theorem dX6_isNoValue_11 : decode cX6_isNoValue 11 = .ok (.if_icmp .le 7, 3) := by decide +kernel
theorem dX6_isNoValue_14 : decode cX6_isNoValue 14 = .ok (.iconst 1, 1) := by decide +kernel
theorem dX6_isNoValue_15 : decode cX6_isNoValue 15 = .ok (.goto 4, 3) := by decide +kernel
theorem dX6_isNoValue_18 : decode cX6_isNoValue 18 = .ok (.iconst 0, 1) := by decide +kernel
theorem dX6_isNoValue_19 : decode cX6_isNoValue 19 = .ok (.ireturn, 1) := by decide +kernel
theorem dX6_isNoValue_4 : decode cX6_isNoValue 4 = .ok (.if_icmp .lt 10, 3) := by decide +kernel
theorem dX6_isNoValue_7 : decode cX6_isNoValue 7 = .ok (.iload_n 0, 1) := by decide +kernel
theorem dX6_isNoValue_8 : decode cX6_isNoValue 8 = .ok (.sipush 999, 3) := by decide +kernel
theorem dX6_isSound_0 : decode cX6_isSound 0 = .ok (.aload_n 0, 1) := by decide +kernel
theorem dX6_isSound_1 : decode cX6_isSound 1 = .ok (.iconst 0, 1) := by decide +kernel
theorem dX6_isSound_2 : decode cX6_isSound 2 = .ok (.putfield 36, 3) := by decide +kernel
theorem dX6_isSound_5 : decode cX6_isSound 5 = .ok (.iconst 1, 1) := by decide +kernel
theorem dX6_isSound_6 : decode cX6_isSound 6 = .ok (.ireturn, 1) := by decide +kernel
theorem dX6_joined_0 : decode cX6_joined 0 = .ok (.ldc 122, 2) := by decide +kernel
theorem dX6_joined_2 : decode cX6_joined 2 = .ok (.astore_n 1, 1) := by decide +kernel
theorem dX6_joined_3 : decode cX6_joined 3 = .ok (.iconst 0, 1) := by decide +kernel
theorem dX6_joined_4 : decode cX6_joined 4 = .ok (.istore_n 2, 1) := by decide +kernel
theorem dX6_joined_5 : decode cX6_joined 5 = .ok (.iload_n 2, 1) := by decide +kernel
theorem dX6_joined_52 : decode cX6_joined 52 = .ok (.aload_n 1, 1) := by decide +kernel
theorem dX6_joined_53 : decode cX6_joined 53 = .ok (.areturn, 1) := by decide +kernel
theorem dX6_joined_6 : decode cX6_joined 6 = .ok (.aload_n 0, 1) := by decide +kernel
theorem dX6_joined_7 : decode cX6_joined 7 = .ok (.arraylength, 1) := by decide +kernel
theorem dX6_joined_8 : decode cX6_joined 8 = .ok (.if_icmp .ge 44, 3) := by decide +kernel
theorem dX6_keep_0 : decode cX6_keep 0 = .ok (.aload_n 0, 1) := by decide +kernel
theorem dX6_keep_1 : decode cX6_keep 1 = .ok (.iload_n 1, 1) := by decide +kernel
theorem dX6_keep_10 : decode cX6_keep 10 = .ok (.iconst 1, 1) := by decide +kernel
theorem dX6_keep_11 : decode cX6_keep 11 = .ok (.invokevirtual 77, 3) := by decide +kernel
theorem dX6_keep_14 : decode cX6_keep 14 = .ok (.ifCond .eq 5, 3) := by decide +kernel
theorem dX6_keep_17 : decode cX6_keep 17 = .ok (.iconst 0, 1) := by decide +kernel
theorem dX6_keep_18 : decode cX6_keep 18 = .ok (.ireturn, 1) := by decide +kernel
theorem dX6_keep_19 : decode cX6_keep 19 = .ok (.aload_n 0, 1) := by decide +kernel
theorem dX6_keep_2 : decode cX6_keep 2 = .ok (.ifCond .ge 7, 3) := by decide +kernel
theorem dX6_keep_20 : decode cX6_keep 20 = .ok (.getfield 10, 3) := by decide +kernel
theorem dX6_keep_23 : decode cX6_keep 23 = .ok (.invokevirtual 40, 3) := by decide +kernel
theorem dX6_keep_26 : decode cX6_keep 26 = .ok (.iload_n 1, 1) := by decide +kernel
theorem dX6_keep_27 : decode cX6_keep 27 = .ok (.if_icmp .le 18, 3) := by decide +kernel
theorem dX6_keep_45 : decode cX6_keep 45 = .ok (.aload_n 0, 1) := by decide +kernel
theorem dX6_keep_46 : decode cX6_keep 46 = .ok (.invokevirtual 70, 3) := by decide +kernel
theorem dX6_keep_49 : decode cX6_keep 49 = .ok (.ireturn, 1) := by decide +kernel
theorem dX6_keep_5 : decode cX6_keep 5 = .ok (.iconst 1, 1) := by decide +kernel
theorem dX6_keep_6 : decode cX6_keep 6 = .ok (.goto 4, 3) := by decide +kernel
theorem dX6_keep_9 : decode cX6_keep 9 = .ok (.iconst 0, 1) := by decide +kernel
theorem dX6_keysOf_0 : decode cX6_keysOf 0 = .ok (.aload_n 0, 1) := by decide +kernel
theorem dX6_keysOf_1 : decode cX6_keysOf 1 = .ok (.invokevirtual 40, 3) := by decide +kernel
theorem dX6_keysOf_10 : decode cX6_keysOf 10 = .ok (.aload_n 1, 1) := by decide +kernel
theorem dX6_keysOf_11 : decode cX6_keysOf 11 = .ok (.arraylength, 1) := by decide +kernel
theorem dX6_keysOf_12 : decode cX6_keysOf 12 = .ok (.if_icmp .ge 60, 3) := by decide +kernel
theorem dX6_keysOf_4 : decode cX6_keysOf 4 = .ok (.newarray .int, 2) := by decide +kernel
theorem dX6_keysOf_6 : decode cX6_keysOf 6 = .ok (.astore_n 1, 1) := by decide +kernel
theorem dX6_keysOf_7 : decode cX6_keysOf 7 = .ok (.iconst 0, 1) := by decide +kernel
theorem dX6_keysOf_72 : decode cX6_keysOf 72 = .ok (.aload_n 1, 1) := by decide +kernel
theorem dX6_keysOf_73 : decode cX6_keysOf 73 = .ok (.areturn, 1) := by decide +kernel
theorem dX6_keysOf_8 : decode cX6_keysOf 8 = .ok (.istore_n 2, 1) := by decide +kernel
theorem dX6_keysOf_9 : decode cX6_keysOf 9 = .ok (.iload_n 2, 1) := by decide +kernel
theorem dX6_keys_0 : decode cX6_keys 0 = .ok (.aload_n 0, 1) := by decide +kernel
theorem dX6_keys_1 : decode cX6_keys 1 = .ok (.iconst 0, 1) := by decide +kernel
theorem dX6_keys_12 : decode cX6_keys 12 = .ok (.astore_n 2, 1) := by decide +kernel
theorem dX6_keys_13 : decode cX6_keys 13 = .ok (.aload_n 2, 1) := by decide +kernel
theorem dX6_keys_14 : decode cX6_keys 14 = .ok (.arraylength, 1) := by decide +kernel
theorem dX6_keys_15 : decode cX6_keys 15 = .ok (.newarray .int, 2) := by decide +kernel
theorem dX6_keys_17 : decode cX6_keys 17 = .ok (.astore_n 3, 1) := by decide +kernel
theorem dX6_keys_18 : decode cX6_keys 18 = .ok (.iconst 0, 1) := by decide +kernel
theorem dX6_keys_19 : decode cX6_keys 19 = .ok (.istore 4, 2) := by decide +kernel
theorem dX6_keys_2 : decode cX6_keys 2 = .ok (.putfield 36, 3) := by decide +kernel
theorem dX6_keys_21 : decode cX6_keys 21 = .ok (.iload 4, 2) := by decide +kernel
theorem dX6_keys_23 : decode cX6_keys 23 = .ok (.aload_n 3, 1) := by decide +kernel
theorem dX6_keys_24 : decode cX6_keys 24 = .ok (.arraylength, 1) := by decide +kernel
theorem dX6_keys_25 : decode cX6_keys 25 = .ok (.if_icmp .ge 31, 3) := by decide +kernel
theorem dX6_keys_5 : decode cX6_keys 5 = .ok (.aload_n 0, 1) := by decide +kernel
theorem dX6_keys_56 : decode cX6_keys 56 = .ok (.aload_n 3, 1) := by decide +kernel
theorem dX6_keys_57 : decode cX6_keys 57 = .ok (.invokestatic 140, 3) := by decide +kernel
theorem dX6_keys_6 : decode cX6_keys 6 = .ok (.getfield 10, 3) := by decide +kernel
theorem dX6_keys_60 : decode cX6_keys 60 = .ok (.areturn, 1) := by decide +kernel
theorem dX6_keys_9 : decode cX6_keys 9 = .ok (.invokestatic 95, 3) := by decide +kernel
theorem dX6_knock_0 : decode cX6_knock 0 = .ok (.aload_n 0, 1) := by decide +kernel
theorem dX6_knock_1 : decode cX6_knock 1 = .ok (.iconst 0, 1) := by decide +kernel
theorem dX6_knock_10 : decode cX6_knock 10 = .ok (.iconst 1, 1) := by decide +kernel
theorem dX6_knock_11 : decode cX6_knock 11 = .ok (.iadd, 1) := by decide +kernel
theorem dX6_knock_12 : decode cX6_knock 12 = .ok (.putfield 217, 3) := by decide +kernel
theorem dX6_knock_15 : decode cX6_knock 15 = .ok (.aload_n 0, 1) := by decide +kernel
theorem dX6_knock_16 : decode cX6_knock 16 = .ok (.getfield 217, 3) := by decide +kernel
theorem dX6_knock_19 : decode cX6_knock 19 = .ok (.ireturn, 1) := by decide +kernel
theorem dX6_knock_2 : decode cX6_knock 2 = .ok (.putfield 36, 3) := by decide +kernel
theorem dX6_knock_5 : decode cX6_knock 5 = .ok (.aload_n 0, 1) := by decide +kernel
theorem dX6_knock_6 : decode cX6_knock 6 = .ok (.dup, 1) := by decide +kernel
theorem dX6_knock_7 : decode cX6_knock 7 = .ok (.getfield 217, 3) := by decide +kernel
theorem dX6_lay_0 : decode cX6_lay 0 = .ok (.aload_n 0, 1) := by decide +kernel
theorem dX6_lay_1 : decode cX6_lay 1 = .ok (.getfield 10, 3) := by decide +kernel
theorem dX6_lay_10 : decode cX6_lay 10 = .ok (.iload_n 2, 1) := by decide +kernel
theorem dX6_lay_11 : decode cX6_lay 11 = .ok (.if_icmp .eq 22, 3) := by decide +kernel
theorem dX6_lay_14 : decode cX6_lay 14 = .ok (.aload_n 0, 1) := by decide +kernel
theorem dX6_lay_15 : decode cX6_lay 15 = .ok (.getfield 22, 3) := by decide +kernel
theorem dX6_lay_18 : decode cX6_lay 18 = .ok (.iconst 2, 1) := by decide +kernel
theorem dX6_lay_19 : decode cX6_lay 19 = .ok (.newarray .int, 2) := by decide +kernel
theorem dX6_lay_21 : decode cX6_lay 21 = .ok (.dup, 1) := by decide +kernel
theorem dX6_lay_22 : decode cX6_lay 22 = .ok (.iconst 0, 1) := by decide +kernel
theorem dX6_lay_23 : decode cX6_lay 23 = .ok (.iload_n 1, 1) := by decide +kernel
theorem dX6_lay_24 : decode cX6_lay 24 = .ok (.iastore, 1) := by decide +kernel
theorem dX6_lay_25 : decode cX6_lay 25 = .ok (.dup, 1) := by decide +kernel
theorem dX6_lay_26 : decode cX6_lay 26 = .ok (.iconst 1, 1) := by decide +kernel
theorem dX6_lay_27 : decode cX6_lay 27 = .ok (.iload_n 3, 1) := by decide +kernel
theorem dX6_lay_28 : decode cX6_lay 28 = .ok (.iastore, 1) := by decide +kernel
theorem dX6_lay_29 : decode cX6_lay 29 = .ok (.invokevirtual 56, 3) := by decide +kernel
theorem dX6_lay_32 : decode cX6_lay 32 = .ok (.pop, 1) := by decide +kernel
theorem dX6_lay_33 : decode cX6_lay 33 = .ok (.aload_n 0, 1) := by decide +kernel
theorem dX6_lay_34 : decode cX6_lay 34 = .ok (.iload_n 1, 1) := by decide +kernel
theorem dX6_lay_35 : decode cX6_lay 35 = .ok (.iload_n 2, 1) := by decide +kernel
theorem dX6_lay_36 : decode cX6_lay 36 = .ok (.invokevirtual 63, 3) := by decide +kernel
theorem dX6_lay_39 : decode cX6_lay 39 = .ok (.return_, 1) := by decide +kernel
theorem dX6_lay_4 : decode cX6_lay 4 = .ok (.iload_n 1, 1) := by decide +kernel
theorem dX6_lay_5 : decode cX6_lay 5 = .ok (.invokestatic 60, 3) := by decide +kernel
theorem dX6_lay_8 : decode cX6_lay 8 = .ok (.istore_n 3, 1) := by decide +kernel
theorem dX6_lay_9 : decode cX6_lay 9 = .ok (.iload_n 3, 1) := by decide +kernel
theorem dX6_left_0 : decode cX6_left 0 = .ok (.new 7, 3) := by decide +kernel
theorem dX6_left_12 : decode cX6_left 12 = .ok (.invokevirtual 167, 3) := by decide +kernel
theorem dX6_left_15 : decode cX6_left 15 = .ok (.astore_n 3, 1) := by decide +kernel
theorem dX6_left_16 : decode cX6_left 16 = .ok (.aload_n 3, 1) := by decide +kernel
theorem dX6_left_17 : decode cX6_left 17 = .ok (.invokeinterface 171 1, 5) := by decide +kernel
theorem dX6_left_22 : decode cX6_left 22 = .ok (.ifCond .eq 46, 3) := by decide +kernel
theorem dX6_left_3 : decode cX6_left 3 = .ok (.dup, 1) := by decide +kernel
theorem dX6_left_4 : decode cX6_left 4 = .ok (.invokespecial 9, 3) := by decide +kernel
theorem dX6_left_68 : decode cX6_left 68 = .ok (.aload_n 2, 1) := by decide +kernel
theorem dX6_left_69 : decode cX6_left 69 = .ok (.invokestatic 95, 3) := by decide +kernel
theorem dX6_left_7 : decode cX6_left 7 = .ok (.astore_n 2, 1) := by decide +kernel
theorem dX6_left_72 : decode cX6_left 72 = .ok (.areturn, 1) := by decide +kernel
theorem dX6_left_8 : decode cX6_left 8 = .ok (.aload_n 0, 1) := by decide +kernel
theorem dX6_left_9 : decode cX6_left 9 = .ok (.invokevirtual 188, 3) := by decide +kernel
theorem dX6_look_0 : decode cX6_look 0 = .ok (.aload_n 0, 1) := by decide +kernel
theorem dX6_look_1 : decode cX6_look 1 = .ok (.iconst 0, 1) := by decide +kernel
theorem dX6_look_10 : decode cX6_look 10 = .ok (.invokestatic 60, 3) := by decide +kernel
theorem dX6_look_13 : decode cX6_look 13 = .ok (.ireturn, 1) := by decide +kernel
theorem dX6_look_2 : decode cX6_look 2 = .ok (.putfield 36, 3) := by decide +kernel
theorem dX6_look_5 : decode cX6_look 5 = .ok (.aload_n 0, 1) := by decide +kernel
theorem dX6_look_6 : decode cX6_look 6 = .ok (.getfield 10, 3) := by decide +kernel
theorem dX6_look_9 : decode cX6_look 9 = .ok (.iload_n 1, 1) := by decide +kernel
theorem dX6_nearIn_0 : decode cX6_nearIn 0 = .ok (.aconst_null, 1) := by decide +kernel
theorem dX6_nearIn_1 : decode cX6_nearIn 1 = .ok (.astore_n 3, 1) := by decide +kernel
theorem dX6_nearIn_11 : decode cX6_nearIn 11 = .ok (.if_icmp .ge 134, 3) := by decide +kernel
theorem dX6_nearIn_145 : decode cX6_nearIn 145 = .ok (.aload_n 3, 1) := by decide +kernel
theorem dX6_nearIn_146 : decode cX6_nearIn 146 = .ok (.areturn, 1) := by decide +kernel
theorem dX6_nearIn_2 : decode cX6_nearIn 2 = .ok (.iconst 0, 1) := by decide +kernel
theorem dX6_nearIn_3 : decode cX6_nearIn 3 = .ok (.istore 4, 2) := by decide +kernel
theorem dX6_nearIn_5 : decode cX6_nearIn 5 = .ok (.iload 4, 2) := by decide +kernel
theorem dX6_nearIn_7 : decode cX6_nearIn 7 = .ok (.aload_n 0, 1) := by decide +kernel
theorem dX6_nearIn_8 : decode cX6_nearIn 8 = .ok (.invokevirtual 40, 3) := by decide +kernel
theorem dX6_nearValue_0 : decode cX6_nearValue 0 = .ok (.aload_n 0, 1) := by decide +kernel
