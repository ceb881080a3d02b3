theorem dX1_note_17 : decode cX1_note 17 = .ok (.dup, 1) := by decide +kernel
theorem dX1_note_18 : decode cX1_note 18 = .ok (.getfield 26, 3) := by decide +kernel
theorem dX1_note_21 : decode cX1_note 21 = .ok (.iconst 1, 1) := by decide +kernel
theorem dX1_note_22 : decode cX1_note 22 = .ok (.iadd, 1) := by decide +kernel
theorem dX1_note_23 : decode cX1_note 23 = .ok (.putfield 26, 3) := by decide +kernel
theorem dX1_note_26 : decode cX1_note 26 = .ok (.return_, 1) := by decide +kernel
theorem dX1_note_4 : decode cX1_note 4 = .ok (.iload_n 1, 1) := by decide +kernel
theorem dX1_note_5 : decode cX1_note 5 = .ok (.invokevirtual 34, 3) := by decide +kernel
theorem dX1_note_8 : decode cX1_note 8 = .ok (.aload_n 0, 1) := by decide +kernel
theorem dX1_note_9 : decode cX1_note 9 = .ok (.getfield 20, 3) := by decide +kernel
theorem dX2_add_0 : decode cX2_add 0 = .ok (.aload_n 0, 1) := by decide +kernel
theorem dX2_add_1 : decode cX2_add 1 = .ok (.aload_n 0, 1) := by decide +kernel
theorem dX2_add_2 : decode cX2_add 2 = .ok (.getfield 15, 3) := by decide +kernel
theorem dX2_add_5 : decode cX2_add 5 = .ok (.iload_n 1, 1) := by decide +kernel
theorem dX2_add_6 : decode cX2_add 6 = .ok (.invokevirtual 19, 3) := by decide +kernel
theorem dX2_add_9 : decode cX2_add 9 = .ok (.return_, 1) := by decide +kernel
theorem dX2_become_0 : decode cX2_become 0 = .ok (.aload_n 1, 1) := by decide +kernel
theorem dX2_become_1 : decode cX2_become 1 = .ok (.getfield 15, 3) := by decide +kernel
theorem dX2_become_12 : decode cX2_become 12 = .ok (.aload_n 1, 1) := by decide +kernel
theorem dX2_become_13 : decode cX2_become 13 = .ok (.getfield 9, 3) := by decide +kernel
theorem dX2_become_16 : decode cX2_become 16 = .ok (.iconst 0, 1) := by decide +kernel
theorem dX2_become_17 : decode cX2_become 17 = .ok (.aload_n 0, 1) := by decide +kernel
theorem dX2_become_18 : decode cX2_become 18 = .ok (.getfield 9, 3) := by decide +kernel
theorem dX2_become_21 : decode cX2_become 21 = .ok (.iconst 0, 1) := by decide +kernel
theorem dX2_become_22 : decode cX2_become 22 = .ok (.aload_n 1, 1) := by decide +kernel
theorem dX2_become_23 : decode cX2_become 23 = .ok (.getfield 15, 3) := by decide +kernel
theorem dX2_become_26 : decode cX2_become 26 = .ok (.invokestatic 23, 3) := by decide +kernel
theorem dX2_become_29 : decode cX2_become 29 = .ok (.aload_n 0, 1) := by decide +kernel
theorem dX2_become_30 : decode cX2_become 30 = .ok (.aload_n 1, 1) := by decide +kernel
theorem dX2_become_31 : decode cX2_become 31 = .ok (.getfield 15, 3) := by decide +kernel
theorem dX2_become_34 : decode cX2_become 34 = .ok (.putfield 15, 3) := by decide +kernel
theorem dX2_become_37 : decode cX2_become 37 = .ok (.return_, 1) := by decide +kernel
theorem dX2_become_4 : decode cX2_become 4 = .ok (.aload_n 0, 1) := by decide +kernel
theorem dX2_become_5 : decode cX2_become 5 = .ok (.getfield 9, 3) := by decide +kernel
theorem dX2_become_8 : decode cX2_become 8 = .ok (.arraylength, 1) := by decide +kernel
theorem dX2_become_9 : decode cX2_become 9 = .ok (.if_icmp .gt 28, 3) := by decide +kernel
theorem dX2_count_0 : decode cX2_count 0 = .ok (.aload_n 0, 1) := by decide +kernel
theorem dX2_count_1 : decode cX2_count 1 = .ok (.getfield 15, 3) := by decide +kernel
theorem dX2_count_4 : decode cX2_count 4 = .ok (.ireturn, 1) := by decide +kernel
theorem dX2_delete_0 : decode cX2_delete 0 = .ok (.iload_n 1, 1) := by decide +kernel
theorem dX2_delete_1 : decode cX2_delete 1 = .ok (.ifCond .lt 44, 3) := by decide +kernel
theorem dX2_delete_45 : decode cX2_delete 45 = .ok (.return_, 1) := by decide +kernel
theorem dX2_empty_0 : decode cX2_empty 0 = .ok (.aload_n 0, 1) := by decide +kernel
theorem dX2_empty_1 : decode cX2_empty 1 = .ok (.iconst 0, 1) := by decide +kernel
theorem dX2_empty_2 : decode cX2_empty 2 = .ok (.putfield 15, 3) := by decide +kernel
theorem dX2_empty_5 : decode cX2_empty 5 = .ok (.return_, 1) := by decide +kernel
theorem dX2_init_0 : decode cX2_init 0 = .ok (.aload_n 0, 1) := by decide +kernel
theorem dX2_init_1 : decode cX2_init 1 = .ok (.invokespecial 3, 3) := by decide +kernel
theorem dX2_init_10 : decode cX2_init 10 = .ok (.goto 4, 3) := by decide +kernel
theorem dX2_init_14 : decode cX2_init 14 = .ok (.newarray .int, 2) := by decide +kernel
theorem dX2_init_16 : decode cX2_init 16 = .ok (.putfield 9, 3) := by decide +kernel
theorem dX2_init_19 : decode cX2_init 19 = .ok (.aload_n 0, 1) := by decide +kernel
theorem dX2_init_20 : decode cX2_init 20 = .ok (.iconst 0, 1) := by decide +kernel
theorem dX2_init_21 : decode cX2_init 21 = .ok (.putfield 15, 3) := by decide +kernel
theorem dX2_init_24 : decode cX2_init 24 = .ok (.return_, 1) := by decide +kernel
theorem dX2_init_4 : decode cX2_init 4 = .ok (.aload_n 0, 1) := by decide +kernel
theorem dX2_init_5 : decode cX2_init 5 = .ok (.iload_n 1, 1) := by decide +kernel
theorem dX2_init_6 : decode cX2_init 6 = .ok (.ifCond .le 7, 3) := by decide +kernel
theorem dX2_init_9 : decode cX2_init 9 = .ok (.iload_n 1, 1) := by decide +kernel
theorem dX2_insert_0 : decode cX2_insert 0 = .ok (.iload_n 1, 1) := by decide +kernel
theorem dX2_insert_1 : decode cX2_insert 1 = .ok (.ifCond .lt 23, 3) := by decide +kernel
theorem dX2_insert_12 : decode cX2_insert 12 = .ok (.aload_n 0, 1) := by decide +kernel
theorem dX2_insert_13 : decode cX2_insert 13 = .ok (.getfield 15, 3) := by decide +kernel
theorem dX2_insert_16 : decode cX2_insert 16 = .ok (.aload_n 0, 1) := by decide +kernel
theorem dX2_insert_17 : decode cX2_insert 17 = .ok (.getfield 9, 3) := by decide +kernel
theorem dX2_insert_20 : decode cX2_insert 20 = .ok (.arraylength, 1) := by decide +kernel
theorem dX2_insert_21 : decode cX2_insert 21 = .ok (.if_icmp .lt 4, 3) := by decide +kernel
theorem dX2_insert_25 : decode cX2_insert 25 = .ok (.aload_n 0, 1) := by decide +kernel
theorem dX2_insert_26 : decode cX2_insert 26 = .ok (.getfield 15, 3) := by decide +kernel
theorem dX2_insert_29 : decode cX2_insert 29 = .ok (.istore_n 3, 1) := by decide +kernel
theorem dX2_insert_30 : decode cX2_insert 30 = .ok (.iload_n 3, 1) := by decide +kernel
theorem dX2_insert_31 : decode cX2_insert 31 = .ok (.iload_n 1, 1) := by decide +kernel
theorem dX2_insert_32 : decode cX2_insert 32 = .ok (.if_icmp .le 23, 3) := by decide +kernel
theorem dX2_insert_4 : decode cX2_insert 4 = .ok (.iload_n 1, 1) := by decide +kernel
theorem dX2_insert_5 : decode cX2_insert 5 = .ok (.aload_n 0, 1) := by decide +kernel
theorem dX2_insert_55 : decode cX2_insert 55 = .ok (.aload_n 0, 1) := by decide +kernel
theorem dX2_insert_56 : decode cX2_insert 56 = .ok (.getfield 9, 3) := by decide +kernel
theorem dX2_insert_59 : decode cX2_insert 59 = .ok (.iload_n 1, 1) := by decide +kernel
theorem dX2_insert_6 : decode cX2_insert 6 = .ok (.getfield 15, 3) := by decide +kernel
theorem dX2_insert_60 : decode cX2_insert 60 = .ok (.iload_n 2, 1) := by decide +kernel
theorem dX2_insert_61 : decode cX2_insert 61 = .ok (.iastore, 1) := by decide +kernel
theorem dX2_insert_62 : decode cX2_insert 62 = .ok (.aload_n 0, 1) := by decide +kernel
theorem dX2_insert_63 : decode cX2_insert 63 = .ok (.dup, 1) := by decide +kernel
theorem dX2_insert_64 : decode cX2_insert 64 = .ok (.getfield 15, 3) := by decide +kernel
theorem dX2_insert_67 : decode cX2_insert 67 = .ok (.iconst 1, 1) := by decide +kernel
theorem dX2_insert_68 : decode cX2_insert 68 = .ok (.iadd, 1) := by decide +kernel
theorem dX2_insert_69 : decode cX2_insert 69 = .ok (.putfield 15, 3) := by decide +kernel
theorem dX2_insert_72 : decode cX2_insert 72 = .ok (.return_, 1) := by decide +kernel
theorem dX2_insert_9 : decode cX2_insert 9 = .ok (.if_icmp .gt 15, 3) := by decide +kernel
theorem dX2_joined_0 : decode cX2_joined 0 = .ok (.new 29, 3) := by decide +kernel
theorem dX2_joined_10 : decode cX2_joined 10 = .ok (.iload_n 2, 1) := by decide +kernel
theorem dX2_joined_11 : decode cX2_joined 11 = .ok (.aload_n 0, 1) := by decide +kernel
theorem dX2_joined_12 : decode cX2_joined 12 = .ok (.getfield 15, 3) := by decide +kernel
theorem dX2_joined_15 : decode cX2_joined 15 = .ok (.if_icmp .ge 31, 3) := by decide +kernel
theorem dX2_joined_3 : decode cX2_joined 3 = .ok (.dup, 1) := by decide +kernel
theorem dX2_joined_4 : decode cX2_joined 4 = .ok (.invokespecial 31, 3) := by decide +kernel
theorem dX2_joined_46 : decode cX2_joined 46 = .ok (.aload_n 1, 1) := by decide +kernel
theorem dX2_joined_47 : decode cX2_joined 47 = .ok (.invokevirtual 39, 3) := by decide +kernel
theorem dX2_joined_50 : decode cX2_joined 50 = .ok (.areturn, 1) := by decide +kernel
theorem dX2_joined_7 : decode cX2_joined 7 = .ok (.astore_n 1, 1) := by decide +kernel
theorem dX2_joined_8 : decode cX2_joined 8 = .ok (.iconst 0, 1) := by decide +kernel
theorem dX2_joined_9 : decode cX2_joined 9 = .ok (.istore_n 2, 1) := by decide +kernel
theorem dX2_placeOf_0 : decode cX2_placeOf 0 = .ok (.iconst 0, 1) := by decide +kernel
theorem dX2_placeOf_1 : decode cX2_placeOf 1 = .ok (.istore_n 2, 1) := by decide +kernel
theorem dX2_placeOf_2 : decode cX2_placeOf 2 = .ok (.iload_n 2, 1) := by decide +kernel
theorem dX2_placeOf_28 : decode cX2_placeOf 28 = .ok (.iconst (-1), 1) := by decide +kernel
theorem dX2_placeOf_29 : decode cX2_placeOf 29 = .ok (.ireturn, 1) := by decide +kernel
theorem dX2_placeOf_3 : decode cX2_placeOf 3 = .ok (.aload_n 0, 1) := by decide +kernel
theorem dX2_placeOf_4 : decode cX2_placeOf 4 = .ok (.getfield 15, 3) := by decide +kernel
theorem dX2_placeOf_7 : decode cX2_placeOf 7 = .ok (.if_icmp .ge 21, 3) := by decide +kernel
theorem dX3_assign_0 : decode cX3_assign 0 = .ok (.aload_n 0, 1) := by decide +kernel
theorem dX3_assign_1 : decode cX3_assign 1 = .ok (.iload_n 1, 1) := by decide +kernel
theorem dX3_assign_11 : decode cX3_assign 11 = .ok (.ifCond .eq 15, 3) := by decide +kernel
theorem dX3_assign_2 : decode cX3_assign 2 = .ok (.invokevirtual 41, 3) := by decide +kernel
theorem dX3_assign_26 : decode cX3_assign 26 = .ok (.aload_n 0, 1) := by decide +kernel
theorem dX3_assign_27 : decode cX3_assign 27 = .ok (.getfield 14, 3) := by decide +kernel
theorem dX3_assign_30 : decode cX3_assign 30 = .ok (.iload_n 3, 1) := by decide +kernel
theorem dX3_assign_31 : decode cX3_assign 31 = .ok (.iload_n 1, 1) := by decide +kernel
theorem dX3_assign_32 : decode cX3_assign 32 = .ok (.invokevirtual 64, 3) := by decide +kernel
theorem dX3_assign_35 : decode cX3_assign 35 = .ok (.aload_n 0, 1) := by decide +kernel
theorem dX3_assign_36 : decode cX3_assign 36 = .ok (.getfield 20, 3) := by decide +kernel
theorem dX3_assign_39 : decode cX3_assign 39 = .ok (.iload_n 3, 1) := by decide +kernel
theorem dX3_assign_40 : decode cX3_assign 40 = .ok (.iload_n 2, 1) := by decide +kernel
theorem dX3_assign_41 : decode cX3_assign 41 = .ok (.invokevirtual 64, 3) := by decide +kernel
theorem dX3_assign_44 : decode cX3_assign 44 = .ok (.return_, 1) := by decide +kernel
theorem dX3_assign_5 : decode cX3_assign 5 = .ok (.istore_n 3, 1) := by decide +kernel
theorem dX3_assign_6 : decode cX3_assign 6 = .ok (.aload_n 0, 1) := by decide +kernel
theorem dX3_assign_7 : decode cX3_assign 7 = .ok (.iload_n 1, 1) := by decide +kernel
theorem dX3_assign_8 : decode cX3_assign 8 = .ok (.invokevirtual 37, 3) := by decide +kernel
theorem dX3_become_0 : decode cX3_become 0 = .ok (.aload_n 0, 1) := by decide +kernel
theorem dX3_become_1 : decode cX3_become 1 = .ok (.getfield 14, 3) := by decide +kernel
theorem dX3_become_11 : decode cX3_become 11 = .ok (.aload_n 0, 1) := by decide +kernel
theorem dX3_become_12 : decode cX3_become 12 = .ok (.getfield 20, 3) := by decide +kernel
theorem dX3_become_15 : decode cX3_become 15 = .ok (.aload_n 1, 1) := by decide +kernel
theorem dX3_become_16 : decode cX3_become 16 = .ok (.getfield 20, 3) := by decide +kernel
theorem dX3_become_19 : decode cX3_become 19 = .ok (.invokevirtual 70, 3) := by decide +kernel
theorem dX3_become_22 : decode cX3_become 22 = .ok (.return_, 1) := by decide +kernel
theorem dX3_become_4 : decode cX3_become 4 = .ok (.aload_n 1, 1) := by decide +kernel
theorem dX3_become_5 : decode cX3_become 5 = .ok (.getfield 14, 3) := by decide +kernel
theorem dX3_become_8 : decode cX3_become 8 = .ok (.invokevirtual 70, 3) := by decide +kernel
theorem dX3_countBelow_0 : decode cX3_countBelow 0 = .ok (.aload_n 0, 1) := by decide +kernel
theorem dX3_countBelow_1 : decode cX3_countBelow 1 = .ok (.getfield 14, 3) := by decide +kernel
theorem dX3_countBelow_10 : decode cX3_countBelow 10 = .ok (.iload_n 3, 1) := by decide +kernel
theorem dX3_countBelow_11 : decode cX3_countBelow 11 = .ok (.iload_n 2, 1) := by decide +kernel
theorem dX3_countBelow_12 : decode cX3_countBelow 12 = .ok (.if_icmp .ge 23, 3) := by decide +kernel
theorem dX3_countBelow_35 : decode cX3_countBelow 35 = .ok (.iload_n 2, 1) := by decide +kernel
theorem dX3_countBelow_36 : decode cX3_countBelow 36 = .ok (.ireturn, 1) := by decide +kernel
theorem dX3_countBelow_4 : decode cX3_countBelow 4 = .ok (.invokevirtual 23, 3) := by decide +kernel
theorem dX3_countBelow_7 : decode cX3_countBelow 7 = .ok (.istore_n 2, 1) := by decide +kernel
theorem dX3_countBelow_8 : decode cX3_countBelow 8 = .ok (.iconst 0, 1) := by decide +kernel
theorem dX3_countBelow_9 : decode cX3_countBelow 9 = .ok (.istore_n 3, 1) := by decide +kernel
theorem dX3_countIn_0 : decode cX3_countIn 0 = .ok (.aload_n 0, 1) := by decide +kernel
theorem dX3_countIn_1 : decode cX3_countIn 1 = .ok (.iload_n 2, 1) := by decide +kernel
theorem dX3_countIn_10 : decode cX3_countIn 10 = .ok (.isub, 1) := by decide +kernel
theorem dX3_countIn_11 : decode cX3_countIn 11 = .ok (.ireturn, 1) := by decide +kernel
theorem dX3_countIn_2 : decode cX3_countIn 2 = .ok (.invokevirtual 44, 3) := by decide +kernel
theorem dX3_countIn_5 : decode cX3_countIn 5 = .ok (.aload_n 0, 1) := by decide +kernel
theorem dX3_countIn_6 : decode cX3_countIn 6 = .ok (.iload_n 1, 1) := by decide +kernel
theorem dX3_countIn_7 : decode cX3_countIn 7 = .ok (.invokevirtual 41, 3) := by decide +kernel
theorem dX3_countNotAbove_0 : decode cX3_countNotAbove 0 = .ok (.aload_n 0, 1) := by decide +kernel
theorem dX3_countNotAbove_1 : decode cX3_countNotAbove 1 = .ok (.iload_n 1, 1) := by decide +kernel
theorem dX3_countNotAbove_18 : decode cX3_countNotAbove 18 = .ok (.aload_n 0, 1) := by decide +kernel
theorem dX3_countNotAbove_19 : decode cX3_countNotAbove 19 = .ok (.iload_n 1, 1) := by decide +kernel
theorem dX3_countNotAbove_2 : decode cX3_countNotAbove 2 = .ok (.invokevirtual 37, 3) := by decide +kernel
theorem dX3_countNotAbove_20 : decode cX3_countNotAbove 20 = .ok (.invokevirtual 41, 3) := by decide +kernel
theorem dX3_countNotAbove_23 : decode cX3_countNotAbove 23 = .ok (.ireturn, 1) := by decide +kernel
theorem dX3_countNotAbove_5 : decode cX3_countNotAbove 5 = .ok (.ifCond .eq 13, 3) := by decide +kernel
theorem dX3_count_0 : decode cX3_count 0 = .ok (.aload_n 0, 1) := by decide +kernel
theorem dX3_count_1 : decode cX3_count 1 = .ok (.getfield 14, 3) := by decide +kernel
theorem dX3_count_4 : decode cX3_count 4 = .ok (.invokevirtual 23, 3) := by decide +kernel
theorem dX3_count_7 : decode cX3_count 7 = .ok (.ireturn, 1) := by decide +kernel
theorem dX3_differencesFrom_0 : decode cX3_differencesFrom 0 = .ok (.iconst 0, 1) := by decide +kernel
theorem dX3_differencesFrom_1 : decode cX3_differencesFrom 1 = .ok (.istore_n 2, 1) := by decide +kernel
theorem dX3_differencesFrom_2 : decode cX3_differencesFrom 2 = .ok (.iconst 0, 1) := by decide +kernel
theorem dX3_differencesFrom_3 : decode cX3_differencesFrom 3 = .ok (.istore_n 3, 1) := by decide +kernel
theorem dX3_differencesFrom_38 : decode cX3_differencesFrom 38 = .ok (.iconst 0, 1) := by decide +kernel
theorem dX3_differencesFrom_39 : decode cX3_differencesFrom 39 = .ok (.istore_n 3, 1) := by decide +kernel
theorem dX3_differencesFrom_4 : decode cX3_differencesFrom 4 = .ok (.iload_n 3, 1) := by decide +kernel
theorem dX3_differencesFrom_40 : decode cX3_differencesFrom 40 = .ok (.iload_n 3, 1) := by decide +kernel
theorem dX3_differencesFrom_41 : decode cX3_differencesFrom 41 = .ok (.aload_n 1, 1) := by decide +kernel
theorem dX3_differencesFrom_42 : decode cX3_differencesFrom 42 = .ok (.invokevirtual 74, 3) := by decide +kernel
theorem dX3_differencesFrom_45 : decode cX3_differencesFrom 45 = .ok (.if_icmp .ge 24, 3) := by decide +kernel
theorem dX3_differencesFrom_5 : decode cX3_differencesFrom 5 = .ok (.aload_n 0, 1) := by decide +kernel
theorem dX3_differencesFrom_6 : decode cX3_differencesFrom 6 = .ok (.invokevirtual 74, 3) := by decide +kernel
theorem dX3_differencesFrom_69 : decode cX3_differencesFrom 69 = .ok (.iload_n 2, 1) := by decide +kernel
theorem dX3_differencesFrom_70 : decode cX3_differencesFrom 70 = .ok (.ireturn, 1) := by decide +kernel
theorem dX3_differencesFrom_9 : decode cX3_differencesFrom 9 = .ok (.if_icmp .ge 29, 3) := by decide +kernel
theorem dX3_holdsValue_0 : decode cX3_holdsValue 0 = .ok (.aload_n 0, 1) := by decide +kernel
theorem dX3_holdsValue_1 : decode cX3_holdsValue 1 = .ok (.getfield 20, 3) := by decide +kernel
theorem dX3_holdsValue_16 : decode cX3_holdsValue 16 = .ok (.iconst 0, 1) := by decide +kernel
theorem dX3_holdsValue_17 : decode cX3_holdsValue 17 = .ok (.ireturn, 1) := by decide +kernel
theorem dX3_holdsValue_4 : decode cX3_holdsValue 4 = .ok (.iload_n 1, 1) := by decide +kernel
theorem dX3_holdsValue_5 : decode cX3_holdsValue 5 = .ok (.invokevirtual 31, 3) := by decide +kernel
theorem dX3_holdsValue_8 : decode cX3_holdsValue 8 = .ok (.iconst (-1), 1) := by decide +kernel
theorem dX3_holdsValue_9 : decode cX3_holdsValue 9 = .ok (.if_icmp .eq 7, 3) := by decide +kernel
theorem dX3_holds_0 : decode cX3_holds 0 = .ok (.aload_n 0, 1) := by decide +kernel
theorem dX3_holds_1 : decode cX3_holds 1 = .ok (.getfield 14, 3) := by decide +kernel
theorem dX3_holds_16 : decode cX3_holds 16 = .ok (.iconst 0, 1) := by decide +kernel
theorem dX3_holds_17 : decode cX3_holds 17 = .ok (.ireturn, 1) := by decide +kernel
theorem dX3_holds_4 : decode cX3_holds 4 = .ok (.iload_n 1, 1) := by decide +kernel
theorem dX3_holds_5 : decode cX3_holds 5 = .ok (.invokevirtual 31, 3) := by decide +kernel
theorem dX3_holds_8 : decode cX3_holds 8 = .ok (.iconst (-1), 1) := by decide +kernel
theorem dX3_holds_9 : decode cX3_holds 9 = .ok (.if_icmp .eq 7, 3) := by decide +kernel
theorem dX3_init_0 : decode cX3_init 0 = .ok (.aload_n 0, 1) := by decide +kernel
theorem dX3_init_1 : decode cX3_init 1 = .ok (.invokespecial 3, 3) := by decide +kernel
theorem dX3_init_11 : decode cX3_init 11 = .ok (.invokespecial 11, 3) := by decide +kernel
theorem dX3_init_14 : decode cX3_init 14 = .ok (.putfield 14, 3) := by decide +kernel
theorem dX3_init_17 : decode cX3_init 17 = .ok (.aload_n 0, 1) := by decide +kernel
theorem dX3_init_18 : decode cX3_init 18 = .ok (.new 9, 3) := by decide +kernel
theorem dX3_init_21 : decode cX3_init 21 = .ok (.dup, 1) := by decide +kernel
theorem dX3_init_22 : decode cX3_init 22 = .ok (.bipush 24, 2) := by decide +kernel
theorem dX3_init_24 : decode cX3_init 24 = .ok (.invokespecial 11, 3) := by decide +kernel
theorem dX3_init_27 : decode cX3_init 27 = .ok (.putfield 20, 3) := by decide +kernel
theorem dX3_init_30 : decode cX3_init 30 = .ok (.return_, 1) := by decide +kernel
theorem dX3_init_4 : decode cX3_init 4 = .ok (.aload_n 0, 1) := by decide +kernel
theorem dX3_init_5 : decode cX3_init 5 = .ok (.new 9, 3) := by decide +kernel
theorem dX3_init_8 : decode cX3_init 8 = .ok (.dup, 1) := by decide +kernel
theorem dX3_init_9 : decode cX3_init 9 = .ok (.bipush 24, 2) := by decide +kernel
theorem dX3_mixedSum_0 : decode cX3_mixedSum 0 = .ok (.iconst 0, 1) := by decide +kernel
theorem dX3_mixedSum_1 : decode cX3_mixedSum 1 = .ok (.istore_n 1, 1) := by decide +kernel
theorem dX3_mixedSum_2 : decode cX3_mixedSum 2 = .ok (.iconst 0, 1) := by decide +kernel
theorem dX3_mixedSum_3 : decode cX3_mixedSum 3 = .ok (.istore_n 2, 1) := by decide +kernel
theorem dX3_mixedSum_32 : decode cX3_mixedSum 32 = .ok (.iload_n 1, 1) := by decide +kernel
theorem dX3_mixedSum_33 : decode cX3_mixedSum 33 = .ok (.ireturn, 1) := by decide +kernel
theorem dX3_mixedSum_4 : decode cX3_mixedSum 4 = .ok (.iload_n 2, 1) := by decide +kernel
theorem dX3_mixedSum_5 : decode cX3_mixedSum 5 = .ok (.aload_n 0, 1) := by decide +kernel
theorem dX3_mixedSum_6 : decode cX3_mixedSum 6 = .ok (.invokevirtual 74, 3) := by decide +kernel
theorem dX3_mixedSum_9 : decode cX3_mixedSum 9 = .ok (.if_icmp .ge 23, 3) := by decide +kernel
theorem dX3_placeNear_0 : decode cX3_placeNear 0 = .ok (.aload_n 0, 1) := by decide +kernel
theorem dX3_placeNear_1 : decode cX3_placeNear 1 = .ok (.iload_n 1, 1) := by decide +kernel
theorem dX3_placeNear_100 : decode cX3_placeNear 100 = .ok (.invokestatic 53, 3) := by decide +kernel
theorem dX3_placeNear_103 : decode cX3_placeNear 103 = .ok (.istore 7, 2) := by decide +kernel
theorem dX3_placeNear_105 : decode cX3_placeNear 105 = .ok (.iload 5, 2) := by decide +kernel
theorem dX3_placeNear_107 : decode cX3_placeNear 107 = .ok (.iload 6, 2) := by decide +kernel
theorem dX3_placeNear_109 : decode cX3_placeNear 109 = .ok (.iload 7, 2) := by decide +kernel
theorem dX3_placeNear_111 : decode cX3_placeNear 111 = .ok (.invokestatic 56, 3) := by decide +kernel
theorem dX3_placeNear_114 : decode cX3_placeNear 114 = .ok (.ifCond .eq 8, 3) := by decide +kernel
theorem dX3_placeNear_12 : decode cX3_placeNear 12 = .ok (.iconst 1, 1) := by decide +kernel
theorem dX3_placeNear_122 : decode cX3_placeNear 122 = .ok (.iconst (-1), 1) := by decide +kernel
theorem dX3_placeNear_123 : decode cX3_placeNear 123 = .ok (.ireturn, 1) := by decide +kernel
theorem dX3_placeNear_13 : decode cX3_placeNear 13 = .ok (.isub, 1) := by decide +kernel
theorem dX3_placeNear_14 : decode cX3_placeNear 14 = .ok (.istore 6, 2) := by decide +kernel
theorem dX3_placeNear_16 : decode cX3_placeNear 16 = .ok (.iload 4, 2) := by decide +kernel
theorem dX3_placeNear_18 : decode cX3_placeNear 18 = .ok (.tableswitch 75 0 2 #[26, 43, 60], 26) := by decide +kernel
theorem dX3_placeNear_2 : decode cX3_placeNear 2 = .ok (.invokevirtual 41, 3) := by decide +kernel
theorem dX3_placeNear_44 : decode cX3_placeNear 44 = .ok (.aload_n 0, 1) := by decide +kernel
theorem dX3_placeNear_45 : decode cX3_placeNear 45 = .ok (.iload_n 3, 1) := by decide +kernel
theorem dX3_placeNear_46 : decode cX3_placeNear 46 = .ok (.invokevirtual 41, 3) := by decide +kernel
theorem dX3_placeNear_49 : decode cX3_placeNear 49 = .ok (.iconst 1, 1) := by decide +kernel
theorem dX3_placeNear_5 : decode cX3_placeNear 5 = .ok (.istore 5, 2) := by decide +kernel
theorem dX3_placeNear_50 : decode cX3_placeNear 50 = .ok (.isub, 1) := by decide +kernel
theorem dX3_placeNear_51 : decode cX3_placeNear 51 = .ok (.iload 6, 2) := by decide +kernel
theorem dX3_placeNear_53 : decode cX3_placeNear 53 = .ok (.invokestatic 47, 3) := by decide +kernel
theorem dX3_placeNear_56 : decode cX3_placeNear 56 = .ok (.istore 7, 2) := by decide +kernel
theorem dX3_placeNear_58 : decode cX3_placeNear 58 = .ok (.goto 47, 3) := by decide +kernel
theorem dX3_placeNear_61 : decode cX3_placeNear 61 = .ok (.aload_n 0, 1) := by decide +kernel
theorem dX3_placeNear_62 : decode cX3_placeNear 62 = .ok (.iload_n 3, 1) := by decide +kernel
theorem dX3_placeNear_63 : decode cX3_placeNear 63 = .ok (.invokevirtual 44, 3) := by decide +kernel
theorem dX3_placeNear_66 : decode cX3_placeNear 66 = .ok (.iconst 1, 1) := by decide +kernel
theorem dX3_placeNear_67 : decode cX3_placeNear 67 = .ok (.isub, 1) := by decide +kernel
theorem dX3_placeNear_68 : decode cX3_placeNear 68 = .ok (.iload 6, 2) := by decide +kernel
theorem dX3_placeNear_7 : decode cX3_placeNear 7 = .ok (.aload_n 0, 1) := by decide +kernel
theorem dX3_placeNear_70 : decode cX3_placeNear 70 = .ok (.invokestatic 47, 3) := by decide +kernel
theorem dX3_placeNear_73 : decode cX3_placeNear 73 = .ok (.istore 7, 2) := by decide +kernel
theorem dX3_placeNear_75 : decode cX3_placeNear 75 = .ok (.goto 30, 3) := by decide +kernel
theorem dX3_placeNear_78 : decode cX3_placeNear 78 = .ok (.aload_n 0, 1) := by decide +kernel
theorem dX3_placeNear_79 : decode cX3_placeNear 79 = .ok (.iload_n 3, 1) := by decide +kernel
theorem dX3_placeNear_8 : decode cX3_placeNear 8 = .ok (.iload_n 2, 1) := by decide +kernel
theorem dX3_placeNear_80 : decode cX3_placeNear 80 = .ok (.invokevirtual 41, 3) := by decide +kernel
theorem dX3_placeNear_83 : decode cX3_placeNear 83 = .ok (.iload 5, 2) := by decide +kernel
theorem dX3_placeNear_85 : decode cX3_placeNear 85 = .ok (.invokestatic 53, 3) := by decide +kernel
theorem dX3_placeNear_88 : decode cX3_placeNear 88 = .ok (.istore 7, 2) := by decide +kernel
theorem dX3_placeNear_9 : decode cX3_placeNear 9 = .ok (.invokevirtual 44, 3) := by decide +kernel
theorem dX3_placeNear_90 : decode cX3_placeNear 90 = .ok (.goto 15, 3) := by decide +kernel
theorem dX3_placeNear_93 : decode cX3_placeNear 93 = .ok (.aload_n 0, 1) := by decide +kernel
theorem dX3_placeNear_94 : decode cX3_placeNear 94 = .ok (.iload_n 3, 1) := by decide +kernel
theorem dX3_placeNear_95 : decode cX3_placeNear 95 = .ok (.invokevirtual 44, 3) := by decide +kernel
theorem dX3_placeNear_98 : decode cX3_placeNear 98 = .ok (.iload 5, 2) := by decide +kernel
theorem dX3_valueOf_0 : decode cX3_valueOf 0 = .ok (.aload_n 0, 1) := by decide +kernel
theorem dX3_valueOf_1 : decode cX3_valueOf 1 = .ok (.getfield 14, 3) := by decide +kernel
theorem dX3_valueOf_10 : decode cX3_valueOf 10 = .ok (.iconst (-1), 1) := by decide +kernel
theorem dX3_valueOf_11 : decode cX3_valueOf 11 = .ok (.if_icmp .ne 9, 3) := by decide +kernel
theorem dX3_valueOf_14 : decode cX3_valueOf 14 = .ok (.sipush (-1000), 3) := by decide +kernel
theorem dX3_valueOf_17 : decode cX3_valueOf 17 = .ok (.goto 8, 3) := by decide +kernel
theorem dX3_valueOf_25 : decode cX3_valueOf 25 = .ok (.ireturn, 1) := by decide +kernel
theorem dX3_valueOf_4 : decode cX3_valueOf 4 = .ok (.iload_n 1, 1) := by decide +kernel
theorem dX3_valueOf_5 : decode cX3_valueOf 5 = .ok (.invokevirtual 31, 3) := by decide +kernel
theorem dX3_valueOf_8 : decode cX3_valueOf 8 = .ok (.istore_n 2, 1) := by decide +kernel
theorem dX3_valueOf_9 : decode cX3_valueOf 9 = .ok (.iload_n 2, 1) := by decide +kernel
theorem dX4_ageOf_0 : decode cX4_ageOf 0 = .ok (.aload_n 0, 1) := by decide +kernel
theorem dX4_ageOf_1 : decode cX4_ageOf 1 = .ok (.getfield 21, 3) := by decide +kernel
theorem dX4_ageOf_10 : decode cX4_ageOf 10 = .ok (.iconst (-1), 1) := by decide +kernel
theorem dX4_ageOf_11 : decode cX4_ageOf 11 = .ok (.if_icmp .ne 9, 3) := by decide +kernel
theorem dX4_ageOf_14 : decode cX4_ageOf 14 = .ok (.sipush (-1000), 3) := by decide +kernel
theorem dX4_ageOf_17 : decode cX4_ageOf 17 = .ok (.goto 14, 3) := by decide +kernel
theorem dX4_ageOf_31 : decode cX4_ageOf 31 = .ok (.ireturn, 1) := by decide +kernel
theorem dX4_ageOf_4 : decode cX4_ageOf 4 = .ok (.iload_n 1, 1) := by decide +kernel
theorem dX4_ageOf_5 : decode cX4_ageOf 5 = .ok (.invokevirtual 192, 3) := by decide +kernel
theorem dX4_ageOf_8 : decode cX4_ageOf 8 = .ok (.istore_n 2, 1) := by decide +kernel
theorem dX4_ageOf_9 : decode cX4_ageOf 9 = .ok (.iload_n 2, 1) := by decide +kernel
theorem dX4_aged_0 : decode cX4_aged 0 = .ok (.aload_n 0, 1) := by decide +kernel
theorem dX4_aged_1 : decode cX4_aged 1 = .ok (.ldc 76, 2) := by decide +kernel
theorem dX4_aged_3 : decode cX4_aged 3 = .ok (.ldc 77, 2) := by decide +kernel
theorem dX4_aged_5 : decode cX4_aged 5 = .ok (.iload_n 1, 1) := by decide +kernel
theorem dX4_aged_6 : decode cX4_aged 6 = .ok (.invokevirtual 189, 3) := by decide +kernel
theorem dX4_apart_0 : decode cX4_apart 0 = .ok (.aload_n 0, 1) := by decide +kernel
theorem dX4_apart_1 : decode cX4_apart 1 = .ok (.getfield 12, 3) := by decide +kernel
theorem dX4_apart_11 : decode cX4_apart 11 = .ok (.ireturn, 1) := by decide +kernel
theorem dX4_apart_4 : decode cX4_apart 4 = .ok (.aload_n 0, 1) := by decide +kernel
theorem dX4_apart_5 : decode cX4_apart 5 = .ok (.getfield 32, 3) := by decide +kernel
theorem dX4_apart_8 : decode cX4_apart 8 = .ok (.invokevirtual 264, 3) := by decide +kernel
theorem dX4_areHalvesWhole_0 : decode cX4_areHalvesWhole 0 = .ok (.aload_n 0, 1) := by decide +kernel
theorem dX4_areHalvesWhole_1 : decode cX4_areHalvesWhole 1 = .ok (.getfield 12, 3) := by decide +kernel
theorem dX4_areHalvesWhole_10 : decode cX4_areHalvesWhole 10 = .ok (.iload_n 2, 1) := by decide +kernel
theorem dX4_areHalvesWhole_11 : decode cX4_areHalvesWhole 11 = .ok (.iload_n 1, 1) := by decide +kernel
theorem dX4_areHalvesWhole_12 : decode cX4_areHalvesWhole 12 = .ok (.if_icmp .ge 61, 3) := by decide +kernel
theorem dX4_areHalvesWhole_4 : decode cX4_areHalvesWhole 4 = .ok (.invokevirtual 95, 3) := by decide +kernel
theorem dX4_areHalvesWhole_7 : decode cX4_areHalvesWhole 7 = .ok (.istore_n 1, 1) := by decide +kernel
theorem dX4_areHalvesWhole_73 : decode cX4_areHalvesWhole 73 = .ok (.iconst 1, 1) := by decide +kernel
theorem dX4_areHalvesWhole_74 : decode cX4_areHalvesWhole 74 = .ok (.ireturn, 1) := by decide +kernel
theorem dX4_areHalvesWhole_8 : decode cX4_areHalvesWhole 8 = .ok (.iconst 0, 1) := by decide +kernel
theorem dX4_areHalvesWhole_9 : decode cX4_areHalvesWhole 9 = .ok (.istore_n 2, 1) := by decide +kernel
theorem dX4_areNeighboursRight_0 : decode cX4_areNeighboursRight 0 = .ok (.aload_n 0, 1) := by decide +kernel
theorem dX4_areNeighboursRight_1 : decode cX4_areNeighboursRight 1 = .ok (.getfield 12, 3) := by decide +kernel
theorem dX4_areNeighboursRight_10 : decode cX4_areNeighboursRight 10 = .ok (.iload_n 2, 1) := by decide +kernel
theorem dX4_areNeighboursRight_11 : decode cX4_areNeighboursRight 11 = .ok (.iload_n 1, 1) := by decide +kernel
theorem dX4_areNeighboursRight_12 : decode cX4_areNeighboursRight 12 = .ok (.if_icmp .ge 119, 3) := by decide +kernel
theorem dX4_areNeighboursRight_131 : decode cX4_areNeighboursRight 131 = .ok (.iconst 1, 1) := by decide +kernel
theorem dX4_areNeighboursRight_132 : decode cX4_areNeighboursRight 132 = .ok (.ireturn, 1) := by decide +kernel
theorem dX4_areNeighboursRight_4 : decode cX4_areNeighboursRight 4 = .ok (.invokevirtual 95, 3) := by decide +kernel
theorem dX4_areNeighboursRight_7 : decode cX4_areNeighboursRight 7 = .ok (.istore_n 1, 1) := by decide +kernel
theorem dX4_areNeighboursRight_8 : decode cX4_areNeighboursRight 8 = .ok (.iconst 0, 1) := by decide +kernel
theorem dX4_areNeighboursRight_9 : decode cX4_areNeighboursRight 9 = .ok (.istore_n 2, 1) := by decide +kernel
theorem dX4_areSequencesAlike_0 : decode cX4_areSequencesAlike 0 = .ok (.aload_n 0, 1) := by decide +kernel
theorem dX4_areSequencesAlike_1 : decode cX4_areSequencesAlike 1 = .ok (.getfield 12, 3) := by decide +kernel
theorem dX4_areSequencesAlike_12 : decode cX4_areSequencesAlike 12 = .ok (.invokevirtual 185, 3) := by decide +kernel
theorem dX4_areSequencesAlike_15 : decode cX4_areSequencesAlike 15 = .ok (.iload_n 1, 1) := by decide +kernel
theorem dX4_areSequencesAlike_16 : decode cX4_areSequencesAlike 16 = .ok (.if_icmp .eq 5, 3) := by decide +kernel
theorem dX4_areSequencesAlike_21 : decode cX4_areSequencesAlike 21 = .ok (.iconst 0, 1) := by decide +kernel
theorem dX4_areSequencesAlike_22 : decode cX4_areSequencesAlike 22 = .ok (.istore_n 2, 1) := by decide +kernel
theorem dX4_areSequencesAlike_23 : decode cX4_areSequencesAlike 23 = .ok (.iload_n 2, 1) := by decide +kernel
theorem dX4_areSequencesAlike_24 : decode cX4_areSequencesAlike 24 = .ok (.iload_n 1, 1) := by decide +kernel
theorem dX4_areSequencesAlike_25 : decode cX4_areSequencesAlike 25 = .ok (.if_icmp .ge 48, 3) := by decide +kernel
theorem dX4_areSequencesAlike_4 : decode cX4_areSequencesAlike 4 = .ok (.invokevirtual 95, 3) := by decide +kernel
theorem dX4_areSequencesAlike_7 : decode cX4_areSequencesAlike 7 = .ok (.istore_n 1, 1) := by decide +kernel
theorem dX4_areSequencesAlike_73 : decode cX4_areSequencesAlike 73 = .ok (.iconst 1, 1) := by decide +kernel
theorem dX4_areSequencesAlike_74 : decode cX4_areSequencesAlike 74 = .ok (.ireturn, 1) := by decide +kernel
theorem dX4_areSequencesAlike_8 : decode cX4_areSequencesAlike 8 = .ok (.aload_n 0, 1) := by decide +kernel
theorem dX4_areSequencesAlike_9 : decode cX4_areSequencesAlike 9 = .ok (.getfield 21, 3) := by decide +kernel
theorem dX4_assign_0 : decode cX4_assign 0 = .ok (.aload_n 0, 1) := by decide +kernel
theorem dX4_assign_1 : decode cX4_assign 1 = .ok (.getfield 12, 3) := by decide +kernel
theorem dX4_assign_10 : decode cX4_assign 10 = .ok (.iload_n 1, 1) := by decide +kernel
theorem dX4_assign_11 : decode cX4_assign 11 = .ok (.invokevirtual 85, 3) := by decide +kernel
theorem dX4_assign_14 : decode cX4_assign 14 = .ok (.return_, 1) := by decide +kernel
theorem dX4_assign_4 : decode cX4_assign 4 = .ok (.iload_n 1, 1) := by decide +kernel
theorem dX4_assign_5 : decode cX4_assign 5 = .ok (.iload_n 2, 1) := by decide +kernel
theorem dX4_assign_6 : decode cX4_assign 6 = .ok (.invokevirtual 343, 3) := by decide +kernel
theorem dX4_assign_9 : decode cX4_assign 9 = .ok (.aload_n 0, 1) := by decide +kernel
theorem dX4_back_0 : decode cX4_back 0 = .ok (.aload_n 0, 1) := by decide +kernel
theorem dX4_back_1 : decode cX4_back 1 = .ok (.getfield 46, 3) := by decide +kernel
theorem dX4_back_11 : decode cX4_back 11 = .ok (.invokevirtual 95, 3) := by decide +kernel
theorem dX4_back_14 : decode cX4_back 14 = .ok (.istore_n 1, 1) := by decide +kernel
theorem dX4_back_15 : decode cX4_back 15 = .ok (.iconst 0, 1) := by decide +kernel
theorem dX4_back_16 : decode cX4_back 16 = .ok (.istore_n 2, 1) := by decide +kernel
theorem dX4_back_17 : decode cX4_back 17 = .ok (.iload_n 2, 1) := by decide +kernel
theorem dX4_back_18 : decode cX4_back 18 = .ok (.iload_n 1, 1) := by decide +kernel
theorem dX4_back_19 : decode cX4_back 19 = .ok (.if_icmp .ge 42, 3) := by decide +kernel
theorem dX4_back_4 : decode cX4_back 4 = .ok (.invokevirtual 119, 3) := by decide +kernel
theorem dX4_back_61 : decode cX4_back 61 = .ok (.aload_n 0, 1) := by decide +kernel
theorem dX4_back_62 : decode cX4_back 62 = .ok (.invokevirtual 177, 3) := by decide +kernel
theorem dX4_back_65 : decode cX4_back 65 = .ok (.aload_n 0, 1) := by decide +kernel
theorem dX4_back_66 : decode cX4_back 66 = .ok (.invokevirtual 267, 3) := by decide +kernel
theorem dX4_back_69 : decode cX4_back 69 = .ok (.iadd, 1) := by decide +kernel
theorem dX4_back_7 : decode cX4_back 7 = .ok (.aload_n 0, 1) := by decide +kernel
theorem dX4_back_70 : decode cX4_back 70 = .ok (.istore_n 2, 1) := by decide +kernel
theorem dX4_back_71 : decode cX4_back 71 = .ok (.aload_n 0, 1) := by decide +kernel
theorem dX4_back_72 : decode cX4_back 72 = .ok (.getfield 28, 3) := by decide +kernel
theorem dX4_back_75 : decode cX4_back 75 = .ok (.invokevirtual 66, 3) := by decide +kernel
theorem dX4_back_78 : decode cX4_back 78 = .ok (.iload_n 2, 1) := by decide +kernel
theorem dX4_back_79 : decode cX4_back 79 = .ok (.ireturn, 1) := by decide +kernel
theorem dX4_back_8 : decode cX4_back 8 = .ok (.getfield 12, 3) := by decide +kernel
theorem dX4_checkHow_0 : decode cX4_checkHow 0 = .ok (.iload_n 0, 1) := by decide +kernel
theorem dX4_checkHow_1 : decode cX4_checkHow 1 = .ok (.ifCond .lt 8, 3) := by decide +kernel
theorem dX4_checkHow_12 : decode cX4_checkHow 12 = .ok (.dup, 1) := by decide +kernel
theorem dX4_checkHow_13 : decode cX4_checkHow 13 = .ok (.ldc_w 325, 3) := by decide +kernel
theorem dX4_checkHow_16 : decode cX4_checkHow 16 = .ok (.invokespecial 203, 3) := by decide +kernel
theorem dX4_checkHow_19 : decode cX4_checkHow 19 = .ok (.athrow, 1) := by decide +kernel
theorem dX4_checkHow_20 : decode cX4_checkHow 20 = .ok (.return_, 1) := by decide +kernel
theorem dX4_checkHow_4 : decode cX4_checkHow 4 = .ok (.iload_n 0, 1) := by decide +kernel
theorem dX4_checkHow_5 : decode cX4_checkHow 5 = .ok (.iconst 3, 1) := by decide +kernel
theorem dX4_checkHow_6 : decode cX4_checkHow 6 = .ok (.if_icmp .le 14, 3) := by decide +kernel
theorem dX4_checkHow_9 : decode cX4_checkHow 9 = .ok (.new 199, 3) := by decide +kernel
theorem dX4_checkRange_0 : decode cX4_checkRange 0 = .ok (.iload_n 0, 1) := by decide +kernel
theorem dX4_checkRange_1 : decode cX4_checkRange 1 = .ok (.iload_n 1, 1) := by decide +kernel
theorem dX4_checkRange_12 : decode cX4_checkRange 12 = .ok (.invokespecial 203, 3) := by decide +kernel
theorem dX4_checkRange_15 : decode cX4_checkRange 15 = .ok (.athrow, 1) := by decide +kernel
theorem dX4_checkRange_16 : decode cX4_checkRange 16 = .ok (.return_, 1) := by decide +kernel
theorem dX4_checkRange_2 : decode cX4_checkRange 2 = .ok (.if_icmp .le 14, 3) := by decide +kernel
theorem dX4_checkRange_5 : decode cX4_checkRange 5 = .ok (.new 199, 3) := by decide +kernel
theorem dX4_checkRange_8 : decode cX4_checkRange 8 = .ok (.dup, 1) := by decide +kernel
theorem dX4_checkRange_9 : decode cX4_checkRange 9 = .ok (.ldc_w 327, 3) := by decide +kernel
theorem dX4_checkRoomFor_0 : decode cX4_checkRoomFor 0 = .ok (.aload_n 0, 1) := by decide +kernel
theorem dX4_checkRoomFor_1 : decode cX4_checkRoomFor 1 = .ok (.getfield 12, 3) := by decide +kernel
theorem dX4_checkRoomFor_34 : decode cX4_checkRoomFor 34 = .ok (.return_, 1) := by decide +kernel
theorem dX4_checkRoomFor_4 : decode cX4_checkRoomFor 4 = .ok (.invokevirtual 95, 3) := by decide +kernel
theorem dX4_checkRoomFor_7 : decode cX4_checkRoomFor 7 = .ok (.bipush 24, 2) := by decide +kernel
theorem dX4_checkRoomFor_9 : decode cX4_checkRoomFor 9 = .ok (.if_icmp .lt 25, 3) := by decide +kernel
theorem dX4_checkValue_0 : decode cX4_checkValue 0 = .ok (.iload_n 0, 1) := by decide +kernel
theorem dX4_checkValue_1 : decode cX4_checkValue 1 = .ok (.sipush (-999), 3) := by decide +kernel
theorem dX4_checkValue_11 : decode cX4_checkValue 11 = .ok (.if_icmp .le 14, 3) := by decide +kernel
theorem dX4_checkValue_14 : decode cX4_checkValue 14 = .ok (.new 199, 3) := by decide +kernel
theorem dX4_checkValue_17 : decode cX4_checkValue 17 = .ok (.dup, 1) := by decide +kernel
theorem dX4_checkValue_18 : decode cX4_checkValue 18 = .ok (.ldc_w 321, 3) := by decide +kernel
theorem dX4_checkValue_21 : decode cX4_checkValue 21 = .ok (.invokespecial 203, 3) := by decide +kernel
theorem dX4_checkValue_24 : decode cX4_checkValue 24 = .ok (.athrow, 1) := by decide +kernel
theorem dX4_checkValue_25 : decode cX4_checkValue 25 = .ok (.return_, 1) := by decide +kernel
theorem dX4_checkValue_4 : decode cX4_checkValue 4 = .ok (.if_icmp .lt 10, 3) := by decide +kernel
theorem dX4_checkValue_7 : decode cX4_checkValue 7 = .ok (.iload_n 0, 1) := by decide +kernel
theorem dX4_checkValue_8 : decode cX4_checkValue 8 = .ok (.sipush 999, 3) := by decide +kernel
theorem dX4_chooseByUse_0 : decode cX4_chooseByUse 0 = .ok (.aload_n 0, 1) := by decide +kernel
theorem dX4_chooseByUse_1 : decode cX4_chooseByUse 1 = .ok (.getfield 46, 3) := by decide +kernel
theorem dX4_chooseByUse_11 : decode cX4_chooseByUse 11 = .ok (.invokevirtual 185, 3) := by decide +kernel
theorem dX4_chooseByUse_14 : decode cX4_chooseByUse 14 = .ok (.istore_n 3, 1) := by decide +kernel
theorem dX4_chooseByUse_15 : decode cX4_chooseByUse 15 = .ok (.iconst 0, 1) := by decide +kernel
theorem dX4_chooseByUse_16 : decode cX4_chooseByUse 16 = .ok (.istore 4, 2) := by decide +kernel
theorem dX4_chooseByUse_18 : decode cX4_chooseByUse 18 = .ok (.iload 4, 2) := by decide +kernel
theorem dX4_chooseByUse_20 : decode cX4_chooseByUse 20 = .ok (.iload_n 3, 1) := by decide +kernel
theorem dX4_chooseByUse_21 : decode cX4_chooseByUse 21 = .ok (.if_icmp .ge 42, 3) := by decide +kernel
theorem dX4_chooseByUse_4 : decode cX4_chooseByUse 4 = .ok (.invokevirtual 119, 3) := by decide +kernel
theorem dX4_chooseByUse_63 : decode cX4_chooseByUse 63 = .ok (.return_, 1) := by decide +kernel
theorem dX4_chooseByUse_7 : decode cX4_chooseByUse 7 = .ok (.aload_n 0, 1) := by decide +kernel
theorem dX4_chooseByUse_8 : decode cX4_chooseByUse 8 = .ok (.getfield 21, 3) := by decide +kernel
theorem dX4_clear_0 : decode cX4_clear 0 = .ok (.aload_n 0, 1) := by decide +kernel
theorem dX4_clear_1 : decode cX4_clear 1 = .ok (.ldc 76, 2) := by decide +kernel
theorem dX4_clear_3 : decode cX4_clear 3 = .ok (.ldc 77, 2) := by decide +kernel
theorem dX4_clear_5 : decode cX4_clear 5 = .ok (.invokevirtual 78, 3) := by decide +kernel
theorem dX4_clear_8 : decode cX4_clear 8 = .ok (.ireturn, 1) := by decide +kernel
theorem dX4_copy_0 : decode cX4_copy 0 = .ok (.aload_n 0, 1) := by decide +kernel
theorem dX4_copy_1 : decode cX4_copy 1 = .ok (.getfield 32, 3) := by decide +kernel
theorem dX4_copy_11 : decode cX4_copy 11 = .ok (.aload_n 0, 1) := by decide +kernel
theorem dX4_copy_12 : decode cX4_copy 12 = .ok (.getfield 32, 3) := by decide +kernel
theorem dX4_copy_15 : decode cX4_copy 15 = .ok (.invokevirtual 95, 3) := by decide +kernel
theorem dX4_copy_18 : decode cX4_copy 18 = .ok (.ireturn, 1) := by decide +kernel
theorem dX4_copy_4 : decode cX4_copy 4 = .ok (.aload_n 0, 1) := by decide +kernel
theorem dX4_copy_5 : decode cX4_copy 5 = .ok (.getfield 12, 3) := by decide +kernel
theorem dX4_copy_8 : decode cX4_copy 8 = .ok (.invokevirtual 257, 3) := by decide +kernel
theorem dX4_digest_0 : decode cX4_digest 0 = .ok (.ldc2_w 291, 3) := by decide +kernel
theorem dX4_digest_11 : decode cX4_digest 11 = .ok (.lload_n 1, 1) := by decide +kernel
theorem dX4_digest_12 : decode cX4_digest 12 = .ok (.aload_n 0, 1) := by decide +kernel
theorem dX4_digest_13 : decode cX4_digest 13 = .ok (.iload_n 3, 1) := by decide +kernel
theorem dX4_digest_14 : decode cX4_digest 14 = .ok (.invokevirtual 293, 3) := by decide +kernel
theorem dX4_digest_17 : decode cX4_digest 17 = .ok (.i2l, 1) := by decide +kernel
theorem dX4_digest_18 : decode cX4_digest 18 = .ok (.invokestatic 296, 3) := by decide +kernel
theorem dX4_digest_21 : decode cX4_digest 21 = .ok (.lstore_n 1, 1) := by decide +kernel
theorem dX4_digest_22 : decode cX4_digest 22 = .ok (.iinc 3 1, 3) := by decide +kernel
theorem dX4_digest_25 : decode cX4_digest 25 = .ok (.goto (-19), 3) := by decide +kernel
theorem dX4_digest_28 : decode cX4_digest 28 = .ok (.aload_n 0, 1) := by decide +kernel
theorem dX4_digest_29 : decode cX4_digest 29 = .ok (.lload_n 1, 1) := by decide +kernel
theorem dX4_digest_3 : decode cX4_digest 3 = .ok (.lstore_n 1, 1) := by decide +kernel
theorem dX4_digest_30 : decode cX4_digest 30 = .ok (.invokevirtual 300, 3) := by decide +kernel
theorem dX4_digest_33 : decode cX4_digest 33 = .ok (.lstore_n 1, 1) := by decide +kernel
theorem dX4_digest_34 : decode cX4_digest 34 = .ok (.aload_n 0, 1) := by decide +kernel
theorem dX4_digest_35 : decode cX4_digest 35 = .ok (.lload_n 1, 1) := by decide +kernel
theorem dX4_digest_36 : decode cX4_digest 36 = .ok (.invokevirtual 304, 3) := by decide +kernel
theorem dX4_digest_39 : decode cX4_digest 39 = .ok (.lstore_n 1, 1) := by decide +kernel
theorem dX4_digest_4 : decode cX4_digest 4 = .ok (.iconst 0, 1) := by decide +kernel
theorem dX4_digest_40 : decode cX4_digest 40 = .ok (.lload_n 1, 1) := by decide +kernel
theorem dX4_digest_41 : decode cX4_digest 41 = .ok (.aload_n 0, 1) := by decide +kernel
theorem dX4_digest_42 : decode cX4_digest 42 = .ok (.invokevirtual 307, 3) := by decide +kernel
theorem dX4_digest_45 : decode cX4_digest 45 = .ok (.i2l, 1) := by decide +kernel
theorem dX4_digest_46 : decode cX4_digest 46 = .ok (.invokestatic 296, 3) := by decide +kernel
theorem dX4_digest_49 : decode cX4_digest 49 = .ok (.lstore_n 1, 1) := by decide +kernel
theorem dX4_digest_5 : decode cX4_digest 5 = .ok (.istore_n 3, 1) := by decide +kernel
theorem dX4_digest_50 : decode cX4_digest 50 = .ok (.lload_n 1, 1) := by decide +kernel
theorem dX4_digest_51 : decode cX4_digest 51 = .ok (.aload_n 0, 1) := by decide +kernel
theorem dX4_digest_52 : decode cX4_digest 52 = .ok (.invokevirtual 310, 3) := by decide +kernel
theorem dX4_digest_55 : decode cX4_digest 55 = .ok (.invokevirtual 313, 3) := by decide +kernel
theorem dX4_digest_58 : decode cX4_digest 58 = .ok (.i2l, 1) := by decide +kernel
theorem dX4_digest_59 : decode cX4_digest 59 = .ok (.invokestatic 296, 3) := by decide +kernel
theorem dX4_digest_6 : decode cX4_digest 6 = .ok (.iload_n 3, 1) := by decide +kernel
theorem dX4_digest_62 : decode cX4_digest 62 = .ok (.lstore_n 1, 1) := by decide +kernel
theorem dX4_digest_63 : decode cX4_digest 63 = .ok (.lload_n 1, 1) := by decide +kernel
theorem dX4_digest_64 : decode cX4_digest 64 = .ok (.aload_n 0, 1) := by decide +kernel
theorem dX4_digest_65 : decode cX4_digest 65 = .ok (.invokevirtual 261, 3) := by decide +kernel
theorem dX4_digest_68 : decode cX4_digest 68 = .ok (.i2l, 1) := by decide +kernel
theorem dX4_digest_69 : decode cX4_digest 69 = .ok (.invokestatic 296, 3) := by decide +kernel
theorem dX4_digest_7 : decode cX4_digest 7 = .ok (.iconst 4, 1) := by decide +kernel
theorem dX4_digest_72 : decode cX4_digest 72 = .ok (.lstore_n 1, 1) := by decide +kernel
theorem dX4_digest_73 : decode cX4_digest 73 = .ok (.lload_n 1, 1) := by decide +kernel
theorem dX4_digest_74 : decode cX4_digest 74 = .ok (.aload_n 0, 1) := by decide +kernel
theorem dX4_digest_75 : decode cX4_digest 75 = .ok (.invokevirtual 318, 3) := by decide +kernel
theorem dX4_digest_78 : decode cX4_digest 78 = .ok (.ifCond .eq 7, 3) := by decide +kernel
theorem dX4_digest_8 : decode cX4_digest 8 = .ok (.if_icmp .gt 20, 3) := by decide +kernel
theorem dX4_digest_81 : decode cX4_digest 81 = .ok (.lconst 1, 1) := by decide +kernel
theorem dX4_digest_82 : decode cX4_digest 82 = .ok (.goto 4, 3) := by decide +kernel
theorem dX4_digest_86 : decode cX4_digest 86 = .ok (.invokestatic 296, 3) := by decide +kernel
theorem dX4_digest_89 : decode cX4_digest 89 = .ok (.lreturn, 1) := by decide +kernel
theorem dX4_dropAged_0 : decode cX4_dropAged 0 = .ok (.aload_n 0, 1) := by decide +kernel
theorem dX4_dropAged_1 : decode cX4_dropAged 1 = .ok (.iconst 0, 1) := by decide +kernel
theorem dX4_dropAged_2 : decode cX4_dropAged 2 = .ok (.invokevirtual 195, 3) := by decide +kernel
theorem dX4_dropChosen_0 : decode cX4_dropChosen 0 = .ok (.aload_n 0, 1) := by decide +kernel
theorem dX4_dropChosen_1 : decode cX4_dropChosen 1 = .ok (.getfield 46, 3) := by decide +kernel
theorem dX4_dropChosen_10 : decode cX4_dropChosen 10 = .ok (.iload_n 2, 1) := by decide +kernel
theorem dX4_dropChosen_11 : decode cX4_dropChosen 11 = .ok (.iload_n 1, 1) := by decide +kernel
theorem dX4_dropChosen_12 : decode cX4_dropChosen 12 = .ok (.if_icmp .ge 21, 3) := by decide +kernel
theorem dX4_dropChosen_33 : decode cX4_dropChosen 33 = .ok (.iload_n 1, 1) := by decide +kernel
theorem dX4_dropChosen_34 : decode cX4_dropChosen 34 = .ok (.ireturn, 1) := by decide +kernel
theorem dX4_dropChosen_4 : decode cX4_dropChosen 4 = .ok (.invokevirtual 185, 3) := by decide +kernel
theorem dX4_dropChosen_7 : decode cX4_dropChosen 7 = .ok (.istore_n 1, 1) := by decide +kernel
theorem dX4_dropChosen_8 : decode cX4_dropChosen 8 = .ok (.iconst 0, 1) := by decide +kernel
theorem dX4_dropChosen_9 : decode cX4_dropChosen 9 = .ok (.istore_n 2, 1) := by decide +kernel
theorem dX4_first_0 : decode cX4_first 0 = .ok (.aload_n 0, 1) := by decide +kernel
theorem dX4_first_1 : decode cX4_first 1 = .ok (.ldc 76, 2) := by decide +kernel
theorem dX4_first_3 : decode cX4_first 3 = .ok (.ldc 77, 2) := by decide +kernel
theorem dX4_first_5 : decode cX4_first 5 = .ok (.iload_n 1, 1) := by decide +kernel
theorem dX4_first_6 : decode cX4_first 6 = .ok (.invokevirtual 99, 3) := by decide +kernel
theorem dX4_forget_0 : decode cX4_forget 0 = .ok (.aload_n 0, 1) := by decide +kernel
theorem dX4_forget_1 : decode cX4_forget 1 = .ok (.getfield 28, 3) := by decide +kernel
theorem dX4_forget_12 : decode cX4_forget 12 = .ok (.invokevirtual 256, 3) := by decide +kernel
theorem dX4_forget_15 : decode cX4_forget 15 = .ok (.iload_n 1, 1) := by decide +kernel
theorem dX4_forget_16 : decode cX4_forget 16 = .ok (.ireturn, 1) := by decide +kernel
theorem dX4_forget_4 : decode cX4_forget 4 = .ok (.invokevirtual 237, 3) := by decide +kernel
theorem dX4_forget_7 : decode cX4_forget 7 = .ok (.istore_n 1, 1) := by decide +kernel
theorem dX4_forget_8 : decode cX4_forget 8 = .ok (.aload_n 0, 1) := by decide +kernel
theorem dX4_forget_9 : decode cX4_forget 9 = .ok (.getfield 28, 3) := by decide +kernel
theorem dX4_getOr_0 : decode cX4_getOr 0 = .ok (.aload_n 0, 1) := by decide +kernel
theorem dX4_getOr_1 : decode cX4_getOr 1 = .ok (.getfield 12, 3) := by decide +kernel
theorem dX4_getOr_10 : decode cX4_getOr 10 = .ok (.sipush (-1000), 3) := by decide +kernel
theorem dX4_getOr_13 : decode cX4_getOr 13 = .ok (.if_icmp .ne 5, 3) := by decide +kernel
theorem dX4_getOr_16 : decode cX4_getOr 16 = .ok (.iload_n 2, 1) := by decide +kernel
theorem dX4_getOr_17 : decode cX4_getOr 17 = .ok (.ireturn, 1) := by decide +kernel
theorem dX4_getOr_4 : decode cX4_getOr 4 = .ok (.iload_n 1, 1) := by decide +kernel
theorem dX4_getOr_5 : decode cX4_getOr 5 = .ok (.invokevirtual 58, 3) := by decide +kernel
theorem dX4_getOr_8 : decode cX4_getOr 8 = .ok (.istore_n 3, 1) := by decide +kernel
theorem dX4_getOr_9 : decode cX4_getOr 9 = .ok (.iload_n 3, 1) := by decide +kernel
theorem dX4_get_0 : decode cX4_get 0 = .ok (.aload_n 0, 1) := by decide +kernel
theorem dX4_get_1 : decode cX4_get 1 = .ok (.iload_n 1, 1) := by decide +kernel
theorem dX4_get_2 : decode cX4_get 2 = .ok (.sipush (-1000), 3) := by decide +kernel
theorem dX4_get_5 : decode cX4_get 5 = .ok (.invokevirtual 82, 3) := by decide +kernel
theorem dX4_get_8 : decode cX4_get 8 = .ok (.ireturn, 1) := by decide +kernel
theorem dX4_hasValue_0 : decode cX4_hasValue 0 = .ok (.aload_n 0, 1) := by decide +kernel
theorem dX4_hasValue_1 : decode cX4_hasValue 1 = .ok (.getfield 12, 3) := by decide +kernel
theorem dX4_hasValue_4 : decode cX4_hasValue 4 = .ok (.iload_n 1, 1) := by decide +kernel
theorem dX4_hasValue_5 : decode cX4_hasValue 5 = .ok (.invokevirtual 92, 3) := by decide +kernel
theorem dX4_hasValue_8 : decode cX4_hasValue 8 = .ok (.ireturn, 1) := by decide +kernel
theorem dX4_has_0 : decode cX4_has 0 = .ok (.aload_n 0, 1) := by decide +kernel
theorem dX4_has_1 : decode cX4_has 1 = .ok (.getfield 12, 3) := by decide +kernel
theorem dX4_has_4 : decode cX4_has 4 = .ok (.iload_n 1, 1) := by decide +kernel
theorem dX4_has_5 : decode cX4_has 5 = .ok (.invokevirtual 88, 3) := by decide +kernel
theorem dX4_has_8 : decode cX4_has 8 = .ok (.ireturn, 1) := by decide +kernel
theorem dX4_hash_0 : decode cX4_hash 0 = .ok (.aload_n 0, 1) := by decide +kernel
theorem dX4_hash_1 : decode cX4_hash 1 = .ok (.getfield 12, 3) := by decide +kernel
theorem dX4_hash_4 : decode cX4_hash 4 = .ok (.invokevirtual 148, 3) := by decide +kernel
theorem dX4_hash_7 : decode cX4_hash 7 = .ok (.ireturn, 1) := by decide +kernel
theorem dX4_house_0 : decode cX4_house 0 = .ok (.iload_n 1, 1) := by decide +kernel
theorem dX4_house_1 : decode cX4_house 1 = .ok (.tableswitch 69 0 4 #[35, 43, 51, 59, 64], 35) := by decide +kernel
theorem dX4_house_36 : decode cX4_house 36 = .ok (.aload_n 0, 1) := by decide +kernel
theorem dX4_house_37 : decode cX4_house 37 = .ok (.getfield 12, 3) := by decide +kernel
theorem dX4_house_40 : decode cX4_house 40 = .ok (.invokevirtual 95, 3) := by decide +kernel
theorem dX4_house_43 : decode cX4_house 43 = .ok (.ireturn, 1) := by decide +kernel
theorem dX4_house_44 : decode cX4_house 44 = .ok (.aload_n 0, 1) := by decide +kernel
theorem dX4_house_45 : decode cX4_house 45 = .ok (.getfield 28, 3) := by decide +kernel
theorem dX4_house_48 : decode cX4_house 48 = .ok (.invokevirtual 237, 3) := by decide +kernel
theorem dX4_house_51 : decode cX4_house 51 = .ok (.ireturn, 1) := by decide +kernel
theorem dX4_house_52 : decode cX4_house 52 = .ok (.aload_n 0, 1) := by decide +kernel
theorem dX4_house_53 : decode cX4_house 53 = .ok (.getfield 32, 3) := by decide +kernel
theorem dX4_house_56 : decode cX4_house 56 = .ok (.invokevirtual 95, 3) := by decide +kernel
theorem dX4_house_59 : decode cX4_house 59 = .ok (.ireturn, 1) := by decide +kernel
theorem dX4_house_60 : decode cX4_house 60 = .ok (.aload_n 0, 1) := by decide +kernel
theorem dX4_house_61 : decode cX4_house 61 = .ok (.invokevirtual 270, 3) := by decide +kernel
theorem dX4_house_64 : decode cX4_house 64 = .ok (.ireturn, 1) := by decide +kernel
theorem dX4_house_65 : decode cX4_house 65 = .ok (.aload_n 0, 1) := by decide +kernel
theorem dX4_house_66 : decode cX4_house 66 = .ok (.getfield 42, 3) := by decide +kernel
theorem dX4_house_69 : decode cX4_house 69 = .ok (.ireturn, 1) := by decide +kernel
theorem dX4_house_70 : decode cX4_house 70 = .ok (.new 199, 3) := by decide +kernel
theorem dX4_house_73 : decode cX4_house 73 = .ok (.dup, 1) := by decide +kernel
theorem dX4_house_74 : decode cX4_house 74 = .ok (.ldc_w 273, 3) := by decide +kernel
theorem dX4_house_77 : decode cX4_house 77 = .ok (.invokespecial 203, 3) := by decide +kernel
theorem dX4_house_80 : decode cX4_house 80 = .ok (.athrow, 1) := by decide +kernel
theorem dX4_inRange_0 : decode cX4_inRange 0 = .ok (.iload_n 1, 1) := by decide +kernel
theorem dX4_inRange_1 : decode cX4_inRange 1 = .ok (.iload_n 2, 1) := by decide +kernel
theorem dX4_inRange_11 : decode cX4_inRange 11 = .ok (.aload_n 0, 1) := by decide +kernel
theorem dX4_inRange_12 : decode cX4_inRange 12 = .ok (.getfield 12, 3) := by decide +kernel
theorem dX4_inRange_15 : decode cX4_inRange 15 = .ok (.iload_n 1, 1) := by decide +kernel
theorem dX4_inRange_16 : decode cX4_inRange 16 = .ok (.iload_n 2, 1) := by decide +kernel
theorem dX4_inRange_17 : decode cX4_inRange 17 = .ok (.invokevirtual 151, 3) := by decide +kernel
theorem dX4_inRange_2 : decode cX4_inRange 2 = .ok (.if_icmp .le 9, 3) := by decide +kernel
theorem dX4_inRange_20 : decode cX4_inRange 20 = .ok (.ireturn, 1) := by decide +kernel
theorem dX4_inRange_5 : decode cX4_inRange 5 = .ok (.sipush (-9999), 3) := by decide +kernel
theorem dX4_inRange_8 : decode cX4_inRange 8 = .ok (.goto 12, 3) := by decide +kernel
theorem dX4_init_0 : decode cX4_init 0 = .ok (.aload_n 0, 1) := by decide +kernel
theorem dX4_init_1 : decode cX4_init 1 = .ok (.invokespecial 3, 3) := by decide +kernel
theorem dX4_init_102 : decode cX4_init 102 = .ok (.aload_n 0, 1) := by decide +kernel
theorem dX4_init_103 : decode cX4_init 103 = .ok (.new 9, 3) := by decide +kernel
theorem dX4_init_106 : decode cX4_init 106 = .ok (.dup, 1) := by decide +kernel
theorem dX4_init_107 : decode cX4_init 107 = .ok (.invokespecial 11, 3) := by decide +kernel
theorem dX4_init_110 : decode cX4_init 110 = .ok (.putfield 49, 3) := by decide +kernel
theorem dX4_init_113 : decode cX4_init 113 = .ok (.return_, 1) := by decide +kernel
theorem dX4_init_12 : decode cX4_init 12 = .ok (.putfield 12, 3) := by decide +kernel
theorem dX4_init_15 : decode cX4_init 15 = .ok (.aload_n 0, 1) := by decide +kernel
theorem dX4_init_16 : decode cX4_init 16 = .ok (.new 16, 3) := by decide +kernel
theorem dX4_init_19 : decode cX4_init 19 = .ok (.dup, 1) := by decide +kernel
theorem dX4_init_20 : decode cX4_init 20 = .ok (.bipush 24, 2) := by decide +kernel
theorem dX4_init_22 : decode cX4_init 22 = .ok (.invokespecial 18, 3) := by decide +kernel
theorem dX4_init_25 : decode cX4_init 25 = .ok (.putfield 21, 3) := by decide +kernel
theorem dX4_init_28 : decode cX4_init 28 = .ok (.aload_n 0, 1) := by decide +kernel
theorem dX4_init_29 : decode cX4_init 29 = .ok (.new 25, 3) := by decide +kernel
theorem dX4_init_32 : decode cX4_init 32 = .ok (.dup, 1) := by decide +kernel
theorem dX4_init_33 : decode cX4_init 33 = .ok (.invokespecial 27, 3) := by decide +kernel
theorem dX4_init_36 : decode cX4_init 36 = .ok (.putfield 28, 3) := by decide +kernel
theorem dX4_init_39 : decode cX4_init 39 = .ok (.aload_n 0, 1) := by decide +kernel
theorem dX4_init_4 : decode cX4_init 4 = .ok (.aload_n 0, 1) := by decide +kernel
theorem dX4_init_40 : decode cX4_init 40 = .ok (.new 9, 3) := by decide +kernel
theorem dX4_init_43 : decode cX4_init 43 = .ok (.dup, 1) := by decide +kernel
theorem dX4_init_44 : decode cX4_init 44 = .ok (.invokespecial 11, 3) := by decide +kernel
theorem dX4_init_47 : decode cX4_init 47 = .ok (.putfield 32, 3) := by decide +kernel
theorem dX4_init_5 : decode cX4_init 5 = .ok (.new 9, 3) := by decide +kernel
theorem dX4_init_50 : decode cX4_init 50 = .ok (.aload_n 0, 1) := by decide +kernel
theorem dX4_init_51 : decode cX4_init 51 = .ok (.iconst 3, 1) := by decide +kernel
theorem dX4_init_52 : decode cX4_init 52 = .ok (.anewarray 35, 3) := by decide +kernel
theorem dX4_init_55 : decode cX4_init 55 = .ok (.putfield 37, 3) := by decide +kernel
theorem dX4_init_58 : decode cX4_init 58 = .ok (.iconst 0, 1) := by decide +kernel
theorem dX4_init_59 : decode cX4_init 59 = .ok (.istore_n 1, 1) := by decide +kernel
theorem dX4_init_60 : decode cX4_init 60 = .ok (.iload_n 1, 1) := by decide +kernel
theorem dX4_init_61 : decode cX4_init 61 = .ok (.iconst 3, 1) := by decide +kernel
theorem dX4_init_62 : decode cX4_init 62 = .ok (.if_icmp .ge 22, 3) := by decide +kernel
theorem dX4_init_65 : decode cX4_init 65 = .ok (.aload_n 0, 1) := by decide +kernel
theorem dX4_init_66 : decode cX4_init 66 = .ok (.getfield 37, 3) := by decide +kernel
theorem dX4_init_69 : decode cX4_init 69 = .ok (.iload_n 1, 1) := by decide +kernel
theorem dX4_init_70 : decode cX4_init 70 = .ok (.new 35, 3) := by decide +kernel
theorem dX4_init_73 : decode cX4_init 73 = .ok (.dup, 1) := by decide +kernel
theorem dX4_init_74 : decode cX4_init 74 = .ok (.invokespecial 41, 3) := by decide +kernel
theorem dX4_init_77 : decode cX4_init 77 = .ok (.aastore, 1) := by decide +kernel
theorem dX4_init_78 : decode cX4_init 78 = .ok (.iinc 1 1, 3) := by decide +kernel
theorem dX4_init_8 : decode cX4_init 8 = .ok (.dup, 1) := by decide +kernel
theorem dX4_init_81 : decode cX4_init 81 = .ok (.goto (-21), 3) := by decide +kernel
theorem dX4_init_84 : decode cX4_init 84 = .ok (.aload_n 0, 1) := by decide +kernel
theorem dX4_init_85 : decode cX4_init 85 = .ok (.iconst 0, 1) := by decide +kernel
theorem dX4_init_86 : decode cX4_init 86 = .ok (.putfield 42, 3) := by decide +kernel
theorem dX4_init_89 : decode cX4_init 89 = .ok (.aload_n 0, 1) := by decide +kernel
theorem dX4_init_9 : decode cX4_init 9 = .ok (.invokespecial 11, 3) := by decide +kernel
theorem dX4_init_90 : decode cX4_init 90 = .ok (.new 16, 3) := by decide +kernel
theorem dX4_init_93 : decode cX4_init 93 = .ok (.dup, 1) := by decide +kernel
theorem dX4_init_94 : decode cX4_init 94 = .ok (.bipush 24, 2) := by decide +kernel
theorem dX4_init_96 : decode cX4_init 96 = .ok (.invokespecial 18, 3) := by decide +kernel
theorem dX4_init_99 : decode cX4_init 99 = .ok (.putfield 46, 3) := by decide +kernel
theorem dX4_isBetween_0 : decode cX4_isBetween 0 = .ok (.iload_n 0, 1) := by decide +kernel
theorem dX4_isBetween_1 : decode cX4_isBetween 1 = .ok (.iload_n 2, 1) := by decide +kernel
theorem dX4_isBetween_10 : decode cX4_isBetween 10 = .ok (.iconst 1, 1) := by decide +kernel
theorem dX4_isBetween_11 : decode cX4_isBetween 11 = .ok (.goto 4, 3) := by decide +kernel
theorem dX4_isBetween_14 : decode cX4_isBetween 14 = .ok (.iconst 0, 1) := by decide +kernel
theorem dX4_isBetween_15 : decode cX4_isBetween 15 = .ok (.ireturn, 1) := by decide +kernel
theorem dX4_isBetween_2 : decode cX4_isBetween 2 = .ok (.if_icmp .gt 12, 3) := by decide +kernel
theorem dX4_isBetween_5 : decode cX4_isBetween 5 = .ok (.iload_n 2, 1) := by decide +kernel
theorem dX4_isBetween_6 : decode cX4_isBetween 6 = .ok (.iload_n 1, 1) := by decide +kernel
theorem dX4_isBetween_7 : decode cX4_isBetween 7 = .ok (.if_icmp .gt 7, 3) := by decide +kernel
theorem dX4_isCopy_0 : decode cX4_isCopy 0 = .ok (.aload_n 0, 1) := by decide +kernel
theorem dX4_isCopy_1 : decode cX4_isCopy 1 = .ok (.invokevirtual 261, 3) := by decide +kernel
theorem dX4_isCopy_12 : decode cX4_isCopy 12 = .ok (.ireturn, 1) := by decide +kernel
theorem dX4_isCopy_4 : decode cX4_isCopy 4 = .ok (.ifCond .ne 7, 3) := by decide +kernel
theorem dX4_isCopy_7 : decode cX4_isCopy 7 = .ok (.iconst 1, 1) := by decide +kernel
theorem dX4_isCopy_8 : decode cX4_isCopy 8 = .ok (.goto 4, 3) := by decide +kernel
theorem dX4_isFreshCopyAlike_0 : decode cX4_isFreshCopyAlike 0 = .ok (.aload_n 0, 1) := by decide +kernel
theorem dX4_isFreshCopyAlike_1 : decode cX4_isFreshCopyAlike 1 = .ok (.getfield 49, 3) := by decide +kernel
theorem dX4_isFreshCopyAlike_11 : decode cX4_isFreshCopyAlike 11 = .ok (.aload_n 0, 1) := by decide +kernel
theorem dX4_isFreshCopyAlike_12 : decode cX4_isFreshCopyAlike 12 = .ok (.getfield 49, 3) := by decide +kernel
theorem dX4_isFreshCopyAlike_15 : decode cX4_isFreshCopyAlike 15 = .ok (.aload_n 0, 1) := by decide +kernel
theorem dX4_isFreshCopyAlike_16 : decode cX4_isFreshCopyAlike 16 = .ok (.getfield 12, 3) := by decide +kernel
theorem dX4_isFreshCopyAlike_19 : decode cX4_isFreshCopyAlike 19 = .ok (.invokevirtual 264, 3) := by decide +kernel
theorem dX4_isFreshCopyAlike_22 : decode cX4_isFreshCopyAlike 22 = .ok (.ifCond .ne 38, 3) := by decide +kernel
theorem dX4_isFreshCopyAlike_25 : decode cX4_isFreshCopyAlike 25 = .ok (.aload_n 0, 1) := by decide +kernel
theorem dX4_isFreshCopyAlike_26 : decode cX4_isFreshCopyAlike 26 = .ok (.getfield 49, 3) := by decide +kernel
theorem dX4_isFreshCopyAlike_29 : decode cX4_isFreshCopyAlike 29 = .ok (.invokevirtual 148, 3) := by decide +kernel
theorem dX4_isFreshCopyAlike_32 : decode cX4_isFreshCopyAlike 32 = .ok (.aload_n 0, 1) := by decide +kernel
theorem dX4_isFreshCopyAlike_33 : decode cX4_isFreshCopyAlike 33 = .ok (.getfield 12, 3) := by decide +kernel
theorem dX4_isFreshCopyAlike_36 : decode cX4_isFreshCopyAlike 36 = .ok (.invokevirtual 148, 3) := by decide +kernel
theorem dX4_isFreshCopyAlike_39 : decode cX4_isFreshCopyAlike 39 = .ok (.if_icmp .ne 21, 3) := by decide +kernel
theorem dX4_isFreshCopyAlike_4 : decode cX4_isFreshCopyAlike 4 = .ok (.aload_n 0, 1) := by decide +kernel
theorem dX4_isFreshCopyAlike_42 : decode cX4_isFreshCopyAlike 42 = .ok (.aload_n 0, 1) := by decide +kernel
theorem dX4_isFreshCopyAlike_43 : decode cX4_isFreshCopyAlike 43 = .ok (.getfield 49, 3) := by decide +kernel
theorem dX4_isFreshCopyAlike_46 : decode cX4_isFreshCopyAlike 46 = .ok (.invokevirtual 148, 3) := by decide +kernel
theorem dX4_isFreshCopyAlike_49 : decode cX4_isFreshCopyAlike 49 = .ok (.aload_n 0, 1) := by decide +kernel
theorem dX4_isFreshCopyAlike_5 : decode cX4_isFreshCopyAlike 5 = .ok (.getfield 12, 3) := by decide +kernel
theorem dX4_isFreshCopyAlike_50 : decode cX4_isFreshCopyAlike 50 = .ok (.invokevirtual 354, 3) := by decide +kernel
theorem dX4_isFreshCopyAlike_53 : decode cX4_isFreshCopyAlike 53 = .ok (.if_icmp .ne 7, 3) := by decide +kernel
theorem dX4_isFreshCopyAlike_56 : decode cX4_isFreshCopyAlike 56 = .ok (.iconst 1, 1) := by decide +kernel
theorem dX4_isFreshCopyAlike_57 : decode cX4_isFreshCopyAlike 57 = .ok (.goto 4, 3) := by decide +kernel
theorem dX4_isFreshCopyAlike_61 : decode cX4_isFreshCopyAlike 61 = .ok (.ireturn, 1) := by decide +kernel
theorem dX4_isFreshCopyAlike_8 : decode cX4_isFreshCopyAlike 8 = .ok (.invokevirtual 257, 3) := by decide +kernel
theorem dX4_isSound_0 : decode cX4_isSound 0 = .ok (.aload_n 0, 1) := by decide +kernel
theorem dX4_isSound_1 : decode cX4_isSound 1 = .ok (.invokevirtual 275, 3) := by decide +kernel
theorem dX4_isSound_11 : decode cX4_isSound 11 = .ok (.ifCond .eq 28, 3) := by decide +kernel
theorem dX4_isSound_14 : decode cX4_isSound 14 = .ok (.aload_n 0, 1) := by decide +kernel
theorem dX4_isSound_15 : decode cX4_isSound 15 = .ok (.invokevirtual 282, 3) := by decide +kernel
theorem dX4_isSound_18 : decode cX4_isSound 18 = .ok (.ifCond .eq 21, 3) := by decide +kernel
theorem dX4_isSound_21 : decode cX4_isSound 21 = .ok (.aload_n 0, 1) := by decide +kernel
theorem dX4_isSound_22 : decode cX4_isSound 22 = .ok (.invokevirtual 285, 3) := by decide +kernel
theorem dX4_isSound_25 : decode cX4_isSound 25 = .ok (.ifCond .eq 14, 3) := by decide +kernel
theorem dX4_isSound_28 : decode cX4_isSound 28 = .ok (.aload_n 0, 1) := by decide +kernel
theorem dX4_isSound_29 : decode cX4_isSound 29 = .ok (.invokevirtual 288, 3) := by decide +kernel
theorem dX4_isSound_32 : decode cX4_isSound 32 = .ok (.ifCond .eq 7, 3) := by decide +kernel
theorem dX4_isSound_35 : decode cX4_isSound 35 = .ok (.iconst 1, 1) := by decide +kernel
theorem dX4_isSound_36 : decode cX4_isSound 36 = .ok (.goto 4, 3) := by decide +kernel
theorem dX4_isSound_4 : decode cX4_isSound 4 = .ok (.ifCond .eq 35, 3) := by decide +kernel
theorem dX4_isSound_40 : decode cX4_isSound 40 = .ok (.ireturn, 1) := by decide +kernel
theorem dX4_isSound_7 : decode cX4_isSound 7 = .ok (.aload_n 0, 1) := by decide +kernel
theorem dX4_isSound_8 : decode cX4_isSound 8 = .ok (.invokevirtual 279, 3) := by decide +kernel
theorem dX4_isThereWith_0 : decode cX4_isThereWith 0 = .ok (.aload_n 0, 1) := by decide +kernel
theorem dX4_isThereWith_1 : decode cX4_isThereWith 1 = .ok (.getfield 12, 3) := by decide +kernel
theorem dX4_isThereWith_27 : decode cX4_isThereWith 27 = .ok (.iconst 0, 1) := by decide +kernel
theorem dX4_isThereWith_28 : decode cX4_isThereWith 28 = .ok (.ireturn, 1) := by decide +kernel
theorem dX4_isThereWith_4 : decode cX4_isThereWith 4 = .ok (.iload_n 1, 1) := by decide +kernel
theorem dX4_isThereWith_5 : decode cX4_isThereWith 5 = .ok (.invokevirtual 88, 3) := by decide +kernel
theorem dX4_isThereWith_8 : decode cX4_isThereWith 8 = .ok (.ifCond .eq 19, 3) := by decide +kernel
theorem dX4_isTurnedAlike_0 : decode cX4_isTurnedAlike 0 = .ok (.aload_n 0, 1) := by decide +kernel
theorem dX4_isTurnedAlike_1 : decode cX4_isTurnedAlike 1 = .ok (.getfield 12, 3) := by decide +kernel
theorem dX4_isTurnedAlike_10 : decode cX4_isTurnedAlike 10 = .ok (.iconst 1, 1) := by decide +kernel
theorem dX4_isTurnedAlike_11 : decode cX4_isTurnedAlike 11 = .ok (.invokevirtual 110, 3) := by decide +kernel
theorem dX4_isTurnedAlike_14 : decode cX4_isTurnedAlike 14 = .ok (.istore_n 1, 1) := by decide +kernel
theorem dX4_isTurnedAlike_15 : decode cX4_isTurnedAlike 15 = .ok (.aload_n 0, 1) := by decide +kernel
theorem dX4_isTurnedAlike_16 : decode cX4_isTurnedAlike 16 = .ok (.getfield 12, 3) := by decide +kernel
theorem dX4_isTurnedAlike_19 : decode cX4_isTurnedAlike 19 = .ok (.invokevirtual 95, 3) := by decide +kernel
theorem dX4_isTurnedAlike_22 : decode cX4_isTurnedAlike 22 = .ok (.iconst 1, 1) := by decide +kernel
theorem dX4_isTurnedAlike_23 : decode cX4_isTurnedAlike 23 = .ok (.isub, 1) := by decide +kernel
theorem dX4_isTurnedAlike_24 : decode cX4_isTurnedAlike 24 = .ok (.istore_n 2, 1) := by decide +kernel
theorem dX4_isTurnedAlike_25 : decode cX4_isTurnedAlike 25 = .ok (.iload_n 2, 1) := by decide +kernel
theorem dX4_isTurnedAlike_26 : decode cX4_isTurnedAlike 26 = .ok (.ifCond .lt 37, 3) := by decide +kernel
theorem dX4_isTurnedAlike_4 : decode cX4_isTurnedAlike 4 = .ok (.ldc 76, 2) := by decide +kernel
theorem dX4_isTurnedAlike_6 : decode cX4_isTurnedAlike 6 = .ok (.ldc 77, 2) := by decide +kernel
theorem dX4_isTurnedAlike_63 : decode cX4_isTurnedAlike 63 = .ok (.iload_n 1, 1) := by decide +kernel
theorem dX4_isTurnedAlike_64 : decode cX4_isTurnedAlike 64 = .ok (.iconst (-1), 1) := by decide +kernel
theorem dX4_isTurnedAlike_65 : decode cX4_isTurnedAlike 65 = .ok (.if_icmp .ne 7, 3) := by decide +kernel
theorem dX4_isTurnedAlike_68 : decode cX4_isTurnedAlike 68 = .ok (.iconst 1, 1) := by decide +kernel
theorem dX4_isTurnedAlike_69 : decode cX4_isTurnedAlike 69 = .ok (.goto 4, 3) := by decide +kernel
theorem dX4_isTurnedAlike_73 : decode cX4_isTurnedAlike 73 = .ok (.ireturn, 1) := by decide +kernel
theorem dX4_isTurnedAlike_8 : decode cX4_isTurnedAlike 8 = .ok (.ldc 77, 2) := by decide +kernel
theorem dX4_joinPairs_0 : decode cX4_joinPairs 0 = .ok (.iload_n 2, 1) := by decide +kernel
theorem dX4_joinPairs_1 : decode cX4_joinPairs 1 = .ok (.istore 5, 2) := by decide +kernel
theorem dX4_joinPairs_3 : decode cX4_joinPairs 3 = .ok (.iload 5, 2) := by decide +kernel
theorem dX4_joinPairs_5 : decode cX4_joinPairs 5 = .ok (.iload_n 3, 1) := by decide +kernel
theorem dX4_joinPairs_6 : decode cX4_joinPairs 6 = .ok (.if_icmp .ge 57, 3) := by decide +kernel
theorem dX4_joinPairs_63 : decode cX4_joinPairs 63 = .ok (.return_, 1) := by decide +kernel
theorem dX4_keep_0 : decode cX4_keep 0 = .ok (.iload_n 1, 1) := by decide +kernel
theorem dX4_keep_1 : decode cX4_keep 1 = .ok (.ifCond .ge 13, 3) := by decide +kernel
theorem dX4_keep_10 : decode cX4_keep 10 = .ok (.invokespecial 203, 3) := by decide +kernel
theorem dX4_keep_13 : decode cX4_keep 13 = .ok (.athrow, 1) := by decide +kernel
theorem dX4_keep_14 : decode cX4_keep 14 = .ok (.aload_n 0, 1) := by decide +kernel
theorem dX4_keep_15 : decode cX4_keep 15 = .ok (.getfield 21, 3) := by decide +kernel
theorem dX4_keep_18 : decode cX4_keep 18 = .ok (.invokevirtual 185, 3) := by decide +kernel
theorem dX4_keep_21 : decode cX4_keep 21 = .ok (.iload_n 1, 1) := by decide +kernel
theorem dX4_keep_22 : decode cX4_keep 22 = .ok (.isub, 1) := by decide +kernel
theorem dX4_keep_23 : decode cX4_keep 23 = .ok (.istore_n 2, 1) := by decide +kernel
theorem dX4_keep_24 : decode cX4_keep 24 = .ok (.aload_n 0, 1) := by decide +kernel
theorem dX4_keep_25 : decode cX4_keep 25 = .ok (.getfield 46, 3) := by decide +kernel
theorem dX4_keep_28 : decode cX4_keep 28 = .ok (.invokevirtual 119, 3) := by decide +kernel
theorem dX4_keep_31 : decode cX4_keep 31 = .ok (.iconst 0, 1) := by decide +kernel
theorem dX4_keep_32 : decode cX4_keep 32 = .ok (.istore_n 3, 1) := by decide +kernel
theorem dX4_keep_33 : decode cX4_keep 33 = .ok (.iload_n 3, 1) := by decide +kernel
theorem dX4_keep_34 : decode cX4_keep 34 = .ok (.iload_n 2, 1) := by decide +kernel
theorem dX4_keep_35 : decode cX4_keep 35 = .ok (.if_icmp .ge 24, 3) := by decide +kernel
theorem dX4_keep_4 : decode cX4_keep 4 = .ok (.new 199, 3) := by decide +kernel
theorem dX4_keep_59 : decode cX4_keep 59 = .ok (.aload_n 0, 1) := by decide +kernel
theorem dX4_keep_60 : decode cX4_keep 60 = .ok (.invokevirtual 177, 3) := by decide +kernel
theorem dX4_keep_63 : decode cX4_keep 63 = .ok (.istore_n 3, 1) := by decide +kernel
theorem dX4_keep_64 : decode cX4_keep 64 = .ok (.aload_n 0, 1) := by decide +kernel
theorem dX4_keep_65 : decode cX4_keep 65 = .ok (.getfield 28, 3) := by decide +kernel
theorem dX4_keep_68 : decode cX4_keep 68 = .ok (.invokevirtual 66, 3) := by decide +kernel
theorem dX4_keep_7 : decode cX4_keep 7 = .ok (.dup, 1) := by decide +kernel
theorem dX4_keep_71 : decode cX4_keep 71 = .ok (.iload_n 3, 1) := by decide +kernel
theorem dX4_keep_72 : decode cX4_keep 72 = .ok (.ireturn, 1) := by decide +kernel
theorem dX4_keep_8 : decode cX4_keep 8 = .ok (.ldc 201, 2) := by decide +kernel
theorem dX4_keys_0 : decode cX4_keys 0 = .ok (.aload_n 0, 1) := by decide +kernel
theorem dX4_keys_1 : decode cX4_keys 1 = .ok (.getfield 12, 3) := by decide +kernel
theorem dX4_keys_12 : decode cX4_keys 12 = .ok (.invokevirtual 119, 3) := by decide +kernel
theorem dX4_keys_15 : decode cX4_keys 15 = .ok (.iconst 0, 1) := by decide +kernel
theorem dX4_keys_16 : decode cX4_keys 16 = .ok (.istore_n 3, 1) := by decide +kernel
theorem dX4_keys_17 : decode cX4_keys 17 = .ok (.iload_n 3, 1) := by decide +kernel
theorem dX4_keys_18 : decode cX4_keys 18 = .ok (.iload_n 2, 1) := by decide +kernel
theorem dX4_keys_19 : decode cX4_keys 19 = .ok (.if_icmp .ge 36, 3) := by decide +kernel
theorem dX4_keys_4 : decode cX4_keys 4 = .ok (.invokevirtual 95, 3) := by decide +kernel
theorem dX4_keys_55 : decode cX4_keys 55 = .ok (.aload_n 0, 1) := by decide +kernel
theorem dX4_keys_56 : decode cX4_keys 56 = .ok (.getfield 46, 3) := by decide +kernel
theorem dX4_keys_59 : decode cX4_keys 59 = .ok (.invokevirtual 128, 3) := by decide +kernel
theorem dX4_keys_62 : decode cX4_keys 62 = .ok (.areturn, 1) := by decide +kernel
theorem dX4_keys_7 : decode cX4_keys 7 = .ok (.istore_n 2, 1) := by decide +kernel
theorem dX4_keys_8 : decode cX4_keys 8 = .ok (.aload_n 0, 1) := by decide +kernel
theorem dX4_keys_9 : decode cX4_keys 9 = .ok (.getfield 46, 3) := by decide +kernel
theorem dX4_knock_0 : decode cX4_knock 0 = .ok (.aload_n 0, 1) := by decide +kernel
theorem dX4_knock_1 : decode cX4_knock 1 = .ok (.dup, 1) := by decide +kernel
theorem dX4_knock_10 : decode cX4_knock 10 = .ok (.aload_n 0, 1) := by decide +kernel
theorem dX4_knock_11 : decode cX4_knock 11 = .ok (.getfield 42, 3) := by decide +kernel
theorem dX4_knock_14 : decode cX4_knock 14 = .ok (.ireturn, 1) := by decide +kernel
theorem dX4_knock_2 : decode cX4_knock 2 = .ok (.getfield 42, 3) := by decide +kernel
theorem dX4_knock_5 : decode cX4_knock 5 = .ok (.iconst 1, 1) := by decide +kernel
theorem dX4_knock_6 : decode cX4_knock 6 = .ok (.iadd, 1) := by decide +kernel
theorem dX4_knock_7 : decode cX4_knock 7 = .ok (.putfield 42, 3) := by decide +kernel
theorem dX4_look_0 : decode cX4_look 0 = .ok (.aload_n 0, 1) := by decide +kernel
theorem dX4_look_1 : decode cX4_look 1 = .ok (.getfield 12, 3) := by decide +kernel
theorem dX4_look_4 : decode cX4_look 4 = .ok (.iload_n 1, 1) := by decide +kernel
theorem dX4_look_5 : decode cX4_look 5 = .ok (.invokevirtual 58, 3) := by decide +kernel
theorem dX4_look_8 : decode cX4_look 8 = .ok (.ireturn, 1) := by decide +kernel
theorem dX4_markedPagers_0 : decode cX4_markedPagers 0 = .ok (.iconst 0, 1) := by decide +kernel
theorem dX4_markedPagers_1 : decode cX4_markedPagers 1 = .ok (.istore_n 1, 1) := by decide +kernel
theorem dX4_markedPagers_10 : decode cX4_markedPagers 10 = .ok (.iconst 0, 1) := by decide +kernel
theorem dX4_markedPagers_11 : decode cX4_markedPagers 11 = .ok (.istore 4, 2) := by decide +kernel
theorem dX4_markedPagers_13 : decode cX4_markedPagers 13 = .ok (.iload 4, 2) := by decide +kernel
theorem dX4_markedPagers_15 : decode cX4_markedPagers 15 = .ok (.iload_n 3, 1) := by decide +kernel
theorem dX4_markedPagers_16 : decode cX4_markedPagers 16 = .ok (.if_icmp .ge 31, 3) := by decide +kernel
theorem dX4_markedPagers_19 : decode cX4_markedPagers 19 = .ok (.aload_n 2, 1) := by decide +kernel
theorem dX4_markedPagers_2 : decode cX4_markedPagers 2 = .ok (.aload_n 0, 1) := by decide +kernel
theorem dX4_markedPagers_20 : decode cX4_markedPagers 20 = .ok (.iload 4, 2) := by decide +kernel
theorem dX4_markedPagers_22 : decode cX4_markedPagers 22 = .ok (.aaload, 1) := by decide +kernel
theorem dX4_markedPagers_23 : decode cX4_markedPagers 23 = .ok (.astore 5, 2) := by decide +kernel
theorem dX4_markedPagers_25 : decode cX4_markedPagers 25 = .ok (.iload_n 1, 1) := by decide +kernel
theorem dX4_markedPagers_26 : decode cX4_markedPagers 26 = .ok (.aload 5, 2) := by decide +kernel
theorem dX4_markedPagers_28 : decode cX4_markedPagers 28 = .ok (.getfield 228, 3) := by decide +kernel
theorem dX4_markedPagers_3 : decode cX4_markedPagers 3 = .ok (.getfield 37, 3) := by decide +kernel
theorem dX4_markedPagers_31 : decode cX4_markedPagers 31 = .ok (.ifCond .eq 7, 3) := by decide +kernel
theorem dX4_markedPagers_38 : decode cX4_markedPagers 38 = .ok (.iconst 0, 1) := by decide +kernel
theorem dX4_markedPagers_39 : decode cX4_markedPagers 39 = .ok (.iadd, 1) := by decide +kernel
theorem dX4_markedPagers_40 : decode cX4_markedPagers 40 = .ok (.istore_n 1, 1) := by decide +kernel
theorem dX4_markedPagers_41 : decode cX4_markedPagers 41 = .ok (.iinc 4 1, 3) := by decide +kernel
theorem dX4_markedPagers_44 : decode cX4_markedPagers 44 = .ok (.goto (-31), 3) := by decide +kernel
theorem dX4_markedPagers_47 : decode cX4_markedPagers 47 = .ok (.iload_n 1, 1) := by decide +kernel
theorem dX4_markedPagers_48 : decode cX4_markedPagers 48 = .ok (.ireturn, 1) := by decide +kernel
theorem dX4_markedPagers_6 : decode cX4_markedPagers 6 = .ok (.astore_n 2, 1) := by decide +kernel
theorem dX4_markedPagers_7 : decode cX4_markedPagers 7 = .ok (.aload_n 2, 1) := by decide +kernel
theorem dX4_markedPagers_8 : decode cX4_markedPagers 8 = .ok (.arraylength, 1) := by decide +kernel
theorem dX4_markedPagers_9 : decode cX4_markedPagers 9 = .ok (.istore_n 3, 1) := by decide +kernel
theorem dX4_mixedSumByUse_0 : decode cX4_mixedSumByUse 0 = .ok (.iconst 0, 1) := by decide +kernel
theorem dX4_mixedSumByUse_1 : decode cX4_mixedSumByUse 1 = .ok (.istore_n 1, 1) := by decide +kernel
theorem dX4_mixedSumByUse_10 : decode cX4_mixedSumByUse 10 = .ok (.iconst 0, 1) := by decide +kernel
theorem dX4_mixedSumByUse_11 : decode cX4_mixedSumByUse 11 = .ok (.istore_n 3, 1) := by decide +kernel
theorem dX4_mixedSumByUse_12 : decode cX4_mixedSumByUse 12 = .ok (.iload_n 3, 1) := by decide +kernel
theorem dX4_mixedSumByUse_13 : decode cX4_mixedSumByUse 13 = .ok (.iload_n 2, 1) := by decide +kernel
theorem dX4_mixedSumByUse_14 : decode cX4_mixedSumByUse 14 = .ok (.if_icmp .ge 34, 3) := by decide +kernel
theorem dX4_mixedSumByUse_2 : decode cX4_mixedSumByUse 2 = .ok (.aload_n 0, 1) := by decide +kernel
theorem dX4_mixedSumByUse_3 : decode cX4_mixedSumByUse 3 = .ok (.getfield 21, 3) := by decide +kernel
theorem dX4_mixedSumByUse_48 : decode cX4_mixedSumByUse 48 = .ok (.iload_n 1, 1) := by decide +kernel
theorem dX4_mixedSumByUse_49 : decode cX4_mixedSumByUse 49 = .ok (.ireturn, 1) := by decide +kernel
theorem dX4_mixedSumByUse_6 : decode cX4_mixedSumByUse 6 = .ok (.invokevirtual 185, 3) := by decide +kernel
theorem dX4_mixedSumByUse_9 : decode cX4_mixedSumByUse 9 = .ok (.istore_n 2, 1) := by decide +kernel
theorem dX4_nearValue_0 : decode cX4_nearValue 0 = .ok (.iload_n 2, 1) := by decide +kernel
theorem dX4_nearValue_1 : decode cX4_nearValue 1 = .ok (.invokestatic 107, 3) := by decide +kernel
theorem dX4_nearValue_10 : decode cX4_nearValue 10 = .ok (.ldc 77, 2) := by decide +kernel
theorem dX4_nearValue_12 : decode cX4_nearValue 12 = .ok (.iload_n 1, 1) := by decide +kernel
theorem dX4_nearValue_13 : decode cX4_nearValue 13 = .ok (.iload_n 2, 1) := by decide +kernel
theorem dX4_nearValue_14 : decode cX4_nearValue 14 = .ok (.invokevirtual 110, 3) := by decide +kernel
theorem dX4_nearValue_17 : decode cX4_nearValue 17 = .ok (.istore_n 3, 1) := by decide +kernel
theorem dX4_nearValue_18 : decode cX4_nearValue 18 = .ok (.iload_n 3, 1) := by decide +kernel
theorem dX4_nearValue_19 : decode cX4_nearValue 19 = .ok (.iconst (-1), 1) := by decide +kernel
theorem dX4_nearValue_20 : decode cX4_nearValue 20 = .ok (.if_icmp .ne 9, 3) := by decide +kernel
theorem dX4_nearValue_23 : decode cX4_nearValue 23 = .ok (.sipush (-1000), 3) := by decide +kernel
theorem dX4_nearValue_26 : decode cX4_nearValue 26 = .ok (.goto 11, 3) := by decide +kernel
theorem dX4_nearValue_37 : decode cX4_nearValue 37 = .ok (.ireturn, 1) := by decide +kernel
theorem dX4_nearValue_4 : decode cX4_nearValue 4 = .ok (.aload_n 0, 1) := by decide +kernel
theorem dX4_nearValue_5 : decode cX4_nearValue 5 = .ok (.getfield 12, 3) := by decide +kernel
theorem dX4_nearValue_8 : decode cX4_nearValue 8 = .ok (.ldc 76, 2) := by decide +kernel
theorem dX4_near_0 : decode cX4_near 0 = .ok (.aload_n 0, 1) := by decide +kernel
theorem dX4_near_1 : decode cX4_near 1 = .ok (.ldc 76, 2) := by decide +kernel
theorem dX4_near_3 : decode cX4_near 3 = .ok (.ldc 77, 2) := by decide +kernel
theorem dX4_near_5 : decode cX4_near 5 = .ok (.iload_n 1, 1) := by decide +kernel
theorem dX4_near_6 : decode cX4_near 6 = .ok (.iload_n 2, 1) := by decide +kernel
theorem dX4_near_7 : decode cX4_near 7 = .ok (.invokevirtual 103, 3) := by decide +kernel
theorem dX4_next_0 : decode cX4_next 0 = .ok (.aload_n 0, 1) := by decide +kernel
theorem dX4_next_1 : decode cX4_next 1 = .ok (.iload_n 1, 1) := by decide +kernel
theorem dX4_next_106 : decode cX4_next 106 = .ok (.aload_n 0, 1) := by decide +kernel
theorem dX4_next_107 : decode cX4_next 107 = .ok (.getfield 46, 3) := by decide +kernel
theorem dX4_next_11 : decode cX4_next 11 = .ok (.iload_n 2, 1) := by decide +kernel
theorem dX4_next_110 : decode cX4_next 110 = .ok (.invokevirtual 128, 3) := by decide +kernel
theorem dX4_next_113 : decode cX4_next 113 = .ok (.areturn, 1) := by decide +kernel
theorem dX4_next_12 : decode cX4_next 12 = .ok (.bipush 24, 2) := by decide +kernel
theorem dX4_next_14 : decode cX4_next 14 = .ok (.if_icmp .le 13, 3) := by decide +kernel
theorem dX4_next_17 : decode cX4_next 17 = .ok (.new 199, 3) := by decide +kernel
theorem dX4_next_2 : decode cX4_next 2 = .ok (.invokevirtual 204, 3) := by decide +kernel
theorem dX4_next_20 : decode cX4_next 20 = .ok (.dup, 1) := by decide +kernel
theorem dX4_next_21 : decode cX4_next 21 = .ok (.ldc 211, 2) := by decide +kernel
theorem dX4_next_23 : decode cX4_next 23 = .ok (.invokespecial 203, 3) := by decide +kernel
theorem dX4_next_26 : decode cX4_next 26 = .ok (.athrow, 1) := by decide +kernel
theorem dX4_next_27 : decode cX4_next 27 = .ok (.aload_n 3, 1) := by decide +kernel
theorem dX4_next_28 : decode cX4_next 28 = .ok (.aload_n 0, 1) := by decide +kernel
theorem dX4_next_29 : decode cX4_next 29 = .ok (.getfield 12, 3) := by decide +kernel
theorem dX4_next_32 : decode cX4_next 32 = .ok (.invokevirtual 213, 3) := by decide +kernel
theorem dX4_next_35 : decode cX4_next 35 = .ok (.istore 4, 2) := by decide +kernel
theorem dX4_next_37 : decode cX4_next 37 = .ok (.iload 4, 2) := by decide +kernel
theorem dX4_next_39 : decode cX4_next 39 = .ok (.iload_n 2, 1) := by decide +kernel
theorem dX4_next_40 : decode cX4_next 40 = .ok (.iadd, 1) := by decide +kernel
theorem dX4_next_41 : decode cX4_next 41 = .ok (.aload_n 0, 1) := by decide +kernel
theorem dX4_next_42 : decode cX4_next 42 = .ok (.getfield 12, 3) := by decide +kernel
theorem dX4_next_45 : decode cX4_next 45 = .ok (.invokevirtual 95, 3) := by decide +kernel
theorem dX4_next_48 : decode cX4_next 48 = .ok (.invokestatic 217, 3) := by decide +kernel
theorem dX4_next_5 : decode cX4_next 5 = .ok (.astore_n 3, 1) := by decide +kernel
theorem dX4_next_51 : decode cX4_next 51 = .ok (.istore 5, 2) := by decide +kernel
theorem dX4_next_53 : decode cX4_next 53 = .ok (.aload_n 0, 1) := by decide +kernel
theorem dX4_next_54 : decode cX4_next 54 = .ok (.getfield 46, 3) := by decide +kernel
theorem dX4_next_57 : decode cX4_next 57 = .ok (.invokevirtual 119, 3) := by decide +kernel
theorem dX4_next_6 : decode cX4_next 6 = .ok (.iload_n 2, 1) := by decide +kernel
theorem dX4_next_60 : decode cX4_next 60 = .ok (.iload 4, 2) := by decide +kernel
theorem dX4_next_62 : decode cX4_next 62 = .ok (.istore 6, 2) := by decide +kernel
theorem dX4_next_64 : decode cX4_next 64 = .ok (.iload 6, 2) := by decide +kernel
theorem dX4_next_66 : decode cX4_next 66 = .ok (.iload 5, 2) := by decide +kernel
theorem dX4_next_68 : decode cX4_next 68 = .ok (.if_icmp .ge 38, 3) := by decide +kernel
theorem dX4_next_7 : decode cX4_next 7 = .ok (.iconst 1, 1) := by decide +kernel
theorem dX4_next_8 : decode cX4_next 8 = .ok (.if_icmp .lt 9, 3) := by decide +kernel
theorem dX4_ofPager_0 : decode cX4_ofPager 0 = .ok (.aload_n 0, 1) := by decide +kernel
theorem dX4_ofPager_1 : decode cX4_ofPager 1 = .ok (.iload_n 1, 1) := by decide +kernel
theorem dX4_ofPager_2 : decode cX4_ofPager 2 = .ok (.invokevirtual 204, 3) := by decide +kernel
theorem dX4_ofPager_36 : decode cX4_ofPager 36 = .ok (.aload_n 3, 1) := by decide +kernel
theorem dX4_ofPager_37 : decode cX4_ofPager 37 = .ok (.getfield 225, 3) := by decide +kernel
theorem dX4_ofPager_40 : decode cX4_ofPager 40 = .ok (.ireturn, 1) := by decide +kernel
theorem dX4_ofPager_41 : decode cX4_ofPager 41 = .ok (.aload_n 0, 1) := by decide +kernel
theorem dX4_ofPager_42 : decode cX4_ofPager 42 = .ok (.getfield 12, 3) := by decide +kernel
theorem dX4_ofPager_45 : decode cX4_ofPager 45 = .ok (.invokevirtual 95, 3) := by decide +kernel
theorem dX4_ofPager_48 : decode cX4_ofPager 48 = .ok (.aload_n 3, 1) := by decide +kernel
theorem dX4_ofPager_49 : decode cX4_ofPager 49 = .ok (.aload_n 0, 1) := by decide +kernel
theorem dX4_ofPager_5 : decode cX4_ofPager 5 = .ok (.astore_n 3, 1) := by decide +kernel
theorem dX4_ofPager_50 : decode cX4_ofPager 50 = .ok (.getfield 12, 3) := by decide +kernel
theorem dX4_ofPager_53 : decode cX4_ofPager 53 = .ok (.invokevirtual 213, 3) := by decide +kernel
theorem dX4_ofPager_56 : decode cX4_ofPager 56 = .ok (.isub, 1) := by decide +kernel
theorem dX4_ofPager_57 : decode cX4_ofPager 57 = .ok (.ireturn, 1) := by decide +kernel
theorem dX4_ofPager_58 : decode cX4_ofPager 58 = .ok (.aload_n 3, 1) := by decide +kernel
theorem dX4_ofPager_59 : decode cX4_ofPager 59 = .ok (.getfield 228, 3) := by decide +kernel
theorem dX4_ofPager_6 : decode cX4_ofPager 6 = .ok (.iload_n 2, 1) := by decide +kernel
theorem dX4_ofPager_62 : decode cX4_ofPager 62 = .ok (.ifCond .eq 7, 3) := by decide +kernel
theorem dX4_ofPager_69 : decode cX4_ofPager 69 = .ok (.iconst 0, 1) := by decide +kernel
theorem dX4_ofPager_7 : decode cX4_ofPager 7 = .ok (.tableswitch 69 0 3 #[29, 34, 51, 64], 29) := by decide +kernel
theorem dX4_ofPager_70 : decode cX4_ofPager 70 = .ok (.ireturn, 1) := by decide +kernel
theorem dX4_ofPager_71 : decode cX4_ofPager 71 = .ok (.aload_n 3, 1) := by decide +kernel
theorem dX4_ofPager_72 : decode cX4_ofPager 72 = .ok (.getfield 232, 3) := by decide +kernel
theorem dX4_ofPager_75 : decode cX4_ofPager 75 = .ok (.ireturn, 1) := by decide +kernel
theorem dX4_ofPager_76 : decode cX4_ofPager 76 = .ok (.new 199, 3) := by decide +kernel
theorem dX4_ofPager_79 : decode cX4_ofPager 79 = .ok (.dup, 1) := by decide +kernel
theorem dX4_ofPager_80 : decode cX4_ofPager 80 = .ok (.ldc 235, 2) := by decide +kernel
theorem dX4_ofPager_82 : decode cX4_ofPager 82 = .ok (.invokespecial 203, 3) := by decide +kernel
theorem dX4_ofPager_85 : decode cX4_ofPager 85 = .ok (.athrow, 1) := by decide +kernel
theorem dX4_page_0 : decode cX4_page 0 = .ok (.aload_n 0, 1) := by decide +kernel
theorem dX4_page_1 : decode cX4_page 1 = .ok (.iload_n 1, 1) := by decide +kernel
theorem dX4_page_2 : decode cX4_page 2 = .ok (.invokevirtual 204, 3) := by decide +kernel
theorem dX4_page_5 : decode cX4_page 5 = .ok (.invokevirtual 208, 3) := by decide +kernel
theorem dX4_page_8 : decode cX4_page 8 = .ok (.ireturn, 1) := by decide +kernel
theorem dX4_pagerOf_0 : decode cX4_pagerOf 0 = .ok (.iload_n 1, 1) := by decide +kernel
theorem dX4_pagerOf_1 : decode cX4_pagerOf 1 = .ok (.ifCond .lt 12, 3) := by decide +kernel
theorem dX4_pagerOf_10 : decode cX4_pagerOf 10 = .ok (.if_icmp .lt 14, 3) := by decide +kernel
theorem dX4_pagerOf_13 : decode cX4_pagerOf 13 = .ok (.new 329, 3) := by decide +kernel
theorem dX4_pagerOf_16 : decode cX4_pagerOf 16 = .ok (.dup, 1) := by decide +kernel
theorem dX4_pagerOf_17 : decode cX4_pagerOf 17 = .ok (.ldc_w 331, 3) := by decide +kernel
theorem dX4_pagerOf_20 : decode cX4_pagerOf 20 = .ok (.invokespecial 333, 3) := by decide +kernel
theorem dX4_pagerOf_23 : decode cX4_pagerOf 23 = .ok (.athrow, 1) := by decide +kernel
theorem dX4_pagerOf_24 : decode cX4_pagerOf 24 = .ok (.aload_n 0, 1) := by decide +kernel
theorem dX4_pagerOf_25 : decode cX4_pagerOf 25 = .ok (.getfield 37, 3) := by decide +kernel
theorem dX4_pagerOf_28 : decode cX4_pagerOf 28 = .ok (.iload_n 1, 1) := by decide +kernel
theorem dX4_pagerOf_29 : decode cX4_pagerOf 29 = .ok (.aaload, 1) := by decide +kernel
theorem dX4_pagerOf_30 : decode cX4_pagerOf 30 = .ok (.areturn, 1) := by decide +kernel
theorem dX4_pagerOf_4 : decode cX4_pagerOf 4 = .ok (.iload_n 1, 1) := by decide +kernel
theorem dX4_pagerOf_5 : decode cX4_pagerOf 5 = .ok (.aload_n 0, 1) := by decide +kernel
theorem dX4_pagerOf_6 : decode cX4_pagerOf 6 = .ok (.getfield 37, 3) := by decide +kernel
theorem dX4_pagerOf_9 : decode cX4_pagerOf 9 = .ok (.arraylength, 1) := by decide +kernel
theorem dX4_poll_0 : decode cX4_poll 0 = .ok (.aload_n 0, 1) := by decide +kernel
theorem dX4_poll_1 : decode cX4_poll 1 = .ok (.ldc 76, 2) := by decide +kernel
theorem dX4_poll_3 : decode cX4_poll 3 = .ok (.ldc 77, 2) := by decide +kernel
theorem dX4_poll_5 : decode cX4_poll 5 = .ok (.iload_n 1, 1) := by decide +kernel
theorem dX4_poll_6 : decode cX4_poll 6 = .ok (.invokevirtual 116, 3) := by decide +kernel
theorem dX4_putNew_0 : decode cX4_putNew 0 = .ok (.iload_n 2, 1) := by decide +kernel
theorem dX4_putNew_1 : decode cX4_putNew 1 = .ok (.invokestatic 52, 3) := by decide +kernel
theorem dX4_putNew_10 : decode cX4_putNew 10 = .ok (.getfield 12, 3) := by decide +kernel
theorem dX4_putNew_13 : decode cX4_putNew 13 = .ok (.iload_n 1, 1) := by decide +kernel
theorem dX4_putNew_14 : decode cX4_putNew 14 = .ok (.invokevirtual 58, 3) := by decide +kernel
theorem dX4_putNew_17 : decode cX4_putNew 17 = .ok (.istore_n 3, 1) := by decide +kernel
theorem dX4_putNew_18 : decode cX4_putNew 18 = .ok (.aload_n 0, 1) := by decide +kernel
theorem dX4_putNew_19 : decode cX4_putNew 19 = .ok (.iload_n 1, 1) := by decide +kernel
theorem dX4_putNew_20 : decode cX4_putNew 20 = .ok (.iload_n 3, 1) := by decide +kernel
theorem dX4_putNew_21 : decode cX4_putNew 21 = .ok (.sipush (-1000), 3) := by decide +kernel
theorem dX4_putNew_24 : decode cX4_putNew 24 = .ok (.if_icmp .ne 7, 3) := by decide +kernel
theorem dX4_putNew_27 : decode cX4_putNew 27 = .ok (.iload_n 2, 1) := by decide +kernel
theorem dX4_putNew_28 : decode cX4_putNew 28 = .ok (.goto 4, 3) := by decide +kernel
theorem dX4_putNew_32 : decode cX4_putNew 32 = .ok (.invokevirtual 62, 3) := by decide +kernel
theorem dX4_putNew_35 : decode cX4_putNew 35 = .ok (.aload_n 0, 1) := by decide +kernel
theorem dX4_putNew_36 : decode cX4_putNew 36 = .ok (.getfield 28, 3) := by decide +kernel
theorem dX4_putNew_39 : decode cX4_putNew 39 = .ok (.invokevirtual 66, 3) := by decide +kernel
theorem dX4_putNew_4 : decode cX4_putNew 4 = .ok (.aload_n 0, 1) := by decide +kernel
theorem dX4_putNew_42 : decode cX4_putNew 42 = .ok (.iload_n 3, 1) := by decide +kernel
theorem dX4_putNew_43 : decode cX4_putNew 43 = .ok (.ireturn, 1) := by decide +kernel
theorem dX4_putNew_5 : decode cX4_putNew 5 = .ok (.iload_n 1, 1) := by decide +kernel
theorem dX4_putNew_6 : decode cX4_putNew 6 = .ok (.invokevirtual 55, 3) := by decide +kernel
theorem dX4_putNew_9 : decode cX4_putNew 9 = .ok (.aload_n 0, 1) := by decide +kernel
theorem dX4_put_0 : decode cX4_put 0 = .ok (.iload_n 2, 1) := by decide +kernel
theorem dX4_put_1 : decode cX4_put 1 = .ok (.invokestatic 52, 3) := by decide +kernel
theorem dX4_put_10 : decode cX4_put 10 = .ok (.getfield 12, 3) := by decide +kernel
theorem dX4_put_13 : decode cX4_put 13 = .ok (.iload_n 1, 1) := by decide +kernel
theorem dX4_put_14 : decode cX4_put 14 = .ok (.invokevirtual 58, 3) := by decide +kernel
theorem dX4_put_17 : decode cX4_put 17 = .ok (.istore_n 3, 1) := by decide +kernel
theorem dX4_put_18 : decode cX4_put 18 = .ok (.aload_n 0, 1) := by decide +kernel
theorem dX4_put_19 : decode cX4_put 19 = .ok (.iload_n 1, 1) := by decide +kernel
theorem dX4_put_20 : decode cX4_put 20 = .ok (.iload_n 2, 1) := by decide +kernel
theorem dX4_put_21 : decode cX4_put 21 = .ok (.invokevirtual 62, 3) := by decide +kernel
theorem dX4_put_24 : decode cX4_put 24 = .ok (.aload_n 0, 1) := by decide +kernel
theorem dX4_put_25 : decode cX4_put 25 = .ok (.getfield 28, 3) := by decide +kernel
theorem dX4_put_28 : decode cX4_put 28 = .ok (.invokevirtual 66, 3) := by decide +kernel
theorem dX4_put_31 : decode cX4_put 31 = .ok (.iload_n 3, 1) := by decide +kernel
theorem dX4_put_32 : decode cX4_put 32 = .ok (.ireturn, 1) := by decide +kernel
