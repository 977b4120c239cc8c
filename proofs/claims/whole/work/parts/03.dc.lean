theorem dX0_init_0 : decode cX0_init 0 = .ok (.aload_n 0, 1) := by decide +kernel
theorem dX0_init_1 : decode cX0_init 1 = .ok (.invokespecial 3, 3) := by decide +kernel
theorem dX0_init_4 : decode cX0_init 4 = .ok (.aload_n 0, 1) := by decide +kernel
theorem dX0_init_5 : decode cX0_init 5 = .ok (.bipush 10, 2) := by decide +kernel
theorem dX0_init_7 : decode cX0_init 7 = .ok (.anewarray 9, 3) := by decide +kernel
theorem dX0_init_10 : decode cX0_init 10 = .ok (.putfield 11, 3) := by decide +kernel
theorem dX0_init_13 : decode cX0_init 13 = .ok (.aload_n 0, 1) := by decide +kernel
theorem dX0_init_14 : decode cX0_init 14 = .ok (.iconst 0, 1) := by decide +kernel
theorem dX0_init_15 : decode cX0_init 15 = .ok (.putfield 17, 3) := by decide +kernel
theorem dX0_init_18 : decode cX0_init 18 = .ok (.return_, 1) := by decide +kernel
theorem dX0_lineOf_0 : decode cX0_lineOf 0 = .ok (.iload_n 1, 1) := by decide +kernel
theorem dX0_lineOf_1 : decode cX0_lineOf 1 = .ok (.ifCond .lt 26, 3) := by decide +kernel
theorem dX0_lineOf_4 : decode cX0_lineOf 4 = .ok (.iload_n 1, 1) := by decide +kernel
theorem dX0_lineOf_5 : decode cX0_lineOf 5 = .ok (.aload_n 0, 1) := by decide +kernel
theorem dX0_lineOf_6 : decode cX0_lineOf 6 = .ok (.getfield 17, 3) := by decide +kernel
theorem dX0_lineOf_9 : decode cX0_lineOf 9 = .ok (.if_icmp .ge 18, 3) := by decide +kernel
theorem dX0_lineOf_12 : decode cX0_lineOf 12 = .ok (.iload_n 1, 1) := by decide +kernel
theorem dX0_lineOf_13 : decode cX0_lineOf 13 = .ok (.bipush 10, 2) := by decide +kernel
theorem dX0_lineOf_15 : decode cX0_lineOf 15 = .ok (.if_icmp .ge 12, 3) := by decide +kernel
theorem dX0_lineOf_18 : decode cX0_lineOf 18 = .ok (.aload_n 0, 1) := by decide +kernel
theorem dX0_lineOf_19 : decode cX0_lineOf 19 = .ok (.getfield 11, 3) := by decide +kernel
theorem dX0_lineOf_22 : decode cX0_lineOf 22 = .ok (.iload_n 1, 1) := by decide +kernel
theorem dX0_lineOf_23 : decode cX0_lineOf 23 = .ok (.aaload, 1) := by decide +kernel
theorem dX0_lineOf_24 : decode cX0_lineOf 24 = .ok (.goto 4, 3) := by decide +kernel
theorem dX0_lineOf_27 : decode cX0_lineOf 27 = .ok (.aconst_null, 1) := by decide +kernel
theorem dX0_lineOf_28 : decode cX0_lineOf 28 = .ok (.areturn, 1) := by decide +kernel
theorem dX0_insert_0 : decode cX0_insert 0 = .ok (.iload_n 1, 1) := by decide +kernel
theorem dX0_insert_1 : decode cX0_insert 1 = .ok (.ifCond .lt 20, 3) := by decide +kernel
theorem dX0_insert_4 : decode cX0_insert 4 = .ok (.iload_n 1, 1) := by decide +kernel
theorem dX0_insert_5 : decode cX0_insert 5 = .ok (.aload_n 0, 1) := by decide +kernel
theorem dX0_insert_6 : decode cX0_insert 6 = .ok (.getfield 17, 3) := by decide +kernel
theorem dX0_insert_9 : decode cX0_insert 9 = .ok (.if_icmp .gt 12, 3) := by decide +kernel
theorem dX0_insert_12 : decode cX0_insert 12 = .ok (.aload_n 0, 1) := by decide +kernel
theorem dX0_insert_13 : decode cX0_insert 13 = .ok (.getfield 17, 3) := by decide +kernel
theorem dX0_insert_16 : decode cX0_insert 16 = .ok (.bipush 10, 2) := by decide +kernel
theorem dX0_insert_18 : decode cX0_insert 18 = .ok (.if_icmp .lt 4, 3) := by decide +kernel
theorem dX0_insert_21 : decode cX0_insert 21 = .ok (.return_, 1) := by decide +kernel
theorem dX0_insert_22 : decode cX0_insert 22 = .ok (.aload_n 0, 1) := by decide +kernel
theorem dX0_insert_23 : decode cX0_insert 23 = .ok (.getfield 17, 3) := by decide +kernel
theorem dX0_insert_26 : decode cX0_insert 26 = .ok (.istore_n 3, 1) := by decide +kernel
theorem dX0_insert_27 : decode cX0_insert 27 = .ok (.iload_n 3, 1) := by decide +kernel
theorem dX0_insert_28 : decode cX0_insert 28 = .ok (.iload_n 1, 1) := by decide +kernel
theorem dX0_insert_29 : decode cX0_insert 29 = .ok (.if_icmp .le 23, 3) := by decide +kernel
theorem dX0_insert_32 : decode cX0_insert 32 = .ok (.aload_n 0, 1) := by decide +kernel
theorem dX0_insert_33 : decode cX0_insert 33 = .ok (.getfield 11, 3) := by decide +kernel
theorem dX0_insert_36 : decode cX0_insert 36 = .ok (.iload_n 3, 1) := by decide +kernel
theorem dX0_insert_37 : decode cX0_insert 37 = .ok (.aload_n 0, 1) := by decide +kernel
theorem dX0_insert_38 : decode cX0_insert 38 = .ok (.getfield 11, 3) := by decide +kernel
theorem dX0_insert_41 : decode cX0_insert 41 = .ok (.iload_n 3, 1) := by decide +kernel
theorem dX0_insert_42 : decode cX0_insert 42 = .ok (.iconst 1, 1) := by decide +kernel
theorem dX0_insert_43 : decode cX0_insert 43 = .ok (.isub, 1) := by decide +kernel
theorem dX0_insert_44 : decode cX0_insert 44 = .ok (.aaload, 1) := by decide +kernel
theorem dX0_insert_45 : decode cX0_insert 45 = .ok (.aastore, 1) := by decide +kernel
theorem dX0_insert_46 : decode cX0_insert 46 = .ok (.iinc 3 (-1), 3) := by decide +kernel
theorem dX0_insert_49 : decode cX0_insert 49 = .ok (.goto (-22), 3) := by decide +kernel
theorem dX0_insert_52 : decode cX0_insert 52 = .ok (.aload_n 0, 1) := by decide +kernel
theorem dX0_insert_53 : decode cX0_insert 53 = .ok (.getfield 11, 3) := by decide +kernel
theorem dX0_insert_56 : decode cX0_insert 56 = .ok (.iload_n 1, 1) := by decide +kernel
theorem dX0_insert_57 : decode cX0_insert 57 = .ok (.aload_n 2, 1) := by decide +kernel
theorem dX0_insert_58 : decode cX0_insert 58 = .ok (.aastore, 1) := by decide +kernel
theorem dX0_insert_59 : decode cX0_insert 59 = .ok (.aload_n 0, 1) := by decide +kernel
theorem dX0_insert_60 : decode cX0_insert 60 = .ok (.dup, 1) := by decide +kernel
theorem dX0_insert_61 : decode cX0_insert 61 = .ok (.getfield 17, 3) := by decide +kernel
theorem dX0_insert_64 : decode cX0_insert 64 = .ok (.iconst 1, 1) := by decide +kernel
theorem dX0_insert_65 : decode cX0_insert 65 = .ok (.iadd, 1) := by decide +kernel
theorem dX0_insert_66 : decode cX0_insert 66 = .ok (.putfield 17, 3) := by decide +kernel
theorem dX0_insert_69 : decode cX0_insert 69 = .ok (.return_, 1) := by decide +kernel
theorem dX0_put_0 : decode cX0_put 0 = .ok (.iload_n 1, 1) := by decide +kernel
theorem dX0_put_1 : decode cX0_put 1 = .ok (.ifCond .lt 18, 3) := by decide +kernel
theorem dX0_put_4 : decode cX0_put 4 = .ok (.iload_n 1, 1) := by decide +kernel
theorem dX0_put_5 : decode cX0_put 5 = .ok (.aload_n 0, 1) := by decide +kernel
theorem dX0_put_6 : decode cX0_put 6 = .ok (.getfield 17, 3) := by decide +kernel
theorem dX0_put_9 : decode cX0_put 9 = .ok (.if_icmp .ge 10, 3) := by decide +kernel
theorem dX0_put_12 : decode cX0_put 12 = .ok (.aload_n 0, 1) := by decide +kernel
theorem dX0_put_13 : decode cX0_put 13 = .ok (.getfield 11, 3) := by decide +kernel
theorem dX0_put_16 : decode cX0_put 16 = .ok (.iload_n 1, 1) := by decide +kernel
theorem dX0_put_17 : decode cX0_put 17 = .ok (.aload_n 2, 1) := by decide +kernel
theorem dX0_put_18 : decode cX0_put 18 = .ok (.aastore, 1) := by decide +kernel
theorem dX0_put_19 : decode cX0_put 19 = .ok (.return_, 1) := by decide +kernel
theorem dX0_remove_0 : decode cX0_remove 0 = .ok (.iload_n 1, 1) := by decide +kernel
theorem dX0_remove_1 : decode cX0_remove 1 = .ok (.ifCond .lt 11, 3) := by decide +kernel
theorem dX0_remove_4 : decode cX0_remove 4 = .ok (.iload_n 1, 1) := by decide +kernel
theorem dX0_remove_5 : decode cX0_remove 5 = .ok (.aload_n 0, 1) := by decide +kernel
theorem dX0_remove_6 : decode cX0_remove 6 = .ok (.getfield 17, 3) := by decide +kernel
theorem dX0_remove_9 : decode cX0_remove 9 = .ok (.if_icmp .lt 4, 3) := by decide +kernel
theorem dX0_remove_12 : decode cX0_remove 12 = .ok (.return_, 1) := by decide +kernel
theorem dX0_remove_13 : decode cX0_remove 13 = .ok (.iload_n 1, 1) := by decide +kernel
theorem dX0_remove_14 : decode cX0_remove 14 = .ok (.iconst 1, 1) := by decide +kernel
theorem dX0_remove_15 : decode cX0_remove 15 = .ok (.iadd, 1) := by decide +kernel
theorem dX0_remove_16 : decode cX0_remove 16 = .ok (.istore_n 2, 1) := by decide +kernel
theorem dX0_remove_17 : decode cX0_remove 17 = .ok (.iload_n 2, 1) := by decide +kernel
theorem dX0_remove_18 : decode cX0_remove 18 = .ok (.aload_n 0, 1) := by decide +kernel
theorem dX0_remove_19 : decode cX0_remove 19 = .ok (.getfield 17, 3) := by decide +kernel
theorem dX0_remove_22 : decode cX0_remove 22 = .ok (.if_icmp .ge 23, 3) := by decide +kernel
theorem dX0_remove_25 : decode cX0_remove 25 = .ok (.aload_n 0, 1) := by decide +kernel
theorem dX0_remove_26 : decode cX0_remove 26 = .ok (.getfield 11, 3) := by decide +kernel
theorem dX0_remove_29 : decode cX0_remove 29 = .ok (.iload_n 2, 1) := by decide +kernel
theorem dX0_remove_30 : decode cX0_remove 30 = .ok (.iconst 1, 1) := by decide +kernel
theorem dX0_remove_31 : decode cX0_remove 31 = .ok (.isub, 1) := by decide +kernel
theorem dX0_remove_32 : decode cX0_remove 32 = .ok (.aload_n 0, 1) := by decide +kernel
theorem dX0_remove_33 : decode cX0_remove 33 = .ok (.getfield 11, 3) := by decide +kernel
theorem dX0_remove_36 : decode cX0_remove 36 = .ok (.iload_n 2, 1) := by decide +kernel
theorem dX0_remove_37 : decode cX0_remove 37 = .ok (.aaload, 1) := by decide +kernel
theorem dX0_remove_38 : decode cX0_remove 38 = .ok (.aastore, 1) := by decide +kernel
theorem dX0_remove_39 : decode cX0_remove 39 = .ok (.iinc 2 1, 3) := by decide +kernel
theorem dX0_remove_42 : decode cX0_remove 42 = .ok (.goto (-25), 3) := by decide +kernel
theorem dX0_remove_45 : decode cX0_remove 45 = .ok (.aload_n 0, 1) := by decide +kernel
theorem dX0_remove_46 : decode cX0_remove 46 = .ok (.dup, 1) := by decide +kernel
theorem dX0_remove_47 : decode cX0_remove 47 = .ok (.getfield 17, 3) := by decide +kernel
theorem dX0_remove_50 : decode cX0_remove 50 = .ok (.iconst 1, 1) := by decide +kernel
theorem dX0_remove_51 : decode cX0_remove 51 = .ok (.isub, 1) := by decide +kernel
theorem dX0_remove_52 : decode cX0_remove 52 = .ok (.putfield 17, 3) := by decide +kernel
theorem dX0_remove_55 : decode cX0_remove 55 = .ok (.aload_n 0, 1) := by decide +kernel
theorem dX0_remove_56 : decode cX0_remove 56 = .ok (.getfield 11, 3) := by decide +kernel
theorem dX0_remove_59 : decode cX0_remove 59 = .ok (.aload_n 0, 1) := by decide +kernel
theorem dX0_remove_60 : decode cX0_remove 60 = .ok (.getfield 17, 3) := by decide +kernel
theorem dX0_remove_63 : decode cX0_remove 63 = .ok (.aconst_null, 1) := by decide +kernel
theorem dX0_remove_64 : decode cX0_remove 64 = .ok (.aastore, 1) := by decide +kernel
theorem dX0_remove_65 : decode cX0_remove 65 = .ok (.return_, 1) := by decide +kernel
theorem dX0_empty_0 : decode cX0_empty 0 = .ok (.iconst 0, 1) := by decide +kernel
theorem dX0_empty_1 : decode cX0_empty 1 = .ok (.istore_n 1, 1) := by decide +kernel
theorem dX0_empty_2 : decode cX0_empty 2 = .ok (.iload_n 1, 1) := by decide +kernel
theorem dX0_empty_3 : decode cX0_empty 3 = .ok (.bipush 10, 2) := by decide +kernel
theorem dX0_empty_5 : decode cX0_empty 5 = .ok (.if_icmp .ge 16, 3) := by decide +kernel
theorem dX0_empty_8 : decode cX0_empty 8 = .ok (.aload_n 0, 1) := by decide +kernel
theorem dX0_empty_9 : decode cX0_empty 9 = .ok (.getfield 11, 3) := by decide +kernel
theorem dX0_empty_12 : decode cX0_empty 12 = .ok (.iload_n 1, 1) := by decide +kernel
theorem dX0_empty_13 : decode cX0_empty 13 = .ok (.aconst_null, 1) := by decide +kernel
theorem dX0_empty_14 : decode cX0_empty 14 = .ok (.aastore, 1) := by decide +kernel
theorem dX0_empty_15 : decode cX0_empty 15 = .ok (.iinc 1 1, 3) := by decide +kernel
theorem dX0_empty_18 : decode cX0_empty 18 = .ok (.goto (-16), 3) := by decide +kernel
theorem dX0_empty_21 : decode cX0_empty 21 = .ok (.aload_n 0, 1) := by decide +kernel
theorem dX0_empty_22 : decode cX0_empty 22 = .ok (.iconst 0, 1) := by decide +kernel
theorem dX0_empty_23 : decode cX0_empty 23 = .ok (.putfield 17, 3) := by decide +kernel
theorem dX0_empty_26 : decode cX0_empty 26 = .ok (.return_, 1) := by decide +kernel
theorem dX0_become_0 : decode cX0_become 0 = .ok (.iconst 0, 1) := by decide +kernel
theorem dX0_become_1 : decode cX0_become 1 = .ok (.istore_n 2, 1) := by decide +kernel
theorem dX0_become_2 : decode cX0_become 2 = .ok (.iload_n 2, 1) := by decide +kernel
theorem dX0_become_3 : decode cX0_become 3 = .ok (.bipush 10, 2) := by decide +kernel
theorem dX0_become_5 : decode cX0_become 5 = .ok (.if_icmp .ge 21, 3) := by decide +kernel
theorem dX0_become_8 : decode cX0_become 8 = .ok (.aload_n 0, 1) := by decide +kernel
theorem dX0_become_9 : decode cX0_become 9 = .ok (.getfield 11, 3) := by decide +kernel
theorem dX0_become_12 : decode cX0_become 12 = .ok (.iload_n 2, 1) := by decide +kernel
theorem dX0_become_13 : decode cX0_become 13 = .ok (.aload_n 1, 1) := by decide +kernel
theorem dX0_become_14 : decode cX0_become 14 = .ok (.getfield 11, 3) := by decide +kernel
theorem dX0_become_17 : decode cX0_become 17 = .ok (.iload_n 2, 1) := by decide +kernel
theorem dX0_become_18 : decode cX0_become 18 = .ok (.aaload, 1) := by decide +kernel
theorem dX0_become_19 : decode cX0_become 19 = .ok (.aastore, 1) := by decide +kernel
theorem dX0_become_20 : decode cX0_become 20 = .ok (.iinc 2 1, 3) := by decide +kernel
theorem dX0_become_23 : decode cX0_become 23 = .ok (.goto (-21), 3) := by decide +kernel
theorem dX0_become_26 : decode cX0_become 26 = .ok (.aload_n 0, 1) := by decide +kernel
theorem dX0_become_27 : decode cX0_become 27 = .ok (.aload_n 1, 1) := by decide +kernel
theorem dX0_become_28 : decode cX0_become 28 = .ok (.getfield 17, 3) := by decide +kernel
theorem dX0_become_31 : decode cX0_become 31 = .ok (.putfield 17, 3) := by decide +kernel
theorem dX0_become_34 : decode cX0_become 34 = .ok (.return_, 1) := by decide +kernel
theorem dX1_init_0 : decode cX1_init 0 = .ok (.aload_n 0, 1) := by decide +kernel
theorem dX1_init_1 : decode cX1_init 1 = .ok (.invokespecial 3, 3) := by decide +kernel
theorem dX1_init_4 : decode cX1_init 4 = .ok (.aload_n 0, 1) := by decide +kernel
theorem dX1_init_5 : decode cX1_init 5 = .ok (.bipush 60, 2) := by decide +kernel
theorem dX1_init_7 : decode cX1_init 7 = .ok (.newarray .char, 2) := by decide +kernel
theorem dX1_init_9 : decode cX1_init 9 = .ok (.putfield 9, 3) := by decide +kernel
theorem dX1_init_12 : decode cX1_init 12 = .ok (.aload_n 0, 1) := by decide +kernel
theorem dX1_init_13 : decode cX1_init 13 = .ok (.bipush 12, 2) := by decide +kernel
theorem dX1_init_15 : decode cX1_init 15 = .ok (.newarray .int, 2) := by decide +kernel
theorem dX1_init_17 : decode cX1_init 17 = .ok (.putfield 15, 3) := by decide +kernel
theorem dX1_init_20 : decode cX1_init 20 = .ok (.aload_n 0, 1) := by decide +kernel
theorem dX1_init_21 : decode cX1_init 21 = .ok (.bipush 12, 2) := by decide +kernel
theorem dX1_init_23 : decode cX1_init 23 = .ok (.newarray .int, 2) := by decide +kernel
theorem dX1_init_25 : decode cX1_init 25 = .ok (.putfield 19, 3) := by decide +kernel
theorem dX1_init_28 : decode cX1_init 28 = .ok (.aload_n 0, 1) := by decide +kernel
theorem dX1_init_29 : decode cX1_init 29 = .ok (.iconst 0, 1) := by decide +kernel
theorem dX1_init_30 : decode cX1_init 30 = .ok (.putfield 22, 3) := by decide +kernel
theorem dX1_init_33 : decode cX1_init 33 = .ok (.aload_n 0, 1) := by decide +kernel
theorem dX1_init_34 : decode cX1_init 34 = .ok (.iconst 0, 1) := by decide +kernel
theorem dX1_init_35 : decode cX1_init 35 = .ok (.putfield 26, 3) := by decide +kernel
theorem dX1_init_38 : decode cX1_init 38 = .ok (.aload_n 0, 1) := by decide +kernel
theorem dX1_init_39 : decode cX1_init 39 = .ok (.iconst (-1), 1) := by decide +kernel
theorem dX1_init_40 : decode cX1_init 40 = .ok (.putfield 29, 3) := by decide +kernel
theorem dX1_init_43 : decode cX1_init 43 = .ok (.return_, 1) := by decide +kernel
theorem dX1_append_0 : decode cX1_append 0 = .ok (.aload_n 0, 1) := by decide +kernel
theorem dX1_append_1 : decode cX1_append 1 = .ok (.getfield 26, 3) := by decide +kernel
theorem dX1_append_4 : decode cX1_append 4 = .ok (.aload_n 0, 1) := by decide +kernel
theorem dX1_append_5 : decode cX1_append 5 = .ok (.getfield 9, 3) := by decide +kernel
theorem dX1_append_8 : decode cX1_append 8 = .ok (.arraylength, 1) := by decide +kernel
theorem dX1_append_9 : decode cX1_append 9 = .ok (.if_icmp .ge 23, 3) := by decide +kernel
theorem dX1_append_12 : decode cX1_append 12 = .ok (.aload_n 0, 1) := by decide +kernel
theorem dX1_append_13 : decode cX1_append 13 = .ok (.getfield 9, 3) := by decide +kernel
theorem dX1_append_16 : decode cX1_append 16 = .ok (.aload_n 0, 1) := by decide +kernel
theorem dX1_append_17 : decode cX1_append 17 = .ok (.getfield 26, 3) := by decide +kernel
theorem dX1_append_20 : decode cX1_append 20 = .ok (.iload_n 1, 1) := by decide +kernel
theorem dX1_append_21 : decode cX1_append 21 = .ok (.castore, 1) := by decide +kernel
theorem dX1_append_22 : decode cX1_append 22 = .ok (.aload_n 0, 1) := by decide +kernel
theorem dX1_append_23 : decode cX1_append 23 = .ok (.dup, 1) := by decide +kernel
theorem dX1_append_24 : decode cX1_append 24 = .ok (.getfield 26, 3) := by decide +kernel
theorem dX1_append_27 : decode cX1_append 27 = .ok (.iconst 1, 1) := by decide +kernel
theorem dX1_append_28 : decode cX1_append 28 = .ok (.iadd, 1) := by decide +kernel
theorem dX1_append_29 : decode cX1_append 29 = .ok (.putfield 26, 3) := by decide +kernel
theorem dX1_append_32 : decode cX1_append 32 = .ok (.aload_n 0, 1) := by decide +kernel
theorem dX1_append_33 : decode cX1_append 33 = .ok (.getfield 26, 3) := by decide +kernel
theorem dX1_append_36 : decode cX1_append 36 = .ok (.ireturn, 1) := by decide +kernel
theorem dX1_takeLine_0 : decode cX1_takeLine 0 = .ok (.aload_n 0, 1) := by decide +kernel
theorem dX1_takeLine_1 : decode cX1_takeLine 1 = .ok (.iconst 0, 1) := by decide +kernel
theorem dX1_takeLine_2 : decode cX1_takeLine 2 = .ok (.putfield 22, 3) := by decide +kernel
theorem dX1_takeLine_5 : decode cX1_takeLine 5 = .ok (.aload_n 0, 1) := by decide +kernel
theorem dX1_takeLine_6 : decode cX1_takeLine 6 = .ok (.invokevirtual 32, 3) := by decide +kernel
theorem dX1_takeLine_9 : decode cX1_takeLine 9 = .ok (.astore_n 1, 1) := by decide +kernel
theorem dX1_takeLine_10 : decode cX1_takeLine 10 = .ok (.aload_n 0, 1) := by decide +kernel
theorem dX1_takeLine_11 : decode cX1_takeLine 11 = .ok (.aload_n 1, 1) := by decide +kernel
theorem dX1_takeLine_12 : decode cX1_takeLine 12 = .ok (.ifnull 7, 3) := by decide +kernel
theorem dX1_takeLine_15 : decode cX1_takeLine 15 = .ok (.iconst 1, 1) := by decide +kernel
theorem dX1_takeLine_16 : decode cX1_takeLine 16 = .ok (.goto 4, 3) := by decide +kernel
theorem dX1_takeLine_19 : decode cX1_takeLine 19 = .ok (.iconst 0, 1) := by decide +kernel
theorem dX1_takeLine_20 : decode cX1_takeLine 20 = .ok (.invokevirtual 36, 3) := by decide +kernel
theorem dX1_takeLine_23 : decode cX1_takeLine 23 = .ok (.aload_n 1, 1) := by decide +kernel
theorem dX1_takeLine_24 : decode cX1_takeLine 24 = .ok (.areturn, 1) := by decide +kernel
theorem dX1_takeMetre_0 : decode cX1_takeMetre 0 = .ok (.aload_n 0, 1) := by decide +kernel
theorem dX1_takeMetre_1 : decode cX1_takeMetre 1 = .ok (.iconst 0, 1) := by decide +kernel
theorem dX1_takeMetre_2 : decode cX1_takeMetre 2 = .ok (.putfield 22, 3) := by decide +kernel
theorem dX1_takeMetre_5 : decode cX1_takeMetre 5 = .ok (.aload_n 0, 1) := by decide +kernel
theorem dX1_takeMetre_6 : decode cX1_takeMetre 6 = .ok (.invokevirtual 40, 3) := by decide +kernel
theorem dX1_takeMetre_9 : decode cX1_takeMetre 9 = .ok (.astore_n 1, 1) := by decide +kernel
theorem dX1_takeMetre_10 : decode cX1_takeMetre 10 = .ok (.aload_n 0, 1) := by decide +kernel
theorem dX1_takeMetre_11 : decode cX1_takeMetre 11 = .ok (.aload_n 1, 1) := by decide +kernel
theorem dX1_takeMetre_12 : decode cX1_takeMetre 12 = .ok (.ifnull 7, 3) := by decide +kernel
theorem dX1_takeMetre_15 : decode cX1_takeMetre 15 = .ok (.iconst 1, 1) := by decide +kernel
theorem dX1_takeMetre_16 : decode cX1_takeMetre 16 = .ok (.goto 4, 3) := by decide +kernel
theorem dX1_takeMetre_19 : decode cX1_takeMetre 19 = .ok (.iconst 0, 1) := by decide +kernel
theorem dX1_takeMetre_20 : decode cX1_takeMetre 20 = .ok (.invokevirtual 36, 3) := by decide +kernel
theorem dX1_takeMetre_23 : decode cX1_takeMetre 23 = .ok (.aload_n 1, 1) := by decide +kernel
theorem dX1_takeMetre_24 : decode cX1_takeMetre 24 = .ok (.areturn, 1) := by decide +kernel
theorem dX1_takeMarking_0 : decode cX1_takeMarking 0 = .ok (.aload_n 0, 1) := by decide +kernel
theorem dX1_takeMarking_1 : decode cX1_takeMarking 1 = .ok (.iconst 0, 1) := by decide +kernel
theorem dX1_takeMarking_2 : decode cX1_takeMarking 2 = .ok (.putfield 22, 3) := by decide +kernel
theorem dX1_takeMarking_5 : decode cX1_takeMarking 5 = .ok (.aload_n 0, 1) := by decide +kernel
theorem dX1_takeMarking_6 : decode cX1_takeMarking 6 = .ok (.invokevirtual 44, 3) := by decide +kernel
theorem dX1_takeMarking_9 : decode cX1_takeMarking 9 = .ok (.astore_n 1, 1) := by decide +kernel
theorem dX1_takeMarking_10 : decode cX1_takeMarking 10 = .ok (.aload_n 0, 1) := by decide +kernel
theorem dX1_takeMarking_11 : decode cX1_takeMarking 11 = .ok (.aload_n 1, 1) := by decide +kernel
theorem dX1_takeMarking_12 : decode cX1_takeMarking 12 = .ok (.ifnull 7, 3) := by decide +kernel
theorem dX1_takeMarking_15 : decode cX1_takeMarking 15 = .ok (.iconst 1, 1) := by decide +kernel
theorem dX1_takeMarking_16 : decode cX1_takeMarking 16 = .ok (.goto 4, 3) := by decide +kernel
theorem dX1_takeMarking_19 : decode cX1_takeMarking 19 = .ok (.iconst 0, 1) := by decide +kernel
theorem dX1_takeMarking_20 : decode cX1_takeMarking 20 = .ok (.invokevirtual 36, 3) := by decide +kernel
theorem dX1_takeMarking_23 : decode cX1_takeMarking 23 = .ok (.aload_n 1, 1) := by decide +kernel
theorem dX1_takeMarking_24 : decode cX1_takeMarking 24 = .ok (.areturn, 1) := by decide +kernel
theorem dX1_close_0 : decode cX1_close 0 = .ok (.iload_n 1, 1) := by decide +kernel
theorem dX1_close_1 : decode cX1_close 1 = .ok (.ifCond .ne 11, 3) := by decide +kernel
theorem dX1_close_4 : decode cX1_close 4 = .ok (.aload_n 0, 1) := by decide +kernel
theorem dX1_close_5 : decode cX1_close 5 = .ok (.aload_n 0, 1) := by decide +kernel
theorem dX1_close_6 : decode cX1_close 6 = .ok (.getfield 22, 3) := by decide +kernel
theorem dX1_close_9 : decode cX1_close 9 = .ok (.putfield 29, 3) := by decide +kernel
theorem dX1_close_12 : decode cX1_close 12 = .ok (.aload_n 0, 1) := by decide +kernel
theorem dX1_close_13 : decode cX1_close 13 = .ok (.iconst 0, 1) := by decide +kernel
theorem dX1_close_14 : decode cX1_close 14 = .ok (.putfield 26, 3) := by decide +kernel
theorem dX1_close_17 : decode cX1_close 17 = .ok (.return_, 1) := by decide +kernel
theorem dX1_parseLine_0 : decode cX1_parseLine 0 = .ok (.iconst 0, 1) := by decide +kernel
theorem dX1_parseLine_1 : decode cX1_parseLine 1 = .ok (.istore_n 1, 1) := by decide +kernel
theorem dX1_parseLine_2 : decode cX1_parseLine 2 = .ok (.iconst 0, 1) := by decide +kernel
theorem dX1_parseLine_3 : decode cX1_parseLine 3 = .ok (.istore_n 2, 1) := by decide +kernel
theorem dX1_parseLine_4 : decode cX1_parseLine 4 = .ok (.iload_n 2, 1) := by decide +kernel
theorem dX1_parseLine_5 : decode cX1_parseLine 5 = .ok (.bipush 12, 2) := by decide +kernel
theorem dX1_parseLine_7 : decode cX1_parseLine 7 = .ok (.if_icmp .ge 80, 3) := by decide +kernel
theorem dX1_parseLine_10 : decode cX1_parseLine 10 = .ok (.aload_n 0, 1) := by decide +kernel
theorem dX1_parseLine_11 : decode cX1_parseLine 11 = .ok (.getfield 15, 3) := by decide +kernel
theorem dX1_parseLine_14 : decode cX1_parseLine 14 = .ok (.iload_n 2, 1) := by decide +kernel
theorem dX1_parseLine_15 : decode cX1_parseLine 15 = .ok (.aload_n 0, 1) := by decide +kernel
theorem dX1_parseLine_16 : decode cX1_parseLine 16 = .ok (.getfield 22, 3) := by decide +kernel
theorem dX1_parseLine_19 : decode cX1_parseLine 19 = .ok (.iastore, 1) := by decide +kernel
theorem dX1_parseLine_20 : decode cX1_parseLine 20 = .ok (.aload_n 0, 1) := by decide +kernel
theorem dX1_parseLine_21 : decode cX1_parseLine 21 = .ok (.invokevirtual 48, 3) := by decide +kernel
theorem dX1_parseLine_24 : decode cX1_parseLine 24 = .ok (.ifCond .ne 5, 3) := by decide +kernel
theorem dX1_parseLine_27 : decode cX1_parseLine 27 = .ok (.aconst_null, 1) := by decide +kernel
theorem dX1_parseLine_28 : decode cX1_parseLine 28 = .ok (.areturn, 1) := by decide +kernel
theorem dX1_parseLine_29 : decode cX1_parseLine 29 = .ok (.aload_n 0, 1) := by decide +kernel
theorem dX1_parseLine_30 : decode cX1_parseLine 30 = .ok (.getfield 19, 3) := by decide +kernel
theorem dX1_parseLine_33 : decode cX1_parseLine 33 = .ok (.iload_n 2, 1) := by decide +kernel
theorem dX1_parseLine_34 : decode cX1_parseLine 34 = .ok (.aload_n 0, 1) := by decide +kernel
theorem dX1_parseLine_35 : decode cX1_parseLine 35 = .ok (.getfield 22, 3) := by decide +kernel
theorem dX1_parseLine_38 : decode cX1_parseLine 38 = .ok (.iastore, 1) := by decide +kernel
theorem dX1_parseLine_39 : decode cX1_parseLine 39 = .ok (.aload_n 0, 1) := by decide +kernel
theorem dX1_parseLine_40 : decode cX1_parseLine 40 = .ok (.bipush 44, 2) := by decide +kernel
theorem dX1_parseLine_42 : decode cX1_parseLine 42 = .ok (.invokevirtual 52, 3) := by decide +kernel
theorem dX1_parseLine_45 : decode cX1_parseLine 45 = .ok (.ifCond .eq 9, 3) := by decide +kernel
theorem dX1_parseLine_48 : decode cX1_parseLine 48 = .ok (.iload_n 1, 1) := by decide +kernel
theorem dX1_parseLine_49 : decode cX1_parseLine 49 = .ok (.iconst 1, 1) := by decide +kernel
theorem dX1_parseLine_50 : decode cX1_parseLine 50 = .ok (.iload_n 2, 1) := by decide +kernel
theorem dX1_parseLine_51 : decode cX1_parseLine 51 = .ok (.ishl, 1) := by decide +kernel
theorem dX1_parseLine_52 : decode cX1_parseLine 52 = .ok (.ior, 1) := by decide +kernel
theorem dX1_parseLine_53 : decode cX1_parseLine 53 = .ok (.istore_n 1, 1) := by decide +kernel
theorem dX1_parseLine_54 : decode cX1_parseLine 54 = .ok (.aload_n 0, 1) := by decide +kernel
theorem dX1_parseLine_55 : decode cX1_parseLine 55 = .ok (.invokevirtual 56, 3) := by decide +kernel
theorem dX1_parseLine_58 : decode cX1_parseLine 58 = .ok (.ifCond .eq 12, 3) := by decide +kernel
theorem dX1_parseLine_61 : decode cX1_parseLine 61 = .ok (.aload_n 0, 1) := by decide +kernel
theorem dX1_parseLine_62 : decode cX1_parseLine 62 = .ok (.iload_n 2, 1) := by decide +kernel
theorem dX1_parseLine_63 : decode cX1_parseLine 63 = .ok (.iconst 1, 1) := by decide +kernel
theorem dX1_parseLine_64 : decode cX1_parseLine 64 = .ok (.iadd, 1) := by decide +kernel
theorem dX1_parseLine_65 : decode cX1_parseLine 65 = .ok (.iload_n 1, 1) := by decide +kernel
theorem dX1_parseLine_66 : decode cX1_parseLine 66 = .ok (.invokevirtual 60, 3) := by decide +kernel
theorem dX1_parseLine_69 : decode cX1_parseLine 69 = .ok (.areturn, 1) := by decide +kernel
theorem dX1_parseLine_70 : decode cX1_parseLine 70 = .ok (.aload_n 0, 1) := by decide +kernel
theorem dX1_parseLine_71 : decode cX1_parseLine 71 = .ok (.bipush 32, 2) := by decide +kernel
theorem dX1_parseLine_73 : decode cX1_parseLine 73 = .ok (.invokevirtual 52, 3) := by decide +kernel
theorem dX1_parseLine_76 : decode cX1_parseLine 76 = .ok (.ifCond .ne 5, 3) := by decide +kernel
theorem dX1_parseLine_79 : decode cX1_parseLine 79 = .ok (.aconst_null, 1) := by decide +kernel
theorem dX1_parseLine_80 : decode cX1_parseLine 80 = .ok (.areturn, 1) := by decide +kernel
theorem dX1_parseLine_81 : decode cX1_parseLine 81 = .ok (.iinc 2 1, 3) := by decide +kernel
theorem dX1_parseLine_84 : decode cX1_parseLine 84 = .ok (.goto (-80), 3) := by decide +kernel
theorem dX1_parseLine_87 : decode cX1_parseLine 87 = .ok (.aconst_null, 1) := by decide +kernel
theorem dX1_parseLine_88 : decode cX1_parseLine 88 = .ok (.areturn, 1) := by decide +kernel
theorem dX1_lineOf_0 : decode cX1_lineOf 0 = .ok (.iload_n 1, 1) := by decide +kernel
theorem dX1_lineOf_1 : decode cX1_lineOf 1 = .ok (.anewarray 64, 3) := by decide +kernel
theorem dX1_lineOf_4 : decode cX1_lineOf 4 = .ok (.astore_n 3, 1) := by decide +kernel
theorem dX1_lineOf_5 : decode cX1_lineOf 5 = .ok (.aconst_null, 1) := by decide +kernel
theorem dX1_lineOf_6 : decode cX1_lineOf 6 = .ok (.astore 4, 2) := by decide +kernel
theorem dX1_lineOf_8 : decode cX1_lineOf 8 = .ok (.iconst 0, 1) := by decide +kernel
theorem dX1_lineOf_9 : decode cX1_lineOf 9 = .ok (.istore 5, 2) := by decide +kernel
theorem dX1_lineOf_11 : decode cX1_lineOf 11 = .ok (.iload 5, 2) := by decide +kernel
theorem dX1_lineOf_13 : decode cX1_lineOf 13 = .ok (.iload_n 1, 1) := by decide +kernel
theorem dX1_lineOf_14 : decode cX1_lineOf 14 = .ok (.if_icmp .ge 49, 3) := by decide +kernel
theorem dX1_lineOf_17 : decode cX1_lineOf 17 = .ok (.iload 5, 2) := by decide +kernel
theorem dX1_lineOf_19 : decode cX1_lineOf 19 = .ok (.bipush 12, 2) := by decide +kernel
theorem dX1_lineOf_21 : decode cX1_lineOf 21 = .ok (.if_icmp .ge 42, 3) := by decide +kernel
theorem dX1_lineOf_24 : decode cX1_lineOf 24 = .ok (.new 64, 3) := by decide +kernel
theorem dX1_lineOf_27 : decode cX1_lineOf 27 = .ok (.dup, 1) := by decide +kernel
theorem dX1_lineOf_28 : decode cX1_lineOf 28 = .ok (.aload_n 0, 1) := by decide +kernel
theorem dX1_lineOf_29 : decode cX1_lineOf 29 = .ok (.aload_n 0, 1) := by decide +kernel
theorem dX1_lineOf_30 : decode cX1_lineOf 30 = .ok (.getfield 15, 3) := by decide +kernel
theorem dX1_lineOf_33 : decode cX1_lineOf 33 = .ok (.iload 5, 2) := by decide +kernel
theorem dX1_lineOf_35 : decode cX1_lineOf 35 = .ok (.iaload, 1) := by decide +kernel
theorem dX1_lineOf_36 : decode cX1_lineOf 36 = .ok (.aload_n 0, 1) := by decide +kernel
theorem dX1_lineOf_37 : decode cX1_lineOf 37 = .ok (.getfield 19, 3) := by decide +kernel
theorem dX1_lineOf_40 : decode cX1_lineOf 40 = .ok (.iload 5, 2) := by decide +kernel
theorem dX1_lineOf_42 : decode cX1_lineOf 42 = .ok (.iaload, 1) := by decide +kernel
theorem dX1_lineOf_43 : decode cX1_lineOf 43 = .ok (.invokevirtual 66, 3) := by decide +kernel
theorem dX1_lineOf_46 : decode cX1_lineOf 46 = .ok (.invokespecial 70, 3) := by decide +kernel
theorem dX1_lineOf_49 : decode cX1_lineOf 49 = .ok (.astore 4, 2) := by decide +kernel
theorem dX1_lineOf_51 : decode cX1_lineOf 51 = .ok (.aload_n 3, 1) := by decide +kernel
theorem dX1_lineOf_52 : decode cX1_lineOf 52 = .ok (.iload 5, 2) := by decide +kernel
theorem dX1_lineOf_54 : decode cX1_lineOf 54 = .ok (.aload 4, 2) := by decide +kernel
theorem dX1_lineOf_56 : decode cX1_lineOf 56 = .ok (.aastore, 1) := by decide +kernel
theorem dX1_lineOf_57 : decode cX1_lineOf 57 = .ok (.iinc 5 1, 3) := by decide +kernel
theorem dX1_lineOf_60 : decode cX1_lineOf 60 = .ok (.goto (-49), 3) := by decide +kernel
theorem dX1_lineOf_63 : decode cX1_lineOf 63 = .ok (.aload 4, 2) := by decide +kernel
theorem dX1_lineOf_65 : decode cX1_lineOf 65 = .ok (.ifnonnull 7, 3) := by decide +kernel
theorem dX1_lineOf_68 : decode cX1_lineOf 68 = .ok (.aconst_null, 1) := by decide +kernel
theorem dX1_lineOf_69 : decode cX1_lineOf 69 = .ok (.goto 23, 3) := by decide +kernel
theorem dX1_lineOf_72 : decode cX1_lineOf 72 = .ok (.new 73, 3) := by decide +kernel
theorem dX1_lineOf_75 : decode cX1_lineOf 75 = .ok (.dup, 1) := by decide +kernel
theorem dX1_lineOf_76 : decode cX1_lineOf 76 = .ok (.aload_n 0, 1) := by decide +kernel
theorem dX1_lineOf_77 : decode cX1_lineOf 77 = .ok (.iconst 0, 1) := by decide +kernel
theorem dX1_lineOf_78 : decode cX1_lineOf 78 = .ok (.aload_n 0, 1) := by decide +kernel
theorem dX1_lineOf_79 : decode cX1_lineOf 79 = .ok (.getfield 26, 3) := by decide +kernel
theorem dX1_lineOf_82 : decode cX1_lineOf 82 = .ok (.invokevirtual 66, 3) := by decide +kernel
theorem dX1_lineOf_85 : decode cX1_lineOf 85 = .ok (.aload_n 3, 1) := by decide +kernel
theorem dX1_lineOf_86 : decode cX1_lineOf 86 = .ok (.iload_n 2, 1) := by decide +kernel
theorem dX1_lineOf_87 : decode cX1_lineOf 87 = .ok (.aload 4, 2) := by decide +kernel
theorem dX1_lineOf_89 : decode cX1_lineOf 89 = .ok (.invokespecial 75, 3) := by decide +kernel
theorem dX1_lineOf_92 : decode cX1_lineOf 92 = .ok (.areturn, 1) := by decide +kernel
theorem dX1_parseMetre_0 : decode cX1_parseMetre 0 = .ok (.aload_n 0, 1) := by decide +kernel
theorem dX1_parseMetre_1 : decode cX1_parseMetre 1 = .ok (.iconst 0, 1) := by decide +kernel
theorem dX1_parseMetre_2 : decode cX1_parseMetre 2 = .ok (.invokevirtual 78, 3) := by decide +kernel
theorem dX1_parseMetre_5 : decode cX1_parseMetre 5 = .ok (.invokestatic 82, 3) := by decide +kernel
theorem dX1_parseMetre_8 : decode cX1_parseMetre 8 = .ok (.istore_n 1, 1) := by decide +kernel
theorem dX1_parseMetre_9 : decode cX1_parseMetre 9 = .ok (.iload_n 1, 1) := by decide +kernel
theorem dX1_parseMetre_10 : decode cX1_parseMetre 10 = .ok (.iconst (-1), 1) := by decide +kernel
theorem dX1_parseMetre_11 : decode cX1_parseMetre 11 = .ok (.if_icmp .eq 23, 3) := by decide +kernel
theorem dX1_parseMetre_14 : decode cX1_parseMetre 14 = .ok (.aload_n 0, 1) := by decide +kernel
theorem dX1_parseMetre_15 : decode cX1_parseMetre 15 = .ok (.iload_n 1, 1) := by decide +kernel
theorem dX1_parseMetre_16 : decode cX1_parseMetre 16 = .ok (.invokestatic 86, 3) := by decide +kernel
theorem dX1_parseMetre_19 : decode cX1_parseMetre 19 = .ok (.invokevirtual 90, 3) := by decide +kernel
theorem dX1_parseMetre_22 : decode cX1_parseMetre 22 = .ok (.ifCond .eq 12, 3) := by decide +kernel
theorem dX1_parseMetre_25 : decode cX1_parseMetre 25 = .ok (.aload_n 0, 1) := by decide +kernel
theorem dX1_parseMetre_26 : decode cX1_parseMetre 26 = .ok (.bipush 32, 2) := by decide +kernel
theorem dX1_parseMetre_28 : decode cX1_parseMetre 28 = .ok (.invokevirtual 52, 3) := by decide +kernel
theorem dX1_parseMetre_31 : decode cX1_parseMetre 31 = .ok (.ifCond .ne 5, 3) := by decide +kernel
theorem dX1_parseMetre_34 : decode cX1_parseMetre 34 = .ok (.aconst_null, 1) := by decide +kernel
theorem dX1_parseMetre_35 : decode cX1_parseMetre 35 = .ok (.areturn, 1) := by decide +kernel
theorem dX1_parseMetre_36 : decode cX1_parseMetre 36 = .ok (.aload_n 0, 1) := by decide +kernel
theorem dX1_parseMetre_37 : decode cX1_parseMetre 37 = .ok (.iconst 2, 1) := by decide +kernel
theorem dX1_parseMetre_38 : decode cX1_parseMetre 38 = .ok (.bipush 6, 2) := by decide +kernel
theorem dX1_parseMetre_40 : decode cX1_parseMetre 40 = .ok (.invokevirtual 94, 3) := by decide +kernel
theorem dX1_parseMetre_43 : decode cX1_parseMetre 43 = .ok (.istore_n 2, 1) := by decide +kernel
theorem dX1_parseMetre_44 : decode cX1_parseMetre 44 = .ok (.iload_n 2, 1) := by decide +kernel
theorem dX1_parseMetre_45 : decode cX1_parseMetre 45 = .ok (.iconst (-1), 1) := by decide +kernel
theorem dX1_parseMetre_46 : decode cX1_parseMetre 46 = .ok (.if_icmp .ne 5, 3) := by decide +kernel
theorem dX1_parseMetre_49 : decode cX1_parseMetre 49 = .ok (.aconst_null, 1) := by decide +kernel
theorem dX1_parseMetre_50 : decode cX1_parseMetre 50 = .ok (.areturn, 1) := by decide +kernel
theorem dX1_parseMetre_51 : decode cX1_parseMetre 51 = .ok (.iconst 0, 1) := by decide +kernel
theorem dX1_parseMetre_52 : decode cX1_parseMetre 52 = .ok (.istore_n 3, 1) := by decide +kernel
theorem dX1_parseMetre_53 : decode cX1_parseMetre 53 = .ok (.aload_n 0, 1) := by decide +kernel
theorem dX1_parseMetre_54 : decode cX1_parseMetre 54 = .ok (.bipush 47, 2) := by decide +kernel
theorem dX1_parseMetre_56 : decode cX1_parseMetre 56 = .ok (.invokevirtual 52, 3) := by decide +kernel
theorem dX1_parseMetre_59 : decode cX1_parseMetre 59 = .ok (.ifCond .eq 12, 3) := by decide +kernel
theorem dX1_parseMetre_62 : decode cX1_parseMetre 62 = .ok (.aload_n 0, 1) := by decide +kernel
theorem dX1_parseMetre_63 : decode cX1_parseMetre 63 = .ok (.iconst 1, 1) := by decide +kernel
theorem dX1_parseMetre_64 : decode cX1_parseMetre 64 = .ok (.iload_n 2, 1) := by decide +kernel
theorem dX1_parseMetre_65 : decode cX1_parseMetre 65 = .ok (.iconst 1, 1) := by decide +kernel
theorem dX1_parseMetre_66 : decode cX1_parseMetre 66 = .ok (.isub, 1) := by decide +kernel
theorem dX1_parseMetre_67 : decode cX1_parseMetre 67 = .ok (.invokevirtual 94, 3) := by decide +kernel
theorem dX1_parseMetre_70 : decode cX1_parseMetre 70 = .ok (.istore_n 3, 1) := by decide +kernel
theorem dX1_parseMetre_71 : decode cX1_parseMetre 71 = .ok (.iload_n 3, 1) := by decide +kernel
theorem dX1_parseMetre_72 : decode cX1_parseMetre 72 = .ok (.iconst (-1), 1) := by decide +kernel
theorem dX1_parseMetre_73 : decode cX1_parseMetre 73 = .ok (.if_icmp .eq 23, 3) := by decide +kernel
theorem dX1_parseMetre_76 : decode cX1_parseMetre 76 = .ok (.aload_n 0, 1) := by decide +kernel
theorem dX1_parseMetre_77 : decode cX1_parseMetre 77 = .ok (.invokevirtual 56, 3) := by decide +kernel
theorem dX1_parseMetre_80 : decode cX1_parseMetre 80 = .ok (.ifCond .eq 16, 3) := by decide +kernel
theorem dX1_parseMetre_83 : decode cX1_parseMetre 83 = .ok (.new 98, 3) := by decide +kernel
theorem dX1_parseMetre_86 : decode cX1_parseMetre 86 = .ok (.dup, 1) := by decide +kernel
theorem dX1_parseMetre_87 : decode cX1_parseMetre 87 = .ok (.iload_n 1, 1) := by decide +kernel
theorem dX1_parseMetre_88 : decode cX1_parseMetre 88 = .ok (.iload_n 2, 1) := by decide +kernel
theorem dX1_parseMetre_89 : decode cX1_parseMetre 89 = .ok (.iload_n 3, 1) := by decide +kernel
theorem dX1_parseMetre_90 : decode cX1_parseMetre 90 = .ok (.invokespecial 100, 3) := by decide +kernel
theorem dX1_parseMetre_93 : decode cX1_parseMetre 93 = .ok (.goto 4, 3) := by decide +kernel
theorem dX1_parseMetre_96 : decode cX1_parseMetre 96 = .ok (.aconst_null, 1) := by decide +kernel
theorem dX1_parseMetre_97 : decode cX1_parseMetre 97 = .ok (.areturn, 1) := by decide +kernel
theorem dX1_parseMarking_0 : decode cX1_parseMarking 0 = .ok (.aload_n 0, 1) := by decide +kernel
theorem dX1_parseMarking_1 : decode cX1_parseMarking 1 = .ok (.invokevirtual 48, 3) := by decide +kernel
theorem dX1_parseMarking_4 : decode cX1_parseMarking 4 = .ok (.istore_n 1, 1) := by decide +kernel
theorem dX1_parseMarking_5 : decode cX1_parseMarking 5 = .ok (.iload_n 1, 1) := by decide +kernel
theorem dX1_parseMarking_6 : decode cX1_parseMarking 6 = .ok (.ifCond .eq 12, 3) := by decide +kernel
theorem dX1_parseMarking_9 : decode cX1_parseMarking 9 = .ok (.aload_n 0, 1) := by decide +kernel
theorem dX1_parseMarking_10 : decode cX1_parseMarking 10 = .ok (.bipush 32, 2) := by decide +kernel
theorem dX1_parseMarking_12 : decode cX1_parseMarking 12 = .ok (.invokevirtual 52, 3) := by decide +kernel
theorem dX1_parseMarking_15 : decode cX1_parseMarking 15 = .ok (.ifCond .ne 5, 3) := by decide +kernel
theorem dX1_parseMarking_18 : decode cX1_parseMarking 18 = .ok (.aconst_null, 1) := by decide +kernel
theorem dX1_parseMarking_19 : decode cX1_parseMarking 19 = .ok (.areturn, 1) := by decide +kernel
theorem dX1_parseMarking_20 : decode cX1_parseMarking 20 = .ok (.aload_n 0, 1) := by decide +kernel
theorem dX1_parseMarking_21 : decode cX1_parseMarking 21 = .ok (.getfield 22, 3) := by decide +kernel
theorem dX1_parseMarking_24 : decode cX1_parseMarking 24 = .ok (.istore_n 2, 1) := by decide +kernel
theorem dX1_parseMarking_25 : decode cX1_parseMarking 25 = .ok (.iconst 0, 1) := by decide +kernel
theorem dX1_parseMarking_26 : decode cX1_parseMarking 26 = .ok (.istore_n 3, 1) := by decide +kernel
theorem dX1_parseMarking_27 : decode cX1_parseMarking 27 = .ok (.iload_n 3, 1) := by decide +kernel
theorem dX1_parseMarking_28 : decode cX1_parseMarking 28 = .ok (.bipush 6, 2) := by decide +kernel
theorem dX1_parseMarking_30 : decode cX1_parseMarking 30 = .ok (.if_icmp .ge 19, 3) := by decide +kernel
theorem dX1_parseMarking_33 : decode cX1_parseMarking 33 = .ok (.aload_n 0, 1) := by decide +kernel
theorem dX1_parseMarking_34 : decode cX1_parseMarking 34 = .ok (.iconst 0, 1) := by decide +kernel
theorem dX1_parseMarking_35 : decode cX1_parseMarking 35 = .ok (.iconst 2, 1) := by decide +kernel
theorem dX1_parseMarking_36 : decode cX1_parseMarking 36 = .ok (.invokevirtual 94, 3) := by decide +kernel
theorem dX1_parseMarking_39 : decode cX1_parseMarking 39 = .ok (.iconst (-1), 1) := by decide +kernel
theorem dX1_parseMarking_40 : decode cX1_parseMarking 40 = .ok (.if_icmp .eq 9, 3) := by decide +kernel
theorem dX1_parseMarking_43 : decode cX1_parseMarking 43 = .ok (.iinc 3 1, 3) := by decide +kernel
theorem dX1_parseMarking_46 : decode cX1_parseMarking 46 = .ok (.goto (-19), 3) := by decide +kernel
theorem dX1_parseMarking_49 : decode cX1_parseMarking 49 = .ok (.iload_n 3, 1) := by decide +kernel
theorem dX1_parseMarking_50 : decode cX1_parseMarking 50 = .ok (.ifCond .eq 10, 3) := by decide +kernel
theorem dX1_parseMarking_53 : decode cX1_parseMarking 53 = .ok (.aload_n 0, 1) := by decide +kernel
theorem dX1_parseMarking_54 : decode cX1_parseMarking 54 = .ok (.invokevirtual 56, 3) := by decide +kernel
theorem dX1_parseMarking_57 : decode cX1_parseMarking 57 = .ok (.ifCond .ne 5, 3) := by decide +kernel
theorem dX1_parseMarking_60 : decode cX1_parseMarking 60 = .ok (.aconst_null, 1) := by decide +kernel
theorem dX1_parseMarking_61 : decode cX1_parseMarking 61 = .ok (.areturn, 1) := by decide +kernel
theorem dX1_parseMarking_62 : decode cX1_parseMarking 62 = .ok (.iload_n 3, 1) := by decide +kernel
theorem dX1_parseMarking_63 : decode cX1_parseMarking 63 = .ok (.newarray .int, 2) := by decide +kernel
theorem dX1_parseMarking_65 : decode cX1_parseMarking 65 = .ok (.astore 4, 2) := by decide +kernel
theorem dX1_parseMarking_67 : decode cX1_parseMarking 67 = .ok (.iconst 0, 1) := by decide +kernel
theorem dX1_parseMarking_68 : decode cX1_parseMarking 68 = .ok (.istore 5, 2) := by decide +kernel
theorem dX1_parseMarking_70 : decode cX1_parseMarking 70 = .ok (.iload 5, 2) := by decide +kernel
theorem dX1_parseMarking_72 : decode cX1_parseMarking 72 = .ok (.iload_n 3, 1) := by decide +kernel
theorem dX1_parseMarking_73 : decode cX1_parseMarking 73 = .ok (.if_icmp .ge 25, 3) := by decide +kernel
theorem dX1_parseMarking_76 : decode cX1_parseMarking 76 = .ok (.aload 4, 2) := by decide +kernel
theorem dX1_parseMarking_78 : decode cX1_parseMarking 78 = .ok (.iload 5, 2) := by decide +kernel
theorem dX1_parseMarking_80 : decode cX1_parseMarking 80 = .ok (.aload_n 0, 1) := by decide +kernel
theorem dX1_parseMarking_81 : decode cX1_parseMarking 81 = .ok (.iload_n 2, 1) := by decide +kernel
theorem dX1_parseMarking_82 : decode cX1_parseMarking 82 = .ok (.iload 5, 2) := by decide +kernel
theorem dX1_parseMarking_84 : decode cX1_parseMarking 84 = .ok (.iadd, 1) := by decide +kernel
theorem dX1_parseMarking_85 : decode cX1_parseMarking 85 = .ok (.invokevirtual 78, 3) := by decide +kernel
theorem dX1_parseMarking_88 : decode cX1_parseMarking 88 = .ok (.bipush 48, 2) := by decide +kernel
theorem dX1_parseMarking_90 : decode cX1_parseMarking 90 = .ok (.isub, 1) := by decide +kernel
theorem dX1_parseMarking_91 : decode cX1_parseMarking 91 = .ok (.iastore, 1) := by decide +kernel
theorem dX1_parseMarking_92 : decode cX1_parseMarking 92 = .ok (.iinc 5 1, 3) := by decide +kernel
theorem dX1_parseMarking_95 : decode cX1_parseMarking 95 = .ok (.goto (-25), 3) := by decide +kernel
theorem dX1_parseMarking_98 : decode cX1_parseMarking 98 = .ok (.new 103, 3) := by decide +kernel
theorem dX1_parseMarking_101 : decode cX1_parseMarking 101 = .ok (.dup, 1) := by decide +kernel
theorem dX1_parseMarking_102 : decode cX1_parseMarking 102 = .ok (.new 64, 3) := by decide +kernel
theorem dX1_parseMarking_105 : decode cX1_parseMarking 105 = .ok (.dup, 1) := by decide +kernel
theorem dX1_parseMarking_106 : decode cX1_parseMarking 106 = .ok (.aload_n 0, 1) := by decide +kernel
theorem dX1_parseMarking_107 : decode cX1_parseMarking 107 = .ok (.iconst 0, 1) := by decide +kernel
theorem dX1_parseMarking_108 : decode cX1_parseMarking 108 = .ok (.iload_n 1, 1) := by decide +kernel
theorem dX1_parseMarking_109 : decode cX1_parseMarking 109 = .ok (.invokevirtual 66, 3) := by decide +kernel
theorem dX1_parseMarking_112 : decode cX1_parseMarking 112 = .ok (.invokespecial 70, 3) := by decide +kernel
theorem dX1_parseMarking_115 : decode cX1_parseMarking 115 = .ok (.aload 4, 2) := by decide +kernel
theorem dX1_parseMarking_117 : decode cX1_parseMarking 117 = .ok (.invokespecial 105, 3) := by decide +kernel
theorem dX1_parseMarking_120 : decode cX1_parseMarking 120 = .ok (.areturn, 1) := by decide +kernel
theorem dX1_kindFrom_0 : decode cX1_kindFrom 0 = .ok (.iconst 0, 1) := by decide +kernel
theorem dX1_kindFrom_1 : decode cX1_kindFrom 1 = .ok (.istore_n 1, 1) := by decide +kernel
theorem dX1_kindFrom_2 : decode cX1_kindFrom 2 = .ok (.iload_n 1, 1) := by decide +kernel
theorem dX1_kindFrom_3 : decode cX1_kindFrom 3 = .ok (.iconst 4, 1) := by decide +kernel
theorem dX1_kindFrom_4 : decode cX1_kindFrom 4 = .ok (.if_icmp .ge 23, 3) := by decide +kernel
theorem dX1_kindFrom_7 : decode cX1_kindFrom 7 = .ok (.iload_n 1, 1) := by decide +kernel
theorem dX1_kindFrom_8 : decode cX1_kindFrom 8 = .ok (.invokestatic 86, 3) := by decide +kernel
theorem dX1_kindFrom_11 : decode cX1_kindFrom 11 = .ok (.iconst 0, 1) := by decide +kernel
theorem dX1_kindFrom_12 : decode cX1_kindFrom 12 = .ok (.invokevirtual 108, 3) := by decide +kernel
theorem dX1_kindFrom_15 : decode cX1_kindFrom 15 = .ok (.iload_n 0, 1) := by decide +kernel
theorem dX1_kindFrom_16 : decode cX1_kindFrom 16 = .ok (.if_icmp .ne 5, 3) := by decide +kernel
theorem dX1_kindFrom_19 : decode cX1_kindFrom 19 = .ok (.iload_n 1, 1) := by decide +kernel
theorem dX1_kindFrom_20 : decode cX1_kindFrom 20 = .ok (.ireturn, 1) := by decide +kernel
theorem dX1_kindFrom_21 : decode cX1_kindFrom 21 = .ok (.iinc 1 1, 3) := by decide +kernel
theorem dX1_kindFrom_24 : decode cX1_kindFrom 24 = .ok (.goto (-22), 3) := by decide +kernel
theorem dX1_kindFrom_27 : decode cX1_kindFrom 27 = .ok (.iconst (-1), 1) := by decide +kernel
theorem dX1_kindFrom_28 : decode cX1_kindFrom 28 = .ok (.ireturn, 1) := by decide +kernel
theorem dX1_nameOf_0 : decode cX1_nameOf 0 = .ok (.iload_n 0, 1) := by decide +kernel
theorem dX1_nameOf_1 : decode cX1_nameOf 1 = .ok (.tableswitch 36 0 2 #[27, 30, 33], 27) := by decide +kernel
theorem dX1_nameOf_28 : decode cX1_nameOf 28 = .ok (.ldc 113, 2) := by decide +kernel
theorem dX1_nameOf_30 : decode cX1_nameOf 30 = .ok (.areturn, 1) := by decide +kernel
theorem dX1_nameOf_31 : decode cX1_nameOf 31 = .ok (.ldc 115, 2) := by decide +kernel
theorem dX1_nameOf_33 : decode cX1_nameOf 33 = .ok (.areturn, 1) := by decide +kernel
theorem dX1_nameOf_34 : decode cX1_nameOf 34 = .ok (.ldc 117, 2) := by decide +kernel
theorem dX1_nameOf_36 : decode cX1_nameOf 36 = .ok (.areturn, 1) := by decide +kernel
theorem dX1_nameOf_37 : decode cX1_nameOf 37 = .ok (.ldc 119, 2) := by decide +kernel
theorem dX1_nameOf_39 : decode cX1_nameOf 39 = .ok (.areturn, 1) := by decide +kernel
theorem dX1_copyOf_0 : decode cX1_copyOf 0 = .ok (.iconst 0, 1) := by decide +kernel
theorem dX1_copyOf_1 : decode cX1_copyOf 1 = .ok (.iload_n 2, 1) := by decide +kernel
theorem dX1_copyOf_2 : decode cX1_copyOf 2 = .ok (.iload_n 1, 1) := by decide +kernel
theorem dX1_copyOf_3 : decode cX1_copyOf 3 = .ok (.isub, 1) := by decide +kernel
theorem dX1_copyOf_4 : decode cX1_copyOf 4 = .ok (.invokestatic 121, 3) := by decide +kernel
theorem dX1_copyOf_7 : decode cX1_copyOf 7 = .ok (.newarray .char, 2) := by decide +kernel
theorem dX1_copyOf_9 : decode cX1_copyOf 9 = .ok (.astore_n 3, 1) := by decide +kernel
theorem dX1_copyOf_10 : decode cX1_copyOf 10 = .ok (.iconst 0, 1) := by decide +kernel
theorem dX1_copyOf_11 : decode cX1_copyOf 11 = .ok (.istore 4, 2) := by decide +kernel
theorem dX1_copyOf_13 : decode cX1_copyOf 13 = .ok (.iload 4, 2) := by decide +kernel
theorem dX1_copyOf_15 : decode cX1_copyOf 15 = .ok (.aload_n 3, 1) := by decide +kernel
theorem dX1_copyOf_16 : decode cX1_copyOf 16 = .ok (.arraylength, 1) := by decide +kernel
theorem dX1_copyOf_17 : decode cX1_copyOf 17 = .ok (.if_icmp .ge 21, 3) := by decide +kernel
theorem dX1_copyOf_20 : decode cX1_copyOf 20 = .ok (.aload_n 3, 1) := by decide +kernel
theorem dX1_copyOf_21 : decode cX1_copyOf 21 = .ok (.iload 4, 2) := by decide +kernel
theorem dX1_copyOf_23 : decode cX1_copyOf 23 = .ok (.aload_n 0, 1) := by decide +kernel
theorem dX1_copyOf_24 : decode cX1_copyOf 24 = .ok (.iload_n 1, 1) := by decide +kernel
theorem dX1_copyOf_25 : decode cX1_copyOf 25 = .ok (.iload 4, 2) := by decide +kernel
theorem dX1_copyOf_27 : decode cX1_copyOf 27 = .ok (.iadd, 1) := by decide +kernel
theorem dX1_copyOf_28 : decode cX1_copyOf 28 = .ok (.invokevirtual 78, 3) := by decide +kernel
theorem dX1_copyOf_31 : decode cX1_copyOf 31 = .ok (.castore, 1) := by decide +kernel
theorem dX1_copyOf_32 : decode cX1_copyOf 32 = .ok (.iinc 4 1, 3) := by decide +kernel
theorem dX1_copyOf_35 : decode cX1_copyOf 35 = .ok (.goto (-22), 3) := by decide +kernel
theorem dX1_copyOf_38 : decode cX1_copyOf 38 = .ok (.aload_n 3, 1) := by decide +kernel
theorem dX1_copyOf_39 : decode cX1_copyOf 39 = .ok (.areturn, 1) := by decide +kernel
theorem dX1_characterAt_0 : decode cX1_characterAt 0 = .ok (.iload_n 1, 1) := by decide +kernel
theorem dX1_characterAt_1 : decode cX1_characterAt 1 = .ok (.ifCond .lt 24, 3) := by decide +kernel
theorem dX1_characterAt_4 : decode cX1_characterAt 4 = .ok (.iload_n 1, 1) := by decide +kernel
theorem dX1_characterAt_5 : decode cX1_characterAt 5 = .ok (.aload_n 0, 1) := by decide +kernel
theorem dX1_characterAt_6 : decode cX1_characterAt 6 = .ok (.getfield 26, 3) := by decide +kernel
theorem dX1_characterAt_9 : decode cX1_characterAt 9 = .ok (.if_icmp .ge 16, 3) := by decide +kernel
theorem dX1_characterAt_12 : decode cX1_characterAt 12 = .ok (.iload_n 1, 1) := by decide +kernel
theorem dX1_characterAt_13 : decode cX1_characterAt 13 = .ok (.aload_n 0, 1) := by decide +kernel
theorem dX1_characterAt_14 : decode cX1_characterAt 14 = .ok (.getfield 9, 3) := by decide +kernel
theorem dX1_characterAt_17 : decode cX1_characterAt 17 = .ok (.arraylength, 1) := by decide +kernel
theorem dX1_characterAt_18 : decode cX1_characterAt 18 = .ok (.if_icmp .ge 7, 3) := by decide +kernel
theorem dX1_characterAt_21 : decode cX1_characterAt 21 = .ok (.iconst 1, 1) := by decide +kernel
theorem dX1_characterAt_22 : decode cX1_characterAt 22 = .ok (.goto 4, 3) := by decide +kernel
theorem dX1_characterAt_25 : decode cX1_characterAt 25 = .ok (.iconst 0, 1) := by decide +kernel
theorem dX1_characterAt_26 : decode cX1_characterAt 26 = .ok (.istore_n 2, 1) := by decide +kernel
theorem dX1_characterAt_27 : decode cX1_characterAt 27 = .ok (.iload_n 2, 1) := by decide +kernel
theorem dX1_characterAt_28 : decode cX1_characterAt 28 = .ok (.ifCond .eq 12, 3) := by decide +kernel
theorem dX1_characterAt_31 : decode cX1_characterAt 31 = .ok (.aload_n 0, 1) := by decide +kernel
theorem dX1_characterAt_32 : decode cX1_characterAt 32 = .ok (.getfield 9, 3) := by decide +kernel
theorem dX1_characterAt_35 : decode cX1_characterAt 35 = .ok (.iload_n 1, 1) := by decide +kernel
theorem dX1_characterAt_36 : decode cX1_characterAt 36 = .ok (.caload, 1) := by decide +kernel
theorem dX1_characterAt_37 : decode cX1_characterAt 37 = .ok (.goto 4, 3) := by decide +kernel
theorem dX1_characterAt_40 : decode cX1_characterAt 40 = .ok (.iconst 0, 1) := by decide +kernel
theorem dX1_characterAt_41 : decode cX1_characterAt 41 = .ok (.ireturn, 1) := by decide +kernel
theorem dX1_isAtEnd_0 : decode cX1_isAtEnd 0 = .ok (.aload_n 0, 1) := by decide +kernel
theorem dX1_isAtEnd_1 : decode cX1_isAtEnd 1 = .ok (.getfield 22, 3) := by decide +kernel
theorem dX1_isAtEnd_4 : decode cX1_isAtEnd 4 = .ok (.aload_n 0, 1) := by decide +kernel
theorem dX1_isAtEnd_5 : decode cX1_isAtEnd 5 = .ok (.getfield 26, 3) := by decide +kernel
theorem dX1_isAtEnd_8 : decode cX1_isAtEnd 8 = .ok (.if_icmp .lt 7, 3) := by decide +kernel
theorem dX1_isAtEnd_11 : decode cX1_isAtEnd 11 = .ok (.iconst 1, 1) := by decide +kernel
theorem dX1_isAtEnd_12 : decode cX1_isAtEnd 12 = .ok (.goto 4, 3) := by decide +kernel
theorem dX1_isAtEnd_15 : decode cX1_isAtEnd 15 = .ok (.iconst 0, 1) := by decide +kernel
theorem dX1_isAtEnd_16 : decode cX1_isAtEnd 16 = .ok (.ireturn, 1) := by decide +kernel
theorem dX1_pass_0 : decode cX1_pass 0 = .ok (.aload_n 0, 1) := by decide +kernel
theorem dX1_pass_1 : decode cX1_pass 1 = .ok (.invokevirtual 56, 3) := by decide +kernel
theorem dX1_pass_4 : decode cX1_pass 4 = .ok (.ifCond .ne 15, 3) := by decide +kernel
theorem dX1_pass_7 : decode cX1_pass 7 = .ok (.aload_n 0, 1) := by decide +kernel
theorem dX1_pass_8 : decode cX1_pass 8 = .ok (.aload_n 0, 1) := by decide +kernel
theorem dX1_pass_9 : decode cX1_pass 9 = .ok (.getfield 22, 3) := by decide +kernel
theorem dX1_pass_12 : decode cX1_pass 12 = .ok (.invokevirtual 78, 3) := by decide +kernel
theorem dX1_pass_15 : decode cX1_pass 15 = .ok (.iload_n 1, 1) := by decide +kernel
theorem dX1_pass_16 : decode cX1_pass 16 = .ok (.if_icmp .eq 5, 3) := by decide +kernel
theorem dX1_pass_19 : decode cX1_pass 19 = .ok (.iconst 0, 1) := by decide +kernel
theorem dX1_pass_20 : decode cX1_pass 20 = .ok (.ireturn, 1) := by decide +kernel
theorem dX1_pass_21 : decode cX1_pass 21 = .ok (.aload_n 0, 1) := by decide +kernel
theorem dX1_pass_22 : decode cX1_pass 22 = .ok (.dup, 1) := by decide +kernel
theorem dX1_pass_23 : decode cX1_pass 23 = .ok (.getfield 22, 3) := by decide +kernel
theorem dX1_pass_26 : decode cX1_pass 26 = .ok (.iconst 1, 1) := by decide +kernel
theorem dX1_pass_27 : decode cX1_pass 27 = .ok (.iadd, 1) := by decide +kernel
theorem dX1_pass_28 : decode cX1_pass 28 = .ok (.putfield 22, 3) := by decide +kernel
theorem dX1_pass_31 : decode cX1_pass 31 = .ok (.iconst 1, 1) := by decide +kernel
theorem dX1_pass_32 : decode cX1_pass 32 = .ok (.ireturn, 1) := by decide +kernel
theorem dX1_passAll_0 : decode cX1_passAll 0 = .ok (.iconst 0, 1) := by decide +kernel
theorem dX1_passAll_1 : decode cX1_passAll 1 = .ok (.istore_n 2, 1) := by decide +kernel
theorem dX1_passAll_2 : decode cX1_passAll 2 = .ok (.iload_n 2, 1) := by decide +kernel
theorem dX1_passAll_3 : decode cX1_passAll 3 = .ok (.aload_n 1, 1) := by decide +kernel
theorem dX1_passAll_4 : decode cX1_passAll 4 = .ok (.invokevirtual 126, 3) := by decide +kernel
theorem dX1_passAll_7 : decode cX1_passAll 7 = .ok (.if_icmp .ge 23, 3) := by decide +kernel
theorem dX1_passAll_10 : decode cX1_passAll 10 = .ok (.aload_n 0, 1) := by decide +kernel
theorem dX1_passAll_11 : decode cX1_passAll 11 = .ok (.aload_n 1, 1) := by decide +kernel
theorem dX1_passAll_12 : decode cX1_passAll 12 = .ok (.iload_n 2, 1) := by decide +kernel
theorem dX1_passAll_13 : decode cX1_passAll 13 = .ok (.invokevirtual 108, 3) := by decide +kernel
theorem dX1_passAll_16 : decode cX1_passAll 16 = .ok (.invokevirtual 52, 3) := by decide +kernel
theorem dX1_passAll_19 : decode cX1_passAll 19 = .ok (.ifCond .ne 5, 3) := by decide +kernel
theorem dX1_passAll_22 : decode cX1_passAll 22 = .ok (.iconst 0, 1) := by decide +kernel
theorem dX1_passAll_23 : decode cX1_passAll 23 = .ok (.ireturn, 1) := by decide +kernel
theorem dX1_passAll_24 : decode cX1_passAll 24 = .ok (.iinc 2 1, 3) := by decide +kernel
theorem dX1_passAll_27 : decode cX1_passAll 27 = .ok (.goto (-25), 3) := by decide +kernel
theorem dX1_passAll_30 : decode cX1_passAll 30 = .ok (.iconst 1, 1) := by decide +kernel
theorem dX1_passAll_31 : decode cX1_passAll 31 = .ok (.ireturn, 1) := by decide +kernel
theorem dX1_passLetters_0 : decode cX1_passLetters 0 = .ok (.iconst 0, 1) := by decide +kernel
theorem dX1_passLetters_1 : decode cX1_passLetters 1 = .ok (.istore_n 1, 1) := by decide +kernel
theorem dX1_passLetters_2 : decode cX1_passLetters 2 = .ok (.iload_n 1, 1) := by decide +kernel
theorem dX1_passLetters_3 : decode cX1_passLetters 3 = .ok (.bipush 12, 2) := by decide +kernel
theorem dX1_passLetters_5 : decode cX1_passLetters 5 = .ok (.if_icmp .ge 45, 3) := by decide +kernel
theorem dX1_passLetters_8 : decode cX1_passLetters 8 = .ok (.aload_n 0, 1) := by decide +kernel
theorem dX1_passLetters_9 : decode cX1_passLetters 9 = .ok (.aload_n 0, 1) := by decide +kernel
theorem dX1_passLetters_10 : decode cX1_passLetters 10 = .ok (.getfield 22, 3) := by decide +kernel
theorem dX1_passLetters_13 : decode cX1_passLetters 13 = .ok (.invokevirtual 78, 3) := by decide +kernel
theorem dX1_passLetters_16 : decode cX1_passLetters 16 = .ok (.bipush 97, 2) := by decide +kernel
theorem dX1_passLetters_18 : decode cX1_passLetters 18 = .ok (.if_icmp .lt 32, 3) := by decide +kernel
theorem dX1_passLetters_21 : decode cX1_passLetters 21 = .ok (.aload_n 0, 1) := by decide +kernel
theorem dX1_passLetters_22 : decode cX1_passLetters 22 = .ok (.aload_n 0, 1) := by decide +kernel
theorem dX1_passLetters_23 : decode cX1_passLetters 23 = .ok (.getfield 22, 3) := by decide +kernel
theorem dX1_passLetters_26 : decode cX1_passLetters 26 = .ok (.invokevirtual 78, 3) := by decide +kernel
theorem dX1_passLetters_29 : decode cX1_passLetters 29 = .ok (.bipush 122, 2) := by decide +kernel
theorem dX1_passLetters_31 : decode cX1_passLetters 31 = .ok (.if_icmp .gt 19, 3) := by decide +kernel
theorem dX1_passLetters_34 : decode cX1_passLetters 34 = .ok (.aload_n 0, 1) := by decide +kernel
theorem dX1_passLetters_35 : decode cX1_passLetters 35 = .ok (.dup, 1) := by decide +kernel
theorem dX1_passLetters_36 : decode cX1_passLetters 36 = .ok (.getfield 22, 3) := by decide +kernel
theorem dX1_passLetters_39 : decode cX1_passLetters 39 = .ok (.iconst 1, 1) := by decide +kernel
theorem dX1_passLetters_40 : decode cX1_passLetters 40 = .ok (.iadd, 1) := by decide +kernel
theorem dX1_passLetters_41 : decode cX1_passLetters 41 = .ok (.putfield 22, 3) := by decide +kernel
theorem dX1_passLetters_44 : decode cX1_passLetters 44 = .ok (.iinc 1 1, 3) := by decide +kernel
theorem dX1_passLetters_47 : decode cX1_passLetters 47 = .ok (.goto (-45), 3) := by decide +kernel
theorem dX1_passLetters_50 : decode cX1_passLetters 50 = .ok (.iload_n 1, 1) := by decide +kernel
theorem dX1_passLetters_51 : decode cX1_passLetters 51 = .ok (.ireturn, 1) := by decide +kernel
theorem dX1_passDigit_0 : decode cX1_passDigit 0 = .ok (.aload_n 0, 1) := by decide +kernel
theorem dX1_passDigit_1 : decode cX1_passDigit 1 = .ok (.aload_n 0, 1) := by decide +kernel
theorem dX1_passDigit_2 : decode cX1_passDigit 2 = .ok (.getfield 22, 3) := by decide +kernel
theorem dX1_passDigit_5 : decode cX1_passDigit 5 = .ok (.invokevirtual 78, 3) := by decide +kernel
theorem dX1_passDigit_8 : decode cX1_passDigit 8 = .ok (.bipush 48, 2) := by decide +kernel
theorem dX1_passDigit_10 : decode cX1_passDigit 10 = .ok (.isub, 1) := by decide +kernel
theorem dX1_passDigit_11 : decode cX1_passDigit 11 = .ok (.istore_n 3, 1) := by decide +kernel
theorem dX1_passDigit_12 : decode cX1_passDigit 12 = .ok (.iload_n 3, 1) := by decide +kernel
theorem dX1_passDigit_13 : decode cX1_passDigit 13 = .ok (.iload_n 1, 1) := by decide +kernel
theorem dX1_passDigit_14 : decode cX1_passDigit 14 = .ok (.if_icmp .lt 8, 3) := by decide +kernel
theorem dX1_passDigit_17 : decode cX1_passDigit 17 = .ok (.iload_n 3, 1) := by decide +kernel
theorem dX1_passDigit_18 : decode cX1_passDigit 18 = .ok (.iload_n 2, 1) := by decide +kernel
theorem dX1_passDigit_19 : decode cX1_passDigit 19 = .ok (.if_icmp .le 5, 3) := by decide +kernel
theorem dX1_passDigit_22 : decode cX1_passDigit 22 = .ok (.iconst (-1), 1) := by decide +kernel
theorem dX1_passDigit_23 : decode cX1_passDigit 23 = .ok (.ireturn, 1) := by decide +kernel
theorem dX1_passDigit_24 : decode cX1_passDigit 24 = .ok (.aload_n 0, 1) := by decide +kernel
theorem dX1_passDigit_25 : decode cX1_passDigit 25 = .ok (.dup, 1) := by decide +kernel
theorem dX1_passDigit_26 : decode cX1_passDigit 26 = .ok (.getfield 22, 3) := by decide +kernel
theorem dX1_passDigit_29 : decode cX1_passDigit 29 = .ok (.iconst 1, 1) := by decide +kernel
theorem dX1_passDigit_30 : decode cX1_passDigit 30 = .ok (.iadd, 1) := by decide +kernel
theorem dX1_passDigit_31 : decode cX1_passDigit 31 = .ok (.putfield 22, 3) := by decide +kernel
theorem dX1_passDigit_34 : decode cX1_passDigit 34 = .ok (.iload_n 3, 1) := by decide +kernel
theorem dX1_passDigit_35 : decode cX1_passDigit 35 = .ok (.ireturn, 1) := by decide +kernel
theorem dX2_init_0 : decode cX2_init 0 = .ok (.aload_n 0, 1) := by decide +kernel
theorem dX2_init_1 : decode cX2_init 1 = .ok (.invokespecial 1, 3) := by decide +kernel
theorem dX2_init_4 : decode cX2_init 4 = .ok (.aload_n 0, 1) := by decide +kernel
theorem dX2_init_5 : decode cX2_init 5 = .ok (.aload_n 1, 1) := by decide +kernel
theorem dX2_init_6 : decode cX2_init 6 = .ok (.putfield 7, 3) := by decide +kernel
theorem dX2_init_9 : decode cX2_init 9 = .ok (.aload_n 0, 1) := by decide +kernel
theorem dX2_init_10 : decode cX2_init 10 = .ok (.aload_n 2, 1) := by decide +kernel
theorem dX2_init_11 : decode cX2_init 11 = .ok (.putfield 13, 3) := by decide +kernel
theorem dX2_init_14 : decode cX2_init 14 = .ok (.aload_n 0, 1) := by decide +kernel
theorem dX2_init_15 : decode cX2_init 15 = .ok (.iload_n 3, 1) := by decide +kernel
theorem dX2_init_16 : decode cX2_init 16 = .ok (.putfield 17, 3) := by decide +kernel
theorem dX2_init_19 : decode cX2_init 19 = .ok (.aload_n 0, 1) := by decide +kernel
theorem dX2_init_20 : decode cX2_init 20 = .ok (.aload 4, 2) := by decide +kernel
theorem dX2_init_22 : decode cX2_init 22 = .ok (.putfield 21, 3) := by decide +kernel
theorem dX2_init_25 : decode cX2_init 25 = .ok (.aload_n 0, 1) := by decide +kernel
theorem dX2_init_26 : decode cX2_init 26 = .ok (.aload_n 2, 1) := by decide +kernel
theorem dX2_init_27 : decode cX2_init 27 = .ok (.arraylength, 1) := by decide +kernel
theorem dX2_init_28 : decode cX2_init 28 = .ok (.putfield 25, 3) := by decide +kernel
theorem dX2_init_31 : decode cX2_init 31 = .ok (.return_, 1) := by decide +kernel
theorem dX2_wordAt_0 : decode cX2_wordAt 0 = .ok (.iload_n 1, 1) := by decide +kernel
theorem dX2_wordAt_1 : decode cX2_wordAt 1 = .ok (.ifCond .lt 21, 3) := by decide +kernel
theorem dX2_wordAt_4 : decode cX2_wordAt 4 = .ok (.iload_n 1, 1) := by decide +kernel
theorem dX2_wordAt_5 : decode cX2_wordAt 5 = .ok (.aload_n 0, 1) := by decide +kernel
theorem dX2_wordAt_6 : decode cX2_wordAt 6 = .ok (.getfield 13, 3) := by decide +kernel
theorem dX2_wordAt_9 : decode cX2_wordAt 9 = .ok (.arraylength, 1) := by decide +kernel
theorem dX2_wordAt_10 : decode cX2_wordAt 10 = .ok (.if_icmp .ge 12, 3) := by decide +kernel
theorem dX2_wordAt_13 : decode cX2_wordAt 13 = .ok (.aload_n 0, 1) := by decide +kernel
theorem dX2_wordAt_14 : decode cX2_wordAt 14 = .ok (.getfield 13, 3) := by decide +kernel
theorem dX2_wordAt_17 : decode cX2_wordAt 17 = .ok (.iload_n 1, 1) := by decide +kernel
theorem dX2_wordAt_18 : decode cX2_wordAt 18 = .ok (.aaload, 1) := by decide +kernel
theorem dX2_wordAt_19 : decode cX2_wordAt 19 = .ok (.goto 4, 3) := by decide +kernel
theorem dX2_wordAt_22 : decode cX2_wordAt 22 = .ok (.aconst_null, 1) := by decide +kernel
theorem dX2_wordAt_23 : decode cX2_wordAt 23 = .ok (.areturn, 1) := by decide +kernel
theorem dX3_init_0 : decode cX3_init 0 = .ok (.aload_n 0, 1) := by decide +kernel
theorem dX3_init_1 : decode cX3_init 1 = .ok (.invokespecial 3, 3) := by decide +kernel
theorem dX3_init_4 : decode cX3_init 4 = .ok (.aload_n 0, 1) := by decide +kernel
theorem dX3_init_5 : decode cX3_init 5 = .ok (.aload_n 1, 1) := by decide +kernel
theorem dX3_init_6 : decode cX3_init 6 = .ok (.putfield 9, 3) := by decide +kernel
theorem dX3_init_9 : decode cX3_init 9 = .ok (.aload_n 0, 1) := by decide +kernel
theorem dX3_init_10 : decode cX3_init 10 = .ok (.aload_n 2, 1) := by decide +kernel
theorem dX3_init_11 : decode cX3_init 11 = .ok (.putfield 15, 3) := by decide +kernel
theorem dX3_init_14 : decode cX3_init 14 = .ok (.aload_n 0, 1) := by decide +kernel
theorem dX3_init_15 : decode cX3_init 15 = .ok (.aload_n 2, 1) := by decide +kernel
theorem dX3_init_16 : decode cX3_init 16 = .ok (.arraylength, 1) := by decide +kernel
theorem dX3_init_17 : decode cX3_init 17 = .ok (.putfield 19, 3) := by decide +kernel
theorem dX3_init_20 : decode cX3_init 20 = .ok (.return_, 1) := by decide +kernel
theorem dX3_markAt_0 : decode cX3_markAt 0 = .ok (.iload_n 1, 1) := by decide +kernel
theorem dX3_markAt_1 : decode cX3_markAt 1 = .ok (.ifCond .lt 21, 3) := by decide +kernel
theorem dX3_markAt_4 : decode cX3_markAt 4 = .ok (.iload_n 1, 1) := by decide +kernel
theorem dX3_markAt_5 : decode cX3_markAt 5 = .ok (.aload_n 0, 1) := by decide +kernel
theorem dX3_markAt_6 : decode cX3_markAt 6 = .ok (.getfield 15, 3) := by decide +kernel
theorem dX3_markAt_9 : decode cX3_markAt 9 = .ok (.arraylength, 1) := by decide +kernel
theorem dX3_markAt_10 : decode cX3_markAt 10 = .ok (.if_icmp .ge 12, 3) := by decide +kernel
theorem dX3_markAt_13 : decode cX3_markAt 13 = .ok (.aload_n 0, 1) := by decide +kernel
theorem dX3_markAt_14 : decode cX3_markAt 14 = .ok (.getfield 15, 3) := by decide +kernel
theorem dX3_markAt_17 : decode cX3_markAt 17 = .ok (.iload_n 1, 1) := by decide +kernel
theorem dX3_markAt_18 : decode cX3_markAt 18 = .ok (.iaload, 1) := by decide +kernel
theorem dX3_markAt_19 : decode cX3_markAt 19 = .ok (.goto 4, 3) := by decide +kernel
theorem dX3_markAt_22 : decode cX3_markAt 22 = .ok (.iconst 0, 1) := by decide +kernel
theorem dX3_markAt_23 : decode cX3_markAt 23 = .ok (.ireturn, 1) := by decide +kernel
theorem dX4_init_0 : decode cX4_init 0 = .ok (.aload_n 0, 1) := by decide +kernel
theorem dX4_init_1 : decode cX4_init 1 = .ok (.invokespecial 3, 3) := by decide +kernel
theorem dX4_init_4 : decode cX4_init 4 = .ok (.aload_n 0, 1) := by decide +kernel
theorem dX4_init_5 : decode cX4_init 5 = .ok (.iload_n 1, 1) := by decide +kernel
theorem dX4_init_6 : decode cX4_init 6 = .ok (.putfield 9, 3) := by decide +kernel
theorem dX4_init_9 : decode cX4_init 9 = .ok (.aload_n 0, 1) := by decide +kernel
theorem dX4_init_10 : decode cX4_init 10 = .ok (.iload_n 2, 1) := by decide +kernel
theorem dX4_init_11 : decode cX4_init 11 = .ok (.putfield 15, 3) := by decide +kernel
theorem dX4_init_14 : decode cX4_init 14 = .ok (.aload_n 0, 1) := by decide +kernel
theorem dX4_init_15 : decode cX4_init 15 = .ok (.iload_n 3, 1) := by decide +kernel
theorem dX4_init_16 : decode cX4_init 16 = .ok (.putfield 18, 3) := by decide +kernel
theorem dX4_init_19 : decode cX4_init 19 = .ok (.aload_n 0, 1) := by decide +kernel
theorem dX4_init_20 : decode cX4_init 20 = .ok (.iload_n 1, 1) := by decide +kernel
theorem dX4_init_21 : decode cX4_init 21 = .ok (.ifCond .eq 8, 3) := by decide +kernel
theorem dX4_init_24 : decode cX4_init 24 = .ok (.iload_n 1, 1) := by decide +kernel
theorem dX4_init_25 : decode cX4_init 25 = .ok (.iconst 1, 1) := by decide +kernel
theorem dX4_init_26 : decode cX4_init 26 = .ok (.if_icmp .ne 7, 3) := by decide +kernel
theorem dX4_init_29 : decode cX4_init 29 = .ok (.iconst 2, 1) := by decide +kernel
theorem dX4_init_30 : decode cX4_init 30 = .ok (.goto 4, 3) := by decide +kernel
theorem dX4_init_33 : decode cX4_init 33 = .ok (.iconst 3, 1) := by decide +kernel
theorem dX4_init_34 : decode cX4_init 34 = .ok (.putfield 21, 3) := by decide +kernel
theorem dX4_init_37 : decode cX4_init 37 = .ok (.aload_n 0, 1) := by decide +kernel
theorem dX4_init_38 : decode cX4_init 38 = .ok (.iload_n 2, 1) := by decide +kernel
theorem dX4_init_39 : decode cX4_init 39 = .ok (.aload_n 0, 1) := by decide +kernel
theorem dX4_init_40 : decode cX4_init 40 = .ok (.getfield 21, 3) := by decide +kernel
theorem dX4_init_43 : decode cX4_init 43 = .ok (.imul, 1) := by decide +kernel
theorem dX4_init_44 : decode cX4_init 44 = .ok (.putfield 24, 3) := by decide +kernel
theorem dX4_init_47 : decode cX4_init 47 = .ok (.iload_n 1, 1) := by decide +kernel
theorem dX4_init_48 : decode cX4_init 48 = .ok (.ifCond .eq 8, 3) := by decide +kernel
theorem dX4_init_51 : decode cX4_init 51 = .ok (.iload_n 1, 1) := by decide +kernel
theorem dX4_init_52 : decode cX4_init 52 = .ok (.iconst 2, 1) := by decide +kernel
theorem dX4_init_53 : decode cX4_init 53 = .ok (.if_icmp .ne 12, 3) := by decide +kernel
theorem dX4_init_56 : decode cX4_init 56 = .ok (.aload_n 0, 1) := by decide +kernel
theorem dX4_init_57 : decode cX4_init 57 = .ok (.getfield 21, 3) := by decide +kernel
theorem dX4_init_60 : decode cX4_init 60 = .ok (.iconst 1, 1) := by decide +kernel
theorem dX4_init_61 : decode cX4_init 61 = .ok (.isub, 1) := by decide +kernel
theorem dX4_init_62 : decode cX4_init 62 = .ok (.goto 4, 3) := by decide +kernel
theorem dX4_init_65 : decode cX4_init 65 = .ok (.iconst 0, 1) := by decide +kernel
theorem dX4_init_66 : decode cX4_init 66 = .ok (.istore 4, 2) := by decide +kernel
theorem dX4_init_68 : decode cX4_init 68 = .ok (.iconst 0, 1) := by decide +kernel
theorem dX4_init_69 : decode cX4_init 69 = .ok (.istore 5, 2) := by decide +kernel
theorem dX4_init_71 : decode cX4_init 71 = .ok (.iconst 0, 1) := by decide +kernel
theorem dX4_init_72 : decode cX4_init 72 = .ok (.istore 6, 2) := by decide +kernel
theorem dX4_init_74 : decode cX4_init 74 = .ok (.iload 6, 2) := by decide +kernel
theorem dX4_init_76 : decode cX4_init 76 = .ok (.iload_n 2, 1) := by decide +kernel
theorem dX4_init_77 : decode cX4_init 77 = .ok (.if_icmp .ge 26, 3) := by decide +kernel
theorem dX4_init_80 : decode cX4_init 80 = .ok (.iload 5, 2) := by decide +kernel
theorem dX4_init_82 : decode cX4_init 82 = .ok (.iconst 1, 1) := by decide +kernel
theorem dX4_init_83 : decode cX4_init 83 = .ok (.iload 6, 2) := by decide +kernel
theorem dX4_init_85 : decode cX4_init 85 = .ok (.aload_n 0, 1) := by decide +kernel
theorem dX4_init_86 : decode cX4_init 86 = .ok (.getfield 21, 3) := by decide +kernel
theorem dX4_init_89 : decode cX4_init 89 = .ok (.imul, 1) := by decide +kernel
theorem dX4_init_90 : decode cX4_init 90 = .ok (.iload 4, 2) := by decide +kernel
theorem dX4_init_92 : decode cX4_init 92 = .ok (.iadd, 1) := by decide +kernel
theorem dX4_init_93 : decode cX4_init 93 = .ok (.ishl, 1) := by decide +kernel
theorem dX4_init_94 : decode cX4_init 94 = .ok (.ior, 1) := by decide +kernel
theorem dX4_init_95 : decode cX4_init 95 = .ok (.istore 5, 2) := by decide +kernel
theorem dX4_init_97 : decode cX4_init 97 = .ok (.iinc 6 1, 3) := by decide +kernel
theorem dX4_init_100 : decode cX4_init 100 = .ok (.goto (-26), 3) := by decide +kernel
theorem dX4_init_103 : decode cX4_init 103 = .ok (.aload_n 0, 1) := by decide +kernel
theorem dX4_init_104 : decode cX4_init 104 = .ok (.iload 5, 2) := by decide +kernel
theorem dX4_init_106 : decode cX4_init 106 = .ok (.putfield 27, 3) := by decide +kernel
theorem dX4_init_109 : decode cX4_init 109 = .ok (.aload_n 0, 1) := by decide +kernel
theorem dX4_init_110 : decode cX4_init 110 = .ok (.iload 5, 2) := by decide +kernel
theorem dX4_init_112 : decode cX4_init 112 = .ok (.iconst 1, 1) := by decide +kernel
theorem dX4_init_113 : decode cX4_init 113 = .ok (.iload 4, 2) := by decide +kernel
theorem dX4_init_115 : decode cX4_init 115 = .ok (.ishl, 1) := by decide +kernel
theorem dX4_init_116 : decode cX4_init 116 = .ok (.ixor, 1) := by decide +kernel
theorem dX4_init_117 : decode cX4_init 117 = .ok (.iconst 1, 1) := by decide +kernel
theorem dX4_init_118 : decode cX4_init 118 = .ok (.aload_n 0, 1) := by decide +kernel
theorem dX4_init_119 : decode cX4_init 119 = .ok (.getfield 21, 3) := by decide +kernel
theorem dX4_init_122 : decode cX4_init 122 = .ok (.iconst 1, 1) := by decide +kernel
theorem dX4_init_123 : decode cX4_init 123 = .ok (.isub, 1) := by decide +kernel
theorem dX4_init_124 : decode cX4_init 124 = .ok (.iload 4, 2) := by decide +kernel
theorem dX4_init_126 : decode cX4_init 126 = .ok (.isub, 1) := by decide +kernel
theorem dX4_init_127 : decode cX4_init 127 = .ok (.ishl, 1) := by decide +kernel
theorem dX4_init_128 : decode cX4_init 128 = .ok (.ixor, 1) := by decide +kernel
theorem dX4_init_129 : decode cX4_init 129 = .ok (.putfield 30, 3) := by decide +kernel
theorem dX4_init_132 : decode cX4_init 132 = .ok (.return_, 1) := by decide +kernel
theorem dX4_behindCaesura_0 : decode cX4_behindCaesura 0 = .ok (.aload_n 0, 1) := by decide +kernel
theorem dX4_behindCaesura_1 : decode cX4_behindCaesura 1 = .ok (.getfield 18, 3) := by decide +kernel
theorem dX4_behindCaesura_4 : decode cX4_behindCaesura 4 = .ok (.ifCond .ne 7, 3) := by decide +kernel
theorem dX4_behindCaesura_7 : decode cX4_behindCaesura 7 = .ok (.iconst (-1), 1) := by decide +kernel
theorem dX4_behindCaesura_8 : decode cX4_behindCaesura 8 = .ok (.goto 12, 3) := by decide +kernel
theorem dX4_behindCaesura_11 : decode cX4_behindCaesura 11 = .ok (.aload_n 0, 1) := by decide +kernel
theorem dX4_behindCaesura_12 : decode cX4_behindCaesura 12 = .ok (.getfield 18, 3) := by decide +kernel
theorem dX4_behindCaesura_15 : decode cX4_behindCaesura 15 = .ok (.aload_n 0, 1) := by decide +kernel
theorem dX4_behindCaesura_16 : decode cX4_behindCaesura 16 = .ok (.getfield 21, 3) := by decide +kernel
theorem dX4_behindCaesura_19 : decode cX4_behindCaesura 19 = .ok (.imul, 1) := by decide +kernel
theorem dX4_behindCaesura_20 : decode cX4_behindCaesura 20 = .ok (.ireturn, 1) := by decide +kernel
theorem dX4_fewestSyllables_0 : decode cX4_fewestSyllables 0 = .ok (.aload_n 0, 1) := by decide +kernel
theorem dX4_fewestSyllables_1 : decode cX4_fewestSyllables 1 = .ok (.getfield 27, 3) := by decide +kernel
theorem dX4_fewestSyllables_4 : decode cX4_fewestSyllables 4 = .ok (.aload_n 0, 1) := by decide +kernel
theorem dX4_fewestSyllables_5 : decode cX4_fewestSyllables 5 = .ok (.getfield 24, 3) := by decide +kernel
theorem dX4_fewestSyllables_8 : decode cX4_fewestSyllables 8 = .ok (.iconst 1, 1) := by decide +kernel
theorem dX4_fewestSyllables_9 : decode cX4_fewestSyllables 9 = .ok (.isub, 1) := by decide +kernel
theorem dX4_fewestSyllables_10 : decode cX4_fewestSyllables 10 = .ok (.ishr, 1) := by decide +kernel
theorem dX4_fewestSyllables_11 : decode cX4_fewestSyllables 11 = .ok (.iconst 1, 1) := by decide +kernel
theorem dX4_fewestSyllables_12 : decode cX4_fewestSyllables 12 = .ok (.iand, 1) := by decide +kernel
theorem dX4_fewestSyllables_13 : decode cX4_fewestSyllables 13 = .ok (.iconst 1, 1) := by decide +kernel
theorem dX4_fewestSyllables_14 : decode cX4_fewestSyllables 14 = .ok (.if_icmp .ne 7, 3) := by decide +kernel
theorem dX4_fewestSyllables_17 : decode cX4_fewestSyllables 17 = .ok (.iconst 1, 1) := by decide +kernel
theorem dX4_fewestSyllables_18 : decode cX4_fewestSyllables 18 = .ok (.goto 4, 3) := by decide +kernel
theorem dX4_fewestSyllables_21 : decode cX4_fewestSyllables 21 = .ok (.iconst 0, 1) := by decide +kernel
theorem dX4_fewestSyllables_22 : decode cX4_fewestSyllables 22 = .ok (.istore_n 1, 1) := by decide +kernel
theorem dX4_fewestSyllables_23 : decode cX4_fewestSyllables 23 = .ok (.iload_n 1, 1) := by decide +kernel
theorem dX4_fewestSyllables_24 : decode cX4_fewestSyllables 24 = .ok (.ifCond .eq 10, 3) := by decide +kernel
theorem dX4_fewestSyllables_27 : decode cX4_fewestSyllables 27 = .ok (.aload_n 0, 1) := by decide +kernel
theorem dX4_fewestSyllables_28 : decode cX4_fewestSyllables 28 = .ok (.getfield 24, 3) := by decide +kernel
theorem dX4_fewestSyllables_31 : decode cX4_fewestSyllables 31 = .ok (.goto 9, 3) := by decide +kernel
theorem dX4_fewestSyllables_34 : decode cX4_fewestSyllables 34 = .ok (.aload_n 0, 1) := by decide +kernel
theorem dX4_fewestSyllables_35 : decode cX4_fewestSyllables 35 = .ok (.getfield 24, 3) := by decide +kernel
theorem dX4_fewestSyllables_38 : decode cX4_fewestSyllables 38 = .ok (.iconst 1, 1) := by decide +kernel
theorem dX4_fewestSyllables_39 : decode cX4_fewestSyllables 39 = .ok (.isub, 1) := by decide +kernel
theorem dX4_fewestSyllables_40 : decode cX4_fewestSyllables 40 = .ok (.ireturn, 1) := by decide +kernel
theorem dX5_init_0 : decode cX5_init 0 = .ok (.aload_n 0, 1) := by decide +kernel
theorem dX5_init_1 : decode cX5_init 1 = .ok (.invokespecial 3, 3) := by decide +kernel
theorem dX5_init_4 : decode cX5_init 4 = .ok (.aload_n 0, 1) := by decide +kernel
theorem dX5_init_5 : decode cX5_init 5 = .ok (.iconst 0, 1) := by decide +kernel
theorem dX5_init_6 : decode cX5_init 6 = .ok (.putfield 9, 3) := by decide +kernel
theorem dX5_init_9 : decode cX5_init 9 = .ok (.aload_n 0, 1) := by decide +kernel
theorem dX5_init_10 : decode cX5_init 10 = .ok (.iconst 0, 1) := by decide +kernel
theorem dX5_init_11 : decode cX5_init 11 = .ok (.putfield 15, 3) := by decide +kernel
theorem dX5_init_14 : decode cX5_init 14 = .ok (.aload_n 0, 1) := by decide +kernel
theorem dX5_init_15 : decode cX5_init 15 = .ok (.iconst 0, 1) := by decide +kernel
theorem dX5_init_16 : decode cX5_init 16 = .ok (.putfield 18, 3) := by decide +kernel
theorem dX5_init_19 : decode cX5_init 19 = .ok (.aload_n 0, 1) := by decide +kernel
theorem dX5_init_20 : decode cX5_init 20 = .ok (.iconst 0, 1) := by decide +kernel
theorem dX5_init_21 : decode cX5_init 21 = .ok (.putfield 21, 3) := by decide +kernel
theorem dX5_init_24 : decode cX5_init 24 = .ok (.aload_n 0, 1) := by decide +kernel
theorem dX5_init_25 : decode cX5_init 25 = .ok (.iconst 0, 1) := by decide +kernel
theorem dX5_init_26 : decode cX5_init 26 = .ok (.putfield 24, 3) := by decide +kernel
theorem dX5_init_29 : decode cX5_init 29 = .ok (.aload_n 0, 1) := by decide +kernel
theorem dX5_init_30 : decode cX5_init 30 = .ok (.iconst 0, 1) := by decide +kernel
theorem dX5_init_31 : decode cX5_init 31 = .ok (.putfield 27, 3) := by decide +kernel
theorem dX5_init_34 : decode cX5_init 34 = .ok (.aload_n 0, 1) := by decide +kernel
theorem dX5_init_35 : decode cX5_init 35 = .ok (.bipush 12, 2) := by decide +kernel
theorem dX5_init_37 : decode cX5_init 37 = .ok (.newarray .int, 2) := by decide +kernel
theorem dX5_init_39 : decode cX5_init 39 = .ok (.putfield 30, 3) := by decide +kernel
theorem dX5_init_42 : decode cX5_init 42 = .ok (.aload_n 0, 1) := by decide +kernel
theorem dX5_init_43 : decode cX5_init 43 = .ok (.bipush 72, 2) := by decide +kernel
theorem dX5_init_45 : decode cX5_init 45 = .ok (.newarray .int, 2) := by decide +kernel
theorem dX5_init_47 : decode cX5_init 47 = .ok (.putfield 34, 3) := by decide +kernel
theorem dX5_init_50 : decode cX5_init 50 = .ok (.return_, 1) := by decide +kernel
theorem dX5_fill_0 : decode cX5_fill 0 = .ok (.aload_n 0, 1) := by decide +kernel
theorem dX5_fill_1 : decode cX5_fill 1 = .ok (.iconst 0, 1) := by decide +kernel
theorem dX5_fill_2 : decode cX5_fill 2 = .ok (.putfield 9, 3) := by decide +kernel
theorem dX5_fill_5 : decode cX5_fill 5 = .ok (.aload_n 0, 1) := by decide +kernel
theorem dX5_fill_6 : decode cX5_fill 6 = .ok (.iconst 0, 1) := by decide +kernel
theorem dX5_fill_7 : decode cX5_fill 7 = .ok (.putfield 15, 3) := by decide +kernel
theorem dX5_fill_10 : decode cX5_fill 10 = .ok (.aload_n 0, 1) := by decide +kernel
theorem dX5_fill_11 : decode cX5_fill 11 = .ok (.iconst 0, 1) := by decide +kernel
theorem dX5_fill_12 : decode cX5_fill 12 = .ok (.putfield 18, 3) := by decide +kernel
theorem dX5_fill_15 : decode cX5_fill 15 = .ok (.aload_n 0, 1) := by decide +kernel
theorem dX5_fill_16 : decode cX5_fill 16 = .ok (.aload_n 1, 1) := by decide +kernel
theorem dX5_fill_17 : decode cX5_fill 17 = .ok (.getfield 37, 3) := by decide +kernel
theorem dX5_fill_20 : decode cX5_fill 20 = .ok (.putfield 21, 3) := by decide +kernel
theorem dX5_fill_23 : decode cX5_fill 23 = .ok (.aload_n 0, 1) := by decide +kernel
theorem dX5_fill_24 : decode cX5_fill 24 = .ok (.iconst 0, 1) := by decide +kernel
theorem dX5_fill_25 : decode cX5_fill 25 = .ok (.putfield 24, 3) := by decide +kernel
theorem dX5_fill_28 : decode cX5_fill 28 = .ok (.iconst 0, 1) := by decide +kernel
theorem dX5_fill_29 : decode cX5_fill 29 = .ok (.istore_n 3, 1) := by decide +kernel
theorem dX5_fill_30 : decode cX5_fill 30 = .ok (.iload_n 3, 1) := by decide +kernel
theorem dX5_fill_31 : decode cX5_fill 31 = .ok (.aload_n 1, 1) := by decide +kernel
theorem dX5_fill_32 : decode cX5_fill 32 = .ok (.getfield 40, 3) := by decide +kernel
theorem dX5_fill_35 : decode cX5_fill 35 = .ok (.if_icmp .ge 58, 3) := by decide +kernel
theorem dX5_fill_38 : decode cX5_fill 38 = .ok (.iload_n 3, 1) := by decide +kernel
theorem dX5_fill_39 : decode cX5_fill 39 = .ok (.bipush 12, 2) := by decide +kernel
theorem dX5_fill_41 : decode cX5_fill 41 = .ok (.if_icmp .ge 52, 3) := by decide +kernel
theorem dX5_fill_44 : decode cX5_fill 44 = .ok (.aload_n 1, 1) := by decide +kernel
theorem dX5_fill_45 : decode cX5_fill 45 = .ok (.iload_n 3, 1) := by decide +kernel
theorem dX5_fill_46 : decode cX5_fill 46 = .ok (.invokevirtual 43, 3) := by decide +kernel
theorem dX5_fill_49 : decode cX5_fill 49 = .ok (.astore 4, 2) := by decide +kernel
theorem dX5_fill_51 : decode cX5_fill 51 = .ok (.aload 4, 2) := by decide +kernel
theorem dX5_fill_53 : decode cX5_fill 53 = .ok (.ifnull 34, 3) := by decide +kernel
theorem dX5_fill_56 : decode cX5_fill 56 = .ok (.aload_n 0, 1) := by decide +kernel
theorem dX5_fill_57 : decode cX5_fill 57 = .ok (.iload_n 3, 1) := by decide +kernel
theorem dX5_fill_58 : decode cX5_fill 58 = .ok (.aload 4, 2) := by decide +kernel
theorem dX5_fill_60 : decode cX5_fill 60 = .ok (.aload_n 2, 1) := by decide +kernel
theorem dX5_fill_61 : decode cX5_fill 61 = .ok (.aload_n 2, 1) := by decide +kernel
theorem dX5_fill_62 : decode cX5_fill 62 = .ok (.aload 4, 2) := by decide +kernel
theorem dX5_fill_64 : decode cX5_fill 64 = .ok (.invokevirtual 47, 3) := by decide +kernel
theorem dX5_fill_67 : decode cX5_fill 67 = .ok (.invokevirtual 53, 3) := by decide +kernel
theorem dX5_fill_70 : decode cX5_fill 70 = .ok (.invokevirtual 57, 3) := by decide +kernel
theorem dX5_fill_73 : decode cX5_fill 73 = .ok (.aload_n 0, 1) := by decide +kernel
theorem dX5_fill_74 : decode cX5_fill 74 = .ok (.iload_n 3, 1) := by decide +kernel
theorem dX5_fill_75 : decode cX5_fill 75 = .ok (.aload 4, 2) := by decide +kernel
theorem dX5_fill_77 : decode cX5_fill 77 = .ok (.aload_n 1, 1) := by decide +kernel
theorem dX5_fill_78 : decode cX5_fill 78 = .ok (.iload_n 3, 1) := by decide +kernel
theorem dX5_fill_79 : decode cX5_fill 79 = .ok (.iconst 1, 1) := by decide +kernel
theorem dX5_fill_80 : decode cX5_fill 80 = .ok (.iadd, 1) := by decide +kernel
theorem dX5_fill_81 : decode cX5_fill 81 = .ok (.invokevirtual 43, 3) := by decide +kernel
theorem dX5_fill_84 : decode cX5_fill 84 = .ok (.invokevirtual 61, 3) := by decide +kernel
theorem dX5_fill_87 : decode cX5_fill 87 = .ok (.iinc 3 1, 3) := by decide +kernel
theorem dX5_fill_90 : decode cX5_fill 90 = .ok (.goto (-60), 3) := by decide +kernel
theorem dX5_fill_93 : decode cX5_fill 93 = .ok (.aload_n 0, 1) := by decide +kernel
theorem dX5_fill_94 : decode cX5_fill 94 = .ok (.aload_n 0, 1) := by decide +kernel
theorem dX5_fill_95 : decode cX5_fill 95 = .ok (.invokevirtual 65, 3) := by decide +kernel
theorem dX5_fill_98 : decode cX5_fill 98 = .ok (.putfield 27, 3) := by decide +kernel
theorem dX5_fill_101 : decode cX5_fill 101 = .ok (.return_, 1) := by decide +kernel
theorem dX5_fillWord_0 : decode cX5_fillWord 0 = .ok (.iload_n 1, 1) := by decide +kernel
theorem dX5_fillWord_1 : decode cX5_fillWord 1 = .ok (.ifCond .lt 9, 3) := by decide +kernel
theorem dX5_fillWord_4 : decode cX5_fillWord 4 = .ok (.iload_n 1, 1) := by decide +kernel
theorem dX5_fillWord_5 : decode cX5_fillWord 5 = .ok (.bipush 12, 2) := by decide +kernel
theorem dX5_fillWord_7 : decode cX5_fillWord 7 = .ok (.if_icmp .lt 4, 3) := by decide +kernel
theorem dX5_fillWord_10 : decode cX5_fillWord 10 = .ok (.return_, 1) := by decide +kernel
theorem dX5_fillWord_11 : decode cX5_fillWord 11 = .ok (.aload_n 2, 1) := by decide +kernel
theorem dX5_fillWord_12 : decode cX5_fillWord 12 = .ok (.aload_n 3, 1) := by decide +kernel
theorem dX5_fillWord_13 : decode cX5_fillWord 13 = .ok (.invokestatic 69, 3) := by decide +kernel
theorem dX5_fillWord_16 : decode cX5_fillWord 16 = .ok (.bipush 6, 2) := by decide +kernel
theorem dX5_fillWord_18 : decode cX5_fillWord 18 = .ok (.invokestatic 73, 3) := by decide +kernel
theorem dX5_fillWord_21 : decode cX5_fillWord 21 = .ok (.istore 4, 2) := by decide +kernel
theorem dX5_fillWord_23 : decode cX5_fillWord 23 = .ok (.aload_n 0, 1) := by decide +kernel
theorem dX5_fillWord_24 : decode cX5_fillWord 24 = .ok (.getfield 30, 3) := by decide +kernel
theorem dX5_fillWord_27 : decode cX5_fillWord 27 = .ok (.iload_n 1, 1) := by decide +kernel
theorem dX5_fillWord_28 : decode cX5_fillWord 28 = .ok (.iload 4, 2) := by decide +kernel
theorem dX5_fillWord_30 : decode cX5_fillWord 30 = .ok (.iastore, 1) := by decide +kernel
theorem dX5_fillWord_31 : decode cX5_fillWord 31 = .ok (.iconst 0, 1) := by decide +kernel
theorem dX5_fillWord_32 : decode cX5_fillWord 32 = .ok (.istore 5, 2) := by decide +kernel
theorem dX5_fillWord_34 : decode cX5_fillWord 34 = .ok (.iload 5, 2) := by decide +kernel
theorem dX5_fillWord_36 : decode cX5_fillWord 36 = .ok (.iload 4, 2) := by decide +kernel
theorem dX5_fillWord_38 : decode cX5_fillWord 38 = .ok (.if_icmp .ge 28, 3) := by decide +kernel
theorem dX5_fillWord_41 : decode cX5_fillWord 41 = .ok (.aload_n 0, 1) := by decide +kernel
theorem dX5_fillWord_42 : decode cX5_fillWord 42 = .ok (.getfield 34, 3) := by decide +kernel
theorem dX5_fillWord_45 : decode cX5_fillWord 45 = .ok (.iload_n 1, 1) := by decide +kernel
theorem dX5_fillWord_46 : decode cX5_fillWord 46 = .ok (.bipush 6, 2) := by decide +kernel
theorem dX5_fillWord_48 : decode cX5_fillWord 48 = .ok (.imul, 1) := by decide +kernel
theorem dX5_fillWord_49 : decode cX5_fillWord 49 = .ok (.iload 5, 2) := by decide +kernel
theorem dX5_fillWord_51 : decode cX5_fillWord 51 = .ok (.iadd, 1) := by decide +kernel
theorem dX5_fillWord_52 : decode cX5_fillWord 52 = .ok (.aload_n 2, 1) := by decide +kernel
theorem dX5_fillWord_53 : decode cX5_fillWord 53 = .ok (.aload_n 3, 1) := by decide +kernel
theorem dX5_fillWord_54 : decode cX5_fillWord 54 = .ok (.iload 5, 2) := by decide +kernel
theorem dX5_fillWord_56 : decode cX5_fillWord 56 = .ok (.invokestatic 79, 3) := by decide +kernel
theorem dX5_fillWord_59 : decode cX5_fillWord 59 = .ok (.iastore, 1) := by decide +kernel
theorem dX5_fillWord_60 : decode cX5_fillWord 60 = .ok (.iinc 5 1, 3) := by decide +kernel
theorem dX5_fillWord_63 : decode cX5_fillWord 63 = .ok (.goto (-29), 3) := by decide +kernel
theorem dX5_fillWord_66 : decode cX5_fillWord 66 = .ok (.aload_n 0, 1) := by decide +kernel
theorem dX5_fillWord_67 : decode cX5_fillWord 67 = .ok (.dup, 1) := by decide +kernel
theorem dX5_fillWord_68 : decode cX5_fillWord 68 = .ok (.getfield 9, 3) := by decide +kernel
theorem dX5_fillWord_71 : decode cX5_fillWord 71 = .ok (.iconst 1, 1) := by decide +kernel
theorem dX5_fillWord_72 : decode cX5_fillWord 72 = .ok (.iadd, 1) := by decide +kernel
theorem dX5_fillWord_73 : decode cX5_fillWord 73 = .ok (.putfield 9, 3) := by decide +kernel
theorem dX5_fillWord_76 : decode cX5_fillWord 76 = .ok (.aload_n 0, 1) := by decide +kernel
theorem dX5_fillWord_77 : decode cX5_fillWord 77 = .ok (.dup, 1) := by decide +kernel
theorem dX5_fillWord_78 : decode cX5_fillWord 78 = .ok (.getfield 15, 3) := by decide +kernel
theorem dX5_fillWord_81 : decode cX5_fillWord 81 = .ok (.iload 4, 2) := by decide +kernel
theorem dX5_fillWord_83 : decode cX5_fillWord 83 = .ok (.iadd, 1) := by decide +kernel
theorem dX5_fillWord_84 : decode cX5_fillWord 84 = .ok (.putfield 15, 3) := by decide +kernel
theorem dX5_fillWord_87 : decode cX5_fillWord 87 = .ok (.aload_n 0, 1) := by decide +kernel
theorem dX5_fillWord_88 : decode cX5_fillWord 88 = .ok (.dup, 1) := by decide +kernel
theorem dX5_fillWord_89 : decode cX5_fillWord 89 = .ok (.getfield 24, 3) := by decide +kernel
theorem dX5_fillWord_92 : decode cX5_fillWord 92 = .ok (.aload_n 3, 1) := by decide +kernel
theorem dX5_fillWord_93 : decode cX5_fillWord 93 = .ok (.ifnonnull 7, 3) := by decide +kernel
theorem dX5_fillWord_96 : decode cX5_fillWord 96 = .ok (.iconst 0, 1) := by decide +kernel
theorem dX5_fillWord_97 : decode cX5_fillWord 97 = .ok (.goto 4, 3) := by decide +kernel
theorem dX5_fillWord_100 : decode cX5_fillWord 100 = .ok (.iconst 1, 1) := by decide +kernel
theorem dX5_fillWord_101 : decode cX5_fillWord 101 = .ok (.iadd, 1) := by decide +kernel
theorem dX5_fillWord_102 : decode cX5_fillWord 102 = .ok (.putfield 24, 3) := by decide +kernel
theorem dX5_fillWord_105 : decode cX5_fillWord 105 = .ok (.return_, 1) := by decide +kernel
theorem dX5_addPlace_0 : decode cX5_addPlace 0 = .ok (.aload_n 3, 1) := by decide +kernel
theorem dX5_addPlace_1 : decode cX5_addPlace 1 = .ok (.ifnull 37, 3) := by decide +kernel
theorem dX5_addPlace_4 : decode cX5_addPlace 4 = .ok (.aload_n 0, 1) := by decide +kernel
theorem dX5_addPlace_5 : decode cX5_addPlace 5 = .ok (.iload_n 1, 1) := by decide +kernel
theorem dX5_addPlace_6 : decode cX5_addPlace 6 = .ok (.invokevirtual 83, 3) := by decide +kernel
theorem dX5_addPlace_9 : decode cX5_addPlace 9 = .ok (.ifCond .ne 29, 3) := by decide +kernel
theorem dX5_addPlace_12 : decode cX5_addPlace 12 = .ok (.aload_n 2, 1) := by decide +kernel
theorem dX5_addPlace_13 : decode cX5_addPlace 13 = .ok (.getfield 87, 3) := by decide +kernel
theorem dX5_addPlace_16 : decode cX5_addPlace 16 = .ok (.ifCond .eq 22, 3) := by decide +kernel
theorem dX5_addPlace_19 : decode cX5_addPlace 19 = .ok (.aload_n 3, 1) := by decide +kernel
theorem dX5_addPlace_20 : decode cX5_addPlace 20 = .ok (.getfield 93, 3) := by decide +kernel
theorem dX5_addPlace_23 : decode cX5_addPlace 23 = .ok (.ifCond .eq 15, 3) := by decide +kernel
theorem dX5_addPlace_26 : decode cX5_addPlace 26 = .ok (.aload_n 0, 1) := by decide +kernel
theorem dX5_addPlace_27 : decode cX5_addPlace 27 = .ok (.dup, 1) := by decide +kernel
theorem dX5_addPlace_28 : decode cX5_addPlace 28 = .ok (.getfield 18, 3) := by decide +kernel
theorem dX5_addPlace_31 : decode cX5_addPlace 31 = .ok (.iconst 1, 1) := by decide +kernel
theorem dX5_addPlace_32 : decode cX5_addPlace 32 = .ok (.iload_n 1, 1) := by decide +kernel
theorem dX5_addPlace_33 : decode cX5_addPlace 33 = .ok (.ishl, 1) := by decide +kernel
theorem dX5_addPlace_34 : decode cX5_addPlace 34 = .ok (.ior, 1) := by decide +kernel
theorem dX5_addPlace_35 : decode cX5_addPlace 35 = .ok (.putfield 18, 3) := by decide +kernel
theorem dX5_addPlace_38 : decode cX5_addPlace 38 = .ok (.return_, 1) := by decide +kernel
theorem dX5_countOf_0 : decode cX5_countOf 0 = .ok (.iload_n 1, 1) := by decide +kernel
theorem dX5_countOf_1 : decode cX5_countOf 1 = .ok (.ifCond .lt 18, 3) := by decide +kernel
theorem dX5_countOf_4 : decode cX5_countOf 4 = .ok (.iload_n 1, 1) := by decide +kernel
theorem dX5_countOf_5 : decode cX5_countOf 5 = .ok (.bipush 12, 2) := by decide +kernel
theorem dX5_countOf_7 : decode cX5_countOf 7 = .ok (.if_icmp .ge 12, 3) := by decide +kernel
theorem dX5_countOf_10 : decode cX5_countOf 10 = .ok (.aload_n 0, 1) := by decide +kernel
theorem dX5_countOf_11 : decode cX5_countOf 11 = .ok (.getfield 30, 3) := by decide +kernel
theorem dX5_countOf_14 : decode cX5_countOf 14 = .ok (.iload_n 1, 1) := by decide +kernel
theorem dX5_countOf_15 : decode cX5_countOf 15 = .ok (.iaload, 1) := by decide +kernel
theorem dX5_countOf_16 : decode cX5_countOf 16 = .ok (.goto 4, 3) := by decide +kernel
theorem dX5_countOf_19 : decode cX5_countOf 19 = .ok (.iconst 0, 1) := by decide +kernel
theorem dX5_countOf_20 : decode cX5_countOf 20 = .ok (.ireturn, 1) := by decide +kernel
theorem dX5_markAt_0 : decode cX5_markAt 0 = .ok (.iload_n 1, 1) := by decide +kernel
theorem dX5_markAt_1 : decode cX5_markAt 1 = .ok (.bipush 6, 2) := by decide +kernel
theorem dX5_markAt_3 : decode cX5_markAt 3 = .ok (.imul, 1) := by decide +kernel
theorem dX5_markAt_4 : decode cX5_markAt 4 = .ok (.iload_n 2, 1) := by decide +kernel
theorem dX5_markAt_5 : decode cX5_markAt 5 = .ok (.iadd, 1) := by decide +kernel
theorem dX5_markAt_6 : decode cX5_markAt 6 = .ok (.istore_n 3, 1) := by decide +kernel
theorem dX5_markAt_7 : decode cX5_markAt 7 = .ok (.iload_n 3, 1) := by decide +kernel
theorem dX5_markAt_8 : decode cX5_markAt 8 = .ok (.ifCond .lt 21, 3) := by decide +kernel
theorem dX5_markAt_11 : decode cX5_markAt 11 = .ok (.iload_n 3, 1) := by decide +kernel
theorem dX5_markAt_12 : decode cX5_markAt 12 = .ok (.aload_n 0, 1) := by decide +kernel
theorem dX5_markAt_13 : decode cX5_markAt 13 = .ok (.getfield 34, 3) := by decide +kernel
theorem dX5_markAt_16 : decode cX5_markAt 16 = .ok (.arraylength, 1) := by decide +kernel
theorem dX5_markAt_17 : decode cX5_markAt 17 = .ok (.if_icmp .ge 12, 3) := by decide +kernel
theorem dX5_markAt_20 : decode cX5_markAt 20 = .ok (.aload_n 0, 1) := by decide +kernel
theorem dX5_markAt_21 : decode cX5_markAt 21 = .ok (.getfield 34, 3) := by decide +kernel
theorem dX5_markAt_24 : decode cX5_markAt 24 = .ok (.iload_n 3, 1) := by decide +kernel
theorem dX5_markAt_25 : decode cX5_markAt 25 = .ok (.iaload, 1) := by decide +kernel
theorem dX5_markAt_26 : decode cX5_markAt 26 = .ok (.goto 4, 3) := by decide +kernel
theorem dX5_markAt_29 : decode cX5_markAt 29 = .ok (.iconst 0, 1) := by decide +kernel
theorem dX5_markAt_30 : decode cX5_markAt 30 = .ok (.ireturn, 1) := by decide +kernel
theorem dX5_hasCommaBehind_0 : decode cX5_hasCommaBehind 0 = .ok (.aload_n 0, 1) := by decide +kernel
theorem dX5_hasCommaBehind_1 : decode cX5_hasCommaBehind 1 = .ok (.getfield 21, 3) := by decide +kernel
theorem dX5_hasCommaBehind_4 : decode cX5_hasCommaBehind 4 = .ok (.iload_n 1, 1) := by decide +kernel
theorem dX5_hasCommaBehind_5 : decode cX5_hasCommaBehind 5 = .ok (.ishr, 1) := by decide +kernel
theorem dX5_hasCommaBehind_6 : decode cX5_hasCommaBehind 6 = .ok (.iconst 1, 1) := by decide +kernel
theorem dX5_hasCommaBehind_7 : decode cX5_hasCommaBehind 7 = .ok (.iand, 1) := by decide +kernel
theorem dX5_hasCommaBehind_8 : decode cX5_hasCommaBehind 8 = .ok (.iconst 1, 1) := by decide +kernel
theorem dX5_hasCommaBehind_9 : decode cX5_hasCommaBehind 9 = .ok (.if_icmp .ne 7, 3) := by decide +kernel
theorem dX5_hasCommaBehind_12 : decode cX5_hasCommaBehind 12 = .ok (.iconst 1, 1) := by decide +kernel
theorem dX5_hasCommaBehind_13 : decode cX5_hasCommaBehind 13 = .ok (.goto 4, 3) := by decide +kernel
theorem dX5_hasCommaBehind_16 : decode cX5_hasCommaBehind 16 = .ok (.iconst 0, 1) := by decide +kernel
theorem dX5_hasCommaBehind_17 : decode cX5_hasCommaBehind 17 = .ok (.ireturn, 1) := by decide +kernel
theorem dX5_hasPlace_0 : decode cX5_hasPlace 0 = .ok (.aload_n 0, 1) := by decide +kernel
theorem dX5_hasPlace_1 : decode cX5_hasPlace 1 = .ok (.getfield 18, 3) := by decide +kernel
theorem dX5_hasPlace_4 : decode cX5_hasPlace 4 = .ok (.iload_n 1, 1) := by decide +kernel
theorem dX5_hasPlace_5 : decode cX5_hasPlace 5 = .ok (.ishr, 1) := by decide +kernel
theorem dX5_hasPlace_6 : decode cX5_hasPlace 6 = .ok (.iconst 1, 1) := by decide +kernel
theorem dX5_hasPlace_7 : decode cX5_hasPlace 7 = .ok (.iand, 1) := by decide +kernel
theorem dX5_hasPlace_8 : decode cX5_hasPlace 8 = .ok (.iconst 1, 1) := by decide +kernel
theorem dX5_hasPlace_9 : decode cX5_hasPlace 9 = .ok (.if_icmp .ne 7, 3) := by decide +kernel
theorem dX5_hasPlace_12 : decode cX5_hasPlace 12 = .ok (.iconst 1, 1) := by decide +kernel
theorem dX5_hasPlace_13 : decode cX5_hasPlace 13 = .ok (.goto 4, 3) := by decide +kernel
theorem dX5_hasPlace_16 : decode cX5_hasPlace 16 = .ok (.iconst 0, 1) := by decide +kernel
theorem dX5_hasPlace_17 : decode cX5_hasPlace 17 = .ok (.ireturn, 1) := by decide +kernel
theorem dX5_canElide_0 : decode cX5_canElide 0 = .ok (.aload_n 0, 1) := by decide +kernel
theorem dX5_canElide_1 : decode cX5_canElide 1 = .ok (.iload_n 1, 1) := by decide +kernel
theorem dX5_canElide_2 : decode cX5_canElide 2 = .ok (.invokevirtual 96, 3) := by decide +kernel
theorem dX5_canElide_5 : decode cX5_canElide 5 = .ok (.ifCond .eq 20, 3) := by decide +kernel
theorem dX5_canElide_8 : decode cX5_canElide 8 = .ok (.iload_n 2, 1) := by decide +kernel
theorem dX5_canElide_9 : decode cX5_canElide 9 = .ok (.ifCond .eq 12, 3) := by decide +kernel
theorem dX5_canElide_12 : decode cX5_canElide 12 = .ok (.aload_n 0, 1) := by decide +kernel
theorem dX5_canElide_13 : decode cX5_canElide 13 = .ok (.iload_n 1, 1) := by decide +kernel
theorem dX5_canElide_14 : decode cX5_canElide 14 = .ok (.invokevirtual 99, 3) := by decide +kernel
theorem dX5_canElide_17 : decode cX5_canElide 17 = .ok (.iconst 1, 1) := by decide +kernel
theorem dX5_canElide_18 : decode cX5_canElide 18 = .ok (.if_icmp .eq 7, 3) := by decide +kernel
theorem dX5_canElide_21 : decode cX5_canElide 21 = .ok (.iconst 1, 1) := by decide +kernel
theorem dX5_canElide_22 : decode cX5_canElide 22 = .ok (.goto 4, 3) := by decide +kernel
theorem dX5_canElide_25 : decode cX5_canElide 25 = .ok (.iconst 0, 1) := by decide +kernel
theorem dX5_canElide_26 : decode cX5_canElide 26 = .ok (.ireturn, 1) := by decide +kernel
theorem dX5_hasTooFew_0 : decode cX5_hasTooFew 0 = .ok (.aload_n 0, 1) := by decide +kernel
theorem dX5_hasTooFew_1 : decode cX5_hasTooFew 1 = .ok (.getfield 15, 3) := by decide +kernel
theorem dX5_hasTooFew_4 : decode cX5_hasTooFew 4 = .ok (.aload_n 1, 1) := by decide +kernel
theorem dX5_hasTooFew_5 : decode cX5_hasTooFew 5 = .ok (.invokevirtual 103, 3) := by decide +kernel
theorem dX5_hasTooFew_8 : decode cX5_hasTooFew 8 = .ok (.if_icmp .ge 7, 3) := by decide +kernel
theorem dX5_hasTooFew_11 : decode cX5_hasTooFew 11 = .ok (.iconst 1, 1) := by decide +kernel
theorem dX5_hasTooFew_12 : decode cX5_hasTooFew 12 = .ok (.goto 4, 3) := by decide +kernel
theorem dX5_hasTooFew_15 : decode cX5_hasTooFew 15 = .ok (.iconst 0, 1) := by decide +kernel
theorem dX5_hasTooFew_16 : decode cX5_hasTooFew 16 = .ok (.ireturn, 1) := by decide +kernel
theorem dX5_hasTooMany_0 : decode cX5_hasTooMany 0 = .ok (.aload_n 0, 1) := by decide +kernel
theorem dX5_hasTooMany_1 : decode cX5_hasTooMany 1 = .ok (.getfield 15, 3) := by decide +kernel
theorem dX5_hasTooMany_4 : decode cX5_hasTooMany 4 = .ok (.aload_n 0, 1) := by decide +kernel
theorem dX5_hasTooMany_5 : decode cX5_hasTooMany 5 = .ok (.getfield 27, 3) := by decide +kernel
theorem dX5_hasTooMany_8 : decode cX5_hasTooMany 8 = .ok (.isub, 1) := by decide +kernel
theorem dX5_hasTooMany_9 : decode cX5_hasTooMany 9 = .ok (.aload_n 1, 1) := by decide +kernel
theorem dX5_hasTooMany_10 : decode cX5_hasTooMany 10 = .ok (.getfield 108, 3) := by decide +kernel
theorem dX5_hasTooMany_13 : decode cX5_hasTooMany 13 = .ok (.iconst 1, 1) := by decide +kernel
theorem dX5_hasTooMany_14 : decode cX5_hasTooMany 14 = .ok (.iadd, 1) := by decide +kernel
theorem dX5_hasTooMany_15 : decode cX5_hasTooMany 15 = .ok (.if_icmp .le 7, 3) := by decide +kernel
theorem dX5_hasTooMany_18 : decode cX5_hasTooMany 18 = .ok (.iconst 1, 1) := by decide +kernel
theorem dX5_hasTooMany_19 : decode cX5_hasTooMany 19 = .ok (.goto 4, 3) := by decide +kernel
theorem dX5_hasTooMany_22 : decode cX5_hasTooMany 22 = .ok (.iconst 0, 1) := by decide +kernel
theorem dX5_hasTooMany_23 : decode cX5_hasTooMany 23 = .ok (.ireturn, 1) := by decide +kernel
theorem dX5_countMostElisions_0 : decode cX5_countMostElisions 0 = .ok (.iconst 0, 1) := by decide +kernel
theorem dX5_countMostElisions_1 : decode cX5_countMostElisions 1 = .ok (.istore_n 1, 1) := by decide +kernel
theorem dX5_countMostElisions_2 : decode cX5_countMostElisions 2 = .ok (.iconst 0, 1) := by decide +kernel
theorem dX5_countMostElisions_3 : decode cX5_countMostElisions 3 = .ok (.istore_n 2, 1) := by decide +kernel
theorem dX5_countMostElisions_4 : decode cX5_countMostElisions 4 = .ok (.iconst 0, 1) := by decide +kernel
theorem dX5_countMostElisions_5 : decode cX5_countMostElisions 5 = .ok (.istore_n 3, 1) := by decide +kernel
theorem dX5_countMostElisions_6 : decode cX5_countMostElisions 6 = .ok (.iload_n 3, 1) := by decide +kernel
theorem dX5_countMostElisions_7 : decode cX5_countMostElisions 7 = .ok (.aload_n 0, 1) := by decide +kernel
theorem dX5_countMostElisions_8 : decode cX5_countMostElisions 8 = .ok (.getfield 9, 3) := by decide +kernel
theorem dX5_countMostElisions_11 : decode cX5_countMostElisions 11 = .ok (.if_icmp .ge 28, 3) := by decide +kernel
theorem dX5_countMostElisions_14 : decode cX5_countMostElisions 14 = .ok (.aload_n 0, 1) := by decide +kernel
theorem dX5_countMostElisions_15 : decode cX5_countMostElisions 15 = .ok (.iload_n 3, 1) := by decide +kernel
theorem dX5_countMostElisions_16 : decode cX5_countMostElisions 16 = .ok (.iload_n 2, 1) := by decide +kernel
theorem dX5_countMostElisions_17 : decode cX5_countMostElisions 17 = .ok (.invokevirtual 111, 3) := by decide +kernel
theorem dX5_countMostElisions_20 : decode cX5_countMostElisions 20 = .ok (.istore_n 2, 1) := by decide +kernel
theorem dX5_countMostElisions_21 : decode cX5_countMostElisions 21 = .ok (.iload_n 1, 1) := by decide +kernel
theorem dX5_countMostElisions_22 : decode cX5_countMostElisions 22 = .ok (.iload_n 2, 1) := by decide +kernel
theorem dX5_countMostElisions_23 : decode cX5_countMostElisions 23 = .ok (.ifCond .eq 7, 3) := by decide +kernel
theorem dX5_countMostElisions_26 : decode cX5_countMostElisions 26 = .ok (.iconst 1, 1) := by decide +kernel
theorem dX5_countMostElisions_27 : decode cX5_countMostElisions 27 = .ok (.goto 4, 3) := by decide +kernel
theorem dX5_countMostElisions_30 : decode cX5_countMostElisions 30 = .ok (.iconst 0, 1) := by decide +kernel
theorem dX5_countMostElisions_31 : decode cX5_countMostElisions 31 = .ok (.iadd, 1) := by decide +kernel
theorem dX5_countMostElisions_32 : decode cX5_countMostElisions 32 = .ok (.istore_n 1, 1) := by decide +kernel
theorem dX5_countMostElisions_33 : decode cX5_countMostElisions 33 = .ok (.iinc 3 1, 3) := by decide +kernel
theorem dX5_countMostElisions_36 : decode cX5_countMostElisions 36 = .ok (.goto (-30), 3) := by decide +kernel
theorem dX5_countMostElisions_39 : decode cX5_countMostElisions 39 = .ok (.iload_n 1, 1) := by decide +kernel
theorem dX5_countMostElisions_40 : decode cX5_countMostElisions 40 = .ok (.ireturn, 1) := by decide +kernel
theorem dX5_allows_0 : decode cX5_allows 0 = .ok (.iload_n 1, 1) := by decide +kernel
theorem dX5_allows_1 : decode cX5_allows 1 = .ok (.aload_n 0, 1) := by decide +kernel
theorem dX5_allows_2 : decode cX5_allows 2 = .ok (.getfield 18, 3) := by decide +kernel
theorem dX5_allows_5 : decode cX5_allows 5 = .ok (.iconst (-1), 1) := by decide +kernel
theorem dX5_allows_6 : decode cX5_allows 6 = .ok (.ixor, 1) := by decide +kernel
theorem dX5_allows_7 : decode cX5_allows 7 = .ok (.iand, 1) := by decide +kernel
theorem dX5_allows_8 : decode cX5_allows 8 = .ok (.ifCond .eq 5, 3) := by decide +kernel
theorem dX5_allows_11 : decode cX5_allows 11 = .ok (.iconst 0, 1) := by decide +kernel
theorem dX5_allows_12 : decode cX5_allows 12 = .ok (.ireturn, 1) := by decide +kernel
theorem dX5_allows_13 : decode cX5_allows 13 = .ok (.iconst 0, 1) := by decide +kernel
theorem dX5_allows_14 : decode cX5_allows 14 = .ok (.istore_n 2, 1) := by decide +kernel
theorem dX5_allows_15 : decode cX5_allows 15 = .ok (.iconst 0, 1) := by decide +kernel
theorem dX5_allows_16 : decode cX5_allows 16 = .ok (.istore_n 3, 1) := by decide +kernel
theorem dX5_allows_17 : decode cX5_allows 17 = .ok (.iload_n 3, 1) := by decide +kernel
theorem dX5_allows_18 : decode cX5_allows 18 = .ok (.aload_n 0, 1) := by decide +kernel
theorem dX5_allows_19 : decode cX5_allows 19 = .ok (.getfield 9, 3) := by decide +kernel
theorem dX5_allows_22 : decode cX5_allows 22 = .ok (.if_icmp .ge 44, 3) := by decide +kernel
theorem dX5_allows_25 : decode cX5_allows 25 = .ok (.iload_n 1, 1) := by decide +kernel
theorem dX5_allows_26 : decode cX5_allows 26 = .ok (.iload_n 3, 1) := by decide +kernel
theorem dX5_allows_27 : decode cX5_allows 27 = .ok (.ishr, 1) := by decide +kernel
theorem dX5_allows_28 : decode cX5_allows 28 = .ok (.iconst 1, 1) := by decide +kernel
theorem dX5_allows_29 : decode cX5_allows 29 = .ok (.iand, 1) := by decide +kernel
theorem dX5_allows_30 : decode cX5_allows 30 = .ok (.iconst 1, 1) := by decide +kernel
theorem dX5_allows_31 : decode cX5_allows 31 = .ok (.if_icmp .ne 7, 3) := by decide +kernel
theorem dX5_allows_34 : decode cX5_allows 34 = .ok (.iconst 1, 1) := by decide +kernel
theorem dX5_allows_35 : decode cX5_allows 35 = .ok (.goto 4, 3) := by decide +kernel
theorem dX5_allows_38 : decode cX5_allows 38 = .ok (.iconst 0, 1) := by decide +kernel
theorem dX5_allows_39 : decode cX5_allows 39 = .ok (.istore 4, 2) := by decide +kernel
theorem dX5_allows_41 : decode cX5_allows 41 = .ok (.iload 4, 2) := by decide +kernel
theorem dX5_allows_43 : decode cX5_allows 43 = .ok (.ifCond .eq 14, 3) := by decide +kernel
theorem dX5_allows_46 : decode cX5_allows 46 = .ok (.aload_n 0, 1) := by decide +kernel
theorem dX5_allows_47 : decode cX5_allows 47 = .ok (.iload_n 3, 1) := by decide +kernel
theorem dX5_allows_48 : decode cX5_allows 48 = .ok (.iload_n 2, 1) := by decide +kernel
theorem dX5_allows_49 : decode cX5_allows 49 = .ok (.invokevirtual 111, 3) := by decide +kernel
theorem dX5_allows_52 : decode cX5_allows 52 = .ok (.ifCond .ne 5, 3) := by decide +kernel
theorem dX5_allows_55 : decode cX5_allows 55 = .ok (.iconst 0, 1) := by decide +kernel
theorem dX5_allows_56 : decode cX5_allows 56 = .ok (.ireturn, 1) := by decide +kernel
theorem dX5_allows_57 : decode cX5_allows 57 = .ok (.iload 4, 2) := by decide +kernel
theorem dX5_allows_59 : decode cX5_allows 59 = .ok (.istore_n 2, 1) := by decide +kernel
theorem dX5_allows_60 : decode cX5_allows 60 = .ok (.iinc 3 1, 3) := by decide +kernel
theorem dX5_allows_63 : decode cX5_allows 63 = .ok (.goto (-46), 3) := by decide +kernel
theorem dX5_allows_66 : decode cX5_allows 66 = .ok (.iconst 1, 1) := by decide +kernel
theorem dX5_allows_67 : decode cX5_allows 67 = .ok (.ireturn, 1) := by decide +kernel
theorem dX6_init_0 : decode cX6_init 0 = .ok (.aload_n 0, 1) := by decide +kernel
theorem dX6_init_1 : decode cX6_init 1 = .ok (.invokespecial 3, 3) := by decide +kernel
theorem dX6_init_4 : decode cX6_init 4 = .ok (.aload_n 0, 1) := by decide +kernel
theorem dX6_init_5 : decode cX6_init 5 = .ok (.bipush 19, 2) := by decide +kernel
theorem dX6_init_7 : decode cX6_init 7 = .ok (.newarray .int, 2) := by decide +kernel
theorem dX6_init_9 : decode cX6_init 9 = .ok (.putfield 9, 3) := by decide +kernel
theorem dX6_init_12 : decode cX6_init 12 = .ok (.aload_n 0, 1) := by decide +kernel
theorem dX6_init_13 : decode cX6_init 13 = .ok (.bipush 40, 2) := by decide +kernel
theorem dX6_init_15 : decode cX6_init 15 = .ok (.newarray .int, 2) := by decide +kernel
theorem dX6_init_17 : decode cX6_init 17 = .ok (.putfield 15, 3) := by decide +kernel
theorem dX6_init_20 : decode cX6_init 20 = .ok (.aload_n 0, 1) := by decide +kernel
theorem dX6_init_21 : decode cX6_init 21 = .ok (.bipush 40, 2) := by decide +kernel
theorem dX6_init_23 : decode cX6_init 23 = .ok (.newarray .int, 2) := by decide +kernel
theorem dX6_init_25 : decode cX6_init 25 = .ok (.putfield 18, 3) := by decide +kernel
theorem dX6_init_28 : decode cX6_init 28 = .ok (.aload_n 0, 1) := by decide +kernel
theorem dX6_init_29 : decode cX6_init 29 = .ok (.bipush 40, 2) := by decide +kernel
theorem dX6_init_31 : decode cX6_init 31 = .ok (.newarray .int, 2) := by decide +kernel
theorem dX6_init_33 : decode cX6_init 33 = .ok (.putfield 21, 3) := by decide +kernel
theorem dX6_init_36 : decode cX6_init 36 = .ok (.aload_n 0, 1) := by decide +kernel
theorem dX6_init_37 : decode cX6_init 37 = .ok (.bipush 40, 2) := by decide +kernel
theorem dX6_init_39 : decode cX6_init 39 = .ok (.newarray .int, 2) := by decide +kernel
theorem dX6_init_41 : decode cX6_init 41 = .ok (.putfield 24, 3) := by decide +kernel
theorem dX6_init_44 : decode cX6_init 44 = .ok (.aload_n 0, 1) := by decide +kernel
theorem dX6_init_45 : decode cX6_init 45 = .ok (.new 27, 3) := by decide +kernel
theorem dX6_init_48 : decode cX6_init 48 = .ok (.dup, 1) := by decide +kernel
theorem dX6_init_49 : decode cX6_init 49 = .ok (.iconst 0, 1) := by decide +kernel
theorem dX6_init_50 : decode cX6_init 50 = .ok (.iconst 2, 1) := by decide +kernel
theorem dX6_init_51 : decode cX6_init 51 = .ok (.iconst 0, 1) := by decide +kernel
theorem dX6_init_52 : decode cX6_init 52 = .ok (.invokespecial 29, 3) := by decide +kernel
theorem dX6_init_55 : decode cX6_init 55 = .ok (.putfield 32, 3) := by decide +kernel
theorem dX6_init_58 : decode cX6_init 58 = .ok (.aload_n 0, 1) := by decide +kernel
theorem dX6_init_59 : decode cX6_init 59 = .ok (.iconst 0, 1) := by decide +kernel
theorem dX6_init_60 : decode cX6_init 60 = .ok (.putfield 36, 3) := by decide +kernel
theorem dX6_init_63 : decode cX6_init 63 = .ok (.aload_n 0, 1) := by decide +kernel
theorem dX6_init_64 : decode cX6_init 64 = .ok (.iconst 0, 1) := by decide +kernel
theorem dX6_init_65 : decode cX6_init 65 = .ok (.putfield 40, 3) := by decide +kernel
theorem dX6_init_68 : decode cX6_init 68 = .ok (.aload_n 0, 1) := by decide +kernel
theorem dX6_init_69 : decode cX6_init 69 = .ok (.aload_n 1, 1) := by decide +kernel
theorem dX6_init_70 : decode cX6_init 70 = .ok (.putfield 43, 3) := by decide +kernel
theorem dX6_init_73 : decode cX6_init 73 = .ok (.return_, 1) := by decide +kernel
theorem dX6_search_0 : decode cX6_search 0 = .ok (.aload_n 0, 1) := by decide +kernel
theorem dX6_search_1 : decode cX6_search 1 = .ok (.iconst 0, 1) := by decide +kernel
theorem dX6_search_2 : decode cX6_search 2 = .ok (.putfield 40, 3) := by decide +kernel
theorem dX6_search_5 : decode cX6_search 5 = .ok (.ldc 47, 2) := by decide +kernel
theorem dX6_search_7 : decode cX6_search 7 = .ok (.istore_n 2, 1) := by decide +kernel
theorem dX6_search_8 : decode cX6_search 8 = .ok (.aload_n 0, 1) := by decide +kernel
theorem dX6_search_9 : decode cX6_search 9 = .ok (.getfield 43, 3) := by decide +kernel
theorem dX6_search_12 : decode cX6_search 12 = .ok (.aload_n 1, 1) := by decide +kernel
theorem dX6_search_13 : decode cX6_search 13 = .ok (.invokevirtual 48, 3) := by decide +kernel
theorem dX6_search_16 : decode cX6_search 16 = .ok (.ifCond .ne 14, 3) := by decide +kernel
theorem dX6_search_19 : decode cX6_search 19 = .ok (.aload_n 0, 1) := by decide +kernel
theorem dX6_search_20 : decode cX6_search 20 = .ok (.getfield 43, 3) := by decide +kernel
theorem dX6_search_23 : decode cX6_search 23 = .ok (.aload_n 1, 1) := by decide +kernel
theorem dX6_search_24 : decode cX6_search 24 = .ok (.invokevirtual 54, 3) := by decide +kernel
theorem dX6_search_27 : decode cX6_search 27 = .ok (.ifCond .eq 5, 3) := by decide +kernel
theorem dX6_search_30 : decode cX6_search 30 = .ok (.iload_n 2, 1) := by decide +kernel
theorem dX6_search_31 : decode cX6_search 31 = .ok (.ireturn, 1) := by decide +kernel
theorem dX6_search_32 : decode cX6_search 32 = .ok (.iconst 0, 1) := by decide +kernel
theorem dX6_search_33 : decode cX6_search 33 = .ok (.istore_n 3, 1) := by decide +kernel
theorem dX6_search_34 : decode cX6_search 34 = .ok (.iload_n 3, 1) := by decide +kernel
theorem dX6_search_35 : decode cX6_search 35 = .ok (.iconst 1, 1) := by decide +kernel
theorem dX6_search_36 : decode cX6_search 36 = .ok (.if_icmp .gt 94, 3) := by decide +kernel
theorem dX6_search_39 : decode cX6_search 39 = .ok (.aload_n 0, 1) := by decide +kernel
theorem dX6_search_40 : decode cX6_search 40 = .ok (.aload_n 1, 1) := by decide +kernel
theorem dX6_search_41 : decode cX6_search 41 = .ok (.iload_n 3, 1) := by decide +kernel
theorem dX6_search_42 : decode cX6_search 42 = .ok (.iconst 1, 1) := by decide +kernel
theorem dX6_search_43 : decode cX6_search 43 = .ok (.if_icmp .ne 7, 3) := by decide +kernel
theorem dX6_search_46 : decode cX6_search 46 = .ok (.iconst 1, 1) := by decide +kernel
theorem dX6_search_47 : decode cX6_search 47 = .ok (.goto 4, 3) := by decide +kernel
theorem dX6_search_50 : decode cX6_search 50 = .ok (.iconst 0, 1) := by decide +kernel
theorem dX6_search_51 : decode cX6_search 51 = .ok (.invokevirtual 57, 3) := by decide +kernel
theorem dX6_search_54 : decode cX6_search 54 = .ok (.aload_n 0, 1) := by decide +kernel
theorem dX6_search_55 : decode cX6_search 55 = .ok (.getfield 15, 3) := by decide +kernel
theorem dX6_search_58 : decode cX6_search 58 = .ok (.ldc 47, 2) := by decide +kernel
theorem dX6_search_60 : decode cX6_search 60 = .ok (.invokestatic 61, 3) := by decide +kernel
theorem dX6_search_63 : decode cX6_search 63 = .ok (.aload_n 0, 1) := by decide +kernel
theorem dX6_search_64 : decode cX6_search 64 = .ok (.getfield 18, 3) := by decide +kernel
theorem dX6_search_67 : decode cX6_search 67 = .ok (.iconst 0, 1) := by decide +kernel
theorem dX6_search_68 : decode cX6_search 68 = .ok (.invokestatic 61, 3) := by decide +kernel
theorem dX6_search_71 : decode cX6_search 71 = .ok (.aload_n 0, 1) := by decide +kernel
theorem dX6_search_72 : decode cX6_search 72 = .ok (.getfield 15, 3) := by decide +kernel
theorem dX6_search_75 : decode cX6_search 75 = .ok (.iconst 0, 1) := by decide +kernel
theorem dX6_search_76 : decode cX6_search 76 = .ok (.iload_n 3, 1) := by decide +kernel
theorem dX6_search_77 : decode cX6_search 77 = .ok (.ldc 67, 2) := by decide +kernel
theorem dX6_search_79 : decode cX6_search 79 = .ok (.imul, 1) := by decide +kernel
theorem dX6_search_80 : decode cX6_search 80 = .ok (.iastore, 1) := by decide +kernel
theorem dX6_search_81 : decode cX6_search 81 = .ok (.aload_n 0, 1) := by decide +kernel
theorem dX6_search_82 : decode cX6_search 82 = .ok (.getfield 18, 3) := by decide +kernel
theorem dX6_search_85 : decode cX6_search 85 = .ok (.iconst 0, 1) := by decide +kernel
theorem dX6_search_86 : decode cX6_search 86 = .ok (.iconst 1, 1) := by decide +kernel
theorem dX6_search_87 : decode cX6_search 87 = .ok (.iastore, 1) := by decide +kernel
theorem dX6_search_88 : decode cX6_search 88 = .ok (.iconst 0, 1) := by decide +kernel
theorem dX6_search_89 : decode cX6_search 89 = .ok (.istore 4, 2) := by decide +kernel
theorem dX6_search_91 : decode cX6_search 91 = .ok (.iload 4, 2) := by decide +kernel
theorem dX6_search_93 : decode cX6_search 93 = .ok (.aload_n 0, 1) := by decide +kernel
theorem dX6_search_94 : decode cX6_search 94 = .ok (.getfield 43, 3) := by decide +kernel
theorem dX6_search_97 : decode cX6_search 97 = .ok (.getfield 68, 3) := by decide +kernel
theorem dX6_search_100 : decode cX6_search 100 = .ok (.if_icmp .ge 15, 3) := by decide +kernel
theorem dX6_search_103 : decode cX6_search 103 = .ok (.aload_n 0, 1) := by decide +kernel
theorem dX6_search_104 : decode cX6_search 104 = .ok (.iload 4, 2) := by decide +kernel
theorem dX6_search_106 : decode cX6_search 106 = .ok (.invokevirtual 71, 3) := by decide +kernel
theorem dX6_search_109 : decode cX6_search 109 = .ok (.iinc 4 1, 3) := by decide +kernel
theorem dX6_search_112 : decode cX6_search 112 = .ok (.goto (-21), 3) := by decide +kernel
theorem dX6_search_115 : decode cX6_search 115 = .ok (.iload_n 2, 1) := by decide +kernel
theorem dX6_search_116 : decode cX6_search 116 = .ok (.aload_n 0, 1) := by decide +kernel
theorem dX6_search_117 : decode cX6_search 117 = .ok (.invokevirtual 75, 3) := by decide +kernel
theorem dX6_search_120 : decode cX6_search 120 = .ok (.invokestatic 79, 3) := by decide +kernel
theorem dX6_search_123 : decode cX6_search 123 = .ok (.istore_n 2, 1) := by decide +kernel
theorem dX6_search_124 : decode cX6_search 124 = .ok (.iinc 3 1, 3) := by decide +kernel
theorem dX6_search_127 : decode cX6_search 127 = .ok (.goto (-93), 3) := by decide +kernel
theorem dX6_search_130 : decode cX6_search 130 = .ok (.iload_n 2, 1) := by decide +kernel
theorem dX6_search_131 : decode cX6_search 131 = .ok (.ireturn, 1) := by decide +kernel
theorem dX6_begin_0 : decode cX6_begin 0 = .ok (.aload_n 0, 1) := by decide +kernel
theorem dX6_begin_1 : decode cX6_begin 1 = .ok (.aload_n 1, 1) := by decide +kernel
theorem dX6_begin_2 : decode cX6_begin 2 = .ok (.putfield 32, 3) := by decide +kernel
theorem dX6_begin_5 : decode cX6_begin 5 = .ok (.aload_n 0, 1) := by decide +kernel
theorem dX6_begin_6 : decode cX6_begin 6 = .ok (.iload_n 2, 1) := by decide +kernel
theorem dX6_begin_7 : decode cX6_begin 7 = .ok (.ifCond .eq 10, 3) := by decide +kernel
theorem dX6_begin_10 : decode cX6_begin 10 = .ok (.aload_n 1, 1) := by decide +kernel
theorem dX6_begin_11 : decode cX6_begin 11 = .ok (.getfield 85, 3) := by decide +kernel
theorem dX6_begin_14 : decode cX6_begin 14 = .ok (.goto 7, 3) := by decide +kernel
theorem dX6_begin_17 : decode cX6_begin 17 = .ok (.aload_n 1, 1) := by decide +kernel
theorem dX6_begin_18 : decode cX6_begin 18 = .ok (.getfield 88, 3) := by decide +kernel
theorem dX6_begin_21 : decode cX6_begin 21 = .ok (.putfield 36, 3) := by decide +kernel
theorem dX6_begin_24 : decode cX6_begin 24 = .ok (.aload_n 0, 1) := by decide +kernel
theorem dX6_begin_25 : decode cX6_begin 25 = .ok (.getfield 9, 3) := by decide +kernel
theorem dX6_begin_28 : decode cX6_begin 28 = .ok (.iconst 0, 1) := by decide +kernel
theorem dX6_begin_29 : decode cX6_begin 29 = .ok (.invokestatic 61, 3) := by decide +kernel
theorem dX6_begin_32 : decode cX6_begin 32 = .ok (.return_, 1) := by decide +kernel
theorem dX6_stepOver_0 : decode cX6_stepOver 0 = .ok (.aload_n 0, 1) := by decide +kernel
theorem dX6_stepOver_1 : decode cX6_stepOver 1 = .ok (.getfield 21, 3) := by decide +kernel
theorem dX6_stepOver_4 : decode cX6_stepOver 4 = .ok (.ldc 47, 2) := by decide +kernel
theorem dX6_stepOver_6 : decode cX6_stepOver 6 = .ok (.invokestatic 61, 3) := by decide +kernel
theorem dX6_stepOver_9 : decode cX6_stepOver 9 = .ok (.aload_n 0, 1) := by decide +kernel
theorem dX6_stepOver_10 : decode cX6_stepOver 10 = .ok (.getfield 24, 3) := by decide +kernel
theorem dX6_stepOver_13 : decode cX6_stepOver 13 = .ok (.iconst 0, 1) := by decide +kernel
theorem dX6_stepOver_14 : decode cX6_stepOver 14 = .ok (.invokestatic 61, 3) := by decide +kernel
theorem dX6_stepOver_17 : decode cX6_stepOver 17 = .ok (.iconst 0, 1) := by decide +kernel
theorem dX6_stepOver_18 : decode cX6_stepOver 18 = .ok (.istore_n 2, 1) := by decide +kernel
theorem dX6_stepOver_19 : decode cX6_stepOver 19 = .ok (.iload_n 2, 1) := by decide +kernel
theorem dX6_stepOver_20 : decode cX6_stepOver 20 = .ok (.bipush 40, 2) := by decide +kernel
theorem dX6_stepOver_22 : decode cX6_stepOver 22 = .ok (.if_icmp .ge 79, 3) := by decide +kernel
theorem dX6_stepOver_25 : decode cX6_stepOver 25 = .ok (.iload_n 2, 1) := by decide +kernel
theorem dX6_stepOver_26 : decode cX6_stepOver 26 = .ok (.iconst 1, 1) := by decide +kernel
theorem dX6_stepOver_27 : decode cX6_stepOver 27 = .ok (.iand, 1) := by decide +kernel
theorem dX6_stepOver_28 : decode cX6_stepOver 28 = .ok (.iconst 1, 1) := by decide +kernel
theorem dX6_stepOver_29 : decode cX6_stepOver 29 = .ok (.if_icmp .ne 7, 3) := by decide +kernel
theorem dX6_stepOver_32 : decode cX6_stepOver 32 = .ok (.iconst 1, 1) := by decide +kernel
theorem dX6_stepOver_33 : decode cX6_stepOver 33 = .ok (.goto 4, 3) := by decide +kernel
theorem dX6_stepOver_36 : decode cX6_stepOver 36 = .ok (.iconst 0, 1) := by decide +kernel
theorem dX6_stepOver_37 : decode cX6_stepOver 37 = .ok (.istore_n 3, 1) := by decide +kernel
theorem dX6_stepOver_38 : decode cX6_stepOver 38 = .ok (.aload_n 0, 1) := by decide +kernel
theorem dX6_stepOver_39 : decode cX6_stepOver 39 = .ok (.getfield 15, 3) := by decide +kernel
theorem dX6_stepOver_42 : decode cX6_stepOver 42 = .ok (.iload_n 2, 1) := by decide +kernel
theorem dX6_stepOver_43 : decode cX6_stepOver 43 = .ok (.iaload, 1) := by decide +kernel
theorem dX6_stepOver_44 : decode cX6_stepOver 44 = .ok (.ldc 47, 2) := by decide +kernel
theorem dX6_stepOver_46 : decode cX6_stepOver 46 = .ok (.if_icmp .eq 49, 3) := by decide +kernel
theorem dX6_stepOver_49 : decode cX6_stepOver 49 = .ok (.aload_n 0, 1) := by decide +kernel
theorem dX6_stepOver_50 : decode cX6_stepOver 50 = .ok (.iload_n 2, 1) := by decide +kernel
theorem dX6_stepOver_51 : decode cX6_stepOver 51 = .ok (.iload_n 1, 1) := by decide +kernel
theorem dX6_stepOver_52 : decode cX6_stepOver 52 = .ok (.iconst 0, 1) := by decide +kernel
theorem dX6_stepOver_53 : decode cX6_stepOver 53 = .ok (.aload_n 0, 1) := by decide +kernel
theorem dX6_stepOver_54 : decode cX6_stepOver 54 = .ok (.iload_n 1, 1) := by decide +kernel
theorem dX6_stepOver_55 : decode cX6_stepOver 55 = .ok (.iload_n 2, 1) := by decide +kernel
theorem dX6_stepOver_56 : decode cX6_stepOver 56 = .ok (.iconst 1, 1) := by decide +kernel
theorem dX6_stepOver_57 : decode cX6_stepOver 57 = .ok (.ishr, 1) := by decide +kernel
theorem dX6_stepOver_58 : decode cX6_stepOver 58 = .ok (.iload_n 3, 1) := by decide +kernel
theorem dX6_stepOver_59 : decode cX6_stepOver 59 = .ok (.iconst 0, 1) := by decide +kernel
theorem dX6_stepOver_60 : decode cX6_stepOver 60 = .ok (.invokevirtual 89, 3) := by decide +kernel
theorem dX6_stepOver_63 : decode cX6_stepOver 63 = .ok (.invokevirtual 93, 3) := by decide +kernel
theorem dX6_stepOver_66 : decode cX6_stepOver 66 = .ok (.aload_n 0, 1) := by decide +kernel
theorem dX6_stepOver_67 : decode cX6_stepOver 67 = .ok (.getfield 43, 3) := by decide +kernel
theorem dX6_stepOver_70 : decode cX6_stepOver 70 = .ok (.iload_n 1, 1) := by decide +kernel
theorem dX6_stepOver_71 : decode cX6_stepOver 71 = .ok (.iload_n 3, 1) := by decide +kernel
theorem dX6_stepOver_72 : decode cX6_stepOver 72 = .ok (.invokevirtual 97, 3) := by decide +kernel
theorem dX6_stepOver_75 : decode cX6_stepOver 75 = .ok (.ifCond .eq 20, 3) := by decide +kernel
theorem dX6_stepOver_78 : decode cX6_stepOver 78 = .ok (.aload_n 0, 1) := by decide +kernel
theorem dX6_stepOver_79 : decode cX6_stepOver 79 = .ok (.iload_n 2, 1) := by decide +kernel
theorem dX6_stepOver_80 : decode cX6_stepOver 80 = .ok (.iload_n 1, 1) := by decide +kernel
theorem dX6_stepOver_81 : decode cX6_stepOver 81 = .ok (.iconst 1, 1) := by decide +kernel
theorem dX6_stepOver_82 : decode cX6_stepOver 82 = .ok (.aload_n 0, 1) := by decide +kernel
theorem dX6_stepOver_83 : decode cX6_stepOver 83 = .ok (.iload_n 1, 1) := by decide +kernel
theorem dX6_stepOver_84 : decode cX6_stepOver 84 = .ok (.iload_n 2, 1) := by decide +kernel
theorem dX6_stepOver_85 : decode cX6_stepOver 85 = .ok (.iconst 1, 1) := by decide +kernel
theorem dX6_stepOver_86 : decode cX6_stepOver 86 = .ok (.ishr, 1) := by decide +kernel
theorem dX6_stepOver_87 : decode cX6_stepOver 87 = .ok (.iload_n 3, 1) := by decide +kernel
theorem dX6_stepOver_88 : decode cX6_stepOver 88 = .ok (.iconst 1, 1) := by decide +kernel
theorem dX6_stepOver_89 : decode cX6_stepOver 89 = .ok (.invokevirtual 89, 3) := by decide +kernel
theorem dX6_stepOver_92 : decode cX6_stepOver 92 = .ok (.invokevirtual 93, 3) := by decide +kernel
theorem dX6_stepOver_95 : decode cX6_stepOver 95 = .ok (.iinc 2 1, 3) := by decide +kernel
theorem dX6_stepOver_98 : decode cX6_stepOver 98 = .ok (.goto (-79), 3) := by decide +kernel
theorem dX6_stepOver_101 : decode cX6_stepOver 101 = .ok (.aload_n 0, 1) := by decide +kernel
theorem dX6_stepOver_102 : decode cX6_stepOver 102 = .ok (.getfield 15, 3) := by decide +kernel
theorem dX6_stepOver_105 : decode cX6_stepOver 105 = .ok (.astore_n 2, 1) := by decide +kernel
theorem dX6_stepOver_106 : decode cX6_stepOver 106 = .ok (.aload_n 0, 1) := by decide +kernel
theorem dX6_stepOver_107 : decode cX6_stepOver 107 = .ok (.aload_n 0, 1) := by decide +kernel
theorem dX6_stepOver_108 : decode cX6_stepOver 108 = .ok (.getfield 21, 3) := by decide +kernel
theorem dX6_stepOver_111 : decode cX6_stepOver 111 = .ok (.putfield 15, 3) := by decide +kernel
theorem dX6_stepOver_114 : decode cX6_stepOver 114 = .ok (.aload_n 0, 1) := by decide +kernel
theorem dX6_stepOver_115 : decode cX6_stepOver 115 = .ok (.aload_n 2, 1) := by decide +kernel
theorem dX6_stepOver_116 : decode cX6_stepOver 116 = .ok (.putfield 21, 3) := by decide +kernel
theorem dX6_stepOver_119 : decode cX6_stepOver 119 = .ok (.aload_n 0, 1) := by decide +kernel
theorem dX6_stepOver_120 : decode cX6_stepOver 120 = .ok (.getfield 18, 3) := by decide +kernel
theorem dX6_stepOver_123 : decode cX6_stepOver 123 = .ok (.astore_n 3, 1) := by decide +kernel
theorem dX6_stepOver_124 : decode cX6_stepOver 124 = .ok (.aload_n 0, 1) := by decide +kernel
theorem dX6_stepOver_125 : decode cX6_stepOver 125 = .ok (.aload_n 0, 1) := by decide +kernel
theorem dX6_stepOver_126 : decode cX6_stepOver 126 = .ok (.getfield 24, 3) := by decide +kernel
theorem dX6_stepOver_129 : decode cX6_stepOver 129 = .ok (.putfield 18, 3) := by decide +kernel
theorem dX6_stepOver_132 : decode cX6_stepOver 132 = .ok (.aload_n 0, 1) := by decide +kernel
theorem dX6_stepOver_133 : decode cX6_stepOver 133 = .ok (.aload_n 3, 1) := by decide +kernel
theorem dX6_stepOver_134 : decode cX6_stepOver 134 = .ok (.putfield 24, 3) := by decide +kernel
theorem dX6_stepOver_137 : decode cX6_stepOver 137 = .ok (.return_, 1) := by decide +kernel
theorem dX6_extend_0 : decode cX6_extend 0 = .ok (.iconst 2, 1) := by decide +kernel
theorem dX6_extend_1 : decode cX6_extend 1 = .ok (.iload_n 1, 1) := by decide +kernel
theorem dX6_extend_2 : decode cX6_extend 2 = .ok (.iconst 1, 1) := by decide +kernel
theorem dX6_extend_3 : decode cX6_extend 3 = .ok (.ishr, 1) := by decide +kernel
theorem dX6_extend_4 : decode cX6_extend 4 = .ok (.aload_n 0, 1) := by decide +kernel
theorem dX6_extend_5 : decode cX6_extend 5 = .ok (.getfield 43, 3) := by decide +kernel
theorem dX6_extend_8 : decode cX6_extend 8 = .ok (.iload_n 2, 1) := by decide +kernel
theorem dX6_extend_9 : decode cX6_extend 9 = .ok (.invokevirtual 101, 3) := by decide +kernel
theorem dX6_extend_12 : decode cX6_extend 12 = .ok (.iadd, 1) := by decide +kernel
theorem dX6_extend_13 : decode cX6_extend 13 = .ok (.iload_n 3, 1) := by decide +kernel
theorem dX6_extend_14 : decode cX6_extend 14 = .ok (.isub, 1) := by decide +kernel
theorem dX6_extend_15 : decode cX6_extend 15 = .ok (.imul, 1) := by decide +kernel
theorem dX6_extend_16 : decode cX6_extend 16 = .ok (.iload_n 3, 1) := by decide +kernel
theorem dX6_extend_17 : decode cX6_extend 17 = .ok (.iadd, 1) := by decide +kernel
theorem dX6_extend_18 : decode cX6_extend 18 = .ok (.istore 5, 2) := by decide +kernel
theorem dX6_extend_20 : decode cX6_extend 20 = .ok (.iload 4, 2) := by decide +kernel
theorem dX6_extend_22 : decode cX6_extend 22 = .ok (.iconst (-1), 1) := by decide +kernel
theorem dX6_extend_23 : decode cX6_extend 23 = .ok (.if_icmp .eq 25, 3) := by decide +kernel
theorem dX6_extend_26 : decode cX6_extend 26 = .ok (.iload_n 1, 1) := by decide +kernel
theorem dX6_extend_27 : decode cX6_extend 27 = .ok (.ifCond .lt 21, 3) := by decide +kernel
theorem dX6_extend_30 : decode cX6_extend 30 = .ok (.iload_n 1, 1) := by decide +kernel
theorem dX6_extend_31 : decode cX6_extend 31 = .ok (.bipush 40, 2) := by decide +kernel
theorem dX6_extend_33 : decode cX6_extend 33 = .ok (.if_icmp .ge 15, 3) := by decide +kernel
theorem dX6_extend_36 : decode cX6_extend 36 = .ok (.iload 5, 2) := by decide +kernel
theorem dX6_extend_38 : decode cX6_extend 38 = .ok (.ifCond .lt 10, 3) := by decide +kernel
theorem dX6_extend_41 : decode cX6_extend 41 = .ok (.iload 5, 2) := by decide +kernel
theorem dX6_extend_43 : decode cX6_extend 43 = .ok (.bipush 40, 2) := by decide +kernel
theorem dX6_extend_45 : decode cX6_extend 45 = .ok (.if_icmp .lt 4, 3) := by decide +kernel
theorem dX6_extend_48 : decode cX6_extend 48 = .ok (.return_, 1) := by decide +kernel
theorem dX6_extend_49 : decode cX6_extend 49 = .ok (.ldc 105, 2) := by decide +kernel
theorem dX6_extend_51 : decode cX6_extend 51 = .ok (.iconst 1, 1) := by decide +kernel
theorem dX6_extend_52 : decode cX6_extend 52 = .ok (.iload_n 2, 1) := by decide +kernel
theorem dX6_extend_53 : decode cX6_extend 53 = .ok (.iconst 1, 1) := by decide +kernel
theorem dX6_extend_54 : decode cX6_extend 54 = .ok (.iadd, 1) := by decide +kernel
theorem dX6_extend_55 : decode cX6_extend 55 = .ok (.ishl, 1) := by decide +kernel
theorem dX6_extend_56 : decode cX6_extend 56 = .ok (.iadd, 1) := by decide +kernel
theorem dX6_extend_57 : decode cX6_extend 57 = .ok (.istore 6, 2) := by decide +kernel
theorem dX6_extend_59 : decode cX6_extend 59 = .ok (.aload_n 0, 1) := by decide +kernel
theorem dX6_extend_60 : decode cX6_extend 60 = .ok (.getfield 15, 3) := by decide +kernel
theorem dX6_extend_63 : decode cX6_extend 63 = .ok (.iload_n 1, 1) := by decide +kernel
theorem dX6_extend_64 : decode cX6_extend 64 = .ok (.iaload, 1) := by decide +kernel
theorem dX6_extend_65 : decode cX6_extend 65 = .ok (.iload 4, 2) := by decide +kernel
theorem dX6_extend_67 : decode cX6_extend 67 = .ok (.bipush 16, 2) := by decide +kernel
theorem dX6_extend_69 : decode cX6_extend 69 = .ok (.ishl, 1) := by decide +kernel
theorem dX6_extend_70 : decode cX6_extend 70 = .ok (.iadd, 1) := by decide +kernel
theorem dX6_extend_71 : decode cX6_extend 71 = .ok (.iload_n 3, 1) := by decide +kernel
theorem dX6_extend_72 : decode cX6_extend 72 = .ok (.iload 6, 2) := by decide +kernel
theorem dX6_extend_74 : decode cX6_extend 74 = .ok (.imul, 1) := by decide +kernel
theorem dX6_extend_75 : decode cX6_extend 75 = .ok (.iadd, 1) := by decide +kernel
theorem dX6_extend_76 : decode cX6_extend 76 = .ok (.istore 7, 2) := by decide +kernel
theorem dX6_extend_78 : decode cX6_extend 78 = .ok (.aload_n 0, 1) := by decide +kernel
theorem dX6_extend_79 : decode cX6_extend 79 = .ok (.getfield 21, 3) := by decide +kernel
theorem dX6_extend_82 : decode cX6_extend 82 = .ok (.iload 5, 2) := by decide +kernel
theorem dX6_extend_84 : decode cX6_extend 84 = .ok (.aload_n 0, 1) := by decide +kernel
theorem dX6_extend_85 : decode cX6_extend 85 = .ok (.getfield 21, 3) := by decide +kernel
theorem dX6_extend_88 : decode cX6_extend 88 = .ok (.iload 5, 2) := by decide +kernel
theorem dX6_extend_90 : decode cX6_extend 90 = .ok (.iaload, 1) := by decide +kernel
theorem dX6_extend_91 : decode cX6_extend 91 = .ok (.iload 7, 2) := by decide +kernel
theorem dX6_extend_93 : decode cX6_extend 93 = .ok (.invokestatic 79, 3) := by decide +kernel
theorem dX6_extend_96 : decode cX6_extend 96 = .ok (.iastore, 1) := by decide +kernel
theorem dX6_extend_97 : decode cX6_extend 97 = .ok (.aload_n 0, 1) := by decide +kernel
theorem dX6_extend_98 : decode cX6_extend 98 = .ok (.getfield 24, 3) := by decide +kernel
theorem dX6_extend_101 : decode cX6_extend 101 = .ok (.iload 5, 2) := by decide +kernel
theorem dX6_extend_103 : decode cX6_extend 103 = .ok (.dup2, 1) := by decide +kernel
theorem dX6_extend_104 : decode cX6_extend 104 = .ok (.iaload, 1) := by decide +kernel
theorem dX6_extend_105 : decode cX6_extend 105 = .ok (.aload_n 0, 1) := by decide +kernel
theorem dX6_extend_106 : decode cX6_extend 106 = .ok (.getfield 18, 3) := by decide +kernel
theorem dX6_extend_109 : decode cX6_extend 109 = .ok (.iload_n 1, 1) := by decide +kernel
theorem dX6_extend_110 : decode cX6_extend 110 = .ok (.iaload, 1) := by decide +kernel
theorem dX6_extend_111 : decode cX6_extend 111 = .ok (.iadd, 1) := by decide +kernel
theorem dX6_extend_112 : decode cX6_extend 112 = .ok (.iastore, 1) := by decide +kernel
theorem dX6_extend_113 : decode cX6_extend 113 = .ok (.return_, 1) := by decide +kernel
theorem dX6_bestAtEnd_0 : decode cX6_bestAtEnd 0 = .ok (.ldc 47, 2) := by decide +kernel
theorem dX6_bestAtEnd_2 : decode cX6_bestAtEnd 2 = .ok (.istore_n 1, 1) := by decide +kernel
theorem dX6_bestAtEnd_3 : decode cX6_bestAtEnd 3 = .ok (.iconst 0, 1) := by decide +kernel
theorem dX6_bestAtEnd_4 : decode cX6_bestAtEnd 4 = .ok (.istore_n 2, 1) := by decide +kernel
theorem dX6_bestAtEnd_5 : decode cX6_bestAtEnd 5 = .ok (.iconst 2, 1) := by decide +kernel
theorem dX6_bestAtEnd_6 : decode cX6_bestAtEnd 6 = .ok (.iload_n 2, 1) := by decide +kernel
theorem dX6_bestAtEnd_7 : decode cX6_bestAtEnd 7 = .ok (.imul, 1) := by decide +kernel
theorem dX6_bestAtEnd_8 : decode cX6_bestAtEnd 8 = .ok (.bipush 40, 2) := by decide +kernel
theorem dX6_bestAtEnd_10 : decode cX6_bestAtEnd 10 = .ok (.if_icmp .ge 68, 3) := by decide +kernel
theorem dX6_bestAtEnd_13 : decode cX6_bestAtEnd 13 = .ok (.aload_n 0, 1) := by decide +kernel
theorem dX6_bestAtEnd_14 : decode cX6_bestAtEnd 14 = .ok (.iload_n 2, 1) := by decide +kernel
theorem dX6_bestAtEnd_15 : decode cX6_bestAtEnd 15 = .ok (.invokevirtual 106, 3) := by decide +kernel
theorem dX6_bestAtEnd_18 : decode cX6_bestAtEnd 18 = .ok (.istore_n 3, 1) := by decide +kernel
theorem dX6_bestAtEnd_19 : decode cX6_bestAtEnd 19 = .ok (.iload_n 3, 1) := by decide +kernel
theorem dX6_bestAtEnd_20 : decode cX6_bestAtEnd 20 = .ok (.iconst (-1), 1) := by decide +kernel
theorem dX6_bestAtEnd_21 : decode cX6_bestAtEnd 21 = .ok (.if_icmp .eq 51, 3) := by decide +kernel
theorem dX6_bestAtEnd_24 : decode cX6_bestAtEnd 24 = .ok (.aload_n 0, 1) := by decide +kernel
theorem dX6_bestAtEnd_25 : decode cX6_bestAtEnd 25 = .ok (.getfield 15, 3) := by decide +kernel
theorem dX6_bestAtEnd_28 : decode cX6_bestAtEnd 28 = .ok (.iconst 2, 1) := by decide +kernel
theorem dX6_bestAtEnd_29 : decode cX6_bestAtEnd 29 = .ok (.iload_n 2, 1) := by decide +kernel
theorem dX6_bestAtEnd_30 : decode cX6_bestAtEnd 30 = .ok (.imul, 1) := by decide +kernel
theorem dX6_bestAtEnd_31 : decode cX6_bestAtEnd 31 = .ok (.iaload, 1) := by decide +kernel
theorem dX6_bestAtEnd_32 : decode cX6_bestAtEnd 32 = .ok (.ldc 47, 2) := by decide +kernel
theorem dX6_bestAtEnd_34 : decode cX6_bestAtEnd 34 = .ok (.if_icmp .eq 38, 3) := by decide +kernel
theorem dX6_bestAtEnd_37 : decode cX6_bestAtEnd 37 = .ok (.iload_n 1, 1) := by decide +kernel
theorem dX6_bestAtEnd_38 : decode cX6_bestAtEnd 38 = .ok (.aload_n 0, 1) := by decide +kernel
theorem dX6_bestAtEnd_39 : decode cX6_bestAtEnd 39 = .ok (.getfield 15, 3) := by decide +kernel
theorem dX6_bestAtEnd_42 : decode cX6_bestAtEnd 42 = .ok (.iconst 2, 1) := by decide +kernel
theorem dX6_bestAtEnd_43 : decode cX6_bestAtEnd 43 = .ok (.iload_n 2, 1) := by decide +kernel
theorem dX6_bestAtEnd_44 : decode cX6_bestAtEnd 44 = .ok (.imul, 1) := by decide +kernel
theorem dX6_bestAtEnd_45 : decode cX6_bestAtEnd 45 = .ok (.iaload, 1) := by decide +kernel
theorem dX6_bestAtEnd_46 : decode cX6_bestAtEnd 46 = .ok (.iload_n 3, 1) := by decide +kernel
theorem dX6_bestAtEnd_47 : decode cX6_bestAtEnd 47 = .ok (.bipush 16, 2) := by decide +kernel
theorem dX6_bestAtEnd_49 : decode cX6_bestAtEnd 49 = .ok (.ishl, 1) := by decide +kernel
theorem dX6_bestAtEnd_50 : decode cX6_bestAtEnd 50 = .ok (.iadd, 1) := by decide +kernel
theorem dX6_bestAtEnd_51 : decode cX6_bestAtEnd 51 = .ok (.invokestatic 79, 3) := by decide +kernel
theorem dX6_bestAtEnd_54 : decode cX6_bestAtEnd 54 = .ok (.istore_n 1, 1) := by decide +kernel
theorem dX6_bestAtEnd_55 : decode cX6_bestAtEnd 55 = .ok (.aload_n 0, 1) := by decide +kernel
theorem dX6_bestAtEnd_56 : decode cX6_bestAtEnd 56 = .ok (.dup, 1) := by decide +kernel
theorem dX6_bestAtEnd_57 : decode cX6_bestAtEnd 57 = .ok (.getfield 40, 3) := by decide +kernel
theorem dX6_bestAtEnd_60 : decode cX6_bestAtEnd 60 = .ok (.aload_n 0, 1) := by decide +kernel
theorem dX6_bestAtEnd_61 : decode cX6_bestAtEnd 61 = .ok (.getfield 18, 3) := by decide +kernel
theorem dX6_bestAtEnd_64 : decode cX6_bestAtEnd 64 = .ok (.iconst 2, 1) := by decide +kernel
theorem dX6_bestAtEnd_65 : decode cX6_bestAtEnd 65 = .ok (.iload_n 2, 1) := by decide +kernel
theorem dX6_bestAtEnd_66 : decode cX6_bestAtEnd 66 = .ok (.imul, 1) := by decide +kernel
theorem dX6_bestAtEnd_67 : decode cX6_bestAtEnd 67 = .ok (.iaload, 1) := by decide +kernel
theorem dX6_bestAtEnd_68 : decode cX6_bestAtEnd 68 = .ok (.iadd, 1) := by decide +kernel
theorem dX6_bestAtEnd_69 : decode cX6_bestAtEnd 69 = .ok (.putfield 40, 3) := by decide +kernel
theorem dX6_bestAtEnd_72 : decode cX6_bestAtEnd 72 = .ok (.iinc 2 1, 3) := by decide +kernel
theorem dX6_bestAtEnd_75 : decode cX6_bestAtEnd 75 = .ok (.goto (-70), 3) := by decide +kernel
theorem dX6_bestAtEnd_78 : decode cX6_bestAtEnd 78 = .ok (.iload_n 1, 1) := by decide +kernel
theorem dX6_bestAtEnd_79 : decode cX6_bestAtEnd 79 = .ok (.ireturn, 1) := by decide +kernel
theorem dX6_wordPrice_0 : decode cX6_wordPrice 0 = .ok (.aload_n 0, 1) := by decide +kernel
theorem dX6_wordPrice_1 : decode cX6_wordPrice 1 = .ok (.getfield 43, 3) := by decide +kernel
theorem dX6_wordPrice_4 : decode cX6_wordPrice 4 = .ok (.iload_n 1, 1) := by decide +kernel
theorem dX6_wordPrice_5 : decode cX6_wordPrice 5 = .ok (.invokevirtual 101, 3) := by decide +kernel
theorem dX6_wordPrice_8 : decode cX6_wordPrice 8 = .ok (.istore 5, 2) := by decide +kernel
theorem dX6_wordPrice_10 : decode cX6_wordPrice 10 = .ok (.iconst 0, 1) := by decide +kernel
theorem dX6_wordPrice_11 : decode cX6_wordPrice 11 = .ok (.istore 6, 2) := by decide +kernel
theorem dX6_wordPrice_13 : decode cX6_wordPrice 13 = .ok (.iconst 0, 1) := by decide +kernel
theorem dX6_wordPrice_14 : decode cX6_wordPrice 14 = .ok (.istore 7, 2) := by decide +kernel
theorem dX6_wordPrice_16 : decode cX6_wordPrice 16 = .ok (.iload 7, 2) := by decide +kernel
theorem dX6_wordPrice_18 : decode cX6_wordPrice 18 = .ok (.iload 5, 2) := by decide +kernel
theorem dX6_wordPrice_20 : decode cX6_wordPrice 20 = .ok (.if_icmp .ge 178, 3) := by decide +kernel
theorem dX6_wordPrice_23 : decode cX6_wordPrice 23 = .ok (.iload 7, 2) := by decide +kernel
theorem dX6_wordPrice_25 : decode cX6_wordPrice 25 = .ok (.ifCond .ne 11, 3) := by decide +kernel
theorem dX6_wordPrice_28 : decode cX6_wordPrice 28 = .ok (.iload_n 3, 1) := by decide +kernel
theorem dX6_wordPrice_29 : decode cX6_wordPrice 29 = .ok (.ifCond .eq 7, 3) := by decide +kernel
theorem dX6_wordPrice_32 : decode cX6_wordPrice 32 = .ok (.iconst 1, 1) := by decide +kernel
theorem dX6_wordPrice_33 : decode cX6_wordPrice 33 = .ok (.goto 4, 3) := by decide +kernel
theorem dX6_wordPrice_36 : decode cX6_wordPrice 36 = .ok (.iconst 0, 1) := by decide +kernel
theorem dX6_wordPrice_37 : decode cX6_wordPrice 37 = .ok (.istore 8, 2) := by decide +kernel
theorem dX6_wordPrice_39 : decode cX6_wordPrice 39 = .ok (.iload 7, 2) := by decide +kernel
theorem dX6_wordPrice_41 : decode cX6_wordPrice 41 = .ok (.iload 5, 2) := by decide +kernel
theorem dX6_wordPrice_43 : decode cX6_wordPrice 43 = .ok (.iconst 1, 1) := by decide +kernel
theorem dX6_wordPrice_44 : decode cX6_wordPrice 44 = .ok (.isub, 1) := by decide +kernel
theorem dX6_wordPrice_45 : decode cX6_wordPrice 45 = .ok (.if_icmp .ne 12, 3) := by decide +kernel
theorem dX6_wordPrice_48 : decode cX6_wordPrice 48 = .ok (.iload 4, 2) := by decide +kernel
theorem dX6_wordPrice_50 : decode cX6_wordPrice 50 = .ok (.ifCond .eq 7, 3) := by decide +kernel
theorem dX6_wordPrice_53 : decode cX6_wordPrice 53 = .ok (.iconst 1, 1) := by decide +kernel
theorem dX6_wordPrice_54 : decode cX6_wordPrice 54 = .ok (.goto 4, 3) := by decide +kernel
theorem dX6_wordPrice_57 : decode cX6_wordPrice 57 = .ok (.iconst 0, 1) := by decide +kernel
theorem dX6_wordPrice_58 : decode cX6_wordPrice 58 = .ok (.istore 9, 2) := by decide +kernel
theorem dX6_wordPrice_60 : decode cX6_wordPrice 60 = .ok (.iload_n 2, 1) := by decide +kernel
theorem dX6_wordPrice_61 : decode cX6_wordPrice 61 = .ok (.iload 7, 2) := by decide +kernel
theorem dX6_wordPrice_63 : decode cX6_wordPrice 63 = .ok (.iadd, 1) := by decide +kernel
theorem dX6_wordPrice_64 : decode cX6_wordPrice 64 = .ok (.aload_n 0, 1) := by decide +kernel
theorem dX6_wordPrice_65 : decode cX6_wordPrice 65 = .ok (.getfield 32, 3) := by decide +kernel
theorem dX6_wordPrice_68 : decode cX6_wordPrice 68 = .ok (.invokevirtual 109, 3) := by decide +kernel
theorem dX6_wordPrice_71 : decode cX6_wordPrice 71 = .ok (.if_icmp .ne 43, 3) := by decide +kernel
theorem dX6_wordPrice_74 : decode cX6_wordPrice 74 = .ok (.iload 7, 2) := by decide +kernel
theorem dX6_wordPrice_76 : decode cX6_wordPrice 76 = .ok (.ifCond .gt 13, 3) := by decide +kernel
theorem dX6_wordPrice_79 : decode cX6_wordPrice 79 = .ok (.iload 8, 2) := by decide +kernel
theorem dX6_wordPrice_81 : decode cX6_wordPrice 81 = .ok (.ifCond .ne 8, 3) := by decide +kernel
theorem dX6_wordPrice_84 : decode cX6_wordPrice 84 = .ok (.iload 9, 2) := by decide +kernel
theorem dX6_wordPrice_86 : decode cX6_wordPrice 86 = .ok (.ifCond .eq 5, 3) := by decide +kernel
theorem dX6_wordPrice_89 : decode cX6_wordPrice 89 = .ok (.iconst (-1), 1) := by decide +kernel
theorem dX6_wordPrice_90 : decode cX6_wordPrice 90 = .ok (.ireturn, 1) := by decide +kernel
theorem dX6_wordPrice_91 : decode cX6_wordPrice 91 = .ok (.iload 6, 2) := by decide +kernel
theorem dX6_wordPrice_93 : decode cX6_wordPrice 93 = .ok (.aload_n 0, 1) := by decide +kernel
theorem dX6_wordPrice_94 : decode cX6_wordPrice 94 = .ok (.getfield 43, 3) := by decide +kernel
theorem dX6_wordPrice_97 : decode cX6_wordPrice 97 = .ok (.iload_n 1, 1) := by decide +kernel
theorem dX6_wordPrice_98 : decode cX6_wordPrice 98 = .ok (.iconst 1, 1) := by decide +kernel
theorem dX6_wordPrice_99 : decode cX6_wordPrice 99 = .ok (.isub, 1) := by decide +kernel
theorem dX6_wordPrice_100 : decode cX6_wordPrice 100 = .ok (.invokevirtual 112, 3) := by decide +kernel
theorem dX6_wordPrice_103 : decode cX6_wordPrice 103 = .ok (.ifCond .eq 7, 3) := by decide +kernel
theorem dX6_wordPrice_106 : decode cX6_wordPrice 106 = .ok (.iconst 0, 1) := by decide +kernel
theorem dX6_wordPrice_107 : decode cX6_wordPrice 107 = .ok (.goto 4, 3) := by decide +kernel
theorem dX6_wordPrice_110 : decode cX6_wordPrice 110 = .ok (.iconst 1, 1) := by decide +kernel
theorem dX6_wordPrice_111 : decode cX6_wordPrice 111 = .ok (.iadd, 1) := by decide +kernel
theorem dX6_wordPrice_112 : decode cX6_wordPrice 112 = .ok (.istore 6, 2) := by decide +kernel
theorem dX6_wordPrice_114 : decode cX6_wordPrice 114 = .ok (.iload 9, 2) := by decide +kernel
theorem dX6_wordPrice_116 : decode cX6_wordPrice 116 = .ok (.ifCond .ne 76, 3) := by decide +kernel
theorem dX6_wordPrice_119 : decode cX6_wordPrice 119 = .ok (.aload_n 0, 1) := by decide +kernel
theorem dX6_wordPrice_120 : decode cX6_wordPrice 120 = .ok (.getfield 43, 3) := by decide +kernel
theorem dX6_wordPrice_123 : decode cX6_wordPrice 123 = .ok (.iload_n 1, 1) := by decide +kernel
theorem dX6_wordPrice_124 : decode cX6_wordPrice 124 = .ok (.iload 7, 2) := by decide +kernel
theorem dX6_wordPrice_126 : decode cX6_wordPrice 126 = .ok (.invokevirtual 116, 3) := by decide +kernel
theorem dX6_wordPrice_129 : decode cX6_wordPrice 129 = .ok (.istore 10, 2) := by decide +kernel
theorem dX6_wordPrice_131 : decode cX6_wordPrice 131 = .ok (.iload 8, 2) := by decide +kernel
theorem dX6_wordPrice_133 : decode cX6_wordPrice 133 = .ok (.ifCond .eq 32, 3) := by decide +kernel
theorem dX6_wordPrice_136 : decode cX6_wordPrice 136 = .ok (.iload 10, 2) := by decide +kernel
theorem dX6_wordPrice_138 : decode cX6_wordPrice 138 = .ok (.aload_n 0, 1) := by decide +kernel
theorem dX6_wordPrice_139 : decode cX6_wordPrice 139 = .ok (.getfield 43, 3) := by decide +kernel
theorem dX6_wordPrice_142 : decode cX6_wordPrice 142 = .ok (.iload_n 1, 1) := by decide +kernel
theorem dX6_wordPrice_143 : decode cX6_wordPrice 143 = .ok (.iconst 1, 1) := by decide +kernel
theorem dX6_wordPrice_144 : decode cX6_wordPrice 144 = .ok (.isub, 1) := by decide +kernel
theorem dX6_wordPrice_145 : decode cX6_wordPrice 145 = .ok (.aload_n 0, 1) := by decide +kernel
theorem dX6_wordPrice_146 : decode cX6_wordPrice 146 = .ok (.getfield 43, 3) := by decide +kernel
theorem dX6_wordPrice_149 : decode cX6_wordPrice 149 = .ok (.iload_n 1, 1) := by decide +kernel
theorem dX6_wordPrice_150 : decode cX6_wordPrice 150 = .ok (.iconst 1, 1) := by decide +kernel
theorem dX6_wordPrice_151 : decode cX6_wordPrice 151 = .ok (.isub, 1) := by decide +kernel
theorem dX6_wordPrice_152 : decode cX6_wordPrice 152 = .ok (.invokevirtual 101, 3) := by decide +kernel
theorem dX6_wordPrice_155 : decode cX6_wordPrice 155 = .ok (.iconst 1, 1) := by decide +kernel
theorem dX6_wordPrice_156 : decode cX6_wordPrice 156 = .ok (.isub, 1) := by decide +kernel
theorem dX6_wordPrice_157 : decode cX6_wordPrice 157 = .ok (.invokevirtual 116, 3) := by decide +kernel
theorem dX6_wordPrice_160 : decode cX6_wordPrice 160 = .ok (.invokestatic 119, 3) := by decide +kernel
theorem dX6_wordPrice_163 : decode cX6_wordPrice 163 = .ok (.istore 10, 2) := by decide +kernel
theorem dX6_wordPrice_165 : decode cX6_wordPrice 165 = .ok (.aload_n 0, 1) := by decide +kernel
theorem dX6_wordPrice_166 : decode cX6_wordPrice 166 = .ok (.iload_n 2, 1) := by decide +kernel
theorem dX6_wordPrice_167 : decode cX6_wordPrice 167 = .ok (.iload 7, 2) := by decide +kernel
theorem dX6_wordPrice_169 : decode cX6_wordPrice 169 = .ok (.iadd, 1) := by decide +kernel
theorem dX6_wordPrice_170 : decode cX6_wordPrice 170 = .ok (.iload 10, 2) := by decide +kernel
theorem dX6_wordPrice_172 : decode cX6_wordPrice 172 = .ok (.invokevirtual 122, 3) := by decide +kernel
theorem dX6_wordPrice_175 : decode cX6_wordPrice 175 = .ok (.istore 11, 2) := by decide +kernel
theorem dX6_wordPrice_177 : decode cX6_wordPrice 177 = .ok (.iload 11, 2) := by decide +kernel
theorem dX6_wordPrice_179 : decode cX6_wordPrice 179 = .ok (.iconst (-1), 1) := by decide +kernel
theorem dX6_wordPrice_180 : decode cX6_wordPrice 180 = .ok (.if_icmp .ne 5, 3) := by decide +kernel
theorem dX6_wordPrice_183 : decode cX6_wordPrice 183 = .ok (.iconst (-1), 1) := by decide +kernel
theorem dX6_wordPrice_184 : decode cX6_wordPrice 184 = .ok (.ireturn, 1) := by decide +kernel
theorem dX6_wordPrice_185 : decode cX6_wordPrice 185 = .ok (.iload 6, 2) := by decide +kernel
theorem dX6_wordPrice_187 : decode cX6_wordPrice 187 = .ok (.iload 11, 2) := by decide +kernel
theorem dX6_wordPrice_189 : decode cX6_wordPrice 189 = .ok (.iadd, 1) := by decide +kernel
theorem dX6_wordPrice_190 : decode cX6_wordPrice 190 = .ok (.istore 6, 2) := by decide +kernel
theorem dX6_wordPrice_192 : decode cX6_wordPrice 192 = .ok (.iinc 7 1, 3) := by decide +kernel
theorem dX6_wordPrice_195 : decode cX6_wordPrice 195 = .ok (.goto (-179), 3) := by decide +kernel
theorem dX6_wordPrice_198 : decode cX6_wordPrice 198 = .ok (.iload 6, 2) := by decide +kernel
theorem dX6_wordPrice_200 : decode cX6_wordPrice 200 = .ok (.ireturn, 1) := by decide +kernel
theorem dX6_syllablePrice_0 : decode cX6_syllablePrice 0 = .ok (.iload_n 1, 1) := by decide +kernel
theorem dX6_syllablePrice_1 : decode cX6_syllablePrice 1 = .ok (.ifCond .lt 23, 3) := by decide +kernel
theorem dX6_syllablePrice_4 : decode cX6_syllablePrice 4 = .ok (.iload_n 1, 1) := by decide +kernel
theorem dX6_syllablePrice_5 : decode cX6_syllablePrice 5 = .ok (.aload_n 0, 1) := by decide +kernel
theorem dX6_syllablePrice_6 : decode cX6_syllablePrice 6 = .ok (.getfield 32, 3) := by decide +kernel
theorem dX6_syllablePrice_9 : decode cX6_syllablePrice 9 = .ok (.getfield 125, 3) := by decide +kernel
theorem dX6_syllablePrice_12 : decode cX6_syllablePrice 12 = .ok (.if_icmp .gt 12, 3) := by decide +kernel
theorem dX6_syllablePrice_15 : decode cX6_syllablePrice 15 = .ok (.iload_n 1, 1) := by decide +kernel
theorem dX6_syllablePrice_16 : decode cX6_syllablePrice 16 = .ok (.aload_n 0, 1) := by decide +kernel
theorem dX6_syllablePrice_17 : decode cX6_syllablePrice 17 = .ok (.getfield 9, 3) := by decide +kernel
theorem dX6_syllablePrice_20 : decode cX6_syllablePrice 20 = .ok (.arraylength, 1) := by decide +kernel
theorem dX6_syllablePrice_21 : decode cX6_syllablePrice 21 = .ok (.if_icmp .lt 5, 3) := by decide +kernel
theorem dX6_syllablePrice_24 : decode cX6_syllablePrice 24 = .ok (.iconst (-1), 1) := by decide +kernel
theorem dX6_syllablePrice_25 : decode cX6_syllablePrice 25 = .ok (.ireturn, 1) := by decide +kernel
theorem dX6_syllablePrice_26 : decode cX6_syllablePrice 26 = .ok (.iconst 0, 1) := by decide +kernel
theorem dX6_syllablePrice_27 : decode cX6_syllablePrice 27 = .ok (.istore_n 3, 1) := by decide +kernel
theorem dX6_syllablePrice_28 : decode cX6_syllablePrice 28 = .ok (.iload_n 1, 1) := by decide +kernel
theorem dX6_syllablePrice_29 : decode cX6_syllablePrice 29 = .ok (.aload_n 0, 1) := by decide +kernel
theorem dX6_syllablePrice_30 : decode cX6_syllablePrice 30 = .ok (.getfield 32, 3) := by decide +kernel
theorem dX6_syllablePrice_33 : decode cX6_syllablePrice 33 = .ok (.getfield 125, 3) := by decide +kernel
theorem dX6_syllablePrice_36 : decode cX6_syllablePrice 36 = .ok (.if_icmp .ne 17, 3) := by decide +kernel
theorem dX6_syllablePrice_39 : decode cX6_syllablePrice 39 = .ok (.iload_n 2, 1) := by decide +kernel
theorem dX6_syllablePrice_40 : decode cX6_syllablePrice 40 = .ok (.iconst 2, 1) := by decide +kernel
theorem dX6_syllablePrice_41 : decode cX6_syllablePrice 41 = .ok (.if_icmp .ne 7, 3) := by decide +kernel
theorem dX6_syllablePrice_44 : decode cX6_syllablePrice 44 = .ok (.iconst (-1), 1) := by decide +kernel
theorem dX6_syllablePrice_45 : decode cX6_syllablePrice 45 = .ok (.goto 4, 3) := by decide +kernel
theorem dX6_syllablePrice_48 : decode cX6_syllablePrice 48 = .ok (.iconst 0, 1) := by decide +kernel
theorem dX6_syllablePrice_49 : decode cX6_syllablePrice 49 = .ok (.istore_n 3, 1) := by decide +kernel
theorem dX6_syllablePrice_50 : decode cX6_syllablePrice 50 = .ok (.goto 39, 3) := by decide +kernel
theorem dX6_syllablePrice_53 : decode cX6_syllablePrice 53 = .ok (.aload_n 0, 1) := by decide +kernel
theorem dX6_syllablePrice_54 : decode cX6_syllablePrice 54 = .ok (.getfield 36, 3) := by decide +kernel
theorem dX6_syllablePrice_57 : decode cX6_syllablePrice 57 = .ok (.iload_n 1, 1) := by decide +kernel
theorem dX6_syllablePrice_58 : decode cX6_syllablePrice 58 = .ok (.ishr, 1) := by decide +kernel
theorem dX6_syllablePrice_59 : decode cX6_syllablePrice 59 = .ok (.iconst 1, 1) := by decide +kernel
theorem dX6_syllablePrice_60 : decode cX6_syllablePrice 60 = .ok (.iand, 1) := by decide +kernel
theorem dX6_syllablePrice_61 : decode cX6_syllablePrice 61 = .ok (.iconst 1, 1) := by decide +kernel
theorem dX6_syllablePrice_62 : decode cX6_syllablePrice 62 = .ok (.if_icmp .ne 16, 3) := by decide +kernel
theorem dX6_syllablePrice_65 : decode cX6_syllablePrice 65 = .ok (.iload_n 2, 1) := by decide +kernel
theorem dX6_syllablePrice_66 : decode cX6_syllablePrice 66 = .ok (.ifCond .ne 7, 3) := by decide +kernel
theorem dX6_syllablePrice_69 : decode cX6_syllablePrice 69 = .ok (.iconst 4, 1) := by decide +kernel
theorem dX6_syllablePrice_70 : decode cX6_syllablePrice 70 = .ok (.goto 4, 3) := by decide +kernel
theorem dX6_syllablePrice_73 : decode cX6_syllablePrice 73 = .ok (.iconst 0, 1) := by decide +kernel
theorem dX6_syllablePrice_74 : decode cX6_syllablePrice 74 = .ok (.istore_n 3, 1) := by decide +kernel
theorem dX6_syllablePrice_75 : decode cX6_syllablePrice 75 = .ok (.goto 14, 3) := by decide +kernel
theorem dX6_syllablePrice_78 : decode cX6_syllablePrice 78 = .ok (.iload_n 2, 1) := by decide +kernel
theorem dX6_syllablePrice_79 : decode cX6_syllablePrice 79 = .ok (.iconst 2, 1) := by decide +kernel
theorem dX6_syllablePrice_80 : decode cX6_syllablePrice 80 = .ok (.if_icmp .ne 7, 3) := by decide +kernel
theorem dX6_syllablePrice_83 : decode cX6_syllablePrice 83 = .ok (.iconst 3, 1) := by decide +kernel
theorem dX6_syllablePrice_84 : decode cX6_syllablePrice 84 = .ok (.goto 4, 3) := by decide +kernel
theorem dX6_syllablePrice_87 : decode cX6_syllablePrice 87 = .ok (.iconst 0, 1) := by decide +kernel
theorem dX6_syllablePrice_88 : decode cX6_syllablePrice 88 = .ok (.istore_n 3, 1) := by decide +kernel
theorem dX6_syllablePrice_89 : decode cX6_syllablePrice 89 = .ok (.aload_n 0, 1) := by decide +kernel
theorem dX6_syllablePrice_90 : decode cX6_syllablePrice 90 = .ok (.getfield 9, 3) := by decide +kernel
theorem dX6_syllablePrice_93 : decode cX6_syllablePrice 93 = .ok (.iload_n 1, 1) := by decide +kernel
theorem dX6_syllablePrice_94 : decode cX6_syllablePrice 94 = .ok (.iload_n 3, 1) := by decide +kernel
theorem dX6_syllablePrice_95 : decode cX6_syllablePrice 95 = .ok (.iastore, 1) := by decide +kernel
theorem dX6_syllablePrice_96 : decode cX6_syllablePrice 96 = .ok (.iload_n 3, 1) := by decide +kernel
theorem dX6_syllablePrice_97 : decode cX6_syllablePrice 97 = .ok (.ireturn, 1) := by decide +kernel
theorem dX6_endPrice_0 : decode cX6_endPrice 0 = .ok (.iload_n 1, 1) := by decide +kernel
theorem dX6_endPrice_1 : decode cX6_endPrice 1 = .ok (.aload_n 0, 1) := by decide +kernel
theorem dX6_endPrice_2 : decode cX6_endPrice 2 = .ok (.getfield 32, 3) := by decide +kernel
theorem dX6_endPrice_5 : decode cX6_endPrice 5 = .ok (.getfield 125, 3) := by decide +kernel
theorem dX6_endPrice_8 : decode cX6_endPrice 8 = .ok (.if_icmp .ne 5, 3) := by decide +kernel
theorem dX6_endPrice_11 : decode cX6_endPrice 11 = .ok (.iconst 0, 1) := by decide +kernel
theorem dX6_endPrice_12 : decode cX6_endPrice 12 = .ok (.ireturn, 1) := by decide +kernel
theorem dX6_endPrice_13 : decode cX6_endPrice 13 = .ok (.iload_n 1, 1) := by decide +kernel
theorem dX6_endPrice_14 : decode cX6_endPrice 14 = .ok (.aload_n 0, 1) := by decide +kernel
theorem dX6_endPrice_15 : decode cX6_endPrice 15 = .ok (.getfield 32, 3) := by decide +kernel
theorem dX6_endPrice_18 : decode cX6_endPrice 18 = .ok (.getfield 125, 3) := by decide +kernel
theorem dX6_endPrice_21 : decode cX6_endPrice 21 = .ok (.iconst 1, 1) := by decide +kernel
theorem dX6_endPrice_22 : decode cX6_endPrice 22 = .ok (.iadd, 1) := by decide +kernel
theorem dX6_endPrice_23 : decode cX6_endPrice 23 = .ok (.if_icmp .eq 14, 3) := by decide +kernel
theorem dX6_endPrice_26 : decode cX6_endPrice 26 = .ok (.iload_n 1, 1) := by decide +kernel
theorem dX6_endPrice_27 : decode cX6_endPrice 27 = .ok (.aload_n 0, 1) := by decide +kernel
theorem dX6_endPrice_28 : decode cX6_endPrice 28 = .ok (.getfield 32, 3) := by decide +kernel
theorem dX6_endPrice_31 : decode cX6_endPrice 31 = .ok (.invokevirtual 128, 3) := by decide +kernel
theorem dX6_endPrice_34 : decode cX6_endPrice 34 = .ok (.if_icmp .ne 7, 3) := by decide +kernel
theorem dX6_endPrice_37 : decode cX6_endPrice 37 = .ok (.iconst 1, 1) := by decide +kernel
theorem dX6_endPrice_38 : decode cX6_endPrice 38 = .ok (.goto 4, 3) := by decide +kernel
theorem dX6_endPrice_41 : decode cX6_endPrice 41 = .ok (.iconst (-1), 1) := by decide +kernel
theorem dX6_endPrice_42 : decode cX6_endPrice 42 = .ok (.ireturn, 1) := by decide +kernel
theorem dX6_priceOf_0 : decode cX6_priceOf 0 = .ok (.aload_n 0, 1) := by decide +kernel
theorem dX6_priceOf_1 : decode cX6_priceOf 1 = .ok (.aload_n 1, 1) := by decide +kernel
theorem dX6_priceOf_2 : decode cX6_priceOf 2 = .ok (.iload_n 3, 1) := by decide +kernel
theorem dX6_priceOf_3 : decode cX6_priceOf 3 = .ok (.invokevirtual 57, 3) := by decide +kernel
theorem dX6_priceOf_6 : decode cX6_priceOf 6 = .ok (.iload_n 3, 1) := by decide +kernel
theorem dX6_priceOf_7 : decode cX6_priceOf 7 = .ok (.ifCond .eq 7, 3) := by decide +kernel
theorem dX6_priceOf_10 : decode cX6_priceOf 10 = .ok (.iconst 2, 1) := by decide +kernel
theorem dX6_priceOf_11 : decode cX6_priceOf 11 = .ok (.goto 4, 3) := by decide +kernel
theorem dX6_priceOf_14 : decode cX6_priceOf 14 = .ok (.iconst 0, 1) := by decide +kernel
theorem dX6_priceOf_15 : decode cX6_priceOf 15 = .ok (.istore 4, 2) := by decide +kernel
theorem dX6_priceOf_17 : decode cX6_priceOf 17 = .ok (.iconst 0, 1) := by decide +kernel
theorem dX6_priceOf_18 : decode cX6_priceOf 18 = .ok (.istore 5, 2) := by decide +kernel
theorem dX6_priceOf_20 : decode cX6_priceOf 20 = .ok (.iconst 0, 1) := by decide +kernel
theorem dX6_priceOf_21 : decode cX6_priceOf 21 = .ok (.istore 6, 2) := by decide +kernel
theorem dX6_priceOf_23 : decode cX6_priceOf 23 = .ok (.iconst 0, 1) := by decide +kernel
theorem dX6_priceOf_24 : decode cX6_priceOf 24 = .ok (.istore 7, 2) := by decide +kernel
theorem dX6_priceOf_26 : decode cX6_priceOf 26 = .ok (.iload 7, 2) := by decide +kernel
theorem dX6_priceOf_28 : decode cX6_priceOf 28 = .ok (.aload_n 0, 1) := by decide +kernel
theorem dX6_priceOf_29 : decode cX6_priceOf 29 = .ok (.getfield 43, 3) := by decide +kernel
theorem dX6_priceOf_32 : decode cX6_priceOf 32 = .ok (.getfield 68, 3) := by decide +kernel
theorem dX6_priceOf_35 : decode cX6_priceOf 35 = .ok (.if_icmp .ge 104, 3) := by decide +kernel
theorem dX6_priceOf_38 : decode cX6_priceOf 38 = .ok (.iload_n 2, 1) := by decide +kernel
theorem dX6_priceOf_39 : decode cX6_priceOf 39 = .ok (.iload 7, 2) := by decide +kernel
theorem dX6_priceOf_41 : decode cX6_priceOf 41 = .ok (.ishr, 1) := by decide +kernel
theorem dX6_priceOf_42 : decode cX6_priceOf 42 = .ok (.iconst 1, 1) := by decide +kernel
theorem dX6_priceOf_43 : decode cX6_priceOf 43 = .ok (.iand, 1) := by decide +kernel
theorem dX6_priceOf_44 : decode cX6_priceOf 44 = .ok (.iconst 1, 1) := by decide +kernel
theorem dX6_priceOf_45 : decode cX6_priceOf 45 = .ok (.if_icmp .ne 7, 3) := by decide +kernel
theorem dX6_priceOf_48 : decode cX6_priceOf 48 = .ok (.iconst 1, 1) := by decide +kernel
theorem dX6_priceOf_49 : decode cX6_priceOf 49 = .ok (.goto 4, 3) := by decide +kernel
theorem dX6_priceOf_52 : decode cX6_priceOf 52 = .ok (.iconst 0, 1) := by decide +kernel
theorem dX6_priceOf_53 : decode cX6_priceOf 53 = .ok (.istore 8, 2) := by decide +kernel
theorem dX6_priceOf_55 : decode cX6_priceOf 55 = .ok (.aload_n 0, 1) := by decide +kernel
theorem dX6_priceOf_56 : decode cX6_priceOf 56 = .ok (.iload 7, 2) := by decide +kernel
theorem dX6_priceOf_58 : decode cX6_priceOf 58 = .ok (.iload 5, 2) := by decide +kernel
theorem dX6_priceOf_60 : decode cX6_priceOf 60 = .ok (.iload 6, 2) := by decide +kernel
theorem dX6_priceOf_62 : decode cX6_priceOf 62 = .ok (.iload 8, 2) := by decide +kernel
theorem dX6_priceOf_64 : decode cX6_priceOf 64 = .ok (.invokevirtual 89, 3) := by decide +kernel
theorem dX6_priceOf_67 : decode cX6_priceOf 67 = .ok (.istore 9, 2) := by decide +kernel
theorem dX6_priceOf_69 : decode cX6_priceOf 69 = .ok (.iload 9, 2) := by decide +kernel
theorem dX6_priceOf_71 : decode cX6_priceOf 71 = .ok (.iconst (-1), 1) := by decide +kernel
theorem dX6_priceOf_72 : decode cX6_priceOf 72 = .ok (.if_icmp .ne 5, 3) := by decide +kernel
theorem dX6_priceOf_75 : decode cX6_priceOf 75 = .ok (.iconst (-1), 1) := by decide +kernel
theorem dX6_priceOf_76 : decode cX6_priceOf 76 = .ok (.ireturn, 1) := by decide +kernel
theorem dX6_priceOf_77 : decode cX6_priceOf 77 = .ok (.iload 4, 2) := by decide +kernel
theorem dX6_priceOf_79 : decode cX6_priceOf 79 = .ok (.iload 8, 2) := by decide +kernel
theorem dX6_priceOf_81 : decode cX6_priceOf 81 = .ok (.ifCond .eq 10, 3) := by decide +kernel
theorem dX6_priceOf_84 : decode cX6_priceOf 84 = .ok (.iload 9, 2) := by decide +kernel
theorem dX6_priceOf_86 : decode cX6_priceOf 86 = .ok (.iconst 2, 1) := by decide +kernel
theorem dX6_priceOf_87 : decode cX6_priceOf 87 = .ok (.iadd, 1) := by decide +kernel
theorem dX6_priceOf_88 : decode cX6_priceOf 88 = .ok (.goto 5, 3) := by decide +kernel
theorem dX6_priceOf_91 : decode cX6_priceOf 91 = .ok (.iload 9, 2) := by decide +kernel
theorem dX6_priceOf_93 : decode cX6_priceOf 93 = .ok (.iadd, 1) := by decide +kernel
theorem dX6_priceOf_94 : decode cX6_priceOf 94 = .ok (.istore 4, 2) := by decide +kernel
theorem dX6_priceOf_96 : decode cX6_priceOf 96 = .ok (.iload 5, 2) := by decide +kernel
theorem dX6_priceOf_98 : decode cX6_priceOf 98 = .ok (.iload 8, 2) := by decide +kernel
theorem dX6_priceOf_100 : decode cX6_priceOf 100 = .ok (.ifCond .eq 17, 3) := by decide +kernel
theorem dX6_priceOf_103 : decode cX6_priceOf 103 = .ok (.aload_n 0, 1) := by decide +kernel
theorem dX6_priceOf_104 : decode cX6_priceOf 104 = .ok (.getfield 43, 3) := by decide +kernel
theorem dX6_priceOf_107 : decode cX6_priceOf 107 = .ok (.iload 7, 2) := by decide +kernel
theorem dX6_priceOf_109 : decode cX6_priceOf 109 = .ok (.invokevirtual 101, 3) := by decide +kernel
theorem dX6_priceOf_112 : decode cX6_priceOf 112 = .ok (.iconst 1, 1) := by decide +kernel
theorem dX6_priceOf_113 : decode cX6_priceOf 113 = .ok (.isub, 1) := by decide +kernel
theorem dX6_priceOf_114 : decode cX6_priceOf 114 = .ok (.goto 12, 3) := by decide +kernel
theorem dX6_priceOf_117 : decode cX6_priceOf 117 = .ok (.aload_n 0, 1) := by decide +kernel
theorem dX6_priceOf_118 : decode cX6_priceOf 118 = .ok (.getfield 43, 3) := by decide +kernel
theorem dX6_priceOf_121 : decode cX6_priceOf 121 = .ok (.iload 7, 2) := by decide +kernel
theorem dX6_priceOf_123 : decode cX6_priceOf 123 = .ok (.invokevirtual 101, 3) := by decide +kernel
theorem dX6_priceOf_126 : decode cX6_priceOf 126 = .ok (.iadd, 1) := by decide +kernel
theorem dX6_priceOf_127 : decode cX6_priceOf 127 = .ok (.istore 5, 2) := by decide +kernel
theorem dX6_priceOf_129 : decode cX6_priceOf 129 = .ok (.iload 8, 2) := by decide +kernel
theorem dX6_priceOf_131 : decode cX6_priceOf 131 = .ok (.istore 6, 2) := by decide +kernel
theorem dX6_priceOf_133 : decode cX6_priceOf 133 = .ok (.iinc 7 1, 3) := by decide +kernel
theorem dX6_priceOf_136 : decode cX6_priceOf 136 = .ok (.goto (-110), 3) := by decide +kernel
theorem dX6_priceOf_139 : decode cX6_priceOf 139 = .ok (.aload_n 0, 1) := by decide +kernel
theorem dX6_priceOf_140 : decode cX6_priceOf 140 = .ok (.iload 5, 2) := by decide +kernel
theorem dX6_priceOf_142 : decode cX6_priceOf 142 = .ok (.invokevirtual 106, 3) := by decide +kernel
theorem dX6_priceOf_145 : decode cX6_priceOf 145 = .ok (.istore 7, 2) := by decide +kernel
theorem dX6_priceOf_147 : decode cX6_priceOf 147 = .ok (.iload 7, 2) := by decide +kernel
theorem dX6_priceOf_149 : decode cX6_priceOf 149 = .ok (.iconst (-1), 1) := by decide +kernel
theorem dX6_priceOf_150 : decode cX6_priceOf 150 = .ok (.if_icmp .ne 7, 3) := by decide +kernel
theorem dX6_priceOf_153 : decode cX6_priceOf 153 = .ok (.iconst (-1), 1) := by decide +kernel
theorem dX6_priceOf_154 : decode cX6_priceOf 154 = .ok (.goto 8, 3) := by decide +kernel
theorem dX6_priceOf_157 : decode cX6_priceOf 157 = .ok (.iload 4, 2) := by decide +kernel
theorem dX6_priceOf_159 : decode cX6_priceOf 159 = .ok (.iload 7, 2) := by decide +kernel
theorem dX6_priceOf_161 : decode cX6_priceOf 161 = .ok (.iadd, 1) := by decide +kernel
theorem dX6_priceOf_162 : decode cX6_priceOf 162 = .ok (.ireturn, 1) := by decide +kernel
theorem dX6_firstDearFoot_0 : decode cX6_firstDearFoot 0 = .ok (.iconst 0, 1) := by decide +kernel
theorem dX6_firstDearFoot_1 : decode cX6_firstDearFoot 1 = .ok (.istore_n 1, 1) := by decide +kernel
theorem dX6_firstDearFoot_2 : decode cX6_firstDearFoot 2 = .ok (.iconst 0, 1) := by decide +kernel
theorem dX6_firstDearFoot_3 : decode cX6_firstDearFoot 3 = .ok (.istore_n 2, 1) := by decide +kernel
theorem dX6_firstDearFoot_4 : decode cX6_firstDearFoot 4 = .ok (.iload_n 2, 1) := by decide +kernel
theorem dX6_firstDearFoot_5 : decode cX6_firstDearFoot 5 = .ok (.aload_n 0, 1) := by decide +kernel
theorem dX6_firstDearFoot_6 : decode cX6_firstDearFoot 6 = .ok (.getfield 32, 3) := by decide +kernel
theorem dX6_firstDearFoot_9 : decode cX6_firstDearFoot 9 = .ok (.getfield 131, 3) := by decide +kernel
theorem dX6_firstDearFoot_12 : decode cX6_firstDearFoot 12 = .ok (.if_icmp .ge 51, 3) := by decide +kernel
theorem dX6_firstDearFoot_15 : decode cX6_firstDearFoot 15 = .ok (.iconst 0, 1) := by decide +kernel
theorem dX6_firstDearFoot_16 : decode cX6_firstDearFoot 16 = .ok (.istore_n 3, 1) := by decide +kernel
theorem dX6_firstDearFoot_17 : decode cX6_firstDearFoot 17 = .ok (.iload_n 3, 1) := by decide +kernel
theorem dX6_firstDearFoot_18 : decode cX6_firstDearFoot 18 = .ok (.aload_n 0, 1) := by decide +kernel
theorem dX6_firstDearFoot_19 : decode cX6_firstDearFoot 19 = .ok (.getfield 32, 3) := by decide +kernel
theorem dX6_firstDearFoot_22 : decode cX6_firstDearFoot 22 = .ok (.getfield 134, 3) := by decide +kernel
theorem dX6_firstDearFoot_25 : decode cX6_firstDearFoot 25 = .ok (.if_icmp .ge 32, 3) := by decide +kernel
theorem dX6_firstDearFoot_28 : decode cX6_firstDearFoot 28 = .ok (.iload_n 1, 1) := by decide +kernel
theorem dX6_firstDearFoot_29 : decode cX6_firstDearFoot 29 = .ok (.aload_n 0, 1) := by decide +kernel
theorem dX6_firstDearFoot_30 : decode cX6_firstDearFoot 30 = .ok (.getfield 9, 3) := by decide +kernel
theorem dX6_firstDearFoot_33 : decode cX6_firstDearFoot 33 = .ok (.arraylength, 1) := by decide +kernel
theorem dX6_firstDearFoot_34 : decode cX6_firstDearFoot 34 = .ok (.if_icmp .ge 23, 3) := by decide +kernel
theorem dX6_firstDearFoot_37 : decode cX6_firstDearFoot 37 = .ok (.aload_n 0, 1) := by decide +kernel
theorem dX6_firstDearFoot_38 : decode cX6_firstDearFoot 38 = .ok (.getfield 9, 3) := by decide +kernel
theorem dX6_firstDearFoot_41 : decode cX6_firstDearFoot 41 = .ok (.iload_n 1, 1) := by decide +kernel
theorem dX6_firstDearFoot_42 : decode cX6_firstDearFoot 42 = .ok (.iaload, 1) := by decide +kernel
theorem dX6_firstDearFoot_43 : decode cX6_firstDearFoot 43 = .ok (.ifCond .le 5, 3) := by decide +kernel
theorem dX6_firstDearFoot_46 : decode cX6_firstDearFoot 46 = .ok (.iload_n 2, 1) := by decide +kernel
theorem dX6_firstDearFoot_47 : decode cX6_firstDearFoot 47 = .ok (.ireturn, 1) := by decide +kernel
theorem dX6_firstDearFoot_48 : decode cX6_firstDearFoot 48 = .ok (.iinc 1 1, 3) := by decide +kernel
theorem dX6_firstDearFoot_51 : decode cX6_firstDearFoot 51 = .ok (.iinc 3 1, 3) := by decide +kernel
theorem dX6_firstDearFoot_54 : decode cX6_firstDearFoot 54 = .ok (.goto (-37), 3) := by decide +kernel
theorem dX6_firstDearFoot_57 : decode cX6_firstDearFoot 57 = .ok (.iinc 2 1, 3) := by decide +kernel
theorem dX6_firstDearFoot_60 : decode cX6_firstDearFoot 60 = .ok (.goto (-56), 3) := by decide +kernel
theorem dX6_firstDearFoot_63 : decode cX6_firstDearFoot 63 = .ok (.iconst (-1), 1) := by decide +kernel
theorem dX6_firstDearFoot_64 : decode cX6_firstDearFoot 64 = .ok (.ireturn, 1) := by decide +kernel
theorem dX6_dearSyllables_0 : decode cX6_dearSyllables 0 = .ok (.iconst 0, 1) := by decide +kernel
theorem dX6_dearSyllables_1 : decode cX6_dearSyllables 1 = .ok (.istore_n 1, 1) := by decide +kernel
theorem dX6_dearSyllables_2 : decode cX6_dearSyllables 2 = .ok (.iconst 0, 1) := by decide +kernel
theorem dX6_dearSyllables_3 : decode cX6_dearSyllables 3 = .ok (.istore_n 2, 1) := by decide +kernel
theorem dX6_dearSyllables_4 : decode cX6_dearSyllables 4 = .ok (.iload_n 2, 1) := by decide +kernel
theorem dX6_dearSyllables_5 : decode cX6_dearSyllables 5 = .ok (.aload_n 0, 1) := by decide +kernel
theorem dX6_dearSyllables_6 : decode cX6_dearSyllables 6 = .ok (.getfield 9, 3) := by decide +kernel
theorem dX6_dearSyllables_9 : decode cX6_dearSyllables 9 = .ok (.arraylength, 1) := by decide +kernel
theorem dX6_dearSyllables_10 : decode cX6_dearSyllables 10 = .ok (.if_icmp .ge 26, 3) := by decide +kernel
theorem dX6_dearSyllables_13 : decode cX6_dearSyllables 13 = .ok (.iload_n 1, 1) := by decide +kernel
theorem dX6_dearSyllables_14 : decode cX6_dearSyllables 14 = .ok (.aload_n 0, 1) := by decide +kernel
theorem dX6_dearSyllables_15 : decode cX6_dearSyllables 15 = .ok (.getfield 9, 3) := by decide +kernel
theorem dX6_dearSyllables_18 : decode cX6_dearSyllables 18 = .ok (.iload_n 2, 1) := by decide +kernel
theorem dX6_dearSyllables_19 : decode cX6_dearSyllables 19 = .ok (.iaload, 1) := by decide +kernel
theorem dX6_dearSyllables_20 : decode cX6_dearSyllables 20 = .ok (.ifCond .le 7, 3) := by decide +kernel
theorem dX6_dearSyllables_23 : decode cX6_dearSyllables 23 = .ok (.iconst 1, 1) := by decide +kernel
theorem dX6_dearSyllables_24 : decode cX6_dearSyllables 24 = .ok (.goto 4, 3) := by decide +kernel
theorem dX6_dearSyllables_27 : decode cX6_dearSyllables 27 = .ok (.iconst 0, 1) := by decide +kernel
theorem dX6_dearSyllables_28 : decode cX6_dearSyllables 28 = .ok (.iadd, 1) := by decide +kernel
theorem dX6_dearSyllables_29 : decode cX6_dearSyllables 29 = .ok (.istore_n 1, 1) := by decide +kernel
theorem dX6_dearSyllables_30 : decode cX6_dearSyllables 30 = .ok (.iinc 2 1, 3) := by decide +kernel
theorem dX6_dearSyllables_33 : decode cX6_dearSyllables 33 = .ok (.goto (-29), 3) := by decide +kernel
theorem dX6_dearSyllables_36 : decode cX6_dearSyllables 36 = .ok (.iload_n 1, 1) := by decide +kernel
theorem dX6_dearSyllables_37 : decode cX6_dearSyllables 37 = .ok (.ireturn, 1) := by decide +kernel
theorem dX7_init_0 : decode cX7_init 0 = .ok (.aload_n 0, 1) := by decide +kernel
theorem dX7_init_1 : decode cX7_init 1 = .ok (.invokespecial 3, 3) := by decide +kernel
theorem dX7_init_4 : decode cX7_init 4 = .ok (.aload_n 0, 1) := by decide +kernel
theorem dX7_init_5 : decode cX7_init 5 = .ok (.new 9, 3) := by decide +kernel
theorem dX7_init_8 : decode cX7_init 8 = .ok (.dup, 1) := by decide +kernel
theorem dX7_init_9 : decode cX7_init 9 = .ok (.iconst 0, 1) := by decide +kernel
theorem dX7_init_10 : decode cX7_init 10 = .ok (.iconst 5, 1) := by decide +kernel
theorem dX7_init_11 : decode cX7_init 11 = .ok (.iconst 0, 1) := by decide +kernel
theorem dX7_init_12 : decode cX7_init 12 = .ok (.invokespecial 11, 3) := by decide +kernel
theorem dX7_init_15 : decode cX7_init 15 = .ok (.putfield 14, 3) := by decide +kernel
theorem dX7_init_18 : decode cX7_init 18 = .ok (.aload_n 0, 1) := by decide +kernel
theorem dX7_init_19 : decode cX7_init 19 = .ok (.bipush 6, 2) := by decide +kernel
theorem dX7_init_21 : decode cX7_init 21 = .ok (.putfield 20, 3) := by decide +kernel
theorem dX7_init_24 : decode cX7_init 24 = .ok (.aload_n 0, 1) := by decide +kernel
theorem dX7_init_25 : decode cX7_init 25 = .ok (.iconst 4, 1) := by decide +kernel
theorem dX7_init_26 : decode cX7_init 26 = .ok (.anewarray 24, 3) := by decide +kernel
theorem dX7_init_29 : decode cX7_init 29 = .ok (.putfield 26, 3) := by decide +kernel
theorem dX7_init_32 : decode cX7_init 32 = .ok (.aload_n 0, 1) := by decide +kernel
theorem dX7_init_33 : decode cX7_init 33 = .ok (.iconst 0, 1) := by decide +kernel
theorem dX7_init_34 : decode cX7_init 34 = .ok (.putfield 30, 3) := by decide +kernel
theorem dX7_init_37 : decode cX7_init 37 = .ok (.aload_n 0, 1) := by decide +kernel
theorem dX7_init_38 : decode cX7_init 38 = .ok (.bipush 8, 2) := by decide +kernel
theorem dX7_init_40 : decode cX7_init 40 = .ok (.anewarray 33, 3) := by decide +kernel
theorem dX7_init_43 : decode cX7_init 43 = .ok (.putfield 35, 3) := by decide +kernel
theorem dX7_init_46 : decode cX7_init 46 = .ok (.iconst 0, 1) := by decide +kernel
theorem dX7_init_47 : decode cX7_init 47 = .ok (.istore_n 1, 1) := by decide +kernel
theorem dX7_init_48 : decode cX7_init 48 = .ok (.iload_n 1, 1) := by decide +kernel
theorem dX7_init_49 : decode cX7_init 49 = .ok (.iconst 4, 1) := by decide +kernel
theorem dX7_init_50 : decode cX7_init 50 = .ok (.if_icmp .ge 22, 3) := by decide +kernel
theorem dX7_init_53 : decode cX7_init 53 = .ok (.aload_n 0, 1) := by decide +kernel
theorem dX7_init_54 : decode cX7_init 54 = .ok (.getfield 26, 3) := by decide +kernel
theorem dX7_init_57 : decode cX7_init 57 = .ok (.iload_n 1, 1) := by decide +kernel
theorem dX7_init_58 : decode cX7_init 58 = .ok (.new 24, 3) := by decide +kernel
theorem dX7_init_61 : decode cX7_init 61 = .ok (.dup, 1) := by decide +kernel
theorem dX7_init_62 : decode cX7_init 62 = .ok (.invokespecial 39, 3) := by decide +kernel
theorem dX7_init_65 : decode cX7_init 65 = .ok (.aastore, 1) := by decide +kernel
theorem dX7_init_66 : decode cX7_init 66 = .ok (.iinc 1 1, 3) := by decide +kernel
theorem dX7_init_69 : decode cX7_init 69 = .ok (.goto (-21), 3) := by decide +kernel
theorem dX7_init_72 : decode cX7_init 72 = .ok (.return_, 1) := by decide +kernel
theorem dX7_become_0 : decode cX7_become 0 = .ok (.aload_n 0, 1) := by decide +kernel
theorem dX7_become_1 : decode cX7_become 1 = .ok (.aload_n 1, 1) := by decide +kernel
theorem dX7_become_2 : decode cX7_become 2 = .ok (.getfield 14, 3) := by decide +kernel
theorem dX7_become_5 : decode cX7_become 5 = .ok (.putfield 14, 3) := by decide +kernel
theorem dX7_become_8 : decode cX7_become 8 = .ok (.aload_n 0, 1) := by decide +kernel
theorem dX7_become_9 : decode cX7_become 9 = .ok (.aload_n 1, 1) := by decide +kernel
theorem dX7_become_10 : decode cX7_become 10 = .ok (.getfield 20, 3) := by decide +kernel
theorem dX7_become_13 : decode cX7_become 13 = .ok (.putfield 20, 3) := by decide +kernel
theorem dX7_become_16 : decode cX7_become 16 = .ok (.iconst 0, 1) := by decide +kernel
theorem dX7_become_17 : decode cX7_become 17 = .ok (.istore_n 2, 1) := by decide +kernel
theorem dX7_become_18 : decode cX7_become 18 = .ok (.iload_n 2, 1) := by decide +kernel
theorem dX7_become_19 : decode cX7_become 19 = .ok (.iconst 4, 1) := by decide +kernel
theorem dX7_become_20 : decode cX7_become 20 = .ok (.if_icmp .ge 24, 3) := by decide +kernel
theorem dX7_become_23 : decode cX7_become 23 = .ok (.aload_n 0, 1) := by decide +kernel
theorem dX7_become_24 : decode cX7_become 24 = .ok (.getfield 26, 3) := by decide +kernel
theorem dX7_become_27 : decode cX7_become 27 = .ok (.iload_n 2, 1) := by decide +kernel
theorem dX7_become_28 : decode cX7_become 28 = .ok (.aaload, 1) := by decide +kernel
theorem dX7_become_29 : decode cX7_become 29 = .ok (.aload_n 1, 1) := by decide +kernel
theorem dX7_become_30 : decode cX7_become 30 = .ok (.getfield 26, 3) := by decide +kernel
theorem dX7_become_33 : decode cX7_become 33 = .ok (.iload_n 2, 1) := by decide +kernel
theorem dX7_become_34 : decode cX7_become 34 = .ok (.aaload, 1) := by decide +kernel
theorem dX7_become_35 : decode cX7_become 35 = .ok (.invokevirtual 40, 3) := by decide +kernel
theorem dX7_become_38 : decode cX7_become 38 = .ok (.iinc 2 1, 3) := by decide +kernel
theorem dX7_become_41 : decode cX7_become 41 = .ok (.goto (-23), 3) := by decide +kernel
theorem dX7_become_44 : decode cX7_become 44 = .ok (.iconst 0, 1) := by decide +kernel
theorem dX7_become_45 : decode cX7_become 45 = .ok (.istore_n 2, 1) := by decide +kernel
theorem dX7_become_46 : decode cX7_become 46 = .ok (.iload_n 2, 1) := by decide +kernel
theorem dX7_become_47 : decode cX7_become 47 = .ok (.bipush 8, 2) := by decide +kernel
theorem dX7_become_49 : decode cX7_become 49 = .ok (.if_icmp .ge 21, 3) := by decide +kernel
theorem dX7_become_52 : decode cX7_become 52 = .ok (.aload_n 0, 1) := by decide +kernel
theorem dX7_become_53 : decode cX7_become 53 = .ok (.getfield 35, 3) := by decide +kernel
theorem dX7_become_56 : decode cX7_become 56 = .ok (.iload_n 2, 1) := by decide +kernel
theorem dX7_become_57 : decode cX7_become 57 = .ok (.aload_n 1, 1) := by decide +kernel
theorem dX7_become_58 : decode cX7_become 58 = .ok (.getfield 35, 3) := by decide +kernel
theorem dX7_become_61 : decode cX7_become 61 = .ok (.iload_n 2, 1) := by decide +kernel
theorem dX7_become_62 : decode cX7_become 62 = .ok (.aaload, 1) := by decide +kernel
theorem dX7_become_63 : decode cX7_become 63 = .ok (.aastore, 1) := by decide +kernel
theorem dX7_become_64 : decode cX7_become 64 = .ok (.iinc 2 1, 3) := by decide +kernel
theorem dX7_become_67 : decode cX7_become 67 = .ok (.goto (-21), 3) := by decide +kernel
theorem dX7_become_70 : decode cX7_become 70 = .ok (.aload_n 0, 1) := by decide +kernel
theorem dX7_become_71 : decode cX7_become 71 = .ok (.aload_n 1, 1) := by decide +kernel
theorem dX7_become_72 : decode cX7_become 72 = .ok (.getfield 30, 3) := by decide +kernel
theorem dX7_become_75 : decode cX7_become 75 = .ok (.putfield 30, 3) := by decide +kernel
theorem dX7_become_78 : decode cX7_become 78 = .ok (.return_, 1) := by decide +kernel
theorem dX7_lineCount_0 : decode cX7_lineCount 0 = .ok (.iconst 0, 1) := by decide +kernel
theorem dX7_lineCount_1 : decode cX7_lineCount 1 = .ok (.istore_n 1, 1) := by decide +kernel
theorem dX7_lineCount_2 : decode cX7_lineCount 2 = .ok (.iconst 0, 1) := by decide +kernel
theorem dX7_lineCount_3 : decode cX7_lineCount 3 = .ok (.istore_n 2, 1) := by decide +kernel
theorem dX7_lineCount_4 : decode cX7_lineCount 4 = .ok (.iload_n 2, 1) := by decide +kernel
theorem dX7_lineCount_5 : decode cX7_lineCount 5 = .ok (.iconst 4, 1) := by decide +kernel
theorem dX7_lineCount_6 : decode cX7_lineCount 6 = .ok (.if_icmp .ge 21, 3) := by decide +kernel
theorem dX7_lineCount_9 : decode cX7_lineCount 9 = .ok (.iload_n 1, 1) := by decide +kernel
theorem dX7_lineCount_10 : decode cX7_lineCount 10 = .ok (.aload_n 0, 1) := by decide +kernel
theorem dX7_lineCount_11 : decode cX7_lineCount 11 = .ok (.getfield 26, 3) := by decide +kernel
theorem dX7_lineCount_14 : decode cX7_lineCount 14 = .ok (.iload_n 2, 1) := by decide +kernel
theorem dX7_lineCount_15 : decode cX7_lineCount 15 = .ok (.aaload, 1) := by decide +kernel
theorem dX7_lineCount_16 : decode cX7_lineCount 16 = .ok (.getfield 44, 3) := by decide +kernel
theorem dX7_lineCount_19 : decode cX7_lineCount 19 = .ok (.iadd, 1) := by decide +kernel
theorem dX7_lineCount_20 : decode cX7_lineCount 20 = .ok (.istore_n 1, 1) := by decide +kernel
theorem dX7_lineCount_21 : decode cX7_lineCount 21 = .ok (.iinc 2 1, 3) := by decide +kernel
theorem dX7_lineCount_24 : decode cX7_lineCount 24 = .ok (.goto (-20), 3) := by decide +kernel
theorem dX7_lineCount_27 : decode cX7_lineCount 27 = .ok (.iload_n 1, 1) := by decide +kernel
theorem dX7_lineCount_28 : decode cX7_lineCount 28 = .ok (.ireturn, 1) := by decide +kernel
theorem dX7_markingAt_0 : decode cX7_markingAt 0 = .ok (.iload_n 1, 1) := by decide +kernel
theorem dX7_markingAt_1 : decode cX7_markingAt 1 = .ok (.ifCond .lt 26, 3) := by decide +kernel
theorem dX7_markingAt_4 : decode cX7_markingAt 4 = .ok (.iload_n 1, 1) := by decide +kernel
theorem dX7_markingAt_5 : decode cX7_markingAt 5 = .ok (.aload_n 0, 1) := by decide +kernel
theorem dX7_markingAt_6 : decode cX7_markingAt 6 = .ok (.getfield 30, 3) := by decide +kernel
theorem dX7_markingAt_9 : decode cX7_markingAt 9 = .ok (.if_icmp .ge 18, 3) := by decide +kernel
theorem dX7_markingAt_12 : decode cX7_markingAt 12 = .ok (.iload_n 1, 1) := by decide +kernel
theorem dX7_markingAt_13 : decode cX7_markingAt 13 = .ok (.bipush 8, 2) := by decide +kernel
theorem dX7_markingAt_15 : decode cX7_markingAt 15 = .ok (.if_icmp .ge 12, 3) := by decide +kernel
theorem dX7_markingAt_18 : decode cX7_markingAt 18 = .ok (.aload_n 0, 1) := by decide +kernel
theorem dX7_markingAt_19 : decode cX7_markingAt 19 = .ok (.getfield 35, 3) := by decide +kernel
theorem dX7_markingAt_22 : decode cX7_markingAt 22 = .ok (.iload_n 1, 1) := by decide +kernel
theorem dX7_markingAt_23 : decode cX7_markingAt 23 = .ok (.aaload, 1) := by decide +kernel
theorem dX7_markingAt_24 : decode cX7_markingAt 24 = .ok (.goto 4, 3) := by decide +kernel
theorem dX7_markingAt_27 : decode cX7_markingAt 27 = .ok (.aconst_null, 1) := by decide +kernel
theorem dX7_markingAt_28 : decode cX7_markingAt 28 = .ok (.areturn, 1) := by decide +kernel
theorem dX7_markingNumber_0 : decode cX7_markingNumber 0 = .ok (.iconst 0, 1) := by decide +kernel
theorem dX7_markingNumber_1 : decode cX7_markingNumber 1 = .ok (.istore_n 2, 1) := by decide +kernel
theorem dX7_markingNumber_2 : decode cX7_markingNumber 2 = .ok (.iload_n 2, 1) := by decide +kernel
theorem dX7_markingNumber_3 : decode cX7_markingNumber 3 = .ok (.aload_n 0, 1) := by decide +kernel
theorem dX7_markingNumber_4 : decode cX7_markingNumber 4 = .ok (.getfield 30, 3) := by decide +kernel
theorem dX7_markingNumber_7 : decode cX7_markingNumber 7 = .ok (.if_icmp .ge 32, 3) := by decide +kernel
theorem dX7_markingNumber_10 : decode cX7_markingNumber 10 = .ok (.aload_n 0, 1) := by decide +kernel
theorem dX7_markingNumber_11 : decode cX7_markingNumber 11 = .ok (.iload_n 2, 1) := by decide +kernel
theorem dX7_markingNumber_12 : decode cX7_markingNumber 12 = .ok (.invokevirtual 47, 3) := by decide +kernel
theorem dX7_markingNumber_15 : decode cX7_markingNumber 15 = .ok (.astore_n 3, 1) := by decide +kernel
theorem dX7_markingNumber_16 : decode cX7_markingNumber 16 = .ok (.aload_n 3, 1) := by decide +kernel
theorem dX7_markingNumber_17 : decode cX7_markingNumber 17 = .ok (.ifnull 16, 3) := by decide +kernel
theorem dX7_markingNumber_20 : decode cX7_markingNumber 20 = .ok (.aload_n 3, 1) := by decide +kernel
theorem dX7_markingNumber_21 : decode cX7_markingNumber 21 = .ok (.getfield 51, 3) := by decide +kernel
theorem dX7_markingNumber_24 : decode cX7_markingNumber 24 = .ok (.aload_n 1, 1) := by decide +kernel
theorem dX7_markingNumber_25 : decode cX7_markingNumber 25 = .ok (.invokevirtual 55, 3) := by decide +kernel
theorem dX7_markingNumber_28 : decode cX7_markingNumber 28 = .ok (.ifCond .eq 5, 3) := by decide +kernel
theorem dX7_markingNumber_31 : decode cX7_markingNumber 31 = .ok (.iload_n 2, 1) := by decide +kernel
theorem dX7_markingNumber_32 : decode cX7_markingNumber 32 = .ok (.ireturn, 1) := by decide +kernel
theorem dX7_markingNumber_33 : decode cX7_markingNumber 33 = .ok (.iinc 2 1, 3) := by decide +kernel
theorem dX7_markingNumber_36 : decode cX7_markingNumber 36 = .ok (.goto (-34), 3) := by decide +kernel
theorem dX7_markingNumber_39 : decode cX7_markingNumber 39 = .ok (.iconst (-1), 1) := by decide +kernel
theorem dX7_markingNumber_40 : decode cX7_markingNumber 40 = .ok (.ireturn, 1) := by decide +kernel
theorem dX7_markingFor_0 : decode cX7_markingFor 0 = .ok (.aload_n 0, 1) := by decide +kernel
theorem dX7_markingFor_1 : decode cX7_markingFor 1 = .ok (.aload_n 0, 1) := by decide +kernel
theorem dX7_markingFor_2 : decode cX7_markingFor 2 = .ok (.aload_n 1, 1) := by decide +kernel
theorem dX7_markingFor_3 : decode cX7_markingFor 3 = .ok (.invokevirtual 61, 3) := by decide +kernel
theorem dX7_markingFor_6 : decode cX7_markingFor 6 = .ok (.invokevirtual 47, 3) := by decide +kernel
theorem dX7_markingFor_9 : decode cX7_markingFor 9 = .ok (.areturn, 1) := by decide +kernel
theorem dX7_putMarking_0 : decode cX7_putMarking 0 = .ok (.iload_n 1, 1) := by decide +kernel
theorem dX7_putMarking_1 : decode cX7_putMarking 1 = .ok (.ifCond .lt 17, 3) := by decide +kernel
theorem dX7_putMarking_4 : decode cX7_putMarking 4 = .ok (.iload_n 1, 1) := by decide +kernel
theorem dX7_putMarking_5 : decode cX7_putMarking 5 = .ok (.aload_n 0, 1) := by decide +kernel
theorem dX7_putMarking_6 : decode cX7_putMarking 6 = .ok (.getfield 30, 3) := by decide +kernel
theorem dX7_putMarking_9 : decode cX7_putMarking 9 = .ok (.if_icmp .gt 9, 3) := by decide +kernel
theorem dX7_putMarking_12 : decode cX7_putMarking 12 = .ok (.iload_n 1, 1) := by decide +kernel
theorem dX7_putMarking_13 : decode cX7_putMarking 13 = .ok (.bipush 8, 2) := by decide +kernel
theorem dX7_putMarking_15 : decode cX7_putMarking 15 = .ok (.if_icmp .lt 4, 3) := by decide +kernel
theorem dX7_putMarking_18 : decode cX7_putMarking 18 = .ok (.return_, 1) := by decide +kernel
theorem dX7_putMarking_19 : decode cX7_putMarking 19 = .ok (.aload_n 0, 1) := by decide +kernel
theorem dX7_putMarking_20 : decode cX7_putMarking 20 = .ok (.getfield 35, 3) := by decide +kernel
theorem dX7_putMarking_23 : decode cX7_putMarking 23 = .ok (.iload_n 1, 1) := by decide +kernel
theorem dX7_putMarking_24 : decode cX7_putMarking 24 = .ok (.aload_n 2, 1) := by decide +kernel
theorem dX7_putMarking_25 : decode cX7_putMarking 25 = .ok (.aastore, 1) := by decide +kernel
theorem dX7_putMarking_26 : decode cX7_putMarking 26 = .ok (.aload_n 0, 1) := by decide +kernel
theorem dX7_putMarking_27 : decode cX7_putMarking 27 = .ok (.aload_n 0, 1) := by decide +kernel
theorem dX7_putMarking_28 : decode cX7_putMarking 28 = .ok (.getfield 30, 3) := by decide +kernel
theorem dX7_putMarking_31 : decode cX7_putMarking 31 = .ok (.iload_n 1, 1) := by decide +kernel
theorem dX7_putMarking_32 : decode cX7_putMarking 32 = .ok (.iconst 1, 1) := by decide +kernel
theorem dX7_putMarking_33 : decode cX7_putMarking 33 = .ok (.iadd, 1) := by decide +kernel
theorem dX7_putMarking_34 : decode cX7_putMarking 34 = .ok (.invokestatic 65, 3) := by decide +kernel
theorem dX7_putMarking_37 : decode cX7_putMarking 37 = .ok (.putfield 30, 3) := by decide +kernel
theorem dX7_putMarking_40 : decode cX7_putMarking 40 = .ok (.return_, 1) := by decide +kernel
theorem dX7_removeMarking_0 : decode cX7_removeMarking 0 = .ok (.iload_n 1, 1) := by decide +kernel
theorem dX7_removeMarking_1 : decode cX7_removeMarking 1 = .ok (.ifCond .lt 11, 3) := by decide +kernel
theorem dX7_removeMarking_4 : decode cX7_removeMarking 4 = .ok (.iload_n 1, 1) := by decide +kernel
theorem dX7_removeMarking_5 : decode cX7_removeMarking 5 = .ok (.aload_n 0, 1) := by decide +kernel
theorem dX7_removeMarking_6 : decode cX7_removeMarking 6 = .ok (.getfield 30, 3) := by decide +kernel
theorem dX7_removeMarking_9 : decode cX7_removeMarking 9 = .ok (.if_icmp .lt 4, 3) := by decide +kernel
theorem dX7_removeMarking_12 : decode cX7_removeMarking 12 = .ok (.return_, 1) := by decide +kernel
theorem dX7_removeMarking_13 : decode cX7_removeMarking 13 = .ok (.iload_n 1, 1) := by decide +kernel
theorem dX7_removeMarking_14 : decode cX7_removeMarking 14 = .ok (.iconst 1, 1) := by decide +kernel
theorem dX7_removeMarking_15 : decode cX7_removeMarking 15 = .ok (.iadd, 1) := by decide +kernel
theorem dX7_removeMarking_16 : decode cX7_removeMarking 16 = .ok (.istore_n 2, 1) := by decide +kernel
theorem dX7_removeMarking_17 : decode cX7_removeMarking 17 = .ok (.iload_n 2, 1) := by decide +kernel
theorem dX7_removeMarking_18 : decode cX7_removeMarking 18 = .ok (.aload_n 0, 1) := by decide +kernel
theorem dX7_removeMarking_19 : decode cX7_removeMarking 19 = .ok (.getfield 30, 3) := by decide +kernel
theorem dX7_removeMarking_22 : decode cX7_removeMarking 22 = .ok (.if_icmp .ge 23, 3) := by decide +kernel
theorem dX7_removeMarking_25 : decode cX7_removeMarking 25 = .ok (.aload_n 0, 1) := by decide +kernel
theorem dX7_removeMarking_26 : decode cX7_removeMarking 26 = .ok (.getfield 35, 3) := by decide +kernel
theorem dX7_removeMarking_29 : decode cX7_removeMarking 29 = .ok (.iload_n 2, 1) := by decide +kernel
theorem dX7_removeMarking_30 : decode cX7_removeMarking 30 = .ok (.iconst 1, 1) := by decide +kernel
theorem dX7_removeMarking_31 : decode cX7_removeMarking 31 = .ok (.isub, 1) := by decide +kernel
theorem dX7_removeMarking_32 : decode cX7_removeMarking 32 = .ok (.aload_n 0, 1) := by decide +kernel
theorem dX7_removeMarking_33 : decode cX7_removeMarking 33 = .ok (.getfield 35, 3) := by decide +kernel
theorem dX7_removeMarking_36 : decode cX7_removeMarking 36 = .ok (.iload_n 2, 1) := by decide +kernel
theorem dX7_removeMarking_37 : decode cX7_removeMarking 37 = .ok (.aaload, 1) := by decide +kernel
theorem dX7_removeMarking_38 : decode cX7_removeMarking 38 = .ok (.aastore, 1) := by decide +kernel
theorem dX7_removeMarking_39 : decode cX7_removeMarking 39 = .ok (.iinc 2 1, 3) := by decide +kernel
theorem dX7_removeMarking_42 : decode cX7_removeMarking 42 = .ok (.goto (-25), 3) := by decide +kernel
theorem dX7_removeMarking_45 : decode cX7_removeMarking 45 = .ok (.aload_n 0, 1) := by decide +kernel
theorem dX7_removeMarking_46 : decode cX7_removeMarking 46 = .ok (.dup, 1) := by decide +kernel
theorem dX7_removeMarking_47 : decode cX7_removeMarking 47 = .ok (.getfield 30, 3) := by decide +kernel
theorem dX7_removeMarking_50 : decode cX7_removeMarking 50 = .ok (.iconst 1, 1) := by decide +kernel
theorem dX7_removeMarking_51 : decode cX7_removeMarking 51 = .ok (.isub, 1) := by decide +kernel
theorem dX7_removeMarking_52 : decode cX7_removeMarking 52 = .ok (.putfield 30, 3) := by decide +kernel
theorem dX7_removeMarking_55 : decode cX7_removeMarking 55 = .ok (.aload_n 0, 1) := by decide +kernel
theorem dX7_removeMarking_56 : decode cX7_removeMarking 56 = .ok (.getfield 35, 3) := by decide +kernel
theorem dX7_removeMarking_59 : decode cX7_removeMarking 59 = .ok (.aload_n 0, 1) := by decide +kernel
theorem dX7_removeMarking_60 : decode cX7_removeMarking 60 = .ok (.getfield 30, 3) := by decide +kernel
theorem dX7_removeMarking_63 : decode cX7_removeMarking 63 = .ok (.aconst_null, 1) := by decide +kernel
theorem dX7_removeMarking_64 : decode cX7_removeMarking 64 = .ok (.aastore, 1) := by decide +kernel
theorem dX7_removeMarking_65 : decode cX7_removeMarking 65 = .ok (.return_, 1) := by decide +kernel
theorem dX7_rhymeStart_0 : decode cX7_rhymeStart 0 = .ok (.aload_n 0, 1) := by decide +kernel
theorem dX7_rhymeStart_1 : decode cX7_rhymeStart 1 = .ok (.aload_n 1, 1) := by decide +kernel
theorem dX7_rhymeStart_2 : decode cX7_rhymeStart 2 = .ok (.invokevirtual 71, 3) := by decide +kernel
theorem dX7_rhymeStart_5 : decode cX7_rhymeStart 5 = .ok (.astore_n 2, 1) := by decide +kernel
theorem dX7_rhymeStart_6 : decode cX7_rhymeStart 6 = .ok (.aload_n 1, 1) := by decide +kernel
theorem dX7_rhymeStart_7 : decode cX7_rhymeStart 7 = .ok (.aload_n 2, 1) := by decide +kernel
theorem dX7_rhymeStart_8 : decode cX7_rhymeStart 8 = .ok (.invokestatic 75, 3) := by decide +kernel
theorem dX7_rhymeStart_11 : decode cX7_rhymeStart 11 = .ok (.iconst 1, 1) := by decide +kernel
theorem dX7_rhymeStart_12 : decode cX7_rhymeStart 12 = .ok (.isub, 1) := by decide +kernel
theorem dX7_rhymeStart_13 : decode cX7_rhymeStart 13 = .ok (.istore_n 3, 1) := by decide +kernel
theorem dX7_rhymeStart_14 : decode cX7_rhymeStart 14 = .ok (.iload_n 3, 1) := by decide +kernel
theorem dX7_rhymeStart_15 : decode cX7_rhymeStart 15 = .ok (.istore 4, 2) := by decide +kernel
theorem dX7_rhymeStart_17 : decode cX7_rhymeStart 17 = .ok (.iload 4, 2) := by decide +kernel
theorem dX7_rhymeStart_19 : decode cX7_rhymeStart 19 = .ok (.ifCond .le 20, 3) := by decide +kernel
theorem dX7_rhymeStart_22 : decode cX7_rhymeStart 22 = .ok (.aload_n 1, 1) := by decide +kernel
theorem dX7_rhymeStart_23 : decode cX7_rhymeStart 23 = .ok (.aload_n 2, 1) := by decide +kernel
theorem dX7_rhymeStart_24 : decode cX7_rhymeStart 24 = .ok (.iload 4, 2) := by decide +kernel
theorem dX7_rhymeStart_26 : decode cX7_rhymeStart 26 = .ok (.invokestatic 79, 3) := by decide +kernel
theorem dX7_rhymeStart_29 : decode cX7_rhymeStart 29 = .ok (.iconst 2, 1) := by decide +kernel
theorem dX7_rhymeStart_30 : decode cX7_rhymeStart 30 = .ok (.if_icmp .eq 9, 3) := by decide +kernel
theorem dX7_rhymeStart_33 : decode cX7_rhymeStart 33 = .ok (.iinc 4 (-1), 3) := by decide +kernel
theorem dX7_rhymeStart_36 : decode cX7_rhymeStart 36 = .ok (.goto (-19), 3) := by decide +kernel
theorem dX7_rhymeStart_39 : decode cX7_rhymeStart 39 = .ok (.aload_n 1, 1) := by decide +kernel
theorem dX7_rhymeStart_40 : decode cX7_rhymeStart 40 = .ok (.aload_n 2, 1) := by decide +kernel
theorem dX7_rhymeStart_41 : decode cX7_rhymeStart 41 = .ok (.iload 4, 2) := by decide +kernel
theorem dX7_rhymeStart_43 : decode cX7_rhymeStart 43 = .ok (.invokestatic 79, 3) := by decide +kernel
theorem dX7_rhymeStart_46 : decode cX7_rhymeStart 46 = .ok (.iconst 2, 1) := by decide +kernel
theorem dX7_rhymeStart_47 : decode cX7_rhymeStart 47 = .ok (.if_icmp .ne 7, 3) := by decide +kernel
theorem dX7_rhymeStart_50 : decode cX7_rhymeStart 50 = .ok (.iconst 1, 1) := by decide +kernel
theorem dX7_rhymeStart_51 : decode cX7_rhymeStart 51 = .ok (.goto 4, 3) := by decide +kernel
theorem dX7_rhymeStart_54 : decode cX7_rhymeStart 54 = .ok (.iconst 0, 1) := by decide +kernel
theorem dX7_rhymeStart_55 : decode cX7_rhymeStart 55 = .ok (.istore 5, 2) := by decide +kernel
theorem dX7_rhymeStart_57 : decode cX7_rhymeStart 57 = .ok (.iload 5, 2) := by decide +kernel
theorem dX7_rhymeStart_59 : decode cX7_rhymeStart 59 = .ok (.ifCond .eq 10, 3) := by decide +kernel
theorem dX7_rhymeStart_62 : decode cX7_rhymeStart 62 = .ok (.iload_n 3, 1) := by decide +kernel
theorem dX7_rhymeStart_63 : decode cX7_rhymeStart 63 = .ok (.iload 4, 2) := by decide +kernel
theorem dX7_rhymeStart_65 : decode cX7_rhymeStart 65 = .ok (.isub, 1) := by decide +kernel
theorem dX7_rhymeStart_66 : decode cX7_rhymeStart 66 = .ok (.goto 4, 3) := by decide +kernel
theorem dX7_rhymeStart_69 : decode cX7_rhymeStart 69 = .ok (.iconst 0, 1) := by decide +kernel
theorem dX7_rhymeStart_70 : decode cX7_rhymeStart 70 = .ok (.istore 6, 2) := by decide +kernel
theorem dX7_rhymeStart_72 : decode cX7_rhymeStart 72 = .ok (.aload_n 1, 1) := by decide +kernel
theorem dX7_rhymeStart_73 : decode cX7_rhymeStart 73 = .ok (.iconst 0, 1) := by decide +kernel
theorem dX7_rhymeStart_74 : decode cX7_rhymeStart 74 = .ok (.aload_n 1, 1) := by decide +kernel
theorem dX7_rhymeStart_75 : decode cX7_rhymeStart 75 = .ok (.getfield 83, 3) := by decide +kernel
theorem dX7_rhymeStart_78 : decode cX7_rhymeStart 78 = .ok (.iconst 1, 1) := by decide +kernel
theorem dX7_rhymeStart_79 : decode cX7_rhymeStart 79 = .ok (.isub, 1) := by decide +kernel
theorem dX7_rhymeStart_80 : decode cX7_rhymeStart 80 = .ok (.iload 6, 2) := by decide +kernel
theorem dX7_rhymeStart_82 : decode cX7_rhymeStart 82 = .ok (.isub, 1) := by decide +kernel
theorem dX7_rhymeStart_83 : decode cX7_rhymeStart 83 = .ok (.invokestatic 65, 3) := by decide +kernel
theorem dX7_rhymeStart_86 : decode cX7_rhymeStart 86 = .ok (.invokevirtual 86, 3) := by decide +kernel
theorem dX7_rhymeStart_89 : decode cX7_rhymeStart 89 = .ok (.ireturn, 1) := by decide +kernel
theorem dX8_init_0 : decode cX8_init 0 = .ok (.aload_n 0, 1) := by decide +kernel
theorem dX8_init_1 : decode cX8_init 1 = .ok (.invokespecial 3, 3) := by decide +kernel
theorem dX8_init_4 : decode cX8_init 4 = .ok (.aload_n 0, 1) := by decide +kernel
theorem dX8_init_5 : decode cX8_init 5 = .ok (.bipush 12, 2) := by decide +kernel
theorem dX8_init_7 : decode cX8_init 7 = .ok (.newarray .int, 2) := by decide +kernel
theorem dX8_init_9 : decode cX8_init 9 = .ok (.putfield 9, 3) := by decide +kernel
theorem dX8_init_12 : decode cX8_init 12 = .ok (.aload_n 0, 1) := by decide +kernel
theorem dX8_init_13 : decode cX8_init 13 = .ok (.aload_n 1, 1) := by decide +kernel
theorem dX8_init_14 : decode cX8_init 14 = .ok (.putfield 15, 3) := by decide +kernel
theorem dX8_init_17 : decode cX8_init 17 = .ok (.iconst 0, 1) := by decide +kernel
theorem dX8_init_18 : decode cX8_init 18 = .ok (.istore_n 2, 1) := by decide +kernel
theorem dX8_init_19 : decode cX8_init 19 = .ok (.iconst 0, 1) := by decide +kernel
theorem dX8_init_20 : decode cX8_init 20 = .ok (.istore_n 3, 1) := by decide +kernel
theorem dX8_init_21 : decode cX8_init 21 = .ok (.iload_n 3, 1) := by decide +kernel
theorem dX8_init_22 : decode cX8_init 22 = .ok (.aload_n 1, 1) := by decide +kernel
theorem dX8_init_23 : decode cX8_init 23 = .ok (.arraylength, 1) := by decide +kernel
theorem dX8_init_24 : decode cX8_init 24 = .ok (.if_icmp .ge 52, 3) := by decide +kernel
theorem dX8_init_27 : decode cX8_init 27 = .ok (.iload_n 2, 1) := by decide +kernel
theorem dX8_init_28 : decode cX8_init 28 = .ok (.aload_n 0, 1) := by decide +kernel
theorem dX8_init_29 : decode cX8_init 29 = .ok (.getfield 9, 3) := by decide +kernel
theorem dX8_init_32 : decode cX8_init 32 = .ok (.arraylength, 1) := by decide +kernel
theorem dX8_init_33 : decode cX8_init 33 = .ok (.if_icmp .ge 43, 3) := by decide +kernel
theorem dX8_init_36 : decode cX8_init 36 = .ok (.aload_n 1, 1) := by decide +kernel
theorem dX8_init_37 : decode cX8_init 37 = .ok (.iload_n 3, 1) := by decide +kernel
theorem dX8_init_38 : decode cX8_init 38 = .ok (.caload, 1) := by decide +kernel
theorem dX8_init_39 : decode cX8_init 39 = .ok (.invokestatic 19, 3) := by decide +kernel
theorem dX8_init_42 : decode cX8_init 42 = .ok (.ifCond .eq 28, 3) := by decide +kernel
theorem dX8_init_45 : decode cX8_init 45 = .ok (.iload_n 3, 1) := by decide +kernel
theorem dX8_init_46 : decode cX8_init 46 = .ok (.ifCond .eq 14, 3) := by decide +kernel
theorem dX8_init_49 : decode cX8_init 49 = .ok (.aload_n 1, 1) := by decide +kernel
theorem dX8_init_50 : decode cX8_init 50 = .ok (.iload_n 3, 1) := by decide +kernel
theorem dX8_init_51 : decode cX8_init 51 = .ok (.iconst 1, 1) := by decide +kernel
theorem dX8_init_52 : decode cX8_init 52 = .ok (.isub, 1) := by decide +kernel
theorem dX8_init_53 : decode cX8_init 53 = .ok (.caload, 1) := by decide +kernel
theorem dX8_init_54 : decode cX8_init 54 = .ok (.invokestatic 19, 3) := by decide +kernel
theorem dX8_init_57 : decode cX8_init 57 = .ok (.ifCond .ne 13, 3) := by decide +kernel
theorem dX8_init_60 : decode cX8_init 60 = .ok (.aload_n 0, 1) := by decide +kernel
theorem dX8_init_61 : decode cX8_init 61 = .ok (.getfield 9, 3) := by decide +kernel
theorem dX8_init_64 : decode cX8_init 64 = .ok (.iload_n 2, 1) := by decide +kernel
theorem dX8_init_65 : decode cX8_init 65 = .ok (.iload_n 3, 1) := by decide +kernel
theorem dX8_init_66 : decode cX8_init 66 = .ok (.iastore, 1) := by decide +kernel
theorem dX8_init_67 : decode cX8_init 67 = .ok (.iinc 2 1, 3) := by decide +kernel
theorem dX8_init_70 : decode cX8_init 70 = .ok (.iinc 3 1, 3) := by decide +kernel
theorem dX8_init_73 : decode cX8_init 73 = .ok (.goto (-52), 3) := by decide +kernel
theorem dX8_init_76 : decode cX8_init 76 = .ok (.aload_n 1, 1) := by decide +kernel
theorem dX8_init_77 : decode cX8_init 77 = .ok (.arraylength, 1) := by decide +kernel
theorem dX8_init_78 : decode cX8_init 78 = .ok (.iconst 1, 1) := by decide +kernel
theorem dX8_init_79 : decode cX8_init 79 = .ok (.isub, 1) := by decide +kernel
theorem dX8_init_80 : decode cX8_init 80 = .ok (.istore_n 3, 1) := by decide +kernel
theorem dX8_init_81 : decode cX8_init 81 = .ok (.iload_n 2, 1) := by decide +kernel
theorem dX8_init_82 : decode cX8_init 82 = .ok (.iconst 1, 1) := by decide +kernel
theorem dX8_init_83 : decode cX8_init 83 = .ok (.if_icmp .le 30, 3) := by decide +kernel
theorem dX8_init_86 : decode cX8_init 86 = .ok (.iload_n 3, 1) := by decide +kernel
theorem dX8_init_87 : decode cX8_init 87 = .ok (.ifCond .le 26, 3) := by decide +kernel
theorem dX8_init_90 : decode cX8_init 90 = .ok (.aload_n 1, 1) := by decide +kernel
theorem dX8_init_91 : decode cX8_init 91 = .ok (.iload_n 3, 1) := by decide +kernel
theorem dX8_init_92 : decode cX8_init 92 = .ok (.caload, 1) := by decide +kernel
theorem dX8_init_93 : decode cX8_init 93 = .ok (.bipush 101, 2) := by decide +kernel
theorem dX8_init_95 : decode cX8_init 95 = .ok (.if_icmp .ne 18, 3) := by decide +kernel
theorem dX8_init_98 : decode cX8_init 98 = .ok (.aload_n 1, 1) := by decide +kernel
theorem dX8_init_99 : decode cX8_init 99 = .ok (.iload_n 3, 1) := by decide +kernel
theorem dX8_init_100 : decode cX8_init 100 = .ok (.iconst 1, 1) := by decide +kernel
theorem dX8_init_101 : decode cX8_init 101 = .ok (.isub, 1) := by decide +kernel
theorem dX8_init_102 : decode cX8_init 102 = .ok (.caload, 1) := by decide +kernel
theorem dX8_init_103 : decode cX8_init 103 = .ok (.invokestatic 19, 3) := by decide +kernel
theorem dX8_init_106 : decode cX8_init 106 = .ok (.ifCond .ne 7, 3) := by decide +kernel
theorem dX8_init_109 : decode cX8_init 109 = .ok (.iconst 1, 1) := by decide +kernel
theorem dX8_init_110 : decode cX8_init 110 = .ok (.goto 4, 3) := by decide +kernel
theorem dX8_init_113 : decode cX8_init 113 = .ok (.iconst 0, 1) := by decide +kernel
theorem dX8_init_114 : decode cX8_init 114 = .ok (.istore 4, 2) := by decide +kernel
theorem dX8_init_116 : decode cX8_init 116 = .ok (.aload_n 0, 1) := by decide +kernel
theorem dX8_init_117 : decode cX8_init 117 = .ok (.iconst 1, 1) := by decide +kernel
theorem dX8_init_118 : decode cX8_init 118 = .ok (.iload 4, 2) := by decide +kernel
theorem dX8_init_120 : decode cX8_init 120 = .ok (.ifCond .eq 9, 3) := by decide +kernel
theorem dX8_init_123 : decode cX8_init 123 = .ok (.iload_n 2, 1) := by decide +kernel
theorem dX8_init_124 : decode cX8_init 124 = .ok (.iconst 1, 1) := by decide +kernel
theorem dX8_init_125 : decode cX8_init 125 = .ok (.isub, 1) := by decide +kernel
theorem dX8_init_126 : decode cX8_init 126 = .ok (.goto 4, 3) := by decide +kernel
theorem dX8_init_129 : decode cX8_init 129 = .ok (.iload_n 2, 1) := by decide +kernel
theorem dX8_init_130 : decode cX8_init 130 = .ok (.invokestatic 23, 3) := by decide +kernel
theorem dX8_init_133 : decode cX8_init 133 = .ok (.putfield 29, 3) := by decide +kernel
theorem dX8_init_136 : decode cX8_init 136 = .ok (.aload_n 0, 1) := by decide +kernel
theorem dX8_init_137 : decode cX8_init 137 = .ok (.iload 4, 2) := by decide +kernel
theorem dX8_init_139 : decode cX8_init 139 = .ok (.ifCond .eq 7, 3) := by decide +kernel
theorem dX8_init_142 : decode cX8_init 142 = .ok (.iload_n 3, 1) := by decide +kernel
theorem dX8_init_143 : decode cX8_init 143 = .ok (.goto 5, 3) := by decide +kernel
theorem dX8_init_146 : decode cX8_init 146 = .ok (.aload_n 1, 1) := by decide +kernel
theorem dX8_init_147 : decode cX8_init 147 = .ok (.arraylength, 1) := by decide +kernel
theorem dX8_init_148 : decode cX8_init 148 = .ok (.putfield 33, 3) := by decide +kernel
theorem dX8_init_151 : decode cX8_init 151 = .ok (.aload_n 0, 1) := by decide +kernel
theorem dX8_init_152 : decode cX8_init 152 = .ok (.iload_n 3, 1) := by decide +kernel
theorem dX8_init_153 : decode cX8_init 153 = .ok (.ifCond .lt 16, 3) := by decide +kernel
theorem dX8_init_156 : decode cX8_init 156 = .ok (.aload_n 1, 1) := by decide +kernel
theorem dX8_init_157 : decode cX8_init 157 = .ok (.iconst 0, 1) := by decide +kernel
theorem dX8_init_158 : decode cX8_init 158 = .ok (.caload, 1) := by decide +kernel
theorem dX8_init_159 : decode cX8_init 159 = .ok (.invokestatic 19, 3) := by decide +kernel
theorem dX8_init_162 : decode cX8_init 162 = .ok (.ifCond .eq 7, 3) := by decide +kernel
theorem dX8_init_165 : decode cX8_init 165 = .ok (.iconst 1, 1) := by decide +kernel
theorem dX8_init_166 : decode cX8_init 166 = .ok (.goto 4, 3) := by decide +kernel
theorem dX8_init_169 : decode cX8_init 169 = .ok (.iconst 0, 1) := by decide +kernel
theorem dX8_init_170 : decode cX8_init 170 = .ok (.putfield 36, 3) := by decide +kernel
theorem dX8_init_173 : decode cX8_init 173 = .ok (.aload_n 0, 1) := by decide +kernel
theorem dX8_init_174 : decode cX8_init 174 = .ok (.iload_n 3, 1) := by decide +kernel
theorem dX8_init_175 : decode cX8_init 175 = .ok (.ifCond .lt 21, 3) := by decide +kernel
theorem dX8_init_178 : decode cX8_init 178 = .ok (.iload 4, 2) := by decide +kernel
theorem dX8_init_180 : decode cX8_init 180 = .ok (.ifCond .ne 16, 3) := by decide +kernel
theorem dX8_init_183 : decode cX8_init 183 = .ok (.aload_n 1, 1) := by decide +kernel
theorem dX8_init_184 : decode cX8_init 184 = .ok (.iload_n 3, 1) := by decide +kernel
theorem dX8_init_185 : decode cX8_init 185 = .ok (.caload, 1) := by decide +kernel
theorem dX8_init_186 : decode cX8_init 186 = .ok (.invokestatic 19, 3) := by decide +kernel
theorem dX8_init_189 : decode cX8_init 189 = .ok (.ifCond .eq 7, 3) := by decide +kernel
theorem dX8_init_192 : decode cX8_init 192 = .ok (.iconst 1, 1) := by decide +kernel
theorem dX8_init_193 : decode cX8_init 193 = .ok (.goto 4, 3) := by decide +kernel
theorem dX8_init_196 : decode cX8_init 196 = .ok (.iconst 0, 1) := by decide +kernel
theorem dX8_init_197 : decode cX8_init 197 = .ok (.putfield 40, 3) := by decide +kernel
theorem dX8_init_200 : decode cX8_init 200 = .ok (.return_, 1) := by decide +kernel
theorem dX8_letterAt_0 : decode cX8_letterAt 0 = .ok (.iload_n 1, 1) := by decide +kernel
theorem dX8_letterAt_1 : decode cX8_letterAt 1 = .ok (.ifCond .lt 21, 3) := by decide +kernel
theorem dX8_letterAt_4 : decode cX8_letterAt 4 = .ok (.iload_n 1, 1) := by decide +kernel
theorem dX8_letterAt_5 : decode cX8_letterAt 5 = .ok (.aload_n 0, 1) := by decide +kernel
theorem dX8_letterAt_6 : decode cX8_letterAt 6 = .ok (.getfield 15, 3) := by decide +kernel
theorem dX8_letterAt_9 : decode cX8_letterAt 9 = .ok (.arraylength, 1) := by decide +kernel
theorem dX8_letterAt_10 : decode cX8_letterAt 10 = .ok (.if_icmp .ge 12, 3) := by decide +kernel
theorem dX8_letterAt_13 : decode cX8_letterAt 13 = .ok (.aload_n 0, 1) := by decide +kernel
theorem dX8_letterAt_14 : decode cX8_letterAt 14 = .ok (.getfield 15, 3) := by decide +kernel
theorem dX8_letterAt_17 : decode cX8_letterAt 17 = .ok (.iload_n 1, 1) := by decide +kernel
theorem dX8_letterAt_18 : decode cX8_letterAt 18 = .ok (.caload, 1) := by decide +kernel
theorem dX8_letterAt_19 : decode cX8_letterAt 19 = .ok (.goto 4, 3) := by decide +kernel
theorem dX8_letterAt_22 : decode cX8_letterAt 22 = .ok (.iconst 0, 1) := by decide +kernel
theorem dX8_letterAt_23 : decode cX8_letterAt 23 = .ok (.ireturn, 1) := by decide +kernel
theorem dX8_coreStart_0 : decode cX8_coreStart 0 = .ok (.iload_n 1, 1) := by decide +kernel
theorem dX8_coreStart_1 : decode cX8_coreStart 1 = .ok (.ifCond .lt 21, 3) := by decide +kernel
theorem dX8_coreStart_4 : decode cX8_coreStart 4 = .ok (.iload_n 1, 1) := by decide +kernel
theorem dX8_coreStart_5 : decode cX8_coreStart 5 = .ok (.aload_n 0, 1) := by decide +kernel
theorem dX8_coreStart_6 : decode cX8_coreStart 6 = .ok (.getfield 9, 3) := by decide +kernel
theorem dX8_coreStart_9 : decode cX8_coreStart 9 = .ok (.arraylength, 1) := by decide +kernel
theorem dX8_coreStart_10 : decode cX8_coreStart 10 = .ok (.if_icmp .ge 12, 3) := by decide +kernel
theorem dX8_coreStart_13 : decode cX8_coreStart 13 = .ok (.aload_n 0, 1) := by decide +kernel
theorem dX8_coreStart_14 : decode cX8_coreStart 14 = .ok (.getfield 9, 3) := by decide +kernel
theorem dX8_coreStart_17 : decode cX8_coreStart 17 = .ok (.iload_n 1, 1) := by decide +kernel
theorem dX8_coreStart_18 : decode cX8_coreStart 18 = .ok (.iaload, 1) := by decide +kernel
theorem dX8_coreStart_19 : decode cX8_coreStart 19 = .ok (.goto 4, 3) := by decide +kernel
theorem dX8_coreStart_22 : decode cX8_coreStart 22 = .ok (.iconst 0, 1) := by decide +kernel
theorem dX8_coreStart_23 : decode cX8_coreStart 23 = .ok (.ireturn, 1) := by decide +kernel
theorem dX8_isSame_0 : decode cX8_isSame 0 = .ok (.aload_n 0, 1) := by decide +kernel
theorem dX8_isSame_1 : decode cX8_isSame 1 = .ok (.getfield 15, 3) := by decide +kernel
theorem dX8_isSame_4 : decode cX8_isSame 4 = .ok (.arraylength, 1) := by decide +kernel
theorem dX8_isSame_5 : decode cX8_isSame 5 = .ok (.aload_n 1, 1) := by decide +kernel
theorem dX8_isSame_6 : decode cX8_isSame 6 = .ok (.getfield 15, 3) := by decide +kernel
theorem dX8_isSame_9 : decode cX8_isSame 9 = .ok (.arraylength, 1) := by decide +kernel
theorem dX8_isSame_10 : decode cX8_isSame 10 = .ok (.if_icmp .eq 5, 3) := by decide +kernel
theorem dX8_isSame_13 : decode cX8_isSame 13 = .ok (.iconst 0, 1) := by decide +kernel
theorem dX8_isSame_14 : decode cX8_isSame 14 = .ok (.ireturn, 1) := by decide +kernel
theorem dX8_isSame_15 : decode cX8_isSame 15 = .ok (.iconst 0, 1) := by decide +kernel
theorem dX8_isSame_16 : decode cX8_isSame 16 = .ok (.istore_n 2, 1) := by decide +kernel
theorem dX8_isSame_17 : decode cX8_isSame 17 = .ok (.iload_n 2, 1) := by decide +kernel
theorem dX8_isSame_18 : decode cX8_isSame 18 = .ok (.aload_n 0, 1) := by decide +kernel
theorem dX8_isSame_19 : decode cX8_isSame 19 = .ok (.getfield 15, 3) := by decide +kernel
theorem dX8_isSame_22 : decode cX8_isSame 22 = .ok (.arraylength, 1) := by decide +kernel
theorem dX8_isSame_23 : decode cX8_isSame 23 = .ok (.if_icmp .ge 26, 3) := by decide +kernel
theorem dX8_isSame_26 : decode cX8_isSame 26 = .ok (.aload_n 0, 1) := by decide +kernel
theorem dX8_isSame_27 : decode cX8_isSame 27 = .ok (.getfield 15, 3) := by decide +kernel
theorem dX8_isSame_30 : decode cX8_isSame 30 = .ok (.iload_n 2, 1) := by decide +kernel
theorem dX8_isSame_31 : decode cX8_isSame 31 = .ok (.caload, 1) := by decide +kernel
theorem dX8_isSame_32 : decode cX8_isSame 32 = .ok (.aload_n 1, 1) := by decide +kernel
theorem dX8_isSame_33 : decode cX8_isSame 33 = .ok (.getfield 15, 3) := by decide +kernel
theorem dX8_isSame_36 : decode cX8_isSame 36 = .ok (.iload_n 2, 1) := by decide +kernel
theorem dX8_isSame_37 : decode cX8_isSame 37 = .ok (.caload, 1) := by decide +kernel
theorem dX8_isSame_38 : decode cX8_isSame 38 = .ok (.if_icmp .eq 5, 3) := by decide +kernel
theorem dX8_isSame_41 : decode cX8_isSame 41 = .ok (.iconst 0, 1) := by decide +kernel
theorem dX8_isSame_42 : decode cX8_isSame 42 = .ok (.ireturn, 1) := by decide +kernel
theorem dX8_isSame_43 : decode cX8_isSame 43 = .ok (.iinc 2 1, 3) := by decide +kernel
theorem dX8_isSame_46 : decode cX8_isSame 46 = .ok (.goto (-29), 3) := by decide +kernel
theorem dX8_isSame_49 : decode cX8_isSame 49 = .ok (.iconst 1, 1) := by decide +kernel
theorem dX8_isSame_50 : decode cX8_isSame 50 = .ok (.ireturn, 1) := by decide +kernel
theorem dX8_vowelCode_0 : decode cX8_vowelCode 0 = .ok (.lconst 0, 1) := by decide +kernel
theorem dX8_vowelCode_1 : decode cX8_vowelCode 1 = .ok (.lstore_n 2, 1) := by decide +kernel
theorem dX8_vowelCode_2 : decode cX8_vowelCode 2 = .ok (.iload_n 1, 1) := by decide +kernel
theorem dX8_vowelCode_3 : decode cX8_vowelCode 3 = .ok (.istore 4, 2) := by decide +kernel
theorem dX8_vowelCode_5 : decode cX8_vowelCode 5 = .ok (.iload 4, 2) := by decide +kernel
theorem dX8_vowelCode_7 : decode cX8_vowelCode 7 = .ok (.aload_n 0, 1) := by decide +kernel
theorem dX8_vowelCode_8 : decode cX8_vowelCode 8 = .ok (.getfield 33, 3) := by decide +kernel
theorem dX8_vowelCode_11 : decode cX8_vowelCode 11 = .ok (.if_icmp .ge 39, 3) := by decide +kernel
theorem dX8_vowelCode_14 : decode cX8_vowelCode 14 = .ok (.ldc 43, 2) := by decide +kernel
theorem dX8_vowelCode_16 : decode cX8_vowelCode 16 = .ok (.aload_n 0, 1) := by decide +kernel
theorem dX8_vowelCode_17 : decode cX8_vowelCode 17 = .ok (.iload 4, 2) := by decide +kernel
theorem dX8_vowelCode_19 : decode cX8_vowelCode 19 = .ok (.invokevirtual 45, 3) := by decide +kernel
theorem dX8_vowelCode_22 : decode cX8_vowelCode 22 = .ok (.invokevirtual 49, 3) := by decide +kernel
theorem dX8_vowelCode_25 : decode cX8_vowelCode 25 = .ok (.istore 5, 2) := by decide +kernel
theorem dX8_vowelCode_27 : decode cX8_vowelCode 27 = .ok (.iload 5, 2) := by decide +kernel
theorem dX8_vowelCode_29 : decode cX8_vowelCode 29 = .ok (.ifCond .lt 15, 3) := by decide +kernel
theorem dX8_vowelCode_32 : decode cX8_vowelCode 32 = .ok (.ldc2_w 55, 3) := by decide +kernel
theorem dX8_vowelCode_35 : decode cX8_vowelCode 35 = .ok (.lload_n 2, 1) := by decide +kernel
theorem dX8_vowelCode_36 : decode cX8_vowelCode 36 = .ok (.lmul, 1) := by decide +kernel
theorem dX8_vowelCode_37 : decode cX8_vowelCode 37 = .ok (.iload 5, 2) := by decide +kernel
theorem dX8_vowelCode_39 : decode cX8_vowelCode 39 = .ok (.i2l, 1) := by decide +kernel
theorem dX8_vowelCode_40 : decode cX8_vowelCode 40 = .ok (.ladd, 1) := by decide +kernel
theorem dX8_vowelCode_41 : decode cX8_vowelCode 41 = .ok (.lconst 1, 1) := by decide +kernel
theorem dX8_vowelCode_42 : decode cX8_vowelCode 42 = .ok (.ladd, 1) := by decide +kernel
theorem dX8_vowelCode_43 : decode cX8_vowelCode 43 = .ok (.lstore_n 2, 1) := by decide +kernel
theorem dX8_vowelCode_44 : decode cX8_vowelCode 44 = .ok (.iinc 4 1, 3) := by decide +kernel
theorem dX8_vowelCode_47 : decode cX8_vowelCode 47 = .ok (.goto (-42), 3) := by decide +kernel
theorem dX8_vowelCode_50 : decode cX8_vowelCode 50 = .ok (.lload_n 2, 1) := by decide +kernel
theorem dX8_vowelCode_51 : decode cX8_vowelCode 51 = .ok (.lreturn, 1) := by decide +kernel
