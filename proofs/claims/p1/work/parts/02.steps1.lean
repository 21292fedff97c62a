theorem dX11_feed_61 : decode cX11_feed 61 = .ok (.getfield 90, 3) := by decide +kernel
theorem dX11_feed_64 : decode cX11_feed 64 = .ok (.ireturn, 1) := by decide +kernel
theorem dX11_end_0 : decode cX11_end 0 = .ok (.iload_n 1, 1) := by decide +kernel
theorem dX11_end_1 : decode cX11_end 1 = .ok (.ifCond .lt 14, 3) := by decide +kernel
theorem dX11_end_4 : decode cX11_end 4 = .ok (.iload_n 1, 1) := by decide +kernel
theorem dX11_end_5 : decode cX11_end 5 = .ok (.aload_n 0, 1) := by decide +kernel
theorem dX11_end_6 : decode cX11_end 6 = .ok (.getfield 10, 3) := by decide +kernel
theorem dX11_end_9 : decode cX11_end 9 = .ok (.getfield 90, 3) := by decide +kernel
theorem dX11_end_12 : decode cX11_end 12 = .ok (.if_icmp .le 5, 3) := by decide +kernel
theorem dX11_end_15 : decode cX11_end 15 = .ok (.iconst (-1), 1) := by decide +kernel
theorem dX11_end_16 : decode cX11_end 16 = .ok (.ireturn, 1) := by decide +kernel
theorem dX11_end_17 : decode cX11_end 17 = .ok (.aload_n 0, 1) := by decide +kernel
theorem dX11_end_18 : decode cX11_end 18 = .ok (.getfield 10, 3) := by decide +kernel
theorem dX11_end_21 : decode cX11_end 21 = .ok (.iload_n 1, 1) := by decide +kernel
theorem dX11_end_22 : decode cX11_end 22 = .ok (.putfield 90, 3) := by decide +kernel
theorem dX11_end_25 : decode cX11_end 25 = .ok (.iload_n 1, 1) := by decide +kernel
theorem dX11_end_26 : decode cX11_end 26 = .ok (.ireturn, 1) := by decide +kernel
theorem dX11_table_0 : decode cX11_table 0 = .ok (.aload_n 0, 1) := by decide +kernel
theorem dX11_table_1 : decode cX11_table 1 = .ok (.getfield 21, 3) := by decide +kernel
theorem dX11_table_4 : decode cX11_table 4 = .ok (.invokevirtual 98, 3) := by decide +kernel
theorem dX11_table_7 : decode cX11_table 7 = .ok (.ifCond .ne 5, 3) := by decide +kernel
theorem dX11_table_12 : decode cX11_table 12 = .ok (.aload_n 0, 1) := by decide +kernel
theorem dX11_table_13 : decode cX11_table 13 = .ok (.getfield 28, 3) := by decide +kernel
theorem dX11_table_16 : decode cX11_table 16 = .ok (.aload_n 0, 1) := by decide +kernel
theorem dX11_table_17 : decode cX11_table 17 = .ok (.getfield 21, 3) := by decide +kernel
theorem dX11_table_20 : decode cX11_table 20 = .ok (.getfield 102, 3) := by decide +kernel
theorem dX11_table_23 : decode cX11_table 23 = .ok (.invokevirtual 103, 3) := by decide +kernel
theorem dX11_table_26 : decode cX11_table 26 = .ok (.aload_n 0, 1) := by decide +kernel
theorem dX11_table_27 : decode cX11_table 27 = .ok (.getfield 10, 3) := by decide +kernel
theorem dX11_table_30 : decode cX11_table 30 = .ok (.iconst 0, 1) := by decide +kernel
theorem dX11_table_31 : decode cX11_table 31 = .ok (.putfield 90, 3) := by decide +kernel
theorem dX11_table_34 : decode cX11_table 34 = .ok (.aload_n 0, 1) := by decide +kernel
theorem dX11_table_35 : decode cX11_table 35 = .ok (.invokevirtual 87, 3) := by decide +kernel
theorem dX11_table_38 : decode cX11_table 38 = .ok (.aload_n 0, 1) := by decide +kernel
theorem dX11_table_39 : decode cX11_table 39 = .ok (.getfield 28, 3) := by decide +kernel
theorem dX11_table_42 : decode cX11_table 42 = .ok (.getfield 106, 3) := by decide +kernel
theorem dX11_table_45 : decode cX11_table 45 = .ok (.ireturn, 1) := by decide +kernel
theorem dX11_fault_0 : decode cX11_fault 0 = .ok (.iload_n 1, 1) := by decide +kernel
theorem dX11_fault_1 : decode cX11_fault 1 = .ok (.lookupswitch 43 #[(0, 27), (1, 35)], 27) := by decide +kernel
theorem dX11_fault_28 : decode cX11_fault 28 = .ok (.aload_n 0, 1) := by decide +kernel
theorem dX11_fault_29 : decode cX11_fault 29 = .ok (.getfield 21, 3) := by decide +kernel
theorem dX11_fault_32 : decode cX11_fault 32 = .ok (.getfield 109, 3) := by decide +kernel
theorem dX11_fault_35 : decode cX11_fault 35 = .ok (.ireturn, 1) := by decide +kernel
theorem dX11_fault_36 : decode cX11_fault 36 = .ok (.aload_n 0, 1) := by decide +kernel
theorem dX11_fault_37 : decode cX11_fault 37 = .ok (.getfield 21, 3) := by decide +kernel
theorem dX11_fault_40 : decode cX11_fault 40 = .ok (.getfield 112, 3) := by decide +kernel
theorem dX11_fault_43 : decode cX11_fault 43 = .ok (.ireturn, 1) := by decide +kernel
theorem dX11_fault_44 : decode cX11_fault 44 = .ok (.iconst (-1), 1) := by decide +kernel
theorem dX11_fault_45 : decode cX11_fault 45 = .ok (.ireturn, 1) := by decide +kernel
theorem dX11_cell_0 : decode cX11_cell 0 = .ok (.aload_n 0, 1) := by decide +kernel
theorem dX11_cell_1 : decode cX11_cell 1 = .ok (.getfield 28, 3) := by decide +kernel
theorem dX11_cell_4 : decode cX11_cell 4 = .ok (.iload_n 1, 1) := by decide +kernel
theorem dX11_cell_5 : decode cX11_cell 5 = .ok (.iload_n 2, 1) := by decide +kernel
theorem dX11_cell_6 : decode cX11_cell 6 = .ok (.invokevirtual 115, 3) := by decide +kernel
theorem dX11_cell_9 : decode cX11_cell 9 = .ok (.istore 4, 2) := by decide +kernel
theorem dX11_cell_11 : decode cX11_cell 11 = .ok (.iload 4, 2) := by decide +kernel
theorem dX11_cell_13 : decode cX11_cell 13 = .ok (.iconst (-1), 1) := by decide +kernel
theorem dX11_cell_14 : decode cX11_cell 14 = .ok (.if_icmp .ne 6, 3) := by decide +kernel
theorem dX11_cell_17 : decode cX11_cell 17 = .ok (.ldc 119, 2) := by decide +kernel
theorem dX11_cell_19 : decode cX11_cell 19 = .ok (.ireturn, 1) := by decide +kernel
theorem dX11_number_0 : decode cX11_number 0 = .ok (.aload_n 0, 1) := by decide +kernel
theorem dX11_number_1 : decode cX11_number 1 = .ok (.getfield 28, 3) := by decide +kernel
theorem dX11_number_4 : decode cX11_number 4 = .ok (.iload_n 1, 1) := by decide +kernel
theorem dX11_number_5 : decode cX11_number 5 = .ok (.iload_n 2, 1) := by decide +kernel
theorem dX11_number_6 : decode cX11_number 6 = .ok (.invokevirtual 115, 3) := by decide +kernel
theorem dX11_number_9 : decode cX11_number 9 = .ok (.istore_n 3, 1) := by decide +kernel
theorem dX11_number_10 : decode cX11_number 10 = .ok (.aload_n 0, 1) := by decide +kernel
theorem dX11_number_11 : decode cX11_number 11 = .ok (.getfield 28, 3) := by decide +kernel
theorem dX11_number_14 : decode cX11_number 14 = .ok (.iload_n 3, 1) := by decide +kernel
theorem dX11_number_15 : decode cX11_number 15 = .ok (.invokevirtual 130, 3) := by decide +kernel
theorem dX11_number_18 : decode cX11_number 18 = .ok (.ifCond .eq 16, 3) := by decide +kernel
theorem dX11_number_34 : decode cX11_number 34 = .ok (.iconst 0, 1) := by decide +kernel
theorem dX11_number_35 : decode cX11_number 35 = .ok (.ireturn, 1) := by decide +kernel
theorem dX11_letter_0 : decode cX11_letter 0 = .ok (.aload_n 0, 1) := by decide +kernel
theorem dX11_letter_1 : decode cX11_letter 1 = .ok (.getfield 28, 3) := by decide +kernel
theorem dX11_letter_4 : decode cX11_letter 4 = .ok (.iload_n 1, 1) := by decide +kernel
theorem dX11_letter_5 : decode cX11_letter 5 = .ok (.iload_n 2, 1) := by decide +kernel
theorem dX11_letter_6 : decode cX11_letter 6 = .ok (.invokevirtual 115, 3) := by decide +kernel
theorem dX11_letter_9 : decode cX11_letter 9 = .ok (.istore 4, 2) := by decide +kernel
theorem dX11_letter_11 : decode cX11_letter 11 = .ok (.iload 4, 2) := by decide +kernel
theorem dX11_letter_13 : decode cX11_letter 13 = .ok (.iconst (-1), 1) := by decide +kernel
theorem dX11_letter_14 : decode cX11_letter 14 = .ok (.if_icmp .eq 20, 3) := by decide +kernel
theorem dX11_letter_34 : decode cX11_letter 34 = .ok (.iconst (-1), 1) := by decide +kernel
theorem dX11_letter_35 : decode cX11_letter 35 = .ok (.ireturn, 1) := by decide +kernel
theorem dX11_cut_0 : decode cX11_cut 0 = .ok (.aload_n 0, 1) := by decide +kernel
theorem dX11_cut_1 : decode cX11_cut 1 = .ok (.getfield 28, 3) := by decide +kernel
theorem dX11_cut_4 : decode cX11_cut 4 = .ok (.iload_n 1, 1) := by decide +kernel
theorem dX11_cut_5 : decode cX11_cut 5 = .ok (.invokevirtual 144, 3) := by decide +kernel
theorem dX11_cut_8 : decode cX11_cut 8 = .ok (.ifCond .eq 12, 3) := by decide +kernel
theorem dX11_cut_20 : decode cX11_cut 20 = .ok (.iconst (-1), 1) := by decide +kernel
theorem dX11_cut_21 : decode cX11_cut 21 = .ok (.ireturn, 1) := by decide +kernel
theorem dX11_sort_0 : decode cX11_sort 0 = .ok (.aload_n 0, 1) := by decide +kernel
theorem dX11_sort_1 : decode cX11_sort 1 = .ok (.getfield 28, 3) := by decide +kernel
theorem dX11_sort_4 : decode cX11_sort 4 = .ok (.iload_n 1, 1) := by decide +kernel
theorem dX11_sort_5 : decode cX11_sort 5 = .ok (.invokevirtual 144, 3) := by decide +kernel
theorem dX11_sort_8 : decode cX11_sort 8 = .ok (.ifCond .ne 5, 3) := by decide +kernel
theorem dX11_sort_11 : decode cX11_sort 11 = .ok (.iconst (-1), 1) := by decide +kernel
theorem dX11_sort_12 : decode cX11_sort 12 = .ok (.ireturn, 1) := by decide +kernel
theorem dX11_whole_0 : decode cX11_whole 0 = .ok (.aload_n 0, 1) := by decide +kernel
theorem dX11_whole_1 : decode cX11_whole 1 = .ok (.getfield 37, 3) := by decide +kernel
theorem dX11_whole_4 : decode cX11_whole 4 = .ok (.invokevirtual 159, 3) := by decide +kernel
theorem dX11_whole_7 : decode cX11_whole 7 = .ok (.aload_n 0, 1) := by decide +kernel
theorem dX11_whole_8 : decode cX11_whole 8 = .ok (.invokevirtual 151, 3) := by decide +kernel
theorem dX11_whole_11 : decode cX11_whole 11 = .ok (.ireturn, 1) := by decide +kernel
theorem dX11_lineAt_0 : decode cX11_lineAt 0 = .ok (.aload_n 0, 1) := by decide +kernel
theorem dX11_lineAt_1 : decode cX11_lineAt 1 = .ok (.getfield 37, 3) := by decide +kernel
theorem dX11_lineAt_4 : decode cX11_lineAt 4 = .ok (.iload_n 1, 1) := by decide +kernel
theorem dX11_lineAt_5 : decode cX11_lineAt 5 = .ok (.invokevirtual 162, 3) := by decide +kernel
theorem dX11_lineAt_8 : decode cX11_lineAt 8 = .ok (.ireturn, 1) := by decide +kernel
theorem dX11_place_0 : decode cX11_place 0 = .ok (.aload_n 0, 1) := by decide +kernel
theorem dX11_place_1 : decode cX11_place 1 = .ok (.getfield 165, 3) := by decide +kernel
theorem dX11_place_4 : decode cX11_place 4 = .ok (.iconst (-1), 1) := by decide +kernel
theorem dX11_place_5 : decode cX11_place 5 = .ok (.if_icmp .ne 5, 3) := by decide +kernel
theorem dX11_place_8 : decode cX11_place 8 = .ok (.iconst (-1), 1) := by decide +kernel
theorem dX11_place_9 : decode cX11_place 9 = .ok (.ireturn, 1) := by decide +kernel
theorem dX11_key_0 : decode cX11_key 0 = .ok (.iload_n 1, 1) := by decide +kernel
theorem dX11_key_1 : decode cX11_key 1 = .ok (.ifCond .lt 9, 3) := by decide +kernel
theorem dX11_key_4 : decode cX11_key 4 = .ok (.iload_n 1, 1) := by decide +kernel
theorem dX11_key_5 : decode cX11_key 5 = .ok (.bipush 11, 2) := by decide +kernel
theorem dX11_key_7 : decode cX11_key 7 = .ok (.if_icmp .lt 5, 3) := by decide +kernel
theorem dX11_key_10 : decode cX11_key 10 = .ok (.iconst (-1), 1) := by decide +kernel
theorem dX11_key_11 : decode cX11_key 11 = .ok (.ireturn, 1) := by decide +kernel
theorem dX11_key_12 : decode cX11_key 12 = .ok (.aload_n 0, 1) := by decide +kernel
theorem dX11_key_13 : decode cX11_key 13 = .ok (.getfield 46, 3) := by decide +kernel
theorem dX11_key_16 : decode cX11_key 16 = .ok (.aload_n 0, 1) := by decide +kernel
theorem dX11_key_17 : decode cX11_key 17 = .ok (.getfield 165, 3) := by decide +kernel
theorem dX11_key_20 : decode cX11_key 20 = .ok (.aload_n 0, 1) := by decide +kernel
theorem dX11_key_21 : decode cX11_key 21 = .ok (.getfield 168, 3) := by decide +kernel
theorem dX11_key_24 : decode cX11_key 24 = .ok (.invokevirtual 171, 3) := by decide +kernel
theorem dX11_key_27 : decode cX11_key 27 = .ok (.istore_n 2, 1) := by decide +kernel
theorem dX11_key_28 : decode cX11_key 28 = .ok (.iload_n 2, 1) := by decide +kernel
theorem dX11_key_29 : decode cX11_key 29 = .ok (.iconst (-1), 1) := by decide +kernel
theorem dX11_key_30 : decode cX11_key 30 = .ok (.if_icmp .ne 7, 3) := by decide +kernel
theorem dX11_key_33 : decode cX11_key 33 = .ok (.iconst (-1), 1) := by decide +kernel
theorem dX11_key_34 : decode cX11_key 34 = .ok (.goto 12, 3) := by decide +kernel
theorem dX11_key_46 : decode cX11_key 46 = .ok (.istore_n 3, 1) := by decide +kernel
theorem dX11_key_47 : decode cX11_key 47 = .ok (.iload_n 3, 1) := by decide +kernel
theorem dX11_key_48 : decode cX11_key 48 = .ok (.iconst (-1), 1) := by decide +kernel
theorem dX11_key_49 : decode cX11_key 49 = .ok (.if_icmp .ne 11, 3) := by decide +kernel
theorem dX11_key_52 : decode cX11_key 52 = .ok (.aload_n 0, 1) := by decide +kernel
theorem dX11_key_53 : decode cX11_key 53 = .ok (.getfield 62, 3) := by decide +kernel
theorem dX11_key_56 : decode cX11_key 56 = .ok (.invokevirtual 177, 3) := by decide +kernel
theorem dX11_key_59 : decode cX11_key 59 = .ok (.ireturn, 1) := by decide +kernel
theorem dX11_back_0 : decode cX11_back 0 = .ok (.aload_n 0, 1) := by decide +kernel
theorem dX11_back_1 : decode cX11_back 1 = .ok (.getfield 69, 3) := by decide +kernel
theorem dX11_back_4 : decode cX11_back 4 = .ok (.invokevirtual 183, 3) := by decide +kernel
theorem dX11_back_7 : decode cX11_back 7 = .ok (.ifCond .ne 5, 3) := by decide +kernel
theorem dX11_back_10 : decode cX11_back 10 = .ok (.iconst (-1), 1) := by decide +kernel
theorem dX11_back_11 : decode cX11_back 11 = .ok (.ireturn, 1) := by decide +kernel
theorem dX11_told_0 : decode cX11_told 0 = .ok (.iload_n 1, 1) := by decide +kernel
theorem dX11_told_1 : decode cX11_told 1 = .ok (.ifCond .lt 14, 3) := by decide +kernel
theorem dX11_told_4 : decode cX11_told 4 = .ok (.iload_n 1, 1) := by decide +kernel
theorem dX11_told_5 : decode cX11_told 5 = .ok (.aload_n 0, 1) := by decide +kernel
theorem dX11_told_6 : decode cX11_told 6 = .ok (.getfield 62, 3) := by decide +kernel
theorem dX11_told_9 : decode cX11_told 9 = .ok (.getfield 195, 3) := by decide +kernel
theorem dX11_told_12 : decode cX11_told 12 = .ok (.if_icmp .lt 5, 3) := by decide +kernel
theorem dX11_told_15 : decode cX11_told 15 = .ok (.iconst (-1), 1) := by decide +kernel
theorem dX11_told_16 : decode cX11_told 16 = .ok (.ireturn, 1) := by decide +kernel
theorem dX11_mark_0 : decode cX11_mark 0 = .ok (.iload_n 1, 1) := by decide +kernel
theorem dX11_mark_1 : decode cX11_mark 1 = .ok (.ifCond .lt 16, 3) := by decide +kernel
theorem dX11_mark_4 : decode cX11_mark 4 = .ok (.iload_n 1, 1) := by decide +kernel
theorem dX11_mark_5 : decode cX11_mark 5 = .ok (.iconst 5, 1) := by decide +kernel
theorem dX11_mark_6 : decode cX11_mark 6 = .ok (.if_icmp .ge 11, 3) := by decide +kernel
theorem dX11_mark_9 : decode cX11_mark 9 = .ok (.aload_n 0, 1) := by decide +kernel
theorem dX11_mark_10 : decode cX11_mark 10 = .ok (.getfield 165, 3) := by decide +kernel
theorem dX11_mark_13 : decode cX11_mark 13 = .ok (.iconst (-1), 1) := by decide +kernel
theorem dX11_mark_14 : decode cX11_mark 14 = .ok (.if_icmp .ne 5, 3) := by decide +kernel
theorem dX11_mark_17 : decode cX11_mark 17 = .ok (.iconst 0, 1) := by decide +kernel
theorem dX11_mark_18 : decode cX11_mark 18 = .ok (.ireturn, 1) := by decide +kernel
theorem dX11_go_0 : decode cX11_go 0 = .ok (.iload_n 1, 1) := by decide +kernel
theorem dX11_go_1 : decode cX11_go 1 = .ok (.ifCond .lt 25, 3) := by decide +kernel
theorem dX11_go_4 : decode cX11_go 4 = .ok (.iload_n 1, 1) := by decide +kernel
theorem dX11_go_5 : decode cX11_go 5 = .ok (.iconst 5, 1) := by decide +kernel
theorem dX11_go_6 : decode cX11_go 6 = .ok (.if_icmp .ge 20, 3) := by decide +kernel
theorem dX11_go_9 : decode cX11_go 9 = .ok (.aload_n 0, 1) := by decide +kernel
theorem dX11_go_10 : decode cX11_go 10 = .ok (.getfield 37, 3) := by decide +kernel
theorem dX11_go_13 : decode cX11_go 13 = .ok (.aload_n 0, 1) := by decide +kernel
theorem dX11_go_14 : decode cX11_go 14 = .ok (.getfield 80, 3) := by decide +kernel
theorem dX11_go_17 : decode cX11_go 17 = .ok (.iload_n 1, 1) := by decide +kernel
theorem dX11_go_18 : decode cX11_go 18 = .ok (.iaload, 1) := by decide +kernel
theorem dX11_go_19 : decode cX11_go 19 = .ok (.invokevirtual 205, 3) := by decide +kernel
theorem dX11_go_22 : decode cX11_go 22 = .ok (.iconst (-1), 1) := by decide +kernel
theorem dX11_go_23 : decode cX11_go 23 = .ok (.if_icmp .ne 5, 3) := by decide +kernel
theorem dX11_go_26 : decode cX11_go 26 = .ok (.iconst (-1), 1) := by decide +kernel
theorem dX11_go_27 : decode cX11_go 27 = .ok (.ireturn, 1) := by decide +kernel
theorem dX11_keys_0 : decode cX11_keys 0 = .ok (.aload_n 0, 1) := by decide +kernel
theorem dX11_keys_1 : decode cX11_keys 1 = .ok (.iload_n 1, 1) := by decide +kernel
theorem dX11_keys_2 : decode cX11_keys 2 = .ok (.iload_n 2, 1) := by decide +kernel
theorem dX11_keys_3 : decode cX11_keys 3 = .ok (.invokevirtual 208, 3) := by decide +kernel
theorem dX11_keys_6 : decode cX11_keys 6 = .ok (.istore_n 3, 1) := by decide +kernel
theorem dX11_keys_7 : decode cX11_keys 7 = .ok (.iload_n 3, 1) := by decide +kernel
theorem dX11_keys_8 : decode cX11_keys 8 = .ok (.iconst (-1), 1) := by decide +kernel
theorem dX11_keys_9 : decode cX11_keys 9 = .ok (.if_icmp .ne 7, 3) := by decide +kernel
theorem dX11_keys_12 : decode cX11_keys 12 = .ok (.iconst (-1), 1) := by decide +kernel
theorem dX11_keys_13 : decode cX11_keys 13 = .ok (.goto 12, 3) := by decide +kernel
theorem dX11_keys_25 : decode cX11_keys 25 = .ok (.ireturn, 1) := by decide +kernel
theorem dX11_first_0 : decode cX11_first 0 = .ok (.aload_n 0, 1) := by decide +kernel
theorem dX11_first_1 : decode cX11_first 1 = .ok (.iload_n 1, 1) := by decide +kernel
theorem dX11_first_2 : decode cX11_first 2 = .ok (.iload_n 2, 1) := by decide +kernel
theorem dX11_first_3 : decode cX11_first 3 = .ok (.invokevirtual 208, 3) := by decide +kernel
theorem dX11_first_6 : decode cX11_first 6 = .ok (.istore_n 3, 1) := by decide +kernel
theorem dX11_first_7 : decode cX11_first 7 = .ok (.iload_n 3, 1) := by decide +kernel
theorem dX11_first_8 : decode cX11_first 8 = .ok (.iconst (-1), 1) := by decide +kernel
theorem dX11_first_9 : decode cX11_first 9 = .ok (.if_icmp .ne 7, 3) := by decide +kernel
theorem dX11_first_12 : decode cX11_first 12 = .ok (.iconst (-1), 1) := by decide +kernel
theorem dX11_first_13 : decode cX11_first 13 = .ok (.goto 12, 3) := by decide +kernel
theorem dX11_first_25 : decode cX11_first 25 = .ok (.ireturn, 1) := by decide +kernel
theorem dX11_set_0 : decode cX11_set 0 = .ok (.iload_n 3, 1) := by decide +kernel
theorem dX11_set_1 : decode cX11_set 1 = .ok (.ldc 217, 2) := by decide +kernel
theorem dX11_set_3 : decode cX11_set 3 = .ok (.if_icmp .lt 9, 3) := by decide +kernel
theorem dX11_set_6 : decode cX11_set 6 = .ok (.iload_n 3, 1) := by decide +kernel
theorem dX11_set_7 : decode cX11_set 7 = .ok (.ldc 218, 2) := by decide +kernel
theorem dX11_set_9 : decode cX11_set 9 = .ok (.if_icmp .le 5, 3) := by decide +kernel
theorem dX11_set_12 : decode cX11_set 12 = .ok (.iconst (-1), 1) := by decide +kernel
theorem dX11_set_13 : decode cX11_set 13 = .ok (.ireturn, 1) := by decide +kernel
theorem dX11_set_14 : decode cX11_set 14 = .ok (.aload_n 0, 1) := by decide +kernel
theorem dX11_set_15 : decode cX11_set 15 = .ok (.iload_n 1, 1) := by decide +kernel
theorem dX11_set_16 : decode cX11_set 16 = .ok (.iload_n 2, 1) := by decide +kernel
theorem dX11_set_17 : decode cX11_set 17 = .ok (.iconst 1, 1) := by decide +kernel
theorem dX11_set_18 : decode cX11_set 18 = .ok (.iload_n 3, 1) := by decide +kernel
theorem dX11_set_19 : decode cX11_set 19 = .ok (.invokevirtual 219, 3) := by decide +kernel
theorem dX11_set_22 : decode cX11_set 22 = .ok (.ireturn, 1) := by decide +kernel
theorem dX11_clear_0 : decode cX11_clear 0 = .ok (.aload_n 0, 1) := by decide +kernel
theorem dX11_clear_1 : decode cX11_clear 1 = .ok (.iload_n 1, 1) := by decide +kernel
theorem dX11_clear_2 : decode cX11_clear 2 = .ok (.iload_n 2, 1) := by decide +kernel
theorem dX11_clear_3 : decode cX11_clear 3 = .ok (.iconst 0, 1) := by decide +kernel
theorem dX11_clear_4 : decode cX11_clear 4 = .ok (.iconst 0, 1) := by decide +kernel
theorem dX11_clear_5 : decode cX11_clear 5 = .ok (.invokevirtual 219, 3) := by decide +kernel
theorem dX11_clear_8 : decode cX11_clear 8 = .ok (.ireturn, 1) := by decide +kernel
theorem dX11_undo_0 : decode cX11_undo 0 = .ok (.aload_n 0, 1) := by decide +kernel
theorem dX11_undo_1 : decode cX11_undo 1 = .ok (.getfield 76, 3) := by decide +kernel
theorem dX11_undo_4 : decode cX11_undo 4 = .ok (.invokevirtual 223, 3) := by decide +kernel
theorem dX11_undo_7 : decode cX11_undo 7 = .ok (.istore_n 1, 1) := by decide +kernel
theorem dX11_undo_8 : decode cX11_undo 8 = .ok (.iload_n 1, 1) := by decide +kernel
theorem dX11_undo_9 : decode cX11_undo 9 = .ok (.iconst (-1), 1) := by decide +kernel
theorem dX11_undo_10 : decode cX11_undo 10 = .ok (.if_icmp .ne 5, 3) := by decide +kernel
theorem dX11_undo_13 : decode cX11_undo 13 = .ok (.iconst 0, 1) := by decide +kernel
theorem dX11_undo_14 : decode cX11_undo 14 = .ok (.ireturn, 1) := by decide +kernel
theorem dX11_quarrels_0 : decode cX11_quarrels 0 = .ok (.iconst 0, 1) := by decide +kernel
theorem dX11_quarrels_1 : decode cX11_quarrels 1 = .ok (.istore_n 1, 1) := by decide +kernel
theorem dX11_quarrels_2 : decode cX11_quarrels 2 = .ok (.iconst 0, 1) := by decide +kernel
theorem dX11_quarrels_3 : decode cX11_quarrels 3 = .ok (.istore_n 2, 1) := by decide +kernel
theorem dX11_quarrels_4 : decode cX11_quarrels 4 = .ok (.iload_n 2, 1) := by decide +kernel
theorem dX11_quarrels_5 : decode cX11_quarrels 5 = .ok (.aload_n 0, 1) := by decide +kernel
theorem dX11_quarrels_6 : decode cX11_quarrels 6 = .ok (.getfield 28, 3) := by decide +kernel
theorem dX11_quarrels_9 : decode cX11_quarrels 9 = .ok (.getfield 106, 3) := by decide +kernel
theorem dX11_quarrels_12 : decode cX11_quarrels 12 = .ok (.if_icmp .ge 43, 3) := by decide +kernel
theorem dX11_quarrels_55 : decode cX11_quarrels 55 = .ok (.iload_n 1, 1) := by decide +kernel
theorem dX11_quarrels_56 : decode cX11_quarrels 56 = .ok (.ireturn, 1) := by decide +kernel
theorem dX11_quarrel_0 : decode cX11_quarrel 0 = .ok (.aload_n 0, 1) := by decide +kernel
theorem dX11_quarrel_1 : decode cX11_quarrel 1 = .ok (.getfield 28, 3) := by decide +kernel
theorem dX11_quarrel_4 : decode cX11_quarrel 4 = .ok (.iload_n 1, 1) := by decide +kernel
theorem dX11_quarrel_5 : decode cX11_quarrel 5 = .ok (.invokevirtual 236, 3) := by decide +kernel
theorem dX11_quarrel_8 : decode cX11_quarrel 8 = .ok (.istore_n 2, 1) := by decide +kernel
theorem dX11_quarrel_9 : decode cX11_quarrel 9 = .ok (.iload_n 2, 1) := by decide +kernel
theorem dX11_quarrel_10 : decode cX11_quarrel 10 = .ok (.iconst (-1), 1) := by decide +kernel
theorem dX11_quarrel_11 : decode cX11_quarrel 11 = .ok (.if_icmp .ne 7, 3) := by decide +kernel
theorem dX11_quarrel_14 : decode cX11_quarrel 14 = .ok (.iconst (-1), 1) := by decide +kernel
theorem dX11_quarrel_15 : decode cX11_quarrel 15 = .ok (.goto 15, 3) := by decide +kernel
theorem dX11_quarrel_30 : decode cX11_quarrel 30 = .ok (.ireturn, 1) := by decide +kernel
theorem dX11_right_0 : decode cX11_right 0 = .ok (.aload_n 0, 1) := by decide +kernel
theorem dX11_right_1 : decode cX11_right 1 = .ok (.getfield 28, 3) := by decide +kernel
theorem dX11_right_4 : decode cX11_right 4 = .ok (.iload_n 1, 1) := by decide +kernel
theorem dX11_right_5 : decode cX11_right 5 = .ok (.invokevirtual 236, 3) := by decide +kernel
theorem dX11_right_8 : decode cX11_right 8 = .ok (.istore_n 2, 1) := by decide +kernel
theorem dX11_right_9 : decode cX11_right 9 = .ok (.iload_n 2, 1) := by decide +kernel
theorem dX11_right_10 : decode cX11_right 10 = .ok (.iconst (-1), 1) := by decide +kernel
theorem dX11_right_11 : decode cX11_right 11 = .ok (.if_icmp .ne 7, 3) := by decide +kernel
theorem dX11_right_14 : decode cX11_right 14 = .ok (.lconst 0, 1) := by decide +kernel
theorem dX11_right_15 : decode cX11_right 15 = .ok (.goto 18, 3) := by decide +kernel
theorem dX11_right_33 : decode cX11_right 33 = .ok (.lreturn, 1) := by decide +kernel
theorem dX11_greatest_0 : decode cX11_greatest 0 = .ok (.aload_n 0, 1) := by decide +kernel
theorem dX11_greatest_1 : decode cX11_greatest 1 = .ok (.getfield 28, 3) := by decide +kernel
theorem dX11_greatest_4 : decode cX11_greatest 4 = .ok (.iload_n 1, 1) := by decide +kernel
theorem dX11_greatest_5 : decode cX11_greatest 5 = .ok (.invokevirtual 144, 3) := by decide +kernel
theorem dX11_greatest_8 : decode cX11_greatest 8 = .ok (.ifCond .eq 14, 3) := by decide +kernel
theorem dX11_greatest_22 : decode cX11_greatest 22 = .ok (.iconst (-1), 1) := by decide +kernel
theorem dX11_greatest_23 : decode cX11_greatest 23 = .ok (.ireturn, 1) := by decide +kernel
theorem dX11_compare_0 : decode cX11_compare 0 = .ok (.aload_n 0, 1) := by decide +kernel
theorem dX11_compare_1 : decode cX11_compare 1 = .ok (.getfield 28, 3) := by decide +kernel
theorem dX11_compare_4 : decode cX11_compare 4 = .ok (.iload_n 1, 1) := by decide +kernel
theorem dX11_compare_5 : decode cX11_compare 5 = .ok (.invokevirtual 144, 3) := by decide +kernel
theorem dX11_compare_8 : decode cX11_compare 8 = .ok (.ifCond .eq 23, 3) := by decide +kernel
theorem dX11_compare_31 : decode cX11_compare 31 = .ok (.iconst (-1), 1) := by decide +kernel
theorem dX11_compare_32 : decode cX11_compare 32 = .ok (.ireturn, 1) := by decide +kernel
theorem dX11_shape_0 : decode cX11_shape 0 = .ok (.aload_n 0, 1) := by decide +kernel
theorem dX11_shape_1 : decode cX11_shape 1 = .ok (.getfield 28, 3) := by decide +kernel
theorem dX11_shape_4 : decode cX11_shape 4 = .ok (.iload_n 1, 1) := by decide +kernel
theorem dX11_shape_5 : decode cX11_shape 5 = .ok (.invokevirtual 144, 3) := by decide +kernel
theorem dX11_shape_8 : decode cX11_shape 8 = .ok (.ifCond .eq 14, 3) := by decide +kernel
theorem dX11_shape_22 : decode cX11_shape 22 = .ok (.iconst (-1), 1) := by decide +kernel
theorem dX11_shape_23 : decode cX11_shape 23 = .ok (.ireturn, 1) := by decide +kernel
theorem dX11_about_0 : decode cX11_about 0 = .ok (.iload_n 1, 1) := by decide +kernel
theorem dX11_about_1 : decode cX11_about 1 = .ok (.tableswitch 111 0 7 #[47, 55, 63, 71, 79, 87, 95, 103], 47) := by decide +kernel
theorem dX11_about_48 : decode cX11_about 48 = .ok (.aload_n 0, 1) := by decide +kernel
theorem dX11_about_49 : decode cX11_about 49 = .ok (.getfield 28, 3) := by decide +kernel
theorem dX11_about_52 : decode cX11_about 52 = .ok (.getfield 229, 3) := by decide +kernel
theorem dX11_about_55 : decode cX11_about 55 = .ok (.ireturn, 1) := by decide +kernel
theorem dX11_about_56 : decode cX11_about 56 = .ok (.aload_n 0, 1) := by decide +kernel
theorem dX11_about_57 : decode cX11_about 57 = .ok (.getfield 28, 3) := by decide +kernel
theorem dX11_about_60 : decode cX11_about 60 = .ok (.getfield 106, 3) := by decide +kernel
theorem dX11_about_63 : decode cX11_about 63 = .ok (.ireturn, 1) := by decide +kernel
theorem dX11_about_64 : decode cX11_about 64 = .ok (.aload_n 0, 1) := by decide +kernel
theorem dX11_about_65 : decode cX11_about 65 = .ok (.getfield 28, 3) := by decide +kernel
theorem dX11_about_68 : decode cX11_about 68 = .ok (.getfield 253, 3) := by decide +kernel
theorem dX11_about_71 : decode cX11_about 71 = .ok (.ireturn, 1) := by decide +kernel
theorem dX11_about_72 : decode cX11_about 72 = .ok (.aload_n 0, 1) := by decide +kernel
theorem dX11_about_73 : decode cX11_about 73 = .ok (.getfield 37, 3) := by decide +kernel
theorem dX11_about_76 : decode cX11_about 76 = .ok (.getfield 255, 3) := by decide +kernel
theorem dX11_about_79 : decode cX11_about 79 = .ok (.ireturn, 1) := by decide +kernel
theorem dX11_about_80 : decode cX11_about 80 = .ok (.aload_n 0, 1) := by decide +kernel
theorem dX11_about_81 : decode cX11_about 81 = .ok (.getfield 76, 3) := by decide +kernel
theorem dX11_about_84 : decode cX11_about 84 = .ok (.getfield 258, 3) := by decide +kernel
theorem dX11_about_87 : decode cX11_about 87 = .ok (.ireturn, 1) := by decide +kernel
theorem dX11_about_88 : decode cX11_about 88 = .ok (.aload_n 0, 1) := by decide +kernel
theorem dX11_about_89 : decode cX11_about 89 = .ok (.getfield 69, 3) := by decide +kernel
theorem dX11_about_92 : decode cX11_about 92 = .ok (.getfield 259, 3) := by decide +kernel
theorem dX11_about_95 : decode cX11_about 95 = .ok (.ireturn, 1) := by decide +kernel
theorem dX11_about_96 : decode cX11_about 96 = .ok (.aload_n 0, 1) := by decide +kernel
theorem dX11_about_97 : decode cX11_about 97 = .ok (.getfield 10, 3) := by decide +kernel
theorem dX11_about_100 : decode cX11_about 100 = .ok (.getfield 90, 3) := by decide +kernel
theorem dX11_about_103 : decode cX11_about 103 = .ok (.ireturn, 1) := by decide +kernel
theorem dX11_about_104 : decode cX11_about 104 = .ok (.aload_n 0, 1) := by decide +kernel
theorem dX11_about_105 : decode cX11_about 105 = .ok (.getfield 62, 3) := by decide +kernel
theorem dX11_about_108 : decode cX11_about 108 = .ok (.getfield 195, 3) := by decide +kernel
theorem dX11_about_111 : decode cX11_about 111 = .ok (.ireturn, 1) := by decide +kernel
theorem dX11_about_112 : decode cX11_about 112 = .ok (.iconst (-1), 1) := by decide +kernel
theorem dX11_about_113 : decode cX11_about 113 = .ok (.ireturn, 1) := by decide +kernel
theorem dX11_startAnew_0 : decode cX11_startAnew 0 = .ok (.iconst 0, 1) := by decide +kernel
theorem dX11_startAnew_1 : decode cX11_startAnew 1 = .ok (.istore_n 1, 1) := by decide +kernel
theorem dX11_startAnew_2 : decode cX11_startAnew 2 = .ok (.iload_n 1, 1) := by decide +kernel
theorem dX11_startAnew_3 : decode cX11_startAnew 3 = .ok (.iconst 5, 1) := by decide +kernel
theorem dX11_startAnew_4 : decode cX11_startAnew 4 = .ok (.if_icmp .ge 23, 3) := by decide +kernel
theorem dX11_startAnew_7 : decode cX11_startAnew 7 = .ok (.aload_n 0, 1) := by decide +kernel
theorem dX11_startAnew_8 : decode cX11_startAnew 8 = .ok (.getfield 80, 3) := by decide +kernel
theorem dX11_startAnew_11 : decode cX11_startAnew 11 = .ok (.iload_n 1, 1) := by decide +kernel
theorem dX11_startAnew_12 : decode cX11_startAnew 12 = .ok (.iconst (-1), 1) := by decide +kernel
theorem dX11_startAnew_13 : decode cX11_startAnew 13 = .ok (.iastore, 1) := by decide +kernel
theorem dX11_startAnew_14 : decode cX11_startAnew 14 = .ok (.aload_n 0, 1) := by decide +kernel
theorem dX11_startAnew_15 : decode cX11_startAnew 15 = .ok (.getfield 84, 3) := by decide +kernel
theorem dX11_startAnew_18 : decode cX11_startAnew 18 = .ok (.iload_n 1, 1) := by decide +kernel
theorem dX11_startAnew_19 : decode cX11_startAnew 19 = .ok (.iconst (-1), 1) := by decide +kernel
theorem dX11_startAnew_20 : decode cX11_startAnew 20 = .ok (.iastore, 1) := by decide +kernel
theorem dX11_startAnew_21 : decode cX11_startAnew 21 = .ok (.iinc 1 1, 3) := by decide +kernel
theorem dX11_startAnew_24 : decode cX11_startAnew 24 = .ok (.goto (-22), 3) := by decide +kernel
theorem dX11_startAnew_27 : decode cX11_startAnew 27 = .ok (.aload_n 0, 1) := by decide +kernel
theorem dX11_startAnew_28 : decode cX11_startAnew 28 = .ok (.getfield 76, 3) := by decide +kernel
theorem dX11_startAnew_31 : decode cX11_startAnew 31 = .ok (.iconst 0, 1) := by decide +kernel
theorem dX11_startAnew_32 : decode cX11_startAnew 32 = .ok (.putfield 258, 3) := by decide +kernel
theorem dX11_startAnew_35 : decode cX11_startAnew 35 = .ok (.aload_n 0, 1) := by decide +kernel
theorem dX11_startAnew_36 : decode cX11_startAnew 36 = .ok (.getfield 62, 3) := by decide +kernel
theorem dX11_startAnew_39 : decode cX11_startAnew 39 = .ok (.iconst 0, 1) := by decide +kernel
theorem dX11_startAnew_40 : decode cX11_startAnew 40 = .ok (.putfield 195, 3) := by decide +kernel
theorem dX11_startAnew_43 : decode cX11_startAnew 43 = .ok (.aload_n 0, 1) := by decide +kernel
theorem dX11_startAnew_44 : decode cX11_startAnew 44 = .ok (.iconst (-1), 1) := by decide +kernel
theorem dX11_startAnew_45 : decode cX11_startAnew 45 = .ok (.putfield 165, 3) := by decide +kernel
theorem dX11_startAnew_48 : decode cX11_startAnew 48 = .ok (.aload_n 0, 1) := by decide +kernel
theorem dX11_startAnew_49 : decode cX11_startAnew 49 = .ok (.iconst 0, 1) := by decide +kernel
theorem dX11_startAnew_50 : decode cX11_startAnew 50 = .ok (.putfield 168, 3) := by decide +kernel
theorem dX11_startAnew_53 : decode cX11_startAnew 53 = .ok (.aload_n 0, 1) := by decide +kernel
theorem dX11_startAnew_54 : decode cX11_startAnew 54 = .ok (.getfield 37, 3) := by decide +kernel
theorem dX11_startAnew_57 : decode cX11_startAnew 57 = .ok (.invokevirtual 159, 3) := by decide +kernel
theorem dX11_startAnew_60 : decode cX11_startAnew 60 = .ok (.aload_n 0, 1) := by decide +kernel
theorem dX11_startAnew_61 : decode cX11_startAnew 61 = .ok (.invokevirtual 151, 3) := by decide +kernel
theorem dX11_startAnew_64 : decode cX11_startAnew 64 = .ok (.pop, 1) := by decide +kernel
theorem dX11_startAnew_65 : decode cX11_startAnew 65 = .ok (.return_, 1) := by decide +kernel
theorem dX11_settleInView_0 : decode cX11_settleInView 0 = .ok (.aload_n 0, 1) := by decide +kernel
theorem dX11_settleInView_1 : decode cX11_settleInView 1 = .ok (.aload_n 0, 1) := by decide +kernel
theorem dX11_settleInView_2 : decode cX11_settleInView 2 = .ok (.getfield 37, 3) := by decide +kernel
theorem dX11_settleInView_5 : decode cX11_settleInView 5 = .ok (.aload_n 0, 1) := by decide +kernel
theorem dX11_settleInView_6 : decode cX11_settleInView 6 = .ok (.getfield 165, 3) := by decide +kernel
theorem dX11_settleInView_9 : decode cX11_settleInView 9 = .ok (.invokevirtual 260, 3) := by decide +kernel
theorem dX11_settleInView_12 : decode cX11_settleInView 12 = .ok (.putfield 165, 3) := by decide +kernel
theorem dX11_settleInView_15 : decode cX11_settleInView 15 = .ok (.aload_n 0, 1) := by decide +kernel
theorem dX11_settleInView_16 : decode cX11_settleInView 16 = .ok (.getfield 69, 3) := by decide +kernel
theorem dX11_settleInView_19 : decode cX11_settleInView 19 = .ok (.iconst 0, 1) := by decide +kernel
theorem dX11_settleInView_20 : decode cX11_settleInView 20 = .ok (.putfield 259, 3) := by decide +kernel
theorem dX11_settleInView_23 : decode cX11_settleInView 23 = .ok (.aload_n 0, 1) := by decide +kernel
theorem dX11_settleInView_24 : decode cX11_settleInView 24 = .ok (.getfield 62, 3) := by decide +kernel
theorem dX11_settleInView_27 : decode cX11_settleInView 27 = .ok (.invokevirtual 263, 3) := by decide +kernel
theorem dX11_settleInView_30 : decode cX11_settleInView 30 = .ok (.aload_n 0, 1) := by decide +kernel
theorem dX11_settleInView_31 : decode cX11_settleInView 31 = .ok (.getfield 37, 3) := by decide +kernel
theorem dX11_settleInView_34 : decode cX11_settleInView 34 = .ok (.getfield 255, 3) := by decide +kernel
theorem dX11_settleInView_37 : decode cX11_settleInView 37 = .ok (.ireturn, 1) := by decide +kernel
theorem dX11_searchWaysTo_0 : decode cX11_searchWaysTo 0 = .ok (.aload_n 0, 1) := by decide +kernel
theorem dX11_searchWaysTo_1 : decode cX11_searchWaysTo 1 = .ok (.getfield 46, 3) := by decide +kernel
theorem dX11_searchWaysTo_4 : decode cX11_searchWaysTo 4 = .ok (.aload_n 0, 1) := by decide +kernel
theorem dX11_searchWaysTo_5 : decode cX11_searchWaysTo 5 = .ok (.getfield 165, 3) := by decide +kernel
theorem dX11_searchWaysTo_8 : decode cX11_searchWaysTo 8 = .ok (.aload_n 0, 1) := by decide +kernel
theorem dX11_searchWaysTo_9 : decode cX11_searchWaysTo 9 = .ok (.getfield 168, 3) := by decide +kernel
theorem dX11_searchWaysTo_12 : decode cX11_searchWaysTo 12 = .ok (.invokevirtual 171, 3) := by decide +kernel
theorem dX11_searchWaysTo_15 : decode cX11_searchWaysTo 15 = .ok (.istore_n 3, 1) := by decide +kernel
theorem dX11_searchWaysTo_16 : decode cX11_searchWaysTo 16 = .ok (.aload_n 0, 1) := by decide +kernel
theorem dX11_searchWaysTo_17 : decode cX11_searchWaysTo 17 = .ok (.getfield 46, 3) := by decide +kernel
theorem dX11_searchWaysTo_20 : decode cX11_searchWaysTo 20 = .ok (.iload_n 1, 1) := by decide +kernel
theorem dX11_searchWaysTo_21 : decode cX11_searchWaysTo 21 = .ok (.iload_n 2, 1) := by decide +kernel
theorem dX11_searchWaysTo_22 : decode cX11_searchWaysTo 22 = .ok (.invokevirtual 171, 3) := by decide +kernel
theorem dX11_searchWaysTo_25 : decode cX11_searchWaysTo 25 = .ok (.istore 4, 2) := by decide +kernel
theorem dX11_searchWaysTo_27 : decode cX11_searchWaysTo 27 = .ok (.iload_n 3, 1) := by decide +kernel
theorem dX11_searchWaysTo_28 : decode cX11_searchWaysTo 28 = .ok (.iconst (-1), 1) := by decide +kernel
theorem dX11_searchWaysTo_29 : decode cX11_searchWaysTo 29 = .ok (.if_icmp .eq 9, 3) := by decide +kernel
theorem dX11_searchWaysTo_38 : decode cX11_searchWaysTo 38 = .ok (.iconst (-1), 1) := by decide +kernel
theorem dX11_searchWaysTo_39 : decode cX11_searchWaysTo 39 = .ok (.ireturn, 1) := by decide +kernel
theorem dX11_changeCell_0 : decode cX11_changeCell 0 = .ok (.aload_n 0, 1) := by decide +kernel
theorem dX11_changeCell_1 : decode cX11_changeCell 1 = .ok (.getfield 28, 3) := by decide +kernel
theorem dX11_changeCell_4 : decode cX11_changeCell 4 = .ok (.iload_n 1, 1) := by decide +kernel
theorem dX11_changeCell_5 : decode cX11_changeCell 5 = .ok (.iload_n 2, 1) := by decide +kernel
theorem dX11_changeCell_6 : decode cX11_changeCell 6 = .ok (.invokevirtual 276, 3) := by decide +kernel
theorem dX11_changeCell_9 : decode cX11_changeCell 9 = .ok (.istore 5, 2) := by decide +kernel
theorem dX11_changeCell_11 : decode cX11_changeCell 11 = .ok (.iload 5, 2) := by decide +kernel
theorem dX11_changeCell_13 : decode cX11_changeCell 13 = .ok (.iconst (-1), 1) := by decide +kernel
theorem dX11_changeCell_14 : decode cX11_changeCell 14 = .ok (.if_icmp .eq 15, 3) := by decide +kernel
theorem dX11_changeCell_29 : decode cX11_changeCell 29 = .ok (.iconst (-1), 1) := by decide +kernel
theorem dX11_changeCell_30 : decode cX11_changeCell 30 = .ok (.ireturn, 1) := by decide +kernel
theorem dX12_sign_0 : decode cX12_sign 0 = .ok (.iload_n 1, 1) := by decide +kernel
theorem dX12_sign_1 : decode cX12_sign 1 = .ok (.aload_n 0, 1) := by decide +kernel
theorem dX12_sign_2 : decode cX12_sign 2 = .ok (.getfield 1, 3) := by decide +kernel
theorem dX12_sign_5 : decode cX12_sign 5 = .ok (.if_icmp .ge 16, 3) := by decide +kernel
theorem dX12_sign_21 : decode cX12_sign 21 = .ok (.iconst 0, 1) := by decide +kernel
theorem dX12_sign_22 : decode cX12_sign 22 = .ok (.ireturn, 1) := by decide +kernel
theorem dX12_isGood_0 : decode cX12_isGood 0 = .ok (.aload_n 0, 1) := by decide +kernel
theorem dX12_isGood_1 : decode cX12_isGood 1 = .ok (.getfield 11, 3) := by decide +kernel
theorem dX12_isGood_4 : decode cX12_isGood 4 = .ok (.ifCond .ne 7, 3) := by decide +kernel
theorem dX12_isGood_7 : decode cX12_isGood 7 = .ok (.iconst 1, 1) := by decide +kernel
theorem dX12_isGood_8 : decode cX12_isGood 8 = .ok (.goto 4, 3) := by decide +kernel
theorem dX12_isGood_12 : decode cX12_isGood 12 = .ok (.ireturn, 1) := by decide +kernel
theorem dX12_next_0 : decode cX12_next 0 = .ok (.aload_n 0, 1) := by decide +kernel
theorem dX12_next_1 : decode cX12_next 1 = .ok (.aload_n 0, 1) := by decide +kernel
theorem dX12_next_2 : decode cX12_next 2 = .ok (.getfield 17, 3) := by decide +kernel
theorem dX12_next_5 : decode cX12_next 5 = .ok (.putfield 20, 3) := by decide +kernel
theorem dX12_next_8 : decode cX12_next 8 = .ok (.aload_n 0, 1) := by decide +kernel
theorem dX12_next_9 : decode cX12_next 9 = .ok (.getfield 20, 3) := by decide +kernel
theorem dX12_next_12 : decode cX12_next 12 = .ok (.aload_n 0, 1) := by decide +kernel
theorem dX12_next_13 : decode cX12_next 13 = .ok (.getfield 1, 3) := by decide +kernel
theorem dX12_next_16 : decode cX12_next 16 = .ok (.if_icmp .ge 42, 3) := by decide +kernel
theorem dX12_next_58 : decode cX12_next 58 = .ok (.aload_n 0, 1) := by decide +kernel
theorem dX12_next_59 : decode cX12_next 59 = .ok (.aload_n 0, 1) := by decide +kernel
theorem dX12_next_60 : decode cX12_next 60 = .ok (.getfield 20, 3) := by decide +kernel
theorem dX12_next_63 : decode cX12_next 63 = .ok (.invokevirtual 23, 3) := by decide +kernel
theorem dX12_next_66 : decode cX12_next 66 = .ok (.istore_n 1, 1) := by decide +kernel
theorem dX12_next_67 : decode cX12_next 67 = .ok (.aload_n 0, 1) := by decide +kernel
theorem dX12_next_68 : decode cX12_next 68 = .ok (.aload_n 0, 1) := by decide +kernel
theorem dX12_next_69 : decode cX12_next 69 = .ok (.getfield 20, 3) := by decide +kernel
theorem dX12_next_72 : decode cX12_next 72 = .ok (.iconst 1, 1) := by decide +kernel
theorem dX12_next_73 : decode cX12_next 73 = .ok (.iadd, 1) := by decide +kernel
theorem dX12_next_74 : decode cX12_next 74 = .ok (.putfield 17, 3) := by decide +kernel
theorem dX12_next_77 : decode cX12_next 77 = .ok (.aload_n 0, 1) := by decide +kernel
theorem dX12_next_78 : decode cX12_next 78 = .ok (.getfield 20, 3) := by decide +kernel
theorem dX12_next_81 : decode cX12_next 81 = .ok (.aload_n 0, 1) := by decide +kernel
theorem dX12_next_82 : decode cX12_next 82 = .ok (.getfield 1, 3) := by decide +kernel
theorem dX12_next_85 : decode cX12_next 85 = .ok (.if_icmp .lt 27, 3) := by decide +kernel
theorem dX12_next_88 : decode cX12_next 88 = .ok (.aload_n 0, 1) := by decide +kernel
theorem dX12_next_89 : decode cX12_next 89 = .ok (.iconst 0, 1) := by decide +kernel
theorem dX12_next_90 : decode cX12_next 90 = .ok (.putfield 27, 3) := by decide +kernel
theorem dX12_next_93 : decode cX12_next 93 = .ok (.aload_n 0, 1) := by decide +kernel
theorem dX12_next_94 : decode cX12_next 94 = .ok (.aload_n 0, 1) := by decide +kernel
theorem dX12_next_95 : decode cX12_next 95 = .ok (.getfield 1, 3) := by decide +kernel
theorem dX12_next_98 : decode cX12_next 98 = .ok (.putfield 20, 3) := by decide +kernel
theorem dX12_next_101 : decode cX12_next 101 = .ok (.aload_n 0, 1) := by decide +kernel
theorem dX12_next_102 : decode cX12_next 102 = .ok (.aload_n 0, 1) := by decide +kernel
theorem dX12_next_103 : decode cX12_next 103 = .ok (.getfield 1, 3) := by decide +kernel
theorem dX12_next_106 : decode cX12_next 106 = .ok (.putfield 17, 3) := by decide +kernel
theorem dX12_next_109 : decode cX12_next 109 = .ok (.goto 240, 3) := by decide +kernel
theorem dX12_next_349 : decode cX12_next 349 = .ok (.return_, 1) := by decide +kernel
theorem dX12_table_0 : decode cX12_table 0 = .ok (.aload_n 0, 1) := by decide +kernel
theorem dX12_table_1 : decode cX12_table 1 = .ok (.iconst 0, 1) := by decide +kernel
theorem dX12_table_2 : decode cX12_table 2 = .ok (.putfield 11, 3) := by decide +kernel
theorem dX12_table_5 : decode cX12_table 5 = .ok (.aload_n 0, 1) := by decide +kernel
theorem dX12_table_6 : decode cX12_table 6 = .ok (.iconst (-1), 1) := by decide +kernel
theorem dX12_table_7 : decode cX12_table 7 = .ok (.putfield 14, 3) := by decide +kernel
theorem dX12_table_10 : decode cX12_table 10 = .ok (.aload_n 0, 1) := by decide +kernel
theorem dX12_table_11 : decode cX12_table 11 = .ok (.aload_n 0, 1) := by decide +kernel
theorem dX12_table_12 : decode cX12_table 12 = .ok (.getfield 58, 3) := by decide +kernel
theorem dX12_table_15 : decode cX12_table 15 = .ok (.putfield 1, 3) := by decide +kernel
theorem dX12_table_18 : decode cX12_table 18 = .ok (.iconst 0, 1) := by decide +kernel
theorem dX12_table_19 : decode cX12_table 19 = .ok (.istore_n 1, 1) := by decide +kernel
theorem dX12_table_20 : decode cX12_table 20 = .ok (.iload_n 1, 1) := by decide +kernel
theorem dX12_table_21 : decode cX12_table 21 = .ok (.aload_n 0, 1) := by decide +kernel
theorem dX12_table_22 : decode cX12_table 22 = .ok (.getfield 1, 3) := by decide +kernel
theorem dX12_table_25 : decode cX12_table 25 = .ok (.if_icmp .ge 21, 3) := by decide +kernel
theorem dX12_table_46 : decode cX12_table 46 = .ok (.aload_n 0, 1) := by decide +kernel
theorem dX12_table_47 : decode cX12_table 47 = .ok (.iconst 0, 1) := by decide +kernel
theorem dX12_table_48 : decode cX12_table 48 = .ok (.putfield 58, 3) := by decide +kernel
theorem dX12_table_51 : decode cX12_table 51 = .ok (.aload_n 0, 1) := by decide +kernel
theorem dX12_table_52 : decode cX12_table 52 = .ok (.iconst 0, 1) := by decide +kernel
theorem dX12_table_53 : decode cX12_table 53 = .ok (.putfield 17, 3) := by decide +kernel
theorem dX12_table_56 : decode cX12_table 56 = .ok (.aload_n 0, 1) := by decide +kernel
theorem dX12_table_57 : decode cX12_table 57 = .ok (.iconst 1, 1) := by decide +kernel
theorem dX12_table_58 : decode cX12_table 58 = .ok (.aload_n 0, 1) := by decide +kernel
theorem dX12_table_59 : decode cX12_table 59 = .ok (.getfield 64, 3) := by decide +kernel
theorem dX12_table_62 : decode cX12_table 62 = .ok (.isub, 1) := by decide +kernel
theorem dX12_table_63 : decode cX12_table 63 = .ok (.putfield 67, 3) := by decide +kernel
theorem dX12_table_66 : decode cX12_table 66 = .ok (.aload_n 0, 1) := by decide +kernel
theorem dX12_table_67 : decode cX12_table 67 = .ok (.getfield 70, 3) := by decide +kernel
theorem dX12_table_70 : decode cX12_table 70 = .ok (.aload_n 0, 1) := by decide +kernel
theorem dX12_table_71 : decode cX12_table 71 = .ok (.getfield 67, 3) := by decide +kernel
theorem dX12_table_74 : decode cX12_table 74 = .ok (.iconst 0, 1) := by decide +kernel
theorem dX12_table_75 : decode cX12_table 75 = .ok (.iastore, 1) := by decide +kernel
theorem dX12_table_76 : decode cX12_table 76 = .ok (.aload_n 0, 1) := by decide +kernel
theorem dX12_table_77 : decode cX12_table 77 = .ok (.getfield 74, 3) := by decide +kernel
theorem dX12_table_80 : decode cX12_table 80 = .ok (.aload_n 0, 1) := by decide +kernel
theorem dX12_table_81 : decode cX12_table 81 = .ok (.getfield 67, 3) := by decide +kernel
theorem dX12_table_84 : decode cX12_table 84 = .ok (.iconst 0, 1) := by decide +kernel
theorem dX12_table_85 : decode cX12_table 85 = .ok (.iastore, 1) := by decide +kernel
theorem dX12_table_86 : decode cX12_table 86 = .ok (.aload_n 0, 1) := by decide +kernel
theorem dX12_table_87 : decode cX12_table 87 = .ok (.getfield 77, 3) := by decide +kernel
theorem dX12_table_90 : decode cX12_table 90 = .ok (.aload_n 0, 1) := by decide +kernel
theorem dX12_table_91 : decode cX12_table 91 = .ok (.getfield 67, 3) := by decide +kernel
theorem dX12_table_94 : decode cX12_table 94 = .ok (.iconst 0, 1) := by decide +kernel
theorem dX12_table_95 : decode cX12_table 95 = .ok (.iastore, 1) := by decide +kernel
theorem dX12_table_96 : decode cX12_table 96 = .ok (.aload_n 0, 1) := by decide +kernel
theorem dX12_table_97 : decode cX12_table 97 = .ok (.iconst 0, 1) := by decide +kernel
theorem dX12_table_98 : decode cX12_table 98 = .ok (.putfield 80, 3) := by decide +kernel
theorem dX12_table_101 : decode cX12_table 101 = .ok (.aload_n 0, 1) := by decide +kernel
theorem dX12_table_102 : decode cX12_table 102 = .ok (.invokevirtual 84, 3) := by decide +kernel
theorem dX12_table_105 : decode cX12_table 105 = .ok (.aload_n 0, 1) := by decide +kernel
theorem dX12_table_106 : decode cX12_table 106 = .ok (.invokevirtual 88, 3) := by decide +kernel
theorem dX12_table_109 : decode cX12_table 109 = .ok (.ifCond .eq 17, 3) := by decide +kernel
theorem dX12_table_112 : decode cX12_table 112 = .ok (.aload_n 0, 1) := by decide +kernel
theorem dX12_table_113 : decode cX12_table 113 = .ok (.getfield 27, 3) := by decide +kernel
theorem dX12_table_116 : decode cX12_table 116 = .ok (.ifCond .eq 10, 3) := by decide +kernel
theorem dX12_table_126 : decode cX12_table 126 = .ok (.aload_n 0, 1) := by decide +kernel
theorem dX12_table_127 : decode cX12_table 127 = .ok (.invokevirtual 88, 3) := by decide +kernel
theorem dX12_table_130 : decode cX12_table 130 = .ok (.ifCond .ne 5, 3) := by decide +kernel
theorem dX12_table_135 : decode cX12_table 135 = .ok (.aload_n 0, 1) := by decide +kernel
theorem dX12_table_136 : decode cX12_table 136 = .ok (.aload_n 0, 1) := by decide +kernel
theorem dX12_table_137 : decode cX12_table 137 = .ok (.getfield 67, 3) := by decide +kernel
theorem dX12_table_140 : decode cX12_table 140 = .ok (.putfield 64, 3) := by decide +kernel
theorem dX12_table_143 : decode cX12_table 143 = .ok (.aload_n 0, 1) := by decide +kernel
theorem dX12_table_144 : decode cX12_table 144 = .ok (.iconst 0, 1) := by decide +kernel
theorem dX12_table_145 : decode cX12_table 145 = .ok (.putfield 95, 3) := by decide +kernel
theorem dX12_table_148 : decode cX12_table 148 = .ok (.aload_n 0, 1) := by decide +kernel
theorem dX12_table_149 : decode cX12_table 149 = .ok (.iconst 0, 1) := by decide +kernel
theorem dX12_table_150 : decode cX12_table 150 = .ok (.putfield 98, 3) := by decide +kernel
theorem dX12_table_153 : decode cX12_table 153 = .ok (.aload_n 0, 1) := by decide +kernel
theorem dX12_table_154 : decode cX12_table 154 = .ok (.iconst 0, 1) := by decide +kernel
theorem dX12_table_155 : decode cX12_table 155 = .ok (.putfield 101, 3) := by decide +kernel
theorem dX12_table_158 : decode cX12_table 158 = .ok (.aload_n 0, 1) := by decide +kernel
theorem dX12_table_159 : decode cX12_table 159 = .ok (.iconst (-1), 1) := by decide +kernel
theorem dX12_table_160 : decode cX12_table 160 = .ok (.putfield 104, 3) := by decide +kernel
theorem dX12_table_163 : decode cX12_table 163 = .ok (.iconst 0, 1) := by decide +kernel
theorem dX12_table_164 : decode cX12_table 164 = .ok (.istore_n 1, 1) := by decide +kernel
theorem dX12_table_165 : decode cX12_table 165 = .ok (.iload_n 1, 1) := by decide +kernel
theorem dX12_table_166 : decode cX12_table 166 = .ok (.iconst 5, 1) := by decide +kernel
theorem dX12_table_167 : decode cX12_table 167 = .ok (.if_icmp .ge 16, 3) := by decide +kernel
theorem dX12_table_170 : decode cX12_table 170 = .ok (.aload_n 0, 1) := by decide +kernel
theorem dX12_table_171 : decode cX12_table 171 = .ok (.getfield 107, 3) := by decide +kernel
theorem dX12_table_174 : decode cX12_table 174 = .ok (.iload_n 1, 1) := by decide +kernel
theorem dX12_table_175 : decode cX12_table 175 = .ok (.iconst (-1), 1) := by decide +kernel
theorem dX12_table_176 : decode cX12_table 176 = .ok (.iastore, 1) := by decide +kernel
theorem dX12_table_177 : decode cX12_table 177 = .ok (.iinc 1 1, 3) := by decide +kernel
theorem dX12_table_180 : decode cX12_table 180 = .ok (.goto (-15), 3) := by decide +kernel
theorem dX12_table_183 : decode cX12_table 183 = .ok (.iconst 0, 1) := by decide +kernel
theorem dX12_table_184 : decode cX12_table 184 = .ok (.istore_n 1, 1) := by decide +kernel
theorem dX12_table_185 : decode cX12_table 185 = .ok (.iload_n 1, 1) := by decide +kernel
theorem dX12_table_186 : decode cX12_table 186 = .ok (.aload_n 0, 1) := by decide +kernel
theorem dX12_table_187 : decode cX12_table 187 = .ok (.getfield 74, 3) := by decide +kernel
theorem dX12_table_190 : decode cX12_table 190 = .ok (.aload_n 0, 1) := by decide +kernel
theorem dX12_table_191 : decode cX12_table 191 = .ok (.getfield 64, 3) := by decide +kernel
theorem dX12_table_194 : decode cX12_table 194 = .ok (.iaload, 1) := by decide +kernel
theorem dX12_table_195 : decode cX12_table 195 = .ok (.if_icmp .ge 16, 3) := by decide +kernel
theorem dX12_table_211 : decode cX12_table 211 = .ok (.aload_n 0, 1) := by decide +kernel
theorem dX12_table_212 : decode cX12_table 212 = .ok (.aload_n 0, 1) := by decide +kernel
theorem dX12_table_213 : decode cX12_table 213 = .ok (.getfield 74, 3) := by decide +kernel
theorem dX12_table_216 : decode cX12_table 216 = .ok (.aload_n 0, 1) := by decide +kernel
theorem dX12_table_217 : decode cX12_table 217 = .ok (.getfield 64, 3) := by decide +kernel
theorem dX12_table_220 : decode cX12_table 220 = .ok (.iaload, 1) := by decide +kernel
theorem dX12_table_221 : decode cX12_table 221 = .ok (.putfield 113, 3) := by decide +kernel
theorem dX12_table_224 : decode cX12_table 224 = .ok (.aload_n 0, 1) := by decide +kernel
theorem dX12_table_225 : decode cX12_table 225 = .ok (.aload_n 0, 1) := by decide +kernel
theorem dX12_table_226 : decode cX12_table 226 = .ok (.getfield 113, 3) := by decide +kernel
theorem dX12_table_229 : decode cX12_table 229 = .ok (.ifCond .le 7, 3) := by decide +kernel
theorem dX12_table_236 : decode cX12_table 236 = .ok (.iconst (-1), 1) := by decide +kernel
theorem dX12_table_237 : decode cX12_table 237 = .ok (.putfield 116, 3) := by decide +kernel
theorem dX12_table_240 : decode cX12_table 240 = .ok (.aload_n 0, 1) := by decide +kernel
theorem dX12_table_241 : decode cX12_table 241 = .ok (.iconst 0, 1) := by decide +kernel
theorem dX12_table_242 : decode cX12_table 242 = .ok (.putfield 119, 3) := by decide +kernel
theorem dX12_table_245 : decode cX12_table 245 = .ok (.aload_n 0, 1) := by decide +kernel
theorem dX12_table_246 : decode cX12_table 246 = .ok (.getfield 74, 3) := by decide +kernel
theorem dX12_table_249 : decode cX12_table 249 = .ok (.aload_n 0, 1) := by decide +kernel
theorem dX12_table_250 : decode cX12_table 250 = .ok (.getfield 64, 3) := by decide +kernel
theorem dX12_table_253 : decode cX12_table 253 = .ok (.iaload, 1) := by decide +kernel
theorem dX12_table_254 : decode cX12_table 254 = .ok (.ireturn, 1) := by decide +kernel
theorem dX12_fault_0 : decode cX12_fault 0 = .ok (.iload_n 1, 1) := by decide +kernel
theorem dX12_fault_1 : decode cX12_fault 1 = .ok (.ifCond .ne 10, 3) := by decide +kernel
theorem dX12_fault_4 : decode cX12_fault 4 = .ok (.aload_n 0, 1) := by decide +kernel
theorem dX12_fault_5 : decode cX12_fault 5 = .ok (.getfield 11, 3) := by decide +kernel
theorem dX12_fault_8 : decode cX12_fault 8 = .ok (.goto 16, 3) := by decide +kernel
theorem dX12_fault_11 : decode cX12_fault 11 = .ok (.iload_n 1, 1) := by decide +kernel
theorem dX12_fault_12 : decode cX12_fault 12 = .ok (.iconst 1, 1) := by decide +kernel
theorem dX12_fault_13 : decode cX12_fault 13 = .ok (.if_icmp .ne 10, 3) := by decide +kernel
theorem dX12_fault_16 : decode cX12_fault 16 = .ok (.aload_n 0, 1) := by decide +kernel
theorem dX12_fault_17 : decode cX12_fault 17 = .ok (.getfield 14, 3) := by decide +kernel
theorem dX12_fault_20 : decode cX12_fault 20 = .ok (.goto 4, 3) := by decide +kernel
theorem dX12_fault_23 : decode cX12_fault 23 = .ok (.iconst (-1), 1) := by decide +kernel
theorem dX12_fault_24 : decode cX12_fault 24 = .ok (.ireturn, 1) := by decide +kernel
theorem dX12_isColumn_0 : decode cX12_isColumn 0 = .ok (.iload_n 1, 1) := by decide +kernel
theorem dX12_isColumn_1 : decode cX12_isColumn 1 = .ok (.ifCond .lt 20, 3) := by decide +kernel
theorem dX12_isColumn_4 : decode cX12_isColumn 4 = .ok (.iload_n 1, 1) := by decide +kernel
theorem dX12_isColumn_5 : decode cX12_isColumn 5 = .ok (.aload_n 0, 1) := by decide +kernel
