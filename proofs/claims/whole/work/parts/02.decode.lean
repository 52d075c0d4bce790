theorem dX12_isIn_0 : decode cX12_isIn 0 = .ok (.lload_n 1, 1) := by decide +kernel
theorem dX12_isIn_1 : decode cX12_isIn 1 = .ok (.lload_n 3, 1) := by decide +kernel
theorem dX12_isIn_2 : decode cX12_isIn 2 = .ok (.lcmp, 1) := by decide +kernel
theorem dX12_isIn_3 : decode cX12_isIn 3 = .ok (.ifCond .lt 14, 3) := by decide +kernel
theorem dX12_isIn_6 : decode cX12_isIn 6 = .ok (.lload_n 1, 1) := by decide +kernel
theorem dX12_isIn_7 : decode cX12_isIn 7 = .ok (.lload 5, 2) := by decide +kernel
theorem dX12_isIn_9 : decode cX12_isIn 9 = .ok (.lcmp, 1) := by decide +kernel
theorem dX12_isIn_10 : decode cX12_isIn 10 = .ok (.ifCond .gt 7, 3) := by decide +kernel
theorem dX12_isIn_13 : decode cX12_isIn 13 = .ok (.iconst 1, 1) := by decide +kernel
theorem dX12_isIn_14 : decode cX12_isIn 14 = .ok (.goto 4, 3) := by decide +kernel
theorem dX12_isIn_17 : decode cX12_isIn 17 = .ok (.iconst 0, 1) := by decide +kernel
theorem dX12_isIn_18 : decode cX12_isIn 18 = .ok (.ireturn, 1) := by decide +kernel
theorem dX12_isSlot_0 : decode cX12_isSlot 0 = .ok (.aload_n 0, 1) := by decide +kernel
theorem dX12_isSlot_1 : decode cX12_isSlot 1 = .ok (.iload_n 1, 1) := by decide +kernel
theorem dX12_isSlot_2 : decode cX12_isSlot 2 = .ok (.i2l, 1) := by decide +kernel
theorem dX12_isSlot_3 : decode cX12_isSlot 3 = .ok (.lconst 0, 1) := by decide +kernel
theorem dX12_isSlot_4 : decode cX12_isSlot 4 = .ok (.ldc2_w 512, 3) := by decide +kernel
theorem dX12_isSlot_7 : decode cX12_isSlot 7 = .ok (.invokevirtual 153, 3) := by decide +kernel
theorem dX12_isSlot_10 : decode cX12_isSlot 10 = .ok (.ireturn, 1) := by decide +kernel
theorem dX12_isSide_0 : decode cX12_isSide 0 = .ok (.aload_n 0, 1) := by decide +kernel
theorem dX12_isSide_1 : decode cX12_isSide 1 = .ok (.iload_n 1, 1) := by decide +kernel
theorem dX12_isSide_2 : decode cX12_isSide 2 = .ok (.i2l, 1) := by decide +kernel
theorem dX12_isSide_3 : decode cX12_isSide 3 = .ok (.lconst 0, 1) := by decide +kernel
theorem dX12_isSide_4 : decode cX12_isSide 4 = .ok (.lconst 1, 1) := by decide +kernel
theorem dX12_isSide_5 : decode cX12_isSide 5 = .ok (.invokevirtual 153, 3) := by decide +kernel
theorem dX12_isSide_8 : decode cX12_isSide 8 = .ok (.ireturn, 1) := by decide +kernel
theorem dX12_isLens_0 : decode cX12_isLens 0 = .ok (.aload_n 0, 1) := by decide +kernel
theorem dX12_isLens_1 : decode cX12_isLens 1 = .ok (.iload_n 1, 1) := by decide +kernel
theorem dX12_isLens_2 : decode cX12_isLens 2 = .ok (.i2l, 1) := by decide +kernel
theorem dX12_isLens_3 : decode cX12_isLens 3 = .ok (.lconst 0, 1) := by decide +kernel
theorem dX12_isLens_4 : decode cX12_isLens 4 = .ok (.aload_n 0, 1) := by decide +kernel
theorem dX12_isLens_5 : decode cX12_isLens 5 = .ok (.getfield 506, 3) := by decide +kernel
theorem dX12_isLens_8 : decode cX12_isLens 8 = .ok (.i2l, 1) := by decide +kernel
theorem dX12_isLens_9 : decode cX12_isLens 9 = .ok (.lconst 1, 1) := by decide +kernel
theorem dX12_isLens_10 : decode cX12_isLens 10 = .ok (.lsub, 1) := by decide +kernel
theorem dX12_isLens_11 : decode cX12_isLens 11 = .ok (.invokevirtual 153, 3) := by decide +kernel
theorem dX12_isLens_14 : decode cX12_isLens 14 = .ok (.ireturn, 1) := by decide +kernel
theorem dX12_isRepeated_0 : decode cX12_isRepeated 0 = .ok (.aload_n 0, 1) := by decide +kernel
theorem dX12_isRepeated_1 : decode cX12_isRepeated 1 = .ok (.iload_n 1, 1) := by decide +kernel
theorem dX12_isRepeated_2 : decode cX12_isRepeated 2 = .ok (.invokevirtual 520, 3) := by decide +kernel
theorem dX12_isRepeated_5 : decode cX12_isRepeated 5 = .ok (.ifCond .eq 20, 3) := by decide +kernel
theorem dX12_isRepeated_25 : decode cX12_isRepeated 25 = .ok (.iconst 0, 1) := by decide +kernel
theorem dX12_isRepeated_26 : decode cX12_isRepeated 26 = .ok (.ireturn, 1) := by decide +kernel
theorem dX12_fits_0 : decode cX12_fits 0 = .ok (.aload_n 0, 1) := by decide +kernel
theorem dX12_fits_1 : decode cX12_fits 1 = .ok (.iconst 0, 1) := by decide +kernel
theorem dX12_fits_2 : decode cX12_fits 2 = .ok (.putfield 142, 3) := by decide +kernel
theorem dX12_fits_5 : decode cX12_fits 5 = .ok (.aload_n 0, 1) := by decide +kernel
theorem dX12_fits_6 : decode cX12_fits 6 = .ok (.iload_n 1, 1) := by decide +kernel
theorem dX12_fits_7 : decode cX12_fits 7 = .ok (.invokevirtual 520, 3) := by decide +kernel
theorem dX12_fits_10 : decode cX12_fits 10 = .ok (.ifCond .eq 19, 3) := by decide +kernel
theorem dX12_fits_29 : decode cX12_fits 29 = .ok (.iconst (-1), 1) := by decide +kernel
theorem dX12_fits_30 : decode cX12_fits 30 = .ok (.ireturn, 1) := by decide +kernel
theorem dX12_get_0 : decode cX12_get 0 = .ok (.aload_n 0, 1) := by decide +kernel
theorem dX12_get_1 : decode cX12_get 1 = .ok (.iconst 0, 1) := by decide +kernel
theorem dX12_get_2 : decode cX12_get 2 = .ok (.putfield 142, 3) := by decide +kernel
theorem dX12_get_5 : decode cX12_get 5 = .ok (.aload_n 0, 1) := by decide +kernel
theorem dX12_get_6 : decode cX12_get 6 = .ok (.iload_n 1, 1) := by decide +kernel
theorem dX12_get_7 : decode cX12_get 7 = .ok (.invokevirtual 520, 3) := by decide +kernel
theorem dX12_get_10 : decode cX12_get 10 = .ok (.ifCond .eq 19, 3) := by decide +kernel
theorem dX12_get_29 : decode cX12_get 29 = .ok (.iconst (-1), 1) := by decide +kernel
theorem dX12_get_30 : decode cX12_get 30 = .ok (.ireturn, 1) := by decide +kernel
theorem dX12_put_0 : decode cX12_put 0 = .ok (.aload_n 0, 1) := by decide +kernel
theorem dX12_put_1 : decode cX12_put 1 = .ok (.iconst 0, 1) := by decide +kernel
theorem dX12_put_2 : decode cX12_put 2 = .ok (.putfield 142, 3) := by decide +kernel
theorem dX12_put_5 : decode cX12_put 5 = .ok (.aload_n 0, 1) := by decide +kernel
theorem dX12_put_6 : decode cX12_put 6 = .ok (.iload_n 1, 1) := by decide +kernel
theorem dX12_put_7 : decode cX12_put 7 = .ok (.invokevirtual 520, 3) := by decide +kernel
theorem dX12_put_10 : decode cX12_put 10 = .ok (.ifCond .eq 28, 3) := by decide +kernel
theorem dX12_put_38 : decode cX12_put 38 = .ok (.iconst (-1), 1) := by decide +kernel
theorem dX12_put_39 : decode cX12_put 39 = .ok (.ireturn, 1) := by decide +kernel
theorem dX12_create_0 : decode cX12_create 0 = .ok (.aload_n 0, 1) := by decide +kernel
theorem dX12_create_1 : decode cX12_create 1 = .ok (.iconst 0, 1) := by decide +kernel
theorem dX12_create_2 : decode cX12_create 2 = .ok (.putfield 142, 3) := by decide +kernel
theorem dX12_create_5 : decode cX12_create 5 = .ok (.aload_n 0, 1) := by decide +kernel
theorem dX12_create_6 : decode cX12_create 6 = .ok (.iload_n 1, 1) := by decide +kernel
theorem dX12_create_7 : decode cX12_create 7 = .ok (.invokevirtual 520, 3) := by decide +kernel
theorem dX12_create_10 : decode cX12_create 10 = .ok (.ifCond .eq 19, 3) := by decide +kernel
theorem dX12_create_29 : decode cX12_create 29 = .ok (.iconst (-1), 1) := by decide +kernel
theorem dX12_create_30 : decode cX12_create 30 = .ok (.ireturn, 1) := by decide +kernel
theorem dX12_nth_0 : decode cX12_nth 0 = .ok (.aload_n 0, 1) := by decide +kernel
theorem dX12_nth_1 : decode cX12_nth 1 = .ok (.iconst 0, 1) := by decide +kernel
theorem dX12_nth_2 : decode cX12_nth 2 = .ok (.putfield 142, 3) := by decide +kernel
theorem dX12_nth_5 : decode cX12_nth 5 = .ok (.aload_n 0, 1) := by decide +kernel
theorem dX12_nth_6 : decode cX12_nth 6 = .ok (.iload_n 1, 1) := by decide +kernel
theorem dX12_nth_7 : decode cX12_nth 7 = .ok (.invokevirtual 520, 3) := by decide +kernel
theorem dX12_nth_10 : decode cX12_nth 10 = .ok (.ifCond .eq 33, 3) := by decide +kernel
theorem dX12_nth_43 : decode cX12_nth 43 = .ok (.iconst (-1), 1) := by decide +kernel
theorem dX12_nth_44 : decode cX12_nth 44 = .ok (.ireturn, 1) := by decide +kernel
theorem dX12_compare_0 : decode cX12_compare 0 = .ok (.aload_n 0, 1) := by decide +kernel
theorem dX12_compare_1 : decode cX12_compare 1 = .ok (.iconst 0, 1) := by decide +kernel
theorem dX12_compare_2 : decode cX12_compare 2 = .ok (.putfield 142, 3) := by decide +kernel
theorem dX12_compare_5 : decode cX12_compare 5 = .ok (.aload_n 0, 1) := by decide +kernel
theorem dX12_compare_6 : decode cX12_compare 6 = .ok (.iload_n 1, 1) := by decide +kernel
theorem dX12_compare_7 : decode cX12_compare 7 = .ok (.invokevirtual 520, 3) := by decide +kernel
theorem dX12_compare_10 : decode cX12_compare 10 = .ok (.ifCond .eq 28, 3) := by decide +kernel
theorem dX12_compare_38 : decode cX12_compare 38 = .ok (.iconst (-1), 1) := by decide +kernel
theorem dX12_compare_39 : decode cX12_compare 39 = .ok (.ireturn, 1) := by decide +kernel
theorem dX12_set_0 : decode cX12_set 0 = .ok (.aload_n 0, 1) := by decide +kernel
theorem dX12_set_1 : decode cX12_set 1 = .ok (.iconst 0, 1) := by decide +kernel
theorem dX12_set_2 : decode cX12_set 2 = .ok (.putfield 142, 3) := by decide +kernel
theorem dX12_set_5 : decode cX12_set 5 = .ok (.aload_n 0, 1) := by decide +kernel
theorem dX12_set_6 : decode cX12_set 6 = .ok (.iload_n 1, 1) := by decide +kernel
theorem dX12_set_7 : decode cX12_set 7 = .ok (.invokevirtual 520, 3) := by decide +kernel
theorem dX12_set_10 : decode cX12_set 10 = .ok (.ifCond .eq 11, 3) := by decide +kernel
theorem dX12_set_21 : decode cX12_set 21 = .ok (.iconst (-1), 1) := by decide +kernel
theorem dX12_set_22 : decode cX12_set 22 = .ok (.ireturn, 1) := by decide +kernel
theorem dX12_goesOn_0 : decode cX12_goesOn 0 = .ok (.aload_n 0, 1) := by decide +kernel
theorem dX12_goesOn_1 : decode cX12_goesOn 1 = .ok (.iconst 0, 1) := by decide +kernel
theorem dX12_goesOn_2 : decode cX12_goesOn 2 = .ok (.putfield 142, 3) := by decide +kernel
theorem dX12_goesOn_5 : decode cX12_goesOn 5 = .ok (.aload_n 0, 1) := by decide +kernel
theorem dX12_goesOn_6 : decode cX12_goesOn 6 = .ok (.iload_n 1, 1) := by decide +kernel
theorem dX12_goesOn_7 : decode cX12_goesOn 7 = .ok (.invokevirtual 520, 3) := by decide +kernel
theorem dX12_goesOn_10 : decode cX12_goesOn 10 = .ok (.ifCond .eq 19, 3) := by decide +kernel
theorem dX12_goesOn_29 : decode cX12_goesOn 29 = .ok (.iconst (-1), 1) := by decide +kernel
theorem dX12_goesOn_30 : decode cX12_goesOn 30 = .ok (.ireturn, 1) := by decide +kernel
theorem dX12_parts_0 : decode cX12_parts 0 = .ok (.aload_n 0, 1) := by decide +kernel
theorem dX12_parts_1 : decode cX12_parts 1 = .ok (.iconst 0, 1) := by decide +kernel
theorem dX12_parts_2 : decode cX12_parts 2 = .ok (.putfield 142, 3) := by decide +kernel
theorem dX12_parts_5 : decode cX12_parts 5 = .ok (.aload_n 0, 1) := by decide +kernel
theorem dX12_parts_6 : decode cX12_parts 6 = .ok (.iload_n 1, 1) := by decide +kernel
theorem dX12_parts_7 : decode cX12_parts 7 = .ok (.iload_n 2, 1) := by decide +kernel
theorem dX12_parts_8 : decode cX12_parts 8 = .ok (.invokevirtual 556, 3) := by decide +kernel
theorem dX12_parts_11 : decode cX12_parts 11 = .ok (.ifCond .ne 5, 3) := by decide +kernel
theorem dX12_parts_14 : decode cX12_parts 14 = .ok (.iconst (-1), 1) := by decide +kernel
theorem dX12_parts_15 : decode cX12_parts 15 = .ok (.ireturn, 1) := by decide +kernel
theorem dX12_aligned_0 : decode cX12_aligned 0 = .ok (.aload_n 0, 1) := by decide +kernel
theorem dX12_aligned_1 : decode cX12_aligned 1 = .ok (.iconst 0, 1) := by decide +kernel
theorem dX12_aligned_2 : decode cX12_aligned 2 = .ok (.putfield 142, 3) := by decide +kernel
theorem dX12_aligned_5 : decode cX12_aligned 5 = .ok (.aload_n 0, 1) := by decide +kernel
theorem dX12_aligned_6 : decode cX12_aligned 6 = .ok (.iload_n 1, 1) := by decide +kernel
theorem dX12_aligned_7 : decode cX12_aligned 7 = .ok (.iload_n 2, 1) := by decide +kernel
theorem dX12_aligned_8 : decode cX12_aligned 8 = .ok (.invokevirtual 556, 3) := by decide +kernel
theorem dX12_aligned_11 : decode cX12_aligned 11 = .ok (.ifCond .eq 32, 3) := by decide +kernel
theorem dX12_aligned_43 : decode cX12_aligned 43 = .ok (.iconst (-1), 1) := by decide +kernel
theorem dX12_aligned_44 : decode cX12_aligned 44 = .ok (.ireturn, 1) := by decide +kernel
theorem dX12_key_0 : decode cX12_key 0 = .ok (.aload_n 0, 1) := by decide +kernel
theorem dX12_key_1 : decode cX12_key 1 = .ok (.iconst 0, 1) := by decide +kernel
theorem dX12_key_2 : decode cX12_key 2 = .ok (.putfield 142, 3) := by decide +kernel
theorem dX12_key_5 : decode cX12_key 5 = .ok (.aload_n 0, 1) := by decide +kernel
theorem dX12_key_6 : decode cX12_key 6 = .ok (.iload_n 1, 1) := by decide +kernel
theorem dX12_key_7 : decode cX12_key 7 = .ok (.iload_n 2, 1) := by decide +kernel
theorem dX12_key_8 : decode cX12_key 8 = .ok (.invokevirtual 556, 3) := by decide +kernel
theorem dX12_key_11 : decode cX12_key 11 = .ok (.ifCond .eq 16, 3) := by decide +kernel
theorem dX12_key_27 : decode cX12_key 27 = .ok (.iconst (-1), 1) := by decide +kernel
theorem dX12_key_28 : decode cX12_key 28 = .ok (.ireturn, 1) := by decide +kernel
theorem dX12_laws_0 : decode cX12_laws 0 = .ok (.aload_n 0, 1) := by decide +kernel
theorem dX12_laws_1 : decode cX12_laws 1 = .ok (.iconst 0, 1) := by decide +kernel
theorem dX12_laws_2 : decode cX12_laws 2 = .ok (.putfield 142, 3) := by decide +kernel
theorem dX12_laws_5 : decode cX12_laws 5 = .ok (.aload_n 0, 1) := by decide +kernel
theorem dX12_laws_6 : decode cX12_laws 6 = .ok (.iload_n 1, 1) := by decide +kernel
theorem dX12_laws_7 : decode cX12_laws 7 = .ok (.invokevirtual 520, 3) := by decide +kernel
theorem dX12_laws_10 : decode cX12_laws 10 = .ok (.ifCond .eq 29, 3) := by decide +kernel
theorem dX12_laws_39 : decode cX12_laws 39 = .ok (.iconst (-1), 1) := by decide +kernel
theorem dX12_laws_40 : decode cX12_laws 40 = .ok (.ireturn, 1) := by decide +kernel
theorem dX12_open_0 : decode cX12_open 0 = .ok (.aload_n 0, 1) := by decide +kernel
theorem dX12_open_1 : decode cX12_open 1 = .ok (.iconst 0, 1) := by decide +kernel
theorem dX12_open_2 : decode cX12_open 2 = .ok (.putfield 142, 3) := by decide +kernel
theorem dX12_open_5 : decode cX12_open 5 = .ok (.aload_n 0, 1) := by decide +kernel
theorem dX12_open_6 : decode cX12_open 6 = .ok (.iload_n 1, 1) := by decide +kernel
theorem dX12_open_7 : decode cX12_open 7 = .ok (.invokevirtual 520, 3) := by decide +kernel
theorem dX12_open_10 : decode cX12_open 10 = .ok (.ifCond .eq 11, 3) := by decide +kernel
theorem dX12_open_21 : decode cX12_open 21 = .ok (.iconst (-1), 1) := by decide +kernel
theorem dX12_open_22 : decode cX12_open 22 = .ok (.ireturn, 1) := by decide +kernel
theorem dX12_edit_0 : decode cX12_edit 0 = .ok (.aload_n 0, 1) := by decide +kernel
theorem dX12_edit_1 : decode cX12_edit 1 = .ok (.iconst 0, 1) := by decide +kernel
theorem dX12_edit_2 : decode cX12_edit 2 = .ok (.putfield 142, 3) := by decide +kernel
theorem dX12_edit_5 : decode cX12_edit 5 = .ok (.aload_n 0, 1) := by decide +kernel
theorem dX12_edit_6 : decode cX12_edit 6 = .ok (.getfield 124, 3) := by decide +kernel
theorem dX12_edit_9 : decode cX12_edit 9 = .ok (.iconst (-1), 1) := by decide +kernel
theorem dX12_edit_10 : decode cX12_edit 10 = .ok (.if_icmp .ne 5, 3) := by decide +kernel
theorem dX12_edit_13 : decode cX12_edit 13 = .ok (.iconst (-1), 1) := by decide +kernel
theorem dX12_edit_14 : decode cX12_edit 14 = .ok (.ireturn, 1) := by decide +kernel
theorem dX12_copy_0 : decode cX12_copy 0 = .ok (.aload_n 0, 1) := by decide +kernel
theorem dX12_copy_1 : decode cX12_copy 1 = .ok (.iconst 0, 1) := by decide +kernel
theorem dX12_copy_2 : decode cX12_copy 2 = .ok (.putfield 142, 3) := by decide +kernel
theorem dX12_copy_5 : decode cX12_copy 5 = .ok (.aload_n 0, 1) := by decide +kernel
theorem dX12_copy_6 : decode cX12_copy 6 = .ok (.getfield 124, 3) := by decide +kernel
theorem dX12_copy_9 : decode cX12_copy 9 = .ok (.iconst (-1), 1) := by decide +kernel
theorem dX12_copy_10 : decode cX12_copy 10 = .ok (.if_icmp .eq 19, 3) := by decide +kernel
theorem dX12_copy_29 : decode cX12_copy 29 = .ok (.iconst (-1), 1) := by decide +kernel
theorem dX12_copy_30 : decode cX12_copy 30 = .ok (.ireturn, 1) := by decide +kernel
theorem dX12_moved_0 : decode cX12_moved 0 = .ok (.aload_n 0, 1) := by decide +kernel
theorem dX12_moved_1 : decode cX12_moved 1 = .ok (.iconst 0, 1) := by decide +kernel
theorem dX12_moved_2 : decode cX12_moved 2 = .ok (.putfield 142, 3) := by decide +kernel
theorem dX12_moved_5 : decode cX12_moved 5 = .ok (.aload_n 0, 1) := by decide +kernel
theorem dX12_moved_6 : decode cX12_moved 6 = .ok (.getfield 600, 3) := by decide +kernel
theorem dX12_moved_9 : decode cX12_moved 9 = .ok (.ifCond .eq 25, 3) := by decide +kernel
theorem dX12_moved_34 : decode cX12_moved 34 = .ok (.iconst (-1), 1) := by decide +kernel
theorem dX12_moved_35 : decode cX12_moved 35 = .ok (.ireturn, 1) := by decide +kernel
theorem dX12_many_0 : decode cX12_many 0 = .ok (.aload_n 0, 1) := by decide +kernel
theorem dX12_many_1 : decode cX12_many 1 = .ok (.iconst 0, 1) := by decide +kernel
theorem dX12_many_2 : decode cX12_many 2 = .ok (.putfield 142, 3) := by decide +kernel
theorem dX12_many_5 : decode cX12_many 5 = .ok (.aload_n 0, 1) := by decide +kernel
theorem dX12_many_6 : decode cX12_many 6 = .ok (.iload_n 1, 1) := by decide +kernel
theorem dX12_many_7 : decode cX12_many 7 = .ok (.invokevirtual 520, 3) := by decide +kernel
theorem dX12_many_10 : decode cX12_many 10 = .ok (.ifCond .eq 24, 3) := by decide +kernel
theorem dX12_many_34 : decode cX12_many 34 = .ok (.ldc2_w 540, 3) := by decide +kernel
theorem dX12_many_37 : decode cX12_many 37 = .ok (.lreturn, 1) := by decide +kernel
theorem dX12_undo_0 : decode cX12_undo 0 = .ok (.aload_n 0, 1) := by decide +kernel
theorem dX12_undo_1 : decode cX12_undo 1 = .ok (.iconst 0, 1) := by decide +kernel
theorem dX12_undo_2 : decode cX12_undo 2 = .ok (.putfield 142, 3) := by decide +kernel
theorem dX12_undo_5 : decode cX12_undo 5 = .ok (.aload_n 0, 1) := by decide +kernel
theorem dX12_undo_6 : decode cX12_undo 6 = .ok (.getfield 594, 3) := by decide +kernel
theorem dX12_undo_9 : decode cX12_undo 9 = .ok (.ifCond .ne 5, 3) := by decide +kernel
theorem dX12_undo_12 : decode cX12_undo 12 = .ok (.iconst 0, 1) := by decide +kernel
theorem dX12_undo_13 : decode cX12_undo 13 = .ok (.ireturn, 1) := by decide +kernel
theorem dX12_fault_0 : decode cX12_fault 0 = .ok (.aload_n 0, 1) := by decide +kernel
theorem dX12_fault_1 : decode cX12_fault 1 = .ok (.iconst 0, 1) := by decide +kernel
theorem dX12_fault_2 : decode cX12_fault 2 = .ok (.putfield 142, 3) := by decide +kernel
theorem dX12_fault_5 : decode cX12_fault 5 = .ok (.iload_n 1, 1) := by decide +kernel
theorem dX12_fault_6 : decode cX12_fault 6 = .ok (.ifCond .ne 10, 3) := by decide +kernel
theorem dX12_fault_9 : decode cX12_fault 9 = .ok (.aload_n 0, 1) := by decide +kernel
theorem dX12_fault_10 : decode cX12_fault 10 = .ok (.getfield 325, 3) := by decide +kernel
theorem dX12_fault_13 : decode cX12_fault 13 = .ok (.goto 28, 3) := by decide +kernel
theorem dX12_fault_16 : decode cX12_fault 16 = .ok (.iload_n 1, 1) := by decide +kernel
theorem dX12_fault_17 : decode cX12_fault 17 = .ok (.iconst 1, 1) := by decide +kernel
theorem dX12_fault_18 : decode cX12_fault 18 = .ok (.if_icmp .ne 10, 3) := by decide +kernel
theorem dX12_fault_21 : decode cX12_fault 21 = .ok (.aload_n 0, 1) := by decide +kernel
theorem dX12_fault_22 : decode cX12_fault 22 = .ok (.getfield 105, 3) := by decide +kernel
theorem dX12_fault_25 : decode cX12_fault 25 = .ok (.goto 16, 3) := by decide +kernel
theorem dX12_fault_28 : decode cX12_fault 28 = .ok (.iload_n 1, 1) := by decide +kernel
theorem dX12_fault_29 : decode cX12_fault 29 = .ok (.iconst 2, 1) := by decide +kernel
theorem dX12_fault_30 : decode cX12_fault 30 = .ok (.if_icmp .ne 10, 3) := by decide +kernel
theorem dX12_fault_33 : decode cX12_fault 33 = .ok (.aload_n 0, 1) := by decide +kernel
theorem dX12_fault_34 : decode cX12_fault 34 = .ok (.getfield 109, 3) := by decide +kernel
theorem dX12_fault_37 : decode cX12_fault 37 = .ok (.goto 4, 3) := by decide +kernel
theorem dX12_fault_40 : decode cX12_fault 40 = .ok (.iconst (-1), 1) := by decide +kernel
theorem dX12_fault_41 : decode cX12_fault 41 = .ok (.ireturn, 1) := by decide +kernel
theorem dX12_look_0 : decode cX12_look 0 = .ok (.aload_n 0, 1) := by decide +kernel
theorem dX12_look_1 : decode cX12_look 1 = .ok (.iconst 0, 1) := by decide +kernel
theorem dX12_look_2 : decode cX12_look 2 = .ok (.putfield 142, 3) := by decide +kernel
theorem dX12_look_5 : decode cX12_look 5 = .ok (.iload_n 1, 1) := by decide +kernel
theorem dX12_look_6 : decode cX12_look 6 = .ok (.tableswitch 50 0 3 #[30, 35, 40, 45], 30) := by decide +kernel
theorem dX12_look_36 : decode cX12_look 36 = .ok (.aload_n 0, 1) := by decide +kernel
theorem dX12_look_37 : decode cX12_look 37 = .ok (.getfield 506, 3) := by decide +kernel
theorem dX12_look_40 : decode cX12_look 40 = .ok (.ireturn, 1) := by decide +kernel
theorem dX12_look_41 : decode cX12_look 41 = .ok (.aload_n 0, 1) := by decide +kernel
theorem dX12_look_42 : decode cX12_look 42 = .ok (.getfield 318, 3) := by decide +kernel
theorem dX12_look_45 : decode cX12_look 45 = .ok (.ireturn, 1) := by decide +kernel
theorem dX12_look_46 : decode cX12_look 46 = .ok (.aload_n 0, 1) := by decide +kernel
theorem dX12_look_47 : decode cX12_look 47 = .ok (.getfield 124, 3) := by decide +kernel
theorem dX12_look_50 : decode cX12_look 50 = .ok (.ireturn, 1) := by decide +kernel
theorem dX12_look_51 : decode cX12_look 51 = .ok (.aload_n 0, 1) := by decide +kernel
theorem dX12_look_52 : decode cX12_look 52 = .ok (.getfield 594, 3) := by decide +kernel
theorem dX12_look_55 : decode cX12_look 55 = .ok (.ireturn, 1) := by decide +kernel
theorem dX12_look_56 : decode cX12_look 56 = .ok (.iload_n 1, 1) := by decide +kernel
theorem dX12_look_57 : decode cX12_look 57 = .ok (.iconst 4, 1) := by decide +kernel
theorem dX12_look_58 : decode cX12_look 58 = .ok (.if_icmp .ne 10, 3) := by decide +kernel
theorem dX12_look_61 : decode cX12_look 61 = .ok (.aload_n 0, 1) := by decide +kernel
theorem dX12_look_62 : decode cX12_look 62 = .ok (.getfield 597, 3) := by decide +kernel
theorem dX12_look_65 : decode cX12_look 65 = .ok (.goto 4, 3) := by decide +kernel
theorem dX12_look_68 : decode cX12_look 68 = .ok (.iconst (-1), 1) := by decide +kernel
theorem dX12_look_69 : decode cX12_look 69 = .ok (.ireturn, 1) := by decide +kernel
