theorem dX7_judge_1 : decode cX7_judge 1 = .ok (.getfield 49, 3) := by decide +kernel
theorem dX7_judge_4 : decode cX7_judge 4 = .ok (.iload_n 1, 1) := by decide +kernel
theorem dX7_judge_5 : decode cX7_judge 5 = .ok (.invokevirtual 217, 3) := by decide +kernel
theorem dX7_judge_8 : decode cX7_judge 8 = .ok (.ifCond .ne 5, 3) := by decide +kernel
theorem dX7_judge_11 : decode cX7_judge 11 = .ok (.iconst (-1), 1) := by decide +kernel
theorem dX7_judge_12 : decode cX7_judge 12 = .ok (.ireturn, 1) := by decide +kernel
theorem dX7_judge_13 : decode cX7_judge 13 = .ok (.aload_n 0, 1) := by decide +kernel
theorem dX7_judge_14 : decode cX7_judge 14 = .ok (.getfield 49, 3) := by decide +kernel
theorem dX7_judge_17 : decode cX7_judge 17 = .ok (.iload_n 1, 1) := by decide +kernel
theorem dX7_judge_18 : decode cX7_judge 18 = .ok (.invokevirtual 218, 3) := by decide +kernel
theorem dX7_judge_21 : decode cX7_judge 21 = .ok (.ifCond .eq 18, 3) := by decide +kernel
theorem dX7_judge_24 : decode cX7_judge 24 = .ok (.aload_n 0, 1) := by decide +kernel
theorem dX7_judge_25 : decode cX7_judge 25 = .ok (.getfield 49, 3) := by decide +kernel
theorem dX7_judge_28 : decode cX7_judge 28 = .ok (.getfield 221, 3) := by decide +kernel
theorem dX7_judge_31 : decode cX7_judge 31 = .ok (.iload_n 1, 1) := by decide +kernel
theorem dX7_judge_32 : decode cX7_judge 32 = .ok (.iaload, 1) := by decide +kernel
theorem dX7_judge_33 : decode cX7_judge 33 = .ok (.ifCond .eq 6, 3) := by decide +kernel
theorem dX7_judge_36 : decode cX7_judge 36 = .ok (.bipush (-12), 2) := by decide +kernel
theorem dX7_judge_38 : decode cX7_judge 38 = .ok (.ireturn, 1) := by decide +kernel
theorem dX7_judge_39 : decode cX7_judge 39 = .ok (.iconst 0, 1) := by decide +kernel
theorem dX7_judge_40 : decode cX7_judge 40 = .ok (.istore_n 3, 1) := by decide +kernel
theorem dX7_judge_41 : decode cX7_judge 41 = .ok (.iload_n 3, 1) := by decide +kernel
theorem dX7_judge_42 : decode cX7_judge 42 = .ok (.aload_n 0, 1) := by decide +kernel
theorem dX7_judge_43 : decode cX7_judge 43 = .ok (.getfield 25, 3) := by decide +kernel
theorem dX7_judge_46 : decode cX7_judge 46 = .ok (.getfield 160, 3) := by decide +kernel
theorem dX7_judge_49 : decode cX7_judge 49 = .ok (.if_icmp .ge 57, 3) := by decide +kernel
theorem dX7_judge_52 : decode cX7_judge 52 = .ok (.aload_n 0, 1) := by decide +kernel
theorem dX7_judge_53 : decode cX7_judge 53 = .ok (.getfield 49, 3) := by decide +kernel
theorem dX7_judge_56 : decode cX7_judge 56 = .ok (.iload_n 1, 1) := by decide +kernel
theorem dX7_judge_57 : decode cX7_judge 57 = .ok (.iload_n 2, 1) := by decide +kernel
theorem dX7_judge_58 : decode cX7_judge 58 = .ok (.iload_n 3, 1) := by decide +kernel
theorem dX7_judge_59 : decode cX7_judge 59 = .ok (.iadd, 1) := by decide +kernel
theorem dX7_judge_60 : decode cX7_judge 60 = .ok (.invokevirtual 224, 3) := by decide +kernel
theorem dX7_judge_63 : decode cX7_judge 63 = .ok (.ifCond .ne 8, 3) := by decide +kernel
theorem dX7_judge_66 : decode cX7_judge 66 = .ok (.bipush 100, 2) := by decide +kernel
theorem dX7_judge_68 : decode cX7_judge 68 = .ok (.iload_n 3, 1) := by decide +kernel
theorem dX7_judge_69 : decode cX7_judge 69 = .ok (.iadd, 1) := by decide +kernel
theorem dX7_judge_70 : decode cX7_judge 70 = .ok (.ireturn, 1) := by decide +kernel
theorem dX7_judge_71 : decode cX7_judge 71 = .ok (.aload_n 0, 1) := by decide +kernel
theorem dX7_judge_72 : decode cX7_judge 72 = .ok (.getfield 49, 3) := by decide +kernel
theorem dX7_judge_75 : decode cX7_judge 75 = .ok (.getfield 228, 3) := by decide +kernel
theorem dX7_judge_78 : decode cX7_judge 78 = .ok (.iload_n 1, 1) := by decide +kernel
theorem dX7_judge_79 : decode cX7_judge 79 = .ok (.aaload, 1) := by decide +kernel
theorem dX7_judge_80 : decode cX7_judge 80 = .ok (.iload_n 2, 1) := by decide +kernel
theorem dX7_judge_81 : decode cX7_judge 81 = .ok (.iload_n 3, 1) := by decide +kernel
theorem dX7_judge_82 : decode cX7_judge 82 = .ok (.iadd, 1) := by decide +kernel
theorem dX7_judge_83 : decode cX7_judge 83 = .ok (.laload, 1) := by decide +kernel
theorem dX7_judge_84 : decode cX7_judge 84 = .ok (.aload_n 0, 1) := by decide +kernel
theorem dX7_judge_85 : decode cX7_judge 85 = .ok (.getfield 25, 3) := by decide +kernel
theorem dX7_judge_88 : decode cX7_judge 88 = .ok (.getfield 81, 3) := by decide +kernel
theorem dX7_judge_91 : decode cX7_judge 91 = .ok (.iload_n 3, 1) := by decide +kernel
theorem dX7_judge_92 : decode cX7_judge 92 = .ok (.iaload, 1) := by decide +kernel
theorem dX7_judge_93 : decode cX7_judge 93 = .ok (.i2l, 1) := by decide +kernel
theorem dX7_judge_94 : decode cX7_judge 94 = .ok (.lcmp, 1) := by decide +kernel
theorem dX7_judge_95 : decode cX7_judge 95 = .ok (.ifCond .eq 5, 3) := by decide +kernel
theorem dX7_judge_98 : decode cX7_judge 98 = .ok (.iload_n 3, 1) := by decide +kernel
theorem dX7_judge_99 : decode cX7_judge 99 = .ok (.ireturn, 1) := by decide +kernel
theorem dX7_judge_100 : decode cX7_judge 100 = .ok (.iinc 3 1, 3) := by decide +kernel
theorem dX7_judge_103 : decode cX7_judge 103 = .ok (.goto (-62), 3) := by decide +kernel
theorem dX7_judge_106 : decode cX7_judge 106 = .ok (.bipush (-5), 2) := by decide +kernel
theorem dX7_judge_108 : decode cX7_judge 108 = .ok (.ireturn, 1) := by decide +kernel
theorem dX7_image_0 : decode cX7_image 0 = .ok (.aload_n 0, 1) := by decide +kernel
theorem dX7_image_1 : decode cX7_image 1 = .ok (.getfield 18, 3) := by decide +kernel
theorem dX7_image_4 : decode cX7_image 4 = .ok (.aload_n 0, 1) := by decide +kernel
theorem dX7_image_5 : decode cX7_image 5 = .ok (.getfield 12, 3) := by decide +kernel
theorem dX7_image_8 : decode cX7_image 8 = .ok (.invokevirtual 231, 3) := by decide +kernel
theorem dX7_image_11 : decode cX7_image 11 = .ok (.aload_n 0, 1) := by decide +kernel
theorem dX7_image_12 : decode cX7_image 12 = .ok (.iconst 1, 1) := by decide +kernel
theorem dX7_image_13 : decode cX7_image 13 = .ok (.putfield 234, 3) := by decide +kernel
theorem dX7_image_16 : decode cX7_image 16 = .ok (.aload_n 0, 1) := by decide +kernel
theorem dX7_image_17 : decode cX7_image 17 = .ok (.getfield 25, 3) := by decide +kernel
theorem dX7_image_20 : decode cX7_image 20 = .ok (.getfield 160, 3) := by decide +kernel
theorem dX7_image_23 : decode cX7_image 23 = .ok (.ireturn, 1) := by decide +kernel
theorem dX7_undo_0 : decode cX7_undo 0 = .ok (.aload_n 0, 1) := by decide +kernel
theorem dX7_undo_1 : decode cX7_undo 1 = .ok (.getfield 234, 3) := by decide +kernel
theorem dX7_undo_4 : decode cX7_undo 4 = .ok (.ifCond .ne 6, 3) := by decide +kernel
theorem dX7_undo_7 : decode cX7_undo 7 = .ok (.bipush (-3), 2) := by decide +kernel
theorem dX7_undo_9 : decode cX7_undo 9 = .ok (.ireturn, 1) := by decide +kernel
theorem dX7_undo_10 : decode cX7_undo 10 = .ok (.aload_n 0, 1) := by decide +kernel
theorem dX7_undo_11 : decode cX7_undo 11 = .ok (.getfield 12, 3) := by decide +kernel
theorem dX7_undo_14 : decode cX7_undo 14 = .ok (.aload_n 0, 1) := by decide +kernel
theorem dX7_undo_15 : decode cX7_undo 15 = .ok (.getfield 18, 3) := by decide +kernel
theorem dX7_undo_18 : decode cX7_undo 18 = .ok (.invokevirtual 231, 3) := by decide +kernel
theorem dX7_undo_21 : decode cX7_undo 21 = .ok (.aload_n 0, 1) := by decide +kernel
theorem dX7_undo_22 : decode cX7_undo 22 = .ok (.getfield 25, 3) := by decide +kernel
theorem dX7_undo_25 : decode cX7_undo 25 = .ok (.getfield 160, 3) := by decide +kernel
theorem dX7_undo_28 : decode cX7_undo 28 = .ok (.ireturn, 1) := by decide +kernel
theorem dX7_act_0 : decode cX7_act 0 = .ok (.aload_n 0, 1) := by decide +kernel
theorem dX7_act_1 : decode cX7_act 1 = .ok (.getfield 42, 3) := by decide +kernel
theorem dX7_act_4 : decode cX7_act 4 = .ok (.invokevirtual 238, 3) := by decide +kernel
theorem dX7_act_7 : decode cX7_act 7 = .ok (.aload_n 0, 1) := by decide +kernel
theorem dX7_act_8 : decode cX7_act 8 = .ok (.getfield 25, 3) := by decide +kernel
theorem dX7_act_11 : decode cX7_act 11 = .ok (.iload_n 1, 1) := by decide +kernel
theorem dX7_act_12 : decode cX7_act 12 = .ok (.invokevirtual 68, 3) := by decide +kernel
theorem dX7_act_15 : decode cX7_act 15 = .ok (.ifCond .eq 12, 3) := by decide +kernel
theorem dX7_act_18 : decode cX7_act 18 = .ok (.iload_n 2, 1) := by decide +kernel
theorem dX7_act_19 : decode cX7_act 19 = .ok (.iconst 0, 1) := by decide +kernel
theorem dX7_act_20 : decode cX7_act 20 = .ok (.iconst 2, 1) := by decide +kernel
theorem dX7_act_21 : decode cX7_act 21 = .ok (.invokestatic 53, 3) := by decide +kernel
theorem dX7_act_24 : decode cX7_act 24 = .ok (.ifCond .ne 5, 3) := by decide +kernel
theorem dX7_act_27 : decode cX7_act 27 = .ok (.iconst 0, 1) := by decide +kernel
theorem dX7_act_28 : decode cX7_act 28 = .ok (.ireturn, 1) := by decide +kernel
theorem dX7_act_29 : decode cX7_act 29 = .ok (.aload_n 0, 1) := by decide +kernel
theorem dX7_act_30 : decode cX7_act 30 = .ok (.getfield 42, 3) := by decide +kernel
theorem dX7_act_33 : decode cX7_act 33 = .ok (.aload_n 0, 1) := by decide +kernel
theorem dX7_act_34 : decode cX7_act 34 = .ok (.getfield 25, 3) := by decide +kernel
theorem dX7_act_37 : decode cX7_act 37 = .ok (.iload_n 1, 1) := by decide +kernel
theorem dX7_act_38 : decode cX7_act 38 = .ok (.iload_n 2, 1) := by decide +kernel
theorem dX7_act_39 : decode cX7_act 39 = .ok (.iload_n 3, 1) := by decide +kernel
theorem dX7_act_40 : decode cX7_act 40 = .ok (.invokevirtual 241, 3) := by decide +kernel
theorem dX7_act_43 : decode cX7_act 43 = .ok (.ireturn, 1) := by decide +kernel
theorem dX7_trace_0 : decode cX7_trace 0 = .ok (.aload_n 0, 1) := by decide +kernel
theorem dX7_trace_1 : decode cX7_trace 1 = .ok (.getfield 42, 3) := by decide +kernel
theorem dX7_trace_4 : decode cX7_trace 4 = .ok (.iload_n 1, 1) := by decide +kernel
theorem dX7_trace_5 : decode cX7_trace 5 = .ok (.invokevirtual 245, 3) := by decide +kernel
theorem dX7_trace_8 : decode cX7_trace 8 = .ok (.ireturn, 1) := by decide +kernel
theorem dX7_taken_0 : decode cX7_taken 0 = .ok (.iload_n 2, 1) := by decide +kernel
theorem dX7_taken_1 : decode cX7_taken 1 = .ok (.iconst 0, 1) := by decide +kernel
theorem dX7_taken_2 : decode cX7_taken 2 = .ok (.bipush 6, 2) := by decide +kernel
theorem dX7_taken_4 : decode cX7_taken 4 = .ok (.invokestatic 53, 3) := by decide +kernel
theorem dX7_taken_7 : decode cX7_taken 7 = .ok (.ifCond .ne 6, 3) := by decide +kernel
theorem dX7_taken_10 : decode cX7_taken 10 = .ok (.bipush (-2), 2) := by decide +kernel
theorem dX7_taken_12 : decode cX7_taken 12 = .ok (.ireturn, 1) := by decide +kernel
theorem dX7_taken_13 : decode cX7_taken 13 = .ok (.aload_n 0, 1) := by decide +kernel
theorem dX7_taken_14 : decode cX7_taken 14 = .ok (.getfield 25, 3) := by decide +kernel
theorem dX7_taken_17 : decode cX7_taken 17 = .ok (.iload_n 1, 1) := by decide +kernel
theorem dX7_taken_18 : decode cX7_taken 18 = .ok (.invokevirtual 68, 3) := by decide +kernel
theorem dX7_taken_21 : decode cX7_taken 21 = .ok (.ifCond .ne 6, 3) := by decide +kernel
theorem dX7_taken_24 : decode cX7_taken 24 = .ok (.bipush (-11), 2) := by decide +kernel
theorem dX7_taken_26 : decode cX7_taken 26 = .ok (.ireturn, 1) := by decide +kernel
theorem dX7_taken_27 : decode cX7_taken 27 = .ok (.aload_n 0, 1) := by decide +kernel
theorem dX7_taken_28 : decode cX7_taken 28 = .ok (.getfield 25, 3) := by decide +kernel
theorem dX7_taken_31 : decode cX7_taken 31 = .ok (.getfield 71, 3) := by decide +kernel
theorem dX7_taken_34 : decode cX7_taken 34 = .ok (.iload_n 1, 1) := by decide +kernel
theorem dX7_taken_35 : decode cX7_taken 35 = .ok (.iaload, 1) := by decide +kernel
theorem dX7_taken_36 : decode cX7_taken 36 = .ok (.istore_n 3, 1) := by decide +kernel
theorem dX7_taken_37 : decode cX7_taken 37 = .ok (.iload_n 3, 1) := by decide +kernel
theorem dX7_taken_38 : decode cX7_taken 38 = .ok (.iload_n 2, 1) := by decide +kernel
theorem dX7_taken_39 : decode cX7_taken 39 = .ok (.invokestatic 247, 3) := by decide +kernel
theorem dX7_taken_42 : decode cX7_taken 42 = .ok (.ifCond .eq 7, 3) := by decide +kernel
theorem dX7_taken_45 : decode cX7_taken 45 = .ok (.iload_n 3, 1) := by decide +kernel
theorem dX7_taken_46 : decode cX7_taken 46 = .ok (.goto 5, 3) := by decide +kernel
theorem dX7_taken_49 : decode cX7_taken 49 = .ok (.bipush (-12), 2) := by decide +kernel
theorem dX7_taken_51 : decode cX7_taken 51 = .ok (.ireturn, 1) := by decide +kernel
theorem dX7_count_0 : decode cX7_count 0 = .ok (.iload_n 1, 1) := by decide +kernel
theorem dX7_count_1 : decode cX7_count 1 = .ok (.tableswitch 105 0 6 #[43, 51, 56, 67, 78, 89, 97], 43) := by decide +kernel
theorem dX7_count_44 : decode cX7_count 44 = .ok (.aload_n 0, 1) := by decide +kernel
theorem dX7_count_45 : decode cX7_count 45 = .ok (.getfield 25, 3) := by decide +kernel
theorem dX7_count_48 : decode cX7_count 48 = .ok (.getfield 160, 3) := by decide +kernel
theorem dX7_count_51 : decode cX7_count 51 = .ok (.ireturn, 1) := by decide +kernel
theorem dX7_count_52 : decode cX7_count 52 = .ok (.aload_n 0, 1) := by decide +kernel
theorem dX7_count_53 : decode cX7_count 53 = .ok (.getfield 114, 3) := by decide +kernel
theorem dX7_count_56 : decode cX7_count 56 = .ok (.ireturn, 1) := by decide +kernel
theorem dX7_count_57 : decode cX7_count 57 = .ok (.aload_n 0, 1) := by decide +kernel
theorem dX7_count_58 : decode cX7_count 58 = .ok (.getfield 12, 3) := by decide +kernel
theorem dX7_count_61 : decode cX7_count 61 = .ok (.getfield 173, 3) := by decide +kernel
theorem dX7_count_64 : decode cX7_count 64 = .ok (.getfield 201, 3) := by decide +kernel
theorem dX7_count_67 : decode cX7_count 67 = .ok (.ireturn, 1) := by decide +kernel
theorem dX7_count_68 : decode cX7_count 68 = .ok (.aload_n 0, 1) := by decide +kernel
theorem dX7_count_69 : decode cX7_count 69 = .ok (.getfield 12, 3) := by decide +kernel
theorem dX7_count_72 : decode cX7_count 72 = .ok (.getfield 198, 3) := by decide +kernel
theorem dX7_count_75 : decode cX7_count 75 = .ok (.getfield 201, 3) := by decide +kernel
theorem dX7_count_78 : decode cX7_count 78 = .ok (.ireturn, 1) := by decide +kernel
theorem dX7_count_79 : decode cX7_count 79 = .ok (.aload_n 0, 1) := by decide +kernel
theorem dX7_count_80 : decode cX7_count 80 = .ok (.getfield 12, 3) := by decide +kernel
theorem dX7_count_83 : decode cX7_count 83 = .ok (.getfield 214, 3) := by decide +kernel
theorem dX7_count_86 : decode cX7_count 86 = .ok (.getfield 201, 3) := by decide +kernel
theorem dX7_count_89 : decode cX7_count 89 = .ok (.ireturn, 1) := by decide +kernel
theorem dX7_count_90 : decode cX7_count 90 = .ok (.aload_n 0, 1) := by decide +kernel
theorem dX7_count_91 : decode cX7_count 91 = .ok (.getfield 35, 3) := by decide +kernel
theorem dX7_count_94 : decode cX7_count 94 = .ok (.getfield 250, 3) := by decide +kernel
theorem dX7_count_97 : decode cX7_count 97 = .ok (.ireturn, 1) := by decide +kernel
theorem dX7_count_98 : decode cX7_count 98 = .ok (.aload_n 0, 1) := by decide +kernel
theorem dX7_count_99 : decode cX7_count 99 = .ok (.getfield 42, 3) := by decide +kernel
theorem dX7_count_102 : decode cX7_count 102 = .ok (.getfield 253, 3) := by decide +kernel
theorem dX7_count_105 : decode cX7_count 105 = .ok (.ireturn, 1) := by decide +kernel
theorem dX7_count_106 : decode cX7_count 106 = .ok (.bipush (-2), 2) := by decide +kernel
theorem dX7_count_108 : decode cX7_count 108 = .ok (.ireturn, 1) := by decide +kernel
theorem dX7_tape_0 : decode cX7_tape 0 = .ok (.aload_n 0, 1) := by decide +kernel
theorem dX7_tape_1 : decode cX7_tape 1 = .ok (.getfield 49, 3) := by decide +kernel
theorem dX7_tape_4 : decode cX7_tape 4 = .ok (.iload_n 1, 1) := by decide +kernel
theorem dX7_tape_5 : decode cX7_tape 5 = .ok (.iload_n 2, 1) := by decide +kernel
theorem dX7_tape_6 : decode cX7_tape 6 = .ok (.iload_n 3, 1) := by decide +kernel
theorem dX7_tape_7 : decode cX7_tape 7 = .ok (.invokevirtual 256, 3) := by decide +kernel
theorem dX7_tape_10 : decode cX7_tape 10 = .ok (.ireturn, 1) := by decide +kernel
theorem dX7_item_0 : decode cX7_item 0 = .ok (.aload_n 0, 1) := by decide +kernel
theorem dX7_item_1 : decode cX7_item 1 = .ok (.getfield 49, 3) := by decide +kernel
theorem dX7_item_4 : decode cX7_item 4 = .ok (.iload_n 1, 1) := by decide +kernel
theorem dX7_item_5 : decode cX7_item 5 = .ok (.iload_n 2, 1) := by decide +kernel
theorem dX7_item_6 : decode cX7_item 6 = .ok (.lload_n 3, 1) := by decide +kernel
theorem dX7_item_7 : decode cX7_item 7 = .ok (.invokevirtual 260, 3) := by decide +kernel
theorem dX7_item_10 : decode cX7_item 10 = .ok (.ireturn, 1) := by decide +kernel
theorem dX7_read_0 : decode cX7_read 0 = .ok (.aload_n 0, 1) := by decide +kernel
theorem dX7_read_1 : decode cX7_read 1 = .ok (.getfield 49, 3) := by decide +kernel
theorem dX7_read_4 : decode cX7_read 4 = .ok (.iload_n 1, 1) := by decide +kernel
theorem dX7_read_5 : decode cX7_read 5 = .ok (.invokevirtual 217, 3) := by decide +kernel
theorem dX7_read_8 : decode cX7_read 8 = .ok (.ifCond .eq 15, 3) := by decide +kernel
theorem dX7_read_11 : decode cX7_read 11 = .ok (.aload_n 0, 1) := by decide +kernel
theorem dX7_read_12 : decode cX7_read 12 = .ok (.getfield 49, 3) := by decide +kernel
theorem dX7_read_15 : decode cX7_read 15 = .ok (.iload_n 1, 1) := by decide +kernel
theorem dX7_read_16 : decode cX7_read 16 = .ok (.iload_n 2, 1) := by decide +kernel
theorem dX7_read_17 : decode cX7_read 17 = .ok (.invokevirtual 224, 3) := by decide +kernel
theorem dX7_read_20 : decode cX7_read 20 = .ok (.ifCond .ne 7, 3) := by decide +kernel
theorem dX7_read_23 : decode cX7_read 23 = .ok (.ldc2_w 189, 3) := by decide +kernel
theorem dX7_read_26 : decode cX7_read 26 = .ok (.lreturn, 1) := by decide +kernel
theorem dX7_read_27 : decode cX7_read 27 = .ok (.aload_n 0, 1) := by decide +kernel
theorem dX7_read_28 : decode cX7_read 28 = .ok (.getfield 49, 3) := by decide +kernel
theorem dX7_read_31 : decode cX7_read 31 = .ok (.getfield 228, 3) := by decide +kernel
theorem dX7_read_34 : decode cX7_read 34 = .ok (.iload_n 1, 1) := by decide +kernel
theorem dX7_read_35 : decode cX7_read 35 = .ok (.aaload, 1) := by decide +kernel
theorem dX7_read_36 : decode cX7_read 36 = .ok (.iload_n 2, 1) := by decide +kernel
theorem dX7_read_37 : decode cX7_read 37 = .ok (.laload, 1) := by decide +kernel
theorem dX7_read_38 : decode cX7_read 38 = .ok (.lreturn, 1) := by decide +kernel
theorem dX7_shift_0 : decode cX7_shift 0 = .ok (.aload_n 0, 1) := by decide +kernel
theorem dX7_shift_1 : decode cX7_shift 1 = .ok (.getfield 49, 3) := by decide +kernel
theorem dX7_shift_4 : decode cX7_shift 4 = .ok (.iload_n 1, 1) := by decide +kernel
theorem dX7_shift_5 : decode cX7_shift 5 = .ok (.iload_n 2, 1) := by decide +kernel
theorem dX7_shift_6 : decode cX7_shift 6 = .ok (.iload_n 3, 1) := by decide +kernel
theorem dX7_shift_7 : decode cX7_shift 7 = .ok (.iload 4, 2) := by decide +kernel
theorem dX7_shift_9 : decode cX7_shift 9 = .ok (.iload 5, 2) := by decide +kernel
theorem dX7_shift_11 : decode cX7_shift 11 = .ok (.invokevirtual 264, 3) := by decide +kernel
theorem dX7_shift_14 : decode cX7_shift 14 = .ok (.ireturn, 1) := by decide +kernel
theorem dX7_isWithin_0 : decode cX7_isWithin 0 = .ok (.iload_n 0, 1) := by decide +kernel
theorem dX7_isWithin_1 : decode cX7_isWithin 1 = .ok (.iload_n 1, 1) := by decide +kernel
theorem dX7_isWithin_2 : decode cX7_isWithin 2 = .ok (.if_icmp .lt 12, 3) := by decide +kernel
theorem dX7_isWithin_5 : decode cX7_isWithin 5 = .ok (.iload_n 0, 1) := by decide +kernel
theorem dX7_isWithin_6 : decode cX7_isWithin 6 = .ok (.iload_n 2, 1) := by decide +kernel
theorem dX7_isWithin_7 : decode cX7_isWithin 7 = .ok (.if_icmp .gt 7, 3) := by decide +kernel
theorem dX7_isWithin_10 : decode cX7_isWithin 10 = .ok (.iconst 1, 1) := by decide +kernel
theorem dX7_isWithin_11 : decode cX7_isWithin 11 = .ok (.goto 4, 3) := by decide +kernel
theorem dX7_isWithin_14 : decode cX7_isWithin 14 = .ok (.iconst 0, 1) := by decide +kernel
theorem dX7_isWithin_15 : decode cX7_isWithin 15 = .ok (.ireturn, 1) := by decide +kernel
theorem dX7_isDigit_0 : decode cX7_isDigit 0 = .ok (.iload_n 0, 1) := by decide +kernel
theorem dX7_isDigit_1 : decode cX7_isDigit 1 = .ok (.iconst 0, 1) := by decide +kernel
theorem dX7_isDigit_2 : decode cX7_isDigit 2 = .ok (.bipush 9, 2) := by decide +kernel
theorem dX7_isDigit_4 : decode cX7_isDigit 4 = .ok (.invokestatic 53, 3) := by decide +kernel
theorem dX7_isDigit_7 : decode cX7_isDigit 7 = .ok (.ireturn, 1) := by decide +kernel
theorem dX7_isDoor_0 : decode cX7_isDoor 0 = .ok (.iload_n 0, 1) := by decide +kernel
theorem dX7_isDoor_1 : decode cX7_isDoor 1 = .ok (.iconst 0, 1) := by decide +kernel
theorem dX7_isDoor_2 : decode cX7_isDoor 2 = .ok (.bipush 19, 2) := by decide +kernel
theorem dX7_isDoor_4 : decode cX7_isDoor 4 = .ok (.invokestatic 53, 3) := by decide +kernel
theorem dX7_isDoor_7 : decode cX7_isDoor 7 = .ok (.ireturn, 1) := by decide +kernel
theorem dX7_isOrIsUnder_0 : decode cX7_isOrIsUnder 0 = .ok (.iload_n 0, 1) := by decide +kernel
theorem dX7_isOrIsUnder_1 : decode cX7_isOrIsUnder 1 = .ok (.istore_n 2, 1) := by decide +kernel
theorem dX7_isOrIsUnder_2 : decode cX7_isOrIsUnder 2 = .ok (.iconst 0, 1) := by decide +kernel
theorem dX7_isOrIsUnder_3 : decode cX7_isOrIsUnder 3 = .ok (.istore_n 3, 1) := by decide +kernel
theorem dX7_isOrIsUnder_4 : decode cX7_isOrIsUnder 4 = .ok (.iload_n 3, 1) := by decide +kernel
theorem dX7_isOrIsUnder_5 : decode cX7_isOrIsUnder 5 = .ok (.bipush 7, 2) := by decide +kernel
theorem dX7_isOrIsUnder_7 : decode cX7_isOrIsUnder 7 = .ok (.if_icmp .ge 32, 3) := by decide +kernel
theorem dX7_isOrIsUnder_10 : decode cX7_isOrIsUnder 10 = .ok (.iload_n 2, 1) := by decide +kernel
theorem dX7_isOrIsUnder_11 : decode cX7_isOrIsUnder 11 = .ok (.ifCond .lt 28, 3) := by decide +kernel
theorem dX7_isOrIsUnder_14 : decode cX7_isOrIsUnder 14 = .ok (.iload_n 2, 1) := by decide +kernel
theorem dX7_isOrIsUnder_15 : decode cX7_isOrIsUnder 15 = .ok (.bipush 7, 2) := by decide +kernel
theorem dX7_isOrIsUnder_17 : decode cX7_isOrIsUnder 17 = .ok (.if_icmp .ge 22, 3) := by decide +kernel
theorem dX7_isOrIsUnder_20 : decode cX7_isOrIsUnder 20 = .ok (.iload_n 2, 1) := by decide +kernel
theorem dX7_isOrIsUnder_21 : decode cX7_isOrIsUnder 21 = .ok (.iload_n 1, 1) := by decide +kernel
theorem dX7_isOrIsUnder_22 : decode cX7_isOrIsUnder 22 = .ok (.if_icmp .ne 5, 3) := by decide +kernel
theorem dX7_isOrIsUnder_25 : decode cX7_isOrIsUnder 25 = .ok (.iconst 1, 1) := by decide +kernel
theorem dX7_isOrIsUnder_26 : decode cX7_isOrIsUnder 26 = .ok (.ireturn, 1) := by decide +kernel
theorem dX7_isOrIsUnder_27 : decode cX7_isOrIsUnder 27 = .ok (.getstatic 268, 3) := by decide +kernel
theorem dX7_isOrIsUnder_30 : decode cX7_isOrIsUnder 30 = .ok (.iload_n 2, 1) := by decide +kernel
theorem dX7_isOrIsUnder_31 : decode cX7_isOrIsUnder 31 = .ok (.iaload, 1) := by decide +kernel
theorem dX7_isOrIsUnder_32 : decode cX7_isOrIsUnder 32 = .ok (.istore_n 2, 1) := by decide +kernel
theorem dX7_isOrIsUnder_33 : decode cX7_isOrIsUnder 33 = .ok (.iinc 3 1, 3) := by decide +kernel
theorem dX7_isOrIsUnder_36 : decode cX7_isOrIsUnder 36 = .ok (.goto (-32), 3) := by decide +kernel
theorem dX7_isOrIsUnder_39 : decode cX7_isOrIsUnder 39 = .ok (.iconst 0, 1) := by decide +kernel
theorem dX7_isOrIsUnder_40 : decode cX7_isOrIsUnder 40 = .ok (.ireturn, 1) := by decide +kernel
theorem dX7_startWith_0 : decode cX7_startWith 0 = .ok (.aload_n 0, 1) := by decide +kernel
theorem dX7_startWith_1 : decode cX7_startWith 1 = .ok (.getfield 29, 3) := by decide +kernel
theorem dX7_startWith_4 : decode cX7_startWith 4 = .ok (.aload_n 0, 1) := by decide +kernel
theorem dX7_startWith_5 : decode cX7_startWith 5 = .ok (.getfield 25, 3) := by decide +kernel
theorem dX7_startWith_8 : decode cX7_startWith 8 = .ok (.invokevirtual 147, 3) := by decide +kernel
theorem dX7_startWith_11 : decode cX7_startWith 11 = .ok (.aload_n 0, 1) := by decide +kernel
theorem dX7_startWith_12 : decode cX7_startWith 12 = .ok (.getfield 29, 3) := by decide +kernel
theorem dX7_startWith_15 : decode cX7_startWith 15 = .ok (.iload_n 1, 1) := by decide +kernel
theorem dX7_startWith_16 : decode cX7_startWith 16 = .ok (.invokevirtual 104, 3) := by decide +kernel
theorem dX7_startWith_19 : decode cX7_startWith 19 = .ok (.return_, 1) := by decide +kernel
theorem dX7_isAllSeenSo_0 : decode cX7_isAllSeenSo 0 = .ok (.iconst 0, 1) := by decide +kernel
theorem dX7_isAllSeenSo_1 : decode cX7_isAllSeenSo 1 = .ok (.istore_n 1, 1) := by decide +kernel
theorem dX7_isAllSeenSo_2 : decode cX7_isAllSeenSo 2 = .ok (.iload_n 1, 1) := by decide +kernel
theorem dX7_isAllSeenSo_3 : decode cX7_isAllSeenSo 3 = .ok (.bipush 60, 2) := by decide +kernel
theorem dX7_isAllSeenSo_5 : decode cX7_isAllSeenSo 5 = .ok (.if_icmp .gt 79, 3) := by decide +kernel
theorem dX7_isAllSeenSo_8 : decode cX7_isAllSeenSo 8 = .ok (.iconst 0, 1) := by decide +kernel
theorem dX7_isAllSeenSo_9 : decode cX7_isAllSeenSo 9 = .ok (.istore_n 2, 1) := by decide +kernel
theorem dX7_isAllSeenSo_10 : decode cX7_isAllSeenSo 10 = .ok (.iload_n 2, 1) := by decide +kernel
theorem dX7_isAllSeenSo_11 : decode cX7_isAllSeenSo 11 = .ok (.aload_n 0, 1) := by decide +kernel
theorem dX7_isAllSeenSo_12 : decode cX7_isAllSeenSo 12 = .ok (.getfield 12, 3) := by decide +kernel
theorem dX7_isAllSeenSo_15 : decode cX7_isAllSeenSo 15 = .ok (.getfield 173, 3) := by decide +kernel
theorem dX7_isAllSeenSo_18 : decode cX7_isAllSeenSo 18 = .ok (.getfield 201, 3) := by decide +kernel
theorem dX7_isAllSeenSo_21 : decode cX7_isAllSeenSo 21 = .ok (.if_icmp .ge 49, 3) := by decide +kernel
theorem dX7_isAllSeenSo_24 : decode cX7_isAllSeenSo 24 = .ok (.aload_n 0, 1) := by decide +kernel
theorem dX7_isAllSeenSo_25 : decode cX7_isAllSeenSo 25 = .ok (.getfield 12, 3) := by decide +kernel
theorem dX7_isAllSeenSo_28 : decode cX7_isAllSeenSo 28 = .ok (.getfield 173, 3) := by decide +kernel
theorem dX7_isAllSeenSo_31 : decode cX7_isAllSeenSo 31 = .ok (.getfield 207, 3) := by decide +kernel
theorem dX7_isAllSeenSo_34 : decode cX7_isAllSeenSo 34 = .ok (.iload_n 2, 1) := by decide +kernel
theorem dX7_isAllSeenSo_35 : decode cX7_isAllSeenSo 35 = .ok (.iaload, 1) := by decide +kernel
theorem dX7_isAllSeenSo_36 : decode cX7_isAllSeenSo 36 = .ok (.iload_n 1, 1) := by decide +kernel
theorem dX7_isAllSeenSo_37 : decode cX7_isAllSeenSo 37 = .ok (.if_icmp .ne 27, 3) := by decide +kernel
theorem dX7_isAllSeenSo_40 : decode cX7_isAllSeenSo 40 = .ok (.aload_n 0, 1) := by decide +kernel
theorem dX7_isAllSeenSo_41 : decode cX7_isAllSeenSo 41 = .ok (.getfield 12, 3) := by decide +kernel
theorem dX7_isAllSeenSo_44 : decode cX7_isAllSeenSo 44 = .ok (.getfield 173, 3) := by decide +kernel
theorem dX7_isAllSeenSo_47 : decode cX7_isAllSeenSo 47 = .ok (.getfield 204, 3) := by decide +kernel
theorem dX7_isAllSeenSo_50 : decode cX7_isAllSeenSo 50 = .ok (.iload_n 2, 1) := by decide +kernel
theorem dX7_isAllSeenSo_51 : decode cX7_isAllSeenSo 51 = .ok (.iaload, 1) := by decide +kernel
theorem dX7_isAllSeenSo_52 : decode cX7_isAllSeenSo 52 = .ok (.aload_n 0, 1) := by decide +kernel
theorem dX7_isAllSeenSo_53 : decode cX7_isAllSeenSo 53 = .ok (.getfield 29, 3) := by decide +kernel
theorem dX7_isAllSeenSo_56 : decode cX7_isAllSeenSo 56 = .ok (.invokevirtual 132, 3) := by decide +kernel
theorem dX7_isAllSeenSo_59 : decode cX7_isAllSeenSo 59 = .ok (.if_icmp .eq 5, 3) := by decide +kernel
theorem dX7_isAllSeenSo_62 : decode cX7_isAllSeenSo 62 = .ok (.iconst 0, 1) := by decide +kernel
theorem dX7_isAllSeenSo_63 : decode cX7_isAllSeenSo 63 = .ok (.ireturn, 1) := by decide +kernel
theorem dX7_isAllSeenSo_64 : decode cX7_isAllSeenSo 64 = .ok (.iinc 2 1, 3) := by decide +kernel
theorem dX7_isAllSeenSo_67 : decode cX7_isAllSeenSo 67 = .ok (.goto (-57), 3) := by decide +kernel
theorem dX7_isAllSeenSo_70 : decode cX7_isAllSeenSo 70 = .ok (.aload_n 0, 1) := by decide +kernel
theorem dX7_isAllSeenSo_71 : decode cX7_isAllSeenSo 71 = .ok (.getfield 29, 3) := by decide +kernel
theorem dX7_isAllSeenSo_74 : decode cX7_isAllSeenSo 74 = .ok (.invokevirtual 144, 3) := by decide +kernel
theorem dX7_isAllSeenSo_77 : decode cX7_isAllSeenSo 77 = .ok (.pop, 1) := by decide +kernel
theorem dX7_isAllSeenSo_78 : decode cX7_isAllSeenSo 78 = .ok (.iinc 1 1, 3) := by decide +kernel
theorem dX7_isAllSeenSo_81 : decode cX7_isAllSeenSo 81 = .ok (.goto (-79), 3) := by decide +kernel
theorem dX7_isAllSeenSo_84 : decode cX7_isAllSeenSo 84 = .ok (.iconst 1, 1) := by decide +kernel
theorem dX7_isAllSeenSo_85 : decode cX7_isAllSeenSo 85 = .ok (.ireturn, 1) := by decide +kernel
theorem dX7_fraction_0 : decode cX7_fraction 0 = .ok (.iconst 1, 1) := by decide +kernel
theorem dX7_fraction_1 : decode cX7_fraction 1 = .ok (.istore_n 3, 1) := by decide +kernel
theorem dX7_fraction_2 : decode cX7_fraction 2 = .ok (.iconst 2, 1) := by decide +kernel
theorem dX7_fraction_3 : decode cX7_fraction 3 = .ok (.istore 4, 2) := by decide +kernel
theorem dX7_fraction_5 : decode cX7_fraction 5 = .ok (.iload 4, 2) := by decide +kernel
theorem dX7_fraction_7 : decode cX7_fraction 7 = .ok (.iload_n 1, 1) := by decide +kernel
theorem dX7_fraction_8 : decode cX7_fraction 8 = .ok (.if_icmp .gt 26, 3) := by decide +kernel
theorem dX7_fraction_11 : decode cX7_fraction 11 = .ok (.iload_n 0, 1) := by decide +kernel
theorem dX7_fraction_12 : decode cX7_fraction 12 = .ok (.iload 4, 2) := by decide +kernel
theorem dX7_fraction_14 : decode cX7_fraction 14 = .ok (.irem, 1) := by decide +kernel
theorem dX7_fraction_15 : decode cX7_fraction 15 = .ok (.ifCond .ne 13, 3) := by decide +kernel
theorem dX7_fraction_18 : decode cX7_fraction 18 = .ok (.iload_n 1, 1) := by decide +kernel
theorem dX7_fraction_19 : decode cX7_fraction 19 = .ok (.iload 4, 2) := by decide +kernel
theorem dX7_fraction_21 : decode cX7_fraction 21 = .ok (.irem, 1) := by decide +kernel
theorem dX7_fraction_22 : decode cX7_fraction 22 = .ok (.ifCond .ne 6, 3) := by decide +kernel
theorem dX7_fraction_25 : decode cX7_fraction 25 = .ok (.iload 4, 2) := by decide +kernel
theorem dX7_fraction_27 : decode cX7_fraction 27 = .ok (.istore_n 3, 1) := by decide +kernel
theorem dX7_fraction_28 : decode cX7_fraction 28 = .ok (.iinc 4 1, 3) := by decide +kernel
theorem dX7_fraction_31 : decode cX7_fraction 31 = .ok (.goto (-26), 3) := by decide +kernel
theorem dX7_fraction_34 : decode cX7_fraction 34 = .ok (.iload_n 2, 1) := by decide +kernel
theorem dX7_fraction_35 : decode cX7_fraction 35 = .ok (.ifCond .ne 10, 3) := by decide +kernel
theorem dX7_fraction_38 : decode cX7_fraction 38 = .ok (.iload_n 0, 1) := by decide +kernel
theorem dX7_fraction_39 : decode cX7_fraction 39 = .ok (.iload_n 3, 1) := by decide +kernel
theorem dX7_fraction_40 : decode cX7_fraction 40 = .ok (.idiv, 1) := by decide +kernel
theorem dX7_fraction_41 : decode cX7_fraction 41 = .ok (.i2l, 1) := by decide +kernel
theorem dX7_fraction_42 : decode cX7_fraction 42 = .ok (.goto 7, 3) := by decide +kernel
theorem dX7_fraction_45 : decode cX7_fraction 45 = .ok (.iload_n 1, 1) := by decide +kernel
theorem dX7_fraction_46 : decode cX7_fraction 46 = .ok (.iload_n 3, 1) := by decide +kernel
theorem dX7_fraction_47 : decode cX7_fraction 47 = .ok (.idiv, 1) := by decide +kernel
theorem dX7_fraction_48 : decode cX7_fraction 48 = .ok (.i2l, 1) := by decide +kernel
theorem dX7_fraction_49 : decode cX7_fraction 49 = .ok (.lreturn, 1) := by decide +kernel
theorem dX8_init_0 : decode cX8_init 0 = .ok (.aload_n 0, 1) := by decide +kernel
theorem dX8_init_1 : decode cX8_init 1 = .ok (.invokespecial 1, 3) := by decide +kernel
theorem dX8_init_4 : decode cX8_init 4 = .ok (.aload_n 0, 1) := by decide +kernel
theorem dX8_init_5 : decode cX8_init 5 = .ok (.iconst 0, 1) := by decide +kernel
theorem dX8_init_6 : decode cX8_init 6 = .ok (.putfield 7, 3) := by decide +kernel
theorem dX8_init_9 : decode cX8_init 9 = .ok (.aload_n 0, 1) := by decide +kernel
theorem dX8_init_10 : decode cX8_init 10 = .ok (.iconst 0, 1) := by decide +kernel
theorem dX8_init_11 : decode cX8_init 11 = .ok (.putfield 13, 3) := by decide +kernel
theorem dX8_init_14 : decode cX8_init 14 = .ok (.aload_n 0, 1) := by decide +kernel
theorem dX8_init_15 : decode cX8_init 15 = .ok (.iconst (-1), 1) := by decide +kernel
theorem dX8_init_16 : decode cX8_init 16 = .ok (.putfield 16, 3) := by decide +kernel
theorem dX8_init_19 : decode cX8_init 19 = .ok (.aload_n 0, 1) := by decide +kernel
theorem dX8_init_20 : decode cX8_init 20 = .ok (.iconst 0, 1) := by decide +kernel
theorem dX8_init_21 : decode cX8_init 21 = .ok (.putfield 19, 3) := by decide +kernel
theorem dX8_init_24 : decode cX8_init 24 = .ok (.aload_n 0, 1) := by decide +kernel
theorem dX8_init_25 : decode cX8_init 25 = .ok (.iconst (-1), 1) := by decide +kernel
theorem dX8_init_26 : decode cX8_init 26 = .ok (.putfield 22, 3) := by decide +kernel
theorem dX8_init_29 : decode cX8_init 29 = .ok (.aload_n 0, 1) := by decide +kernel
theorem dX8_init_30 : decode cX8_init 30 = .ok (.bipush 6, 2) := by decide +kernel
theorem dX8_init_32 : decode cX8_init 32 = .ok (.newarray .int, 2) := by decide +kernel
theorem dX8_init_34 : decode cX8_init 34 = .ok (.putfield 25, 3) := by decide +kernel
theorem dX8_init_37 : decode cX8_init 37 = .ok (.aload_n 0, 1) := by decide +kernel
theorem dX8_init_38 : decode cX8_init 38 = .ok (.bipush 6, 2) := by decide +kernel
theorem dX8_init_40 : decode cX8_init 40 = .ok (.newarray .int, 2) := by decide +kernel
theorem dX8_init_42 : decode cX8_init 42 = .ok (.putfield 29, 3) := by decide +kernel
theorem dX8_init_45 : decode cX8_init 45 = .ok (.aload_n 0, 1) := by decide +kernel
theorem dX8_init_46 : decode cX8_init 46 = .ok (.bipush 6, 2) := by decide +kernel
theorem dX8_init_48 : decode cX8_init 48 = .ok (.newarray .int, 2) := by decide +kernel
theorem dX8_init_50 : decode cX8_init 50 = .ok (.putfield 32, 3) := by decide +kernel
theorem dX8_init_53 : decode cX8_init 53 = .ok (.aload_n 0, 1) := by decide +kernel
theorem dX8_init_54 : decode cX8_init 54 = .ok (.bipush 6, 2) := by decide +kernel
theorem dX8_init_56 : decode cX8_init 56 = .ok (.newarray .int, 2) := by decide +kernel
theorem dX8_init_58 : decode cX8_init 58 = .ok (.putfield 35, 3) := by decide +kernel
theorem dX8_init_61 : decode cX8_init 61 = .ok (.aload_n 0, 1) := by decide +kernel
theorem dX8_init_62 : decode cX8_init 62 = .ok (.bipush 6, 2) := by decide +kernel
theorem dX8_init_64 : decode cX8_init 64 = .ok (.newarray .int, 2) := by decide +kernel
theorem dX8_init_66 : decode cX8_init 66 = .ok (.putfield 38, 3) := by decide +kernel
theorem dX8_init_69 : decode cX8_init 69 = .ok (.aload_n 0, 1) := by decide +kernel
theorem dX8_init_70 : decode cX8_init 70 = .ok (.bipush 24, 2) := by decide +kernel
theorem dX8_init_72 : decode cX8_init 72 = .ok (.newarray .int, 2) := by decide +kernel
theorem dX8_init_74 : decode cX8_init 74 = .ok (.putfield 41, 3) := by decide +kernel
theorem dX8_init_77 : decode cX8_init 77 = .ok (.aload_n 0, 1) := by decide +kernel
theorem dX8_init_78 : decode cX8_init 78 = .ok (.iconst 0, 1) := by decide +kernel
theorem dX8_init_79 : decode cX8_init 79 = .ok (.putfield 44, 3) := by decide +kernel
theorem dX8_init_82 : decode cX8_init 82 = .ok (.aload_n 0, 1) := by decide +kernel
theorem dX8_init_83 : decode cX8_init 83 = .ok (.iconst (-1), 1) := by decide +kernel
theorem dX8_init_84 : decode cX8_init 84 = .ok (.putfield 47, 3) := by decide +kernel
theorem dX8_init_87 : decode cX8_init 87 = .ok (.aload_n 0, 1) := by decide +kernel
theorem dX8_init_88 : decode cX8_init 88 = .ok (.iconst 0, 1) := by decide +kernel
theorem dX8_init_89 : decode cX8_init 89 = .ok (.putfield 50, 3) := by decide +kernel
theorem dX8_init_92 : decode cX8_init 92 = .ok (.aload_n 0, 1) := by decide +kernel
theorem dX8_init_93 : decode cX8_init 93 = .ok (.iconst 0, 1) := by decide +kernel
theorem dX8_init_94 : decode cX8_init 94 = .ok (.putfield 53, 3) := by decide +kernel
theorem dX8_init_97 : decode cX8_init 97 = .ok (.aload_n 0, 1) := by decide +kernel
theorem dX8_init_98 : decode cX8_init 98 = .ok (.iconst 0, 1) := by decide +kernel
theorem dX8_init_99 : decode cX8_init 99 = .ok (.putfield 56, 3) := by decide +kernel
theorem dX8_init_102 : decode cX8_init 102 = .ok (.aload_n 0, 1) := by decide +kernel
theorem dX8_init_103 : decode cX8_init 103 = .ok (.bipush 100, 2) := by decide +kernel
theorem dX8_init_105 : decode cX8_init 105 = .ok (.newarray .int, 2) := by decide +kernel
theorem dX8_init_107 : decode cX8_init 107 = .ok (.putfield 59, 3) := by decide +kernel
theorem dX8_init_110 : decode cX8_init 110 = .ok (.aload_n 0, 1) := by decide +kernel
theorem dX8_init_111 : decode cX8_init 111 = .ok (.bipush 6, 2) := by decide +kernel
theorem dX8_init_113 : decode cX8_init 113 = .ok (.newarray .int, 2) := by decide +kernel
theorem dX8_init_115 : decode cX8_init 115 = .ok (.putfield 62, 3) := by decide +kernel
theorem dX8_init_118 : decode cX8_init 118 = .ok (.aload_n 0, 1) := by decide +kernel
theorem dX8_init_119 : decode cX8_init 119 = .ok (.bipush 60, 2) := by decide +kernel
theorem dX8_init_121 : decode cX8_init 121 = .ok (.newarray .int, 2) := by decide +kernel
theorem dX8_init_123 : decode cX8_init 123 = .ok (.putfield 65, 3) := by decide +kernel
theorem dX8_init_126 : decode cX8_init 126 = .ok (.aload_n 0, 1) := by decide +kernel
theorem dX8_init_127 : decode cX8_init 127 = .ok (.bipush 60, 2) := by decide +kernel
theorem dX8_init_129 : decode cX8_init 129 = .ok (.newarray .int, 2) := by decide +kernel
theorem dX8_init_131 : decode cX8_init 131 = .ok (.putfield 68, 3) := by decide +kernel
theorem dX8_init_134 : decode cX8_init 134 = .ok (.aload_n 0, 1) := by decide +kernel
theorem dX8_init_135 : decode cX8_init 135 = .ok (.bipush 60, 2) := by decide +kernel
theorem dX8_init_137 : decode cX8_init 137 = .ok (.newarray .int, 2) := by decide +kernel
theorem dX8_init_139 : decode cX8_init 139 = .ok (.putfield 71, 3) := by decide +kernel
theorem dX8_init_142 : decode cX8_init 142 = .ok (.aload_n 0, 1) := by decide +kernel
theorem dX8_init_143 : decode cX8_init 143 = .ok (.bipush 60, 2) := by decide +kernel
theorem dX8_init_145 : decode cX8_init 145 = .ok (.newarray .int, 2) := by decide +kernel
theorem dX8_init_147 : decode cX8_init 147 = .ok (.putfield 74, 3) := by decide +kernel
theorem dX8_init_150 : decode cX8_init 150 = .ok (.aload_n 0, 1) := by decide +kernel
theorem dX8_init_151 : decode cX8_init 151 = .ok (.sipush 600, 3) := by decide +kernel
theorem dX8_init_154 : decode cX8_init 154 = .ok (.newarray .int, 2) := by decide +kernel
theorem dX8_init_156 : decode cX8_init 156 = .ok (.putfield 77, 3) := by decide +kernel
theorem dX8_init_159 : decode cX8_init 159 = .ok (.aload_n 0, 1) := by decide +kernel
theorem dX8_init_160 : decode cX8_init 160 = .ok (.bipush 101, 2) := by decide +kernel
theorem dX8_init_162 : decode cX8_init 162 = .ok (.newarray .int, 2) := by decide +kernel
theorem dX8_init_164 : decode cX8_init 164 = .ok (.putfield 80, 3) := by decide +kernel
theorem dX8_init_167 : decode cX8_init 167 = .ok (.aload_n 0, 1) := by decide +kernel
theorem dX8_init_168 : decode cX8_init 168 = .ok (.iconst 0, 1) := by decide +kernel
theorem dX8_init_169 : decode cX8_init 169 = .ok (.putfield 83, 3) := by decide +kernel
theorem dX8_init_172 : decode cX8_init 172 = .ok (.aload_n 0, 1) := by decide +kernel
theorem dX8_init_173 : decode cX8_init 173 = .ok (.iconst 0, 1) := by decide +kernel
theorem dX8_init_174 : decode cX8_init 174 = .ok (.putfield 86, 3) := by decide +kernel
theorem dX8_init_177 : decode cX8_init 177 = .ok (.aload_n 0, 1) := by decide +kernel
theorem dX8_init_178 : decode cX8_init 178 = .ok (.iconst 0, 1) := by decide +kernel
theorem dX8_init_179 : decode cX8_init 179 = .ok (.putfield 89, 3) := by decide +kernel
theorem dX8_init_182 : decode cX8_init 182 = .ok (.aload_n 0, 1) := by decide +kernel
theorem dX8_init_183 : decode cX8_init 183 = .ok (.bipush 14, 2) := by decide +kernel
theorem dX8_init_185 : decode cX8_init 185 = .ok (.newarray .int, 2) := by decide +kernel
theorem dX8_init_187 : decode cX8_init 187 = .ok (.dup, 1) := by decide +kernel
theorem dX8_init_188 : decode cX8_init 188 = .ok (.iconst 0, 1) := by decide +kernel
theorem dX8_init_189 : decode cX8_init 189 = .ok (.bipush 114, 2) := by decide +kernel
theorem dX8_init_191 : decode cX8_init 191 = .ok (.iastore, 1) := by decide +kernel
theorem dX8_init_192 : decode cX8_init 192 = .ok (.dup, 1) := by decide +kernel
theorem dX8_init_193 : decode cX8_init 193 = .ok (.iconst 1, 1) := by decide +kernel
theorem dX8_init_194 : decode cX8_init 194 = .ok (.bipush 97, 2) := by decide +kernel
theorem dX8_init_196 : decode cX8_init 196 = .ok (.iastore, 1) := by decide +kernel
theorem dX8_init_197 : decode cX8_init 197 = .ok (.dup, 1) := by decide +kernel
theorem dX8_init_198 : decode cX8_init 198 = .ok (.iconst 2, 1) := by decide +kernel
theorem dX8_init_199 : decode cX8_init 199 = .ok (.bipush 105, 2) := by decide +kernel
theorem dX8_init_201 : decode cX8_init 201 = .ok (.iastore, 1) := by decide +kernel
theorem dX8_init_202 : decode cX8_init 202 = .ok (.dup, 1) := by decide +kernel
theorem dX8_init_203 : decode cX8_init 203 = .ok (.iconst 3, 1) := by decide +kernel
theorem dX8_init_204 : decode cX8_init 204 = .ok (.bipush 110, 2) := by decide +kernel
theorem dX8_init_206 : decode cX8_init 206 = .ok (.iastore, 1) := by decide +kernel
theorem dX8_init_207 : decode cX8_init 207 = .ok (.dup, 1) := by decide +kernel
theorem dX8_init_208 : decode cX8_init 208 = .ok (.iconst 4, 1) := by decide +kernel
theorem dX8_init_209 : decode cX8_init 209 = .ok (.bipush 100, 2) := by decide +kernel
theorem dX8_init_211 : decode cX8_init 211 = .ok (.iastore, 1) := by decide +kernel
theorem dX8_init_212 : decode cX8_init 212 = .ok (.dup, 1) := by decide +kernel
theorem dX8_init_213 : decode cX8_init 213 = .ok (.iconst 5, 1) := by decide +kernel
theorem dX8_init_214 : decode cX8_init 214 = .ok (.bipush 114, 2) := by decide +kernel
theorem dX8_init_216 : decode cX8_init 216 = .ok (.iastore, 1) := by decide +kernel
theorem dX8_init_217 : decode cX8_init 217 = .ok (.dup, 1) := by decide +kernel
theorem dX8_init_218 : decode cX8_init 218 = .ok (.bipush 6, 2) := by decide +kernel
theorem dX8_init_220 : decode cX8_init 220 = .ok (.bipush 121, 2) := by decide +kernel
theorem dX8_init_222 : decode cX8_init 222 = .ok (.iastore, 1) := by decide +kernel
theorem dX8_init_223 : decode cX8_init 223 = .ok (.dup, 1) := by decide +kernel
theorem dX8_init_224 : decode cX8_init 224 = .ok (.bipush 7, 2) := by decide +kernel
theorem dX8_init_226 : decode cX8_init 226 = .ok (.bipush 102, 2) := by decide +kernel
theorem dX8_init_228 : decode cX8_init 228 = .ok (.iastore, 1) := by decide +kernel
theorem dX8_init_229 : decode cX8_init 229 = .ok (.dup, 1) := by decide +kernel
theorem dX8_init_230 : decode cX8_init 230 = .ok (.bipush 8, 2) := by decide +kernel
theorem dX8_init_232 : decode cX8_init 232 = .ok (.bipush 97, 2) := by decide +kernel
theorem dX8_init_234 : decode cX8_init 234 = .ok (.iastore, 1) := by decide +kernel
theorem dX8_init_235 : decode cX8_init 235 = .ok (.dup, 1) := by decide +kernel
theorem dX8_init_236 : decode cX8_init 236 = .ok (.bipush 9, 2) := by decide +kernel
theorem dX8_init_238 : decode cX8_init 238 = .ok (.bipush 114, 2) := by decide +kernel
theorem dX8_init_240 : decode cX8_init 240 = .ok (.iastore, 1) := by decide +kernel
theorem dX8_init_241 : decode cX8_init 241 = .ok (.dup, 1) := by decide +kernel
theorem dX8_init_242 : decode cX8_init 242 = .ok (.bipush 10, 2) := by decide +kernel
theorem dX8_init_244 : decode cX8_init 244 = .ok (.bipush 99, 2) := by decide +kernel
theorem dX8_init_246 : decode cX8_init 246 = .ok (.iastore, 1) := by decide +kernel
theorem dX8_init_247 : decode cX8_init 247 = .ok (.dup, 1) := by decide +kernel
theorem dX8_init_248 : decode cX8_init 248 = .ok (.bipush 11, 2) := by decide +kernel
theorem dX8_init_250 : decode cX8_init 250 = .ok (.bipush 111, 2) := by decide +kernel
theorem dX8_init_252 : decode cX8_init 252 = .ok (.iastore, 1) := by decide +kernel
theorem dX8_init_253 : decode cX8_init 253 = .ok (.dup, 1) := by decide +kernel
theorem dX8_init_254 : decode cX8_init 254 = .ok (.bipush 12, 2) := by decide +kernel
theorem dX8_init_256 : decode cX8_init 256 = .ok (.bipush 115, 2) := by decide +kernel
theorem dX8_init_258 : decode cX8_init 258 = .ok (.iastore, 1) := by decide +kernel
theorem dX8_init_259 : decode cX8_init 259 = .ok (.dup, 1) := by decide +kernel
theorem dX8_init_260 : decode cX8_init 260 = .ok (.bipush 13, 2) := by decide +kernel
theorem dX8_init_262 : decode cX8_init 262 = .ok (.bipush 116, 2) := by decide +kernel
theorem dX8_init_264 : decode cX8_init 264 = .ok (.iastore, 1) := by decide +kernel
theorem dX8_init_265 : decode cX8_init 265 = .ok (.putfield 92, 3) := by decide +kernel
theorem dX8_init_268 : decode cX8_init 268 = .ok (.aload_n 0, 1) := by decide +kernel
theorem dX8_init_269 : decode cX8_init 269 = .ok (.bipush 100, 2) := by decide +kernel
theorem dX8_init_271 : decode cX8_init 271 = .ok (.newarray .boolean, 2) := by decide +kernel
theorem dX8_init_273 : decode cX8_init 273 = .ok (.putfield 95, 3) := by decide +kernel
theorem dX8_init_276 : decode cX8_init 276 = .ok (.aload_n 0, 1) := by decide +kernel
theorem dX8_init_277 : decode cX8_init 277 = .ok (.sipush 9999, 3) := by decide +kernel
theorem dX8_init_280 : decode cX8_init 280 = .ok (.putfield 99, 3) := by decide +kernel
theorem dX8_init_283 : decode cX8_init 283 = .ok (.aload_n 0, 1) := by decide +kernel
theorem dX8_init_284 : decode cX8_init 284 = .ok (.iconst 0, 1) := by decide +kernel
theorem dX8_init_285 : decode cX8_init 285 = .ok (.putfield 102, 3) := by decide +kernel
theorem dX8_init_288 : decode cX8_init 288 = .ok (.aload_n 0, 1) := by decide +kernel
theorem dX8_init_289 : decode cX8_init 289 = .ok (.iconst 0, 1) := by decide +kernel
theorem dX8_init_290 : decode cX8_init 290 = .ok (.putfield 105, 3) := by decide +kernel
theorem dX8_init_293 : decode cX8_init 293 = .ok (.aload_n 0, 1) := by decide +kernel
theorem dX8_init_294 : decode cX8_init 294 = .ok (.iconst 0, 1) := by decide +kernel
theorem dX8_init_295 : decode cX8_init 295 = .ok (.putfield 108, 3) := by decide +kernel
theorem dX8_init_298 : decode cX8_init 298 = .ok (.aload_n 0, 1) := by decide +kernel
theorem dX8_init_299 : decode cX8_init 299 = .ok (.iconst 0, 1) := by decide +kernel
theorem dX8_init_300 : decode cX8_init 300 = .ok (.putfield 111, 3) := by decide +kernel
theorem dX8_init_303 : decode cX8_init 303 = .ok (.aload_n 0, 1) := by decide +kernel
theorem dX8_init_304 : decode cX8_init 304 = .ok (.bipush 6, 2) := by decide +kernel
theorem dX8_init_306 : decode cX8_init 306 = .ok (.newarray .int, 2) := by decide +kernel
theorem dX8_init_308 : decode cX8_init 308 = .ok (.putfield 114, 3) := by decide +kernel
theorem dX8_init_311 : decode cX8_init 311 = .ok (.aload_n 0, 1) := by decide +kernel
theorem dX8_init_312 : decode cX8_init 312 = .ok (.bipush 6, 2) := by decide +kernel
theorem dX8_init_314 : decode cX8_init 314 = .ok (.newarray .int, 2) := by decide +kernel
theorem dX8_init_316 : decode cX8_init 316 = .ok (.putfield 117, 3) := by decide +kernel
theorem dX8_init_319 : decode cX8_init 319 = .ok (.aload_n 0, 1) := by decide +kernel
theorem dX8_init_320 : decode cX8_init 320 = .ok (.bipush 6, 2) := by decide +kernel
theorem dX8_init_322 : decode cX8_init 322 = .ok (.newarray .int, 2) := by decide +kernel
theorem dX8_init_324 : decode cX8_init 324 = .ok (.putfield 120, 3) := by decide +kernel
theorem dX8_init_327 : decode cX8_init 327 = .ok (.aload_n 0, 1) := by decide +kernel
theorem dX8_init_328 : decode cX8_init 328 = .ok (.iconst 0, 1) := by decide +kernel
theorem dX8_init_329 : decode cX8_init 329 = .ok (.putfield 123, 3) := by decide +kernel
theorem dX8_init_332 : decode cX8_init 332 = .ok (.aload_n 0, 1) := by decide +kernel
theorem dX8_init_333 : decode cX8_init 333 = .ok (.bipush 6, 2) := by decide +kernel
theorem dX8_init_335 : decode cX8_init 335 = .ok (.newarray .int, 2) := by decide +kernel
theorem dX8_init_337 : decode cX8_init 337 = .ok (.putfield 126, 3) := by decide +kernel
theorem dX8_init_340 : decode cX8_init 340 = .ok (.aload_n 0, 1) := by decide +kernel
theorem dX8_init_341 : decode cX8_init 341 = .ok (.bipush 6, 2) := by decide +kernel
theorem dX8_init_343 : decode cX8_init 343 = .ok (.newarray .int, 2) := by decide +kernel
theorem dX8_init_345 : decode cX8_init 345 = .ok (.putfield 129, 3) := by decide +kernel
theorem dX8_init_348 : decode cX8_init 348 = .ok (.aload_n 0, 1) := by decide +kernel
theorem dX8_init_349 : decode cX8_init 349 = .ok (.iconst 0, 1) := by decide +kernel
theorem dX8_init_350 : decode cX8_init 350 = .ok (.putfield 132, 3) := by decide +kernel
theorem dX8_init_353 : decode cX8_init 353 = .ok (.aload_n 0, 1) := by decide +kernel
theorem dX8_init_354 : decode cX8_init 354 = .ok (.iconst 0, 1) := by decide +kernel
theorem dX8_init_355 : decode cX8_init 355 = .ok (.putfield 135, 3) := by decide +kernel
theorem dX8_init_358 : decode cX8_init 358 = .ok (.aload_n 0, 1) := by decide +kernel
theorem dX8_init_359 : decode cX8_init 359 = .ok (.bipush 10, 2) := by decide +kernel
theorem dX8_init_361 : decode cX8_init 361 = .ok (.newarray .int, 2) := by decide +kernel
theorem dX8_init_363 : decode cX8_init 363 = .ok (.putfield 138, 3) := by decide +kernel
theorem dX8_init_366 : decode cX8_init 366 = .ok (.aload_n 0, 1) := by decide +kernel
theorem dX8_init_367 : decode cX8_init 367 = .ok (.bipush 10, 2) := by decide +kernel
theorem dX8_init_369 : decode cX8_init 369 = .ok (.newarray .int, 2) := by decide +kernel
theorem dX8_init_371 : decode cX8_init 371 = .ok (.putfield 141, 3) := by decide +kernel
theorem dX8_init_374 : decode cX8_init 374 = .ok (.aload_n 0, 1) := by decide +kernel
theorem dX8_init_375 : decode cX8_init 375 = .ok (.bipush 8, 2) := by decide +kernel
theorem dX8_init_377 : decode cX8_init 377 = .ok (.newarray .int, 2) := by decide +kernel
theorem dX8_init_379 : decode cX8_init 379 = .ok (.putfield 144, 3) := by decide +kernel
theorem dX8_init_382 : decode cX8_init 382 = .ok (.aload_n 0, 1) := by decide +kernel
theorem dX8_init_383 : decode cX8_init 383 = .ok (.bipush 8, 2) := by decide +kernel
theorem dX8_init_385 : decode cX8_init 385 = .ok (.newarray .int, 2) := by decide +kernel
theorem dX8_init_387 : decode cX8_init 387 = .ok (.putfield 147, 3) := by decide +kernel
theorem dX8_init_390 : decode cX8_init 390 = .ok (.aload_n 0, 1) := by decide +kernel
theorem dX8_init_391 : decode cX8_init 391 = .ok (.iconst 0, 1) := by decide +kernel
theorem dX8_init_392 : decode cX8_init 392 = .ok (.putfield 150, 3) := by decide +kernel
theorem dX8_init_395 : decode cX8_init 395 = .ok (.aload_n 0, 1) := by decide +kernel
theorem dX8_init_396 : decode cX8_init 396 = .ok (.iconst (-1), 1) := by decide +kernel
theorem dX8_init_397 : decode cX8_init 397 = .ok (.putfield 154, 3) := by decide +kernel
theorem dX8_init_400 : decode cX8_init 400 = .ok (.aload_n 0, 1) := by decide +kernel
theorem dX8_init_401 : decode cX8_init 401 = .ok (.iconst 0, 1) := by decide +kernel
theorem dX8_init_402 : decode cX8_init 402 = .ok (.putfield 157, 3) := by decide +kernel
theorem dX8_init_405 : decode cX8_init 405 = .ok (.aload_n 0, 1) := by decide +kernel
theorem dX8_init_406 : decode cX8_init 406 = .ok (.iconst 0, 1) := by decide +kernel
theorem dX8_init_407 : decode cX8_init 407 = .ok (.putfield 160, 3) := by decide +kernel
theorem dX8_init_410 : decode cX8_init 410 = .ok (.aload_n 0, 1) := by decide +kernel
theorem dX8_init_411 : decode cX8_init 411 = .ok (.iconst (-1), 1) := by decide +kernel
theorem dX8_init_412 : decode cX8_init 412 = .ok (.putfield 163, 3) := by decide +kernel
theorem dX8_init_415 : decode cX8_init 415 = .ok (.aload_n 0, 1) := by decide +kernel
theorem dX8_init_416 : decode cX8_init 416 = .ok (.iconst 0, 1) := by decide +kernel
theorem dX8_init_417 : decode cX8_init 417 = .ok (.putfield 166, 3) := by decide +kernel
theorem dX8_init_420 : decode cX8_init 420 = .ok (.aload_n 0, 1) := by decide +kernel
theorem dX8_init_421 : decode cX8_init 421 = .ok (.iconst (-1), 1) := by decide +kernel
theorem dX8_init_422 : decode cX8_init 422 = .ok (.putfield 169, 3) := by decide +kernel
theorem dX8_init_425 : decode cX8_init 425 = .ok (.aload_n 0, 1) := by decide +kernel
theorem dX8_init_426 : decode cX8_init 426 = .ok (.iconst 0, 1) := by decide +kernel
theorem dX8_init_427 : decode cX8_init 427 = .ok (.putfield 172, 3) := by decide +kernel
theorem dX8_init_430 : decode cX8_init 430 = .ok (.aload_n 0, 1) := by decide +kernel
theorem dX8_init_431 : decode cX8_init 431 = .ok (.iconst 0, 1) := by decide +kernel
theorem dX8_init_432 : decode cX8_init 432 = .ok (.putfield 175, 3) := by decide +kernel
theorem dX8_init_435 : decode cX8_init 435 = .ok (.aload_n 0, 1) := by decide +kernel
theorem dX8_init_436 : decode cX8_init 436 = .ok (.iconst 0, 1) := by decide +kernel
theorem dX8_init_437 : decode cX8_init 437 = .ok (.putfield 178, 3) := by decide +kernel
theorem dX8_init_440 : decode cX8_init 440 = .ok (.aload_n 0, 1) := by decide +kernel
theorem dX8_init_441 : decode cX8_init 441 = .ok (.bipush 6, 2) := by decide +kernel
theorem dX8_init_443 : decode cX8_init 443 = .ok (.newarray .int, 2) := by decide +kernel
theorem dX8_init_445 : decode cX8_init 445 = .ok (.putfield 181, 3) := by decide +kernel
theorem dX8_init_448 : decode cX8_init 448 = .ok (.aload_n 0, 1) := by decide +kernel
theorem dX8_init_449 : decode cX8_init 449 = .ok (.bipush 6, 2) := by decide +kernel
theorem dX8_init_451 : decode cX8_init 451 = .ok (.newarray .int, 2) := by decide +kernel
theorem dX8_init_453 : decode cX8_init 453 = .ok (.putfield 184, 3) := by decide +kernel
theorem dX8_init_456 : decode cX8_init 456 = .ok (.aload_n 0, 1) := by decide +kernel
theorem dX8_init_457 : decode cX8_init 457 = .ok (.bipush 6, 2) := by decide +kernel
theorem dX8_init_459 : decode cX8_init 459 = .ok (.newarray .int, 2) := by decide +kernel
theorem dX8_init_461 : decode cX8_init 461 = .ok (.putfield 187, 3) := by decide +kernel
theorem dX8_init_464 : decode cX8_init 464 = .ok (.aload_n 0, 1) := by decide +kernel
theorem dX8_init_465 : decode cX8_init 465 = .ok (.bipush 6, 2) := by decide +kernel
theorem dX8_init_467 : decode cX8_init 467 = .ok (.newarray .int, 2) := by decide +kernel
theorem dX8_init_469 : decode cX8_init 469 = .ok (.putfield 190, 3) := by decide +kernel
theorem dX8_init_472 : decode cX8_init 472 = .ok (.aload_n 0, 1) := by decide +kernel
theorem dX8_init_473 : decode cX8_init 473 = .ok (.bipush 6, 2) := by decide +kernel
theorem dX8_init_475 : decode cX8_init 475 = .ok (.newarray .int, 2) := by decide +kernel
theorem dX8_init_477 : decode cX8_init 477 = .ok (.putfield 193, 3) := by decide +kernel
theorem dX8_init_480 : decode cX8_init 480 = .ok (.aload_n 0, 1) := by decide +kernel
theorem dX8_init_481 : decode cX8_init 481 = .ok (.bipush 24, 2) := by decide +kernel
theorem dX8_init_483 : decode cX8_init 483 = .ok (.newarray .int, 2) := by decide +kernel
theorem dX8_init_485 : decode cX8_init 485 = .ok (.putfield 196, 3) := by decide +kernel
theorem dX8_init_488 : decode cX8_init 488 = .ok (.aload_n 0, 1) := by decide +kernel
theorem dX8_init_489 : decode cX8_init 489 = .ok (.bipush 6, 2) := by decide +kernel
theorem dX8_init_491 : decode cX8_init 491 = .ok (.newarray .int, 2) := by decide +kernel
theorem dX8_init_493 : decode cX8_init 493 = .ok (.putfield 199, 3) := by decide +kernel
theorem dX8_init_496 : decode cX8_init 496 = .ok (.aload_n 0, 1) := by decide +kernel
theorem dX8_init_497 : decode cX8_init 497 = .ok (.bipush 6, 2) := by decide +kernel
theorem dX8_init_499 : decode cX8_init 499 = .ok (.newarray .int, 2) := by decide +kernel
theorem dX8_init_501 : decode cX8_init 501 = .ok (.putfield 202, 3) := by decide +kernel
theorem dX8_init_504 : decode cX8_init 504 = .ok (.aload_n 0, 1) := by decide +kernel
theorem dX8_init_505 : decode cX8_init 505 = .ok (.bipush 10, 2) := by decide +kernel
theorem dX8_init_507 : decode cX8_init 507 = .ok (.newarray .int, 2) := by decide +kernel
theorem dX8_init_509 : decode cX8_init 509 = .ok (.putfield 205, 3) := by decide +kernel
theorem dX8_init_512 : decode cX8_init 512 = .ok (.aload_n 0, 1) := by decide +kernel
theorem dX8_init_513 : decode cX8_init 513 = .ok (.bipush 10, 2) := by decide +kernel
theorem dX8_init_515 : decode cX8_init 515 = .ok (.newarray .int, 2) := by decide +kernel
theorem dX8_init_517 : decode cX8_init 517 = .ok (.putfield 208, 3) := by decide +kernel
theorem dX8_init_520 : decode cX8_init 520 = .ok (.aload_n 0, 1) := by decide +kernel
theorem dX8_init_521 : decode cX8_init 521 = .ok (.bipush 8, 2) := by decide +kernel
theorem dX8_init_523 : decode cX8_init 523 = .ok (.newarray .int, 2) := by decide +kernel
theorem dX8_init_525 : decode cX8_init 525 = .ok (.putfield 211, 3) := by decide +kernel
theorem dX8_init_528 : decode cX8_init 528 = .ok (.aload_n 0, 1) := by decide +kernel
theorem dX8_init_529 : decode cX8_init 529 = .ok (.bipush 8, 2) := by decide +kernel
theorem dX8_init_531 : decode cX8_init 531 = .ok (.newarray .int, 2) := by decide +kernel
theorem dX8_init_533 : decode cX8_init 533 = .ok (.putfield 214, 3) := by decide +kernel
theorem dX8_init_536 : decode cX8_init 536 = .ok (.aload_n 0, 1) := by decide +kernel
theorem dX8_init_537 : decode cX8_init 537 = .ok (.iconst 0, 1) := by decide +kernel
theorem dX8_init_538 : decode cX8_init 538 = .ok (.putfield 217, 3) := by decide +kernel
theorem dX8_init_541 : decode cX8_init 541 = .ok (.aload_n 0, 1) := by decide +kernel
theorem dX8_init_542 : decode cX8_init 542 = .ok (.bipush 20, 2) := by decide +kernel
theorem dX8_init_544 : decode cX8_init 544 = .ok (.newarray .int, 2) := by decide +kernel
theorem dX8_init_546 : decode cX8_init 546 = .ok (.putfield 220, 3) := by decide +kernel
theorem dX8_init_549 : decode cX8_init 549 = .ok (.aload_n 0, 1) := by decide +kernel
theorem dX8_init_550 : decode cX8_init 550 = .ok (.bipush 6, 2) := by decide +kernel
theorem dX8_init_552 : decode cX8_init 552 = .ok (.newarray .int, 2) := by decide +kernel
theorem dX8_init_554 : decode cX8_init 554 = .ok (.dup, 1) := by decide +kernel
theorem dX8_init_555 : decode cX8_init 555 = .ok (.iconst 0, 1) := by decide +kernel
theorem dX8_init_556 : decode cX8_init 556 = .ok (.iconst (-1), 1) := by decide +kernel
theorem dX8_init_557 : decode cX8_init 557 = .ok (.iastore, 1) := by decide +kernel
theorem dX8_init_558 : decode cX8_init 558 = .ok (.dup, 1) := by decide +kernel
theorem dX8_init_559 : decode cX8_init 559 = .ok (.iconst 1, 1) := by decide +kernel
theorem dX8_init_560 : decode cX8_init 560 = .ok (.iconst (-1), 1) := by decide +kernel
theorem dX8_init_561 : decode cX8_init 561 = .ok (.iastore, 1) := by decide +kernel
theorem dX8_init_562 : decode cX8_init 562 = .ok (.dup, 1) := by decide +kernel
theorem dX8_init_563 : decode cX8_init 563 = .ok (.iconst 2, 1) := by decide +kernel
theorem dX8_init_564 : decode cX8_init 564 = .ok (.iconst (-1), 1) := by decide +kernel
theorem dX8_init_565 : decode cX8_init 565 = .ok (.iastore, 1) := by decide +kernel
theorem dX8_init_566 : decode cX8_init 566 = .ok (.dup, 1) := by decide +kernel
theorem dX8_init_567 : decode cX8_init 567 = .ok (.iconst 3, 1) := by decide +kernel
theorem dX8_init_568 : decode cX8_init 568 = .ok (.iconst (-1), 1) := by decide +kernel
theorem dX8_init_569 : decode cX8_init 569 = .ok (.iastore, 1) := by decide +kernel
theorem dX8_init_570 : decode cX8_init 570 = .ok (.dup, 1) := by decide +kernel
theorem dX8_init_571 : decode cX8_init 571 = .ok (.iconst 4, 1) := by decide +kernel
theorem dX8_init_572 : decode cX8_init 572 = .ok (.iconst (-1), 1) := by decide +kernel
theorem dX8_init_573 : decode cX8_init 573 = .ok (.iastore, 1) := by decide +kernel
theorem dX8_init_574 : decode cX8_init 574 = .ok (.dup, 1) := by decide +kernel
theorem dX8_init_575 : decode cX8_init 575 = .ok (.iconst 5, 1) := by decide +kernel
theorem dX8_init_576 : decode cX8_init 576 = .ok (.iconst (-1), 1) := by decide +kernel
theorem dX8_init_577 : decode cX8_init 577 = .ok (.iastore, 1) := by decide +kernel
theorem dX8_init_578 : decode cX8_init 578 = .ok (.putfield 223, 3) := by decide +kernel
theorem dX8_init_581 : decode cX8_init 581 = .ok (.aload_n 0, 1) := by decide +kernel
theorem dX8_init_582 : decode cX8_init 582 = .ok (.bipush 6, 2) := by decide +kernel
theorem dX8_init_584 : decode cX8_init 584 = .ok (.newarray .int, 2) := by decide +kernel
theorem dX8_init_586 : decode cX8_init 586 = .ok (.putfield 226, 3) := by decide +kernel
theorem dX8_init_589 : decode cX8_init 589 = .ok (.aload_n 0, 1) := by decide +kernel
theorem dX8_init_590 : decode cX8_init 590 = .ok (.sipush 360, 3) := by decide +kernel
theorem dX8_init_593 : decode cX8_init 593 = .ok (.newarray .long, 2) := by decide +kernel
theorem dX8_init_595 : decode cX8_init 595 = .ok (.putfield 229, 3) := by decide +kernel
theorem dX8_init_598 : decode cX8_init 598 = .ok (.aload_n 0, 1) := by decide +kernel
theorem dX8_init_599 : decode cX8_init 599 = .ok (.bipush 60, 2) := by decide +kernel
theorem dX8_init_601 : decode cX8_init 601 = .ok (.newarray .long, 2) := by decide +kernel
theorem dX8_init_603 : decode cX8_init 603 = .ok (.putfield 233, 3) := by decide +kernel
theorem dX8_init_606 : decode cX8_init 606 = .ok (.return_, 1) := by decide +kernel
theorem dX8_in_0 : decode cX8_in 0 = .ok (.iload_n 1, 1) := by decide +kernel
theorem dX8_in_1 : decode cX8_in 1 = .ok (.iload_n 2, 1) := by decide +kernel
theorem dX8_in_2 : decode cX8_in 2 = .ok (.if_icmp .lt 12, 3) := by decide +kernel
theorem dX8_in_5 : decode cX8_in 5 = .ok (.iload_n 1, 1) := by decide +kernel
theorem dX8_in_6 : decode cX8_in 6 = .ok (.iload_n 3, 1) := by decide +kernel
theorem dX8_in_7 : decode cX8_in 7 = .ok (.if_icmp .gt 7, 3) := by decide +kernel
theorem dX8_in_10 : decode cX8_in 10 = .ok (.iconst 1, 1) := by decide +kernel
theorem dX8_in_11 : decode cX8_in 11 = .ok (.goto 4, 3) := by decide +kernel
theorem dX8_in_14 : decode cX8_in 14 = .ok (.iconst 0, 1) := by decide +kernel
theorem dX8_in_15 : decode cX8_in 15 = .ok (.ireturn, 1) := by decide +kernel
theorem dX8_held_0 : decode cX8_held 0 = .ok (.iload_n 1, 1) := by decide +kernel
theorem dX8_held_1 : decode cX8_held 1 = .ok (.ifCond .ge 7, 3) := by decide +kernel
theorem dX8_held_4 : decode cX8_held 4 = .ok (.iconst 0, 1) := by decide +kernel
theorem dX8_held_5 : decode cX8_held 5 = .ok (.goto 13, 3) := by decide +kernel
theorem dX8_held_8 : decode cX8_held 8 = .ok (.iload_n 1, 1) := by decide +kernel
theorem dX8_held_9 : decode cX8_held 9 = .ok (.iload_n 2, 1) := by decide +kernel
theorem dX8_held_10 : decode cX8_held 10 = .ok (.if_icmp .le 7, 3) := by decide +kernel
theorem dX8_held_13 : decode cX8_held 13 = .ok (.iload_n 2, 1) := by decide +kernel
theorem dX8_held_14 : decode cX8_held 14 = .ok (.goto 4, 3) := by decide +kernel
theorem dX8_held_17 : decode cX8_held 17 = .ok (.iload_n 1, 1) := by decide +kernel
theorem dX8_held_18 : decode cX8_held 18 = .ok (.ireturn, 1) := by decide +kernel
theorem dX8_orNone_0 : decode cX8_orNone 0 = .ok (.iload_n 1, 1) := by decide +kernel
theorem dX8_orNone_1 : decode cX8_orNone 1 = .ok (.ifCond .ge 8, 3) := by decide +kernel
theorem dX8_orNone_4 : decode cX8_orNone 4 = .ok (.bipush (-5), 2) := by decide +kernel
theorem dX8_orNone_6 : decode cX8_orNone 6 = .ok (.goto 4, 3) := by decide +kernel
theorem dX8_orNone_9 : decode cX8_orNone 9 = .ok (.iload_n 1, 1) := by decide +kernel
theorem dX8_orNone_10 : decode cX8_orNone 10 = .ok (.ireturn, 1) := by decide +kernel
theorem dX8_isPerson_0 : decode cX8_isPerson 0 = .ok (.aload_n 0, 1) := by decide +kernel
theorem dX8_isPerson_1 : decode cX8_isPerson 1 = .ok (.iload_n 1, 1) := by decide +kernel
theorem dX8_isPerson_2 : decode cX8_isPerson 2 = .ok (.iconst 0, 1) := by decide +kernel
theorem dX8_isPerson_3 : decode cX8_isPerson 3 = .ok (.aload_n 0, 1) := by decide +kernel
theorem dX8_isPerson_4 : decode cX8_isPerson 4 = .ok (.getfield 7, 3) := by decide +kernel
theorem dX8_isPerson_7 : decode cX8_isPerson 7 = .ok (.iconst 1, 1) := by decide +kernel
theorem dX8_isPerson_8 : decode cX8_isPerson 8 = .ok (.isub, 1) := by decide +kernel
theorem dX8_isPerson_9 : decode cX8_isPerson 9 = .ok (.invokevirtual 236, 3) := by decide +kernel
theorem dX8_isPerson_12 : decode cX8_isPerson 12 = .ok (.ireturn, 1) := by decide +kernel
theorem dX8_isDoor_0 : decode cX8_isDoor 0 = .ok (.aload_n 0, 1) := by decide +kernel
theorem dX8_isDoor_1 : decode cX8_isDoor 1 = .ok (.iload_n 1, 1) := by decide +kernel
theorem dX8_isDoor_2 : decode cX8_isDoor 2 = .ok (.iconst 0, 1) := by decide +kernel
theorem dX8_isDoor_3 : decode cX8_isDoor 3 = .ok (.bipush 19, 2) := by decide +kernel
theorem dX8_isDoor_5 : decode cX8_isDoor 5 = .ok (.invokevirtual 236, 3) := by decide +kernel
theorem dX8_isDoor_8 : decode cX8_isDoor 8 = .ok (.ireturn, 1) := by decide +kernel
theorem dX8_isHopes_0 : decode cX8_isHopes 0 = .ok (.aload_n 0, 1) := by decide +kernel
theorem dX8_isHopes_1 : decode cX8_isHopes 1 = .ok (.iload_n 1, 1) := by decide +kernel
theorem dX8_isHopes_2 : decode cX8_isHopes 2 = .ok (.iconst 0, 1) := by decide +kernel
theorem dX8_isHopes_3 : decode cX8_isHopes 3 = .ok (.bipush 9, 2) := by decide +kernel
theorem dX8_isHopes_5 : decode cX8_isHopes 5 = .ok (.invokevirtual 236, 3) := by decide +kernel
theorem dX8_isHopes_8 : decode cX8_isHopes 8 = .ok (.ireturn, 1) := by decide +kernel
theorem dX8_isFew_0 : decode cX8_isFew 0 = .ok (.aload_n 0, 1) := by decide +kernel
theorem dX8_isFew_1 : decode cX8_isFew 1 = .ok (.iload_n 1, 1) := by decide +kernel
theorem dX8_isFew_2 : decode cX8_isFew 2 = .ok (.iconst 1, 1) := by decide +kernel
theorem dX8_isFew_3 : decode cX8_isFew 3 = .ok (.bipush 60, 2) := by decide +kernel
theorem dX8_isFew_5 : decode cX8_isFew 5 = .ok (.invokevirtual 236, 3) := by decide +kernel
theorem dX8_isFew_8 : decode cX8_isFew 8 = .ok (.ireturn, 1) := by decide +kernel
theorem dX8_person_0 : decode cX8_person 0 = .ok (.aload_n 0, 1) := by decide +kernel
theorem dX8_person_1 : decode cX8_person 1 = .ok (.iload_n 1, 1) := by decide +kernel
theorem dX8_person_2 : decode cX8_person 2 = .ok (.iconst 0, 1) := by decide +kernel
theorem dX8_person_3 : decode cX8_person 3 = .ok (.bipush 6, 2) := by decide +kernel
theorem dX8_person_5 : decode cX8_person 5 = .ok (.invokevirtual 236, 3) := by decide +kernel
theorem dX8_person_8 : decode cX8_person 8 = .ok (.ifCond .ne 5, 3) := by decide +kernel
theorem dX8_person_11 : decode cX8_person 11 = .ok (.iconst (-1), 1) := by decide +kernel
theorem dX8_person_12 : decode cX8_person 12 = .ok (.ireturn, 1) := by decide +kernel
theorem dX8_person_13 : decode cX8_person 13 = .ok (.aload_n 0, 1) := by decide +kernel
theorem dX8_person_14 : decode cX8_person 14 = .ok (.iload_n 2, 1) := by decide +kernel
theorem dX8_person_15 : decode cX8_person 15 = .ok (.iconst 0, 1) := by decide +kernel
theorem dX8_person_16 : decode cX8_person 16 = .ok (.bipush 9, 2) := by decide +kernel
theorem dX8_person_18 : decode cX8_person 18 = .ok (.invokevirtual 236, 3) := by decide +kernel
theorem dX8_person_21 : decode cX8_person 21 = .ok (.ifCond .eq 20, 3) := by decide +kernel
theorem dX8_person_24 : decode cX8_person 24 = .ok (.aload_n 0, 1) := by decide +kernel
theorem dX8_person_25 : decode cX8_person 25 = .ok (.iload_n 3, 1) := by decide +kernel
theorem dX8_person_26 : decode cX8_person 26 = .ok (.invokevirtual 240, 3) := by decide +kernel
theorem dX8_person_29 : decode cX8_person 29 = .ok (.ifCond .eq 12, 3) := by decide +kernel
theorem dX8_person_32 : decode cX8_person 32 = .ok (.aload_n 0, 1) := by decide +kernel
theorem dX8_person_33 : decode cX8_person 33 = .ok (.iload 4, 2) := by decide +kernel
theorem dX8_person_35 : decode cX8_person 35 = .ok (.invokevirtual 244, 3) := by decide +kernel
theorem dX8_person_38 : decode cX8_person 38 = .ok (.ifCond .ne 6, 3) := by decide +kernel
theorem dX8_person_41 : decode cX8_person 41 = .ok (.bipush (-2), 2) := by decide +kernel
theorem dX8_person_43 : decode cX8_person 43 = .ok (.ireturn, 1) := by decide +kernel
theorem dX8_person_44 : decode cX8_person 44 = .ok (.aload_n 0, 1) := by decide +kernel
theorem dX8_person_45 : decode cX8_person 45 = .ok (.getfield 7, 3) := by decide +kernel
theorem dX8_person_48 : decode cX8_person 48 = .ok (.bipush 6, 2) := by decide +kernel
theorem dX8_person_50 : decode cX8_person 50 = .ok (.if_icmp .ne 6, 3) := by decide +kernel
theorem dX8_person_53 : decode cX8_person 53 = .ok (.bipush (-4), 2) := by decide +kernel
theorem dX8_person_55 : decode cX8_person 55 = .ok (.ireturn, 1) := by decide +kernel
theorem dX8_person_56 : decode cX8_person 56 = .ok (.aload_n 0, 1) := by decide +kernel
theorem dX8_person_57 : decode cX8_person 57 = .ok (.getfield 25, 3) := by decide +kernel
theorem dX8_person_60 : decode cX8_person 60 = .ok (.aload_n 0, 1) := by decide +kernel
theorem dX8_person_61 : decode cX8_person 61 = .ok (.getfield 7, 3) := by decide +kernel
theorem dX8_person_64 : decode cX8_person 64 = .ok (.iload_n 1, 1) := by decide +kernel
theorem dX8_person_65 : decode cX8_person 65 = .ok (.iastore, 1) := by decide +kernel
theorem dX8_person_66 : decode cX8_person 66 = .ok (.aload_n 0, 1) := by decide +kernel
theorem dX8_person_67 : decode cX8_person 67 = .ok (.getfield 29, 3) := by decide +kernel
theorem dX8_person_70 : decode cX8_person 70 = .ok (.aload_n 0, 1) := by decide +kernel
theorem dX8_person_71 : decode cX8_person 71 = .ok (.getfield 7, 3) := by decide +kernel
theorem dX8_person_74 : decode cX8_person 74 = .ok (.iload_n 2, 1) := by decide +kernel
theorem dX8_person_75 : decode cX8_person 75 = .ok (.iastore, 1) := by decide +kernel
theorem dX8_person_76 : decode cX8_person 76 = .ok (.aload_n 0, 1) := by decide +kernel
theorem dX8_person_77 : decode cX8_person 77 = .ok (.getfield 32, 3) := by decide +kernel
theorem dX8_person_80 : decode cX8_person 80 = .ok (.aload_n 0, 1) := by decide +kernel
theorem dX8_person_81 : decode cX8_person 81 = .ok (.getfield 7, 3) := by decide +kernel
theorem dX8_person_84 : decode cX8_person 84 = .ok (.iload_n 3, 1) := by decide +kernel
theorem dX8_person_85 : decode cX8_person 85 = .ok (.iastore, 1) := by decide +kernel
theorem dX8_person_86 : decode cX8_person 86 = .ok (.aload_n 0, 1) := by decide +kernel
theorem dX8_person_87 : decode cX8_person 87 = .ok (.getfield 35, 3) := by decide +kernel
theorem dX8_person_90 : decode cX8_person 90 = .ok (.aload_n 0, 1) := by decide +kernel
theorem dX8_person_91 : decode cX8_person 91 = .ok (.getfield 7, 3) := by decide +kernel
theorem dX8_person_94 : decode cX8_person 94 = .ok (.iload 4, 2) := by decide +kernel
theorem dX8_person_96 : decode cX8_person 96 = .ok (.iastore, 1) := by decide +kernel
theorem dX8_person_97 : decode cX8_person 97 = .ok (.aload_n 0, 1) := by decide +kernel
theorem dX8_person_98 : decode cX8_person 98 = .ok (.getfield 38, 3) := by decide +kernel
theorem dX8_person_101 : decode cX8_person 101 = .ok (.aload_n 0, 1) := by decide +kernel
theorem dX8_person_102 : decode cX8_person 102 = .ok (.getfield 7, 3) := by decide +kernel
theorem dX8_person_105 : decode cX8_person 105 = .ok (.iconst 0, 1) := by decide +kernel
theorem dX8_person_106 : decode cX8_person 106 = .ok (.iastore, 1) := by decide +kernel
theorem dX8_person_107 : decode cX8_person 107 = .ok (.iconst 0, 1) := by decide +kernel
theorem dX8_person_108 : decode cX8_person 108 = .ok (.istore 5, 2) := by decide +kernel
theorem dX8_person_110 : decode cX8_person 110 = .ok (.iload 5, 2) := by decide +kernel
theorem dX8_person_112 : decode cX8_person 112 = .ok (.iconst 4, 1) := by decide +kernel
theorem dX8_person_113 : decode cX8_person 113 = .ok (.if_icmp .ge 24, 3) := by decide +kernel
theorem dX8_person_116 : decode cX8_person 116 = .ok (.aload_n 0, 1) := by decide +kernel
theorem dX8_person_117 : decode cX8_person 117 = .ok (.getfield 41, 3) := by decide +kernel
theorem dX8_person_120 : decode cX8_person 120 = .ok (.iconst 4, 1) := by decide +kernel
theorem dX8_person_121 : decode cX8_person 121 = .ok (.aload_n 0, 1) := by decide +kernel
theorem dX8_person_122 : decode cX8_person 122 = .ok (.getfield 7, 3) := by decide +kernel
theorem dX8_person_125 : decode cX8_person 125 = .ok (.imul, 1) := by decide +kernel
theorem dX8_person_126 : decode cX8_person 126 = .ok (.iload 5, 2) := by decide +kernel
theorem dX8_person_128 : decode cX8_person 128 = .ok (.iadd, 1) := by decide +kernel
theorem dX8_person_129 : decode cX8_person 129 = .ok (.iconst 0, 1) := by decide +kernel
theorem dX8_person_130 : decode cX8_person 130 = .ok (.iastore, 1) := by decide +kernel
theorem dX8_person_131 : decode cX8_person 131 = .ok (.iinc 5 1, 3) := by decide +kernel
theorem dX8_person_134 : decode cX8_person 134 = .ok (.goto (-24), 3) := by decide +kernel
theorem dX8_person_137 : decode cX8_person 137 = .ok (.aload_n 0, 1) := by decide +kernel
theorem dX8_person_138 : decode cX8_person 138 = .ok (.aload_n 0, 1) := by decide +kernel
theorem dX8_person_139 : decode cX8_person 139 = .ok (.getfield 7, 3) := by decide +kernel
theorem dX8_person_142 : decode cX8_person 142 = .ok (.ifCond .ne 7, 3) := by decide +kernel
theorem dX8_person_145 : decode cX8_person 145 = .ok (.iconst 0, 1) := by decide +kernel
theorem dX8_person_146 : decode cX8_person 146 = .ok (.goto 7, 3) := by decide +kernel
theorem dX8_person_149 : decode cX8_person 149 = .ok (.aload_n 0, 1) := by decide +kernel
theorem dX8_person_150 : decode cX8_person 150 = .ok (.getfield 16, 3) := by decide +kernel
theorem dX8_person_153 : decode cX8_person 153 = .ok (.putfield 16, 3) := by decide +kernel
theorem dX8_person_156 : decode cX8_person 156 = .ok (.aload_n 0, 1) := by decide +kernel
theorem dX8_person_157 : decode cX8_person 157 = .ok (.dup, 1) := by decide +kernel
theorem dX8_person_158 : decode cX8_person 158 = .ok (.getfield 7, 3) := by decide +kernel
theorem dX8_person_161 : decode cX8_person 161 = .ok (.iconst 1, 1) := by decide +kernel
theorem dX8_person_162 : decode cX8_person 162 = .ok (.iadd, 1) := by decide +kernel
theorem dX8_person_163 : decode cX8_person 163 = .ok (.putfield 7, 3) := by decide +kernel
theorem dX8_person_166 : decode cX8_person 166 = .ok (.aload_n 0, 1) := by decide +kernel
theorem dX8_person_167 : decode cX8_person 167 = .ok (.getfield 7, 3) := by decide +kernel
theorem dX8_person_170 : decode cX8_person 170 = .ok (.iconst 1, 1) := by decide +kernel
theorem dX8_person_171 : decode cX8_person 171 = .ok (.isub, 1) := by decide +kernel
theorem dX8_person_172 : decode cX8_person 172 = .ok (.ireturn, 1) := by decide +kernel
theorem dX8_set_0 : decode cX8_set 0 = .ok (.aload_n 0, 1) := by decide +kernel
theorem dX8_set_1 : decode cX8_set 1 = .ok (.iload_n 1, 1) := by decide +kernel
theorem dX8_set_2 : decode cX8_set 2 = .ok (.invokevirtual 247, 3) := by decide +kernel
theorem dX8_set_5 : decode cX8_set 5 = .ok (.ifCond .eq 13, 3) := by decide +kernel
theorem dX8_set_8 : decode cX8_set 8 = .ok (.aload_n 0, 1) := by decide +kernel
theorem dX8_set_9 : decode cX8_set 9 = .ok (.iload_n 2, 1) := by decide +kernel
theorem dX8_set_10 : decode cX8_set 10 = .ok (.iconst 0, 1) := by decide +kernel
theorem dX8_set_11 : decode cX8_set 11 = .ok (.iconst 1, 1) := by decide +kernel
theorem dX8_set_12 : decode cX8_set 12 = .ok (.invokevirtual 236, 3) := by decide +kernel
theorem dX8_set_15 : decode cX8_set 15 = .ok (.ifCond .ne 5, 3) := by decide +kernel
theorem dX8_set_18 : decode cX8_set 18 = .ok (.iconst (-1), 1) := by decide +kernel
theorem dX8_set_19 : decode cX8_set 19 = .ok (.ireturn, 1) := by decide +kernel
theorem dX8_set_20 : decode cX8_set 20 = .ok (.iload_n 2, 1) := by decide +kernel
theorem dX8_set_21 : decode cX8_set 21 = .ok (.ifCond .ne 14, 3) := by decide +kernel
theorem dX8_set_24 : decode cX8_set 24 = .ok (.aload_n 0, 1) := by decide +kernel
theorem dX8_set_25 : decode cX8_set 25 = .ok (.iload_n 3, 1) := by decide +kernel
theorem dX8_set_26 : decode cX8_set 26 = .ok (.invokevirtual 240, 3) := by decide +kernel
theorem dX8_set_29 : decode cX8_set 29 = .ok (.ifCond .ne 17, 3) := by decide +kernel
theorem dX8_set_32 : decode cX8_set 32 = .ok (.goto 11, 3) := by decide +kernel
theorem dX8_set_35 : decode cX8_set 35 = .ok (.aload_n 0, 1) := by decide +kernel
theorem dX8_set_36 : decode cX8_set 36 = .ok (.iload_n 3, 1) := by decide +kernel
theorem dX8_set_37 : decode cX8_set 37 = .ok (.invokevirtual 244, 3) := by decide +kernel
theorem dX8_set_40 : decode cX8_set 40 = .ok (.ifCond .ne 6, 3) := by decide +kernel
theorem dX8_set_43 : decode cX8_set 43 = .ok (.bipush (-2), 2) := by decide +kernel
theorem dX8_set_45 : decode cX8_set 45 = .ok (.ireturn, 1) := by decide +kernel
theorem dX8_set_46 : decode cX8_set 46 = .ok (.iload_n 2, 1) := by decide +kernel
theorem dX8_set_47 : decode cX8_set 47 = .ok (.ifCond .ne 12, 3) := by decide +kernel
theorem dX8_set_50 : decode cX8_set 50 = .ok (.aload_n 0, 1) := by decide +kernel
theorem dX8_set_51 : decode cX8_set 51 = .ok (.getfield 32, 3) := by decide +kernel
theorem dX8_set_54 : decode cX8_set 54 = .ok (.iload_n 1, 1) := by decide +kernel
theorem dX8_set_55 : decode cX8_set 55 = .ok (.iaload, 1) := by decide +kernel
theorem dX8_set_56 : decode cX8_set 56 = .ok (.goto 9, 3) := by decide +kernel
theorem dX8_set_59 : decode cX8_set 59 = .ok (.aload_n 0, 1) := by decide +kernel
theorem dX8_set_60 : decode cX8_set 60 = .ok (.getfield 35, 3) := by decide +kernel
theorem dX8_set_63 : decode cX8_set 63 = .ok (.iload_n 1, 1) := by decide +kernel
theorem dX8_set_64 : decode cX8_set 64 = .ok (.iaload, 1) := by decide +kernel
theorem dX8_set_65 : decode cX8_set 65 = .ok (.istore 4, 2) := by decide +kernel
theorem dX8_set_67 : decode cX8_set 67 = .ok (.iload_n 2, 1) := by decide +kernel
theorem dX8_set_68 : decode cX8_set 68 = .ok (.ifCond .ne 13, 3) := by decide +kernel
theorem dX8_set_71 : decode cX8_set 71 = .ok (.aload_n 0, 1) := by decide +kernel
theorem dX8_set_72 : decode cX8_set 72 = .ok (.getfield 32, 3) := by decide +kernel
theorem dX8_set_75 : decode cX8_set 75 = .ok (.iload_n 1, 1) := by decide +kernel
theorem dX8_set_76 : decode cX8_set 76 = .ok (.iload_n 3, 1) := by decide +kernel
theorem dX8_set_77 : decode cX8_set 77 = .ok (.iastore, 1) := by decide +kernel
theorem dX8_set_78 : decode cX8_set 78 = .ok (.goto 10, 3) := by decide +kernel
theorem dX8_set_81 : decode cX8_set 81 = .ok (.aload_n 0, 1) := by decide +kernel
theorem dX8_set_82 : decode cX8_set 82 = .ok (.getfield 35, 3) := by decide +kernel
theorem dX8_set_85 : decode cX8_set 85 = .ok (.iload_n 1, 1) := by decide +kernel
theorem dX8_set_86 : decode cX8_set 86 = .ok (.iload_n 3, 1) := by decide +kernel
theorem dX8_set_87 : decode cX8_set 87 = .ok (.iastore, 1) := by decide +kernel
theorem dX8_set_88 : decode cX8_set 88 = .ok (.iload 4, 2) := by decide +kernel
theorem dX8_set_90 : decode cX8_set 90 = .ok (.ireturn, 1) := by decide +kernel
theorem dX8_row_0 : decode cX8_row 0 = .ok (.aload_n 0, 1) := by decide +kernel
theorem dX8_row_1 : decode cX8_row 1 = .ok (.iload_n 1, 1) := by decide +kernel
theorem dX8_row_2 : decode cX8_row 2 = .ok (.invokevirtual 247, 3) := by decide +kernel
theorem dX8_row_5 : decode cX8_row 5 = .ok (.ifCond .eq 13, 3) := by decide +kernel
theorem dX8_row_8 : decode cX8_row 8 = .ok (.aload_n 0, 1) := by decide +kernel
theorem dX8_row_9 : decode cX8_row 9 = .ok (.iload_n 2, 1) := by decide +kernel
theorem dX8_row_10 : decode cX8_row 10 = .ok (.iconst 0, 1) := by decide +kernel
theorem dX8_row_11 : decode cX8_row 11 = .ok (.iconst 3, 1) := by decide +kernel
theorem dX8_row_12 : decode cX8_row 12 = .ok (.invokevirtual 236, 3) := by decide +kernel
theorem dX8_row_15 : decode cX8_row 15 = .ok (.ifCond .ne 5, 3) := by decide +kernel
theorem dX8_row_18 : decode cX8_row 18 = .ok (.iconst (-1), 1) := by decide +kernel
theorem dX8_row_19 : decode cX8_row 19 = .ok (.ireturn, 1) := by decide +kernel
theorem dX8_row_20 : decode cX8_row 20 = .ok (.aload_n 0, 1) := by decide +kernel
theorem dX8_row_21 : decode cX8_row 21 = .ok (.iload_n 3, 1) := by decide +kernel
theorem dX8_row_22 : decode cX8_row 22 = .ok (.iconst 0, 1) := by decide +kernel
theorem dX8_row_23 : decode cX8_row 23 = .ok (.bipush 9, 2) := by decide +kernel
theorem dX8_row_25 : decode cX8_row 25 = .ok (.invokevirtual 236, 3) := by decide +kernel
theorem dX8_row_28 : decode cX8_row 28 = .ok (.ifCond .ne 6, 3) := by decide +kernel
theorem dX8_row_31 : decode cX8_row 31 = .ok (.bipush (-2), 2) := by decide +kernel
theorem dX8_row_33 : decode cX8_row 33 = .ok (.ireturn, 1) := by decide +kernel
theorem dX8_row_34 : decode cX8_row 34 = .ok (.aload_n 0, 1) := by decide +kernel
theorem dX8_row_35 : decode cX8_row 35 = .ok (.getfield 25, 3) := by decide +kernel
theorem dX8_row_38 : decode cX8_row 38 = .ok (.iload_n 1, 1) := by decide +kernel
theorem dX8_row_39 : decode cX8_row 39 = .ok (.iaload, 1) := by decide +kernel
theorem dX8_row_40 : decode cX8_row 40 = .ok (.bipush 6, 2) := by decide +kernel
theorem dX8_row_42 : decode cX8_row 42 = .ok (.if_icmp .eq 6, 3) := by decide +kernel
theorem dX8_row_45 : decode cX8_row 45 = .ok (.bipush (-3), 2) := by decide +kernel
theorem dX8_row_47 : decode cX8_row 47 = .ok (.ireturn, 1) := by decide +kernel
theorem dX8_row_48 : decode cX8_row 48 = .ok (.aload_n 0, 1) := by decide +kernel
theorem dX8_row_49 : decode cX8_row 49 = .ok (.getfield 41, 3) := by decide +kernel
theorem dX8_row_52 : decode cX8_row 52 = .ok (.iconst 4, 1) := by decide +kernel
theorem dX8_row_53 : decode cX8_row 53 = .ok (.iload_n 1, 1) := by decide +kernel
theorem dX8_row_54 : decode cX8_row 54 = .ok (.imul, 1) := by decide +kernel
theorem dX8_row_55 : decode cX8_row 55 = .ok (.iload_n 2, 1) := by decide +kernel
theorem dX8_row_56 : decode cX8_row 56 = .ok (.iadd, 1) := by decide +kernel
theorem dX8_row_57 : decode cX8_row 57 = .ok (.iaload, 1) := by decide +kernel
theorem dX8_row_58 : decode cX8_row 58 = .ok (.istore 4, 2) := by decide +kernel
theorem dX8_row_60 : decode cX8_row 60 = .ok (.aload_n 0, 1) := by decide +kernel
theorem dX8_row_61 : decode cX8_row 61 = .ok (.getfield 41, 3) := by decide +kernel
theorem dX8_row_64 : decode cX8_row 64 = .ok (.iconst 4, 1) := by decide +kernel
theorem dX8_row_65 : decode cX8_row 65 = .ok (.iload_n 1, 1) := by decide +kernel
theorem dX8_row_66 : decode cX8_row 66 = .ok (.imul, 1) := by decide +kernel
theorem dX8_row_67 : decode cX8_row 67 = .ok (.iload_n 2, 1) := by decide +kernel
theorem dX8_row_68 : decode cX8_row 68 = .ok (.iadd, 1) := by decide +kernel
theorem dX8_row_69 : decode cX8_row 69 = .ok (.iload_n 3, 1) := by decide +kernel
theorem dX8_row_70 : decode cX8_row 70 = .ok (.iastore, 1) := by decide +kernel
theorem dX8_row_71 : decode cX8_row 71 = .ok (.iload 4, 2) := by decide +kernel
theorem dX8_row_73 : decode cX8_row 73 = .ok (.ireturn, 1) := by decide +kernel
theorem dX8_gives_0 : decode cX8_gives 0 = .ok (.aload_n 0, 1) := by decide +kernel
theorem dX8_gives_1 : decode cX8_gives 1 = .ok (.iload_n 1, 1) := by decide +kernel
theorem dX8_gives_2 : decode cX8_gives 2 = .ok (.putfield 16, 3) := by decide +kernel
theorem dX8_gives_5 : decode cX8_gives 5 = .ok (.aload_n 0, 1) := by decide +kernel
theorem dX8_gives_6 : decode cX8_gives 6 = .ok (.iconst (-1), 1) := by decide +kernel
theorem dX8_gives_7 : decode cX8_gives 7 = .ok (.putfield 22, 3) := by decide +kernel
theorem dX8_gives_10 : decode cX8_gives 10 = .ok (.return_, 1) := by decide +kernel
theorem dX8_with_0 : decode cX8_with 0 = .ok (.aload_n 0, 1) := by decide +kernel
theorem dX8_with_1 : decode cX8_with 1 = .ok (.iload_n 1, 1) := by decide +kernel
theorem dX8_with_2 : decode cX8_with 2 = .ok (.invokevirtual 247, 3) := by decide +kernel
theorem dX8_with_5 : decode cX8_with 5 = .ok (.ifCond .ne 5, 3) := by decide +kernel
theorem dX8_with_8 : decode cX8_with 8 = .ok (.iconst (-1), 1) := by decide +kernel
theorem dX8_with_9 : decode cX8_with 9 = .ok (.ireturn, 1) := by decide +kernel
theorem dX8_with_10 : decode cX8_with 10 = .ok (.aload_n 0, 1) := by decide +kernel
theorem dX8_with_11 : decode cX8_with 11 = .ok (.getfield 16, 3) := by decide +kernel
theorem dX8_with_14 : decode cX8_with 14 = .ok (.istore_n 2, 1) := by decide +kernel
theorem dX8_with_15 : decode cX8_with 15 = .ok (.aload_n 0, 1) := by decide +kernel
theorem dX8_with_16 : decode cX8_with 16 = .ok (.iload_n 1, 1) := by decide +kernel
theorem dX8_with_17 : decode cX8_with 17 = .ok (.invokevirtual 250, 3) := by decide +kernel
theorem dX8_with_20 : decode cX8_with 20 = .ok (.aload_n 0, 1) := by decide +kernel
theorem dX8_with_21 : decode cX8_with 21 = .ok (.iload_n 2, 1) := by decide +kernel
theorem dX8_with_22 : decode cX8_with 22 = .ok (.invokevirtual 254, 3) := by decide +kernel
theorem dX8_with_25 : decode cX8_with 25 = .ok (.ireturn, 1) := by decide +kernel
theorem dX8_weight_0 : decode cX8_weight 0 = .ok (.aload_n 0, 1) := by decide +kernel
theorem dX8_weight_1 : decode cX8_weight 1 = .ok (.iload_n 1, 1) := by decide +kernel
theorem dX8_weight_2 : decode cX8_weight 2 = .ok (.iconst 0, 1) := by decide +kernel
theorem dX8_weight_3 : decode cX8_weight 3 = .ok (.sipush 999, 3) := by decide +kernel
theorem dX8_weight_6 : decode cX8_weight 6 = .ok (.invokevirtual 236, 3) := by decide +kernel
theorem dX8_weight_9 : decode cX8_weight 9 = .ok (.ifCond .ne 6, 3) := by decide +kernel
theorem dX8_weight_12 : decode cX8_weight 12 = .ok (.bipush (-2), 2) := by decide +kernel
theorem dX8_weight_14 : decode cX8_weight 14 = .ok (.ireturn, 1) := by decide +kernel
theorem dX8_weight_15 : decode cX8_weight 15 = .ok (.aload_n 0, 1) := by decide +kernel
theorem dX8_weight_16 : decode cX8_weight 16 = .ok (.getfield 19, 3) := by decide +kernel
theorem dX8_weight_19 : decode cX8_weight 19 = .ok (.istore_n 2, 1) := by decide +kernel
theorem dX8_weight_20 : decode cX8_weight 20 = .ok (.aload_n 0, 1) := by decide +kernel
theorem dX8_weight_21 : decode cX8_weight 21 = .ok (.iload_n 1, 1) := by decide +kernel
theorem dX8_weight_22 : decode cX8_weight 22 = .ok (.putfield 19, 3) := by decide +kernel
theorem dX8_weight_25 : decode cX8_weight 25 = .ok (.iload_n 2, 1) := by decide +kernel
theorem dX8_weight_26 : decode cX8_weight 26 = .ok (.ireturn, 1) := by decide +kernel
theorem dX8_feed_0 : decode cX8_feed 0 = .ok (.aload_n 0, 1) := by decide +kernel
theorem dX8_feed_1 : decode cX8_feed 1 = .ok (.iload_n 1, 1) := by decide +kernel
theorem dX8_feed_2 : decode cX8_feed 2 = .ok (.iconst 0, 1) := by decide +kernel
theorem dX8_feed_3 : decode cX8_feed 3 = .ok (.bipush 127, 2) := by decide +kernel
theorem dX8_feed_5 : decode cX8_feed 5 = .ok (.invokevirtual 236, 3) := by decide +kernel
theorem dX8_feed_8 : decode cX8_feed 8 = .ok (.ifCond .ne 6, 3) := by decide +kernel
theorem dX8_feed_11 : decode cX8_feed 11 = .ok (.bipush (-2), 2) := by decide +kernel
theorem dX8_feed_13 : decode cX8_feed 13 = .ok (.ireturn, 1) := by decide +kernel
theorem dX8_feed_14 : decode cX8_feed 14 = .ok (.aload_n 0, 1) := by decide +kernel
theorem dX8_feed_15 : decode cX8_feed 15 = .ok (.getfield 50, 3) := by decide +kernel
theorem dX8_feed_18 : decode cX8_feed 18 = .ok (.bipush 100, 2) := by decide +kernel
theorem dX8_feed_20 : decode cX8_feed 20 = .ok (.if_icmp .ne 6, 3) := by decide +kernel
theorem dX8_feed_23 : decode cX8_feed 23 = .ok (.bipush (-4), 2) := by decide +kernel
theorem dX8_feed_25 : decode cX8_feed 25 = .ok (.ireturn, 1) := by decide +kernel
theorem dX8_feed_26 : decode cX8_feed 26 = .ok (.aload_n 0, 1) := by decide +kernel
theorem dX8_feed_27 : decode cX8_feed 27 = .ok (.getfield 59, 3) := by decide +kernel
theorem dX8_feed_30 : decode cX8_feed 30 = .ok (.aload_n 0, 1) := by decide +kernel
theorem dX8_feed_31 : decode cX8_feed 31 = .ok (.getfield 50, 3) := by decide +kernel
theorem dX8_feed_34 : decode cX8_feed 34 = .ok (.iload_n 1, 1) := by decide +kernel
theorem dX8_feed_35 : decode cX8_feed 35 = .ok (.iastore, 1) := by decide +kernel
theorem dX8_feed_36 : decode cX8_feed 36 = .ok (.aload_n 0, 1) := by decide +kernel
theorem dX8_feed_37 : decode cX8_feed 37 = .ok (.dup, 1) := by decide +kernel
theorem dX8_feed_38 : decode cX8_feed 38 = .ok (.getfield 50, 3) := by decide +kernel
theorem dX8_feed_41 : decode cX8_feed 41 = .ok (.iconst 1, 1) := by decide +kernel
theorem dX8_feed_42 : decode cX8_feed 42 = .ok (.iadd, 1) := by decide +kernel
theorem dX8_feed_43 : decode cX8_feed 43 = .ok (.putfield 50, 3) := by decide +kernel
theorem dX8_feed_46 : decode cX8_feed 46 = .ok (.aload_n 0, 1) := by decide +kernel
theorem dX8_feed_47 : decode cX8_feed 47 = .ok (.getfield 50, 3) := by decide +kernel
theorem dX8_feed_50 : decode cX8_feed 50 = .ok (.ireturn, 1) := by decide +kernel
theorem dX8_next_0 : decode cX8_next 0 = .ok (.aload_n 0, 1) := by decide +kernel
theorem dX8_next_1 : decode cX8_next 1 = .ok (.getfield 53, 3) := by decide +kernel
theorem dX8_next_4 : decode cX8_next 4 = .ok (.aload_n 0, 1) := by decide +kernel
theorem dX8_next_5 : decode cX8_next 5 = .ok (.getfield 50, 3) := by decide +kernel
theorem dX8_next_8 : decode cX8_next 8 = .ok (.if_icmp .ge 15, 3) := by decide +kernel
theorem dX8_next_11 : decode cX8_next 11 = .ok (.aload_n 0, 1) := by decide +kernel
theorem dX8_next_12 : decode cX8_next 12 = .ok (.getfield 59, 3) := by decide +kernel
theorem dX8_next_15 : decode cX8_next 15 = .ok (.aload_n 0, 1) := by decide +kernel
theorem dX8_next_16 : decode cX8_next 16 = .ok (.getfield 53, 3) := by decide +kernel
theorem dX8_next_19 : decode cX8_next 19 = .ok (.iaload, 1) := by decide +kernel
theorem dX8_next_20 : decode cX8_next 20 = .ok (.goto 4, 3) := by decide +kernel
theorem dX8_next_23 : decode cX8_next 23 = .ok (.iconst (-1), 1) := by decide +kernel
theorem dX8_next_24 : decode cX8_next 24 = .ok (.ireturn, 1) := by decide +kernel
theorem dX8_takes_0 : decode cX8_takes 0 = .ok (.aload_n 0, 1) := by decide +kernel
theorem dX8_takes_1 : decode cX8_takes 1 = .ok (.invokevirtual 258, 3) := by decide +kernel
theorem dX8_takes_4 : decode cX8_takes 4 = .ok (.iload_n 1, 1) := by decide +kernel
theorem dX8_takes_5 : decode cX8_takes 5 = .ok (.if_icmp .eq 5, 3) := by decide +kernel
theorem dX8_takes_8 : decode cX8_takes 8 = .ok (.iconst 0, 1) := by decide +kernel
theorem dX8_takes_9 : decode cX8_takes 9 = .ok (.ireturn, 1) := by decide +kernel
theorem dX8_takes_10 : decode cX8_takes 10 = .ok (.aload_n 0, 1) := by decide +kernel
theorem dX8_takes_11 : decode cX8_takes 11 = .ok (.dup, 1) := by decide +kernel
theorem dX8_takes_12 : decode cX8_takes 12 = .ok (.getfield 53, 3) := by decide +kernel
theorem dX8_takes_15 : decode cX8_takes 15 = .ok (.iconst 1, 1) := by decide +kernel
theorem dX8_takes_16 : decode cX8_takes 16 = .ok (.iadd, 1) := by decide +kernel
theorem dX8_takes_17 : decode cX8_takes 17 = .ok (.putfield 53, 3) := by decide +kernel
theorem dX8_takes_20 : decode cX8_takes 20 = .ok (.iconst 1, 1) := by decide +kernel
theorem dX8_takes_21 : decode cX8_takes 21 = .ok (.ireturn, 1) := by decide +kernel
theorem dX8_takesWord_0 : decode cX8_takesWord 0 = .ok (.iconst 0, 1) := by decide +kernel
theorem dX8_takesWord_1 : decode cX8_takesWord 1 = .ok (.istore_n 3, 1) := by decide +kernel
theorem dX8_takesWord_2 : decode cX8_takesWord 2 = .ok (.iload_n 3, 1) := by decide +kernel
theorem dX8_takesWord_3 : decode cX8_takesWord 3 = .ok (.iload_n 2, 1) := by decide +kernel
theorem dX8_takesWord_4 : decode cX8_takesWord 4 = .ok (.if_icmp .ge 26, 3) := by decide +kernel
theorem dX8_takesWord_7 : decode cX8_takesWord 7 = .ok (.aload_n 0, 1) := by decide +kernel
theorem dX8_takesWord_8 : decode cX8_takesWord 8 = .ok (.aload_n 0, 1) := by decide +kernel
theorem dX8_takesWord_9 : decode cX8_takesWord 9 = .ok (.getfield 92, 3) := by decide +kernel
theorem dX8_takesWord_12 : decode cX8_takesWord 12 = .ok (.iload_n 1, 1) := by decide +kernel
theorem dX8_takesWord_13 : decode cX8_takesWord 13 = .ok (.iload_n 3, 1) := by decide +kernel
theorem dX8_takesWord_14 : decode cX8_takesWord 14 = .ok (.iadd, 1) := by decide +kernel
theorem dX8_takesWord_15 : decode cX8_takesWord 15 = .ok (.iaload, 1) := by decide +kernel
theorem dX8_takesWord_16 : decode cX8_takesWord 16 = .ok (.invokevirtual 262, 3) := by decide +kernel
theorem dX8_takesWord_19 : decode cX8_takesWord 19 = .ok (.ifCond .ne 5, 3) := by decide +kernel
theorem dX8_takesWord_22 : decode cX8_takesWord 22 = .ok (.iconst 0, 1) := by decide +kernel
theorem dX8_takesWord_23 : decode cX8_takesWord 23 = .ok (.ireturn, 1) := by decide +kernel
theorem dX8_takesWord_24 : decode cX8_takesWord 24 = .ok (.iinc 3 1, 3) := by decide +kernel
theorem dX8_takesWord_27 : decode cX8_takesWord 27 = .ok (.goto (-25), 3) := by decide +kernel
theorem dX8_takesWord_30 : decode cX8_takesWord 30 = .ok (.aload_n 0, 1) := by decide +kernel
theorem dX8_takesWord_31 : decode cX8_takesWord 31 = .ok (.bipush 32, 2) := by decide +kernel
theorem dX8_takesWord_33 : decode cX8_takesWord 33 = .ok (.invokevirtual 262, 3) := by decide +kernel
theorem dX8_takesWord_36 : decode cX8_takesWord 36 = .ok (.ireturn, 1) := by decide +kernel
theorem dX8_isDigit_0 : decode cX8_isDigit 0 = .ok (.aload_n 0, 1) := by decide +kernel
theorem dX8_isDigit_1 : decode cX8_isDigit 1 = .ok (.aload_n 0, 1) := by decide +kernel
theorem dX8_isDigit_2 : decode cX8_isDigit 2 = .ok (.invokevirtual 258, 3) := by decide +kernel
theorem dX8_isDigit_5 : decode cX8_isDigit 5 = .ok (.bipush 48, 2) := by decide +kernel
theorem dX8_isDigit_7 : decode cX8_isDigit 7 = .ok (.bipush 57, 2) := by decide +kernel
theorem dX8_isDigit_9 : decode cX8_isDigit 9 = .ok (.invokevirtual 236, 3) := by decide +kernel
theorem dX8_isDigit_12 : decode cX8_isDigit 12 = .ok (.ireturn, 1) := by decide +kernel
theorem dX8_takesNumber_0 : decode cX8_takesNumber 0 = .ok (.aload_n 0, 1) := by decide +kernel
theorem dX8_takesNumber_1 : decode cX8_takesNumber 1 = .ok (.invokevirtual 265, 3) := by decide +kernel
theorem dX8_takesNumber_4 : decode cX8_takesNumber 4 = .ok (.ifCond .ne 5, 3) := by decide +kernel
theorem dX8_takesNumber_7 : decode cX8_takesNumber 7 = .ok (.iconst 0, 1) := by decide +kernel
theorem dX8_takesNumber_8 : decode cX8_takesNumber 8 = .ok (.ireturn, 1) := by decide +kernel
theorem dX8_takesNumber_9 : decode cX8_takesNumber 9 = .ok (.aload_n 0, 1) := by decide +kernel
theorem dX8_takesNumber_10 : decode cX8_takesNumber 10 = .ok (.iconst 0, 1) := by decide +kernel
theorem dX8_takesNumber_11 : decode cX8_takesNumber 11 = .ok (.putfield 56, 3) := by decide +kernel
theorem dX8_takesNumber_14 : decode cX8_takesNumber 14 = .ok (.iconst 0, 1) := by decide +kernel
theorem dX8_takesNumber_15 : decode cX8_takesNumber 15 = .ok (.istore_n 1, 1) := by decide +kernel
theorem dX8_takesNumber_16 : decode cX8_takesNumber 16 = .ok (.iload_n 1, 1) := by decide +kernel
theorem dX8_takesNumber_17 : decode cX8_takesNumber 17 = .ok (.iconst 2, 1) := by decide +kernel
theorem dX8_takesNumber_18 : decode cX8_takesNumber 18 = .ok (.if_icmp .ge 45, 3) := by decide +kernel
theorem dX8_takesNumber_21 : decode cX8_takesNumber 21 = .ok (.aload_n 0, 1) := by decide +kernel
theorem dX8_takesNumber_22 : decode cX8_takesNumber 22 = .ok (.invokevirtual 265, 3) := by decide +kernel
theorem dX8_takesNumber_25 : decode cX8_takesNumber 25 = .ok (.ifCond .eq 38, 3) := by decide +kernel
theorem dX8_takesNumber_28 : decode cX8_takesNumber 28 = .ok (.aload_n 0, 1) := by decide +kernel
theorem dX8_takesNumber_29 : decode cX8_takesNumber 29 = .ok (.bipush 10, 2) := by decide +kernel
theorem dX8_takesNumber_31 : decode cX8_takesNumber 31 = .ok (.aload_n 0, 1) := by decide +kernel
theorem dX8_takesNumber_32 : decode cX8_takesNumber 32 = .ok (.getfield 56, 3) := by decide +kernel
theorem dX8_takesNumber_35 : decode cX8_takesNumber 35 = .ok (.imul, 1) := by decide +kernel
theorem dX8_takesNumber_36 : decode cX8_takesNumber 36 = .ok (.aload_n 0, 1) := by decide +kernel
theorem dX8_takesNumber_37 : decode cX8_takesNumber 37 = .ok (.invokevirtual 258, 3) := by decide +kernel
theorem dX8_takesNumber_40 : decode cX8_takesNumber 40 = .ok (.iadd, 1) := by decide +kernel
theorem dX8_takesNumber_41 : decode cX8_takesNumber 41 = .ok (.bipush 48, 2) := by decide +kernel
theorem dX8_takesNumber_43 : decode cX8_takesNumber 43 = .ok (.isub, 1) := by decide +kernel
theorem dX8_takesNumber_44 : decode cX8_takesNumber 44 = .ok (.putfield 56, 3) := by decide +kernel
theorem dX8_takesNumber_47 : decode cX8_takesNumber 47 = .ok (.aload_n 0, 1) := by decide +kernel
theorem dX8_takesNumber_48 : decode cX8_takesNumber 48 = .ok (.dup, 1) := by decide +kernel
theorem dX8_takesNumber_49 : decode cX8_takesNumber 49 = .ok (.getfield 53, 3) := by decide +kernel
theorem dX8_takesNumber_52 : decode cX8_takesNumber 52 = .ok (.iconst 1, 1) := by decide +kernel
theorem dX8_takesNumber_53 : decode cX8_takesNumber 53 = .ok (.iadd, 1) := by decide +kernel
theorem dX8_takesNumber_54 : decode cX8_takesNumber 54 = .ok (.putfield 53, 3) := by decide +kernel
theorem dX8_takesNumber_57 : decode cX8_takesNumber 57 = .ok (.iinc 1 1, 3) := by decide +kernel
theorem dX8_takesNumber_60 : decode cX8_takesNumber 60 = .ok (.goto (-44), 3) := by decide +kernel
theorem dX8_takesNumber_63 : decode cX8_takesNumber 63 = .ok (.iconst 1, 1) := by decide +kernel
theorem dX8_takesNumber_64 : decode cX8_takesNumber 64 = .ok (.ireturn, 1) := by decide +kernel
theorem dX8_emits_0 : decode cX8_emits 0 = .ok (.aload_n 0, 1) := by decide +kernel
theorem dX8_emits_1 : decode cX8_emits 1 = .ok (.getfield 77, 3) := by decide +kernel
theorem dX8_emits_4 : decode cX8_emits 4 = .ok (.aload_n 0, 1) := by decide +kernel
theorem dX8_emits_5 : decode cX8_emits 5 = .ok (.getfield 83, 3) := by decide +kernel
theorem dX8_emits_8 : decode cX8_emits 8 = .ok (.iload_n 1, 1) := by decide +kernel
theorem dX8_emits_9 : decode cX8_emits 9 = .ok (.iastore, 1) := by decide +kernel
theorem dX8_emits_10 : decode cX8_emits 10 = .ok (.aload_n 0, 1) := by decide +kernel
theorem dX8_emits_11 : decode cX8_emits 11 = .ok (.dup, 1) := by decide +kernel
theorem dX8_emits_12 : decode cX8_emits 12 = .ok (.getfield 83, 3) := by decide +kernel
theorem dX8_emits_15 : decode cX8_emits 15 = .ok (.iconst 1, 1) := by decide +kernel
theorem dX8_emits_16 : decode cX8_emits 16 = .ok (.iadd, 1) := by decide +kernel
theorem dX8_emits_17 : decode cX8_emits 17 = .ok (.putfield 83, 3) := by decide +kernel
theorem dX8_emits_20 : decode cX8_emits 20 = .ok (.return_, 1) := by decide +kernel
theorem dX8_whole_0 : decode cX8_whole 0 = .ok (.aload_n 0, 1) := by decide +kernel
theorem dX8_whole_1 : decode cX8_whole 1 = .ok (.getfield 86, 3) := by decide +kernel
theorem dX8_whole_4 : decode cX8_whole 4 = .ok (.ifCond .le 48, 3) := by decide +kernel
theorem dX8_whole_7 : decode cX8_whole 7 = .ok (.aload_n 0, 1) := by decide +kernel
theorem dX8_whole_8 : decode cX8_whole 8 = .ok (.getfield 80, 3) := by decide +kernel
theorem dX8_whole_11 : decode cX8_whole 11 = .ok (.aload_n 0, 1) := by decide +kernel
theorem dX8_whole_12 : decode cX8_whole 12 = .ok (.getfield 86, 3) := by decide +kernel
theorem dX8_whole_15 : decode cX8_whole 15 = .ok (.iconst 1, 1) := by decide +kernel
theorem dX8_whole_16 : decode cX8_whole 16 = .ok (.isub, 1) := by decide +kernel
theorem dX8_whole_17 : decode cX8_whole 17 = .ok (.iaload, 1) := by decide +kernel
theorem dX8_whole_18 : decode cX8_whole 18 = .ok (.bipush 33, 2) := by decide +kernel
theorem dX8_whole_20 : decode cX8_whole 20 = .ok (.if_icmp .ne 32, 3) := by decide +kernel
theorem dX8_whole_23 : decode cX8_whole 23 = .ok (.aload_n 0, 1) := by decide +kernel
theorem dX8_whole_24 : decode cX8_whole 24 = .ok (.bipush (-33), 2) := by decide +kernel
theorem dX8_whole_26 : decode cX8_whole 26 = .ok (.invokevirtual 269, 3) := by decide +kernel
theorem dX8_whole_29 : decode cX8_whole 29 = .ok (.aload_n 0, 1) := by decide +kernel
theorem dX8_whole_30 : decode cX8_whole 30 = .ok (.dup, 1) := by decide +kernel
theorem dX8_whole_31 : decode cX8_whole 31 = .ok (.getfield 86, 3) := by decide +kernel
theorem dX8_whole_34 : decode cX8_whole 34 = .ok (.iconst 1, 1) := by decide +kernel
theorem dX8_whole_35 : decode cX8_whole 35 = .ok (.isub, 1) := by decide +kernel
theorem dX8_whole_36 : decode cX8_whole 36 = .ok (.putfield 86, 3) := by decide +kernel
theorem dX8_whole_39 : decode cX8_whole 39 = .ok (.aload_n 0, 1) := by decide +kernel
theorem dX8_whole_40 : decode cX8_whole 40 = .ok (.dup, 1) := by decide +kernel
theorem dX8_whole_41 : decode cX8_whole 41 = .ok (.getfield 89, 3) := by decide +kernel
theorem dX8_whole_44 : decode cX8_whole 44 = .ok (.iconst 1, 1) := by decide +kernel
theorem dX8_whole_45 : decode cX8_whole 45 = .ok (.isub, 1) := by decide +kernel
theorem dX8_whole_46 : decode cX8_whole 46 = .ok (.putfield 89, 3) := by decide +kernel
theorem dX8_whole_49 : decode cX8_whole 49 = .ok (.goto (-49), 3) := by decide +kernel
theorem dX8_whole_52 : decode cX8_whole 52 = .ok (.return_, 1) := by decide +kernel
theorem dX8_settle_0 : decode cX8_settle 0 = .ok (.aload_n 0, 1) := by decide +kernel
theorem dX8_settle_1 : decode cX8_settle 1 = .ok (.getfield 86, 3) := by decide +kernel
theorem dX8_settle_4 : decode cX8_settle 4 = .ok (.ifCond .le 68, 3) := by decide +kernel
theorem dX8_settle_7 : decode cX8_settle 7 = .ok (.aload_n 0, 1) := by decide +kernel
theorem dX8_settle_8 : decode cX8_settle 8 = .ok (.getfield 80, 3) := by decide +kernel
theorem dX8_settle_11 : decode cX8_settle 11 = .ok (.aload_n 0, 1) := by decide +kernel
theorem dX8_settle_12 : decode cX8_settle 12 = .ok (.getfield 86, 3) := by decide +kernel
theorem dX8_settle_15 : decode cX8_settle 15 = .ok (.iconst 1, 1) := by decide +kernel
theorem dX8_settle_16 : decode cX8_settle 16 = .ok (.isub, 1) := by decide +kernel
theorem dX8_settle_17 : decode cX8_settle 17 = .ok (.iaload, 1) := by decide +kernel
theorem dX8_settle_18 : decode cX8_settle 18 = .ok (.bipush 38, 2) := by decide +kernel
theorem dX8_settle_20 : decode cX8_settle 20 = .ok (.if_icmp .eq 25, 3) := by decide +kernel
theorem dX8_settle_23 : decode cX8_settle 23 = .ok (.aload_n 0, 1) := by decide +kernel
theorem dX8_settle_24 : decode cX8_settle 24 = .ok (.getfield 80, 3) := by decide +kernel
theorem dX8_settle_27 : decode cX8_settle 27 = .ok (.aload_n 0, 1) := by decide +kernel
theorem dX8_settle_28 : decode cX8_settle 28 = .ok (.getfield 86, 3) := by decide +kernel
theorem dX8_settle_31 : decode cX8_settle 31 = .ok (.iconst 1, 1) := by decide +kernel
theorem dX8_settle_32 : decode cX8_settle 32 = .ok (.isub, 1) := by decide +kernel
theorem dX8_settle_33 : decode cX8_settle 33 = .ok (.iaload, 1) := by decide +kernel
theorem dX8_settle_34 : decode cX8_settle 34 = .ok (.bipush 124, 2) := by decide +kernel
theorem dX8_settle_36 : decode cX8_settle 36 = .ok (.if_icmp .ne 36, 3) := by decide +kernel
theorem dX8_settle_39 : decode cX8_settle 39 = .ok (.iload_n 1, 1) := by decide +kernel
theorem dX8_settle_40 : decode cX8_settle 40 = .ok (.bipush 38, 2) := by decide +kernel
theorem dX8_settle_42 : decode cX8_settle 42 = .ok (.if_icmp .eq 30, 3) := by decide +kernel
theorem dX8_settle_45 : decode cX8_settle 45 = .ok (.aload_n 0, 1) := by decide +kernel
theorem dX8_settle_46 : decode cX8_settle 46 = .ok (.dup, 1) := by decide +kernel
theorem dX8_settle_47 : decode cX8_settle 47 = .ok (.getfield 86, 3) := by decide +kernel
theorem dX8_settle_50 : decode cX8_settle 50 = .ok (.iconst 1, 1) := by decide +kernel
theorem dX8_settle_51 : decode cX8_settle 51 = .ok (.isub, 1) := by decide +kernel
theorem dX8_settle_52 : decode cX8_settle 52 = .ok (.putfield 86, 3) := by decide +kernel
theorem dX8_settle_55 : decode cX8_settle 55 = .ok (.aload_n 0, 1) := by decide +kernel
theorem dX8_settle_56 : decode cX8_settle 56 = .ok (.aload_n 0, 1) := by decide +kernel
theorem dX8_settle_57 : decode cX8_settle 57 = .ok (.getfield 80, 3) := by decide +kernel
theorem dX8_settle_60 : decode cX8_settle 60 = .ok (.aload_n 0, 1) := by decide +kernel
theorem dX8_settle_61 : decode cX8_settle 61 = .ok (.getfield 86, 3) := by decide +kernel
theorem dX8_settle_64 : decode cX8_settle 64 = .ok (.iaload, 1) := by decide +kernel
theorem dX8_settle_65 : decode cX8_settle 65 = .ok (.ineg, 1) := by decide +kernel
theorem dX8_settle_66 : decode cX8_settle 66 = .ok (.invokevirtual 269, 3) := by decide +kernel
theorem dX8_settle_69 : decode cX8_settle 69 = .ok (.goto (-69), 3) := by decide +kernel
theorem dX8_settle_72 : decode cX8_settle 72 = .ok (.return_, 1) := by decide +kernel
theorem dX8_place_0 : decode cX8_place 0 = .ok (.iload_n 1, 1) := by decide +kernel
theorem dX8_place_1 : decode cX8_place 1 = .ok (.tableswitch 107 100 119 #[99, 107, 107, 107, 101, 107, 107, 97, 107, 107, 107, 107, 95, 107, 107, 105, 107, 107, 107, 103], 95) := by decide +kernel
theorem dX8_place_96 : decode cX8_place 96 = .ok (.iconst 0, 1) := by decide +kernel
theorem dX8_place_97 : decode cX8_place 97 = .ok (.ireturn, 1) := by decide +kernel
theorem dX8_place_98 : decode cX8_place 98 = .ok (.iconst 1, 1) := by decide +kernel
theorem dX8_place_99 : decode cX8_place 99 = .ok (.ireturn, 1) := by decide +kernel
theorem dX8_place_100 : decode cX8_place 100 = .ok (.iconst 2, 1) := by decide +kernel
theorem dX8_place_101 : decode cX8_place 101 = .ok (.ireturn, 1) := by decide +kernel
theorem dX8_place_102 : decode cX8_place 102 = .ok (.iconst 3, 1) := by decide +kernel
theorem dX8_place_103 : decode cX8_place 103 = .ok (.ireturn, 1) := by decide +kernel
theorem dX8_place_104 : decode cX8_place 104 = .ok (.iconst 4, 1) := by decide +kernel
theorem dX8_place_105 : decode cX8_place 105 = .ok (.ireturn, 1) := by decide +kernel
theorem dX8_place_106 : decode cX8_place 106 = .ok (.iconst 5, 1) := by decide +kernel
theorem dX8_place_107 : decode cX8_place 107 = .ok (.ireturn, 1) := by decide +kernel
theorem dX8_place_108 : decode cX8_place 108 = .ok (.iconst (-1), 1) := by decide +kernel
theorem dX8_place_109 : decode cX8_place 109 = .ok (.ireturn, 1) := by decide +kernel
theorem dX8_takesTest_0 : decode cX8_takesTest 0 = .ok (.aload_n 0, 1) := by decide +kernel
theorem dX8_takesTest_1 : decode cX8_takesTest 1 = .ok (.aload_n 0, 1) := by decide +kernel
theorem dX8_takesTest_2 : decode cX8_takesTest 2 = .ok (.invokevirtual 258, 3) := by decide +kernel
theorem dX8_takesTest_5 : decode cX8_takesTest 5 = .ok (.invokevirtual 272, 3) := by decide +kernel
theorem dX8_takesTest_8 : decode cX8_takesTest 8 = .ok (.istore_n 1, 1) := by decide +kernel
theorem dX8_takesTest_9 : decode cX8_takesTest 9 = .ok (.iload_n 1, 1) := by decide +kernel
theorem dX8_takesTest_10 : decode cX8_takesTest 10 = .ok (.ifCond .ge 5, 3) := by decide +kernel
theorem dX8_takesTest_13 : decode cX8_takesTest 13 = .ok (.iconst 0, 1) := by decide +kernel
theorem dX8_takesTest_14 : decode cX8_takesTest 14 = .ok (.ireturn, 1) := by decide +kernel
theorem dX8_takesTest_15 : decode cX8_takesTest 15 = .ok (.aload_n 0, 1) := by decide +kernel
theorem dX8_takesTest_16 : decode cX8_takesTest 16 = .ok (.dup, 1) := by decide +kernel
theorem dX8_takesTest_17 : decode cX8_takesTest 17 = .ok (.getfield 53, 3) := by decide +kernel
theorem dX8_takesTest_20 : decode cX8_takesTest 20 = .ok (.iconst 1, 1) := by decide +kernel
theorem dX8_takesTest_21 : decode cX8_takesTest 21 = .ok (.iadd, 1) := by decide +kernel
theorem dX8_takesTest_22 : decode cX8_takesTest 22 = .ok (.putfield 53, 3) := by decide +kernel
theorem dX8_takesTest_25 : decode cX8_takesTest 25 = .ok (.aload_n 0, 1) := by decide +kernel
theorem dX8_takesTest_26 : decode cX8_takesTest 26 = .ok (.invokevirtual 258, 3) := by decide +kernel
theorem dX8_takesTest_29 : decode cX8_takesTest 29 = .ok (.istore_n 2, 1) := by decide +kernel
theorem dX8_takesTest_30 : decode cX8_takesTest 30 = .ok (.aload_n 0, 1) := by decide +kernel
theorem dX8_takesTest_31 : decode cX8_takesTest 31 = .ok (.iload_n 2, 1) := by decide +kernel
theorem dX8_takesTest_32 : decode cX8_takesTest 32 = .ok (.bipush 60, 2) := by decide +kernel
theorem dX8_takesTest_34 : decode cX8_takesTest 34 = .ok (.bipush 62, 2) := by decide +kernel
theorem dX8_takesTest_36 : decode cX8_takesTest 36 = .ok (.invokevirtual 236, 3) := by decide +kernel
theorem dX8_takesTest_39 : decode cX8_takesTest 39 = .ok (.ifCond .ne 5, 3) := by decide +kernel
theorem dX8_takesTest_42 : decode cX8_takesTest 42 = .ok (.iconst 0, 1) := by decide +kernel
theorem dX8_takesTest_43 : decode cX8_takesTest 43 = .ok (.ireturn, 1) := by decide +kernel
theorem dX8_takesTest_44 : decode cX8_takesTest 44 = .ok (.aload_n 0, 1) := by decide +kernel
theorem dX8_takesTest_45 : decode cX8_takesTest 45 = .ok (.dup, 1) := by decide +kernel
theorem dX8_takesTest_46 : decode cX8_takesTest 46 = .ok (.getfield 53, 3) := by decide +kernel
theorem dX8_takesTest_49 : decode cX8_takesTest 49 = .ok (.iconst 1, 1) := by decide +kernel
theorem dX8_takesTest_50 : decode cX8_takesTest 50 = .ok (.iadd, 1) := by decide +kernel
theorem dX8_takesTest_51 : decode cX8_takesTest 51 = .ok (.putfield 53, 3) := by decide +kernel
theorem dX8_takesTest_54 : decode cX8_takesTest 54 = .ok (.aload_n 0, 1) := by decide +kernel
theorem dX8_takesTest_55 : decode cX8_takesTest 55 = .ok (.invokevirtual 275, 3) := by decide +kernel
theorem dX8_takesTest_58 : decode cX8_takesTest 58 = .ok (.ifCond .ne 5, 3) := by decide +kernel
theorem dX8_takesTest_61 : decode cX8_takesTest 61 = .ok (.iconst 0, 1) := by decide +kernel
theorem dX8_takesTest_62 : decode cX8_takesTest 62 = .ok (.ireturn, 1) := by decide +kernel
theorem dX8_takesTest_63 : decode cX8_takesTest 63 = .ok (.aload_n 0, 1) := by decide +kernel
theorem dX8_takesTest_64 : decode cX8_takesTest 64 = .ok (.sipush 1000, 3) := by decide +kernel
theorem dX8_takesTest_67 : decode cX8_takesTest 67 = .ok (.iload_n 1, 1) := by decide +kernel
theorem dX8_takesTest_68 : decode cX8_takesTest 68 = .ok (.imul, 1) := by decide +kernel
theorem dX8_takesTest_69 : decode cX8_takesTest 69 = .ok (.bipush 100, 2) := by decide +kernel
theorem dX8_takesTest_71 : decode cX8_takesTest 71 = .ok (.iload_n 2, 1) := by decide +kernel
theorem dX8_takesTest_72 : decode cX8_takesTest 72 = .ok (.bipush 60, 2) := by decide +kernel
theorem dX8_takesTest_74 : decode cX8_takesTest 74 = .ok (.isub, 1) := by decide +kernel
theorem dX8_takesTest_75 : decode cX8_takesTest 75 = .ok (.imul, 1) := by decide +kernel
theorem dX8_takesTest_76 : decode cX8_takesTest 76 = .ok (.iadd, 1) := by decide +kernel
theorem dX8_takesTest_77 : decode cX8_takesTest 77 = .ok (.aload_n 0, 1) := by decide +kernel
theorem dX8_takesTest_78 : decode cX8_takesTest 78 = .ok (.getfield 56, 3) := by decide +kernel
theorem dX8_takesTest_81 : decode cX8_takesTest 81 = .ok (.iadd, 1) := by decide +kernel
theorem dX8_takesTest_82 : decode cX8_takesTest 82 = .ok (.invokevirtual 269, 3) := by decide +kernel
theorem dX8_takesTest_85 : decode cX8_takesTest 85 = .ok (.aload_n 0, 1) := by decide +kernel
theorem dX8_takesTest_86 : decode cX8_takesTest 86 = .ok (.invokevirtual 278, 3) := by decide +kernel
theorem dX8_takesTest_89 : decode cX8_takesTest 89 = .ok (.iconst 1, 1) := by decide +kernel
theorem dX8_takesTest_90 : decode cX8_takesTest 90 = .ok (.ireturn, 1) := by decide +kernel
theorem dX8_takesE_0 : decode cX8_takesE 0 = .ok (.aload_n 0, 1) := by decide +kernel
theorem dX8_takesE_1 : decode cX8_takesE 1 = .ok (.iconst 0, 1) := by decide +kernel
theorem dX8_takesE_2 : decode cX8_takesE 2 = .ok (.putfield 86, 3) := by decide +kernel
theorem dX8_takesE_5 : decode cX8_takesE 5 = .ok (.aload_n 0, 1) := by decide +kernel
theorem dX8_takesE_6 : decode cX8_takesE 6 = .ok (.iconst 0, 1) := by decide +kernel
theorem dX8_takesE_7 : decode cX8_takesE 7 = .ok (.putfield 89, 3) := by decide +kernel
theorem dX8_takesE_10 : decode cX8_takesE 10 = .ok (.aload_n 0, 1) := by decide +kernel
theorem dX8_takesE_11 : decode cX8_takesE 11 = .ok (.getfield 71, 3) := by decide +kernel
theorem dX8_takesE_14 : decode cX8_takesE 14 = .ok (.iload_n 1, 1) := by decide +kernel
theorem dX8_takesE_15 : decode cX8_takesE 15 = .ok (.aload_n 0, 1) := by decide +kernel
theorem dX8_takesE_16 : decode cX8_takesE 16 = .ok (.getfield 83, 3) := by decide +kernel
theorem dX8_takesE_19 : decode cX8_takesE 19 = .ok (.iastore, 1) := by decide +kernel
theorem dX8_takesE_20 : decode cX8_takesE 20 = .ok (.iconst 1, 1) := by decide +kernel
theorem dX8_takesE_21 : decode cX8_takesE 21 = .ok (.istore_n 2, 1) := by decide +kernel
theorem dX8_takesE_22 : decode cX8_takesE 22 = .ok (.aload_n 0, 1) := by decide +kernel
theorem dX8_takesE_23 : decode cX8_takesE 23 = .ok (.invokevirtual 258, 3) := by decide +kernel
theorem dX8_takesE_26 : decode cX8_takesE 26 = .ok (.istore_n 3, 1) := by decide +kernel
theorem dX8_takesE_27 : decode cX8_takesE 27 = .ok (.iload_n 2, 1) := by decide +kernel
theorem dX8_takesE_28 : decode cX8_takesE 28 = .ok (.ifCond .eq 82, 3) := by decide +kernel
theorem dX8_takesE_31 : decode cX8_takesE 31 = .ok (.iload_n 3, 1) := by decide +kernel
theorem dX8_takesE_32 : decode cX8_takesE 32 = .ok (.bipush 33, 2) := by decide +kernel
theorem dX8_takesE_34 : decode cX8_takesE 34 = .ok (.if_icmp .eq 9, 3) := by decide +kernel
theorem dX8_takesE_37 : decode cX8_takesE 37 = .ok (.iload_n 3, 1) := by decide +kernel
theorem dX8_takesE_38 : decode cX8_takesE 38 = .ok (.bipush 40, 2) := by decide +kernel
theorem dX8_takesE_40 : decode cX8_takesE 40 = .ok (.if_icmp .ne 56, 3) := by decide +kernel
theorem dX8_takesE_43 : decode cX8_takesE 43 = .ok (.aload_n 0, 1) := by decide +kernel
theorem dX8_takesE_44 : decode cX8_takesE 44 = .ok (.getfield 89, 3) := by decide +kernel
theorem dX8_takesE_47 : decode cX8_takesE 47 = .ok (.iconst 4, 1) := by decide +kernel
theorem dX8_takesE_48 : decode cX8_takesE 48 = .ok (.if_icmp .ne 5, 3) := by decide +kernel
theorem dX8_takesE_51 : decode cX8_takesE 51 = .ok (.iconst 0, 1) := by decide +kernel
theorem dX8_takesE_52 : decode cX8_takesE 52 = .ok (.ireturn, 1) := by decide +kernel
theorem dX8_takesE_53 : decode cX8_takesE 53 = .ok (.aload_n 0, 1) := by decide +kernel
theorem dX8_takesE_54 : decode cX8_takesE 54 = .ok (.dup, 1) := by decide +kernel
theorem dX8_takesE_55 : decode cX8_takesE 55 = .ok (.getfield 89, 3) := by decide +kernel
theorem dX8_takesE_58 : decode cX8_takesE 58 = .ok (.iconst 1, 1) := by decide +kernel
theorem dX8_takesE_59 : decode cX8_takesE 59 = .ok (.iadd, 1) := by decide +kernel
theorem dX8_takesE_60 : decode cX8_takesE 60 = .ok (.putfield 89, 3) := by decide +kernel
theorem dX8_takesE_63 : decode cX8_takesE 63 = .ok (.aload_n 0, 1) := by decide +kernel
theorem dX8_takesE_64 : decode cX8_takesE 64 = .ok (.getfield 80, 3) := by decide +kernel
theorem dX8_takesE_67 : decode cX8_takesE 67 = .ok (.aload_n 0, 1) := by decide +kernel
theorem dX8_takesE_68 : decode cX8_takesE 68 = .ok (.getfield 86, 3) := by decide +kernel
theorem dX8_takesE_71 : decode cX8_takesE 71 = .ok (.iload_n 3, 1) := by decide +kernel
theorem dX8_takesE_72 : decode cX8_takesE 72 = .ok (.iastore, 1) := by decide +kernel
theorem dX8_takesE_73 : decode cX8_takesE 73 = .ok (.aload_n 0, 1) := by decide +kernel
theorem dX8_takesE_74 : decode cX8_takesE 74 = .ok (.dup, 1) := by decide +kernel
theorem dX8_takesE_75 : decode cX8_takesE 75 = .ok (.getfield 86, 3) := by decide +kernel
theorem dX8_takesE_78 : decode cX8_takesE 78 = .ok (.iconst 1, 1) := by decide +kernel
theorem dX8_takesE_79 : decode cX8_takesE 79 = .ok (.iadd, 1) := by decide +kernel
theorem dX8_takesE_80 : decode cX8_takesE 80 = .ok (.putfield 86, 3) := by decide +kernel
theorem dX8_takesE_83 : decode cX8_takesE 83 = .ok (.aload_n 0, 1) := by decide +kernel
theorem dX8_takesE_84 : decode cX8_takesE 84 = .ok (.dup, 1) := by decide +kernel
theorem dX8_takesE_85 : decode cX8_takesE 85 = .ok (.getfield 53, 3) := by decide +kernel
theorem dX8_takesE_88 : decode cX8_takesE 88 = .ok (.iconst 1, 1) := by decide +kernel
theorem dX8_takesE_89 : decode cX8_takesE 89 = .ok (.iadd, 1) := by decide +kernel
theorem dX8_takesE_90 : decode cX8_takesE 90 = .ok (.putfield 53, 3) := by decide +kernel
theorem dX8_takesE_93 : decode cX8_takesE 93 = .ok (.goto (-71), 3) := by decide +kernel
theorem dX8_takesE_96 : decode cX8_takesE 96 = .ok (.aload_n 0, 1) := by decide +kernel
theorem dX8_takesE_97 : decode cX8_takesE 97 = .ok (.invokevirtual 281, 3) := by decide +kernel
theorem dX8_takesE_100 : decode cX8_takesE 100 = .ok (.ifCond .eq 8, 3) := by decide +kernel
theorem dX8_takesE_103 : decode cX8_takesE 103 = .ok (.iconst 0, 1) := by decide +kernel
theorem dX8_takesE_104 : decode cX8_takesE 104 = .ok (.istore_n 2, 1) := by decide +kernel
theorem dX8_takesE_105 : decode cX8_takesE 105 = .ok (.goto (-83), 3) := by decide +kernel
theorem dX8_takesE_108 : decode cX8_takesE 108 = .ok (.iconst 0, 1) := by decide +kernel
theorem dX8_takesE_109 : decode cX8_takesE 109 = .ok (.ireturn, 1) := by decide +kernel
theorem dX8_takesE_110 : decode cX8_takesE 110 = .ok (.iload_n 3, 1) := by decide +kernel
theorem dX8_takesE_111 : decode cX8_takesE 111 = .ok (.bipush 38, 2) := by decide +kernel
theorem dX8_takesE_113 : decode cX8_takesE 113 = .ok (.if_icmp .eq 9, 3) := by decide +kernel
theorem dX8_takesE_116 : decode cX8_takesE 116 = .ok (.iload_n 3, 1) := by decide +kernel
theorem dX8_takesE_117 : decode cX8_takesE 117 = .ok (.bipush 124, 2) := by decide +kernel
theorem dX8_takesE_119 : decode cX8_takesE 119 = .ok (.if_icmp .ne 43, 3) := by decide +kernel
theorem dX8_takesE_122 : decode cX8_takesE 122 = .ok (.aload_n 0, 1) := by decide +kernel
theorem dX8_takesE_123 : decode cX8_takesE 123 = .ok (.iload_n 3, 1) := by decide +kernel
theorem dX8_takesE_124 : decode cX8_takesE 124 = .ok (.invokevirtual 284, 3) := by decide +kernel
theorem dX8_takesE_127 : decode cX8_takesE 127 = .ok (.aload_n 0, 1) := by decide +kernel
theorem dX8_takesE_128 : decode cX8_takesE 128 = .ok (.getfield 80, 3) := by decide +kernel
theorem dX8_takesE_131 : decode cX8_takesE 131 = .ok (.aload_n 0, 1) := by decide +kernel
theorem dX8_takesE_132 : decode cX8_takesE 132 = .ok (.getfield 86, 3) := by decide +kernel
theorem dX8_takesE_135 : decode cX8_takesE 135 = .ok (.iload_n 3, 1) := by decide +kernel
theorem dX8_takesE_136 : decode cX8_takesE 136 = .ok (.iastore, 1) := by decide +kernel
theorem dX8_takesE_137 : decode cX8_takesE 137 = .ok (.aload_n 0, 1) := by decide +kernel
theorem dX8_takesE_138 : decode cX8_takesE 138 = .ok (.dup, 1) := by decide +kernel
theorem dX8_takesE_139 : decode cX8_takesE 139 = .ok (.getfield 86, 3) := by decide +kernel
theorem dX8_takesE_142 : decode cX8_takesE 142 = .ok (.iconst 1, 1) := by decide +kernel
theorem dX8_takesE_143 : decode cX8_takesE 143 = .ok (.iadd, 1) := by decide +kernel
theorem dX8_takesE_144 : decode cX8_takesE 144 = .ok (.putfield 86, 3) := by decide +kernel
theorem dX8_takesE_147 : decode cX8_takesE 147 = .ok (.iconst 1, 1) := by decide +kernel
theorem dX8_takesE_148 : decode cX8_takesE 148 = .ok (.istore_n 2, 1) := by decide +kernel
theorem dX8_takesE_149 : decode cX8_takesE 149 = .ok (.aload_n 0, 1) := by decide +kernel
theorem dX8_takesE_150 : decode cX8_takesE 150 = .ok (.dup, 1) := by decide +kernel
theorem dX8_takesE_151 : decode cX8_takesE 151 = .ok (.getfield 53, 3) := by decide +kernel
theorem dX8_takesE_154 : decode cX8_takesE 154 = .ok (.iconst 1, 1) := by decide +kernel
theorem dX8_takesE_155 : decode cX8_takesE 155 = .ok (.iadd, 1) := by decide +kernel
theorem dX8_takesE_156 : decode cX8_takesE 156 = .ok (.putfield 53, 3) := by decide +kernel
theorem dX8_takesE_159 : decode cX8_takesE 159 = .ok (.goto (-137), 3) := by decide +kernel
theorem dX8_takesE_162 : decode cX8_takesE 162 = .ok (.aload_n 0, 1) := by decide +kernel
theorem dX8_takesE_163 : decode cX8_takesE 163 = .ok (.bipush 124, 2) := by decide +kernel
theorem dX8_takesE_165 : decode cX8_takesE 165 = .ok (.invokevirtual 284, 3) := by decide +kernel
theorem dX8_takesE_168 : decode cX8_takesE 168 = .ok (.aload_n 0, 1) := by decide +kernel
theorem dX8_takesE_169 : decode cX8_takesE 169 = .ok (.getfield 74, 3) := by decide +kernel
theorem dX8_takesE_172 : decode cX8_takesE 172 = .ok (.iload_n 1, 1) := by decide +kernel
theorem dX8_takesE_173 : decode cX8_takesE 173 = .ok (.aload_n 0, 1) := by decide +kernel
theorem dX8_takesE_174 : decode cX8_takesE 174 = .ok (.getfield 83, 3) := by decide +kernel
theorem dX8_takesE_177 : decode cX8_takesE 177 = .ok (.iastore, 1) := by decide +kernel
theorem dX8_takesE_178 : decode cX8_takesE 178 = .ok (.aload_n 0, 1) := by decide +kernel
theorem dX8_takesE_179 : decode cX8_takesE 179 = .ok (.getfield 86, 3) := by decide +kernel
theorem dX8_takesE_182 : decode cX8_takesE 182 = .ok (.ifCond .ne 5, 3) := by decide +kernel
theorem dX8_takesE_185 : decode cX8_takesE 185 = .ok (.iconst 1, 1) := by decide +kernel
theorem dX8_takesE_186 : decode cX8_takesE 186 = .ok (.ireturn, 1) := by decide +kernel
theorem dX8_takesE_187 : decode cX8_takesE 187 = .ok (.iload_n 3, 1) := by decide +kernel
theorem dX8_takesE_188 : decode cX8_takesE 188 = .ok (.bipush 41, 2) := by decide +kernel
theorem dX8_takesE_190 : decode cX8_takesE 190 = .ok (.if_icmp .eq 5, 3) := by decide +kernel
theorem dX8_takesE_193 : decode cX8_takesE 193 = .ok (.iconst 0, 1) := by decide +kernel
theorem dX8_takesE_194 : decode cX8_takesE 194 = .ok (.ireturn, 1) := by decide +kernel
theorem dX8_takesE_195 : decode cX8_takesE 195 = .ok (.aload_n 0, 1) := by decide +kernel
theorem dX8_takesE_196 : decode cX8_takesE 196 = .ok (.dup, 1) := by decide +kernel
theorem dX8_takesE_197 : decode cX8_takesE 197 = .ok (.getfield 86, 3) := by decide +kernel
theorem dX8_takesE_200 : decode cX8_takesE 200 = .ok (.iconst 1, 1) := by decide +kernel
theorem dX8_takesE_201 : decode cX8_takesE 201 = .ok (.isub, 1) := by decide +kernel
theorem dX8_takesE_202 : decode cX8_takesE 202 = .ok (.putfield 86, 3) := by decide +kernel
theorem dX8_takesE_205 : decode cX8_takesE 205 = .ok (.aload_n 0, 1) := by decide +kernel
theorem dX8_takesE_206 : decode cX8_takesE 206 = .ok (.dup, 1) := by decide +kernel
theorem dX8_takesE_207 : decode cX8_takesE 207 = .ok (.getfield 89, 3) := by decide +kernel
theorem dX8_takesE_210 : decode cX8_takesE 210 = .ok (.iconst 1, 1) := by decide +kernel
theorem dX8_takesE_211 : decode cX8_takesE 211 = .ok (.isub, 1) := by decide +kernel
theorem dX8_takesE_212 : decode cX8_takesE 212 = .ok (.putfield 89, 3) := by decide +kernel
theorem dX8_takesE_215 : decode cX8_takesE 215 = .ok (.aload_n 0, 1) := by decide +kernel
theorem dX8_takesE_216 : decode cX8_takesE 216 = .ok (.dup, 1) := by decide +kernel
theorem dX8_takesE_217 : decode cX8_takesE 217 = .ok (.getfield 53, 3) := by decide +kernel
theorem dX8_takesE_220 : decode cX8_takesE 220 = .ok (.iconst 1, 1) := by decide +kernel
theorem dX8_takesE_221 : decode cX8_takesE 221 = .ok (.iadd, 1) := by decide +kernel
theorem dX8_takesE_222 : decode cX8_takesE 222 = .ok (.putfield 53, 3) := by decide +kernel
theorem dX8_takesE_225 : decode cX8_takesE 225 = .ok (.aload_n 0, 1) := by decide +kernel
theorem dX8_takesE_226 : decode cX8_takesE 226 = .ok (.invokevirtual 278, 3) := by decide +kernel
theorem dX8_takesE_229 : decode cX8_takesE 229 = .ok (.goto (-207), 3) := by decide +kernel
theorem dX8_takesHead_0 : decode cX8_takesHead 0 = .ok (.aload_n 0, 1) := by decide +kernel
theorem dX8_takesHead_1 : decode cX8_takesHead 1 = .ok (.invokevirtual 258, 3) := by decide +kernel
theorem dX8_takesHead_4 : decode cX8_takesHead 4 = .ok (.lookupswitch 79 #[(100, 50), (102, 64), (114, 36)], 36) := by decide +kernel
theorem dX8_takesHead_40 : decode cX8_takesHead 40 = .ok (.aload_n 0, 1) := by decide +kernel
theorem dX8_takesHead_41 : decode cX8_takesHead 41 = .ok (.getfield 65, 3) := by decide +kernel
theorem dX8_takesHead_44 : decode cX8_takesHead 44 = .ok (.iload_n 1, 1) := by decide +kernel
theorem dX8_takesHead_45 : decode cX8_takesHead 45 = .ok (.iconst 0, 1) := by decide +kernel
theorem dX8_takesHead_46 : decode cX8_takesHead 46 = .ok (.iastore, 1) := by decide +kernel
theorem dX8_takesHead_47 : decode cX8_takesHead 47 = .ok (.aload_n 0, 1) := by decide +kernel
theorem dX8_takesHead_48 : decode cX8_takesHead 48 = .ok (.iconst 0, 1) := by decide +kernel
theorem dX8_takesHead_49 : decode cX8_takesHead 49 = .ok (.iconst 4, 1) := by decide +kernel
theorem dX8_takesHead_50 : decode cX8_takesHead 50 = .ok (.invokevirtual 287, 3) := by decide +kernel
theorem dX8_takesHead_53 : decode cX8_takesHead 53 = .ok (.ireturn, 1) := by decide +kernel
theorem dX8_takesHead_54 : decode cX8_takesHead 54 = .ok (.aload_n 0, 1) := by decide +kernel
theorem dX8_takesHead_55 : decode cX8_takesHead 55 = .ok (.getfield 65, 3) := by decide +kernel
theorem dX8_takesHead_58 : decode cX8_takesHead 58 = .ok (.iload_n 1, 1) := by decide +kernel
theorem dX8_takesHead_59 : decode cX8_takesHead 59 = .ok (.iconst 1, 1) := by decide +kernel
theorem dX8_takesHead_60 : decode cX8_takesHead 60 = .ok (.iastore, 1) := by decide +kernel
theorem dX8_takesHead_61 : decode cX8_takesHead 61 = .ok (.aload_n 0, 1) := by decide +kernel
theorem dX8_takesHead_62 : decode cX8_takesHead 62 = .ok (.iconst 4, 1) := by decide +kernel
theorem dX8_takesHead_63 : decode cX8_takesHead 63 = .ok (.iconst 3, 1) := by decide +kernel
theorem dX8_takesHead_64 : decode cX8_takesHead 64 = .ok (.invokevirtual 287, 3) := by decide +kernel
theorem dX8_takesHead_67 : decode cX8_takesHead 67 = .ok (.ireturn, 1) := by decide +kernel
theorem dX8_takesHead_68 : decode cX8_takesHead 68 = .ok (.aload_n 0, 1) := by decide +kernel
theorem dX8_takesHead_69 : decode cX8_takesHead 69 = .ok (.getfield 65, 3) := by decide +kernel
theorem dX8_takesHead_72 : decode cX8_takesHead 72 = .ok (.iload_n 1, 1) := by decide +kernel
theorem dX8_takesHead_73 : decode cX8_takesHead 73 = .ok (.iconst 2, 1) := by decide +kernel
theorem dX8_takesHead_74 : decode cX8_takesHead 74 = .ok (.iastore, 1) := by decide +kernel
theorem dX8_takesHead_75 : decode cX8_takesHead 75 = .ok (.aload_n 0, 1) := by decide +kernel
theorem dX8_takesHead_76 : decode cX8_takesHead 76 = .ok (.bipush 7, 2) := by decide +kernel
theorem dX8_takesHead_78 : decode cX8_takesHead 78 = .ok (.iconst 3, 1) := by decide +kernel
theorem dX8_takesHead_79 : decode cX8_takesHead 79 = .ok (.invokevirtual 287, 3) := by decide +kernel
theorem dX8_takesHead_82 : decode cX8_takesHead 82 = .ok (.ireturn, 1) := by decide +kernel
theorem dX8_takesHead_83 : decode cX8_takesHead 83 = .ok (.aload_n 0, 1) := by decide +kernel
theorem dX8_takesHead_84 : decode cX8_takesHead 84 = .ok (.getfield 65, 3) := by decide +kernel
theorem dX8_takesHead_87 : decode cX8_takesHead 87 = .ok (.iload_n 1, 1) := by decide +kernel
theorem dX8_takesHead_88 : decode cX8_takesHead 88 = .ok (.iconst 3, 1) := by decide +kernel
theorem dX8_takesHead_89 : decode cX8_takesHead 89 = .ok (.iastore, 1) := by decide +kernel
theorem dX8_takesHead_90 : decode cX8_takesHead 90 = .ok (.aload_n 0, 1) := by decide +kernel
theorem dX8_takesHead_91 : decode cX8_takesHead 91 = .ok (.bipush 10, 2) := by decide +kernel
theorem dX8_takesHead_93 : decode cX8_takesHead 93 = .ok (.iconst 4, 1) := by decide +kernel
theorem dX8_takesHead_94 : decode cX8_takesHead 94 = .ok (.invokevirtual 287, 3) := by decide +kernel
theorem dX8_takesHead_97 : decode cX8_takesHead 97 = .ok (.ireturn, 1) := by decide +kernel
theorem dX8_takesClause_0 : decode cX8_takesClause 0 = .ok (.aload_n 0, 1) := by decide +kernel
theorem dX8_takesClause_1 : decode cX8_takesClause 1 = .ok (.iload_n 1, 1) := by decide +kernel
theorem dX8_takesClause_2 : decode cX8_takesClause 2 = .ok (.invokevirtual 291, 3) := by decide +kernel
theorem dX8_takesClause_5 : decode cX8_takesClause 5 = .ok (.ifCond .eq 10, 3) := by decide +kernel
theorem dX8_takesClause_8 : decode cX8_takesClause 8 = .ok (.aload_n 0, 1) := by decide +kernel
theorem dX8_takesClause_9 : decode cX8_takesClause 9 = .ok (.invokevirtual 275, 3) := by decide +kernel
theorem dX8_takesClause_12 : decode cX8_takesClause 12 = .ok (.ifCond .ne 5, 3) := by decide +kernel
theorem dX8_takesClause_15 : decode cX8_takesClause 15 = .ok (.iconst 0, 1) := by decide +kernel
theorem dX8_takesClause_16 : decode cX8_takesClause 16 = .ok (.ireturn, 1) := by decide +kernel
theorem dX8_takesClause_17 : decode cX8_takesClause 17 = .ok (.aload_n 0, 1) := by decide +kernel
theorem dX8_takesClause_18 : decode cX8_takesClause 18 = .ok (.getfield 68, 3) := by decide +kernel
theorem dX8_takesClause_21 : decode cX8_takesClause 21 = .ok (.iload_n 1, 1) := by decide +kernel
theorem dX8_takesClause_22 : decode cX8_takesClause 22 = .ok (.aload_n 0, 1) := by decide +kernel
theorem dX8_takesClause_23 : decode cX8_takesClause 23 = .ok (.getfield 56, 3) := by decide +kernel
theorem dX8_takesClause_26 : decode cX8_takesClause 26 = .ok (.iastore, 1) := by decide +kernel
theorem dX8_takesClause_27 : decode cX8_takesClause 27 = .ok (.aload_n 0, 1) := by decide +kernel
theorem dX8_takesClause_28 : decode cX8_takesClause 28 = .ok (.getfield 65, 3) := by decide +kernel
theorem dX8_takesClause_31 : decode cX8_takesClause 31 = .ok (.iload_n 1, 1) := by decide +kernel
theorem dX8_takesClause_32 : decode cX8_takesClause 32 = .ok (.iaload, 1) := by decide +kernel
theorem dX8_takesClause_33 : decode cX8_takesClause 33 = .ok (.iconst 2, 1) := by decide +kernel
theorem dX8_takesClause_34 : decode cX8_takesClause 34 = .ok (.if_icmp .ge 20, 3) := by decide +kernel
theorem dX8_takesClause_37 : decode cX8_takesClause 37 = .ok (.aload_n 0, 1) := by decide +kernel
theorem dX8_takesClause_38 : decode cX8_takesClause 38 = .ok (.bipush 32, 2) := by decide +kernel
theorem dX8_takesClause_40 : decode cX8_takesClause 40 = .ok (.invokevirtual 262, 3) := by decide +kernel
theorem dX8_takesClause_43 : decode cX8_takesClause 43 = .ok (.ifCond .eq 15, 3) := by decide +kernel
theorem dX8_takesClause_46 : decode cX8_takesClause 46 = .ok (.aload_n 0, 1) := by decide +kernel
theorem dX8_takesClause_47 : decode cX8_takesClause 47 = .ok (.iload_n 1, 1) := by decide +kernel
theorem dX8_takesClause_48 : decode cX8_takesClause 48 = .ok (.invokevirtual 294, 3) := by decide +kernel
theorem dX8_takesClause_51 : decode cX8_takesClause 51 = .ok (.ifCond .eq 7, 3) := by decide +kernel
theorem dX8_takesClause_54 : decode cX8_takesClause 54 = .ok (.iconst 1, 1) := by decide +kernel
theorem dX8_takesClause_55 : decode cX8_takesClause 55 = .ok (.goto 4, 3) := by decide +kernel
theorem dX8_takesClause_58 : decode cX8_takesClause 58 = .ok (.iconst 0, 1) := by decide +kernel
theorem dX8_takesClause_59 : decode cX8_takesClause 59 = .ok (.ireturn, 1) := by decide +kernel
theorem dX8_goesText_0 : decode cX8_goesText 0 = .ok (.aload_n 0, 1) := by decide +kernel
theorem dX8_goesText_1 : decode cX8_goesText 1 = .ok (.iconst 0, 1) := by decide +kernel
theorem dX8_goesText_2 : decode cX8_goesText 2 = .ok (.putfield 53, 3) := by decide +kernel
theorem dX8_goesText_5 : decode cX8_goesText 5 = .ok (.aload_n 0, 1) := by decide +kernel
theorem dX8_goesText_6 : decode cX8_goesText 6 = .ok (.bipush 100, 2) := by decide +kernel
theorem dX8_goesText_8 : decode cX8_goesText 8 = .ok (.iload_n 1, 1) := by decide +kernel
theorem dX8_goesText_9 : decode cX8_goesText 9 = .ok (.imul, 1) := by decide +kernel
theorem dX8_goesText_10 : decode cX8_goesText 10 = .ok (.putfield 83, 3) := by decide +kernel
theorem dX8_goesText_13 : decode cX8_goesText 13 = .ok (.iconst 0, 1) := by decide +kernel
theorem dX8_goesText_14 : decode cX8_goesText 14 = .ok (.istore_n 2, 1) := by decide +kernel
theorem dX8_goesText_15 : decode cX8_goesText 15 = .ok (.aload_n 0, 1) := by decide +kernel
theorem dX8_goesText_16 : decode cX8_goesText 16 = .ok (.bipush 10, 2) := by decide +kernel
theorem dX8_goesText_18 : decode cX8_goesText 18 = .ok (.iload_n 1, 1) := by decide +kernel
theorem dX8_goesText_19 : decode cX8_goesText 19 = .ok (.imul, 1) := by decide +kernel
theorem dX8_goesText_20 : decode cX8_goesText 20 = .ok (.iload_n 2, 1) := by decide +kernel
theorem dX8_goesText_21 : decode cX8_goesText 21 = .ok (.iadd, 1) := by decide +kernel
theorem dX8_goesText_22 : decode cX8_goesText 22 = .ok (.invokevirtual 297, 3) := by decide +kernel
theorem dX8_goesText_25 : decode cX8_goesText 25 = .ok (.ifCond .ne 5, 3) := by decide +kernel
theorem dX8_goesText_28 : decode cX8_goesText 28 = .ok (.iconst 0, 1) := by decide +kernel
theorem dX8_goesText_29 : decode cX8_goesText 29 = .ok (.ireturn, 1) := by decide +kernel
theorem dX8_goesText_30 : decode cX8_goesText 30 = .ok (.iinc 2 1, 3) := by decide +kernel
theorem dX8_goesText_33 : decode cX8_goesText 33 = .ok (.aload_n 0, 1) := by decide +kernel
theorem dX8_goesText_34 : decode cX8_goesText 34 = .ok (.getfield 62, 3) := by decide +kernel
theorem dX8_goesText_37 : decode cX8_goesText 37 = .ok (.iload_n 1, 1) := by decide +kernel
theorem dX8_goesText_38 : decode cX8_goesText 38 = .ok (.iload_n 2, 1) := by decide +kernel
theorem dX8_goesText_39 : decode cX8_goesText 39 = .ok (.iastore, 1) := by decide +kernel
theorem dX8_goesText_40 : decode cX8_goesText 40 = .ok (.aload_n 0, 1) := by decide +kernel
theorem dX8_goesText_41 : decode cX8_goesText 41 = .ok (.getfield 53, 3) := by decide +kernel
theorem dX8_goesText_44 : decode cX8_goesText 44 = .ok (.aload_n 0, 1) := by decide +kernel
theorem dX8_goesText_45 : decode cX8_goesText 45 = .ok (.getfield 50, 3) := by decide +kernel
theorem dX8_goesText_48 : decode cX8_goesText 48 = .ok (.if_icmp .ne 5, 3) := by decide +kernel
theorem dX8_goesText_51 : decode cX8_goesText 51 = .ok (.iconst 1, 1) := by decide +kernel
theorem dX8_goesText_52 : decode cX8_goesText 52 = .ok (.ireturn, 1) := by decide +kernel
theorem dX8_goesText_53 : decode cX8_goesText 53 = .ok (.iload_n 2, 1) := by decide +kernel
theorem dX8_goesText_54 : decode cX8_goesText 54 = .ok (.bipush 10, 2) := by decide +kernel
theorem dX8_goesText_56 : decode cX8_goesText 56 = .ok (.if_icmp .eq 12, 3) := by decide +kernel
theorem dX8_goesText_59 : decode cX8_goesText 59 = .ok (.aload_n 0, 1) := by decide +kernel
theorem dX8_goesText_60 : decode cX8_goesText 60 = .ok (.bipush 59, 2) := by decide +kernel
theorem dX8_goesText_62 : decode cX8_goesText 62 = .ok (.invokevirtual 262, 3) := by decide +kernel
theorem dX8_goesText_65 : decode cX8_goesText 65 = .ok (.ifCond .ne (-50), 3) := by decide +kernel
theorem dX8_goesText_68 : decode cX8_goesText 68 = .ok (.iconst 0, 1) := by decide +kernel
theorem dX8_goesText_69 : decode cX8_goesText 69 = .ok (.ireturn, 1) := by decide +kernel
theorem dX8_evening_0 : decode cX8_evening 0 = .ok (.aload_n 0, 1) := by decide +kernel
theorem dX8_evening_1 : decode cX8_evening 1 = .ok (.getfield 44, 3) := by decide +kernel
theorem dX8_evening_4 : decode cX8_evening 4 = .ok (.bipush 6, 2) := by decide +kernel
theorem dX8_evening_6 : decode cX8_evening 6 = .ok (.if_icmp .ne 6, 3) := by decide +kernel
theorem dX8_evening_9 : decode cX8_evening 9 = .ok (.bipush (-4), 2) := by decide +kernel
theorem dX8_evening_11 : decode cX8_evening 11 = .ok (.ireturn, 1) := by decide +kernel
theorem dX8_evening_12 : decode cX8_evening 12 = .ok (.aload_n 0, 1) := by decide +kernel
theorem dX8_evening_13 : decode cX8_evening 13 = .ok (.aload_n 0, 1) := by decide +kernel
theorem dX8_evening_14 : decode cX8_evening 14 = .ok (.getfield 44, 3) := by decide +kernel
theorem dX8_evening_17 : decode cX8_evening 17 = .ok (.invokevirtual 300, 3) := by decide +kernel
theorem dX8_evening_20 : decode cX8_evening 20 = .ok (.istore_n 1, 1) := by decide +kernel
theorem dX8_evening_21 : decode cX8_evening 21 = .ok (.aload_n 0, 1) := by decide +kernel
theorem dX8_evening_22 : decode cX8_evening 22 = .ok (.iconst 0, 1) := by decide +kernel
theorem dX8_evening_23 : decode cX8_evening 23 = .ok (.putfield 50, 3) := by decide +kernel
theorem dX8_evening_26 : decode cX8_evening 26 = .ok (.iload_n 1, 1) := by decide +kernel
theorem dX8_evening_27 : decode cX8_evening 27 = .ok (.ifCond .ne 11, 3) := by decide +kernel
theorem dX8_evening_30 : decode cX8_evening 30 = .ok (.bipush (-10), 2) := by decide +kernel
theorem dX8_evening_32 : decode cX8_evening 32 = .ok (.aload_n 0, 1) := by decide +kernel
theorem dX8_evening_33 : decode cX8_evening 33 = .ok (.getfield 53, 3) := by decide +kernel
theorem dX8_evening_36 : decode cX8_evening 36 = .ok (.isub, 1) := by decide +kernel
theorem dX8_evening_37 : decode cX8_evening 37 = .ok (.ireturn, 1) := by decide +kernel
theorem dX8_evening_38 : decode cX8_evening 38 = .ok (.aload_n 0, 1) := by decide +kernel
theorem dX8_evening_39 : decode cX8_evening 39 = .ok (.aload_n 0, 1) := by decide +kernel
theorem dX8_evening_40 : decode cX8_evening 40 = .ok (.getfield 44, 3) := by decide +kernel
theorem dX8_evening_43 : decode cX8_evening 43 = .ok (.putfield 47, 3) := by decide +kernel
theorem dX8_evening_46 : decode cX8_evening 46 = .ok (.aload_n 0, 1) := by decide +kernel
theorem dX8_evening_47 : decode cX8_evening 47 = .ok (.dup, 1) := by decide +kernel
theorem dX8_evening_48 : decode cX8_evening 48 = .ok (.getfield 44, 3) := by decide +kernel
theorem dX8_evening_51 : decode cX8_evening 51 = .ok (.iconst 1, 1) := by decide +kernel
theorem dX8_evening_52 : decode cX8_evening 52 = .ok (.iadd, 1) := by decide +kernel
theorem dX8_evening_53 : decode cX8_evening 53 = .ok (.putfield 44, 3) := by decide +kernel
theorem dX8_evening_56 : decode cX8_evening 56 = .ok (.aload_n 0, 1) := by decide +kernel
theorem dX8_evening_57 : decode cX8_evening 57 = .ok (.getfield 47, 3) := by decide +kernel
theorem dX8_evening_60 : decode cX8_evening 60 = .ok (.ireturn, 1) := by decide +kernel
theorem dX8_begin_0 : decode cX8_begin 0 = .ok (.aload_n 0, 1) := by decide +kernel
theorem dX8_begin_1 : decode cX8_begin 1 = .ok (.getfield 47, 3) := by decide +kernel
theorem dX8_begin_4 : decode cX8_begin 4 = .ok (.ifCond .ge 7, 3) := by decide +kernel
theorem dX8_begin_7 : decode cX8_begin 7 = .ok (.iconst 0, 1) := by decide +kernel
theorem dX8_begin_8 : decode cX8_begin 8 = .ok (.goto 10, 3) := by decide +kernel
theorem dX8_begin_11 : decode cX8_begin 11 = .ok (.bipush 10, 2) := by decide +kernel
theorem dX8_begin_13 : decode cX8_begin 13 = .ok (.aload_n 0, 1) := by decide +kernel
theorem dX8_begin_14 : decode cX8_begin 14 = .ok (.getfield 47, 3) := by decide +kernel
theorem dX8_begin_17 : decode cX8_begin 17 = .ok (.imul, 1) := by decide +kernel
theorem dX8_begin_18 : decode cX8_begin 18 = .ok (.ireturn, 1) := by decide +kernel
theorem dX8_behind_0 : decode cX8_behind 0 = .ok (.aload_n 0, 1) := by decide +kernel
theorem dX8_behind_1 : decode cX8_behind 1 = .ok (.getfield 47, 3) := by decide +kernel
theorem dX8_behind_4 : decode cX8_behind 4 = .ok (.ifCond .ge 7, 3) := by decide +kernel
theorem dX8_behind_7 : decode cX8_behind 7 = .ok (.iconst 0, 1) := by decide +kernel
theorem dX8_behind_8 : decode cX8_behind 8 = .ok (.goto 20, 3) := by decide +kernel
theorem dX8_behind_11 : decode cX8_behind 11 = .ok (.bipush 10, 2) := by decide +kernel
theorem dX8_behind_13 : decode cX8_behind 13 = .ok (.aload_n 0, 1) := by decide +kernel
theorem dX8_behind_14 : decode cX8_behind 14 = .ok (.getfield 47, 3) := by decide +kernel
theorem dX8_behind_17 : decode cX8_behind 17 = .ok (.imul, 1) := by decide +kernel
theorem dX8_behind_18 : decode cX8_behind 18 = .ok (.aload_n 0, 1) := by decide +kernel
theorem dX8_behind_19 : decode cX8_behind 19 = .ok (.getfield 62, 3) := by decide +kernel
theorem dX8_behind_22 : decode cX8_behind 22 = .ok (.aload_n 0, 1) := by decide +kernel
theorem dX8_behind_23 : decode cX8_behind 23 = .ok (.getfield 47, 3) := by decide +kernel
theorem dX8_behind_26 : decode cX8_behind 26 = .ok (.iaload, 1) := by decide +kernel
theorem dX8_behind_27 : decode cX8_behind 27 = .ok (.iadd, 1) := by decide +kernel
theorem dX8_behind_28 : decode cX8_behind 28 = .ok (.ireturn, 1) := by decide +kernel
theorem dX8_lastOf_0 : decode cX8_lastOf 0 = .ok (.iload_n 2, 1) := by decide +kernel
theorem dX8_lastOf_1 : decode cX8_lastOf 1 = .ok (.istore_n 3, 1) := by decide +kernel
theorem dX8_lastOf_2 : decode cX8_lastOf 2 = .ok (.aload_n 0, 1) := by decide +kernel
theorem dX8_lastOf_3 : decode cX8_lastOf 3 = .ok (.invokevirtual 303, 3) := by decide +kernel
theorem dX8_lastOf_6 : decode cX8_lastOf 6 = .ok (.istore 4, 2) := by decide +kernel
theorem dX8_lastOf_8 : decode cX8_lastOf 8 = .ok (.iload 4, 2) := by decide +kernel
theorem dX8_lastOf_10 : decode cX8_lastOf 10 = .ok (.aload_n 0, 1) := by decide +kernel
theorem dX8_lastOf_11 : decode cX8_lastOf 11 = .ok (.invokevirtual 306, 3) := by decide +kernel
theorem dX8_lastOf_14 : decode cX8_lastOf 14 = .ok (.if_icmp .ge 32, 3) := by decide +kernel
theorem dX8_lastOf_17 : decode cX8_lastOf 17 = .ok (.aload_n 0, 1) := by decide +kernel
theorem dX8_lastOf_18 : decode cX8_lastOf 18 = .ok (.getfield 65, 3) := by decide +kernel
theorem dX8_lastOf_21 : decode cX8_lastOf 21 = .ok (.iload 4, 2) := by decide +kernel
theorem dX8_lastOf_23 : decode cX8_lastOf 23 = .ok (.iaload, 1) := by decide +kernel
theorem dX8_lastOf_24 : decode cX8_lastOf 24 = .ok (.iload_n 1, 1) := by decide +kernel
theorem dX8_lastOf_25 : decode cX8_lastOf 25 = .ok (.if_icmp .ne 13, 3) := by decide +kernel
theorem dX8_lastOf_28 : decode cX8_lastOf 28 = .ok (.aload_n 0, 1) := by decide +kernel
theorem dX8_lastOf_29 : decode cX8_lastOf 29 = .ok (.getfield 68, 3) := by decide +kernel
theorem dX8_lastOf_32 : decode cX8_lastOf 32 = .ok (.iload 4, 2) := by decide +kernel
theorem dX8_lastOf_34 : decode cX8_lastOf 34 = .ok (.iaload, 1) := by decide +kernel
theorem dX8_lastOf_35 : decode cX8_lastOf 35 = .ok (.goto 4, 3) := by decide +kernel
theorem dX8_lastOf_38 : decode cX8_lastOf 38 = .ok (.iload_n 3, 1) := by decide +kernel
theorem dX8_lastOf_39 : decode cX8_lastOf 39 = .ok (.istore_n 3, 1) := by decide +kernel
theorem dX8_lastOf_40 : decode cX8_lastOf 40 = .ok (.iinc 4 1, 3) := by decide +kernel
theorem dX8_lastOf_43 : decode cX8_lastOf 43 = .ok (.goto (-35), 3) := by decide +kernel
theorem dX8_lastOf_46 : decode cX8_lastOf 46 = .ok (.iload_n 3, 1) := by decide +kernel
theorem dX8_lastOf_47 : decode cX8_lastOf 47 = .ok (.ireturn, 1) := by decide +kernel
theorem dX8_factOf_0 : decode cX8_factOf 0 = .ok (.iload_n 1, 1) := by decide +kernel
theorem dX8_factOf_1 : decode cX8_factOf 1 = .ok (.tableswitch 66 0 4 #[35, 37, 44, 51, 58], 35) := by decide +kernel
theorem dX8_factOf_36 : decode cX8_factOf 36 = .ok (.iload_n 2, 1) := by decide +kernel
theorem dX8_factOf_37 : decode cX8_factOf 37 = .ok (.ireturn, 1) := by decide +kernel
theorem dX8_factOf_38 : decode cX8_factOf 38 = .ok (.aload_n 0, 1) := by decide +kernel
theorem dX8_factOf_39 : decode cX8_factOf 39 = .ok (.getfield 25, 3) := by decide +kernel
theorem dX8_factOf_42 : decode cX8_factOf 42 = .ok (.iload_n 2, 1) := by decide +kernel
theorem dX8_factOf_43 : decode cX8_factOf 43 = .ok (.iaload, 1) := by decide +kernel
theorem dX8_factOf_44 : decode cX8_factOf 44 = .ok (.ireturn, 1) := by decide +kernel
theorem dX8_factOf_45 : decode cX8_factOf 45 = .ok (.aload_n 0, 1) := by decide +kernel
theorem dX8_factOf_46 : decode cX8_factOf 46 = .ok (.getfield 32, 3) := by decide +kernel
theorem dX8_factOf_49 : decode cX8_factOf 49 = .ok (.iload_n 2, 1) := by decide +kernel
theorem dX8_factOf_50 : decode cX8_factOf 50 = .ok (.iaload, 1) := by decide +kernel
theorem dX8_factOf_51 : decode cX8_factOf 51 = .ok (.ireturn, 1) := by decide +kernel
theorem dX8_factOf_52 : decode cX8_factOf 52 = .ok (.aload_n 0, 1) := by decide +kernel
theorem dX8_factOf_53 : decode cX8_factOf 53 = .ok (.getfield 35, 3) := by decide +kernel
theorem dX8_factOf_56 : decode cX8_factOf 56 = .ok (.iload_n 2, 1) := by decide +kernel
theorem dX8_factOf_57 : decode cX8_factOf 57 = .ok (.iaload, 1) := by decide +kernel
theorem dX8_factOf_58 : decode cX8_factOf 58 = .ok (.ireturn, 1) := by decide +kernel
theorem dX8_factOf_59 : decode cX8_factOf 59 = .ok (.aload_n 0, 1) := by decide +kernel
theorem dX8_factOf_60 : decode cX8_factOf 60 = .ok (.getfield 19, 3) := by decide +kernel
theorem dX8_factOf_63 : decode cX8_factOf 63 = .ok (.bipush 10, 2) := by decide +kernel
theorem dX8_factOf_65 : decode cX8_factOf 65 = .ok (.idiv, 1) := by decide +kernel
theorem dX8_factOf_66 : decode cX8_factOf 66 = .ok (.ireturn, 1) := by decide +kernel
theorem dX8_factOf_67 : decode cX8_factOf 67 = .ok (.aload_n 0, 1) := by decide +kernel
theorem dX8_factOf_68 : decode cX8_factOf 68 = .ok (.getfield 13, 3) := by decide +kernel
theorem dX8_factOf_71 : decode cX8_factOf 71 = .ok (.bipush 10, 2) := by decide +kernel
theorem dX8_factOf_73 : decode cX8_factOf 73 = .ok (.irem, 1) := by decide +kernel
theorem dX8_factOf_74 : decode cX8_factOf 74 = .ok (.ireturn, 1) := by decide +kernel
theorem dX8_holds_0 : decode cX8_holds 0 = .ok (.iconst 0, 1) := by decide +kernel
theorem dX8_holds_1 : decode cX8_holds 1 = .ok (.istore_n 3, 1) := by decide +kernel
theorem dX8_holds_2 : decode cX8_holds 2 = .ok (.aload_n 0, 1) := by decide +kernel
theorem dX8_holds_3 : decode cX8_holds 3 = .ok (.getfield 71, 3) := by decide +kernel
theorem dX8_holds_6 : decode cX8_holds 6 = .ok (.iload_n 1, 1) := by decide +kernel
theorem dX8_holds_7 : decode cX8_holds 7 = .ok (.iaload, 1) := by decide +kernel
theorem dX8_holds_8 : decode cX8_holds 8 = .ok (.istore 4, 2) := by decide +kernel
theorem dX8_holds_10 : decode cX8_holds 10 = .ok (.iload 4, 2) := by decide +kernel
theorem dX8_holds_12 : decode cX8_holds 12 = .ok (.aload_n 0, 1) := by decide +kernel
theorem dX8_holds_13 : decode cX8_holds 13 = .ok (.getfield 74, 3) := by decide +kernel
theorem dX8_holds_16 : decode cX8_holds 16 = .ok (.iload_n 1, 1) := by decide +kernel
theorem dX8_holds_17 : decode cX8_holds 17 = .ok (.iaload, 1) := by decide +kernel
theorem dX8_holds_18 : decode cX8_holds 18 = .ok (.if_icmp .ge 225, 3) := by decide +kernel
theorem dX8_holds_21 : decode cX8_holds 21 = .ok (.aload_n 0, 1) := by decide +kernel
theorem dX8_holds_22 : decode cX8_holds 22 = .ok (.getfield 77, 3) := by decide +kernel
theorem dX8_holds_25 : decode cX8_holds 25 = .ok (.iload 4, 2) := by decide +kernel
theorem dX8_holds_27 : decode cX8_holds 27 = .ok (.iaload, 1) := by decide +kernel
theorem dX8_holds_28 : decode cX8_holds 28 = .ok (.istore 5, 2) := by decide +kernel
theorem dX8_holds_30 : decode cX8_holds 30 = .ok (.iload 5, 2) := by decide +kernel
theorem dX8_holds_32 : decode cX8_holds 32 = .ok (.bipush (-33), 2) := by decide +kernel
theorem dX8_holds_34 : decode cX8_holds 34 = .ok (.if_icmp .ne 30, 3) := by decide +kernel
theorem dX8_holds_37 : decode cX8_holds 37 = .ok (.aload_n 0, 1) := by decide +kernel
theorem dX8_holds_38 : decode cX8_holds 38 = .ok (.getfield 95, 3) := by decide +kernel
theorem dX8_holds_41 : decode cX8_holds 41 = .ok (.iload_n 3, 1) := by decide +kernel
theorem dX8_holds_42 : decode cX8_holds 42 = .ok (.iconst 1, 1) := by decide +kernel
theorem dX8_holds_43 : decode cX8_holds 43 = .ok (.isub, 1) := by decide +kernel
theorem dX8_holds_44 : decode cX8_holds 44 = .ok (.aload_n 0, 1) := by decide +kernel
theorem dX8_holds_45 : decode cX8_holds 45 = .ok (.getfield 95, 3) := by decide +kernel
theorem dX8_holds_48 : decode cX8_holds 48 = .ok (.iload_n 3, 1) := by decide +kernel
theorem dX8_holds_49 : decode cX8_holds 49 = .ok (.iconst 1, 1) := by decide +kernel
theorem dX8_holds_50 : decode cX8_holds 50 = .ok (.isub, 1) := by decide +kernel
theorem dX8_holds_51 : decode cX8_holds 51 = .ok (.baload, 1) := by decide +kernel
theorem dX8_holds_52 : decode cX8_holds 52 = .ok (.ifCond .ne 7, 3) := by decide +kernel
theorem dX8_holds_55 : decode cX8_holds 55 = .ok (.iconst 1, 1) := by decide +kernel
theorem dX8_holds_56 : decode cX8_holds 56 = .ok (.goto 4, 3) := by decide +kernel
theorem dX8_holds_59 : decode cX8_holds 59 = .ok (.iconst 0, 1) := by decide +kernel
theorem dX8_holds_60 : decode cX8_holds 60 = .ok (.bastore, 1) := by decide +kernel
theorem dX8_holds_61 : decode cX8_holds 61 = .ok (.goto 176, 3) := by decide +kernel
theorem dX8_holds_64 : decode cX8_holds 64 = .ok (.iload 5, 2) := by decide +kernel
theorem dX8_holds_66 : decode cX8_holds 66 = .ok (.ifCond .ge 77, 3) := by decide +kernel
theorem dX8_holds_69 : decode cX8_holds 69 = .ok (.iinc 3 (-1), 3) := by decide +kernel
theorem dX8_holds_72 : decode cX8_holds 72 = .ok (.aload_n 0, 1) := by decide +kernel
theorem dX8_holds_73 : decode cX8_holds 73 = .ok (.getfield 95, 3) := by decide +kernel
theorem dX8_holds_76 : decode cX8_holds 76 = .ok (.iload_n 3, 1) := by decide +kernel
theorem dX8_holds_77 : decode cX8_holds 77 = .ok (.iconst 1, 1) := by decide +kernel
theorem dX8_holds_78 : decode cX8_holds 78 = .ok (.isub, 1) := by decide +kernel
theorem dX8_holds_79 : decode cX8_holds 79 = .ok (.iload 5, 2) := by decide +kernel
theorem dX8_holds_81 : decode cX8_holds 81 = .ok (.bipush (-38), 2) := by decide +kernel
theorem dX8_holds_83 : decode cX8_holds 83 = .ok (.if_icmp .ne 31, 3) := by decide +kernel
theorem dX8_holds_86 : decode cX8_holds 86 = .ok (.aload_n 0, 1) := by decide +kernel
theorem dX8_holds_87 : decode cX8_holds 87 = .ok (.getfield 95, 3) := by decide +kernel
theorem dX8_holds_90 : decode cX8_holds 90 = .ok (.iload_n 3, 1) := by decide +kernel
theorem dX8_holds_91 : decode cX8_holds 91 = .ok (.iconst 1, 1) := by decide +kernel
theorem dX8_holds_92 : decode cX8_holds 92 = .ok (.isub, 1) := by decide +kernel
theorem dX8_holds_93 : decode cX8_holds 93 = .ok (.baload, 1) := by decide +kernel
theorem dX8_holds_94 : decode cX8_holds 94 = .ok (.ifCond .eq 16, 3) := by decide +kernel
theorem dX8_holds_97 : decode cX8_holds 97 = .ok (.aload_n 0, 1) := by decide +kernel
theorem dX8_holds_98 : decode cX8_holds 98 = .ok (.getfield 95, 3) := by decide +kernel
theorem dX8_holds_101 : decode cX8_holds 101 = .ok (.iload_n 3, 1) := by decide +kernel
theorem dX8_holds_102 : decode cX8_holds 102 = .ok (.baload, 1) := by decide +kernel
theorem dX8_holds_103 : decode cX8_holds 103 = .ok (.ifCond .eq 7, 3) := by decide +kernel
theorem dX8_holds_106 : decode cX8_holds 106 = .ok (.iconst 1, 1) := by decide +kernel
theorem dX8_holds_107 : decode cX8_holds 107 = .ok (.goto 32, 3) := by decide +kernel
theorem dX8_holds_110 : decode cX8_holds 110 = .ok (.iconst 0, 1) := by decide +kernel
theorem dX8_holds_111 : decode cX8_holds 111 = .ok (.goto 28, 3) := by decide +kernel
theorem dX8_holds_114 : decode cX8_holds 114 = .ok (.aload_n 0, 1) := by decide +kernel
theorem dX8_holds_115 : decode cX8_holds 115 = .ok (.getfield 95, 3) := by decide +kernel
theorem dX8_holds_118 : decode cX8_holds 118 = .ok (.iload_n 3, 1) := by decide +kernel
theorem dX8_holds_119 : decode cX8_holds 119 = .ok (.iconst 1, 1) := by decide +kernel
theorem dX8_holds_120 : decode cX8_holds 120 = .ok (.isub, 1) := by decide +kernel
theorem dX8_holds_121 : decode cX8_holds 121 = .ok (.baload, 1) := by decide +kernel
theorem dX8_holds_122 : decode cX8_holds 122 = .ok (.ifCond .ne 12, 3) := by decide +kernel
theorem dX8_holds_125 : decode cX8_holds 125 = .ok (.aload_n 0, 1) := by decide +kernel
theorem dX8_holds_126 : decode cX8_holds 126 = .ok (.getfield 95, 3) := by decide +kernel
theorem dX8_holds_129 : decode cX8_holds 129 = .ok (.iload_n 3, 1) := by decide +kernel
theorem dX8_holds_130 : decode cX8_holds 130 = .ok (.baload, 1) := by decide +kernel
theorem dX8_holds_131 : decode cX8_holds 131 = .ok (.ifCond .eq 7, 3) := by decide +kernel
theorem dX8_holds_134 : decode cX8_holds 134 = .ok (.iconst 1, 1) := by decide +kernel
theorem dX8_holds_135 : decode cX8_holds 135 = .ok (.goto 4, 3) := by decide +kernel
theorem dX8_holds_138 : decode cX8_holds 138 = .ok (.iconst 0, 1) := by decide +kernel
theorem dX8_holds_139 : decode cX8_holds 139 = .ok (.bastore, 1) := by decide +kernel
theorem dX8_holds_140 : decode cX8_holds 140 = .ok (.goto 97, 3) := by decide +kernel
theorem dX8_holds_143 : decode cX8_holds 143 = .ok (.aload_n 0, 1) := by decide +kernel
theorem dX8_holds_144 : decode cX8_holds 144 = .ok (.iload 5, 2) := by decide +kernel
theorem dX8_holds_146 : decode cX8_holds 146 = .ok (.sipush 1000, 3) := by decide +kernel
theorem dX8_holds_149 : decode cX8_holds 149 = .ok (.idiv, 1) := by decide +kernel
theorem dX8_holds_150 : decode cX8_holds 150 = .ok (.iload_n 2, 1) := by decide +kernel
theorem dX8_holds_151 : decode cX8_holds 151 = .ok (.invokevirtual 309, 3) := by decide +kernel
theorem dX8_holds_154 : decode cX8_holds 154 = .ok (.istore 6, 2) := by decide +kernel
theorem dX8_holds_156 : decode cX8_holds 156 = .ok (.iload 5, 2) := by decide +kernel
theorem dX8_holds_158 : decode cX8_holds 158 = .ok (.bipush 100, 2) := by decide +kernel
theorem dX8_holds_160 : decode cX8_holds 160 = .ok (.idiv, 1) := by decide +kernel
theorem dX8_holds_161 : decode cX8_holds 161 = .ok (.bipush 10, 2) := by decide +kernel
theorem dX8_holds_163 : decode cX8_holds 163 = .ok (.irem, 1) := by decide +kernel
theorem dX8_holds_164 : decode cX8_holds 164 = .ok (.istore 7, 2) := by decide +kernel
theorem dX8_holds_166 : decode cX8_holds 166 = .ok (.aload_n 0, 1) := by decide +kernel
theorem dX8_holds_167 : decode cX8_holds 167 = .ok (.getfield 95, 3) := by decide +kernel
theorem dX8_holds_170 : decode cX8_holds 170 = .ok (.iload_n 3, 1) := by decide +kernel
theorem dX8_holds_171 : decode cX8_holds 171 = .ok (.iload 7, 2) := by decide +kernel
theorem dX8_holds_173 : decode cX8_holds 173 = .ok (.ifCond .ne 21, 3) := by decide +kernel
theorem dX8_holds_176 : decode cX8_holds 176 = .ok (.iload 6, 2) := by decide +kernel
theorem dX8_holds_178 : decode cX8_holds 178 = .ok (.iload 5, 2) := by decide +kernel
theorem dX8_holds_180 : decode cX8_holds 180 = .ok (.bipush 100, 2) := by decide +kernel
theorem dX8_holds_182 : decode cX8_holds 182 = .ok (.irem, 1) := by decide +kernel
theorem dX8_holds_183 : decode cX8_holds 183 = .ok (.if_icmp .ge 7, 3) := by decide +kernel
theorem dX8_holds_186 : decode cX8_holds 186 = .ok (.iconst 1, 1) := by decide +kernel
theorem dX8_holds_187 : decode cX8_holds 187 = .ok (.goto 46, 3) := by decide +kernel
theorem dX8_holds_190 : decode cX8_holds 190 = .ok (.iconst 0, 1) := by decide +kernel
theorem dX8_holds_191 : decode cX8_holds 191 = .ok (.goto 42, 3) := by decide +kernel
theorem dX8_holds_194 : decode cX8_holds 194 = .ok (.iload 7, 2) := by decide +kernel
theorem dX8_holds_196 : decode cX8_holds 196 = .ok (.iconst 1, 1) := by decide +kernel
theorem dX8_holds_197 : decode cX8_holds 197 = .ok (.if_icmp .ne 21, 3) := by decide +kernel
theorem dX8_holds_200 : decode cX8_holds 200 = .ok (.iload 6, 2) := by decide +kernel
theorem dX8_holds_202 : decode cX8_holds 202 = .ok (.iload 5, 2) := by decide +kernel
theorem dX8_holds_204 : decode cX8_holds 204 = .ok (.bipush 100, 2) := by decide +kernel
theorem dX8_holds_206 : decode cX8_holds 206 = .ok (.irem, 1) := by decide +kernel
theorem dX8_holds_207 : decode cX8_holds 207 = .ok (.if_icmp .ne 7, 3) := by decide +kernel
theorem dX8_holds_210 : decode cX8_holds 210 = .ok (.iconst 1, 1) := by decide +kernel
theorem dX8_holds_211 : decode cX8_holds 211 = .ok (.goto 22, 3) := by decide +kernel
theorem dX8_holds_214 : decode cX8_holds 214 = .ok (.iconst 0, 1) := by decide +kernel
theorem dX8_holds_215 : decode cX8_holds 215 = .ok (.goto 18, 3) := by decide +kernel
theorem dX8_holds_218 : decode cX8_holds 218 = .ok (.iload 6, 2) := by decide +kernel
theorem dX8_holds_220 : decode cX8_holds 220 = .ok (.iload 5, 2) := by decide +kernel
theorem dX8_holds_222 : decode cX8_holds 222 = .ok (.bipush 100, 2) := by decide +kernel
theorem dX8_holds_224 : decode cX8_holds 224 = .ok (.irem, 1) := by decide +kernel
theorem dX8_holds_225 : decode cX8_holds 225 = .ok (.if_icmp .le 7, 3) := by decide +kernel
theorem dX8_holds_228 : decode cX8_holds 228 = .ok (.iconst 1, 1) := by decide +kernel
theorem dX8_holds_229 : decode cX8_holds 229 = .ok (.goto 4, 3) := by decide +kernel
theorem dX8_holds_232 : decode cX8_holds 232 = .ok (.iconst 0, 1) := by decide +kernel
theorem dX8_holds_233 : decode cX8_holds 233 = .ok (.bastore, 1) := by decide +kernel
theorem dX8_holds_234 : decode cX8_holds 234 = .ok (.iinc 3 1, 3) := by decide +kernel
theorem dX8_holds_237 : decode cX8_holds 237 = .ok (.iinc 4 1, 3) := by decide +kernel
theorem dX8_holds_240 : decode cX8_holds 240 = .ok (.goto (-230), 3) := by decide +kernel
theorem dX8_holds_243 : decode cX8_holds 243 = .ok (.aload_n 0, 1) := by decide +kernel
theorem dX8_holds_244 : decode cX8_holds 244 = .ok (.getfield 95, 3) := by decide +kernel
theorem dX8_holds_247 : decode cX8_holds 247 = .ok (.iconst 0, 1) := by decide +kernel
theorem dX8_holds_248 : decode cX8_holds 248 = .ok (.baload, 1) := by decide +kernel
theorem dX8_holds_249 : decode cX8_holds 249 = .ok (.ireturn, 1) := by decide +kernel
theorem dX8_rain_0 : decode cX8_rain 0 = .ok (.iconst 0, 1) := by decide +kernel
theorem dX8_rain_1 : decode cX8_rain 1 = .ok (.istore_n 2, 1) := by decide +kernel
theorem dX8_rain_2 : decode cX8_rain 2 = .ok (.aload_n 0, 1) := by decide +kernel
theorem dX8_rain_3 : decode cX8_rain 3 = .ok (.invokevirtual 303, 3) := by decide +kernel
theorem dX8_rain_6 : decode cX8_rain 6 = .ok (.istore_n 3, 1) := by decide +kernel
theorem dX8_rain_7 : decode cX8_rain 7 = .ok (.iload_n 3, 1) := by decide +kernel
theorem dX8_rain_8 : decode cX8_rain 8 = .ok (.aload_n 0, 1) := by decide +kernel
theorem dX8_rain_9 : decode cX8_rain 9 = .ok (.invokevirtual 306, 3) := by decide +kernel
theorem dX8_rain_12 : decode cX8_rain 12 = .ok (.if_icmp .ge 59, 3) := by decide +kernel
theorem dX8_rain_15 : decode cX8_rain 15 = .ok (.aload_n 0, 1) := by decide +kernel
theorem dX8_rain_16 : decode cX8_rain 16 = .ok (.getfield 65, 3) := by decide +kernel
theorem dX8_rain_19 : decode cX8_rain 19 = .ok (.iload_n 3, 1) := by decide +kernel
theorem dX8_rain_20 : decode cX8_rain 20 = .ok (.iaload, 1) := by decide +kernel
theorem dX8_rain_21 : decode cX8_rain 21 = .ok (.iconst 1, 1) := by decide +kernel
theorem dX8_rain_22 : decode cX8_rain 22 = .ok (.if_icmp .gt 43, 3) := by decide +kernel
theorem dX8_rain_25 : decode cX8_rain 25 = .ok (.aload_n 0, 1) := by decide +kernel
theorem dX8_rain_26 : decode cX8_rain 26 = .ok (.iload_n 3, 1) := by decide +kernel
theorem dX8_rain_27 : decode cX8_rain 27 = .ok (.iload_n 1, 1) := by decide +kernel
theorem dX8_rain_28 : decode cX8_rain 28 = .ok (.invokevirtual 313, 3) := by decide +kernel
theorem dX8_rain_31 : decode cX8_rain 31 = .ok (.ifCond .ne 6, 3) := by decide +kernel
theorem dX8_rain_34 : decode cX8_rain 34 = .ok (.goto 31, 3) := by decide +kernel
theorem dX8_rain_37 : decode cX8_rain 37 = .ok (.iload_n 2, 1) := by decide +kernel
theorem dX8_rain_38 : decode cX8_rain 38 = .ok (.aload_n 0, 1) := by decide +kernel
theorem dX8_rain_39 : decode cX8_rain 39 = .ok (.getfield 65, 3) := by decide +kernel
theorem dX8_rain_42 : decode cX8_rain 42 = .ok (.iload_n 3, 1) := by decide +kernel
theorem dX8_rain_43 : decode cX8_rain 43 = .ok (.iaload, 1) := by decide +kernel
theorem dX8_rain_44 : decode cX8_rain 44 = .ok (.ifCond .ne 12, 3) := by decide +kernel
theorem dX8_rain_47 : decode cX8_rain 47 = .ok (.aload_n 0, 1) := by decide +kernel
theorem dX8_rain_48 : decode cX8_rain 48 = .ok (.getfield 68, 3) := by decide +kernel
theorem dX8_rain_51 : decode cX8_rain 51 = .ok (.iload_n 3, 1) := by decide +kernel
theorem dX8_rain_52 : decode cX8_rain 52 = .ok (.iaload, 1) := by decide +kernel
theorem dX8_rain_53 : decode cX8_rain 53 = .ok (.goto 10, 3) := by decide +kernel
theorem dX8_rain_56 : decode cX8_rain 56 = .ok (.aload_n 0, 1) := by decide +kernel
theorem dX8_rain_57 : decode cX8_rain 57 = .ok (.getfield 68, 3) := by decide +kernel
theorem dX8_rain_60 : decode cX8_rain 60 = .ok (.iload_n 3, 1) := by decide +kernel
theorem dX8_rain_61 : decode cX8_rain 61 = .ok (.iaload, 1) := by decide +kernel
theorem dX8_rain_62 : decode cX8_rain 62 = .ok (.ineg, 1) := by decide +kernel
theorem dX8_rain_63 : decode cX8_rain 63 = .ok (.iadd, 1) := by decide +kernel
theorem dX8_rain_64 : decode cX8_rain 64 = .ok (.istore_n 2, 1) := by decide +kernel
theorem dX8_rain_65 : decode cX8_rain 65 = .ok (.iinc 3 1, 3) := by decide +kernel
theorem dX8_rain_68 : decode cX8_rain 68 = .ok (.goto (-61), 3) := by decide +kernel
theorem dX8_rain_71 : decode cX8_rain 71 = .ok (.iload_n 2, 1) := by decide +kernel
theorem dX8_rain_72 : decode cX8_rain 72 = .ok (.ireturn, 1) := by decide +kernel
theorem dX8_least0_0 : decode cX8_least0 0 = .ok (.iload_n 1, 1) := by decide +kernel
theorem dX8_least0_1 : decode cX8_least0 1 = .ok (.ifCond .ge 7, 3) := by decide +kernel
theorem dX8_least0_4 : decode cX8_least0 4 = .ok (.iconst 0, 1) := by decide +kernel
theorem dX8_least0_5 : decode cX8_least0 5 = .ok (.goto 4, 3) := by decide +kernel
theorem dX8_least0_8 : decode cX8_least0 8 = .ok (.iload_n 1, 1) := by decide +kernel
theorem dX8_least0_9 : decode cX8_least0 9 = .ok (.ireturn, 1) := by decide +kernel
theorem dX8_reach_0 : decode cX8_reach 0 = .ok (.aload_n 0, 1) := by decide +kernel
theorem dX8_reach_1 : decode cX8_reach 1 = .ok (.aload_n 0, 1) := by decide +kernel
theorem dX8_reach_2 : decode cX8_reach 2 = .ok (.iconst 2, 1) := by decide +kernel
theorem dX8_reach_3 : decode cX8_reach 3 = .ok (.bipush 12, 2) := by decide +kernel
theorem dX8_reach_5 : decode cX8_reach 5 = .ok (.invokevirtual 316, 3) := by decide +kernel
theorem dX8_reach_8 : decode cX8_reach 8 = .ok (.aload_n 0, 1) := by decide +kernel
theorem dX8_reach_9 : decode cX8_reach 9 = .ok (.getfield 19, 3) := by decide +kernel
theorem dX8_reach_12 : decode cX8_reach 12 = .ok (.bipush 8, 2) := by decide +kernel
theorem dX8_reach_14 : decode cX8_reach 14 = .ok (.idiv, 1) := by decide +kernel
theorem dX8_reach_15 : decode cX8_reach 15 = .ok (.isub, 1) := by decide +kernel
theorem dX8_reach_16 : decode cX8_reach 16 = .ok (.invokevirtual 319, 3) := by decide +kernel
theorem dX8_reach_19 : decode cX8_reach 19 = .ok (.istore_n 2, 1) := by decide +kernel
theorem dX8_reach_20 : decode cX8_reach 20 = .ok (.aload_n 0, 1) := by decide +kernel
theorem dX8_reach_21 : decode cX8_reach 21 = .ok (.getfield 25, 3) := by decide +kernel
theorem dX8_reach_24 : decode cX8_reach 24 = .ok (.iload_n 1, 1) := by decide +kernel
theorem dX8_reach_25 : decode cX8_reach 25 = .ok (.iaload, 1) := by decide +kernel
theorem dX8_reach_26 : decode cX8_reach 26 = .ok (.tableswitch 116 1 6 #[38, 53, 116, 57, 74, 98], 38) := by decide +kernel
theorem dX8_reach_64 : decode cX8_reach 64 = .ok (.aload_n 0, 1) := by decide +kernel
theorem dX8_reach_65 : decode cX8_reach 65 = .ok (.iload_n 2, 1) := by decide +kernel
theorem dX8_reach_66 : decode cX8_reach 66 = .ok (.aload_n 0, 1) := by decide +kernel
theorem dX8_reach_67 : decode cX8_reach 67 = .ok (.getfield 29, 3) := by decide +kernel
theorem dX8_reach_70 : decode cX8_reach 70 = .ok (.iload_n 1, 1) := by decide +kernel
theorem dX8_reach_71 : decode cX8_reach 71 = .ok (.iaload, 1) := by decide +kernel
theorem dX8_reach_72 : decode cX8_reach 72 = .ok (.iconst 2, 1) := by decide +kernel
theorem dX8_reach_73 : decode cX8_reach 73 = .ok (.idiv, 1) := by decide +kernel
theorem dX8_reach_74 : decode cX8_reach 74 = .ok (.isub, 1) := by decide +kernel
theorem dX8_reach_75 : decode cX8_reach 75 = .ok (.invokevirtual 319, 3) := by decide +kernel
theorem dX8_reach_78 : decode cX8_reach 78 = .ok (.ireturn, 1) := by decide +kernel
theorem dX8_reach_79 : decode cX8_reach 79 = .ok (.iload_n 2, 1) := by decide +kernel
theorem dX8_reach_80 : decode cX8_reach 80 = .ok (.iconst 2, 1) := by decide +kernel
theorem dX8_reach_81 : decode cX8_reach 81 = .ok (.iadd, 1) := by decide +kernel
theorem dX8_reach_82 : decode cX8_reach 82 = .ok (.ireturn, 1) := by decide +kernel
theorem dX8_reach_83 : decode cX8_reach 83 = .ok (.aload_n 0, 1) := by decide +kernel
theorem dX8_reach_84 : decode cX8_reach 84 = .ok (.iload_n 2, 1) := by decide +kernel
theorem dX8_reach_85 : decode cX8_reach 85 = .ok (.aload_n 0, 1) := by decide +kernel
theorem dX8_reach_86 : decode cX8_reach 86 = .ok (.getfield 29, 3) := by decide +kernel
theorem dX8_reach_89 : decode cX8_reach 89 = .ok (.iload_n 1, 1) := by decide +kernel
theorem dX8_reach_90 : decode cX8_reach 90 = .ok (.iaload, 1) := by decide +kernel
theorem dX8_reach_91 : decode cX8_reach 91 = .ok (.iconst 2, 1) := by decide +kernel
theorem dX8_reach_92 : decode cX8_reach 92 = .ok (.idiv, 1) := by decide +kernel
theorem dX8_reach_93 : decode cX8_reach 93 = .ok (.isub, 1) := by decide +kernel
theorem dX8_reach_94 : decode cX8_reach 94 = .ok (.invokevirtual 319, 3) := by decide +kernel
theorem dX8_reach_97 : decode cX8_reach 97 = .ok (.iconst 2, 1) := by decide +kernel
theorem dX8_reach_98 : decode cX8_reach 98 = .ok (.idiv, 1) := by decide +kernel
theorem dX8_reach_99 : decode cX8_reach 99 = .ok (.ireturn, 1) := by decide +kernel
theorem dX8_reach_100 : decode cX8_reach 100 = .ok (.aload_n 0, 1) := by decide +kernel
theorem dX8_reach_101 : decode cX8_reach 101 = .ok (.getfield 13, 3) := by decide +kernel
theorem dX8_reach_104 : decode cX8_reach 104 = .ok (.aload_n 0, 1) := by decide +kernel
theorem dX8_reach_105 : decode cX8_reach 105 = .ok (.getfield 29, 3) := by decide +kernel
theorem dX8_reach_108 : decode cX8_reach 108 = .ok (.iload_n 1, 1) := by decide +kernel
theorem dX8_reach_109 : decode cX8_reach 109 = .ok (.iaload, 1) := by decide +kernel
theorem dX8_reach_110 : decode cX8_reach 110 = .ok (.iconst 2, 1) := by decide +kernel
theorem dX8_reach_111 : decode cX8_reach 111 = .ok (.iadd, 1) := by decide +kernel
theorem dX8_reach_112 : decode cX8_reach 112 = .ok (.irem, 1) := by decide +kernel
theorem dX8_reach_113 : decode cX8_reach 113 = .ok (.ifCond .ne 7, 3) := by decide +kernel
theorem dX8_reach_116 : decode cX8_reach 116 = .ok (.iconst 0, 1) := by decide +kernel
theorem dX8_reach_117 : decode cX8_reach 117 = .ok (.goto 6, 3) := by decide +kernel
theorem dX8_reach_120 : decode cX8_reach 120 = .ok (.iload_n 2, 1) := by decide +kernel
theorem dX8_reach_121 : decode cX8_reach 121 = .ok (.iconst 2, 1) := by decide +kernel
theorem dX8_reach_122 : decode cX8_reach 122 = .ok (.iadd, 1) := by decide +kernel
theorem dX8_reach_123 : decode cX8_reach 123 = .ok (.ireturn, 1) := by decide +kernel
theorem dX8_reach_124 : decode cX8_reach 124 = .ok (.iload_n 2, 1) := by decide +kernel
theorem dX8_reach_125 : decode cX8_reach 125 = .ok (.aload_n 0, 1) := by decide +kernel
theorem dX8_reach_126 : decode cX8_reach 126 = .ok (.getfield 41, 3) := by decide +kernel
theorem dX8_reach_129 : decode cX8_reach 129 = .ok (.iconst 4, 1) := by decide +kernel
theorem dX8_reach_130 : decode cX8_reach 130 = .ok (.iload_n 1, 1) := by decide +kernel
theorem dX8_reach_131 : decode cX8_reach 131 = .ok (.imul, 1) := by decide +kernel
theorem dX8_reach_132 : decode cX8_reach 132 = .ok (.aload_n 0, 1) := by decide +kernel
theorem dX8_reach_133 : decode cX8_reach 133 = .ok (.getfield 13, 3) := by decide +kernel
theorem dX8_reach_136 : decode cX8_reach 136 = .ok (.iconst 4, 1) := by decide +kernel
theorem dX8_reach_137 : decode cX8_reach 137 = .ok (.irem, 1) := by decide +kernel
theorem dX8_reach_138 : decode cX8_reach 138 = .ok (.iadd, 1) := by decide +kernel
theorem dX8_reach_139 : decode cX8_reach 139 = .ok (.iaload, 1) := by decide +kernel
theorem dX8_reach_140 : decode cX8_reach 140 = .ok (.iadd, 1) := by decide +kernel
theorem dX8_reach_141 : decode cX8_reach 141 = .ok (.ireturn, 1) := by decide +kernel
theorem dX8_reach_142 : decode cX8_reach 142 = .ok (.iload_n 2, 1) := by decide +kernel
theorem dX8_reach_143 : decode cX8_reach 143 = .ok (.ireturn, 1) := by decide +kernel
theorem dX8_way_0 : decode cX8_way 0 = .ok (.aload_n 0, 1) := by decide +kernel
theorem dX8_way_1 : decode cX8_way 1 = .ok (.getfield 32, 3) := by decide +kernel
theorem dX8_way_4 : decode cX8_way 4 = .ok (.iload_n 1, 1) := by decide +kernel
theorem dX8_way_5 : decode cX8_way 5 = .ok (.iaload, 1) := by decide +kernel
theorem dX8_way_6 : decode cX8_way 6 = .ok (.aload_n 0, 1) := by decide +kernel
theorem dX8_way_7 : decode cX8_way 7 = .ok (.getfield 32, 3) := by decide +kernel
theorem dX8_way_10 : decode cX8_way 10 = .ok (.iload_n 2, 1) := by decide +kernel
theorem dX8_way_11 : decode cX8_way 11 = .ok (.iaload, 1) := by decide +kernel
theorem dX8_way_12 : decode cX8_way 12 = .ok (.if_icmp .ge 19, 3) := by decide +kernel
theorem dX8_way_15 : decode cX8_way 15 = .ok (.aload_n 0, 1) := by decide +kernel
theorem dX8_way_16 : decode cX8_way 16 = .ok (.getfield 32, 3) := by decide +kernel
theorem dX8_way_19 : decode cX8_way 19 = .ok (.iload_n 2, 1) := by decide +kernel
theorem dX8_way_20 : decode cX8_way 20 = .ok (.iaload, 1) := by decide +kernel
theorem dX8_way_21 : decode cX8_way 21 = .ok (.aload_n 0, 1) := by decide +kernel
theorem dX8_way_22 : decode cX8_way 22 = .ok (.getfield 32, 3) := by decide +kernel
theorem dX8_way_25 : decode cX8_way 25 = .ok (.iload_n 1, 1) := by decide +kernel
theorem dX8_way_26 : decode cX8_way 26 = .ok (.iaload, 1) := by decide +kernel
theorem dX8_way_27 : decode cX8_way 27 = .ok (.isub, 1) := by decide +kernel
theorem dX8_way_28 : decode cX8_way 28 = .ok (.goto 16, 3) := by decide +kernel
theorem dX8_way_31 : decode cX8_way 31 = .ok (.aload_n 0, 1) := by decide +kernel
theorem dX8_way_32 : decode cX8_way 32 = .ok (.getfield 32, 3) := by decide +kernel
theorem dX8_way_35 : decode cX8_way 35 = .ok (.iload_n 1, 1) := by decide +kernel
theorem dX8_way_36 : decode cX8_way 36 = .ok (.iaload, 1) := by decide +kernel
theorem dX8_way_37 : decode cX8_way 37 = .ok (.aload_n 0, 1) := by decide +kernel
theorem dX8_way_38 : decode cX8_way 38 = .ok (.getfield 32, 3) := by decide +kernel
theorem dX8_way_41 : decode cX8_way 41 = .ok (.iload_n 2, 1) := by decide +kernel
theorem dX8_way_42 : decode cX8_way 42 = .ok (.iaload, 1) := by decide +kernel
theorem dX8_way_43 : decode cX8_way 43 = .ok (.isub, 1) := by decide +kernel
theorem dX8_way_44 : decode cX8_way 44 = .ok (.ireturn, 1) := by decide +kernel
theorem dX8_nearest_0 : decode cX8_nearest 0 = .ok (.iconst (-1), 1) := by decide +kernel
theorem dX8_nearest_1 : decode cX8_nearest 1 = .ok (.istore_n 2, 1) := by decide +kernel
theorem dX8_nearest_2 : decode cX8_nearest 2 = .ok (.iconst 0, 1) := by decide +kernel
theorem dX8_nearest_3 : decode cX8_nearest 3 = .ok (.istore_n 3, 1) := by decide +kernel
theorem dX8_nearest_4 : decode cX8_nearest 4 = .ok (.iload_n 3, 1) := by decide +kernel
theorem dX8_nearest_5 : decode cX8_nearest 5 = .ok (.aload_n 0, 1) := by decide +kernel
theorem dX8_nearest_6 : decode cX8_nearest 6 = .ok (.getfield 7, 3) := by decide +kernel
theorem dX8_nearest_9 : decode cX8_nearest 9 = .ok (.if_icmp .ge 35, 3) := by decide +kernel
theorem dX8_nearest_12 : decode cX8_nearest 12 = .ok (.iload_n 3, 1) := by decide +kernel
theorem dX8_nearest_13 : decode cX8_nearest 13 = .ok (.iload_n 1, 1) := by decide +kernel
theorem dX8_nearest_14 : decode cX8_nearest 14 = .ok (.if_icmp .eq 24, 3) := by decide +kernel
theorem dX8_nearest_17 : decode cX8_nearest 17 = .ok (.iload_n 2, 1) := by decide +kernel
theorem dX8_nearest_18 : decode cX8_nearest 18 = .ok (.ifCond .lt 18, 3) := by decide +kernel
theorem dX8_nearest_21 : decode cX8_nearest 21 = .ok (.aload_n 0, 1) := by decide +kernel
theorem dX8_nearest_22 : decode cX8_nearest 22 = .ok (.iload_n 1, 1) := by decide +kernel
theorem dX8_nearest_23 : decode cX8_nearest 23 = .ok (.iload_n 3, 1) := by decide +kernel
theorem dX8_nearest_24 : decode cX8_nearest 24 = .ok (.invokevirtual 322, 3) := by decide +kernel
theorem dX8_nearest_27 : decode cX8_nearest 27 = .ok (.aload_n 0, 1) := by decide +kernel
theorem dX8_nearest_28 : decode cX8_nearest 28 = .ok (.iload_n 1, 1) := by decide +kernel
theorem dX8_nearest_29 : decode cX8_nearest 29 = .ok (.iload_n 2, 1) := by decide +kernel
theorem dX8_nearest_30 : decode cX8_nearest 30 = .ok (.invokevirtual 322, 3) := by decide +kernel
theorem dX8_nearest_33 : decode cX8_nearest 33 = .ok (.if_icmp .ge 5, 3) := by decide +kernel
theorem dX8_nearest_36 : decode cX8_nearest 36 = .ok (.iload_n 3, 1) := by decide +kernel
theorem dX8_nearest_37 : decode cX8_nearest 37 = .ok (.istore_n 2, 1) := by decide +kernel
theorem dX8_nearest_38 : decode cX8_nearest 38 = .ok (.iinc 3 1, 3) := by decide +kernel
theorem dX8_nearest_41 : decode cX8_nearest 41 = .ok (.goto (-37), 3) := by decide +kernel
theorem dX8_nearest_44 : decode cX8_nearest 44 = .ok (.iload_n 2, 1) := by decide +kernel
theorem dX8_nearest_45 : decode cX8_nearest 45 = .ok (.ireturn, 1) := by decide +kernel
theorem dX8_farthest_0 : decode cX8_farthest 0 = .ok (.iconst (-1), 1) := by decide +kernel
theorem dX8_farthest_1 : decode cX8_farthest 1 = .ok (.istore_n 2, 1) := by decide +kernel
theorem dX8_farthest_2 : decode cX8_farthest 2 = .ok (.aload_n 0, 1) := by decide +kernel
theorem dX8_farthest_3 : decode cX8_farthest 3 = .ok (.iload_n 1, 1) := by decide +kernel
theorem dX8_farthest_4 : decode cX8_farthest 4 = .ok (.invokevirtual 325, 3) := by decide +kernel
theorem dX8_farthest_7 : decode cX8_farthest 7 = .ok (.istore_n 3, 1) := by decide +kernel
theorem dX8_farthest_8 : decode cX8_farthest 8 = .ok (.iconst 0, 1) := by decide +kernel
theorem dX8_farthest_9 : decode cX8_farthest 9 = .ok (.istore 4, 2) := by decide +kernel
theorem dX8_farthest_11 : decode cX8_farthest 11 = .ok (.iload 4, 2) := by decide +kernel
theorem dX8_farthest_13 : decode cX8_farthest 13 = .ok (.aload_n 0, 1) := by decide +kernel
theorem dX8_farthest_14 : decode cX8_farthest 14 = .ok (.getfield 7, 3) := by decide +kernel
theorem dX8_farthest_17 : decode cX8_farthest 17 = .ok (.if_icmp .ge 49, 3) := by decide +kernel
theorem dX8_farthest_20 : decode cX8_farthest 20 = .ok (.iload 4, 2) := by decide +kernel
theorem dX8_farthest_22 : decode cX8_farthest 22 = .ok (.iload_n 1, 1) := by decide +kernel
theorem dX8_farthest_23 : decode cX8_farthest 23 = .ok (.if_icmp .eq 37, 3) := by decide +kernel
theorem dX8_farthest_26 : decode cX8_farthest 26 = .ok (.aload_n 0, 1) := by decide +kernel
theorem dX8_farthest_27 : decode cX8_farthest 27 = .ok (.iload_n 1, 1) := by decide +kernel
theorem dX8_farthest_28 : decode cX8_farthest 28 = .ok (.iload 4, 2) := by decide +kernel
theorem dX8_farthest_30 : decode cX8_farthest 30 = .ok (.invokevirtual 322, 3) := by decide +kernel
theorem dX8_farthest_33 : decode cX8_farthest 33 = .ok (.iload_n 3, 1) := by decide +kernel
theorem dX8_farthest_34 : decode cX8_farthest 34 = .ok (.if_icmp .gt 26, 3) := by decide +kernel
theorem dX8_farthest_37 : decode cX8_farthest 37 = .ok (.iload_n 2, 1) := by decide +kernel
theorem dX8_farthest_38 : decode cX8_farthest 38 = .ok (.ifCond .lt 19, 3) := by decide +kernel
theorem dX8_farthest_41 : decode cX8_farthest 41 = .ok (.aload_n 0, 1) := by decide +kernel
theorem dX8_farthest_42 : decode cX8_farthest 42 = .ok (.iload_n 1, 1) := by decide +kernel
theorem dX8_farthest_43 : decode cX8_farthest 43 = .ok (.iload 4, 2) := by decide +kernel
theorem dX8_farthest_45 : decode cX8_farthest 45 = .ok (.invokevirtual 322, 3) := by decide +kernel
theorem dX8_farthest_48 : decode cX8_farthest 48 = .ok (.aload_n 0, 1) := by decide +kernel
theorem dX8_farthest_49 : decode cX8_farthest 49 = .ok (.iload_n 1, 1) := by decide +kernel
theorem dX8_farthest_50 : decode cX8_farthest 50 = .ok (.iload_n 2, 1) := by decide +kernel
theorem dX8_farthest_51 : decode cX8_farthest 51 = .ok (.invokevirtual 322, 3) := by decide +kernel
theorem dX8_farthest_54 : decode cX8_farthest 54 = .ok (.if_icmp .le 6, 3) := by decide +kernel
theorem dX8_farthest_57 : decode cX8_farthest 57 = .ok (.iload 4, 2) := by decide +kernel
theorem dX8_farthest_59 : decode cX8_farthest 59 = .ok (.istore_n 2, 1) := by decide +kernel
theorem dX8_farthest_60 : decode cX8_farthest 60 = .ok (.iinc 4 1, 3) := by decide +kernel
theorem dX8_farthest_63 : decode cX8_farthest 63 = .ok (.goto (-52), 3) := by decide +kernel
theorem dX8_farthest_66 : decode cX8_farthest 66 = .ok (.iload_n 2, 1) := by decide +kernel
theorem dX8_farthest_67 : decode cX8_farthest 67 = .ok (.ireturn, 1) := by decide +kernel
theorem dX8_hopeful_0 : decode cX8_hopeful 0 = .ok (.iconst (-1), 1) := by decide +kernel
theorem dX8_hopeful_1 : decode cX8_hopeful 1 = .ok (.istore_n 2, 1) := by decide +kernel
theorem dX8_hopeful_2 : decode cX8_hopeful 2 = .ok (.iconst 0, 1) := by decide +kernel
theorem dX8_hopeful_3 : decode cX8_hopeful 3 = .ok (.istore_n 3, 1) := by decide +kernel
theorem dX8_hopeful_4 : decode cX8_hopeful 4 = .ok (.iload_n 3, 1) := by decide +kernel
theorem dX8_hopeful_5 : decode cX8_hopeful 5 = .ok (.aload_n 0, 1) := by decide +kernel
theorem dX8_hopeful_6 : decode cX8_hopeful 6 = .ok (.getfield 7, 3) := by decide +kernel
theorem dX8_hopeful_9 : decode cX8_hopeful 9 = .ok (.if_icmp .ge 35, 3) := by decide +kernel
theorem dX8_hopeful_12 : decode cX8_hopeful 12 = .ok (.iload_n 3, 1) := by decide +kernel
theorem dX8_hopeful_13 : decode cX8_hopeful 13 = .ok (.iload_n 1, 1) := by decide +kernel
theorem dX8_hopeful_14 : decode cX8_hopeful 14 = .ok (.if_icmp .eq 24, 3) := by decide +kernel
theorem dX8_hopeful_17 : decode cX8_hopeful 17 = .ok (.iload_n 2, 1) := by decide +kernel
theorem dX8_hopeful_18 : decode cX8_hopeful 18 = .ok (.ifCond .lt 18, 3) := by decide +kernel
theorem dX8_hopeful_21 : decode cX8_hopeful 21 = .ok (.aload_n 0, 1) := by decide +kernel
theorem dX8_hopeful_22 : decode cX8_hopeful 22 = .ok (.getfield 35, 3) := by decide +kernel
theorem dX8_hopeful_25 : decode cX8_hopeful 25 = .ok (.iload_n 3, 1) := by decide +kernel
theorem dX8_hopeful_26 : decode cX8_hopeful 26 = .ok (.iaload, 1) := by decide +kernel
theorem dX8_hopeful_27 : decode cX8_hopeful 27 = .ok (.aload_n 0, 1) := by decide +kernel
theorem dX8_hopeful_28 : decode cX8_hopeful 28 = .ok (.getfield 35, 3) := by decide +kernel
theorem dX8_hopeful_31 : decode cX8_hopeful 31 = .ok (.iload_n 2, 1) := by decide +kernel
theorem dX8_hopeful_32 : decode cX8_hopeful 32 = .ok (.iaload, 1) := by decide +kernel
theorem dX8_hopeful_33 : decode cX8_hopeful 33 = .ok (.if_icmp .le 5, 3) := by decide +kernel
theorem dX8_hopeful_36 : decode cX8_hopeful 36 = .ok (.iload_n 3, 1) := by decide +kernel
theorem dX8_hopeful_37 : decode cX8_hopeful 37 = .ok (.istore_n 2, 1) := by decide +kernel
theorem dX8_hopeful_38 : decode cX8_hopeful 38 = .ok (.iinc 3 1, 3) := by decide +kernel
theorem dX8_hopeful_41 : decode cX8_hopeful 41 = .ok (.goto (-37), 3) := by decide +kernel
theorem dX8_hopeful_44 : decode cX8_hopeful 44 = .ok (.iload_n 2, 1) := by decide +kernel
theorem dX8_hopeful_45 : decode cX8_hopeful 45 = .ok (.ireturn, 1) := by decide +kernel
theorem dX8_toWhom_0 : decode cX8_toWhom 0 = .ok (.aload_n 0, 1) := by decide +kernel
theorem dX8_toWhom_1 : decode cX8_toWhom 1 = .ok (.getfield 25, 3) := by decide +kernel
theorem dX8_toWhom_4 : decode cX8_toWhom 4 = .ok (.iload_n 1, 1) := by decide +kernel
theorem dX8_toWhom_5 : decode cX8_toWhom 5 = .ok (.iaload, 1) := by decide +kernel
theorem dX8_toWhom_6 : decode cX8_toWhom 6 = .ok (.tableswitch 60 2 6 #[34, 54, 60, 34, 54], 34) := by decide +kernel
theorem dX8_toWhom_40 : decode cX8_toWhom 40 = .ok (.aload_n 0, 1) := by decide +kernel
theorem dX8_toWhom_41 : decode cX8_toWhom 41 = .ok (.iload_n 1, 1) := by decide +kernel
theorem dX8_toWhom_42 : decode cX8_toWhom 42 = .ok (.invokevirtual 328, 3) := by decide +kernel
theorem dX8_toWhom_45 : decode cX8_toWhom 45 = .ok (.istore_n 2, 1) := by decide +kernel
theorem dX8_toWhom_46 : decode cX8_toWhom 46 = .ok (.iload_n 2, 1) := by decide +kernel
theorem dX8_toWhom_47 : decode cX8_toWhom 47 = .ok (.ifCond .ge 11, 3) := by decide +kernel
theorem dX8_toWhom_50 : decode cX8_toWhom 50 = .ok (.aload_n 0, 1) := by decide +kernel
theorem dX8_toWhom_51 : decode cX8_toWhom 51 = .ok (.iload_n 1, 1) := by decide +kernel
theorem dX8_toWhom_52 : decode cX8_toWhom 52 = .ok (.invokevirtual 331, 3) := by decide +kernel
theorem dX8_toWhom_55 : decode cX8_toWhom 55 = .ok (.goto 4, 3) := by decide +kernel
theorem dX8_toWhom_58 : decode cX8_toWhom 58 = .ok (.iload_n 2, 1) := by decide +kernel
theorem dX8_toWhom_59 : decode cX8_toWhom 59 = .ok (.ireturn, 1) := by decide +kernel
theorem dX8_toWhom_60 : decode cX8_toWhom 60 = .ok (.aload_n 0, 1) := by decide +kernel
theorem dX8_toWhom_61 : decode cX8_toWhom 61 = .ok (.iload_n 1, 1) := by decide +kernel
theorem dX8_toWhom_62 : decode cX8_toWhom 62 = .ok (.invokevirtual 334, 3) := by decide +kernel
theorem dX8_toWhom_65 : decode cX8_toWhom 65 = .ok (.ireturn, 1) := by decide +kernel
theorem dX8_toWhom_66 : decode cX8_toWhom 66 = .ok (.aload_n 0, 1) := by decide +kernel
theorem dX8_toWhom_67 : decode cX8_toWhom 67 = .ok (.iload_n 1, 1) := by decide +kernel
theorem dX8_toWhom_68 : decode cX8_toWhom 68 = .ok (.invokevirtual 331, 3) := by decide +kernel
theorem dX8_toWhom_71 : decode cX8_toWhom 71 = .ok (.ireturn, 1) := by decide +kernel
theorem dX8_of_0 : decode cX8_of 0 = .ok (.aload_n 0, 1) := by decide +kernel
theorem dX8_of_1 : decode cX8_of 1 = .ok (.iload_n 1, 1) := by decide +kernel
theorem dX8_of_2 : decode cX8_of 2 = .ok (.invokevirtual 247, 3) := by decide +kernel
theorem dX8_of_5 : decode cX8_of 5 = .ok (.ifCond .ne 7, 3) := by decide +kernel
theorem dX8_of_8 : decode cX8_of 8 = .ok (.sipush (-1001), 3) := by decide +kernel
theorem dX8_of_11 : decode cX8_of 11 = .ok (.ireturn, 1) := by decide +kernel
theorem dX8_of_12 : decode cX8_of 12 = .ok (.iload_n 2, 1) := by decide +kernel
theorem dX8_of_13 : decode cX8_of 13 = .ok (.tableswitch 104 0 7 #[47, 54, 61, 68, 75, 82, 88, 98], 47) := by decide +kernel
theorem dX8_of_60 : decode cX8_of 60 = .ok (.aload_n 0, 1) := by decide +kernel
theorem dX8_of_61 : decode cX8_of 61 = .ok (.getfield 25, 3) := by decide +kernel
theorem dX8_of_64 : decode cX8_of 64 = .ok (.iload_n 1, 1) := by decide +kernel
theorem dX8_of_65 : decode cX8_of 65 = .ok (.iaload, 1) := by decide +kernel
theorem dX8_of_66 : decode cX8_of 66 = .ok (.ireturn, 1) := by decide +kernel
theorem dX8_of_67 : decode cX8_of 67 = .ok (.aload_n 0, 1) := by decide +kernel
theorem dX8_of_68 : decode cX8_of 68 = .ok (.getfield 29, 3) := by decide +kernel
theorem dX8_of_71 : decode cX8_of 71 = .ok (.iload_n 1, 1) := by decide +kernel
theorem dX8_of_72 : decode cX8_of 72 = .ok (.iaload, 1) := by decide +kernel
theorem dX8_of_73 : decode cX8_of 73 = .ok (.ireturn, 1) := by decide +kernel
theorem dX8_of_74 : decode cX8_of 74 = .ok (.aload_n 0, 1) := by decide +kernel
theorem dX8_of_75 : decode cX8_of 75 = .ok (.getfield 32, 3) := by decide +kernel
theorem dX8_of_78 : decode cX8_of 78 = .ok (.iload_n 1, 1) := by decide +kernel
theorem dX8_of_79 : decode cX8_of 79 = .ok (.iaload, 1) := by decide +kernel
theorem dX8_of_80 : decode cX8_of 80 = .ok (.ireturn, 1) := by decide +kernel
theorem dX8_of_81 : decode cX8_of 81 = .ok (.aload_n 0, 1) := by decide +kernel
theorem dX8_of_82 : decode cX8_of 82 = .ok (.getfield 35, 3) := by decide +kernel
theorem dX8_of_85 : decode cX8_of 85 = .ok (.iload_n 1, 1) := by decide +kernel
theorem dX8_of_86 : decode cX8_of 86 = .ok (.iaload, 1) := by decide +kernel
theorem dX8_of_87 : decode cX8_of 87 = .ok (.ireturn, 1) := by decide +kernel
theorem dX8_of_88 : decode cX8_of 88 = .ok (.aload_n 0, 1) := by decide +kernel
theorem dX8_of_89 : decode cX8_of 89 = .ok (.getfield 38, 3) := by decide +kernel
theorem dX8_of_92 : decode cX8_of 92 = .ok (.iload_n 1, 1) := by decide +kernel
theorem dX8_of_93 : decode cX8_of 93 = .ok (.iaload, 1) := by decide +kernel
theorem dX8_of_94 : decode cX8_of 94 = .ok (.ireturn, 1) := by decide +kernel
theorem dX8_of_95 : decode cX8_of 95 = .ok (.aload_n 0, 1) := by decide +kernel
theorem dX8_of_96 : decode cX8_of 96 = .ok (.iload_n 1, 1) := by decide +kernel
theorem dX8_of_97 : decode cX8_of 97 = .ok (.invokevirtual 325, 3) := by decide +kernel
theorem dX8_of_100 : decode cX8_of 100 = .ok (.ireturn, 1) := by decide +kernel
theorem dX8_of_101 : decode cX8_of 101 = .ok (.aload_n 0, 1) := by decide +kernel
theorem dX8_of_102 : decode cX8_of 102 = .ok (.aload_n 0, 1) := by decide +kernel
theorem dX8_of_103 : decode cX8_of 103 = .ok (.iload_n 1, 1) := by decide +kernel
theorem dX8_of_104 : decode cX8_of 104 = .ok (.invokevirtual 337, 3) := by decide +kernel
theorem dX8_of_107 : decode cX8_of 107 = .ok (.invokevirtual 254, 3) := by decide +kernel
theorem dX8_of_110 : decode cX8_of 110 = .ok (.ireturn, 1) := by decide +kernel
theorem dX8_of_111 : decode cX8_of 111 = .ok (.aload_n 0, 1) := by decide +kernel
theorem dX8_of_112 : decode cX8_of 112 = .ok (.iload_n 1, 1) := by decide +kernel
theorem dX8_of_113 : decode cX8_of 113 = .ok (.invokevirtual 340, 3) := by decide +kernel
theorem dX8_of_116 : decode cX8_of 116 = .ok (.ireturn, 1) := by decide +kernel
theorem dX8_of_117 : decode cX8_of 117 = .ok (.sipush (-1001), 3) := by decide +kernel
theorem dX8_of_120 : decode cX8_of 120 = .ok (.ireturn, 1) := by decide +kernel
theorem dX8_told_0 : decode cX8_told 0 = .ok (.iload_n 1, 1) := by decide +kernel
theorem dX8_told_1 : decode cX8_told 1 = .ok (.tableswitch 82 0 5 #[39, 44, 53, 58, 67, 75], 39) := by decide +kernel
theorem dX8_told_40 : decode cX8_told 40 = .ok (.aload_n 0, 1) := by decide +kernel
theorem dX8_told_41 : decode cX8_told 41 = .ok (.getfield 13, 3) := by decide +kernel
theorem dX8_told_44 : decode cX8_told 44 = .ok (.ireturn, 1) := by decide +kernel
theorem dX8_told_45 : decode cX8_told 45 = .ok (.aload_n 0, 1) := by decide +kernel
theorem dX8_told_46 : decode cX8_told 46 = .ok (.aload_n 0, 1) := by decide +kernel
theorem dX8_told_47 : decode cX8_told 47 = .ok (.getfield 16, 3) := by decide +kernel
theorem dX8_told_50 : decode cX8_told 50 = .ok (.invokevirtual 254, 3) := by decide +kernel
theorem dX8_told_53 : decode cX8_told 53 = .ok (.ireturn, 1) := by decide +kernel
theorem dX8_told_54 : decode cX8_told 54 = .ok (.aload_n 0, 1) := by decide +kernel
theorem dX8_told_55 : decode cX8_told 55 = .ok (.getfield 19, 3) := by decide +kernel
theorem dX8_told_58 : decode cX8_told 58 = .ok (.ireturn, 1) := by decide +kernel
theorem dX8_told_59 : decode cX8_told 59 = .ok (.aload_n 0, 1) := by decide +kernel
theorem dX8_told_60 : decode cX8_told 60 = .ok (.aload_n 0, 1) := by decide +kernel
theorem dX8_told_61 : decode cX8_told 61 = .ok (.getfield 22, 3) := by decide +kernel
theorem dX8_told_64 : decode cX8_told 64 = .ok (.invokevirtual 254, 3) := by decide +kernel
theorem dX8_told_67 : decode cX8_told 67 = .ok (.ireturn, 1) := by decide +kernel
theorem dX8_told_68 : decode cX8_told 68 = .ok (.aload_n 0, 1) := by decide +kernel
theorem dX8_told_69 : decode cX8_told 69 = .ok (.iconst 2, 1) := by decide +kernel
theorem dX8_told_70 : decode cX8_told 70 = .ok (.bipush 12, 2) := by decide +kernel
theorem dX8_told_72 : decode cX8_told 72 = .ok (.invokevirtual 316, 3) := by decide +kernel
theorem dX8_told_75 : decode cX8_told 75 = .ok (.ireturn, 1) := by decide +kernel
theorem dX8_told_76 : decode cX8_told 76 = .ok (.aload_n 0, 1) := by decide +kernel
theorem dX8_told_77 : decode cX8_told 77 = .ok (.iconst 3, 1) := by decide +kernel
theorem dX8_told_78 : decode cX8_told 78 = .ok (.iconst 5, 1) := by decide +kernel
theorem dX8_told_79 : decode cX8_told 79 = .ok (.invokevirtual 316, 3) := by decide +kernel
theorem dX8_told_82 : decode cX8_told 82 = .ok (.ireturn, 1) := by decide +kernel
theorem dX8_told_83 : decode cX8_told 83 = .ok (.iconst (-1), 1) := by decide +kernel
theorem dX8_told_84 : decode cX8_told 84 = .ok (.ireturn, 1) := by decide +kernel
theorem dX8_canGo_0 : decode cX8_canGo 0 = .ok (.aload_n 0, 1) := by decide +kernel
theorem dX8_canGo_1 : decode cX8_canGo 1 = .ok (.getfield 22, 3) := by decide +kernel
theorem dX8_canGo_4 : decode cX8_canGo 4 = .ok (.ifCond .ge 15, 3) := by decide +kernel
theorem dX8_canGo_7 : decode cX8_canGo 7 = .ok (.aload_n 0, 1) := by decide +kernel
theorem dX8_canGo_8 : decode cX8_canGo 8 = .ok (.getfield 7, 3) := by decide +kernel
theorem dX8_canGo_11 : decode cX8_canGo 11 = .ok (.iconst 1, 1) := by decide +kernel
theorem dX8_canGo_12 : decode cX8_canGo 12 = .ok (.if_icmp .le 7, 3) := by decide +kernel
theorem dX8_canGo_15 : decode cX8_canGo 15 = .ok (.iconst 1, 1) := by decide +kernel
theorem dX8_canGo_16 : decode cX8_canGo 16 = .ok (.goto 4, 3) := by decide +kernel
theorem dX8_canGo_19 : decode cX8_canGo 19 = .ok (.iconst 0, 1) := by decide +kernel
theorem dX8_canGo_20 : decode cX8_canGo 20 = .ok (.ireturn, 1) := by decide +kernel
theorem dX8_goStep_0 : decode cX8_goStep 0 = .ok (.aload_n 0, 1) := by decide +kernel
theorem dX8_goStep_1 : decode cX8_goStep 1 = .ok (.getfield 16, 3) := by decide +kernel
theorem dX8_goStep_4 : decode cX8_goStep 4 = .ok (.istore_n 1, 1) := by decide +kernel
theorem dX8_goStep_5 : decode cX8_goStep 5 = .ok (.aload_n 0, 1) := by decide +kernel
theorem dX8_goStep_6 : decode cX8_goStep 6 = .ok (.iload_n 1, 1) := by decide +kernel
theorem dX8_goStep_7 : decode cX8_goStep 7 = .ok (.invokevirtual 337, 3) := by decide +kernel
theorem dX8_goStep_10 : decode cX8_goStep 10 = .ok (.istore_n 2, 1) := by decide +kernel
theorem dX8_goStep_11 : decode cX8_goStep 11 = .ok (.iconst 2, 1) := by decide +kernel
theorem dX8_goStep_12 : decode cX8_goStep 12 = .ok (.istore_n 3, 1) := by decide +kernel
theorem dX8_goStep_13 : decode cX8_goStep 13 = .ok (.aload_n 0, 1) := by decide +kernel
theorem dX8_goStep_14 : decode cX8_goStep 14 = .ok (.iload_n 1, 1) := by decide +kernel
theorem dX8_goStep_15 : decode cX8_goStep 15 = .ok (.iload_n 2, 1) := by decide +kernel
theorem dX8_goStep_16 : decode cX8_goStep 16 = .ok (.invokevirtual 322, 3) := by decide +kernel
theorem dX8_goStep_19 : decode cX8_goStep 19 = .ok (.aload_n 0, 1) := by decide +kernel
theorem dX8_goStep_20 : decode cX8_goStep 20 = .ok (.iload_n 1, 1) := by decide +kernel
theorem dX8_goStep_21 : decode cX8_goStep 21 = .ok (.invokevirtual 325, 3) := by decide +kernel
theorem dX8_goStep_24 : decode cX8_goStep 24 = .ok (.if_icmp .gt 34, 3) := by decide +kernel
theorem dX8_goStep_27 : decode cX8_goStep 27 = .ok (.aload_n 0, 1) := by decide +kernel
theorem dX8_goStep_28 : decode cX8_goStep 28 = .ok (.aload_n 0, 1) := by decide +kernel
theorem dX8_goStep_29 : decode cX8_goStep 29 = .ok (.aload_n 0, 1) := by decide +kernel
theorem dX8_goStep_30 : decode cX8_goStep 30 = .ok (.getfield 19, 3) := by decide +kernel
theorem dX8_goStep_33 : decode cX8_goStep 33 = .ok (.aload_n 0, 1) := by decide +kernel
theorem dX8_goStep_34 : decode cX8_goStep 34 = .ok (.iload_n 1, 1) := by decide +kernel
theorem dX8_goStep_35 : decode cX8_goStep 35 = .ok (.invokevirtual 340, 3) := by decide +kernel
theorem dX8_goStep_38 : decode cX8_goStep 38 = .ok (.iadd, 1) := by decide +kernel
theorem dX8_goStep_39 : decode cX8_goStep 39 = .ok (.sipush 999, 3) := by decide +kernel
theorem dX8_goStep_42 : decode cX8_goStep 42 = .ok (.invokevirtual 343, 3) := by decide +kernel
theorem dX8_goStep_45 : decode cX8_goStep 45 = .ok (.putfield 19, 3) := by decide +kernel
theorem dX8_goStep_48 : decode cX8_goStep 48 = .ok (.aload_n 0, 1) := by decide +kernel
theorem dX8_goStep_49 : decode cX8_goStep 49 = .ok (.iload_n 2, 1) := by decide +kernel
theorem dX8_goStep_50 : decode cX8_goStep 50 = .ok (.putfield 16, 3) := by decide +kernel
theorem dX8_goStep_53 : decode cX8_goStep 53 = .ok (.iconst 0, 1) := by decide +kernel
theorem dX8_goStep_54 : decode cX8_goStep 54 = .ok (.istore_n 3, 1) := by decide +kernel
theorem dX8_goStep_55 : decode cX8_goStep 55 = .ok (.goto 76, 3) := by decide +kernel
theorem dX8_goStep_58 : decode cX8_goStep 58 = .ok (.aload_n 0, 1) := by decide +kernel
theorem dX8_goStep_59 : decode cX8_goStep 59 = .ok (.getfield 35, 3) := by decide +kernel
theorem dX8_goStep_62 : decode cX8_goStep 62 = .ok (.iload_n 1, 1) := by decide +kernel
theorem dX8_goStep_63 : decode cX8_goStep 63 = .ok (.iaload, 1) := by decide +kernel
theorem dX8_goStep_64 : decode cX8_goStep 64 = .ok (.ifCond .le 62, 3) := by decide +kernel
theorem dX8_goStep_67 : decode cX8_goStep 67 = .ok (.aload_n 0, 1) := by decide +kernel
theorem dX8_goStep_68 : decode cX8_goStep 68 = .ok (.getfield 35, 3) := by decide +kernel
theorem dX8_goStep_71 : decode cX8_goStep 71 = .ok (.iload_n 1, 1) := by decide +kernel
theorem dX8_goStep_72 : decode cX8_goStep 72 = .ok (.dup2, 1) := by decide +kernel
theorem dX8_goStep_73 : decode cX8_goStep 73 = .ok (.iaload, 1) := by decide +kernel
theorem dX8_goStep_74 : decode cX8_goStep 74 = .ok (.iconst 1, 1) := by decide +kernel
theorem dX8_goStep_75 : decode cX8_goStep 75 = .ok (.isub, 1) := by decide +kernel
theorem dX8_goStep_76 : decode cX8_goStep 76 = .ok (.iastore, 1) := by decide +kernel
theorem dX8_goStep_77 : decode cX8_goStep 77 = .ok (.aload_n 0, 1) := by decide +kernel
theorem dX8_goStep_78 : decode cX8_goStep 78 = .ok (.getfield 38, 3) := by decide +kernel
theorem dX8_goStep_81 : decode cX8_goStep 81 = .ok (.iload_n 1, 1) := by decide +kernel
theorem dX8_goStep_82 : decode cX8_goStep 82 = .ok (.aload_n 0, 1) := by decide +kernel
theorem dX8_goStep_83 : decode cX8_goStep 83 = .ok (.aload_n 0, 1) := by decide +kernel
theorem dX8_goStep_84 : decode cX8_goStep 84 = .ok (.getfield 38, 3) := by decide +kernel
theorem dX8_goStep_87 : decode cX8_goStep 87 = .ok (.iload_n 1, 1) := by decide +kernel
theorem dX8_goStep_88 : decode cX8_goStep 88 = .ok (.iaload, 1) := by decide +kernel
theorem dX8_goStep_89 : decode cX8_goStep 89 = .ok (.iconst 1, 1) := by decide +kernel
theorem dX8_goStep_90 : decode cX8_goStep 90 = .ok (.iadd, 1) := by decide +kernel
theorem dX8_goStep_91 : decode cX8_goStep 91 = .ok (.aload_n 0, 1) := by decide +kernel
theorem dX8_goStep_92 : decode cX8_goStep 92 = .ok (.getfield 99, 3) := by decide +kernel
theorem dX8_goStep_95 : decode cX8_goStep 95 = .ok (.invokevirtual 343, 3) := by decide +kernel
theorem dX8_goStep_98 : decode cX8_goStep 98 = .ok (.iastore, 1) := by decide +kernel
theorem dX8_goStep_99 : decode cX8_goStep 99 = .ok (.aload_n 0, 1) := by decide +kernel
theorem dX8_goStep_100 : decode cX8_goStep 100 = .ok (.aload_n 0, 1) := by decide +kernel
theorem dX8_goStep_101 : decode cX8_goStep 101 = .ok (.aload_n 0, 1) := by decide +kernel
theorem dX8_goStep_102 : decode cX8_goStep 102 = .ok (.getfield 19, 3) := by decide +kernel
theorem dX8_goStep_105 : decode cX8_goStep 105 = .ok (.aload_n 0, 1) := by decide +kernel
theorem dX8_goStep_106 : decode cX8_goStep 106 = .ok (.iconst 3, 1) := by decide +kernel
theorem dX8_goStep_107 : decode cX8_goStep 107 = .ok (.iconst 5, 1) := by decide +kernel
theorem dX8_goStep_108 : decode cX8_goStep 108 = .ok (.invokevirtual 316, 3) := by decide +kernel
theorem dX8_goStep_111 : decode cX8_goStep 111 = .ok (.iadd, 1) := by decide +kernel
theorem dX8_goStep_112 : decode cX8_goStep 112 = .ok (.sipush 999, 3) := by decide +kernel
theorem dX8_goStep_115 : decode cX8_goStep 115 = .ok (.invokevirtual 343, 3) := by decide +kernel
theorem dX8_goStep_118 : decode cX8_goStep 118 = .ok (.putfield 19, 3) := by decide +kernel
theorem dX8_goStep_121 : decode cX8_goStep 121 = .ok (.iconst 1, 1) := by decide +kernel
theorem dX8_goStep_122 : decode cX8_goStep 122 = .ok (.istore_n 3, 1) := by decide +kernel
theorem dX8_goStep_123 : decode cX8_goStep 123 = .ok (.goto 8, 3) := by decide +kernel
theorem dX8_goStep_126 : decode cX8_goStep 126 = .ok (.aload_n 0, 1) := by decide +kernel
theorem dX8_goStep_127 : decode cX8_goStep 127 = .ok (.iload_n 1, 1) := by decide +kernel
theorem dX8_goStep_128 : decode cX8_goStep 128 = .ok (.putfield 22, 3) := by decide +kernel
theorem dX8_goStep_131 : decode cX8_goStep 131 = .ok (.aload_n 0, 1) := by decide +kernel
theorem dX8_goStep_132 : decode cX8_goStep 132 = .ok (.dup, 1) := by decide +kernel
theorem dX8_goStep_133 : decode cX8_goStep 133 = .ok (.getfield 13, 3) := by decide +kernel
theorem dX8_goStep_136 : decode cX8_goStep 136 = .ok (.iconst 1, 1) := by decide +kernel
theorem dX8_goStep_137 : decode cX8_goStep 137 = .ok (.iadd, 1) := by decide +kernel
theorem dX8_goStep_138 : decode cX8_goStep 138 = .ok (.putfield 13, 3) := by decide +kernel
theorem dX8_goStep_141 : decode cX8_goStep 141 = .ok (.iload_n 3, 1) := by decide +kernel
theorem dX8_goStep_142 : decode cX8_goStep 142 = .ok (.ireturn, 1) := by decide +kernel
theorem dX8_step_0 : decode cX8_step 0 = .ok (.aload_n 0, 1) := by decide +kernel
theorem dX8_step_1 : decode cX8_step 1 = .ok (.invokevirtual 346, 3) := by decide +kernel
theorem dX8_step_4 : decode cX8_step 4 = .ok (.ifCond .eq 13, 3) := by decide +kernel
theorem dX8_step_7 : decode cX8_step 7 = .ok (.aload_n 0, 1) := by decide +kernel
theorem dX8_step_8 : decode cX8_step 8 = .ok (.getfield 13, 3) := by decide +kernel
theorem dX8_step_11 : decode cX8_step 11 = .ok (.sipush 9999, 3) := by decide +kernel
theorem dX8_step_14 : decode cX8_step 14 = .ok (.if_icmp .ne 8, 3) := by decide +kernel
theorem dX8_step_17 : decode cX8_step 17 = .ok (.bipush (-3), 2) := by decide +kernel
theorem dX8_step_19 : decode cX8_step 19 = .ok (.goto 7, 3) := by decide +kernel
theorem dX8_step_22 : decode cX8_step 22 = .ok (.aload_n 0, 1) := by decide +kernel
theorem dX8_step_23 : decode cX8_step 23 = .ok (.invokevirtual 349, 3) := by decide +kernel
theorem dX8_step_26 : decode cX8_step 26 = .ok (.ireturn, 1) := by decide +kernel
theorem dX8_save_0 : decode cX8_save 0 = .ok (.aload_n 0, 1) := by decide +kernel
theorem dX8_save_1 : decode cX8_save 1 = .ok (.ldc_w 352, 3) := by decide +kernel
theorem dX8_save_4 : decode cX8_save 4 = .ok (.putfield 99, 3) := by decide +kernel
theorem dX8_save_7 : decode cX8_save 7 = .ok (.aload_n 0, 1) := by decide +kernel
theorem dX8_save_8 : decode cX8_save 8 = .ok (.aload_n 0, 1) := by decide +kernel
theorem dX8_save_9 : decode cX8_save 9 = .ok (.getfield 13, 3) := by decide +kernel
theorem dX8_save_12 : decode cX8_save 12 = .ok (.putfield 102, 3) := by decide +kernel
theorem dX8_save_15 : decode cX8_save 15 = .ok (.aload_n 0, 1) := by decide +kernel
theorem dX8_save_16 : decode cX8_save 16 = .ok (.aload_n 0, 1) := by decide +kernel
theorem dX8_save_17 : decode cX8_save 17 = .ok (.getfield 16, 3) := by decide +kernel
theorem dX8_save_20 : decode cX8_save 20 = .ok (.putfield 105, 3) := by decide +kernel
theorem dX8_save_23 : decode cX8_save 23 = .ok (.aload_n 0, 1) := by decide +kernel
theorem dX8_save_24 : decode cX8_save 24 = .ok (.aload_n 0, 1) := by decide +kernel
theorem dX8_save_25 : decode cX8_save 25 = .ok (.getfield 19, 3) := by decide +kernel
theorem dX8_save_28 : decode cX8_save 28 = .ok (.putfield 108, 3) := by decide +kernel
theorem dX8_save_31 : decode cX8_save 31 = .ok (.aload_n 0, 1) := by decide +kernel
theorem dX8_save_32 : decode cX8_save 32 = .ok (.aload_n 0, 1) := by decide +kernel
theorem dX8_save_33 : decode cX8_save 33 = .ok (.getfield 22, 3) := by decide +kernel
theorem dX8_save_36 : decode cX8_save 36 = .ok (.putfield 111, 3) := by decide +kernel
theorem dX8_save_39 : decode cX8_save 39 = .ok (.iconst 0, 1) := by decide +kernel
theorem dX8_save_40 : decode cX8_save 40 = .ok (.istore_n 1, 1) := by decide +kernel
theorem dX8_save_41 : decode cX8_save 41 = .ok (.iload_n 1, 1) := by decide +kernel
theorem dX8_save_42 : decode cX8_save 42 = .ok (.bipush 6, 2) := by decide +kernel
theorem dX8_save_44 : decode cX8_save 44 = .ok (.if_icmp .ge 45, 3) := by decide +kernel
theorem dX8_save_47 : decode cX8_save 47 = .ok (.aload_n 0, 1) := by decide +kernel
theorem dX8_save_48 : decode cX8_save 48 = .ok (.getfield 114, 3) := by decide +kernel
theorem dX8_save_51 : decode cX8_save 51 = .ok (.iload_n 1, 1) := by decide +kernel
theorem dX8_save_52 : decode cX8_save 52 = .ok (.aload_n 0, 1) := by decide +kernel
theorem dX8_save_53 : decode cX8_save 53 = .ok (.getfield 32, 3) := by decide +kernel
theorem dX8_save_56 : decode cX8_save 56 = .ok (.iload_n 1, 1) := by decide +kernel
theorem dX8_save_57 : decode cX8_save 57 = .ok (.iaload, 1) := by decide +kernel
theorem dX8_save_58 : decode cX8_save 58 = .ok (.iastore, 1) := by decide +kernel
theorem dX8_save_59 : decode cX8_save 59 = .ok (.aload_n 0, 1) := by decide +kernel
theorem dX8_save_60 : decode cX8_save 60 = .ok (.getfield 117, 3) := by decide +kernel
theorem dX8_save_63 : decode cX8_save 63 = .ok (.iload_n 1, 1) := by decide +kernel
theorem dX8_save_64 : decode cX8_save 64 = .ok (.aload_n 0, 1) := by decide +kernel
theorem dX8_save_65 : decode cX8_save 65 = .ok (.getfield 35, 3) := by decide +kernel
theorem dX8_save_68 : decode cX8_save 68 = .ok (.iload_n 1, 1) := by decide +kernel
theorem dX8_save_69 : decode cX8_save 69 = .ok (.iaload, 1) := by decide +kernel
theorem dX8_save_70 : decode cX8_save 70 = .ok (.iastore, 1) := by decide +kernel
theorem dX8_save_71 : decode cX8_save 71 = .ok (.aload_n 0, 1) := by decide +kernel
theorem dX8_save_72 : decode cX8_save 72 = .ok (.getfield 120, 3) := by decide +kernel
theorem dX8_save_75 : decode cX8_save 75 = .ok (.iload_n 1, 1) := by decide +kernel
theorem dX8_save_76 : decode cX8_save 76 = .ok (.aload_n 0, 1) := by decide +kernel
theorem dX8_save_77 : decode cX8_save 77 = .ok (.getfield 38, 3) := by decide +kernel
theorem dX8_save_80 : decode cX8_save 80 = .ok (.iload_n 1, 1) := by decide +kernel
theorem dX8_save_81 : decode cX8_save 81 = .ok (.iaload, 1) := by decide +kernel
theorem dX8_save_82 : decode cX8_save 82 = .ok (.iastore, 1) := by decide +kernel
theorem dX8_save_83 : decode cX8_save 83 = .ok (.iinc 1 1, 3) := by decide +kernel
theorem dX8_save_86 : decode cX8_save 86 = .ok (.goto (-45), 3) := by decide +kernel
theorem dX8_save_89 : decode cX8_save 89 = .ok (.return_, 1) := by decide +kernel
theorem dX8_putBack_0 : decode cX8_putBack 0 = .ok (.aload_n 0, 1) := by decide +kernel
theorem dX8_putBack_1 : decode cX8_putBack 1 = .ok (.sipush 9999, 3) := by decide +kernel
theorem dX8_putBack_4 : decode cX8_putBack 4 = .ok (.putfield 99, 3) := by decide +kernel
theorem dX8_putBack_7 : decode cX8_putBack 7 = .ok (.aload_n 0, 1) := by decide +kernel
theorem dX8_putBack_8 : decode cX8_putBack 8 = .ok (.aload_n 0, 1) := by decide +kernel
theorem dX8_putBack_9 : decode cX8_putBack 9 = .ok (.getfield 102, 3) := by decide +kernel
theorem dX8_putBack_12 : decode cX8_putBack 12 = .ok (.putfield 13, 3) := by decide +kernel
theorem dX8_putBack_15 : decode cX8_putBack 15 = .ok (.aload_n 0, 1) := by decide +kernel
theorem dX8_putBack_16 : decode cX8_putBack 16 = .ok (.aload_n 0, 1) := by decide +kernel
theorem dX8_putBack_17 : decode cX8_putBack 17 = .ok (.getfield 105, 3) := by decide +kernel
theorem dX8_putBack_20 : decode cX8_putBack 20 = .ok (.putfield 16, 3) := by decide +kernel
theorem dX8_putBack_23 : decode cX8_putBack 23 = .ok (.aload_n 0, 1) := by decide +kernel
theorem dX8_putBack_24 : decode cX8_putBack 24 = .ok (.aload_n 0, 1) := by decide +kernel
theorem dX8_putBack_25 : decode cX8_putBack 25 = .ok (.getfield 108, 3) := by decide +kernel
theorem dX8_putBack_28 : decode cX8_putBack 28 = .ok (.putfield 19, 3) := by decide +kernel
theorem dX8_putBack_31 : decode cX8_putBack 31 = .ok (.aload_n 0, 1) := by decide +kernel
theorem dX8_putBack_32 : decode cX8_putBack 32 = .ok (.aload_n 0, 1) := by decide +kernel
theorem dX8_putBack_33 : decode cX8_putBack 33 = .ok (.getfield 111, 3) := by decide +kernel
theorem dX8_putBack_36 : decode cX8_putBack 36 = .ok (.putfield 22, 3) := by decide +kernel
theorem dX8_putBack_39 : decode cX8_putBack 39 = .ok (.iconst 0, 1) := by decide +kernel
theorem dX8_putBack_40 : decode cX8_putBack 40 = .ok (.istore_n 1, 1) := by decide +kernel
theorem dX8_putBack_41 : decode cX8_putBack 41 = .ok (.iload_n 1, 1) := by decide +kernel
theorem dX8_putBack_42 : decode cX8_putBack 42 = .ok (.bipush 6, 2) := by decide +kernel
theorem dX8_putBack_44 : decode cX8_putBack 44 = .ok (.if_icmp .ge 45, 3) := by decide +kernel
theorem dX8_putBack_47 : decode cX8_putBack 47 = .ok (.aload_n 0, 1) := by decide +kernel
theorem dX8_putBack_48 : decode cX8_putBack 48 = .ok (.getfield 32, 3) := by decide +kernel
theorem dX8_putBack_51 : decode cX8_putBack 51 = .ok (.iload_n 1, 1) := by decide +kernel
theorem dX8_putBack_52 : decode cX8_putBack 52 = .ok (.aload_n 0, 1) := by decide +kernel
theorem dX8_putBack_53 : decode cX8_putBack 53 = .ok (.getfield 114, 3) := by decide +kernel
theorem dX8_putBack_56 : decode cX8_putBack 56 = .ok (.iload_n 1, 1) := by decide +kernel
theorem dX8_putBack_57 : decode cX8_putBack 57 = .ok (.iaload, 1) := by decide +kernel
theorem dX8_putBack_58 : decode cX8_putBack 58 = .ok (.iastore, 1) := by decide +kernel
theorem dX8_putBack_59 : decode cX8_putBack 59 = .ok (.aload_n 0, 1) := by decide +kernel
theorem dX8_putBack_60 : decode cX8_putBack 60 = .ok (.getfield 35, 3) := by decide +kernel
theorem dX8_putBack_63 : decode cX8_putBack 63 = .ok (.iload_n 1, 1) := by decide +kernel
theorem dX8_putBack_64 : decode cX8_putBack 64 = .ok (.aload_n 0, 1) := by decide +kernel
theorem dX8_putBack_65 : decode cX8_putBack 65 = .ok (.getfield 117, 3) := by decide +kernel
theorem dX8_putBack_68 : decode cX8_putBack 68 = .ok (.iload_n 1, 1) := by decide +kernel
theorem dX8_putBack_69 : decode cX8_putBack 69 = .ok (.iaload, 1) := by decide +kernel
theorem dX8_putBack_70 : decode cX8_putBack 70 = .ok (.iastore, 1) := by decide +kernel
theorem dX8_putBack_71 : decode cX8_putBack 71 = .ok (.aload_n 0, 1) := by decide +kernel
theorem dX8_putBack_72 : decode cX8_putBack 72 = .ok (.getfield 38, 3) := by decide +kernel
theorem dX8_putBack_75 : decode cX8_putBack 75 = .ok (.iload_n 1, 1) := by decide +kernel
theorem dX8_putBack_76 : decode cX8_putBack 76 = .ok (.aload_n 0, 1) := by decide +kernel
theorem dX8_putBack_77 : decode cX8_putBack 77 = .ok (.getfield 120, 3) := by decide +kernel
theorem dX8_putBack_80 : decode cX8_putBack 80 = .ok (.iload_n 1, 1) := by decide +kernel
theorem dX8_putBack_81 : decode cX8_putBack 81 = .ok (.iaload, 1) := by decide +kernel
theorem dX8_putBack_82 : decode cX8_putBack 82 = .ok (.iastore, 1) := by decide +kernel
theorem dX8_putBack_83 : decode cX8_putBack 83 = .ok (.iinc 1 1, 3) := by decide +kernel
theorem dX8_putBack_86 : decode cX8_putBack 86 = .ok (.goto (-45), 3) := by decide +kernel
theorem dX8_putBack_89 : decode cX8_putBack 89 = .ok (.return_, 1) := by decide +kernel
theorem dX8_goSteps_0 : decode cX8_goSteps 0 = .ok (.iconst 0, 1) := by decide +kernel
theorem dX8_goSteps_1 : decode cX8_goSteps 1 = .ok (.istore_n 2, 1) := by decide +kernel
theorem dX8_goSteps_2 : decode cX8_goSteps 2 = .ok (.iload_n 2, 1) := by decide +kernel
theorem dX8_goSteps_3 : decode cX8_goSteps 3 = .ok (.iload_n 1, 1) := by decide +kernel
theorem dX8_goSteps_4 : decode cX8_goSteps 4 = .ok (.if_icmp .ge 21, 3) := by decide +kernel
theorem dX8_goSteps_7 : decode cX8_goSteps 7 = .ok (.aload_n 0, 1) := by decide +kernel
theorem dX8_goSteps_8 : decode cX8_goSteps 8 = .ok (.invokevirtual 346, 3) := by decide +kernel
theorem dX8_goSteps_11 : decode cX8_goSteps 11 = .ok (.ifCond .eq 14, 3) := by decide +kernel
theorem dX8_goSteps_14 : decode cX8_goSteps 14 = .ok (.aload_n 0, 1) := by decide +kernel
theorem dX8_goSteps_15 : decode cX8_goSteps 15 = .ok (.invokevirtual 349, 3) := by decide +kernel
theorem dX8_goSteps_18 : decode cX8_goSteps 18 = .ok (.istore_n 3, 1) := by decide +kernel
theorem dX8_goSteps_19 : decode cX8_goSteps 19 = .ok (.iinc 2 1, 3) := by decide +kernel
theorem dX8_goSteps_22 : decode cX8_goSteps 22 = .ok (.goto (-20), 3) := by decide +kernel
theorem dX8_goSteps_25 : decode cX8_goSteps 25 = .ok (.return_, 1) := by decide +kernel
theorem dX8_on_0 : decode cX8_on 0 = .ok (.aload_n 0, 1) := by decide +kernel
theorem dX8_on_1 : decode cX8_on 1 = .ok (.iload_n 2, 1) := by decide +kernel
theorem dX8_on_2 : decode cX8_on 2 = .ok (.iconst 0, 1) := by decide +kernel
theorem dX8_on_3 : decode cX8_on 3 = .ok (.iconst 2, 1) := by decide +kernel
theorem dX8_on_4 : decode cX8_on 4 = .ok (.invokevirtual 236, 3) := by decide +kernel
theorem dX8_on_7 : decode cX8_on 7 = .ok (.ifCond .ne 39, 3) := by decide +kernel
theorem dX8_on_10 : decode cX8_on 10 = .ok (.aload_n 0, 1) := by decide +kernel
theorem dX8_on_11 : decode cX8_on 11 = .ok (.iload_n 2, 1) := by decide +kernel
theorem dX8_on_12 : decode cX8_on 12 = .ok (.bipush 10, 2) := by decide +kernel
theorem dX8_on_14 : decode cX8_on 14 = .ok (.bipush 9, 2) := by decide +kernel
theorem dX8_on_16 : decode cX8_on 16 = .ok (.aload_n 0, 1) := by decide +kernel
theorem dX8_on_17 : decode cX8_on 17 = .ok (.getfield 7, 3) := by decide +kernel
theorem dX8_on_20 : decode cX8_on 20 = .ok (.iadd, 1) := by decide +kernel
theorem dX8_on_21 : decode cX8_on 21 = .ok (.invokevirtual 236, 3) := by decide +kernel
theorem dX8_on_24 : decode cX8_on 24 = .ok (.ifCond .ne 22, 3) := by decide +kernel
theorem dX8_on_27 : decode cX8_on 27 = .ok (.aload_n 0, 1) := by decide +kernel
theorem dX8_on_28 : decode cX8_on 28 = .ok (.iload_n 2, 1) := by decide +kernel
theorem dX8_on_29 : decode cX8_on 29 = .ok (.bipush 20, 2) := by decide +kernel
theorem dX8_on_31 : decode cX8_on 31 = .ok (.bipush 19, 2) := by decide +kernel
theorem dX8_on_33 : decode cX8_on 33 = .ok (.aload_n 0, 1) := by decide +kernel
theorem dX8_on_34 : decode cX8_on 34 = .ok (.getfield 7, 3) := by decide +kernel
theorem dX8_on_37 : decode cX8_on 37 = .ok (.iadd, 1) := by decide +kernel
theorem dX8_on_38 : decode cX8_on 38 = .ok (.invokevirtual 236, 3) := by decide +kernel
theorem dX8_on_41 : decode cX8_on 41 = .ok (.ifCond .ne 5, 3) := by decide +kernel
theorem dX8_on_44 : decode cX8_on 44 = .ok (.iconst (-1), 1) := by decide +kernel
theorem dX8_on_45 : decode cX8_on 45 = .ok (.ireturn, 1) := by decide +kernel
theorem dX8_on_46 : decode cX8_on 46 = .ok (.aload_n 0, 1) := by decide +kernel
theorem dX8_on_47 : decode cX8_on 47 = .ok (.iload_n 1, 1) := by decide +kernel
theorem dX8_on_48 : decode cX8_on 48 = .ok (.iconst 0, 1) := by decide +kernel
theorem dX8_on_49 : decode cX8_on 49 = .ok (.bipush 99, 2) := by decide +kernel
theorem dX8_on_51 : decode cX8_on 51 = .ok (.invokevirtual 236, 3) := by decide +kernel
theorem dX8_on_54 : decode cX8_on 54 = .ok (.ifCond .ne 6, 3) := by decide +kernel
theorem dX8_on_57 : decode cX8_on 57 = .ok (.bipush (-2), 2) := by decide +kernel
theorem dX8_on_59 : decode cX8_on 59 = .ok (.ireturn, 1) := by decide +kernel
theorem dX8_on_60 : decode cX8_on 60 = .ok (.aload_n 0, 1) := by decide +kernel
theorem dX8_on_61 : decode cX8_on 61 = .ok (.invokevirtual 353, 3) := by decide +kernel
theorem dX8_on_64 : decode cX8_on 64 = .ok (.aload_n 0, 1) := by decide +kernel
theorem dX8_on_65 : decode cX8_on 65 = .ok (.iload_n 1, 1) := by decide +kernel
theorem dX8_on_66 : decode cX8_on 66 = .ok (.invokevirtual 356, 3) := by decide +kernel
theorem dX8_on_69 : decode cX8_on 69 = .ok (.iload_n 2, 1) := by decide +kernel
theorem dX8_on_70 : decode cX8_on 70 = .ok (.ifCond .ne 14, 3) := by decide +kernel
theorem dX8_on_73 : decode cX8_on 73 = .ok (.aload_n 0, 1) := by decide +kernel
theorem dX8_on_74 : decode cX8_on 74 = .ok (.aload_n 0, 1) := by decide +kernel
theorem dX8_on_75 : decode cX8_on 75 = .ok (.getfield 16, 3) := by decide +kernel
theorem dX8_on_78 : decode cX8_on 78 = .ok (.invokevirtual 254, 3) := by decide +kernel
theorem dX8_on_81 : decode cX8_on 81 = .ok (.goto 58, 3) := by decide +kernel
theorem dX8_on_84 : decode cX8_on 84 = .ok (.iload_n 2, 1) := by decide +kernel
theorem dX8_on_85 : decode cX8_on 85 = .ok (.iconst 1, 1) := by decide +kernel
theorem dX8_on_86 : decode cX8_on 86 = .ok (.if_icmp .ne 10, 3) := by decide +kernel
theorem dX8_on_89 : decode cX8_on 89 = .ok (.aload_n 0, 1) := by decide +kernel
theorem dX8_on_90 : decode cX8_on 90 = .ok (.getfield 19, 3) := by decide +kernel
theorem dX8_on_93 : decode cX8_on 93 = .ok (.goto 46, 3) := by decide +kernel
theorem dX8_on_96 : decode cX8_on 96 = .ok (.iload_n 2, 1) := by decide +kernel
theorem dX8_on_97 : decode cX8_on 97 = .ok (.iconst 2, 1) := by decide +kernel
theorem dX8_on_98 : decode cX8_on 98 = .ok (.if_icmp .ne 14, 3) := by decide +kernel
theorem dX8_on_101 : decode cX8_on 101 = .ok (.aload_n 0, 1) := by decide +kernel
theorem dX8_on_102 : decode cX8_on 102 = .ok (.aload_n 0, 1) := by decide +kernel
theorem dX8_on_103 : decode cX8_on 103 = .ok (.getfield 22, 3) := by decide +kernel
theorem dX8_on_106 : decode cX8_on 106 = .ok (.invokevirtual 254, 3) := by decide +kernel
theorem dX8_on_109 : decode cX8_on 109 = .ok (.goto 30, 3) := by decide +kernel
theorem dX8_on_112 : decode cX8_on 112 = .ok (.iload_n 2, 1) := by decide +kernel
theorem dX8_on_113 : decode cX8_on 113 = .ok (.bipush 20, 2) := by decide +kernel
theorem dX8_on_115 : decode cX8_on 115 = .ok (.if_icmp .ge 15, 3) := by decide +kernel
theorem dX8_on_118 : decode cX8_on 118 = .ok (.aload_n 0, 1) := by decide +kernel
theorem dX8_on_119 : decode cX8_on 119 = .ok (.getfield 35, 3) := by decide +kernel
theorem dX8_on_122 : decode cX8_on 122 = .ok (.iload_n 2, 1) := by decide +kernel
theorem dX8_on_123 : decode cX8_on 123 = .ok (.bipush 10, 2) := by decide +kernel
theorem dX8_on_125 : decode cX8_on 125 = .ok (.isub, 1) := by decide +kernel
theorem dX8_on_126 : decode cX8_on 126 = .ok (.iaload, 1) := by decide +kernel
theorem dX8_on_127 : decode cX8_on 127 = .ok (.goto 12, 3) := by decide +kernel
theorem dX8_on_130 : decode cX8_on 130 = .ok (.aload_n 0, 1) := by decide +kernel
theorem dX8_on_131 : decode cX8_on 131 = .ok (.getfield 38, 3) := by decide +kernel
theorem dX8_on_134 : decode cX8_on 134 = .ok (.iload_n 2, 1) := by decide +kernel
theorem dX8_on_135 : decode cX8_on 135 = .ok (.bipush 20, 2) := by decide +kernel
theorem dX8_on_137 : decode cX8_on 137 = .ok (.isub, 1) := by decide +kernel
theorem dX8_on_138 : decode cX8_on 138 = .ok (.iaload, 1) := by decide +kernel
theorem dX8_on_139 : decode cX8_on 139 = .ok (.istore_n 3, 1) := by decide +kernel
theorem dX8_on_140 : decode cX8_on 140 = .ok (.aload_n 0, 1) := by decide +kernel
theorem dX8_on_141 : decode cX8_on 141 = .ok (.invokevirtual 359, 3) := by decide +kernel
theorem dX8_on_144 : decode cX8_on 144 = .ok (.iload_n 3, 1) := by decide +kernel
theorem dX8_on_145 : decode cX8_on 145 = .ok (.ireturn, 1) := by decide +kernel
theorem dX8_toEnd_0 : decode cX8_toEnd 0 = .ok (.iconst 0, 1) := by decide +kernel
theorem dX8_toEnd_1 : decode cX8_toEnd 1 = .ok (.istore_n 1, 1) := by decide +kernel
theorem dX8_toEnd_2 : decode cX8_toEnd 2 = .ok (.iload_n 1, 1) := by decide +kernel
theorem dX8_toEnd_3 : decode cX8_toEnd 3 = .ok (.bipush 100, 2) := by decide +kernel
theorem dX8_toEnd_5 : decode cX8_toEnd 5 = .ok (.if_icmp .ge 41, 3) := by decide +kernel
theorem dX8_toEnd_8 : decode cX8_toEnd 8 = .ok (.aload_n 0, 1) := by decide +kernel
theorem dX8_toEnd_9 : decode cX8_toEnd 9 = .ok (.getfield 22, 3) := by decide +kernel
theorem dX8_toEnd_12 : decode cX8_toEnd 12 = .ok (.ifCond .ge 34, 3) := by decide +kernel
theorem dX8_toEnd_15 : decode cX8_toEnd 15 = .ok (.aload_n 0, 1) := by decide +kernel
theorem dX8_toEnd_16 : decode cX8_toEnd 16 = .ok (.getfield 7, 3) := by decide +kernel
theorem dX8_toEnd_19 : decode cX8_toEnd 19 = .ok (.iconst 2, 1) := by decide +kernel
theorem dX8_toEnd_20 : decode cX8_toEnd 20 = .ok (.if_icmp .ge 6, 3) := by decide +kernel
theorem dX8_toEnd_23 : decode cX8_toEnd 23 = .ok (.bipush 100, 2) := by decide +kernel
theorem dX8_toEnd_25 : decode cX8_toEnd 25 = .ok (.ireturn, 1) := by decide +kernel
theorem dX8_toEnd_26 : decode cX8_toEnd 26 = .ok (.iload_n 1, 1) := by decide +kernel
theorem dX8_toEnd_27 : decode cX8_toEnd 27 = .ok (.bipush 99, 2) := by decide +kernel
theorem dX8_toEnd_29 : decode cX8_toEnd 29 = .ok (.if_icmp .ne 6, 3) := by decide +kernel
theorem dX8_toEnd_32 : decode cX8_toEnd 32 = .ok (.bipush 100, 2) := by decide +kernel
theorem dX8_toEnd_34 : decode cX8_toEnd 34 = .ok (.ireturn, 1) := by decide +kernel
theorem dX8_toEnd_35 : decode cX8_toEnd 35 = .ok (.aload_n 0, 1) := by decide +kernel
theorem dX8_toEnd_36 : decode cX8_toEnd 36 = .ok (.invokevirtual 349, 3) := by decide +kernel
theorem dX8_toEnd_39 : decode cX8_toEnd 39 = .ok (.istore_n 2, 1) := by decide +kernel
theorem dX8_toEnd_40 : decode cX8_toEnd 40 = .ok (.iinc 1 1, 3) := by decide +kernel
theorem dX8_toEnd_43 : decode cX8_toEnd 43 = .ok (.goto (-41), 3) := by decide +kernel
theorem dX8_toEnd_46 : decode cX8_toEnd 46 = .ok (.iload_n 1, 1) := by decide +kernel
theorem dX8_toEnd_47 : decode cX8_toEnd 47 = .ok (.ireturn, 1) := by decide +kernel
theorem dX8_endsIn_0 : decode cX8_endsIn 0 = .ok (.aload_n 0, 1) := by decide +kernel
theorem dX8_endsIn_1 : decode cX8_endsIn 1 = .ok (.invokevirtual 353, 3) := by decide +kernel
theorem dX8_endsIn_4 : decode cX8_endsIn 4 = .ok (.aload_n 0, 1) := by decide +kernel
theorem dX8_endsIn_5 : decode cX8_endsIn 5 = .ok (.invokevirtual 362, 3) := by decide +kernel
theorem dX8_endsIn_8 : decode cX8_endsIn 8 = .ok (.istore_n 1, 1) := by decide +kernel
theorem dX8_endsIn_9 : decode cX8_endsIn 9 = .ok (.aload_n 0, 1) := by decide +kernel
theorem dX8_endsIn_10 : decode cX8_endsIn 10 = .ok (.invokevirtual 359, 3) := by decide +kernel
theorem dX8_endsIn_13 : decode cX8_endsIn 13 = .ok (.iload_n 1, 1) := by decide +kernel
theorem dX8_endsIn_14 : decode cX8_endsIn 14 = .ok (.ireturn, 1) := by decide +kernel
theorem dX8_ends_0 : decode cX8_ends 0 = .ok (.aload_n 0, 1) := by decide +kernel
theorem dX8_ends_1 : decode cX8_ends 1 = .ok (.invokevirtual 365, 3) := by decide +kernel
theorem dX8_ends_4 : decode cX8_ends 4 = .ok (.istore_n 1, 1) := by decide +kernel
theorem dX8_ends_5 : decode cX8_ends 5 = .ok (.iload_n 1, 1) := by decide +kernel
theorem dX8_ends_6 : decode cX8_ends 6 = .ok (.bipush 99, 2) := by decide +kernel
theorem dX8_ends_8 : decode cX8_ends 8 = .ok (.if_icmp .le 8, 3) := by decide +kernel
theorem dX8_ends_11 : decode cX8_ends 11 = .ok (.bipush (-5), 2) := by decide +kernel
theorem dX8_ends_13 : decode cX8_ends 13 = .ok (.goto 4, 3) := by decide +kernel
theorem dX8_ends_16 : decode cX8_ends 16 = .ok (.iload_n 1, 1) := by decide +kernel
theorem dX8_ends_17 : decode cX8_ends 17 = .ok (.ireturn, 1) := by decide +kernel
theorem dX8_longest_0 : decode cX8_longest 0 = .ok (.bipush (-5), 2) := by decide +kernel
theorem dX8_longest_2 : decode cX8_longest 2 = .ok (.istore_n 1, 1) := by decide +kernel
theorem dX8_longest_3 : decode cX8_longest 3 = .ok (.iconst (-1), 1) := by decide +kernel
theorem dX8_longest_4 : decode cX8_longest 4 = .ok (.istore_n 2, 1) := by decide +kernel
theorem dX8_longest_5 : decode cX8_longest 5 = .ok (.iconst 0, 1) := by decide +kernel
theorem dX8_longest_6 : decode cX8_longest 6 = .ok (.istore_n 3, 1) := by decide +kernel
theorem dX8_longest_7 : decode cX8_longest 7 = .ok (.iload_n 3, 1) := by decide +kernel
theorem dX8_longest_8 : decode cX8_longest 8 = .ok (.aload_n 0, 1) := by decide +kernel
theorem dX8_longest_9 : decode cX8_longest 9 = .ok (.getfield 7, 3) := by decide +kernel
theorem dX8_longest_12 : decode cX8_longest 12 = .ok (.if_icmp .ge 42, 3) := by decide +kernel
theorem dX8_longest_15 : decode cX8_longest 15 = .ok (.aload_n 0, 1) := by decide +kernel
theorem dX8_longest_16 : decode cX8_longest 16 = .ok (.invokevirtual 353, 3) := by decide +kernel
theorem dX8_longest_19 : decode cX8_longest 19 = .ok (.aload_n 0, 1) := by decide +kernel
theorem dX8_longest_20 : decode cX8_longest 20 = .ok (.iload_n 3, 1) := by decide +kernel
theorem dX8_longest_21 : decode cX8_longest 21 = .ok (.invokevirtual 250, 3) := by decide +kernel
theorem dX8_longest_24 : decode cX8_longest 24 = .ok (.aload_n 0, 1) := by decide +kernel
theorem dX8_longest_25 : decode cX8_longest 25 = .ok (.invokevirtual 362, 3) := by decide +kernel
theorem dX8_longest_28 : decode cX8_longest 28 = .ok (.istore 4, 2) := by decide +kernel
theorem dX8_longest_30 : decode cX8_longest 30 = .ok (.aload_n 0, 1) := by decide +kernel
theorem dX8_longest_31 : decode cX8_longest 31 = .ok (.invokevirtual 359, 3) := by decide +kernel
theorem dX8_longest_34 : decode cX8_longest 34 = .ok (.iload 4, 2) := by decide +kernel
theorem dX8_longest_36 : decode cX8_longest 36 = .ok (.iload_n 2, 1) := by decide +kernel
theorem dX8_longest_37 : decode cX8_longest 37 = .ok (.if_icmp .gt 6, 3) := by decide +kernel
theorem dX8_longest_40 : decode cX8_longest 40 = .ok (.goto 8, 3) := by decide +kernel
theorem dX8_longest_43 : decode cX8_longest 43 = .ok (.iload_n 3, 1) := by decide +kernel
theorem dX8_longest_44 : decode cX8_longest 44 = .ok (.istore_n 1, 1) := by decide +kernel
theorem dX8_longest_45 : decode cX8_longest 45 = .ok (.iload 4, 2) := by decide +kernel
theorem dX8_longest_47 : decode cX8_longest 47 = .ok (.istore_n 2, 1) := by decide +kernel
theorem dX8_longest_48 : decode cX8_longest 48 = .ok (.iinc 3 1, 3) := by decide +kernel
theorem dX8_longest_51 : decode cX8_longest 51 = .ok (.goto (-44), 3) := by decide +kernel
theorem dX8_longest_54 : decode cX8_longest 54 = .ok (.iload_n 1, 1) := by decide +kernel
theorem dX8_longest_55 : decode cX8_longest 55 = .ok (.ireturn, 1) := by decide +kernel
theorem dX8_stand_0 : decode cX8_stand 0 = .ok (.aload_n 0, 1) := by decide +kernel
theorem dX8_stand_1 : decode cX8_stand 1 = .ok (.iload_n 1, 1) := by decide +kernel
theorem dX8_stand_2 : decode cX8_stand 2 = .ok (.invokevirtual 247, 3) := by decide +kernel
theorem dX8_stand_5 : decode cX8_stand 5 = .ok (.ifCond .eq 13, 3) := by decide +kernel
theorem dX8_stand_8 : decode cX8_stand 8 = .ok (.aload_n 0, 1) := by decide +kernel
theorem dX8_stand_9 : decode cX8_stand 9 = .ok (.iload_n 3, 1) := by decide +kernel
theorem dX8_stand_10 : decode cX8_stand 10 = .ok (.iconst 0, 1) := by decide +kernel
theorem dX8_stand_11 : decode cX8_stand 11 = .ok (.iconst 1, 1) := by decide +kernel
theorem dX8_stand_12 : decode cX8_stand 12 = .ok (.invokevirtual 236, 3) := by decide +kernel
theorem dX8_stand_15 : decode cX8_stand 15 = .ok (.ifCond .ne 5, 3) := by decide +kernel
theorem dX8_stand_18 : decode cX8_stand 18 = .ok (.iconst (-1), 1) := by decide +kernel
theorem dX8_stand_19 : decode cX8_stand 19 = .ok (.ireturn, 1) := by decide +kernel
theorem dX8_stand_20 : decode cX8_stand 20 = .ok (.aload_n 0, 1) := by decide +kernel
theorem dX8_stand_21 : decode cX8_stand 21 = .ok (.iload_n 2, 1) := by decide +kernel
theorem dX8_stand_22 : decode cX8_stand 22 = .ok (.invokevirtual 368, 3) := by decide +kernel
theorem dX8_stand_25 : decode cX8_stand 25 = .ok (.ifCond .ne 6, 3) := by decide +kernel
theorem dX8_stand_28 : decode cX8_stand 28 = .ok (.bipush (-2), 2) := by decide +kernel
theorem dX8_stand_30 : decode cX8_stand 30 = .ok (.ireturn, 1) := by decide +kernel
theorem dX8_stand_31 : decode cX8_stand 31 = .ok (.iconst 0, 1) := by decide +kernel
theorem dX8_stand_32 : decode cX8_stand 32 = .ok (.istore 4, 2) := by decide +kernel
theorem dX8_stand_34 : decode cX8_stand 34 = .ok (.iconst (-1), 1) := by decide +kernel
theorem dX8_stand_35 : decode cX8_stand 35 = .ok (.istore 5, 2) := by decide +kernel
theorem dX8_stand_37 : decode cX8_stand 37 = .ok (.iconst 0, 1) := by decide +kernel
theorem dX8_stand_38 : decode cX8_stand 38 = .ok (.istore 6, 2) := by decide +kernel
theorem dX8_stand_40 : decode cX8_stand 40 = .ok (.iload 6, 2) := by decide +kernel
theorem dX8_stand_42 : decode cX8_stand 42 = .ok (.bipush 20, 2) := by decide +kernel
theorem dX8_stand_44 : decode cX8_stand 44 = .ok (.if_icmp .ge 68, 3) := by decide +kernel
theorem dX8_stand_47 : decode cX8_stand 47 = .ok (.aload_n 0, 1) := by decide +kernel
theorem dX8_stand_48 : decode cX8_stand 48 = .ok (.invokevirtual 353, 3) := by decide +kernel
theorem dX8_stand_51 : decode cX8_stand 51 = .ok (.aload_n 0, 1) := by decide +kernel
theorem dX8_stand_52 : decode cX8_stand 52 = .ok (.getfield 32, 3) := by decide +kernel
theorem dX8_stand_55 : decode cX8_stand 55 = .ok (.iload_n 1, 1) := by decide +kernel
theorem dX8_stand_56 : decode cX8_stand 56 = .ok (.iload 6, 2) := by decide +kernel
theorem dX8_stand_58 : decode cX8_stand 58 = .ok (.iastore, 1) := by decide +kernel
theorem dX8_stand_59 : decode cX8_stand 59 = .ok (.aload_n 0, 1) := by decide +kernel
theorem dX8_stand_60 : decode cX8_stand 60 = .ok (.iload_n 2, 1) := by decide +kernel
theorem dX8_stand_61 : decode cX8_stand 61 = .ok (.invokevirtual 356, 3) := by decide +kernel
theorem dX8_stand_64 : decode cX8_stand 64 = .ok (.aload_n 0, 1) := by decide +kernel
theorem dX8_stand_65 : decode cX8_stand 65 = .ok (.getfield 38, 3) := by decide +kernel
theorem dX8_stand_68 : decode cX8_stand 68 = .ok (.iload_n 1, 1) := by decide +kernel
theorem dX8_stand_69 : decode cX8_stand 69 = .ok (.iaload, 1) := by decide +kernel
theorem dX8_stand_70 : decode cX8_stand 70 = .ok (.aload_n 0, 1) := by decide +kernel
theorem dX8_stand_71 : decode cX8_stand 71 = .ok (.getfield 120, 3) := by decide +kernel
theorem dX8_stand_74 : decode cX8_stand 74 = .ok (.iload_n 1, 1) := by decide +kernel
theorem dX8_stand_75 : decode cX8_stand 75 = .ok (.iaload, 1) := by decide +kernel
theorem dX8_stand_76 : decode cX8_stand 76 = .ok (.isub, 1) := by decide +kernel
theorem dX8_stand_77 : decode cX8_stand 77 = .ok (.istore 7, 2) := by decide +kernel
theorem dX8_stand_79 : decode cX8_stand 79 = .ok (.aload_n 0, 1) := by decide +kernel
theorem dX8_stand_80 : decode cX8_stand 80 = .ok (.invokevirtual 359, 3) := by decide +kernel
theorem dX8_stand_83 : decode cX8_stand 83 = .ok (.iload 5, 2) := by decide +kernel
theorem dX8_stand_85 : decode cX8_stand 85 = .ok (.ifCond .lt 13, 3) := by decide +kernel
theorem dX8_stand_88 : decode cX8_stand 88 = .ok (.iload 7, 2) := by decide +kernel
theorem dX8_stand_90 : decode cX8_stand 90 = .ok (.iload 5, 2) := by decide +kernel
theorem dX8_stand_92 : decode cX8_stand 92 = .ok (.if_icmp .lt 6, 3) := by decide +kernel
theorem dX8_stand_95 : decode cX8_stand 95 = .ok (.goto 11, 3) := by decide +kernel
theorem dX8_stand_98 : decode cX8_stand 98 = .ok (.iload 6, 2) := by decide +kernel
theorem dX8_stand_100 : decode cX8_stand 100 = .ok (.istore 4, 2) := by decide +kernel
theorem dX8_stand_102 : decode cX8_stand 102 = .ok (.iload 7, 2) := by decide +kernel
theorem dX8_stand_104 : decode cX8_stand 104 = .ok (.istore 5, 2) := by decide +kernel
theorem dX8_stand_106 : decode cX8_stand 106 = .ok (.iinc 6 1, 3) := by decide +kernel
theorem dX8_stand_109 : decode cX8_stand 109 = .ok (.goto (-69), 3) := by decide +kernel
theorem dX8_stand_112 : decode cX8_stand 112 = .ok (.iload_n 3, 1) := by decide +kernel
theorem dX8_stand_113 : decode cX8_stand 113 = .ok (.ifCond .ne 8, 3) := by decide +kernel
theorem dX8_stand_116 : decode cX8_stand 116 = .ok (.iload 4, 2) := by decide +kernel
theorem dX8_stand_118 : decode cX8_stand 118 = .ok (.goto 5, 3) := by decide +kernel
theorem dX8_stand_121 : decode cX8_stand 121 = .ok (.iload 5, 2) := by decide +kernel
theorem dX8_stand_123 : decode cX8_stand 123 = .ok (.ireturn, 1) := by decide +kernel
theorem dX8_needs_0 : decode cX8_needs 0 = .ok (.aload_n 0, 1) := by decide +kernel
theorem dX8_needs_1 : decode cX8_needs 1 = .ok (.iload_n 1, 1) := by decide +kernel
theorem dX8_needs_2 : decode cX8_needs 2 = .ok (.invokevirtual 247, 3) := by decide +kernel
theorem dX8_needs_5 : decode cX8_needs 5 = .ok (.ifCond .ne 5, 3) := by decide +kernel
theorem dX8_needs_8 : decode cX8_needs 8 = .ok (.iconst (-1), 1) := by decide +kernel
theorem dX8_needs_9 : decode cX8_needs 9 = .ok (.ireturn, 1) := by decide +kernel
theorem dX8_needs_10 : decode cX8_needs 10 = .ok (.aload_n 0, 1) := by decide +kernel
theorem dX8_needs_11 : decode cX8_needs 11 = .ok (.iload_n 2, 1) := by decide +kernel
theorem dX8_needs_12 : decode cX8_needs 12 = .ok (.invokevirtual 368, 3) := by decide +kernel
theorem dX8_needs_15 : decode cX8_needs 15 = .ok (.ifCond .ne 6, 3) := by decide +kernel
theorem dX8_needs_18 : decode cX8_needs 18 = .ok (.bipush (-2), 2) := by decide +kernel
theorem dX8_needs_20 : decode cX8_needs 20 = .ok (.ireturn, 1) := by decide +kernel
theorem dX8_needs_21 : decode cX8_needs 21 = .ok (.bipush (-5), 2) := by decide +kernel
theorem dX8_needs_23 : decode cX8_needs 23 = .ok (.istore_n 3, 1) := by decide +kernel
theorem dX8_needs_24 : decode cX8_needs 24 = .ok (.iconst 0, 1) := by decide +kernel
theorem dX8_needs_25 : decode cX8_needs 25 = .ok (.istore 4, 2) := by decide +kernel
theorem dX8_needs_27 : decode cX8_needs 27 = .ok (.iload 4, 2) := by decide +kernel
theorem dX8_needs_29 : decode cX8_needs 29 = .ok (.bipush 10, 2) := by decide +kernel
theorem dX8_needs_31 : decode cX8_needs 31 = .ok (.if_icmp .ge 50, 3) := by decide +kernel
theorem dX8_needs_34 : decode cX8_needs 34 = .ok (.iload_n 3, 1) := by decide +kernel
theorem dX8_needs_35 : decode cX8_needs 35 = .ok (.ifCond .ge 46, 3) := by decide +kernel
theorem dX8_needs_38 : decode cX8_needs 38 = .ok (.aload_n 0, 1) := by decide +kernel
theorem dX8_needs_39 : decode cX8_needs 39 = .ok (.invokevirtual 353, 3) := by decide +kernel
theorem dX8_needs_42 : decode cX8_needs 42 = .ok (.aload_n 0, 1) := by decide +kernel
theorem dX8_needs_43 : decode cX8_needs 43 = .ok (.getfield 35, 3) := by decide +kernel
theorem dX8_needs_46 : decode cX8_needs 46 = .ok (.iload_n 1, 1) := by decide +kernel
theorem dX8_needs_47 : decode cX8_needs 47 = .ok (.iload 4, 2) := by decide +kernel
theorem dX8_needs_49 : decode cX8_needs 49 = .ok (.iastore, 1) := by decide +kernel
theorem dX8_needs_50 : decode cX8_needs 50 = .ok (.aload_n 0, 1) := by decide +kernel
theorem dX8_needs_51 : decode cX8_needs 51 = .ok (.iload_n 2, 1) := by decide +kernel
theorem dX8_needs_52 : decode cX8_needs 52 = .ok (.invokevirtual 356, 3) := by decide +kernel
theorem dX8_needs_55 : decode cX8_needs 55 = .ok (.aload_n 0, 1) := by decide +kernel
theorem dX8_needs_56 : decode cX8_needs 56 = .ok (.getfield 22, 3) := by decide +kernel
theorem dX8_needs_59 : decode cX8_needs 59 = .ok (.iload_n 1, 1) := by decide +kernel
theorem dX8_needs_60 : decode cX8_needs 60 = .ok (.if_icmp .ne 8, 3) := by decide +kernel
theorem dX8_needs_63 : decode cX8_needs 63 = .ok (.bipush (-5), 2) := by decide +kernel
theorem dX8_needs_65 : decode cX8_needs 65 = .ok (.goto 5, 3) := by decide +kernel
theorem dX8_needs_68 : decode cX8_needs 68 = .ok (.iload 4, 2) := by decide +kernel
theorem dX8_needs_70 : decode cX8_needs 70 = .ok (.istore_n 3, 1) := by decide +kernel
theorem dX8_needs_71 : decode cX8_needs 71 = .ok (.aload_n 0, 1) := by decide +kernel
theorem dX8_needs_72 : decode cX8_needs 72 = .ok (.invokevirtual 359, 3) := by decide +kernel
theorem dX8_needs_75 : decode cX8_needs 75 = .ok (.iinc 4 1, 3) := by decide +kernel
theorem dX8_needs_78 : decode cX8_needs 78 = .ok (.goto (-51), 3) := by decide +kernel
theorem dX8_needs_81 : decode cX8_needs 81 = .ok (.iload_n 3, 1) := by decide +kernel
theorem dX8_needs_82 : decode cX8_needs 82 = .ok (.ireturn, 1) := by decide +kernel
theorem dX8_heavy_0 : decode cX8_heavy 0 = .ok (.aload_n 0, 1) := by decide +kernel
theorem dX8_heavy_1 : decode cX8_heavy 1 = .ok (.iload_n 1, 1) := by decide +kernel
theorem dX8_heavy_2 : decode cX8_heavy 2 = .ok (.invokevirtual 247, 3) := by decide +kernel
theorem dX8_heavy_5 : decode cX8_heavy 5 = .ok (.ifCond .ne 5, 3) := by decide +kernel
theorem dX8_heavy_8 : decode cX8_heavy 8 = .ok (.iconst (-1), 1) := by decide +kernel
theorem dX8_heavy_9 : decode cX8_heavy 9 = .ok (.ireturn, 1) := by decide +kernel
theorem dX8_heavy_10 : decode cX8_heavy 10 = .ok (.aload_n 0, 1) := by decide +kernel
theorem dX8_heavy_11 : decode cX8_heavy 11 = .ok (.getfield 7, 3) := by decide +kernel
theorem dX8_heavy_14 : decode cX8_heavy 14 = .ok (.iconst 2, 1) := by decide +kernel
theorem dX8_heavy_15 : decode cX8_heavy 15 = .ok (.if_icmp .ge 6, 3) := by decide +kernel
theorem dX8_heavy_18 : decode cX8_heavy 18 = .ok (.bipush (-5), 2) := by decide +kernel
theorem dX8_heavy_20 : decode cX8_heavy 20 = .ok (.ireturn, 1) := by decide +kernel
theorem dX8_heavy_21 : decode cX8_heavy 21 = .ok (.aload_n 0, 1) := by decide +kernel
theorem dX8_heavy_22 : decode cX8_heavy 22 = .ok (.getfield 19, 3) := by decide +kernel
theorem dX8_heavy_25 : decode cX8_heavy 25 = .ok (.istore_n 2, 1) := by decide +kernel
theorem dX8_heavy_26 : decode cX8_heavy 26 = .ok (.bipush (-5), 2) := by decide +kernel
theorem dX8_heavy_28 : decode cX8_heavy 28 = .ok (.istore_n 3, 1) := by decide +kernel
theorem dX8_heavy_29 : decode cX8_heavy 29 = .ok (.sipush 999, 3) := by decide +kernel
theorem dX8_heavy_32 : decode cX8_heavy 32 = .ok (.istore 4, 2) := by decide +kernel
theorem dX8_heavy_34 : decode cX8_heavy 34 = .ok (.iload 4, 2) := by decide +kernel
theorem dX8_heavy_36 : decode cX8_heavy 36 = .ok (.ifCond .lt 45, 3) := by decide +kernel
theorem dX8_heavy_39 : decode cX8_heavy 39 = .ok (.iload_n 3, 1) := by decide +kernel
theorem dX8_heavy_40 : decode cX8_heavy 40 = .ok (.ifCond .ge 41, 3) := by decide +kernel
theorem dX8_heavy_43 : decode cX8_heavy 43 = .ok (.aload_n 0, 1) := by decide +kernel
theorem dX8_heavy_44 : decode cX8_heavy 44 = .ok (.iload 4, 2) := by decide +kernel
theorem dX8_heavy_46 : decode cX8_heavy 46 = .ok (.putfield 19, 3) := by decide +kernel
theorem dX8_heavy_49 : decode cX8_heavy 49 = .ok (.aload_n 0, 1) := by decide +kernel
theorem dX8_heavy_50 : decode cX8_heavy 50 = .ok (.iload_n 1, 1) := by decide +kernel
theorem dX8_heavy_51 : decode cX8_heavy 51 = .ok (.aload_n 0, 1) := by decide +kernel
theorem dX8_heavy_52 : decode cX8_heavy 52 = .ok (.iload_n 1, 1) := by decide +kernel
theorem dX8_heavy_53 : decode cX8_heavy 53 = .ok (.invokevirtual 337, 3) := by decide +kernel
theorem dX8_heavy_56 : decode cX8_heavy 56 = .ok (.invokevirtual 322, 3) := by decide +kernel
theorem dX8_heavy_59 : decode cX8_heavy 59 = .ok (.aload_n 0, 1) := by decide +kernel
theorem dX8_heavy_60 : decode cX8_heavy 60 = .ok (.iload_n 1, 1) := by decide +kernel
theorem dX8_heavy_61 : decode cX8_heavy 61 = .ok (.invokevirtual 325, 3) := by decide +kernel
theorem dX8_heavy_64 : decode cX8_heavy 64 = .ok (.if_icmp .gt 8, 3) := by decide +kernel
theorem dX8_heavy_67 : decode cX8_heavy 67 = .ok (.iload 4, 2) := by decide +kernel
theorem dX8_heavy_69 : decode cX8_heavy 69 = .ok (.goto 5, 3) := by decide +kernel
theorem dX8_heavy_72 : decode cX8_heavy 72 = .ok (.bipush (-5), 2) := by decide +kernel
theorem dX8_heavy_74 : decode cX8_heavy 74 = .ok (.istore_n 3, 1) := by decide +kernel
theorem dX8_heavy_75 : decode cX8_heavy 75 = .ok (.iinc 4 (-1), 3) := by decide +kernel
theorem dX8_heavy_78 : decode cX8_heavy 78 = .ok (.goto (-44), 3) := by decide +kernel
theorem dX8_heavy_81 : decode cX8_heavy 81 = .ok (.aload_n 0, 1) := by decide +kernel
theorem dX8_heavy_82 : decode cX8_heavy 82 = .ok (.iload_n 2, 1) := by decide +kernel
theorem dX8_heavy_83 : decode cX8_heavy 83 = .ok (.putfield 19, 3) := by decide +kernel
theorem dX8_heavy_86 : decode cX8_heavy 86 = .ok (.iload_n 3, 1) := by decide +kernel
theorem dX8_heavy_87 : decode cX8_heavy 87 = .ok (.ireturn, 1) := by decide +kernel
theorem dX8_change_0 : decode cX8_change 0 = .ok (.aload_n 0, 1) := by decide +kernel
theorem dX8_change_1 : decode cX8_change 1 = .ok (.invokevirtual 365, 3) := by decide +kernel
theorem dX8_change_4 : decode cX8_change 4 = .ok (.istore_n 1, 1) := by decide +kernel
theorem dX8_change_5 : decode cX8_change 5 = .ok (.bipush (-5), 2) := by decide +kernel
theorem dX8_change_7 : decode cX8_change 7 = .ok (.istore_n 2, 1) := by decide +kernel
theorem dX8_change_8 : decode cX8_change 8 = .ok (.iconst 0, 1) := by decide +kernel
theorem dX8_change_9 : decode cX8_change 9 = .ok (.istore_n 3, 1) := by decide +kernel
theorem dX8_change_10 : decode cX8_change 10 = .ok (.iload_n 3, 1) := by decide +kernel
theorem dX8_change_11 : decode cX8_change 11 = .ok (.aload_n 0, 1) := by decide +kernel
theorem dX8_change_12 : decode cX8_change 12 = .ok (.getfield 7, 3) := by decide +kernel
theorem dX8_change_15 : decode cX8_change 15 = .ok (.if_icmp .ge 89, 3) := by decide +kernel
theorem dX8_change_18 : decode cX8_change 18 = .ok (.iload_n 3, 1) := by decide +kernel
theorem dX8_change_19 : decode cX8_change 19 = .ok (.iconst 1, 1) := by decide +kernel
theorem dX8_change_20 : decode cX8_change 20 = .ok (.iadd, 1) := by decide +kernel
theorem dX8_change_21 : decode cX8_change 21 = .ok (.istore 4, 2) := by decide +kernel
theorem dX8_change_23 : decode cX8_change 23 = .ok (.iload 4, 2) := by decide +kernel
theorem dX8_change_25 : decode cX8_change 25 = .ok (.aload_n 0, 1) := by decide +kernel
theorem dX8_change_26 : decode cX8_change 26 = .ok (.getfield 7, 3) := by decide +kernel
theorem dX8_change_29 : decode cX8_change 29 = .ok (.if_icmp .ge 69, 3) := by decide +kernel
theorem dX8_change_32 : decode cX8_change 32 = .ok (.aload_n 0, 1) := by decide +kernel
theorem dX8_change_33 : decode cX8_change 33 = .ok (.invokevirtual 353, 3) := by decide +kernel
theorem dX8_change_36 : decode cX8_change 36 = .ok (.aload_n 0, 1) := by decide +kernel
theorem dX8_change_37 : decode cX8_change 37 = .ok (.getfield 32, 3) := by decide +kernel
theorem dX8_change_40 : decode cX8_change 40 = .ok (.iload_n 3, 1) := by decide +kernel
theorem dX8_change_41 : decode cX8_change 41 = .ok (.aload_n 0, 1) := by decide +kernel
theorem dX8_change_42 : decode cX8_change 42 = .ok (.getfield 114, 3) := by decide +kernel
theorem dX8_change_45 : decode cX8_change 45 = .ok (.iload 4, 2) := by decide +kernel
theorem dX8_change_47 : decode cX8_change 47 = .ok (.iaload, 1) := by decide +kernel
theorem dX8_change_48 : decode cX8_change 48 = .ok (.iastore, 1) := by decide +kernel
theorem dX8_change_49 : decode cX8_change 49 = .ok (.aload_n 0, 1) := by decide +kernel
theorem dX8_change_50 : decode cX8_change 50 = .ok (.getfield 32, 3) := by decide +kernel
theorem dX8_change_53 : decode cX8_change 53 = .ok (.iload 4, 2) := by decide +kernel
theorem dX8_change_55 : decode cX8_change 55 = .ok (.aload_n 0, 1) := by decide +kernel
theorem dX8_change_56 : decode cX8_change 56 = .ok (.getfield 114, 3) := by decide +kernel
theorem dX8_change_59 : decode cX8_change 59 = .ok (.iload_n 3, 1) := by decide +kernel
theorem dX8_change_60 : decode cX8_change 60 = .ok (.iaload, 1) := by decide +kernel
theorem dX8_change_61 : decode cX8_change 61 = .ok (.iastore, 1) := by decide +kernel
theorem dX8_change_62 : decode cX8_change 62 = .ok (.aload_n 0, 1) := by decide +kernel
theorem dX8_change_63 : decode cX8_change 63 = .ok (.invokevirtual 362, 3) := by decide +kernel
theorem dX8_change_66 : decode cX8_change 66 = .ok (.istore 5, 2) := by decide +kernel
theorem dX8_change_68 : decode cX8_change 68 = .ok (.aload_n 0, 1) := by decide +kernel
theorem dX8_change_69 : decode cX8_change 69 = .ok (.invokevirtual 359, 3) := by decide +kernel
theorem dX8_change_72 : decode cX8_change 72 = .ok (.iload 5, 2) := by decide +kernel
theorem dX8_change_74 : decode cX8_change 74 = .ok (.iload_n 1, 1) := by decide +kernel
theorem dX8_change_75 : decode cX8_change 75 = .ok (.if_icmp .gt 6, 3) := by decide +kernel
theorem dX8_change_78 : decode cX8_change 78 = .ok (.goto 14, 3) := by decide +kernel
theorem dX8_change_81 : decode cX8_change 81 = .ok (.bipush 10, 2) := by decide +kernel
theorem dX8_change_83 : decode cX8_change 83 = .ok (.iload_n 3, 1) := by decide +kernel
theorem dX8_change_84 : decode cX8_change 84 = .ok (.imul, 1) := by decide +kernel
theorem dX8_change_85 : decode cX8_change 85 = .ok (.iload 4, 2) := by decide +kernel
theorem dX8_change_87 : decode cX8_change 87 = .ok (.iadd, 1) := by decide +kernel
theorem dX8_change_88 : decode cX8_change 88 = .ok (.istore_n 2, 1) := by decide +kernel
theorem dX8_change_89 : decode cX8_change 89 = .ok (.iload 5, 2) := by decide +kernel
theorem dX8_change_91 : decode cX8_change 91 = .ok (.istore_n 1, 1) := by decide +kernel
theorem dX8_change_92 : decode cX8_change 92 = .ok (.iinc 4 1, 3) := by decide +kernel
theorem dX8_change_95 : decode cX8_change 95 = .ok (.goto (-72), 3) := by decide +kernel
theorem dX8_change_98 : decode cX8_change 98 = .ok (.iinc 3 1, 3) := by decide +kernel
theorem dX8_change_101 : decode cX8_change 101 = .ok (.goto (-91), 3) := by decide +kernel
theorem dX8_change_104 : decode cX8_change 104 = .ok (.iload_n 2, 1) := by decide +kernel
theorem dX8_change_105 : decode cX8_change 105 = .ok (.ireturn, 1) := by decide +kernel
theorem dX8_mute_0 : decode cX8_mute 0 = .ok (.aload_n 0, 1) := by decide +kernel
theorem dX8_mute_1 : decode cX8_mute 1 = .ok (.iload_n 1, 1) := by decide +kernel
theorem dX8_mute_2 : decode cX8_mute 2 = .ok (.invokevirtual 368, 3) := by decide +kernel
theorem dX8_mute_5 : decode cX8_mute 5 = .ok (.ifCond .ne 6, 3) := by decide +kernel
theorem dX8_mute_8 : decode cX8_mute 8 = .ok (.bipush (-2), 2) := by decide +kernel
theorem dX8_mute_10 : decode cX8_mute 10 = .ok (.ireturn, 1) := by decide +kernel
theorem dX8_mute_11 : decode cX8_mute 11 = .ok (.iconst 1, 1) := by decide +kernel
theorem dX8_mute_12 : decode cX8_mute 12 = .ok (.aload_n 0, 1) := by decide +kernel
theorem dX8_mute_13 : decode cX8_mute 13 = .ok (.getfield 7, 3) := by decide +kernel
theorem dX8_mute_16 : decode cX8_mute 16 = .ok (.ishl, 1) := by decide +kernel
theorem dX8_mute_17 : decode cX8_mute 17 = .ok (.iconst 1, 1) := by decide +kernel
theorem dX8_mute_18 : decode cX8_mute 18 = .ok (.isub, 1) := by decide +kernel
theorem dX8_mute_19 : decode cX8_mute 19 = .ok (.istore_n 2, 1) := by decide +kernel
theorem dX8_mute_20 : decode cX8_mute 20 = .ok (.iconst 0, 1) := by decide +kernel
theorem dX8_mute_21 : decode cX8_mute 21 = .ok (.istore_n 3, 1) := by decide +kernel
theorem dX8_mute_22 : decode cX8_mute 22 = .ok (.iload_n 3, 1) := by decide +kernel
theorem dX8_mute_23 : decode cX8_mute 23 = .ok (.aload_n 0, 1) := by decide +kernel
theorem dX8_mute_24 : decode cX8_mute 24 = .ok (.getfield 7, 3) := by decide +kernel
theorem dX8_mute_27 : decode cX8_mute 27 = .ok (.if_icmp .ge 75, 3) := by decide +kernel
theorem dX8_mute_30 : decode cX8_mute 30 = .ok (.aload_n 0, 1) := by decide +kernel
theorem dX8_mute_31 : decode cX8_mute 31 = .ok (.invokevirtual 353, 3) := by decide +kernel
theorem dX8_mute_34 : decode cX8_mute 34 = .ok (.aload_n 0, 1) := by decide +kernel
theorem dX8_mute_35 : decode cX8_mute 35 = .ok (.iload_n 3, 1) := by decide +kernel
theorem dX8_mute_36 : decode cX8_mute 36 = .ok (.invokevirtual 250, 3) := by decide +kernel
theorem dX8_mute_39 : decode cX8_mute 39 = .ok (.aload_n 0, 1) := by decide +kernel
theorem dX8_mute_40 : decode cX8_mute 40 = .ok (.iload_n 1, 1) := by decide +kernel
theorem dX8_mute_41 : decode cX8_mute 41 = .ok (.invokevirtual 356, 3) := by decide +kernel
theorem dX8_mute_44 : decode cX8_mute 44 = .ok (.iconst 0, 1) := by decide +kernel
theorem dX8_mute_45 : decode cX8_mute 45 = .ok (.istore 4, 2) := by decide +kernel
theorem dX8_mute_47 : decode cX8_mute 47 = .ok (.iload 4, 2) := by decide +kernel
theorem dX8_mute_49 : decode cX8_mute 49 = .ok (.aload_n 0, 1) := by decide +kernel
theorem dX8_mute_50 : decode cX8_mute 50 = .ok (.getfield 7, 3) := by decide +kernel
theorem dX8_mute_53 : decode cX8_mute 53 = .ok (.if_icmp .ge 39, 3) := by decide +kernel
theorem dX8_mute_56 : decode cX8_mute 56 = .ok (.iload_n 2, 1) := by decide +kernel
theorem dX8_mute_57 : decode cX8_mute 57 = .ok (.aload_n 0, 1) := by decide +kernel
theorem dX8_mute_58 : decode cX8_mute 58 = .ok (.getfield 38, 3) := by decide +kernel
theorem dX8_mute_61 : decode cX8_mute 61 = .ok (.iload 4, 2) := by decide +kernel
theorem dX8_mute_63 : decode cX8_mute 63 = .ok (.iaload, 1) := by decide +kernel
theorem dX8_mute_64 : decode cX8_mute 64 = .ok (.aload_n 0, 1) := by decide +kernel
theorem dX8_mute_65 : decode cX8_mute 65 = .ok (.getfield 120, 3) := by decide +kernel
theorem dX8_mute_68 : decode cX8_mute 68 = .ok (.iload 4, 2) := by decide +kernel
theorem dX8_mute_70 : decode cX8_mute 70 = .ok (.iaload, 1) := by decide +kernel
theorem dX8_mute_71 : decode cX8_mute 71 = .ok (.if_icmp .le 12, 3) := by decide +kernel
theorem dX8_mute_74 : decode cX8_mute 74 = .ok (.iconst 1, 1) := by decide +kernel
theorem dX8_mute_75 : decode cX8_mute 75 = .ok (.iload 4, 2) := by decide +kernel
theorem dX8_mute_77 : decode cX8_mute 77 = .ok (.ishl, 1) := by decide +kernel
theorem dX8_mute_78 : decode cX8_mute 78 = .ok (.iconst (-1), 1) := by decide +kernel
theorem dX8_mute_79 : decode cX8_mute 79 = .ok (.ixor, 1) := by decide +kernel
theorem dX8_mute_80 : decode cX8_mute 80 = .ok (.goto 4, 3) := by decide +kernel
theorem dX8_mute_83 : decode cX8_mute 83 = .ok (.iconst (-1), 1) := by decide +kernel
theorem dX8_mute_84 : decode cX8_mute 84 = .ok (.iand, 1) := by decide +kernel
theorem dX8_mute_85 : decode cX8_mute 85 = .ok (.istore_n 2, 1) := by decide +kernel
theorem dX8_mute_86 : decode cX8_mute 86 = .ok (.iinc 4 1, 3) := by decide +kernel
theorem dX8_mute_89 : decode cX8_mute 89 = .ok (.goto (-42), 3) := by decide +kernel
theorem dX8_mute_92 : decode cX8_mute 92 = .ok (.aload_n 0, 1) := by decide +kernel
theorem dX8_mute_93 : decode cX8_mute 93 = .ok (.invokevirtual 359, 3) := by decide +kernel
theorem dX8_mute_96 : decode cX8_mute 96 = .ok (.iinc 3 1, 3) := by decide +kernel
theorem dX8_mute_99 : decode cX8_mute 99 = .ok (.goto (-77), 3) := by decide +kernel
theorem dX8_mute_102 : decode cX8_mute 102 = .ok (.iload_n 2, 1) := by decide +kernel
theorem dX8_mute_103 : decode cX8_mute 103 = .ok (.ireturn, 1) := by decide +kernel
theorem dX8_see_0 : decode cX8_see 0 = .ok (.iload_n 1, 1) := by decide +kernel
theorem dX8_see_1 : decode cX8_see 1 = .ok (.iconst (-1), 1) := by decide +kernel
theorem dX8_see_2 : decode cX8_see 2 = .ok (.if_icmp .ne 10, 3) := by decide +kernel
theorem dX8_see_5 : decode cX8_see 5 = .ok (.aload_n 0, 1) := by decide +kernel
theorem dX8_see_6 : decode cX8_see 6 = .ok (.iconst 0, 1) := by decide +kernel
theorem dX8_see_7 : decode cX8_see 7 = .ok (.putfield 123, 3) := by decide +kernel
