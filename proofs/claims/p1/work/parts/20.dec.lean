-- decode rows of plain
theorem dX9_fault_0 : decode cX9_fault 0 = .ok (.aload_n 0, 1) := by decide +kernel
theorem dX9_fault_1 : decode cX9_fault 1 = .ok (.getfield 17, 3) := by decide +kernel
theorem dX9_fault_4 : decode cX9_fault 4 = .ok (.ireturn, 1) := by decide +kernel
theorem dX9_undo_0 : decode cX9_undo 0 = .ok (.aload_n 0, 1) := by decide +kernel
theorem dX9_undo_1 : decode cX9_undo 1 = .ok (.getfield 37, 3) := by decide +kernel
theorem dX9_undo_4 : decode cX9_undo 4 = .ok (.getfield 153, 3) := by decide +kernel
theorem dX9_undo_7 : decode cX9_undo 7 = .ok (.ifCond .ne 5, 3) := by decide +kernel
theorem dX9_undo_10 : decode cX9_undo 10 = .ok (.iconst (-1), 1) := by decide +kernel
theorem dX9_undo_11 : decode cX9_undo 11 = .ok (.ireturn, 1) := by decide +kernel
theorem dX9_restore_0 : decode cX9_restore 0 = .ok (.aload_n 0, 1) := by decide +kernel
theorem dX9_restore_1 : decode cX9_restore 1 = .ok (.getfield 44, 3) := by decide +kernel
theorem dX9_restore_4 : decode cX9_restore 4 = .ok (.ifCond .ne 5, 3) := by decide +kernel
theorem dX9_restore_7 : decode cX9_restore 7 = .ok (.iconst 0, 1) := by decide +kernel
theorem dX9_restore_8 : decode cX9_restore 8 = .ok (.ireturn, 1) := by decide +kernel
theorem dX9_forget_0 : decode cX9_forget 0 = .ok (.aload_n 0, 1) := by decide +kernel
theorem dX9_forget_1 : decode cX9_forget 1 = .ok (.getfield 37, 3) := by decide +kernel
theorem dX9_forget_4 : decode cX9_forget 4 = .ok (.getfield 156, 3) := by decide +kernel
theorem dX9_forget_7 : decode cX9_forget 7 = .ok (.iconst 0, 1) := by decide +kernel
theorem dX9_forget_8 : decode cX9_forget 8 = .ok (.putfield 160, 3) := by decide +kernel
theorem dX9_forget_11 : decode cX9_forget 11 = .ok (.return_, 1) := by decide +kernel
theorem dX9_refuse_0 : decode cX9_refuse 0 = .ok (.aload_n 0, 1) := by decide +kernel
theorem dX9_refuse_1 : decode cX9_refuse 1 = .ok (.getfield 37, 3) := by decide +kernel
theorem dX9_refuse_4 : decode cX9_refuse 4 = .ok (.getfield 100, 3) := by decide +kernel
theorem dX9_refuse_7 : decode cX9_refuse 7 = .ok (.iload_n 1, 1) := by decide +kernel
theorem dX9_refuse_8 : decode cX9_refuse 8 = .ok (.dup2, 1) := by decide +kernel
theorem dX9_refuse_9 : decode cX9_refuse 9 = .ok (.iaload, 1) := by decide +kernel
theorem dX9_refuse_10 : decode cX9_refuse 10 = .ok (.iconst 1, 1) := by decide +kernel
theorem dX9_refuse_11 : decode cX9_refuse 11 = .ok (.iadd, 1) := by decide +kernel
theorem dX9_refuse_12 : decode cX9_refuse 12 = .ok (.iastore, 1) := by decide +kernel
theorem dX9_refuse_13 : decode cX9_refuse 13 = .ok (.iconst (-1), 1) := by decide +kernel
theorem dX9_refuse_14 : decode cX9_refuse 14 = .ok (.ireturn, 1) := by decide +kernel
theorem dX9_fall_0 : decode cX9_fall 0 = .ok (.aload_n 0, 1) := by decide +kernel
theorem dX9_fall_1 : decode cX9_fall 1 = .ok (.iload_n 1, 1) := by decide +kernel
theorem dX9_fall_2 : decode cX9_fall 2 = .ok (.invokevirtual 268, 3) := by decide +kernel
theorem dX9_fall_5 : decode cX9_fall 5 = .ok (.ifCond .eq 12, 3) := by decide +kernel
theorem dX9_fall_17 : decode cX9_fall 17 = .ok (.aload_n 0, 1) := by decide +kernel
theorem dX9_fall_18 : decode cX9_fall 18 = .ok (.iconst 1, 1) := by decide +kernel
theorem dX9_fall_19 : decode cX9_fall 19 = .ok (.invokevirtual 255, 3) := by decide +kernel
theorem dX9_fall_22 : decode cX9_fall 22 = .ok (.ireturn, 1) := by decide +kernel
theorem dX9_dig_0 : decode cX9_dig 0 = .ok (.aload_n 0, 1) := by decide +kernel
theorem dX9_dig_1 : decode cX9_dig 1 = .ok (.iload_n 1, 1) := by decide +kernel
theorem dX9_dig_2 : decode cX9_dig 2 = .ok (.invokevirtual 268, 3) := by decide +kernel
theorem dX9_dig_5 : decode cX9_dig 5 = .ok (.ifCond .eq 21, 3) := by decide +kernel
theorem dX9_dig_26 : decode cX9_dig 26 = .ok (.aload_n 0, 1) := by decide +kernel
theorem dX9_dig_27 : decode cX9_dig 27 = .ok (.iconst 1, 1) := by decide +kernel
theorem dX9_dig_28 : decode cX9_dig 28 = .ok (.invokevirtual 255, 3) := by decide +kernel
theorem dX9_dig_31 : decode cX9_dig 31 = .ok (.ireturn, 1) := by decide +kernel
theorem dX9_slide_0 : decode cX9_slide 0 = .ok (.aload_n 0, 1) := by decide +kernel
theorem dX9_slide_1 : decode cX9_slide 1 = .ok (.iload_n 1, 1) := by decide +kernel
theorem dX9_slide_2 : decode cX9_slide 2 = .ok (.invokevirtual 268, 3) := by decide +kernel
theorem dX9_slide_5 : decode cX9_slide 5 = .ok (.ifCond .eq 18, 3) := by decide +kernel
theorem dX9_slide_23 : decode cX9_slide 23 = .ok (.aload_n 0, 1) := by decide +kernel
theorem dX9_slide_24 : decode cX9_slide 24 = .ok (.iconst 1, 1) := by decide +kernel
theorem dX9_slide_25 : decode cX9_slide 25 = .ok (.invokevirtual 255, 3) := by decide +kernel
theorem dX9_slide_28 : decode cX9_slide 28 = .ok (.ireturn, 1) := by decide +kernel
theorem dX9_pit_0 : decode cX9_pit 0 = .ok (.aload_n 0, 1) := by decide +kernel
theorem dX9_pit_1 : decode cX9_pit 1 = .ok (.iload_n 1, 1) := by decide +kernel
theorem dX9_pit_2 : decode cX9_pit 2 = .ok (.invokevirtual 268, 3) := by decide +kernel
theorem dX9_pit_5 : decode cX9_pit 5 = .ok (.ifCond .eq 18, 3) := by decide +kernel
theorem dX9_pit_23 : decode cX9_pit 23 = .ok (.aload_n 0, 1) := by decide +kernel
theorem dX9_pit_24 : decode cX9_pit 24 = .ok (.iconst 1, 1) := by decide +kernel
theorem dX9_pit_25 : decode cX9_pit 25 = .ok (.invokevirtual 255, 3) := by decide +kernel
theorem dX9_pit_28 : decode cX9_pit 28 = .ok (.ireturn, 1) := by decide +kernel
theorem dX9_note_0 : decode cX9_note 0 = .ok (.aload_n 0, 1) := by decide +kernel
theorem dX9_note_1 : decode cX9_note 1 = .ok (.iload_n 1, 1) := by decide +kernel
theorem dX9_note_2 : decode cX9_note 2 = .ok (.invokevirtual 268, 3) := by decide +kernel
theorem dX9_note_5 : decode cX9_note 5 = .ok (.ifCond .eq 28, 3) := by decide +kernel
theorem dX9_note_33 : decode cX9_note 33 = .ok (.iconst 0, 1) := by decide +kernel
theorem dX9_note_34 : decode cX9_note 34 = .ok (.istore 4, 2) := by decide +kernel
theorem dX9_note_36 : decode cX9_note 36 = .ok (.iload 4, 2) := by decide +kernel
theorem dX9_note_38 : decode cX9_note 38 = .ok (.ifCond .eq 18, 3) := by decide +kernel
theorem dX9_note_56 : decode cX9_note 56 = .ok (.aload_n 0, 1) := by decide +kernel
theorem dX9_note_57 : decode cX9_note 57 = .ok (.iconst 2, 1) := by decide +kernel
theorem dX9_note_58 : decode cX9_note 58 = .ok (.invokevirtual 255, 3) := by decide +kernel
theorem dX9_note_61 : decode cX9_note 61 = .ok (.ireturn, 1) := by decide +kernel
