abbrev cLw_door : ByteArray := method_3_code
abbrev mLw_door : MD := (⟨"DockBookLaw", "door", "(LDockBook;III[J)I"⟩, cLw_door, 6, some (.int), [(0, 12, 15, 13), (0, 12, 19, 15)])
theorem dLw_door_0 : decode cLw_door 0 = .ok (.aload 4, 2) := by decide +kernel
theorem dLw_door_2 : decode cLw_door 2 = .ok (.iconst 0, 1) := by decide +kernel
theorem dLw_door_3 : decode cLw_door 3 = .ok (.aload_n 0, 1) := by decide +kernel
theorem dLw_door_4 : decode cLw_door 4 = .ok (.iload_n 1, 1) := by decide +kernel
theorem dLw_door_5 : decode cLw_door 5 = .ok (.iload_n 2, 1) := by decide +kernel
theorem dLw_door_6 : decode cLw_door 6 = .ok (.iload_n 3, 1) := by decide +kernel
theorem dLw_door_7 : decode cLw_door 7 = .ok (.invokevirtual 7, 3) := by decide +kernel
theorem dLw_door_10 : decode cLw_door 10 = .ok (.i2l, 1) := by decide +kernel
theorem dLw_door_11 : decode cLw_door 11 = .ok (.lastore, 1) := by decide +kernel
theorem dLw_door_12 : decode cLw_door 12 = .ok (.goto 11, 3) := by decide +kernel
theorem dLw_door_15 : decode cLw_door 15 = .ok (.astore 5, 2) := by decide +kernel
theorem dLw_door_17 : decode cLw_door 17 = .ok (.iconst 1, 1) := by decide +kernel
theorem dLw_door_18 : decode cLw_door 18 = .ok (.ireturn, 1) := by decide +kernel
theorem dLw_door_19 : decode cLw_door 19 = .ok (.astore 5, 2) := by decide +kernel
theorem dLw_door_21 : decode cLw_door 21 = .ok (.iconst 2, 1) := by decide +kernel
theorem dLw_door_22 : decode cLw_door 22 = .ok (.ireturn, 1) := by decide +kernel
theorem dLw_door_23 : decode cLw_door 23 = .ok (.iconst 0, 1) := by decide +kernel
theorem dLw_door_24 : decode cLw_door 24 = .ok (.ireturn, 1) := by decide +kernel
abbrev cLw_truck : ByteArray := method_4_code
abbrev mLw_truck : MD := (⟨"DockBookLaw", "truck", "(LDockBook;IIII[J)I"⟩, cLw_truck, 7, some (.int), [(0, 14, 17, 13), (0, 14, 21, 15)])
theorem dLw_truck_0 : decode cLw_truck 0 = .ok (.aload 5, 2) := by decide +kernel
theorem dLw_truck_2 : decode cLw_truck 2 = .ok (.iconst 0, 1) := by decide +kernel
theorem dLw_truck_3 : decode cLw_truck 3 = .ok (.aload_n 0, 1) := by decide +kernel
theorem dLw_truck_4 : decode cLw_truck 4 = .ok (.iload_n 1, 1) := by decide +kernel
theorem dLw_truck_5 : decode cLw_truck 5 = .ok (.iload_n 2, 1) := by decide +kernel
theorem dLw_truck_6 : decode cLw_truck 6 = .ok (.iload_n 3, 1) := by decide +kernel
theorem dLw_truck_7 : decode cLw_truck 7 = .ok (.iload 4, 2) := by decide +kernel
theorem dLw_truck_9 : decode cLw_truck 9 = .ok (.invokevirtual 17, 3) := by decide +kernel
theorem dLw_truck_12 : decode cLw_truck 12 = .ok (.i2l, 1) := by decide +kernel
theorem dLw_truck_13 : decode cLw_truck 13 = .ok (.lastore, 1) := by decide +kernel
theorem dLw_truck_14 : decode cLw_truck 14 = .ok (.goto 11, 3) := by decide +kernel
theorem dLw_truck_17 : decode cLw_truck 17 = .ok (.astore 6, 2) := by decide +kernel
theorem dLw_truck_19 : decode cLw_truck 19 = .ok (.iconst 1, 1) := by decide +kernel
theorem dLw_truck_20 : decode cLw_truck 20 = .ok (.ireturn, 1) := by decide +kernel
theorem dLw_truck_21 : decode cLw_truck 21 = .ok (.astore 6, 2) := by decide +kernel
theorem dLw_truck_23 : decode cLw_truck 23 = .ok (.iconst 2, 1) := by decide +kernel
theorem dLw_truck_24 : decode cLw_truck 24 = .ok (.ireturn, 1) := by decide +kernel
theorem dLw_truck_25 : decode cLw_truck 25 = .ok (.iconst 0, 1) := by decide +kernel
theorem dLw_truck_26 : decode cLw_truck 26 = .ok (.ireturn, 1) := by decide +kernel
abbrev cLw_assign : ByteArray := method_5_code
abbrev mLw_assign : MD := (⟨"DockBookLaw", "assign", "(LDockBook;I[J)I"⟩, cLw_assign, 4, some (.int), [(0, 9, 12, 13)])
theorem dLw_assign_0 : decode cLw_assign 0 = .ok (.aload_n 2, 1) := by decide +kernel
theorem dLw_assign_1 : decode cLw_assign 1 = .ok (.iconst 0, 1) := by decide +kernel
theorem dLw_assign_2 : decode cLw_assign 2 = .ok (.aload_n 0, 1) := by decide +kernel
theorem dLw_assign_3 : decode cLw_assign 3 = .ok (.iload_n 1, 1) := by decide +kernel
theorem dLw_assign_4 : decode cLw_assign 4 = .ok (.invokevirtual 21, 3) := by decide +kernel
theorem dLw_assign_7 : decode cLw_assign 7 = .ok (.i2l, 1) := by decide +kernel
theorem dLw_assign_8 : decode cLw_assign 8 = .ok (.lastore, 1) := by decide +kernel
theorem dLw_assign_9 : decode cLw_assign 9 = .ok (.goto 6, 3) := by decide +kernel
theorem dLw_assign_12 : decode cLw_assign 12 = .ok (.astore_n 3, 1) := by decide +kernel
theorem dLw_assign_13 : decode cLw_assign 13 = .ok (.iconst 1, 1) := by decide +kernel
theorem dLw_assign_14 : decode cLw_assign 14 = .ok (.ireturn, 1) := by decide +kernel
theorem dLw_assign_15 : decode cLw_assign 15 = .ok (.iconst 0, 1) := by decide +kernel
theorem dLw_assign_16 : decode cLw_assign 16 = .ok (.ireturn, 1) := by decide +kernel
abbrev cLw_call : ByteArray := method_6_code
abbrev mLw_call : MD := (⟨"DockBookLaw", "call", "(LDockBook;I)I"⟩, cLw_call, 3, some (.int), [(0, 5, 8, 29), (0, 5, 11, 31)])
theorem dLw_call_0 : decode cLw_call 0 = .ok (.aload_n 0, 1) := by decide +kernel
theorem dLw_call_1 : decode cLw_call 1 = .ok (.iload_n 1, 1) := by decide +kernel
theorem dLw_call_2 : decode cLw_call 2 = .ok (.invokevirtual 25, 3) := by decide +kernel
theorem dLw_call_5 : decode cLw_call 5 = .ok (.goto 9, 3) := by decide +kernel
theorem dLw_call_8 : decode cLw_call 8 = .ok (.astore_n 2, 1) := by decide +kernel
theorem dLw_call_9 : decode cLw_call 9 = .ok (.iconst 1, 1) := by decide +kernel
theorem dLw_call_10 : decode cLw_call 10 = .ok (.ireturn, 1) := by decide +kernel
theorem dLw_call_11 : decode cLw_call 11 = .ok (.astore_n 2, 1) := by decide +kernel
theorem dLw_call_12 : decode cLw_call 12 = .ok (.iconst 2, 1) := by decide +kernel
theorem dLw_call_13 : decode cLw_call 13 = .ok (.ireturn, 1) := by decide +kernel
theorem dLw_call_14 : decode cLw_call 14 = .ok (.iconst 0, 1) := by decide +kernel
theorem dLw_call_15 : decode cLw_call 15 = .ok (.ireturn, 1) := by decide +kernel
abbrev cLw_seal : ByteArray := method_7_code
abbrev mLw_seal : MD := (⟨"DockBookLaw", "seal", "(LDockBook;II[J)I"⟩, cLw_seal, 5, some (.int), [(0, 10, 13, 29), (0, 10, 17, 13), (0, 10, 21, 31)])
theorem dLw_seal_0 : decode cLw_seal 0 = .ok (.aload_n 3, 1) := by decide +kernel
theorem dLw_seal_1 : decode cLw_seal 1 = .ok (.iconst 0, 1) := by decide +kernel
theorem dLw_seal_2 : decode cLw_seal 2 = .ok (.aload_n 0, 1) := by decide +kernel
theorem dLw_seal_3 : decode cLw_seal 3 = .ok (.iload_n 1, 1) := by decide +kernel
theorem dLw_seal_4 : decode cLw_seal 4 = .ok (.iload_n 2, 1) := by decide +kernel
theorem dLw_seal_5 : decode cLw_seal 5 = .ok (.invokevirtual 33, 3) := by decide +kernel
theorem dLw_seal_8 : decode cLw_seal 8 = .ok (.i2l, 1) := by decide +kernel
theorem dLw_seal_9 : decode cLw_seal 9 = .ok (.lastore, 1) := by decide +kernel
theorem dLw_seal_10 : decode cLw_seal 10 = .ok (.goto 15, 3) := by decide +kernel
theorem dLw_seal_13 : decode cLw_seal 13 = .ok (.astore 4, 2) := by decide +kernel
theorem dLw_seal_15 : decode cLw_seal 15 = .ok (.iconst 1, 1) := by decide +kernel
theorem dLw_seal_16 : decode cLw_seal 16 = .ok (.ireturn, 1) := by decide +kernel
theorem dLw_seal_17 : decode cLw_seal 17 = .ok (.astore 4, 2) := by decide +kernel
theorem dLw_seal_19 : decode cLw_seal 19 = .ok (.iconst 2, 1) := by decide +kernel
theorem dLw_seal_20 : decode cLw_seal 20 = .ok (.ireturn, 1) := by decide +kernel
theorem dLw_seal_21 : decode cLw_seal 21 = .ok (.astore 4, 2) := by decide +kernel
theorem dLw_seal_23 : decode cLw_seal 23 = .ok (.iconst 3, 1) := by decide +kernel
theorem dLw_seal_24 : decode cLw_seal 24 = .ok (.ireturn, 1) := by decide +kernel
theorem dLw_seal_25 : decode cLw_seal 25 = .ok (.iconst 0, 1) := by decide +kernel
theorem dLw_seal_26 : decode cLw_seal 26 = .ok (.ireturn, 1) := by decide +kernel
abbrev cLw_load : ByteArray := method_8_code
abbrev mLw_load : MD := (⟨"DockBookLaw", "load", "(LDockBook;III[J)I"⟩, cLw_load, 6, some (.int), [(0, 19, 22, 29), (0, 19, 26, 13), (0, 19, 30, 31)])
theorem dLw_load_0 : decode cLw_load 0 = .ok (.aload 4, 2) := by decide +kernel
theorem dLw_load_2 : decode cLw_load 2 = .ok (.iconst 0, 1) := by decide +kernel
theorem dLw_load_3 : decode cLw_load 3 = .ok (.aload_n 0, 1) := by decide +kernel
theorem dLw_load_4 : decode cLw_load 4 = .ok (.iload_n 1, 1) := by decide +kernel
theorem dLw_load_5 : decode cLw_load 5 = .ok (.iload_n 2, 1) := by decide +kernel
theorem dLw_load_6 : decode cLw_load 6 = .ok (.iload_n 3, 1) := by decide +kernel
theorem dLw_load_7 : decode cLw_load 7 = .ok (.invokevirtual 37, 3) := by decide +kernel
theorem dLw_load_10 : decode cLw_load 10 = .ok (.ifCond .eq 7, 3) := by decide +kernel
theorem dLw_load_13 : decode cLw_load 13 = .ok (.lconst 1, 1) := by decide +kernel
theorem dLw_load_14 : decode cLw_load 14 = .ok (.goto 4, 3) := by decide +kernel
theorem dLw_load_17 : decode cLw_load 17 = .ok (.lconst 0, 1) := by decide +kernel
theorem dLw_load_18 : decode cLw_load 18 = .ok (.lastore, 1) := by decide +kernel
theorem dLw_load_19 : decode cLw_load 19 = .ok (.goto 15, 3) := by decide +kernel
theorem dLw_load_22 : decode cLw_load 22 = .ok (.astore 5, 2) := by decide +kernel
theorem dLw_load_24 : decode cLw_load 24 = .ok (.iconst 1, 1) := by decide +kernel
theorem dLw_load_25 : decode cLw_load 25 = .ok (.ireturn, 1) := by decide +kernel
theorem dLw_load_26 : decode cLw_load 26 = .ok (.astore 5, 2) := by decide +kernel
theorem dLw_load_28 : decode cLw_load 28 = .ok (.iconst 2, 1) := by decide +kernel
theorem dLw_load_29 : decode cLw_load 29 = .ok (.ireturn, 1) := by decide +kernel
theorem dLw_load_30 : decode cLw_load 30 = .ok (.astore 5, 2) := by decide +kernel
theorem dLw_load_32 : decode cLw_load 32 = .ok (.iconst 3, 1) := by decide +kernel
theorem dLw_load_33 : decode cLw_load 33 = .ok (.ireturn, 1) := by decide +kernel
theorem dLw_load_34 : decode cLw_load 34 = .ok (.iconst 0, 1) := by decide +kernel
theorem dLw_load_35 : decode cLw_load 35 = .ok (.ireturn, 1) := by decide +kernel
abbrev cLw_depart : ByteArray := method_9_code
abbrev mLw_depart : MD := (⟨"DockBookLaw", "depart", "(LDockBook;I[J)I"⟩, cLw_depart, 4, some (.int), [(0, 9, 12, 29), (0, 9, 15, 31)])
theorem dLw_depart_0 : decode cLw_depart 0 = .ok (.aload_n 2, 1) := by decide +kernel
theorem dLw_depart_1 : decode cLw_depart 1 = .ok (.iconst 0, 1) := by decide +kernel
theorem dLw_depart_2 : decode cLw_depart 2 = .ok (.aload_n 0, 1) := by decide +kernel
theorem dLw_depart_3 : decode cLw_depart 3 = .ok (.iload_n 1, 1) := by decide +kernel
theorem dLw_depart_4 : decode cLw_depart 4 = .ok (.invokevirtual 41, 3) := by decide +kernel
theorem dLw_depart_7 : decode cLw_depart 7 = .ok (.i2l, 1) := by decide +kernel
theorem dLw_depart_8 : decode cLw_depart 8 = .ok (.lastore, 1) := by decide +kernel
theorem dLw_depart_9 : decode cLw_depart 9 = .ok (.goto 9, 3) := by decide +kernel
theorem dLw_depart_12 : decode cLw_depart 12 = .ok (.astore_n 3, 1) := by decide +kernel
theorem dLw_depart_13 : decode cLw_depart 13 = .ok (.iconst 1, 1) := by decide +kernel
theorem dLw_depart_14 : decode cLw_depart 14 = .ok (.ireturn, 1) := by decide +kernel
theorem dLw_depart_15 : decode cLw_depart 15 = .ok (.astore_n 3, 1) := by decide +kernel
theorem dLw_depart_16 : decode cLw_depart 16 = .ok (.iconst 2, 1) := by decide +kernel
theorem dLw_depart_17 : decode cLw_depart 17 = .ok (.ireturn, 1) := by decide +kernel
theorem dLw_depart_18 : decode cLw_depart 18 = .ok (.iconst 0, 1) := by decide +kernel
theorem dLw_depart_19 : decode cLw_depart 19 = .ok (.ireturn, 1) := by decide +kernel
abbrev cLw_late : ByteArray := method_10_code
abbrev mLw_late : MD := (⟨"DockBookLaw", "late", "(LDockBook;II[J)I"⟩, cLw_late, 5, some (.int), [(0, 17, 20, 29), (0, 17, 24, 13), (0, 17, 28, 31)])
theorem dLw_late_0 : decode cLw_late 0 = .ok (.aload_n 3, 1) := by decide +kernel
theorem dLw_late_1 : decode cLw_late 1 = .ok (.iconst 0, 1) := by decide +kernel
theorem dLw_late_2 : decode cLw_late 2 = .ok (.aload_n 0, 1) := by decide +kernel
theorem dLw_late_3 : decode cLw_late 3 = .ok (.iload_n 1, 1) := by decide +kernel
theorem dLw_late_4 : decode cLw_late 4 = .ok (.iload_n 2, 1) := by decide +kernel
theorem dLw_late_5 : decode cLw_late 5 = .ok (.invokevirtual 44, 3) := by decide +kernel
theorem dLw_late_8 : decode cLw_late 8 = .ok (.ifCond .eq 7, 3) := by decide +kernel
theorem dLw_late_11 : decode cLw_late 11 = .ok (.lconst 1, 1) := by decide +kernel
theorem dLw_late_12 : decode cLw_late 12 = .ok (.goto 4, 3) := by decide +kernel
theorem dLw_late_15 : decode cLw_late 15 = .ok (.lconst 0, 1) := by decide +kernel
theorem dLw_late_16 : decode cLw_late 16 = .ok (.lastore, 1) := by decide +kernel
theorem dLw_late_17 : decode cLw_late 17 = .ok (.goto 15, 3) := by decide +kernel
theorem dLw_late_20 : decode cLw_late 20 = .ok (.astore 4, 2) := by decide +kernel
theorem dLw_late_22 : decode cLw_late 22 = .ok (.iconst 1, 1) := by decide +kernel
theorem dLw_late_23 : decode cLw_late 23 = .ok (.ireturn, 1) := by decide +kernel
theorem dLw_late_24 : decode cLw_late 24 = .ok (.astore 4, 2) := by decide +kernel
theorem dLw_late_26 : decode cLw_late 26 = .ok (.iconst 2, 1) := by decide +kernel
theorem dLw_late_27 : decode cLw_late 27 = .ok (.ireturn, 1) := by decide +kernel
theorem dLw_late_28 : decode cLw_late 28 = .ok (.astore 4, 2) := by decide +kernel
theorem dLw_late_30 : decode cLw_late 30 = .ok (.iconst 3, 1) := by decide +kernel
theorem dLw_late_31 : decode cLw_late 31 = .ok (.ireturn, 1) := by decide +kernel
theorem dLw_late_32 : decode cLw_late 32 = .ok (.iconst 0, 1) := by decide +kernel
theorem dLw_late_33 : decode cLw_late 33 = .ok (.ireturn, 1) := by decide +kernel
abbrev cLw_cancel : ByteArray := method_11_code
abbrev mLw_cancel : MD := (⟨"DockBookLaw", "cancel", "(LDockBook;I)I"⟩, cLw_cancel, 3, some (.int), [(0, 5, 8, 29), (0, 5, 11, 31)])
theorem dLw_cancel_0 : decode cLw_cancel 0 = .ok (.aload_n 0, 1) := by decide +kernel
theorem dLw_cancel_1 : decode cLw_cancel 1 = .ok (.iload_n 1, 1) := by decide +kernel
theorem dLw_cancel_2 : decode cLw_cancel 2 = .ok (.invokevirtual 48, 3) := by decide +kernel
theorem dLw_cancel_5 : decode cLw_cancel 5 = .ok (.goto 9, 3) := by decide +kernel
theorem dLw_cancel_8 : decode cLw_cancel 8 = .ok (.astore_n 2, 1) := by decide +kernel
theorem dLw_cancel_9 : decode cLw_cancel 9 = .ok (.iconst 1, 1) := by decide +kernel
theorem dLw_cancel_10 : decode cLw_cancel 10 = .ok (.ireturn, 1) := by decide +kernel
theorem dLw_cancel_11 : decode cLw_cancel 11 = .ok (.astore_n 2, 1) := by decide +kernel
theorem dLw_cancel_12 : decode cLw_cancel 12 = .ok (.iconst 2, 1) := by decide +kernel
theorem dLw_cancel_13 : decode cLw_cancel 13 = .ok (.ireturn, 1) := by decide +kernel
theorem dLw_cancel_14 : decode cLw_cancel 14 = .ok (.iconst 0, 1) := by decide +kernel
theorem dLw_cancel_15 : decode cLw_cancel 15 = .ok (.ireturn, 1) := by decide +kernel
abbrev cLw_out : ByteArray := method_12_code
abbrev mLw_out : MD := (⟨"DockBookLaw", "out", "(LDockBook;IZ[J)I"⟩, cLw_out, 5, some (.int), [(0, 10, 13, 29), (0, 10, 17, 31)])
theorem dLw_out_0 : decode cLw_out 0 = .ok (.aload_n 3, 1) := by decide +kernel
theorem dLw_out_1 : decode cLw_out 1 = .ok (.iconst 0, 1) := by decide +kernel
theorem dLw_out_2 : decode cLw_out 2 = .ok (.aload_n 0, 1) := by decide +kernel
theorem dLw_out_3 : decode cLw_out 3 = .ok (.iload_n 1, 1) := by decide +kernel
theorem dLw_out_4 : decode cLw_out 4 = .ok (.iload_n 2, 1) := by decide +kernel
theorem dLw_out_5 : decode cLw_out 5 = .ok (.invokevirtual 51, 3) := by decide +kernel
theorem dLw_out_8 : decode cLw_out 8 = .ok (.i2l, 1) := by decide +kernel
theorem dLw_out_9 : decode cLw_out 9 = .ok (.lastore, 1) := by decide +kernel
theorem dLw_out_10 : decode cLw_out 10 = .ok (.goto 11, 3) := by decide +kernel
theorem dLw_out_13 : decode cLw_out 13 = .ok (.astore 4, 2) := by decide +kernel
theorem dLw_out_15 : decode cLw_out 15 = .ok (.iconst 1, 1) := by decide +kernel
theorem dLw_out_16 : decode cLw_out 16 = .ok (.ireturn, 1) := by decide +kernel
theorem dLw_out_17 : decode cLw_out 17 = .ok (.astore 4, 2) := by decide +kernel
theorem dLw_out_19 : decode cLw_out 19 = .ok (.iconst 2, 1) := by decide +kernel
theorem dLw_out_20 : decode cLw_out 20 = .ok (.ireturn, 1) := by decide +kernel
theorem dLw_out_21 : decode cLw_out 21 = .ok (.iconst 0, 1) := by decide +kernel
theorem dLw_out_22 : decode cLw_out 22 = .ok (.ireturn, 1) := by decide +kernel
abbrev cLw_pass : ByteArray := method_13_code
abbrev mLw_pass : MD := (⟨"DockBookLaw", "pass", "(LDockBook;I)I"⟩, cLw_pass, 3, some (.int), [(0, 5, 8, 13)])
theorem dLw_pass_0 : decode cLw_pass 0 = .ok (.aload_n 0, 1) := by decide +kernel
theorem dLw_pass_1 : decode cLw_pass 1 = .ok (.iload_n 1, 1) := by decide +kernel
theorem dLw_pass_2 : decode cLw_pass 2 = .ok (.invokevirtual 55, 3) := by decide +kernel
theorem dLw_pass_5 : decode cLw_pass 5 = .ok (.goto 6, 3) := by decide +kernel
theorem dLw_pass_8 : decode cLw_pass 8 = .ok (.astore_n 2, 1) := by decide +kernel
theorem dLw_pass_9 : decode cLw_pass 9 = .ok (.iconst 1, 1) := by decide +kernel
theorem dLw_pass_10 : decode cLw_pass 10 = .ok (.ireturn, 1) := by decide +kernel
theorem dLw_pass_11 : decode cLw_pass 11 = .ok (.iconst 0, 1) := by decide +kernel
theorem dLw_pass_12 : decode cLw_pass 12 = .ok (.ireturn, 1) := by decide +kernel
abbrev cLw_order : ByteArray := method_14_code
abbrev mLw_order : MD := (⟨"DockBookLaw", "order", "(LDockBook;II[J)I"⟩, cLw_order, 5, some (.int), [(0, 10, 13, 29)])
theorem dLw_order_0 : decode cLw_order 0 = .ok (.aload_n 3, 1) := by decide +kernel
theorem dLw_order_1 : decode cLw_order 1 = .ok (.iconst 0, 1) := by decide +kernel
theorem dLw_order_2 : decode cLw_order 2 = .ok (.aload_n 0, 1) := by decide +kernel
theorem dLw_order_3 : decode cLw_order 3 = .ok (.iload_n 1, 1) := by decide +kernel
theorem dLw_order_4 : decode cLw_order 4 = .ok (.iload_n 2, 1) := by decide +kernel
theorem dLw_order_5 : decode cLw_order 5 = .ok (.invokevirtual 58, 3) := by decide +kernel
theorem dLw_order_8 : decode cLw_order 8 = .ok (.i2l, 1) := by decide +kernel
theorem dLw_order_9 : decode cLw_order 9 = .ok (.lastore, 1) := by decide +kernel
theorem dLw_order_10 : decode cLw_order 10 = .ok (.goto 7, 3) := by decide +kernel
theorem dLw_order_13 : decode cLw_order 13 = .ok (.astore 4, 2) := by decide +kernel
theorem dLw_order_15 : decode cLw_order 15 = .ok (.iconst 1, 1) := by decide +kernel
theorem dLw_order_16 : decode cLw_order 16 = .ok (.ireturn, 1) := by decide +kernel
theorem dLw_order_17 : decode cLw_order 17 = .ok (.iconst 0, 1) := by decide +kernel
theorem dLw_order_18 : decode cLw_order 18 = .ok (.ireturn, 1) := by decide +kernel
abbrev cLw_told : ByteArray := method_15_code
abbrev mLw_told : MD := (⟨"DockBookLaw", "told", "(LDockBook;II[J)I"⟩, cLw_told, 5, some (.int), [(0, 10, 13, 29), (0, 10, 17, 13)])
theorem dLw_told_0 : decode cLw_told 0 = .ok (.aload_n 3, 1) := by decide +kernel
theorem dLw_told_1 : decode cLw_told 1 = .ok (.iconst 0, 1) := by decide +kernel
theorem dLw_told_2 : decode cLw_told 2 = .ok (.aload_n 0, 1) := by decide +kernel
theorem dLw_told_3 : decode cLw_told 3 = .ok (.iload_n 1, 1) := by decide +kernel
theorem dLw_told_4 : decode cLw_told 4 = .ok (.iload_n 2, 1) := by decide +kernel
theorem dLw_told_5 : decode cLw_told 5 = .ok (.invokevirtual 61, 3) := by decide +kernel
theorem dLw_told_8 : decode cLw_told 8 = .ok (.i2l, 1) := by decide +kernel
theorem dLw_told_9 : decode cLw_told 9 = .ok (.lastore, 1) := by decide +kernel
theorem dLw_told_10 : decode cLw_told 10 = .ok (.goto 11, 3) := by decide +kernel
theorem dLw_told_13 : decode cLw_told 13 = .ok (.astore 4, 2) := by decide +kernel
theorem dLw_told_15 : decode cLw_told 15 = .ok (.iconst 1, 1) := by decide +kernel
theorem dLw_told_16 : decode cLw_told 16 = .ok (.ireturn, 1) := by decide +kernel
theorem dLw_told_17 : decode cLw_told 17 = .ok (.astore 4, 2) := by decide +kernel
theorem dLw_told_19 : decode cLw_told 19 = .ok (.iconst 2, 1) := by decide +kernel
theorem dLw_told_20 : decode cLw_told 20 = .ok (.ireturn, 1) := by decide +kernel
theorem dLw_told_21 : decode cLw_told 21 = .ok (.iconst 0, 1) := by decide +kernel
theorem dLw_told_22 : decode cLw_told 22 = .ok (.ireturn, 1) := by decide +kernel
abbrev cLw_known : ByteArray := method_16_code
abbrev mLw_known : MD := (⟨"DockBookLaw", "known", "(LDockBook;II[J)I"⟩, cLw_known, 5, some (.int), [(0, 10, 13, 29), (0, 10, 17, 13)])
theorem dLw_known_0 : decode cLw_known 0 = .ok (.aload_n 3, 1) := by decide +kernel
theorem dLw_known_1 : decode cLw_known 1 = .ok (.iconst 0, 1) := by decide +kernel
theorem dLw_known_2 : decode cLw_known 2 = .ok (.aload_n 0, 1) := by decide +kernel
theorem dLw_known_3 : decode cLw_known 3 = .ok (.iload_n 1, 1) := by decide +kernel
theorem dLw_known_4 : decode cLw_known 4 = .ok (.iload_n 2, 1) := by decide +kernel
theorem dLw_known_5 : decode cLw_known 5 = .ok (.invokevirtual 64, 3) := by decide +kernel
theorem dLw_known_8 : decode cLw_known 8 = .ok (.i2l, 1) := by decide +kernel
theorem dLw_known_9 : decode cLw_known 9 = .ok (.lastore, 1) := by decide +kernel
theorem dLw_known_10 : decode cLw_known 10 = .ok (.goto 11, 3) := by decide +kernel
theorem dLw_known_13 : decode cLw_known 13 = .ok (.astore 4, 2) := by decide +kernel
theorem dLw_known_15 : decode cLw_known 15 = .ok (.iconst 1, 1) := by decide +kernel
theorem dLw_known_16 : decode cLw_known 16 = .ok (.ireturn, 1) := by decide +kernel
theorem dLw_known_17 : decode cLw_known 17 = .ok (.astore 4, 2) := by decide +kernel
theorem dLw_known_19 : decode cLw_known 19 = .ok (.iconst 2, 1) := by decide +kernel
theorem dLw_known_20 : decode cLw_known 20 = .ok (.ireturn, 1) := by decide +kernel
theorem dLw_known_21 : decode cLw_known 21 = .ok (.iconst 0, 1) := by decide +kernel
theorem dLw_known_22 : decode cLw_known 22 = .ok (.ireturn, 1) := by decide +kernel
abbrev cLw_law : ByteArray := code
abbrev mLw_law : MD := (⟨"DockBookLaw", "law", "([I)Z"⟩, cLw_law, 7, some (.boolean), [])
theorem dLw_law_0 : decode cLw_law 0 = .ok (.new 8, 3) := by decide +kernel
theorem dLw_law_3 : decode cLw_law 3 = .ok (.dup, 1) := by decide +kernel
theorem dLw_law_4 : decode cLw_law 4 = .ok (.invokespecial 67, 3) := by decide +kernel
theorem dLw_law_7 : decode cLw_law 7 = .ok (.astore_n 1, 1) := by decide +kernel
theorem dLw_law_8 : decode cLw_law 8 = .ok (.new 68, 3) := by decide +kernel
theorem dLw_law_11 : decode cLw_law 11 = .ok (.dup, 1) := by decide +kernel
theorem dLw_law_12 : decode cLw_law 12 = .ok (.invokespecial 70, 3) := by decide +kernel
theorem dLw_law_15 : decode cLw_law 15 = .ok (.astore_n 2, 1) := by decide +kernel
theorem dLw_law_16 : decode cLw_law 16 = .ok (.iconst 1, 1) := by decide +kernel
theorem dLw_law_17 : decode cLw_law 17 = .ok (.newarray .long, 2) := by decide +kernel
theorem dLw_law_19 : decode cLw_law 19 = .ok (.astore_n 3, 1) := by decide +kernel
theorem dLw_law_20 : decode cLw_law 20 = .ok (.iconst 0, 1) := by decide +kernel
theorem dLw_law_21 : decode cLw_law 21 = .ok (.istore 4, 2) := by decide +kernel
theorem dLw_law_23 : decode cLw_law 23 = .ok (.iload 4, 2) := by decide +kernel
theorem dLw_law_25 : decode cLw_law 25 = .ok (.aload_n 0, 1) := by decide +kernel
theorem dLw_law_26 : decode cLw_law 26 = .ok (.arraylength, 1) := by decide +kernel
theorem dLw_law_27 : decode cLw_law 27 = .ok (.iconst 5, 1) := by decide +kernel
theorem dLw_law_28 : decode cLw_law 28 = .ok (.isub, 1) := by decide +kernel
theorem dLw_law_29 : decode cLw_law 29 = .ok (.if_icmp .gt 731, 3) := by decide +kernel
theorem dLw_law_32 : decode cLw_law 32 = .ok (.aload_n 0, 1) := by decide +kernel
theorem dLw_law_33 : decode cLw_law 33 = .ok (.iload 4, 2) := by decide +kernel
theorem dLw_law_35 : decode cLw_law 35 = .ok (.iaload, 1) := by decide +kernel
theorem dLw_law_36 : decode cLw_law 36 = .ok (.bipush 31, 2) := by decide +kernel
theorem dLw_law_38 : decode cLw_law 38 = .ok (.iand, 1) := by decide +kernel
theorem dLw_law_39 : decode cLw_law 39 = .ok (.tableswitch 715 0 17 #[85, 137, 201, 229, 242, 255, 268, 293, 333, 385, 413, 453, 478, 534, 570, 610, 650, 690], 85) := by decide +kernel
theorem dLw_law_124 : decode cLw_law 124 = .ok (.aload_n 1, 1) := by decide +kernel
theorem dLw_law_125 : decode cLw_law 125 = .ok (.aload_n 0, 1) := by decide +kernel
theorem dLw_law_126 : decode cLw_law 126 = .ok (.iload 4, 2) := by decide +kernel
theorem dLw_law_128 : decode cLw_law 128 = .ok (.iconst 1, 1) := by decide +kernel
theorem dLw_law_129 : decode cLw_law 129 = .ok (.iadd, 1) := by decide +kernel
theorem dLw_law_130 : decode cLw_law 130 = .ok (.iaload, 1) := by decide +kernel
theorem dLw_law_131 : decode cLw_law 131 = .ok (.aload_n 0, 1) := by decide +kernel
theorem dLw_law_132 : decode cLw_law 132 = .ok (.iload 4, 2) := by decide +kernel
theorem dLw_law_134 : decode cLw_law 134 = .ok (.iconst 2, 1) := by decide +kernel
theorem dLw_law_135 : decode cLw_law 135 = .ok (.iadd, 1) := by decide +kernel
theorem dLw_law_136 : decode cLw_law 136 = .ok (.iaload, 1) := by decide +kernel
theorem dLw_law_137 : decode cLw_law 137 = .ok (.aload_n 0, 1) := by decide +kernel
theorem dLw_law_138 : decode cLw_law 138 = .ok (.iload 4, 2) := by decide +kernel
theorem dLw_law_140 : decode cLw_law 140 = .ok (.iconst 3, 1) := by decide +kernel
theorem dLw_law_141 : decode cLw_law 141 = .ok (.iadd, 1) := by decide +kernel
theorem dLw_law_142 : decode cLw_law 142 = .ok (.iaload, 1) := by decide +kernel
theorem dLw_law_143 : decode cLw_law 143 = .ok (.aload_n 3, 1) := by decide +kernel
theorem dLw_law_144 : decode cLw_law 144 = .ok (.invokestatic 71, 3) := by decide +kernel
theorem dLw_law_147 : decode cLw_law 147 = .ok (.istore 5, 2) := by decide +kernel
theorem dLw_law_149 : decode cLw_law 149 = .ok (.aload_n 2, 1) := by decide +kernel
theorem dLw_law_150 : decode cLw_law 150 = .ok (.aload_n 0, 1) := by decide +kernel
theorem dLw_law_151 : decode cLw_law 151 = .ok (.iload 4, 2) := by decide +kernel
theorem dLw_law_153 : decode cLw_law 153 = .ok (.iconst 1, 1) := by decide +kernel
theorem dLw_law_154 : decode cLw_law 154 = .ok (.iadd, 1) := by decide +kernel
theorem dLw_law_155 : decode cLw_law 155 = .ok (.iaload, 1) := by decide +kernel
theorem dLw_law_156 : decode cLw_law 156 = .ok (.aload_n 0, 1) := by decide +kernel
theorem dLw_law_157 : decode cLw_law 157 = .ok (.iload 4, 2) := by decide +kernel
theorem dLw_law_159 : decode cLw_law 159 = .ok (.iconst 2, 1) := by decide +kernel
theorem dLw_law_160 : decode cLw_law 160 = .ok (.iadd, 1) := by decide +kernel
theorem dLw_law_161 : decode cLw_law 161 = .ok (.iaload, 1) := by decide +kernel
theorem dLw_law_162 : decode cLw_law 162 = .ok (.aload_n 0, 1) := by decide +kernel
theorem dLw_law_163 : decode cLw_law 163 = .ok (.iload 4, 2) := by decide +kernel
theorem dLw_law_165 : decode cLw_law 165 = .ok (.iconst 3, 1) := by decide +kernel
theorem dLw_law_166 : decode cLw_law 166 = .ok (.iadd, 1) := by decide +kernel
theorem dLw_law_167 : decode cLw_law 167 = .ok (.iaload, 1) := by decide +kernel
theorem dLw_law_168 : decode cLw_law 168 = .ok (.invokevirtual 76, 3) := by decide +kernel
theorem dLw_law_171 : decode cLw_law 171 = .ok (.istore 6, 2) := by decide +kernel
theorem dLw_law_173 : decode cLw_law 173 = .ok (.goto 581, 3) := by decide +kernel
theorem dLw_law_176 : decode cLw_law 176 = .ok (.aload_n 1, 1) := by decide +kernel
theorem dLw_law_177 : decode cLw_law 177 = .ok (.aload_n 0, 1) := by decide +kernel
theorem dLw_law_178 : decode cLw_law 178 = .ok (.iload 4, 2) := by decide +kernel
theorem dLw_law_180 : decode cLw_law 180 = .ok (.iconst 1, 1) := by decide +kernel
theorem dLw_law_181 : decode cLw_law 181 = .ok (.iadd, 1) := by decide +kernel
theorem dLw_law_182 : decode cLw_law 182 = .ok (.iaload, 1) := by decide +kernel
theorem dLw_law_183 : decode cLw_law 183 = .ok (.aload_n 0, 1) := by decide +kernel
theorem dLw_law_184 : decode cLw_law 184 = .ok (.iload 4, 2) := by decide +kernel
theorem dLw_law_186 : decode cLw_law 186 = .ok (.iconst 2, 1) := by decide +kernel
theorem dLw_law_187 : decode cLw_law 187 = .ok (.iadd, 1) := by decide +kernel
theorem dLw_law_188 : decode cLw_law 188 = .ok (.iaload, 1) := by decide +kernel
theorem dLw_law_189 : decode cLw_law 189 = .ok (.aload_n 0, 1) := by decide +kernel
theorem dLw_law_190 : decode cLw_law 190 = .ok (.iload 4, 2) := by decide +kernel
theorem dLw_law_192 : decode cLw_law 192 = .ok (.iconst 3, 1) := by decide +kernel
theorem dLw_law_193 : decode cLw_law 193 = .ok (.iadd, 1) := by decide +kernel
theorem dLw_law_194 : decode cLw_law 194 = .ok (.iaload, 1) := by decide +kernel
theorem dLw_law_195 : decode cLw_law 195 = .ok (.aload_n 0, 1) := by decide +kernel
theorem dLw_law_196 : decode cLw_law 196 = .ok (.iload 4, 2) := by decide +kernel
theorem dLw_law_198 : decode cLw_law 198 = .ok (.iconst 4, 1) := by decide +kernel
theorem dLw_law_199 : decode cLw_law 199 = .ok (.iadd, 1) := by decide +kernel
theorem dLw_law_200 : decode cLw_law 200 = .ok (.iaload, 1) := by decide +kernel
theorem dLw_law_201 : decode cLw_law 201 = .ok (.aload_n 3, 1) := by decide +kernel
theorem dLw_law_202 : decode cLw_law 202 = .ok (.invokestatic 77, 3) := by decide +kernel
theorem dLw_law_205 : decode cLw_law 205 = .ok (.istore 5, 2) := by decide +kernel
theorem dLw_law_207 : decode cLw_law 207 = .ok (.aload_n 2, 1) := by decide +kernel
theorem dLw_law_208 : decode cLw_law 208 = .ok (.aload_n 0, 1) := by decide +kernel
theorem dLw_law_209 : decode cLw_law 209 = .ok (.iload 4, 2) := by decide +kernel
theorem dLw_law_211 : decode cLw_law 211 = .ok (.iconst 1, 1) := by decide +kernel
theorem dLw_law_212 : decode cLw_law 212 = .ok (.iadd, 1) := by decide +kernel
theorem dLw_law_213 : decode cLw_law 213 = .ok (.iaload, 1) := by decide +kernel
theorem dLw_law_214 : decode cLw_law 214 = .ok (.aload_n 0, 1) := by decide +kernel
theorem dLw_law_215 : decode cLw_law 215 = .ok (.iload 4, 2) := by decide +kernel
theorem dLw_law_217 : decode cLw_law 217 = .ok (.iconst 2, 1) := by decide +kernel
theorem dLw_law_218 : decode cLw_law 218 = .ok (.iadd, 1) := by decide +kernel
theorem dLw_law_219 : decode cLw_law 219 = .ok (.iaload, 1) := by decide +kernel
theorem dLw_law_220 : decode cLw_law 220 = .ok (.aload_n 0, 1) := by decide +kernel
theorem dLw_law_221 : decode cLw_law 221 = .ok (.iload 4, 2) := by decide +kernel
theorem dLw_law_223 : decode cLw_law 223 = .ok (.iconst 3, 1) := by decide +kernel
theorem dLw_law_224 : decode cLw_law 224 = .ok (.iadd, 1) := by decide +kernel
theorem dLw_law_225 : decode cLw_law 225 = .ok (.iaload, 1) := by decide +kernel
theorem dLw_law_226 : decode cLw_law 226 = .ok (.aload_n 0, 1) := by decide +kernel
theorem dLw_law_227 : decode cLw_law 227 = .ok (.iload 4, 2) := by decide +kernel
theorem dLw_law_229 : decode cLw_law 229 = .ok (.iconst 4, 1) := by decide +kernel
theorem dLw_law_230 : decode cLw_law 230 = .ok (.iadd, 1) := by decide +kernel
theorem dLw_law_231 : decode cLw_law 231 = .ok (.iaload, 1) := by decide +kernel
theorem dLw_law_232 : decode cLw_law 232 = .ok (.invokevirtual 80, 3) := by decide +kernel
theorem dLw_law_235 : decode cLw_law 235 = .ok (.istore 6, 2) := by decide +kernel
theorem dLw_law_237 : decode cLw_law 237 = .ok (.goto 517, 3) := by decide +kernel
theorem dLw_law_240 : decode cLw_law 240 = .ok (.aload_n 1, 1) := by decide +kernel
theorem dLw_law_241 : decode cLw_law 241 = .ok (.aload_n 0, 1) := by decide +kernel
theorem dLw_law_242 : decode cLw_law 242 = .ok (.iload 4, 2) := by decide +kernel
theorem dLw_law_244 : decode cLw_law 244 = .ok (.iconst 1, 1) := by decide +kernel
theorem dLw_law_245 : decode cLw_law 245 = .ok (.iadd, 1) := by decide +kernel
theorem dLw_law_246 : decode cLw_law 246 = .ok (.iaload, 1) := by decide +kernel
theorem dLw_law_247 : decode cLw_law 247 = .ok (.aload_n 3, 1) := by decide +kernel
theorem dLw_law_248 : decode cLw_law 248 = .ok (.invokestatic 81, 3) := by decide +kernel
theorem dLw_law_251 : decode cLw_law 251 = .ok (.istore 5, 2) := by decide +kernel
theorem dLw_law_253 : decode cLw_law 253 = .ok (.aload_n 2, 1) := by decide +kernel
theorem dLw_law_254 : decode cLw_law 254 = .ok (.aload_n 0, 1) := by decide +kernel
theorem dLw_law_255 : decode cLw_law 255 = .ok (.iload 4, 2) := by decide +kernel
theorem dLw_law_257 : decode cLw_law 257 = .ok (.iconst 1, 1) := by decide +kernel
theorem dLw_law_258 : decode cLw_law 258 = .ok (.iadd, 1) := by decide +kernel
theorem dLw_law_259 : decode cLw_law 259 = .ok (.iaload, 1) := by decide +kernel
theorem dLw_law_260 : decode cLw_law 260 = .ok (.invokevirtual 84, 3) := by decide +kernel
theorem dLw_law_263 : decode cLw_law 263 = .ok (.istore 6, 2) := by decide +kernel
theorem dLw_law_265 : decode cLw_law 265 = .ok (.goto 489, 3) := by decide +kernel
theorem dLw_law_268 : decode cLw_law 268 = .ok (.aload_n 1, 1) := by decide +kernel
theorem dLw_law_269 : decode cLw_law 269 = .ok (.invokevirtual 85, 3) := by decide +kernel
theorem dLw_law_272 : decode cLw_law 272 = .ok (.pop, 1) := by decide +kernel
theorem dLw_law_273 : decode cLw_law 273 = .ok (.aload_n 2, 1) := by decide +kernel
theorem dLw_law_274 : decode cLw_law 274 = .ok (.invokevirtual 89, 3) := by decide +kernel
theorem dLw_law_277 : decode cLw_law 277 = .ok (.pop, 1) := by decide +kernel
theorem dLw_law_278 : decode cLw_law 278 = .ok (.goto 476, 3) := by decide +kernel
theorem dLw_law_281 : decode cLw_law 281 = .ok (.aload_n 1, 1) := by decide +kernel
theorem dLw_law_282 : decode cLw_law 282 = .ok (.invokevirtual 90, 3) := by decide +kernel
theorem dLw_law_285 : decode cLw_law 285 = .ok (.pop, 1) := by decide +kernel
theorem dLw_law_286 : decode cLw_law 286 = .ok (.aload_n 2, 1) := by decide +kernel
theorem dLw_law_287 : decode cLw_law 287 = .ok (.invokevirtual 94, 3) := by decide +kernel
theorem dLw_law_290 : decode cLw_law 290 = .ok (.pop, 1) := by decide +kernel
theorem dLw_law_291 : decode cLw_law 291 = .ok (.goto 463, 3) := by decide +kernel
theorem dLw_law_294 : decode cLw_law 294 = .ok (.aload_n 1, 1) := by decide +kernel
theorem dLw_law_295 : decode cLw_law 295 = .ok (.invokevirtual 95, 3) := by decide +kernel
theorem dLw_law_298 : decode cLw_law 298 = .ok (.pop, 1) := by decide +kernel
theorem dLw_law_299 : decode cLw_law 299 = .ok (.aload_n 2, 1) := by decide +kernel
theorem dLw_law_300 : decode cLw_law 300 = .ok (.invokevirtual 98, 3) := by decide +kernel
theorem dLw_law_303 : decode cLw_law 303 = .ok (.pop, 1) := by decide +kernel
theorem dLw_law_304 : decode cLw_law 304 = .ok (.goto 450, 3) := by decide +kernel
theorem dLw_law_307 : decode cLw_law 307 = .ok (.aload_n 1, 1) := by decide +kernel
theorem dLw_law_308 : decode cLw_law 308 = .ok (.aload_n 0, 1) := by decide +kernel
theorem dLw_law_309 : decode cLw_law 309 = .ok (.iload 4, 2) := by decide +kernel
theorem dLw_law_311 : decode cLw_law 311 = .ok (.iconst 1, 1) := by decide +kernel
theorem dLw_law_312 : decode cLw_law 312 = .ok (.iadd, 1) := by decide +kernel
theorem dLw_law_313 : decode cLw_law 313 = .ok (.iaload, 1) := by decide +kernel
theorem dLw_law_314 : decode cLw_law 314 = .ok (.invokestatic 99, 3) := by decide +kernel
theorem dLw_law_317 : decode cLw_law 317 = .ok (.istore 5, 2) := by decide +kernel
theorem dLw_law_319 : decode cLw_law 319 = .ok (.aload_n 2, 1) := by decide +kernel
theorem dLw_law_320 : decode cLw_law 320 = .ok (.aload_n 0, 1) := by decide +kernel
theorem dLw_law_321 : decode cLw_law 321 = .ok (.iload 4, 2) := by decide +kernel
theorem dLw_law_323 : decode cLw_law 323 = .ok (.iconst 1, 1) := by decide +kernel
theorem dLw_law_324 : decode cLw_law 324 = .ok (.iadd, 1) := by decide +kernel
theorem dLw_law_325 : decode cLw_law 325 = .ok (.iaload, 1) := by decide +kernel
theorem dLw_law_326 : decode cLw_law 326 = .ok (.invokevirtual 102, 3) := by decide +kernel
theorem dLw_law_329 : decode cLw_law 329 = .ok (.goto 425, 3) := by decide +kernel
theorem dLw_law_332 : decode cLw_law 332 = .ok (.aload_n 1, 1) := by decide +kernel
theorem dLw_law_333 : decode cLw_law 333 = .ok (.aload_n 0, 1) := by decide +kernel
theorem dLw_law_334 : decode cLw_law 334 = .ok (.iload 4, 2) := by decide +kernel
theorem dLw_law_336 : decode cLw_law 336 = .ok (.iconst 1, 1) := by decide +kernel
theorem dLw_law_337 : decode cLw_law 337 = .ok (.iadd, 1) := by decide +kernel
theorem dLw_law_338 : decode cLw_law 338 = .ok (.iaload, 1) := by decide +kernel
theorem dLw_law_339 : decode cLw_law 339 = .ok (.aload_n 0, 1) := by decide +kernel
theorem dLw_law_340 : decode cLw_law 340 = .ok (.iload 4, 2) := by decide +kernel
theorem dLw_law_342 : decode cLw_law 342 = .ok (.iconst 2, 1) := by decide +kernel
theorem dLw_law_343 : decode cLw_law 343 = .ok (.iadd, 1) := by decide +kernel
theorem dLw_law_344 : decode cLw_law 344 = .ok (.iaload, 1) := by decide +kernel
theorem dLw_law_345 : decode cLw_law 345 = .ok (.aload_n 3, 1) := by decide +kernel
theorem dLw_law_346 : decode cLw_law 346 = .ok (.invokestatic 103, 3) := by decide +kernel
theorem dLw_law_349 : decode cLw_law 349 = .ok (.istore 5, 2) := by decide +kernel
theorem dLw_law_351 : decode cLw_law 351 = .ok (.aload_n 2, 1) := by decide +kernel
theorem dLw_law_352 : decode cLw_law 352 = .ok (.aload_n 0, 1) := by decide +kernel
theorem dLw_law_353 : decode cLw_law 353 = .ok (.iload 4, 2) := by decide +kernel
theorem dLw_law_355 : decode cLw_law 355 = .ok (.iconst 1, 1) := by decide +kernel
theorem dLw_law_356 : decode cLw_law 356 = .ok (.iadd, 1) := by decide +kernel
theorem dLw_law_357 : decode cLw_law 357 = .ok (.iaload, 1) := by decide +kernel
theorem dLw_law_358 : decode cLw_law 358 = .ok (.aload_n 0, 1) := by decide +kernel
theorem dLw_law_359 : decode cLw_law 359 = .ok (.iload 4, 2) := by decide +kernel
theorem dLw_law_361 : decode cLw_law 361 = .ok (.iconst 2, 1) := by decide +kernel
theorem dLw_law_362 : decode cLw_law 362 = .ok (.iadd, 1) := by decide +kernel
theorem dLw_law_363 : decode cLw_law 363 = .ok (.iaload, 1) := by decide +kernel
theorem dLw_law_364 : decode cLw_law 364 = .ok (.invokevirtual 106, 3) := by decide +kernel
theorem dLw_law_367 : decode cLw_law 367 = .ok (.istore 6, 2) := by decide +kernel
theorem dLw_law_369 : decode cLw_law 369 = .ok (.goto 385, 3) := by decide +kernel
theorem dLw_law_372 : decode cLw_law 372 = .ok (.aload_n 1, 1) := by decide +kernel
theorem dLw_law_373 : decode cLw_law 373 = .ok (.aload_n 0, 1) := by decide +kernel
theorem dLw_law_374 : decode cLw_law 374 = .ok (.iload 4, 2) := by decide +kernel
theorem dLw_law_376 : decode cLw_law 376 = .ok (.iconst 1, 1) := by decide +kernel
theorem dLw_law_377 : decode cLw_law 377 = .ok (.iadd, 1) := by decide +kernel
theorem dLw_law_378 : decode cLw_law 378 = .ok (.iaload, 1) := by decide +kernel
theorem dLw_law_379 : decode cLw_law 379 = .ok (.aload_n 0, 1) := by decide +kernel
theorem dLw_law_380 : decode cLw_law 380 = .ok (.iload 4, 2) := by decide +kernel
theorem dLw_law_382 : decode cLw_law 382 = .ok (.iconst 2, 1) := by decide +kernel
theorem dLw_law_383 : decode cLw_law 383 = .ok (.iadd, 1) := by decide +kernel
theorem dLw_law_384 : decode cLw_law 384 = .ok (.iaload, 1) := by decide +kernel
theorem dLw_law_385 : decode cLw_law 385 = .ok (.aload_n 0, 1) := by decide +kernel
theorem dLw_law_386 : decode cLw_law 386 = .ok (.iload 4, 2) := by decide +kernel
theorem dLw_law_388 : decode cLw_law 388 = .ok (.iconst 3, 1) := by decide +kernel
theorem dLw_law_389 : decode cLw_law 389 = .ok (.iadd, 1) := by decide +kernel
theorem dLw_law_390 : decode cLw_law 390 = .ok (.iaload, 1) := by decide +kernel
theorem dLw_law_391 : decode cLw_law 391 = .ok (.aload_n 3, 1) := by decide +kernel
theorem dLw_law_392 : decode cLw_law 392 = .ok (.invokestatic 107, 3) := by decide +kernel
theorem dLw_law_395 : decode cLw_law 395 = .ok (.istore 5, 2) := by decide +kernel
theorem dLw_law_397 : decode cLw_law 397 = .ok (.aload_n 2, 1) := by decide +kernel
theorem dLw_law_398 : decode cLw_law 398 = .ok (.aload_n 0, 1) := by decide +kernel
theorem dLw_law_399 : decode cLw_law 399 = .ok (.iload 4, 2) := by decide +kernel
theorem dLw_law_401 : decode cLw_law 401 = .ok (.iconst 1, 1) := by decide +kernel
theorem dLw_law_402 : decode cLw_law 402 = .ok (.iadd, 1) := by decide +kernel
theorem dLw_law_403 : decode cLw_law 403 = .ok (.iaload, 1) := by decide +kernel
theorem dLw_law_404 : decode cLw_law 404 = .ok (.aload_n 0, 1) := by decide +kernel
theorem dLw_law_405 : decode cLw_law 405 = .ok (.iload 4, 2) := by decide +kernel
theorem dLw_law_407 : decode cLw_law 407 = .ok (.iconst 2, 1) := by decide +kernel
theorem dLw_law_408 : decode cLw_law 408 = .ok (.iadd, 1) := by decide +kernel
theorem dLw_law_409 : decode cLw_law 409 = .ok (.iaload, 1) := by decide +kernel
theorem dLw_law_410 : decode cLw_law 410 = .ok (.aload_n 0, 1) := by decide +kernel
theorem dLw_law_411 : decode cLw_law 411 = .ok (.iload 4, 2) := by decide +kernel
theorem dLw_law_413 : decode cLw_law 413 = .ok (.iconst 3, 1) := by decide +kernel
theorem dLw_law_414 : decode cLw_law 414 = .ok (.iadd, 1) := by decide +kernel
theorem dLw_law_415 : decode cLw_law 415 = .ok (.iaload, 1) := by decide +kernel
theorem dLw_law_416 : decode cLw_law 416 = .ok (.invokevirtual 109, 3) := by decide +kernel
theorem dLw_law_419 : decode cLw_law 419 = .ok (.istore 6, 2) := by decide +kernel
theorem dLw_law_421 : decode cLw_law 421 = .ok (.goto 333, 3) := by decide +kernel
theorem dLw_law_424 : decode cLw_law 424 = .ok (.aload_n 1, 1) := by decide +kernel
theorem dLw_law_425 : decode cLw_law 425 = .ok (.aload_n 0, 1) := by decide +kernel
theorem dLw_law_426 : decode cLw_law 426 = .ok (.iload 4, 2) := by decide +kernel
theorem dLw_law_428 : decode cLw_law 428 = .ok (.iconst 1, 1) := by decide +kernel
theorem dLw_law_429 : decode cLw_law 429 = .ok (.iadd, 1) := by decide +kernel
theorem dLw_law_430 : decode cLw_law 430 = .ok (.iaload, 1) := by decide +kernel
theorem dLw_law_431 : decode cLw_law 431 = .ok (.aload_n 3, 1) := by decide +kernel
theorem dLw_law_432 : decode cLw_law 432 = .ok (.invokestatic 110, 3) := by decide +kernel
theorem dLw_law_435 : decode cLw_law 435 = .ok (.istore 5, 2) := by decide +kernel
theorem dLw_law_437 : decode cLw_law 437 = .ok (.aload_n 2, 1) := by decide +kernel
theorem dLw_law_438 : decode cLw_law 438 = .ok (.aload_n 0, 1) := by decide +kernel
theorem dLw_law_439 : decode cLw_law 439 = .ok (.iload 4, 2) := by decide +kernel
theorem dLw_law_441 : decode cLw_law 441 = .ok (.iconst 1, 1) := by decide +kernel
theorem dLw_law_442 : decode cLw_law 442 = .ok (.iadd, 1) := by decide +kernel
theorem dLw_law_443 : decode cLw_law 443 = .ok (.iaload, 1) := by decide +kernel
theorem dLw_law_444 : decode cLw_law 444 = .ok (.invokevirtual 112, 3) := by decide +kernel
theorem dLw_law_447 : decode cLw_law 447 = .ok (.istore 6, 2) := by decide +kernel
theorem dLw_law_449 : decode cLw_law 449 = .ok (.goto 305, 3) := by decide +kernel
theorem dLw_law_452 : decode cLw_law 452 = .ok (.aload_n 1, 1) := by decide +kernel
theorem dLw_law_453 : decode cLw_law 453 = .ok (.aload_n 0, 1) := by decide +kernel
theorem dLw_law_454 : decode cLw_law 454 = .ok (.iload 4, 2) := by decide +kernel
theorem dLw_law_456 : decode cLw_law 456 = .ok (.iconst 1, 1) := by decide +kernel
theorem dLw_law_457 : decode cLw_law 457 = .ok (.iadd, 1) := by decide +kernel
theorem dLw_law_458 : decode cLw_law 458 = .ok (.iaload, 1) := by decide +kernel
theorem dLw_law_459 : decode cLw_law 459 = .ok (.aload_n 0, 1) := by decide +kernel
theorem dLw_law_460 : decode cLw_law 460 = .ok (.iload 4, 2) := by decide +kernel
theorem dLw_law_462 : decode cLw_law 462 = .ok (.iconst 2, 1) := by decide +kernel
theorem dLw_law_463 : decode cLw_law 463 = .ok (.iadd, 1) := by decide +kernel
theorem dLw_law_464 : decode cLw_law 464 = .ok (.iaload, 1) := by decide +kernel
theorem dLw_law_465 : decode cLw_law 465 = .ok (.aload_n 3, 1) := by decide +kernel
theorem dLw_law_466 : decode cLw_law 466 = .ok (.invokestatic 113, 3) := by decide +kernel
theorem dLw_law_469 : decode cLw_law 469 = .ok (.istore 5, 2) := by decide +kernel
theorem dLw_law_471 : decode cLw_law 471 = .ok (.aload_n 2, 1) := by decide +kernel
theorem dLw_law_472 : decode cLw_law 472 = .ok (.aload_n 0, 1) := by decide +kernel
theorem dLw_law_473 : decode cLw_law 473 = .ok (.iload 4, 2) := by decide +kernel
theorem dLw_law_475 : decode cLw_law 475 = .ok (.iconst 1, 1) := by decide +kernel
theorem dLw_law_476 : decode cLw_law 476 = .ok (.iadd, 1) := by decide +kernel
theorem dLw_law_477 : decode cLw_law 477 = .ok (.iaload, 1) := by decide +kernel
theorem dLw_law_478 : decode cLw_law 478 = .ok (.aload_n 0, 1) := by decide +kernel
theorem dLw_law_479 : decode cLw_law 479 = .ok (.iload 4, 2) := by decide +kernel
theorem dLw_law_481 : decode cLw_law 481 = .ok (.iconst 2, 1) := by decide +kernel
theorem dLw_law_482 : decode cLw_law 482 = .ok (.iadd, 1) := by decide +kernel
theorem dLw_law_483 : decode cLw_law 483 = .ok (.iaload, 1) := by decide +kernel
theorem dLw_law_484 : decode cLw_law 484 = .ok (.invokevirtual 115, 3) := by decide +kernel
theorem dLw_law_487 : decode cLw_law 487 = .ok (.istore 6, 2) := by decide +kernel
theorem dLw_law_489 : decode cLw_law 489 = .ok (.goto 265, 3) := by decide +kernel
theorem dLw_law_492 : decode cLw_law 492 = .ok (.aload_n 1, 1) := by decide +kernel
theorem dLw_law_493 : decode cLw_law 493 = .ok (.aload_n 0, 1) := by decide +kernel
theorem dLw_law_494 : decode cLw_law 494 = .ok (.iload 4, 2) := by decide +kernel
theorem dLw_law_496 : decode cLw_law 496 = .ok (.iconst 1, 1) := by decide +kernel
theorem dLw_law_497 : decode cLw_law 497 = .ok (.iadd, 1) := by decide +kernel
theorem dLw_law_498 : decode cLw_law 498 = .ok (.iaload, 1) := by decide +kernel
theorem dLw_law_499 : decode cLw_law 499 = .ok (.invokestatic 116, 3) := by decide +kernel
theorem dLw_law_502 : decode cLw_law 502 = .ok (.istore 5, 2) := by decide +kernel
theorem dLw_law_504 : decode cLw_law 504 = .ok (.aload_n 2, 1) := by decide +kernel
theorem dLw_law_505 : decode cLw_law 505 = .ok (.aload_n 0, 1) := by decide +kernel
theorem dLw_law_506 : decode cLw_law 506 = .ok (.iload 4, 2) := by decide +kernel
theorem dLw_law_508 : decode cLw_law 508 = .ok (.iconst 1, 1) := by decide +kernel
theorem dLw_law_509 : decode cLw_law 509 = .ok (.iadd, 1) := by decide +kernel
theorem dLw_law_510 : decode cLw_law 510 = .ok (.iaload, 1) := by decide +kernel
theorem dLw_law_511 : decode cLw_law 511 = .ok (.invokevirtual 118, 3) := by decide +kernel
theorem dLw_law_514 : decode cLw_law 514 = .ok (.goto 240, 3) := by decide +kernel
theorem dLw_law_517 : decode cLw_law 517 = .ok (.aload_n 1, 1) := by decide +kernel
theorem dLw_law_518 : decode cLw_law 518 = .ok (.aload_n 0, 1) := by decide +kernel
theorem dLw_law_519 : decode cLw_law 519 = .ok (.iload 4, 2) := by decide +kernel
theorem dLw_law_521 : decode cLw_law 521 = .ok (.iconst 1, 1) := by decide +kernel
theorem dLw_law_522 : decode cLw_law 522 = .ok (.iadd, 1) := by decide +kernel
theorem dLw_law_523 : decode cLw_law 523 = .ok (.iaload, 1) := by decide +kernel
theorem dLw_law_524 : decode cLw_law 524 = .ok (.aload_n 0, 1) := by decide +kernel
theorem dLw_law_525 : decode cLw_law 525 = .ok (.iload 4, 2) := by decide +kernel
theorem dLw_law_527 : decode cLw_law 527 = .ok (.iconst 2, 1) := by decide +kernel
theorem dLw_law_528 : decode cLw_law 528 = .ok (.iadd, 1) := by decide +kernel
theorem dLw_law_529 : decode cLw_law 529 = .ok (.iaload, 1) := by decide +kernel
theorem dLw_law_530 : decode cLw_law 530 = .ok (.ifCond .eq 7, 3) := by decide +kernel
theorem dLw_law_533 : decode cLw_law 533 = .ok (.iconst 1, 1) := by decide +kernel
theorem dLw_law_534 : decode cLw_law 534 = .ok (.goto 4, 3) := by decide +kernel
theorem dLw_law_537 : decode cLw_law 537 = .ok (.iconst 0, 1) := by decide +kernel
theorem dLw_law_538 : decode cLw_law 538 = .ok (.aload_n 3, 1) := by decide +kernel
theorem dLw_law_539 : decode cLw_law 539 = .ok (.invokestatic 119, 3) := by decide +kernel
theorem dLw_law_542 : decode cLw_law 542 = .ok (.istore 5, 2) := by decide +kernel
theorem dLw_law_544 : decode cLw_law 544 = .ok (.aload_n 2, 1) := by decide +kernel
theorem dLw_law_545 : decode cLw_law 545 = .ok (.aload_n 0, 1) := by decide +kernel
theorem dLw_law_546 : decode cLw_law 546 = .ok (.iload 4, 2) := by decide +kernel
theorem dLw_law_548 : decode cLw_law 548 = .ok (.iconst 1, 1) := by decide +kernel
theorem dLw_law_549 : decode cLw_law 549 = .ok (.iadd, 1) := by decide +kernel
theorem dLw_law_550 : decode cLw_law 550 = .ok (.iaload, 1) := by decide +kernel
theorem dLw_law_551 : decode cLw_law 551 = .ok (.aload_n 0, 1) := by decide +kernel
theorem dLw_law_552 : decode cLw_law 552 = .ok (.iload 4, 2) := by decide +kernel
theorem dLw_law_554 : decode cLw_law 554 = .ok (.iconst 2, 1) := by decide +kernel
theorem dLw_law_555 : decode cLw_law 555 = .ok (.iadd, 1) := by decide +kernel
theorem dLw_law_556 : decode cLw_law 556 = .ok (.iaload, 1) := by decide +kernel
theorem dLw_law_557 : decode cLw_law 557 = .ok (.ifCond .eq 7, 3) := by decide +kernel
theorem dLw_law_560 : decode cLw_law 560 = .ok (.iconst 1, 1) := by decide +kernel
theorem dLw_law_561 : decode cLw_law 561 = .ok (.goto 4, 3) := by decide +kernel
theorem dLw_law_564 : decode cLw_law 564 = .ok (.iconst 0, 1) := by decide +kernel
theorem dLw_law_565 : decode cLw_law 565 = .ok (.invokevirtual 122, 3) := by decide +kernel
theorem dLw_law_568 : decode cLw_law 568 = .ok (.istore 6, 2) := by decide +kernel
theorem dLw_law_570 : decode cLw_law 570 = .ok (.goto 184, 3) := by decide +kernel
theorem dLw_law_573 : decode cLw_law 573 = .ok (.aload_n 1, 1) := by decide +kernel
theorem dLw_law_574 : decode cLw_law 574 = .ok (.aload_n 0, 1) := by decide +kernel
theorem dLw_law_575 : decode cLw_law 575 = .ok (.iload 4, 2) := by decide +kernel
theorem dLw_law_577 : decode cLw_law 577 = .ok (.iconst 1, 1) := by decide +kernel
theorem dLw_law_578 : decode cLw_law 578 = .ok (.iadd, 1) := by decide +kernel
theorem dLw_law_579 : decode cLw_law 579 = .ok (.iaload, 1) := by decide +kernel
theorem dLw_law_580 : decode cLw_law 580 = .ok (.invokestatic 123, 3) := by decide +kernel
theorem dLw_law_583 : decode cLw_law 583 = .ok (.istore 5, 2) := by decide +kernel
theorem dLw_law_585 : decode cLw_law 585 = .ok (.aload_n 2, 1) := by decide +kernel
theorem dLw_law_586 : decode cLw_law 586 = .ok (.aload_n 0, 1) := by decide +kernel
theorem dLw_law_587 : decode cLw_law 587 = .ok (.iload 4, 2) := by decide +kernel
theorem dLw_law_589 : decode cLw_law 589 = .ok (.iconst 1, 1) := by decide +kernel
theorem dLw_law_590 : decode cLw_law 590 = .ok (.iadd, 1) := by decide +kernel
theorem dLw_law_591 : decode cLw_law 591 = .ok (.iaload, 1) := by decide +kernel
theorem dLw_law_592 : decode cLw_law 592 = .ok (.invokevirtual 125, 3) := by decide +kernel
theorem dLw_law_595 : decode cLw_law 595 = .ok (.aload_n 2, 1) := by decide +kernel
theorem dLw_law_596 : decode cLw_law 596 = .ok (.invokevirtual 126, 3) := by decide +kernel
theorem dLw_law_599 : decode cLw_law 599 = .ok (.iload 5, 2) := by decide +kernel
theorem dLw_law_601 : decode cLw_law 601 = .ok (.if_icmp .eq 5, 3) := by decide +kernel
theorem dLw_law_604 : decode cLw_law 604 = .ok (.iconst 0, 1) := by decide +kernel
theorem dLw_law_605 : decode cLw_law 605 = .ok (.ireturn, 1) := by decide +kernel
theorem dLw_law_606 : decode cLw_law 606 = .ok (.goto 148, 3) := by decide +kernel
theorem dLw_law_609 : decode cLw_law 609 = .ok (.aload_n 1, 1) := by decide +kernel
theorem dLw_law_610 : decode cLw_law 610 = .ok (.aload_n 0, 1) := by decide +kernel
theorem dLw_law_611 : decode cLw_law 611 = .ok (.iload 4, 2) := by decide +kernel
theorem dLw_law_613 : decode cLw_law 613 = .ok (.iconst 1, 1) := by decide +kernel
theorem dLw_law_614 : decode cLw_law 614 = .ok (.iadd, 1) := by decide +kernel
theorem dLw_law_615 : decode cLw_law 615 = .ok (.iaload, 1) := by decide +kernel
theorem dLw_law_616 : decode cLw_law 616 = .ok (.aload_n 0, 1) := by decide +kernel
theorem dLw_law_617 : decode cLw_law 617 = .ok (.iload 4, 2) := by decide +kernel
theorem dLw_law_619 : decode cLw_law 619 = .ok (.iconst 2, 1) := by decide +kernel
theorem dLw_law_620 : decode cLw_law 620 = .ok (.iadd, 1) := by decide +kernel
theorem dLw_law_621 : decode cLw_law 621 = .ok (.iaload, 1) := by decide +kernel
theorem dLw_law_622 : decode cLw_law 622 = .ok (.aload_n 3, 1) := by decide +kernel
theorem dLw_law_623 : decode cLw_law 623 = .ok (.invokestatic 129, 3) := by decide +kernel
theorem dLw_law_626 : decode cLw_law 626 = .ok (.istore 5, 2) := by decide +kernel
theorem dLw_law_628 : decode cLw_law 628 = .ok (.aload_n 2, 1) := by decide +kernel
theorem dLw_law_629 : decode cLw_law 629 = .ok (.aload_n 0, 1) := by decide +kernel
theorem dLw_law_630 : decode cLw_law 630 = .ok (.iload 4, 2) := by decide +kernel
theorem dLw_law_632 : decode cLw_law 632 = .ok (.iconst 1, 1) := by decide +kernel
theorem dLw_law_633 : decode cLw_law 633 = .ok (.iadd, 1) := by decide +kernel
theorem dLw_law_634 : decode cLw_law 634 = .ok (.iaload, 1) := by decide +kernel
theorem dLw_law_635 : decode cLw_law 635 = .ok (.aload_n 0, 1) := by decide +kernel
theorem dLw_law_636 : decode cLw_law 636 = .ok (.iload 4, 2) := by decide +kernel
theorem dLw_law_638 : decode cLw_law 638 = .ok (.iconst 2, 1) := by decide +kernel
theorem dLw_law_639 : decode cLw_law 639 = .ok (.iadd, 1) := by decide +kernel
theorem dLw_law_640 : decode cLw_law 640 = .ok (.iaload, 1) := by decide +kernel
theorem dLw_law_641 : decode cLw_law 641 = .ok (.invokevirtual 131, 3) := by decide +kernel
theorem dLw_law_644 : decode cLw_law 644 = .ok (.istore 6, 2) := by decide +kernel
theorem dLw_law_646 : decode cLw_law 646 = .ok (.goto 108, 3) := by decide +kernel
theorem dLw_law_649 : decode cLw_law 649 = .ok (.aload_n 1, 1) := by decide +kernel
theorem dLw_law_650 : decode cLw_law 650 = .ok (.aload_n 0, 1) := by decide +kernel
theorem dLw_law_651 : decode cLw_law 651 = .ok (.iload 4, 2) := by decide +kernel
theorem dLw_law_653 : decode cLw_law 653 = .ok (.iconst 1, 1) := by decide +kernel
theorem dLw_law_654 : decode cLw_law 654 = .ok (.iadd, 1) := by decide +kernel
theorem dLw_law_655 : decode cLw_law 655 = .ok (.iaload, 1) := by decide +kernel
theorem dLw_law_656 : decode cLw_law 656 = .ok (.aload_n 0, 1) := by decide +kernel
theorem dLw_law_657 : decode cLw_law 657 = .ok (.iload 4, 2) := by decide +kernel
theorem dLw_law_659 : decode cLw_law 659 = .ok (.iconst 2, 1) := by decide +kernel
theorem dLw_law_660 : decode cLw_law 660 = .ok (.iadd, 1) := by decide +kernel
theorem dLw_law_661 : decode cLw_law 661 = .ok (.iaload, 1) := by decide +kernel
theorem dLw_law_662 : decode cLw_law 662 = .ok (.aload_n 3, 1) := by decide +kernel
theorem dLw_law_663 : decode cLw_law 663 = .ok (.invokestatic 132, 3) := by decide +kernel
theorem dLw_law_666 : decode cLw_law 666 = .ok (.istore 5, 2) := by decide +kernel
theorem dLw_law_668 : decode cLw_law 668 = .ok (.aload_n 2, 1) := by decide +kernel
theorem dLw_law_669 : decode cLw_law 669 = .ok (.aload_n 0, 1) := by decide +kernel
theorem dLw_law_670 : decode cLw_law 670 = .ok (.iload 4, 2) := by decide +kernel
theorem dLw_law_672 : decode cLw_law 672 = .ok (.iconst 1, 1) := by decide +kernel
theorem dLw_law_673 : decode cLw_law 673 = .ok (.iadd, 1) := by decide +kernel
theorem dLw_law_674 : decode cLw_law 674 = .ok (.iaload, 1) := by decide +kernel
theorem dLw_law_675 : decode cLw_law 675 = .ok (.aload_n 0, 1) := by decide +kernel
theorem dLw_law_676 : decode cLw_law 676 = .ok (.iload 4, 2) := by decide +kernel
theorem dLw_law_678 : decode cLw_law 678 = .ok (.iconst 2, 1) := by decide +kernel
theorem dLw_law_679 : decode cLw_law 679 = .ok (.iadd, 1) := by decide +kernel
theorem dLw_law_680 : decode cLw_law 680 = .ok (.iaload, 1) := by decide +kernel
theorem dLw_law_681 : decode cLw_law 681 = .ok (.invokevirtual 134, 3) := by decide +kernel
theorem dLw_law_684 : decode cLw_law 684 = .ok (.istore 6, 2) := by decide +kernel
theorem dLw_law_686 : decode cLw_law 686 = .ok (.goto 68, 3) := by decide +kernel
theorem dLw_law_689 : decode cLw_law 689 = .ok (.aload_n 1, 1) := by decide +kernel
theorem dLw_law_690 : decode cLw_law 690 = .ok (.aload_n 0, 1) := by decide +kernel
theorem dLw_law_691 : decode cLw_law 691 = .ok (.iload 4, 2) := by decide +kernel
theorem dLw_law_693 : decode cLw_law 693 = .ok (.iconst 1, 1) := by decide +kernel
theorem dLw_law_694 : decode cLw_law 694 = .ok (.iadd, 1) := by decide +kernel
theorem dLw_law_695 : decode cLw_law 695 = .ok (.iaload, 1) := by decide +kernel
theorem dLw_law_696 : decode cLw_law 696 = .ok (.aload_n 0, 1) := by decide +kernel
theorem dLw_law_697 : decode cLw_law 697 = .ok (.iload 4, 2) := by decide +kernel
theorem dLw_law_699 : decode cLw_law 699 = .ok (.iconst 2, 1) := by decide +kernel
theorem dLw_law_700 : decode cLw_law 700 = .ok (.iadd, 1) := by decide +kernel
theorem dLw_law_701 : decode cLw_law 701 = .ok (.iaload, 1) := by decide +kernel
theorem dLw_law_702 : decode cLw_law 702 = .ok (.aload_n 3, 1) := by decide +kernel
theorem dLw_law_703 : decode cLw_law 703 = .ok (.invokestatic 135, 3) := by decide +kernel
theorem dLw_law_706 : decode cLw_law 706 = .ok (.istore 5, 2) := by decide +kernel
theorem dLw_law_708 : decode cLw_law 708 = .ok (.aload_n 2, 1) := by decide +kernel
theorem dLw_law_709 : decode cLw_law 709 = .ok (.aload_n 0, 1) := by decide +kernel
theorem dLw_law_710 : decode cLw_law 710 = .ok (.iload 4, 2) := by decide +kernel
theorem dLw_law_712 : decode cLw_law 712 = .ok (.iconst 1, 1) := by decide +kernel
theorem dLw_law_713 : decode cLw_law 713 = .ok (.iadd, 1) := by decide +kernel
theorem dLw_law_714 : decode cLw_law 714 = .ok (.iaload, 1) := by decide +kernel
theorem dLw_law_715 : decode cLw_law 715 = .ok (.aload_n 0, 1) := by decide +kernel
theorem dLw_law_716 : decode cLw_law 716 = .ok (.iload 4, 2) := by decide +kernel
theorem dLw_law_718 : decode cLw_law 718 = .ok (.iconst 2, 1) := by decide +kernel
theorem dLw_law_719 : decode cLw_law 719 = .ok (.iadd, 1) := by decide +kernel
theorem dLw_law_720 : decode cLw_law 720 = .ok (.iaload, 1) := by decide +kernel
theorem dLw_law_721 : decode cLw_law 721 = .ok (.invokevirtual 137, 3) := by decide +kernel
theorem dLw_law_724 : decode cLw_law 724 = .ok (.istore 6, 2) := by decide +kernel
theorem dLw_law_726 : decode cLw_law 726 = .ok (.goto 28, 3) := by decide +kernel
theorem dLw_law_729 : decode cLw_law 729 = .ok (.aload_n 1, 1) := by decide +kernel
theorem dLw_law_730 : decode cLw_law 730 = .ok (.aload_n 0, 1) := by decide +kernel
theorem dLw_law_731 : decode cLw_law 731 = .ok (.iload 4, 2) := by decide +kernel
theorem dLw_law_733 : decode cLw_law 733 = .ok (.iconst 1, 1) := by decide +kernel
theorem dLw_law_734 : decode cLw_law 734 = .ok (.iadd, 1) := by decide +kernel
theorem dLw_law_735 : decode cLw_law 735 = .ok (.iaload, 1) := by decide +kernel
theorem dLw_law_736 : decode cLw_law 736 = .ok (.invokevirtual 138, 3) := by decide +kernel
theorem dLw_law_739 : decode cLw_law 739 = .ok (.pop, 1) := by decide +kernel
theorem dLw_law_740 : decode cLw_law 740 = .ok (.aload_n 2, 1) := by decide +kernel
theorem dLw_law_741 : decode cLw_law 741 = .ok (.aload_n 0, 1) := by decide +kernel
theorem dLw_law_742 : decode cLw_law 742 = .ok (.iload 4, 2) := by decide +kernel
theorem dLw_law_744 : decode cLw_law 744 = .ok (.iconst 1, 1) := by decide +kernel
theorem dLw_law_745 : decode cLw_law 745 = .ok (.iadd, 1) := by decide +kernel
theorem dLw_law_746 : decode cLw_law 746 = .ok (.iaload, 1) := by decide +kernel
theorem dLw_law_747 : decode cLw_law 747 = .ok (.invokevirtual 141, 3) := by decide +kernel
theorem dLw_law_750 : decode cLw_law 750 = .ok (.pop, 1) := by decide +kernel
theorem dLw_law_751 : decode cLw_law 751 = .ok (.goto 3, 3) := by decide +kernel
theorem dLw_law_754 : decode cLw_law 754 = .ok (.iinc 4 5, 3) := by decide +kernel
theorem dLw_law_757 : decode cLw_law 757 = .ok (.goto (-734), 3) := by decide +kernel
theorem dLw_law_760 : decode cLw_law 760 = .ok (.iconst 1, 1) := by decide +kernel
theorem dLw_law_761 : decode cLw_law 761 = .ok (.ireturn, 1) := by decide +kernel
