abbrev cBk_init : ByteArray := prog_1_method_1_code
abbrev mBk_init : MD := (⟨"DockBook", "<init>", "()V"⟩, cBk_init, 2, none, [])
theorem dBk_init_0 : decode cBk_init 0 = .ok (.aload_n 0, 1) := by decide +kernel
theorem dBk_init_1 : decode cBk_init 1 = .ok (.invokespecial 3, 3) := by decide +kernel
theorem dBk_init_4 : decode cBk_init 4 = .ok (.aload_n 0, 1) := by decide +kernel
theorem dBk_init_5 : decode cBk_init 5 = .ok (.iconst 4, 1) := by decide +kernel
theorem dBk_init_6 : decode cBk_init 6 = .ok (.anewarray 9, 3) := by decide +kernel
theorem dBk_init_9 : decode cBk_init 9 = .ok (.putfield 11, 3) := by decide +kernel
theorem dBk_init_12 : decode cBk_init 12 = .ok (.aload_n 0, 1) := by decide +kernel
theorem dBk_init_13 : decode cBk_init 13 = .ok (.bipush 12, 2) := by decide +kernel
theorem dBk_init_15 : decode cBk_init 15 = .ok (.anewarray 15, 3) := by decide +kernel
theorem dBk_init_18 : decode cBk_init 18 = .ok (.putfield 17, 3) := by decide +kernel
theorem dBk_init_21 : decode cBk_init 21 = .ok (.aload_n 0, 1) := by decide +kernel
theorem dBk_init_22 : decode cBk_init 22 = .ok (.bipush 12, 2) := by decide +kernel
theorem dBk_init_24 : decode cBk_init 24 = .ok (.anewarray 15, 3) := by decide +kernel
theorem dBk_init_27 : decode cBk_init 27 = .ok (.putfield 21, 3) := by decide +kernel
theorem dBk_init_30 : decode cBk_init 30 = .ok (.aload_n 0, 1) := by decide +kernel
theorem dBk_init_31 : decode cBk_init 31 = .ok (.new 24, 3) := by decide +kernel
theorem dBk_init_34 : decode cBk_init 34 = .ok (.dup, 1) := by decide +kernel
theorem dBk_init_35 : decode cBk_init 35 = .ok (.invokespecial 26, 3) := by decide +kernel
theorem dBk_init_38 : decode cBk_init 38 = .ok (.putfield 27, 3) := by decide +kernel
theorem dBk_init_41 : decode cBk_init 41 = .ok (.aload_n 0, 1) := by decide +kernel
theorem dBk_init_42 : decode cBk_init 42 = .ok (.iconst 0, 1) := by decide +kernel
theorem dBk_init_43 : decode cBk_init 43 = .ok (.putfield 31, 3) := by decide +kernel
theorem dBk_init_46 : decode cBk_init 46 = .ok (.aload_n 0, 1) := by decide +kernel
theorem dBk_init_47 : decode cBk_init 47 = .ok (.iconst 0, 1) := by decide +kernel
theorem dBk_init_48 : decode cBk_init 48 = .ok (.putfield 35, 3) := by decide +kernel
theorem dBk_init_51 : decode cBk_init 51 = .ok (.aload_n 0, 1) := by decide +kernel
theorem dBk_init_52 : decode cBk_init 52 = .ok (.iconst 0, 1) := by decide +kernel
theorem dBk_init_53 : decode cBk_init 53 = .ok (.putfield 38, 3) := by decide +kernel
theorem dBk_init_56 : decode cBk_init 56 = .ok (.aload_n 0, 1) := by decide +kernel
theorem dBk_init_57 : decode cBk_init 57 = .ok (.iconst 0, 1) := by decide +kernel
theorem dBk_init_58 : decode cBk_init 58 = .ok (.putfield 41, 3) := by decide +kernel
theorem dBk_init_61 : decode cBk_init 61 = .ok (.aload_n 0, 1) := by decide +kernel
theorem dBk_init_62 : decode cBk_init 62 = .ok (.iconst 0, 1) := by decide +kernel
theorem dBk_init_63 : decode cBk_init 63 = .ok (.putfield 45, 3) := by decide +kernel
theorem dBk_init_66 : decode cBk_init 66 = .ok (.iconst 0, 1) := by decide +kernel
theorem dBk_init_67 : decode cBk_init 67 = .ok (.istore_n 1, 1) := by decide +kernel
theorem dBk_init_68 : decode cBk_init 68 = .ok (.iload_n 1, 1) := by decide +kernel
theorem dBk_init_69 : decode cBk_init 69 = .ok (.iconst 4, 1) := by decide +kernel
theorem dBk_init_70 : decode cBk_init 70 = .ok (.if_icmp .ge 22, 3) := by decide +kernel
theorem dBk_init_73 : decode cBk_init 73 = .ok (.aload_n 0, 1) := by decide +kernel
theorem dBk_init_74 : decode cBk_init 74 = .ok (.getfield 11, 3) := by decide +kernel
theorem dBk_init_77 : decode cBk_init 77 = .ok (.iload_n 1, 1) := by decide +kernel
theorem dBk_init_78 : decode cBk_init 78 = .ok (.new 9, 3) := by decide +kernel
theorem dBk_init_81 : decode cBk_init 81 = .ok (.dup, 1) := by decide +kernel
theorem dBk_init_82 : decode cBk_init 82 = .ok (.invokespecial 48, 3) := by decide +kernel
theorem dBk_init_85 : decode cBk_init 85 = .ok (.aastore, 1) := by decide +kernel
theorem dBk_init_86 : decode cBk_init 86 = .ok (.iinc 1 1, 3) := by decide +kernel
theorem dBk_init_89 : decode cBk_init 89 = .ok (.goto (-21), 3) := by decide +kernel
theorem dBk_init_92 : decode cBk_init 92 = .ok (.iconst 0, 1) := by decide +kernel
theorem dBk_init_93 : decode cBk_init 93 = .ok (.istore_n 1, 1) := by decide +kernel
theorem dBk_init_94 : decode cBk_init 94 = .ok (.iload_n 1, 1) := by decide +kernel
theorem dBk_init_95 : decode cBk_init 95 = .ok (.bipush 12, 2) := by decide +kernel
theorem dBk_init_97 : decode cBk_init 97 = .ok (.if_icmp .ge 35, 3) := by decide +kernel
theorem dBk_init_100 : decode cBk_init 100 = .ok (.aload_n 0, 1) := by decide +kernel
theorem dBk_init_101 : decode cBk_init 101 = .ok (.getfield 17, 3) := by decide +kernel
theorem dBk_init_104 : decode cBk_init 104 = .ok (.iload_n 1, 1) := by decide +kernel
theorem dBk_init_105 : decode cBk_init 105 = .ok (.new 15, 3) := by decide +kernel
theorem dBk_init_108 : decode cBk_init 108 = .ok (.dup, 1) := by decide +kernel
theorem dBk_init_109 : decode cBk_init 109 = .ok (.iload_n 1, 1) := by decide +kernel
theorem dBk_init_110 : decode cBk_init 110 = .ok (.invokespecial 49, 3) := by decide +kernel
theorem dBk_init_113 : decode cBk_init 113 = .ok (.aastore, 1) := by decide +kernel
theorem dBk_init_114 : decode cBk_init 114 = .ok (.aload_n 0, 1) := by decide +kernel
theorem dBk_init_115 : decode cBk_init 115 = .ok (.getfield 21, 3) := by decide +kernel
theorem dBk_init_118 : decode cBk_init 118 = .ok (.iload_n 1, 1) := by decide +kernel
theorem dBk_init_119 : decode cBk_init 119 = .ok (.aload_n 0, 1) := by decide +kernel
theorem dBk_init_120 : decode cBk_init 120 = .ok (.getfield 17, 3) := by decide +kernel
theorem dBk_init_123 : decode cBk_init 123 = .ok (.iload_n 1, 1) := by decide +kernel
theorem dBk_init_124 : decode cBk_init 124 = .ok (.aaload, 1) := by decide +kernel
theorem dBk_init_125 : decode cBk_init 125 = .ok (.aastore, 1) := by decide +kernel
theorem dBk_init_126 : decode cBk_init 126 = .ok (.iinc 1 1, 3) := by decide +kernel
theorem dBk_init_129 : decode cBk_init 129 = .ok (.goto (-35), 3) := by decide +kernel
theorem dBk_init_132 : decode cBk_init 132 = .ok (.return_, 1) := by decide +kernel
abbrev cBk_door : ByteArray := prog_1_method_2_code
abbrev mBk_door : MD := (⟨"DockBook", "door", "(III)I"⟩, cBk_door, 5, some (.int), [])
theorem dBk_door_0 : decode cBk_door 0 = .ok (.iload_n 1, 1) := by decide +kernel
theorem dBk_door_1 : decode cBk_door 1 = .ok (.iconst 1, 1) := by decide +kernel
theorem dBk_door_2 : decode cBk_door 2 = .ok (.sipush 255, 3) := by decide +kernel
theorem dBk_door_5 : decode cBk_door 5 = .ok (.invokestatic 52, 3) := by decide +kernel
theorem dBk_door_8 : decode cBk_door 8 = .ok (.iload_n 2, 1) := by decide +kernel
theorem dBk_door_9 : decode cBk_door 9 = .ok (.iconst 0, 1) := by decide +kernel
theorem dBk_door_10 : decode cBk_door 10 = .ok (.sipush 2000, 3) := by decide +kernel
theorem dBk_door_13 : decode cBk_door 13 = .ok (.invokestatic 52, 3) := by decide +kernel
theorem dBk_door_16 : decode cBk_door 16 = .ok (.iload_n 3, 1) := by decide +kernel
theorem dBk_door_17 : decode cBk_door 17 = .ok (.iload_n 2, 1) := by decide +kernel
theorem dBk_door_18 : decode cBk_door 18 = .ok (.iconst 1, 1) := by decide +kernel
theorem dBk_door_19 : decode cBk_door 19 = .ok (.iadd, 1) := by decide +kernel
theorem dBk_door_20 : decode cBk_door 20 = .ok (.sipush 2000, 3) := by decide +kernel
theorem dBk_door_23 : decode cBk_door 23 = .ok (.invokestatic 52, 3) := by decide +kernel
theorem dBk_door_26 : decode cBk_door 26 = .ok (.aload_n 0, 1) := by decide +kernel
theorem dBk_door_27 : decode cBk_door 27 = .ok (.getfield 31, 3) := by decide +kernel
theorem dBk_door_30 : decode cBk_door 30 = .ok (.iconst 4, 1) := by decide +kernel
theorem dBk_door_31 : decode cBk_door 31 = .ok (.if_icmp .lt 13, 3) := by decide +kernel
theorem dBk_door_34 : decode cBk_door 34 = .ok (.new 56, 3) := by decide +kernel
theorem dBk_door_37 : decode cBk_door 37 = .ok (.dup, 1) := by decide +kernel
theorem dBk_door_38 : decode cBk_door 38 = .ok (.ldc 58, 2) := by decide +kernel
theorem dBk_door_40 : decode cBk_door 40 = .ok (.invokespecial 60, 3) := by decide +kernel
theorem dBk_door_43 : decode cBk_door 43 = .ok (.athrow, 1) := by decide +kernel
theorem dBk_door_44 : decode cBk_door 44 = .ok (.aload_n 0, 1) := by decide +kernel
theorem dBk_door_45 : decode cBk_door 45 = .ok (.getfield 11, 3) := by decide +kernel
theorem dBk_door_48 : decode cBk_door 48 = .ok (.aload_n 0, 1) := by decide +kernel
theorem dBk_door_49 : decode cBk_door 49 = .ok (.getfield 31, 3) := by decide +kernel
theorem dBk_door_52 : decode cBk_door 52 = .ok (.aaload, 1) := by decide +kernel
theorem dBk_door_53 : decode cBk_door 53 = .ok (.astore 4, 2) := by decide +kernel
theorem dBk_door_55 : decode cBk_door 55 = .ok (.aload 4, 2) := by decide +kernel
theorem dBk_door_57 : decode cBk_door 57 = .ok (.iload_n 1, 1) := by decide +kernel
theorem dBk_door_58 : decode cBk_door 58 = .ok (.putfield 63, 3) := by decide +kernel
theorem dBk_door_61 : decode cBk_door 61 = .ok (.aload 4, 2) := by decide +kernel
theorem dBk_door_63 : decode cBk_door 63 = .ok (.iload_n 2, 1) := by decide +kernel
theorem dBk_door_64 : decode cBk_door 64 = .ok (.putfield 66, 3) := by decide +kernel
theorem dBk_door_67 : decode cBk_door 67 = .ok (.aload 4, 2) := by decide +kernel
theorem dBk_door_69 : decode cBk_door 69 = .ok (.iload_n 3, 1) := by decide +kernel
theorem dBk_door_70 : decode cBk_door 70 = .ok (.putfield 69, 3) := by decide +kernel
theorem dBk_door_73 : decode cBk_door 73 = .ok (.aload_n 0, 1) := by decide +kernel
theorem dBk_door_74 : decode cBk_door 74 = .ok (.dup, 1) := by decide +kernel
theorem dBk_door_75 : decode cBk_door 75 = .ok (.getfield 31, 3) := by decide +kernel
theorem dBk_door_78 : decode cBk_door 78 = .ok (.iconst 1, 1) := by decide +kernel
theorem dBk_door_79 : decode cBk_door 79 = .ok (.iadd, 1) := by decide +kernel
theorem dBk_door_80 : decode cBk_door 80 = .ok (.putfield 31, 3) := by decide +kernel
theorem dBk_door_83 : decode cBk_door 83 = .ok (.aload_n 0, 1) := by decide +kernel
theorem dBk_door_84 : decode cBk_door 84 = .ok (.getfield 31, 3) := by decide +kernel
theorem dBk_door_87 : decode cBk_door 87 = .ok (.iconst 1, 1) := by decide +kernel
theorem dBk_door_88 : decode cBk_door 88 = .ok (.isub, 1) := by decide +kernel
theorem dBk_door_89 : decode cBk_door 89 = .ok (.ireturn, 1) := by decide +kernel
abbrev cBk_truck : ByteArray := prog_1_method_3_code
abbrev mBk_truck : MD := (⟨"DockBook", "truck", "(IIII)I"⟩, cBk_truck, 6, some (.int), [])
theorem dBk_truck_0 : decode cBk_truck 0 = .ok (.iload_n 1, 1) := by decide +kernel
theorem dBk_truck_1 : decode cBk_truck 1 = .ok (.iconst 0, 1) := by decide +kernel
theorem dBk_truck_2 : decode cBk_truck 2 = .ok (.bipush 7, 2) := by decide +kernel
theorem dBk_truck_4 : decode cBk_truck 4 = .ok (.invokestatic 52, 3) := by decide +kernel
theorem dBk_truck_7 : decode cBk_truck 7 = .ok (.iload_n 2, 1) := by decide +kernel
theorem dBk_truck_8 : decode cBk_truck 8 = .ok (.iconst 0, 1) := by decide +kernel
theorem dBk_truck_9 : decode cBk_truck 9 = .ok (.sipush 2000, 3) := by decide +kernel
theorem dBk_truck_12 : decode cBk_truck 12 = .ok (.invokestatic 52, 3) := by decide +kernel
theorem dBk_truck_15 : decode cBk_truck 15 = .ok (.iload_n 3, 1) := by decide +kernel
theorem dBk_truck_16 : decode cBk_truck 16 = .ok (.iconst 1, 1) := by decide +kernel
theorem dBk_truck_17 : decode cBk_truck 17 = .ok (.sipush 300, 3) := by decide +kernel
theorem dBk_truck_20 : decode cBk_truck 20 = .ok (.invokestatic 52, 3) := by decide +kernel
theorem dBk_truck_23 : decode cBk_truck 23 = .ok (.iload 4, 2) := by decide +kernel
theorem dBk_truck_25 : decode cBk_truck 25 = .ok (.iconst 1, 1) := by decide +kernel
theorem dBk_truck_26 : decode cBk_truck 26 = .ok (.bipush 9, 2) := by decide +kernel
theorem dBk_truck_28 : decode cBk_truck 28 = .ok (.invokestatic 52, 3) := by decide +kernel
theorem dBk_truck_31 : decode cBk_truck 31 = .ok (.aload_n 0, 1) := by decide +kernel
theorem dBk_truck_32 : decode cBk_truck 32 = .ok (.getfield 35, 3) := by decide +kernel
theorem dBk_truck_35 : decode cBk_truck 35 = .ok (.bipush 12, 2) := by decide +kernel
theorem dBk_truck_37 : decode cBk_truck 37 = .ok (.if_icmp .lt 13, 3) := by decide +kernel
theorem dBk_truck_40 : decode cBk_truck 40 = .ok (.new 56, 3) := by decide +kernel
theorem dBk_truck_43 : decode cBk_truck 43 = .ok (.dup, 1) := by decide +kernel
theorem dBk_truck_44 : decode cBk_truck 44 = .ok (.ldc 72, 2) := by decide +kernel
theorem dBk_truck_46 : decode cBk_truck 46 = .ok (.invokespecial 60, 3) := by decide +kernel
theorem dBk_truck_49 : decode cBk_truck 49 = .ok (.athrow, 1) := by decide +kernel
theorem dBk_truck_50 : decode cBk_truck 50 = .ok (.aload_n 0, 1) := by decide +kernel
theorem dBk_truck_51 : decode cBk_truck 51 = .ok (.getfield 17, 3) := by decide +kernel
theorem dBk_truck_54 : decode cBk_truck 54 = .ok (.aload_n 0, 1) := by decide +kernel
theorem dBk_truck_55 : decode cBk_truck 55 = .ok (.getfield 35, 3) := by decide +kernel
theorem dBk_truck_58 : decode cBk_truck 58 = .ok (.aaload, 1) := by decide +kernel
theorem dBk_truck_59 : decode cBk_truck 59 = .ok (.astore 5, 2) := by decide +kernel
theorem dBk_truck_61 : decode cBk_truck 61 = .ok (.aload 5, 2) := by decide +kernel
theorem dBk_truck_63 : decode cBk_truck 63 = .ok (.iload_n 1, 1) := by decide +kernel
theorem dBk_truck_64 : decode cBk_truck 64 = .ok (.putfield 74, 3) := by decide +kernel
theorem dBk_truck_67 : decode cBk_truck 67 = .ok (.aload 5, 2) := by decide +kernel
theorem dBk_truck_69 : decode cBk_truck 69 = .ok (.iload_n 2, 1) := by decide +kernel
theorem dBk_truck_70 : decode cBk_truck 70 = .ok (.putfield 77, 3) := by decide +kernel
theorem dBk_truck_73 : decode cBk_truck 73 = .ok (.aload 5, 2) := by decide +kernel
theorem dBk_truck_75 : decode cBk_truck 75 = .ok (.iload_n 3, 1) := by decide +kernel
theorem dBk_truck_76 : decode cBk_truck 76 = .ok (.putfield 80, 3) := by decide +kernel
theorem dBk_truck_79 : decode cBk_truck 79 = .ok (.aload 5, 2) := by decide +kernel
theorem dBk_truck_81 : decode cBk_truck 81 = .ok (.iload 4, 2) := by decide +kernel
theorem dBk_truck_83 : decode cBk_truck 83 = .ok (.putfield 83, 3) := by decide +kernel
theorem dBk_truck_86 : decode cBk_truck 86 = .ok (.aload_n 0, 1) := by decide +kernel
theorem dBk_truck_87 : decode cBk_truck 87 = .ok (.dup, 1) := by decide +kernel
theorem dBk_truck_88 : decode cBk_truck 88 = .ok (.getfield 35, 3) := by decide +kernel
theorem dBk_truck_91 : decode cBk_truck 91 = .ok (.iconst 1, 1) := by decide +kernel
theorem dBk_truck_92 : decode cBk_truck 92 = .ok (.iadd, 1) := by decide +kernel
theorem dBk_truck_93 : decode cBk_truck 93 = .ok (.putfield 35, 3) := by decide +kernel
theorem dBk_truck_96 : decode cBk_truck 96 = .ok (.aload_n 0, 1) := by decide +kernel
theorem dBk_truck_97 : decode cBk_truck 97 = .ok (.getfield 35, 3) := by decide +kernel
theorem dBk_truck_100 : decode cBk_truck 100 = .ok (.iconst 1, 1) := by decide +kernel
theorem dBk_truck_101 : decode cBk_truck 101 = .ok (.isub, 1) := by decide +kernel
theorem dBk_truck_102 : decode cBk_truck 102 = .ok (.ireturn, 1) := by decide +kernel
abbrev cBk_assign : ByteArray := prog_1_method_4_code
abbrev mBk_assign : MD := (⟨"DockBook", "assign", "(I)I"⟩, cBk_assign, 4, some (.int), [])
theorem dBk_assign_0 : decode cBk_assign 0 = .ok (.iload_n 1, 1) := by decide +kernel
theorem dBk_assign_1 : decode cBk_assign 1 = .ok (.iconst 0, 1) := by decide +kernel
theorem dBk_assign_2 : decode cBk_assign 2 = .ok (.iconst 5, 1) := by decide +kernel
theorem dBk_assign_3 : decode cBk_assign 3 = .ok (.invokestatic 52, 3) := by decide +kernel
theorem dBk_assign_6 : decode cBk_assign 6 = .ok (.aload_n 0, 1) := by decide +kernel
theorem dBk_assign_7 : decode cBk_assign 7 = .ok (.invokevirtual 86, 3) := by decide +kernel
theorem dBk_assign_10 : decode cBk_assign 10 = .ok (.istore_n 2, 1) := by decide +kernel
theorem dBk_assign_11 : decode cBk_assign 11 = .ok (.iconst 0, 1) := by decide +kernel
theorem dBk_assign_12 : decode cBk_assign 12 = .ok (.istore_n 3, 1) := by decide +kernel
theorem dBk_assign_13 : decode cBk_assign 13 = .ok (.iload_n 3, 1) := by decide +kernel
theorem dBk_assign_14 : decode cBk_assign 14 = .ok (.iload_n 2, 1) := by decide +kernel
theorem dBk_assign_15 : decode cBk_assign 15 = .ok (.if_icmp .ge 18, 3) := by decide +kernel
theorem dBk_assign_18 : decode cBk_assign 18 = .ok (.aload_n 0, 1) := by decide +kernel
theorem dBk_assign_19 : decode cBk_assign 19 = .ok (.getfield 21, 3) := by decide +kernel
theorem dBk_assign_22 : decode cBk_assign 22 = .ok (.iload_n 3, 1) := by decide +kernel
theorem dBk_assign_23 : decode cBk_assign 23 = .ok (.aaload, 1) := by decide +kernel
theorem dBk_assign_24 : decode cBk_assign 24 = .ok (.invokevirtual 90, 3) := by decide +kernel
theorem dBk_assign_27 : decode cBk_assign 27 = .ok (.iinc 3 1, 3) := by decide +kernel
theorem dBk_assign_30 : decode cBk_assign 30 = .ok (.goto (-17), 3) := by decide +kernel
theorem dBk_assign_33 : decode cBk_assign 33 = .ok (.aload_n 0, 1) := by decide +kernel
theorem dBk_assign_34 : decode cBk_assign 34 = .ok (.iload_n 2, 1) := by decide +kernel
theorem dBk_assign_35 : decode cBk_assign 35 = .ok (.iload_n 1, 1) := by decide +kernel
theorem dBk_assign_36 : decode cBk_assign 36 = .ok (.if_icmp .gt 7, 3) := by decide +kernel
theorem dBk_assign_39 : decode cBk_assign 39 = .ok (.iconst 1, 1) := by decide +kernel
theorem dBk_assign_40 : decode cBk_assign 40 = .ok (.goto 4, 3) := by decide +kernel
theorem dBk_assign_43 : decode cBk_assign 43 = .ok (.iconst 0, 1) := by decide +kernel
theorem dBk_assign_44 : decode cBk_assign 44 = .ok (.putfield 41, 3) := by decide +kernel
theorem dBk_assign_47 : decode cBk_assign 47 = .ok (.aload_n 0, 1) := by decide +kernel
theorem dBk_assign_48 : decode cBk_assign 48 = .ok (.getfield 41, 3) := by decide +kernel
theorem dBk_assign_51 : decode cBk_assign 51 = .ok (.ifCond .eq 30, 3) := by decide +kernel
theorem dBk_assign_54 : decode cBk_assign 54 = .ok (.aload_n 0, 1) := by decide +kernel
theorem dBk_assign_55 : decode cBk_assign 55 = .ok (.getfield 27, 3) := by decide +kernel
theorem dBk_assign_58 : decode cBk_assign 58 = .ok (.aload_n 0, 1) := by decide +kernel
theorem dBk_assign_59 : decode cBk_assign 59 = .ok (.getfield 11, 3) := by decide +kernel
theorem dBk_assign_62 : decode cBk_assign 62 = .ok (.aload_n 0, 1) := by decide +kernel
theorem dBk_assign_63 : decode cBk_assign 63 = .ok (.getfield 31, 3) := by decide +kernel
theorem dBk_assign_66 : decode cBk_assign 66 = .ok (.aload_n 0, 1) := by decide +kernel
theorem dBk_assign_67 : decode cBk_assign 67 = .ok (.getfield 21, 3) := by decide +kernel
theorem dBk_assign_70 : decode cBk_assign 70 = .ok (.iload_n 2, 1) := by decide +kernel
theorem dBk_assign_71 : decode cBk_assign 71 = .ok (.aload_n 0, 1) := by decide +kernel
theorem dBk_assign_72 : decode cBk_assign 72 = .ok (.getfield 38, 3) := by decide +kernel
theorem dBk_assign_75 : decode cBk_assign 75 = .ok (.invokevirtual 93, 3) := by decide +kernel
theorem dBk_assign_78 : decode cBk_assign 78 = .ok (.goto 8, 3) := by decide +kernel
theorem dBk_assign_81 : decode cBk_assign 81 = .ok (.aload_n 0, 1) := by decide +kernel
theorem dBk_assign_82 : decode cBk_assign 82 = .ok (.iload_n 2, 1) := by decide +kernel
theorem dBk_assign_83 : decode cBk_assign 83 = .ok (.invokevirtual 97, 3) := by decide +kernel
theorem dBk_assign_86 : decode cBk_assign 86 = .ok (.aload_n 0, 1) := by decide +kernel
theorem dBk_assign_87 : decode cBk_assign 87 = .ok (.iconst 0, 1) := by decide +kernel
theorem dBk_assign_88 : decode cBk_assign 88 = .ok (.putfield 45, 3) := by decide +kernel
theorem dBk_assign_91 : decode cBk_assign 91 = .ok (.iconst 0, 1) := by decide +kernel
theorem dBk_assign_92 : decode cBk_assign 92 = .ok (.istore_n 3, 1) := by decide +kernel
theorem dBk_assign_93 : decode cBk_assign 93 = .ok (.iload_n 3, 1) := by decide +kernel
theorem dBk_assign_94 : decode cBk_assign 94 = .ok (.iload_n 2, 1) := by decide +kernel
theorem dBk_assign_95 : decode cBk_assign 95 = .ok (.if_icmp .ge 35, 3) := by decide +kernel
theorem dBk_assign_98 : decode cBk_assign 98 = .ok (.aload_n 0, 1) := by decide +kernel
theorem dBk_assign_99 : decode cBk_assign 99 = .ok (.dup, 1) := by decide +kernel
theorem dBk_assign_100 : decode cBk_assign 100 = .ok (.getfield 45, 3) := by decide +kernel
theorem dBk_assign_103 : decode cBk_assign 103 = .ok (.aload_n 0, 1) := by decide +kernel
theorem dBk_assign_104 : decode cBk_assign 104 = .ok (.getfield 21, 3) := by decide +kernel
theorem dBk_assign_107 : decode cBk_assign 107 = .ok (.iload_n 3, 1) := by decide +kernel
theorem dBk_assign_108 : decode cBk_assign 108 = .ok (.aaload, 1) := by decide +kernel
theorem dBk_assign_109 : decode cBk_assign 109 = .ok (.invokevirtual 100, 3) := by decide +kernel
theorem dBk_assign_112 : decode cBk_assign 112 = .ok (.ifCond .eq 7, 3) := by decide +kernel
theorem dBk_assign_115 : decode cBk_assign 115 = .ok (.iconst 1, 1) := by decide +kernel
theorem dBk_assign_116 : decode cBk_assign 116 = .ok (.goto 4, 3) := by decide +kernel
theorem dBk_assign_119 : decode cBk_assign 119 = .ok (.iconst 0, 1) := by decide +kernel
theorem dBk_assign_120 : decode cBk_assign 120 = .ok (.iadd, 1) := by decide +kernel
theorem dBk_assign_121 : decode cBk_assign 121 = .ok (.putfield 45, 3) := by decide +kernel
theorem dBk_assign_124 : decode cBk_assign 124 = .ok (.iinc 3 1, 3) := by decide +kernel
theorem dBk_assign_127 : decode cBk_assign 127 = .ok (.goto (-34), 3) := by decide +kernel
theorem dBk_assign_130 : decode cBk_assign 130 = .ok (.aload_n 0, 1) := by decide +kernel
theorem dBk_assign_131 : decode cBk_assign 131 = .ok (.invokevirtual 104, 3) := by decide +kernel
theorem dBk_assign_134 : decode cBk_assign 134 = .ok (.ireturn, 1) := by decide +kernel
abbrev cBk_exact : ByteArray := prog_1_method_5_code
abbrev mBk_exact : MD := (⟨"DockBook", "exact", "()Z"⟩, cBk_exact, 1, some (.boolean), [])
theorem dBk_exact_0 : decode cBk_exact 0 = .ok (.aload_n 0, 1) := by decide +kernel
theorem dBk_exact_1 : decode cBk_exact 1 = .ok (.getfield 41, 3) := by decide +kernel
theorem dBk_exact_4 : decode cBk_exact 4 = .ok (.ireturn, 1) := by decide +kernel
abbrev cBk_moved : ByteArray := prog_1_method_6_code
abbrev mBk_moved : MD := (⟨"DockBook", "moved", "()I"⟩, cBk_moved, 1, some (.int), [])
theorem dBk_moved_0 : decode cBk_moved 0 = .ok (.aload_n 0, 1) := by decide +kernel
theorem dBk_moved_1 : decode cBk_moved 1 = .ok (.getfield 45, 3) := by decide +kernel
theorem dBk_moved_4 : decode cBk_moved 4 = .ok (.ireturn, 1) := by decide +kernel
abbrev cBk_bound : ByteArray := prog_1_method_7_code
abbrev mBk_bound : MD := (⟨"DockBook", "bound", "()I"⟩, cBk_bound, 3, some (.int), [])
theorem dBk_bound_0 : decode cBk_bound 0 = .ok (.iconst 0, 1) := by decide +kernel
theorem dBk_bound_1 : decode cBk_bound 1 = .ok (.istore_n 1, 1) := by decide +kernel
theorem dBk_bound_2 : decode cBk_bound 2 = .ok (.iconst 0, 1) := by decide +kernel
theorem dBk_bound_3 : decode cBk_bound 3 = .ok (.istore_n 2, 1) := by decide +kernel
theorem dBk_bound_4 : decode cBk_bound 4 = .ok (.iload_n 2, 1) := by decide +kernel
theorem dBk_bound_5 : decode cBk_bound 5 = .ok (.aload_n 0, 1) := by decide +kernel
theorem dBk_bound_6 : decode cBk_bound 6 = .ok (.getfield 35, 3) := by decide +kernel
theorem dBk_bound_9 : decode cBk_bound 9 = .ok (.if_icmp .ge 34, 3) := by decide +kernel
theorem dBk_bound_12 : decode cBk_bound 12 = .ok (.aload_n 0, 1) := by decide +kernel
theorem dBk_bound_13 : decode cBk_bound 13 = .ok (.getfield 17, 3) := by decide +kernel
theorem dBk_bound_16 : decode cBk_bound 16 = .ok (.iload_n 2, 1) := by decide +kernel
theorem dBk_bound_17 : decode cBk_bound 17 = .ok (.aaload, 1) := by decide +kernel
theorem dBk_bound_18 : decode cBk_bound 18 = .ok (.getfield 107, 3) := by decide +kernel
theorem dBk_bound_21 : decode cBk_bound 21 = .ok (.ifCond .ne 16, 3) := by decide +kernel
theorem dBk_bound_24 : decode cBk_bound 24 = .ok (.iload_n 1, 1) := by decide +kernel
theorem dBk_bound_25 : decode cBk_bound 25 = .ok (.aload_n 0, 1) := by decide +kernel
theorem dBk_bound_26 : decode cBk_bound 26 = .ok (.aload_n 0, 1) := by decide +kernel
theorem dBk_bound_27 : decode cBk_bound 27 = .ok (.getfield 17, 3) := by decide +kernel
theorem dBk_bound_30 : decode cBk_bound 30 = .ok (.iload_n 2, 1) := by decide +kernel
theorem dBk_bound_31 : decode cBk_bound 31 = .ok (.aaload, 1) := by decide +kernel
theorem dBk_bound_32 : decode cBk_bound 32 = .ok (.invokevirtual 110, 3) := by decide +kernel
theorem dBk_bound_35 : decode cBk_bound 35 = .ok (.iadd, 1) := by decide +kernel
theorem dBk_bound_36 : decode cBk_bound 36 = .ok (.istore_n 1, 1) := by decide +kernel
theorem dBk_bound_37 : decode cBk_bound 37 = .ok (.iinc 2 1, 3) := by decide +kernel
theorem dBk_bound_40 : decode cBk_bound 40 = .ok (.goto (-36), 3) := by decide +kernel
theorem dBk_bound_43 : decode cBk_bound 43 = .ok (.iload_n 1, 1) := by decide +kernel
theorem dBk_bound_44 : decode cBk_bound 44 = .ok (.ireturn, 1) := by decide +kernel
abbrev cBk_call : ByteArray := prog_1_method_8_code
abbrev mBk_call : MD := (⟨"DockBook", "call", "(I)V"⟩, cBk_call, 4, none, [])
theorem dBk_call_0 : decode cBk_call 0 = .ok (.aload_n 0, 1) := by decide +kernel
theorem dBk_call_1 : decode cBk_call 1 = .ok (.iload_n 1, 1) := by decide +kernel
theorem dBk_call_2 : decode cBk_call 2 = .ok (.invokevirtual 114, 3) := by decide +kernel
theorem dBk_call_5 : decode cBk_call 5 = .ok (.astore_n 2, 1) := by decide +kernel
theorem dBk_call_6 : decode cBk_call 6 = .ok (.aload_n 0, 1) := by decide +kernel
theorem dBk_call_7 : decode cBk_call 7 = .ok (.aload_n 2, 1) := by decide +kernel
theorem dBk_call_8 : decode cBk_call 8 = .ok (.invokevirtual 118, 3) := by decide +kernel
theorem dBk_call_11 : decode cBk_call 11 = .ok (.ifCond .ne 13, 3) := by decide +kernel
theorem dBk_call_14 : decode cBk_call 14 = .ok (.new 122, 3) := by decide +kernel
theorem dBk_call_17 : decode cBk_call 17 = .ok (.dup, 1) := by decide +kernel
theorem dBk_call_18 : decode cBk_call 18 = .ok (.ldc 124, 2) := by decide +kernel
theorem dBk_call_20 : decode cBk_call 20 = .ok (.invokespecial 126, 3) := by decide +kernel
theorem dBk_call_23 : decode cBk_call 23 = .ok (.athrow, 1) := by decide +kernel
theorem dBk_call_24 : decode cBk_call 24 = .ok (.aload_n 0, 1) := by decide +kernel
theorem dBk_call_25 : decode cBk_call 25 = .ok (.aload_n 2, 1) := by decide +kernel
theorem dBk_call_26 : decode cBk_call 26 = .ok (.getfield 127, 3) := by decide +kernel
theorem dBk_call_29 : decode cBk_call 29 = .ok (.invokevirtual 130, 3) := by decide +kernel
theorem dBk_call_32 : decode cBk_call 32 = .ok (.astore_n 3, 1) := by decide +kernel
theorem dBk_call_33 : decode cBk_call 33 = .ok (.aload_n 2, 1) := by decide +kernel
theorem dBk_call_34 : decode cBk_call 34 = .ok (.iconst 1, 1) := by decide +kernel
theorem dBk_call_35 : decode cBk_call 35 = .ok (.putfield 107, 3) := by decide +kernel
theorem dBk_call_38 : decode cBk_call 38 = .ok (.aload_n 2, 1) := by decide +kernel
theorem dBk_call_39 : decode cBk_call 39 = .ok (.aload_n 0, 1) := by decide +kernel
theorem dBk_call_40 : decode cBk_call 40 = .ok (.getfield 38, 3) := by decide +kernel
theorem dBk_call_43 : decode cBk_call 43 = .ok (.putfield 134, 3) := by decide +kernel
theorem dBk_call_46 : decode cBk_call 46 = .ok (.aload_n 3, 1) := by decide +kernel
theorem dBk_call_47 : decode cBk_call 47 = .ok (.iload_n 1, 1) := by decide +kernel
theorem dBk_call_48 : decode cBk_call 48 = .ok (.putfield 137, 3) := by decide +kernel
theorem dBk_call_51 : decode cBk_call 51 = .ok (.aload_n 3, 1) := by decide +kernel
theorem dBk_call_52 : decode cBk_call 52 = .ok (.aload_n 0, 1) := by decide +kernel
theorem dBk_call_53 : decode cBk_call 53 = .ok (.getfield 38, 3) := by decide +kernel
theorem dBk_call_56 : decode cBk_call 56 = .ok (.aload_n 2, 1) := by decide +kernel
theorem dBk_call_57 : decode cBk_call 57 = .ok (.getfield 80, 3) := by decide +kernel
theorem dBk_call_60 : decode cBk_call 60 = .ok (.iadd, 1) := by decide +kernel
theorem dBk_call_61 : decode cBk_call 61 = .ok (.putfield 140, 3) := by decide +kernel
theorem dBk_call_64 : decode cBk_call 64 = .ok (.return_, 1) := by decide +kernel
abbrev cBk_seal : ByteArray := prog_1_method_9_code
abbrev mBk_seal : MD := (⟨"DockBook", "seal", "(II)I"⟩, cBk_seal, 4, some (.int), [])
theorem dBk_seal_0 : decode cBk_seal 0 = .ok (.aload_n 0, 1) := by decide +kernel
theorem dBk_seal_1 : decode cBk_seal 1 = .ok (.iload_n 1, 1) := by decide +kernel
theorem dBk_seal_2 : decode cBk_seal 2 = .ok (.invokevirtual 114, 3) := by decide +kernel
theorem dBk_seal_5 : decode cBk_seal 5 = .ok (.astore_n 3, 1) := by decide +kernel
theorem dBk_seal_6 : decode cBk_seal 6 = .ok (.iload_n 2, 1) := by decide +kernel
theorem dBk_seal_7 : decode cBk_seal 7 = .ok (.iconst 0, 1) := by decide +kernel
theorem dBk_seal_8 : decode cBk_seal 8 = .ok (.sipush 9999, 3) := by decide +kernel
theorem dBk_seal_11 : decode cBk_seal 11 = .ok (.invokestatic 52, 3) := by decide +kernel
theorem dBk_seal_14 : decode cBk_seal 14 = .ok (.aload_n 3, 1) := by decide +kernel
theorem dBk_seal_15 : decode cBk_seal 15 = .ok (.getfield 107, 3) := by decide +kernel
theorem dBk_seal_18 : decode cBk_seal 18 = .ok (.ifCond .eq 21, 3) := by decide +kernel
theorem dBk_seal_21 : decode cBk_seal 21 = .ok (.aload_n 3, 1) := by decide +kernel
theorem dBk_seal_22 : decode cBk_seal 22 = .ok (.getfield 107, 3) := by decide +kernel
theorem dBk_seal_25 : decode cBk_seal 25 = .ok (.iconst 1, 1) := by decide +kernel
theorem dBk_seal_26 : decode cBk_seal 26 = .ok (.if_icmp .eq 13, 3) := by decide +kernel
theorem dBk_seal_29 : decode cBk_seal 29 = .ok (.new 122, 3) := by decide +kernel
theorem dBk_seal_32 : decode cBk_seal 32 = .ok (.dup, 1) := by decide +kernel
theorem dBk_seal_33 : decode cBk_seal 33 = .ok (.ldc 143, 2) := by decide +kernel
theorem dBk_seal_35 : decode cBk_seal 35 = .ok (.invokespecial 126, 3) := by decide +kernel
theorem dBk_seal_38 : decode cBk_seal 38 = .ok (.athrow, 1) := by decide +kernel
theorem dBk_seal_39 : decode cBk_seal 39 = .ok (.aload_n 3, 1) := by decide +kernel
theorem dBk_seal_40 : decode cBk_seal 40 = .ok (.iload_n 2, 1) := by decide +kernel
theorem dBk_seal_41 : decode cBk_seal 41 = .ok (.invokevirtual 145, 3) := by decide +kernel
theorem dBk_seal_44 : decode cBk_seal 44 = .ok (.ireturn, 1) := by decide +kernel
abbrev cBk_load : ByteArray := prog_1_method_10_code
abbrev mBk_load : MD := (⟨"DockBook", "load", "(III)Z"⟩, cBk_load, 5, some (.boolean), [])
theorem dBk_load_0 : decode cBk_load 0 = .ok (.aload_n 0, 1) := by decide +kernel
theorem dBk_load_1 : decode cBk_load 1 = .ok (.iload_n 1, 1) := by decide +kernel
theorem dBk_load_2 : decode cBk_load 2 = .ok (.invokevirtual 114, 3) := by decide +kernel
theorem dBk_load_5 : decode cBk_load 5 = .ok (.astore 4, 2) := by decide +kernel
theorem dBk_load_7 : decode cBk_load 7 = .ok (.iload_n 2, 1) := by decide +kernel
theorem dBk_load_8 : decode cBk_load 8 = .ok (.iconst 0, 1) := by decide +kernel
theorem dBk_load_9 : decode cBk_load 9 = .ok (.sipush 10000, 3) := by decide +kernel
theorem dBk_load_12 : decode cBk_load 12 = .ok (.invokestatic 52, 3) := by decide +kernel
theorem dBk_load_15 : decode cBk_load 15 = .ok (.iload_n 3, 1) := by decide +kernel
theorem dBk_load_16 : decode cBk_load 16 = .ok (.iconst 0, 1) := by decide +kernel
theorem dBk_load_17 : decode cBk_load 17 = .ok (.sipush 10000, 3) := by decide +kernel
theorem dBk_load_20 : decode cBk_load 20 = .ok (.invokestatic 52, 3) := by decide +kernel
theorem dBk_load_23 : decode cBk_load 23 = .ok (.aload 4, 2) := by decide +kernel
theorem dBk_load_25 : decode cBk_load 25 = .ok (.iconst 1, 1) := by decide +kernel
theorem dBk_load_26 : decode cBk_load 26 = .ok (.invokestatic 149, 3) := by decide +kernel
theorem dBk_load_29 : decode cBk_load 29 = .ok (.aload 4, 2) := by decide +kernel
theorem dBk_load_31 : decode cBk_load 31 = .ok (.iload_n 2, 1) := by decide +kernel
theorem dBk_load_32 : decode cBk_load 32 = .ok (.iload_n 3, 1) := by decide +kernel
theorem dBk_load_33 : decode cBk_load 33 = .ok (.if_icmp .ne 7, 3) := by decide +kernel
theorem dBk_load_36 : decode cBk_load 36 = .ok (.iconst 1, 1) := by decide +kernel
theorem dBk_load_37 : decode cBk_load 37 = .ok (.goto 4, 3) := by decide +kernel
theorem dBk_load_40 : decode cBk_load 40 = .ok (.iconst 0, 1) := by decide +kernel
theorem dBk_load_41 : decode cBk_load 41 = .ok (.putfield 153, 3) := by decide +kernel
theorem dBk_load_44 : decode cBk_load 44 = .ok (.aload 4, 2) := by decide +kernel
theorem dBk_load_46 : decode cBk_load 46 = .ok (.getfield 153, 3) := by decide +kernel
theorem dBk_load_49 : decode cBk_load 49 = .ok (.ireturn, 1) := by decide +kernel
abbrev cBk_depart : ByteArray := prog_1_method_11_code
abbrev mBk_depart : MD := (⟨"DockBook", "depart", "(I)I"⟩, cBk_depart, 4, some (.int), [])
theorem dBk_depart_0 : decode cBk_depart 0 = .ok (.aload_n 0, 1) := by decide +kernel
theorem dBk_depart_1 : decode cBk_depart 1 = .ok (.iload_n 1, 1) := by decide +kernel
theorem dBk_depart_2 : decode cBk_depart 2 = .ok (.invokevirtual 114, 3) := by decide +kernel
theorem dBk_depart_5 : decode cBk_depart 5 = .ok (.astore_n 2, 1) := by decide +kernel
theorem dBk_depart_6 : decode cBk_depart 6 = .ok (.aload_n 2, 1) := by decide +kernel
theorem dBk_depart_7 : decode cBk_depart 7 = .ok (.iconst 1, 1) := by decide +kernel
theorem dBk_depart_8 : decode cBk_depart 8 = .ok (.invokestatic 149, 3) := by decide +kernel
theorem dBk_depart_11 : decode cBk_depart 11 = .ok (.aload_n 2, 1) := by decide +kernel
theorem dBk_depart_12 : decode cBk_depart 12 = .ok (.getfield 156, 3) := by decide +kernel
theorem dBk_depart_15 : decode cBk_depart 15 = .ok (.ifCond .ne 5, 3) := by decide +kernel
theorem dBk_depart_18 : decode cBk_depart 18 = .ok (.iconst 2, 1) := by decide +kernel
theorem dBk_depart_19 : decode cBk_depart 19 = .ok (.ireturn, 1) := by decide +kernel
theorem dBk_depart_20 : decode cBk_depart 20 = .ok (.aload_n 2, 1) := by decide +kernel
theorem dBk_depart_21 : decode cBk_depart 21 = .ok (.getfield 153, 3) := by decide +kernel
theorem dBk_depart_24 : decode cBk_depart 24 = .ok (.ifCond .ne 5, 3) := by decide +kernel
theorem dBk_depart_27 : decode cBk_depart 27 = .ok (.iconst 3, 1) := by decide +kernel
theorem dBk_depart_28 : decode cBk_depart 28 = .ok (.ireturn, 1) := by decide +kernel
theorem dBk_depart_29 : decode cBk_depart 29 = .ok (.aload_n 2, 1) := by decide +kernel
theorem dBk_depart_30 : decode cBk_depart 30 = .ok (.getfield 134, 3) := by decide +kernel
theorem dBk_depart_33 : decode cBk_depart 33 = .ok (.aload_n 2, 1) := by decide +kernel
theorem dBk_depart_34 : decode cBk_depart 34 = .ok (.getfield 80, 3) := by decide +kernel
theorem dBk_depart_37 : decode cBk_depart 37 = .ok (.iadd, 1) := by decide +kernel
theorem dBk_depart_38 : decode cBk_depart 38 = .ok (.aload_n 0, 1) := by decide +kernel
theorem dBk_depart_39 : decode cBk_depart 39 = .ok (.getfield 38, 3) := by decide +kernel
theorem dBk_depart_42 : decode cBk_depart 42 = .ok (.if_icmp .le 5, 3) := by decide +kernel
theorem dBk_depart_45 : decode cBk_depart 45 = .ok (.iconst 4, 1) := by decide +kernel
theorem dBk_depart_46 : decode cBk_depart 46 = .ok (.ireturn, 1) := by decide +kernel
theorem dBk_depart_47 : decode cBk_depart 47 = .ok (.aload_n 0, 1) := by decide +kernel
theorem dBk_depart_48 : decode cBk_depart 48 = .ok (.aload_n 2, 1) := by decide +kernel
theorem dBk_depart_49 : decode cBk_depart 49 = .ok (.getfield 127, 3) := by decide +kernel
theorem dBk_depart_52 : decode cBk_depart 52 = .ok (.invokevirtual 130, 3) := by decide +kernel
theorem dBk_depart_55 : decode cBk_depart 55 = .ok (.astore_n 3, 1) := by decide +kernel
theorem dBk_depart_56 : decode cBk_depart 56 = .ok (.aload_n 2, 1) := by decide +kernel
theorem dBk_depart_57 : decode cBk_depart 57 = .ok (.iconst 2, 1) := by decide +kernel
theorem dBk_depart_58 : decode cBk_depart 58 = .ok (.putfield 107, 3) := by decide +kernel
theorem dBk_depart_61 : decode cBk_depart 61 = .ok (.aload_n 2, 1) := by decide +kernel
theorem dBk_depart_62 : decode cBk_depart 62 = .ok (.aload_n 0, 1) := by decide +kernel
theorem dBk_depart_63 : decode cBk_depart 63 = .ok (.getfield 38, 3) := by decide +kernel
theorem dBk_depart_66 : decode cBk_depart 66 = .ok (.putfield 159, 3) := by decide +kernel
theorem dBk_depart_69 : decode cBk_depart 69 = .ok (.aload_n 3, 1) := by decide +kernel
theorem dBk_depart_70 : decode cBk_depart 70 = .ok (.iconst (-1), 1) := by decide +kernel
theorem dBk_depart_71 : decode cBk_depart 71 = .ok (.putfield 137, 3) := by decide +kernel
theorem dBk_depart_74 : decode cBk_depart 74 = .ok (.aload_n 3, 1) := by decide +kernel
theorem dBk_depart_75 : decode cBk_depart 75 = .ok (.iconst 0, 1) := by decide +kernel
theorem dBk_depart_76 : decode cBk_depart 76 = .ok (.putfield 140, 3) := by decide +kernel
theorem dBk_depart_79 : decode cBk_depart 79 = .ok (.aload_n 3, 1) := by decide +kernel
theorem dBk_depart_80 : decode cBk_depart 80 = .ok (.dup, 1) := by decide +kernel
theorem dBk_depart_81 : decode cBk_depart 81 = .ok (.getfield 162, 3) := by decide +kernel
theorem dBk_depart_84 : decode cBk_depart 84 = .ok (.iconst 1, 1) := by decide +kernel
theorem dBk_depart_85 : decode cBk_depart 85 = .ok (.iadd, 1) := by decide +kernel
theorem dBk_depart_86 : decode cBk_depart 86 = .ok (.putfield 162, 3) := by decide +kernel
theorem dBk_depart_89 : decode cBk_depart 89 = .ok (.iconst 1, 1) := by decide +kernel
theorem dBk_depart_90 : decode cBk_depart 90 = .ok (.ireturn, 1) := by decide +kernel
abbrev cBk_late : ByteArray := prog_1_method_12_code
abbrev mBk_late : MD := (⟨"DockBook", "late", "(II)Z"⟩, cBk_late, 5, some (.boolean), [])
theorem dBk_late_0 : decode cBk_late 0 = .ok (.aload_n 0, 1) := by decide +kernel
theorem dBk_late_1 : decode cBk_late 1 = .ok (.iload_n 1, 1) := by decide +kernel
theorem dBk_late_2 : decode cBk_late 2 = .ok (.invokevirtual 114, 3) := by decide +kernel
theorem dBk_late_5 : decode cBk_late 5 = .ok (.astore_n 3, 1) := by decide +kernel
theorem dBk_late_6 : decode cBk_late 6 = .ok (.iload_n 2, 1) := by decide +kernel
theorem dBk_late_7 : decode cBk_late 7 = .ok (.iconst 0, 1) := by decide +kernel
theorem dBk_late_8 : decode cBk_late 8 = .ok (.sipush 2000, 3) := by decide +kernel
theorem dBk_late_11 : decode cBk_late 11 = .ok (.invokestatic 52, 3) := by decide +kernel
theorem dBk_late_14 : decode cBk_late 14 = .ok (.aload_n 3, 1) := by decide +kernel
theorem dBk_late_15 : decode cBk_late 15 = .ok (.iconst 0, 1) := by decide +kernel
theorem dBk_late_16 : decode cBk_late 16 = .ok (.invokestatic 149, 3) := by decide +kernel
theorem dBk_late_19 : decode cBk_late 19 = .ok (.aload_n 3, 1) := by decide +kernel
theorem dBk_late_20 : decode cBk_late 20 = .ok (.getfield 127, 3) := by decide +kernel
theorem dBk_late_23 : decode cBk_late 23 = .ok (.iconst (-1), 1) := by decide +kernel
theorem dBk_late_24 : decode cBk_late 24 = .ok (.if_icmp .eq 7, 3) := by decide +kernel
theorem dBk_late_27 : decode cBk_late 27 = .ok (.iconst 1, 1) := by decide +kernel
theorem dBk_late_28 : decode cBk_late 28 = .ok (.goto 4, 3) := by decide +kernel
theorem dBk_late_31 : decode cBk_late 31 = .ok (.iconst 0, 1) := by decide +kernel
theorem dBk_late_32 : decode cBk_late 32 = .ok (.istore 4, 2) := by decide +kernel
theorem dBk_late_34 : decode cBk_late 34 = .ok (.aload_n 3, 1) := by decide +kernel
theorem dBk_late_35 : decode cBk_late 35 = .ok (.iload_n 2, 1) := by decide +kernel
theorem dBk_late_36 : decode cBk_late 36 = .ok (.putfield 77, 3) := by decide +kernel
theorem dBk_late_39 : decode cBk_late 39 = .ok (.aload_n 3, 1) := by decide +kernel
theorem dBk_late_40 : decode cBk_late 40 = .ok (.getfield 134, 3) := by decide +kernel
theorem dBk_late_43 : decode cBk_late 43 = .ok (.iload_n 2, 1) := by decide +kernel
theorem dBk_late_44 : decode cBk_late 44 = .ok (.if_icmp .ge 9, 3) := by decide +kernel
theorem dBk_late_47 : decode cBk_late 47 = .ok (.aload_n 3, 1) := by decide +kernel
theorem dBk_late_48 : decode cBk_late 48 = .ok (.iconst (-1), 1) := by decide +kernel
theorem dBk_late_49 : decode cBk_late 49 = .ok (.iconst (-1), 1) := by decide +kernel
theorem dBk_late_50 : decode cBk_late 50 = .ok (.invokevirtual 165, 3) := by decide +kernel
theorem dBk_late_53 : decode cBk_late 53 = .ok (.iload 4, 2) := by decide +kernel
theorem dBk_late_55 : decode cBk_late 55 = .ok (.ireturn, 1) := by decide +kernel
abbrev cBk_cancel : ByteArray := prog_1_method_13_code
abbrev mBk_cancel : MD := (⟨"DockBook", "cancel", "(I)V"⟩, cBk_cancel, 3, none, [])
theorem dBk_cancel_0 : decode cBk_cancel 0 = .ok (.aload_n 0, 1) := by decide +kernel
theorem dBk_cancel_1 : decode cBk_cancel 1 = .ok (.iload_n 1, 1) := by decide +kernel
theorem dBk_cancel_2 : decode cBk_cancel 2 = .ok (.invokevirtual 114, 3) := by decide +kernel
theorem dBk_cancel_5 : decode cBk_cancel 5 = .ok (.astore_n 2, 1) := by decide +kernel
theorem dBk_cancel_6 : decode cBk_cancel 6 = .ok (.aload_n 2, 1) := by decide +kernel
theorem dBk_cancel_7 : decode cBk_cancel 7 = .ok (.iconst 0, 1) := by decide +kernel
theorem dBk_cancel_8 : decode cBk_cancel 8 = .ok (.invokestatic 149, 3) := by decide +kernel
theorem dBk_cancel_11 : decode cBk_cancel 11 = .ok (.aload_n 2, 1) := by decide +kernel
theorem dBk_cancel_12 : decode cBk_cancel 12 = .ok (.iconst 3, 1) := by decide +kernel
theorem dBk_cancel_13 : decode cBk_cancel 13 = .ok (.putfield 107, 3) := by decide +kernel
theorem dBk_cancel_16 : decode cBk_cancel 16 = .ok (.aload_n 2, 1) := by decide +kernel
theorem dBk_cancel_17 : decode cBk_cancel 17 = .ok (.iconst (-1), 1) := by decide +kernel
theorem dBk_cancel_18 : decode cBk_cancel 18 = .ok (.iconst (-1), 1) := by decide +kernel
theorem dBk_cancel_19 : decode cBk_cancel 19 = .ok (.invokevirtual 165, 3) := by decide +kernel
theorem dBk_cancel_22 : decode cBk_cancel 22 = .ok (.return_, 1) := by decide +kernel
abbrev cBk_out : ByteArray := prog_1_method_14_code
abbrev mBk_out : MD := (⟨"DockBook", "out", "(IZ)I"⟩, cBk_out, 6, some (.int), [])
theorem dBk_out_0 : decode cBk_out 0 = .ok (.aload_n 0, 1) := by decide +kernel
theorem dBk_out_1 : decode cBk_out 1 = .ok (.iload_n 1, 1) := by decide +kernel
theorem dBk_out_2 : decode cBk_out 2 = .ok (.invokevirtual 130, 3) := by decide +kernel
theorem dBk_out_5 : decode cBk_out 5 = .ok (.astore_n 3, 1) := by decide +kernel
theorem dBk_out_6 : decode cBk_out 6 = .ok (.aload_n 3, 1) := by decide +kernel
theorem dBk_out_7 : decode cBk_out 7 = .ok (.getfield 169, 3) := by decide +kernel
theorem dBk_out_10 : decode cBk_out 10 = .ok (.iload_n 2, 1) := by decide +kernel
theorem dBk_out_11 : decode cBk_out 11 = .ok (.if_icmp .ne 13, 3) := by decide +kernel
theorem dBk_out_14 : decode cBk_out 14 = .ok (.new 122, 3) := by decide +kernel
theorem dBk_out_17 : decode cBk_out 17 = .ok (.dup, 1) := by decide +kernel
theorem dBk_out_18 : decode cBk_out 18 = .ok (.ldc 172, 2) := by decide +kernel
theorem dBk_out_20 : decode cBk_out 20 = .ok (.invokespecial 126, 3) := by decide +kernel
theorem dBk_out_23 : decode cBk_out 23 = .ok (.athrow, 1) := by decide +kernel
theorem dBk_out_24 : decode cBk_out 24 = .ok (.aload_n 3, 1) := by decide +kernel
theorem dBk_out_25 : decode cBk_out 25 = .ok (.iload_n 2, 1) := by decide +kernel
theorem dBk_out_26 : decode cBk_out 26 = .ok (.putfield 169, 3) := by decide +kernel
theorem dBk_out_29 : decode cBk_out 29 = .ok (.iconst 0, 1) := by decide +kernel
theorem dBk_out_30 : decode cBk_out 30 = .ok (.istore 4, 2) := by decide +kernel
theorem dBk_out_32 : decode cBk_out 32 = .ok (.iconst 0, 1) := by decide +kernel
theorem dBk_out_33 : decode cBk_out 33 = .ok (.istore 5, 2) := by decide +kernel
theorem dBk_out_35 : decode cBk_out 35 = .ok (.iload 5, 2) := by decide +kernel
theorem dBk_out_37 : decode cBk_out 37 = .ok (.aload_n 0, 1) := by decide +kernel
theorem dBk_out_38 : decode cBk_out 38 = .ok (.getfield 35, 3) := by decide +kernel
theorem dBk_out_41 : decode cBk_out 41 = .ok (.if_icmp .ge 38, 3) := by decide +kernel
theorem dBk_out_44 : decode cBk_out 44 = .ok (.aload_n 0, 1) := by decide +kernel
theorem dBk_out_45 : decode cBk_out 45 = .ok (.getfield 17, 3) := by decide +kernel
theorem dBk_out_48 : decode cBk_out 48 = .ok (.iload 5, 2) := by decide +kernel
theorem dBk_out_50 : decode cBk_out 50 = .ok (.aaload, 1) := by decide +kernel
theorem dBk_out_51 : decode cBk_out 51 = .ok (.iload_n 1, 1) := by decide +kernel
theorem dBk_out_52 : decode cBk_out 52 = .ok (.invokevirtual 174, 3) := by decide +kernel
theorem dBk_out_55 : decode cBk_out 55 = .ok (.ifCond .eq 18, 3) := by decide +kernel
theorem dBk_out_58 : decode cBk_out 58 = .ok (.aload_n 0, 1) := by decide +kernel
theorem dBk_out_59 : decode cBk_out 59 = .ok (.getfield 17, 3) := by decide +kernel
theorem dBk_out_62 : decode cBk_out 62 = .ok (.iload 5, 2) := by decide +kernel
theorem dBk_out_64 : decode cBk_out 64 = .ok (.aaload, 1) := by decide +kernel
theorem dBk_out_65 : decode cBk_out 65 = .ok (.iconst (-1), 1) := by decide +kernel
theorem dBk_out_66 : decode cBk_out 66 = .ok (.iconst (-1), 1) := by decide +kernel
theorem dBk_out_67 : decode cBk_out 67 = .ok (.invokevirtual 165, 3) := by decide +kernel
theorem dBk_out_70 : decode cBk_out 70 = .ok (.iinc 4 1, 3) := by decide +kernel
theorem dBk_out_73 : decode cBk_out 73 = .ok (.iinc 5 1, 3) := by decide +kernel
theorem dBk_out_76 : decode cBk_out 76 = .ok (.goto (-41), 3) := by decide +kernel
theorem dBk_out_79 : decode cBk_out 79 = .ok (.iload 4, 2) := by decide +kernel
theorem dBk_out_81 : decode cBk_out 81 = .ok (.ireturn, 1) := by decide +kernel
abbrev cBk_pass : ByteArray := prog_1_method_15_code
abbrev mBk_pass : MD := (⟨"DockBook", "pass", "(I)V"⟩, cBk_pass, 2, none, [])
theorem dBk_pass_0 : decode cBk_pass 0 = .ok (.iload_n 1, 1) := by decide +kernel
theorem dBk_pass_1 : decode cBk_pass 1 = .ok (.aload_n 0, 1) := by decide +kernel
theorem dBk_pass_2 : decode cBk_pass 2 = .ok (.getfield 38, 3) := by decide +kernel
theorem dBk_pass_5 : decode cBk_pass 5 = .ok (.sipush 2000, 3) := by decide +kernel
theorem dBk_pass_8 : decode cBk_pass 8 = .ok (.invokestatic 52, 3) := by decide +kernel
theorem dBk_pass_11 : decode cBk_pass 11 = .ok (.aload_n 0, 1) := by decide +kernel
theorem dBk_pass_12 : decode cBk_pass 12 = .ok (.iload_n 1, 1) := by decide +kernel
theorem dBk_pass_13 : decode cBk_pass 13 = .ok (.putfield 38, 3) := by decide +kernel
theorem dBk_pass_16 : decode cBk_pass 16 = .ok (.return_, 1) := by decide +kernel
abbrev cBk_order : ByteArray := prog_1_method_16_code
abbrev mBk_order : MD := (⟨"DockBook", "order", "(II)I"⟩, cBk_order, 4, some (.int), [])
theorem dBk_order_0 : decode cBk_order 0 = .ok (.aload_n 0, 1) := by decide +kernel
theorem dBk_order_1 : decode cBk_order 1 = .ok (.iload_n 1, 1) := by decide +kernel
theorem dBk_order_2 : decode cBk_order 2 = .ok (.invokevirtual 130, 3) := by decide +kernel
theorem dBk_order_5 : decode cBk_order 5 = .ok (.pop, 1) := by decide +kernel
theorem dBk_order_6 : decode cBk_order 6 = .ok (.iconst 0, 1) := by decide +kernel
theorem dBk_order_7 : decode cBk_order 7 = .ok (.istore_n 3, 1) := by decide +kernel
theorem dBk_order_8 : decode cBk_order 8 = .ok (.iload_n 3, 1) := by decide +kernel
theorem dBk_order_9 : decode cBk_order 9 = .ok (.aload_n 0, 1) := by decide +kernel
theorem dBk_order_10 : decode cBk_order 10 = .ok (.getfield 35, 3) := by decide +kernel
theorem dBk_order_13 : decode cBk_order 13 = .ok (.if_icmp .ge 38, 3) := by decide +kernel
theorem dBk_order_16 : decode cBk_order 16 = .ok (.aload_n 0, 1) := by decide +kernel
theorem dBk_order_17 : decode cBk_order 17 = .ok (.getfield 17, 3) := by decide +kernel
theorem dBk_order_20 : decode cBk_order 20 = .ok (.iload_n 3, 1) := by decide +kernel
theorem dBk_order_21 : decode cBk_order 21 = .ok (.aaload, 1) := by decide +kernel
theorem dBk_order_22 : decode cBk_order 22 = .ok (.iload_n 1, 1) := by decide +kernel
theorem dBk_order_23 : decode cBk_order 23 = .ok (.invokevirtual 174, 3) := by decide +kernel
theorem dBk_order_26 : decode cBk_order 26 = .ok (.ifCond .eq 19, 3) := by decide +kernel
theorem dBk_order_29 : decode cBk_order 29 = .ok (.aload_n 0, 1) := by decide +kernel
theorem dBk_order_30 : decode cBk_order 30 = .ok (.aload_n 0, 1) := by decide +kernel
theorem dBk_order_31 : decode cBk_order 31 = .ok (.getfield 17, 3) := by decide +kernel
theorem dBk_order_34 : decode cBk_order 34 = .ok (.iload_n 3, 1) := by decide +kernel
theorem dBk_order_35 : decode cBk_order 35 = .ok (.aaload, 1) := by decide +kernel
theorem dBk_order_36 : decode cBk_order 36 = .ok (.invokevirtual 178, 3) := by decide +kernel
theorem dBk_order_39 : decode cBk_order 39 = .ok (.iload_n 2, 1) := by decide +kernel
theorem dBk_order_40 : decode cBk_order 40 = .ok (.if_icmp .ne 5, 3) := by decide +kernel
theorem dBk_order_43 : decode cBk_order 43 = .ok (.iload_n 3, 1) := by decide +kernel
theorem dBk_order_44 : decode cBk_order 44 = .ok (.ireturn, 1) := by decide +kernel
theorem dBk_order_45 : decode cBk_order 45 = .ok (.iinc 3 1, 3) := by decide +kernel
theorem dBk_order_48 : decode cBk_order 48 = .ok (.goto (-40), 3) := by decide +kernel
theorem dBk_order_51 : decode cBk_order 51 = .ok (.new 181, 3) := by decide +kernel
theorem dBk_order_54 : decode cBk_order 54 = .ok (.dup, 1) := by decide +kernel
theorem dBk_order_55 : decode cBk_order 55 = .ok (.ldc 183, 2) := by decide +kernel
theorem dBk_order_57 : decode cBk_order 57 = .ok (.invokespecial 185, 3) := by decide +kernel
theorem dBk_order_60 : decode cBk_order 60 = .ok (.athrow, 1) := by decide +kernel
abbrev cBk_told : ByteArray := prog_1_method_17_code
abbrev mBk_told : MD := (⟨"DockBook", "told", "(II)I"⟩, cBk_told, 4, some (.int), [])
theorem dBk_told_0 : decode cBk_told 0 = .ok (.aload_n 0, 1) := by decide +kernel
theorem dBk_told_1 : decode cBk_told 1 = .ok (.iload_n 1, 1) := by decide +kernel
theorem dBk_told_2 : decode cBk_told 2 = .ok (.invokevirtual 114, 3) := by decide +kernel
theorem dBk_told_5 : decode cBk_told 5 = .ok (.astore_n 3, 1) := by decide +kernel
theorem dBk_told_6 : decode cBk_told 6 = .ok (.iload_n 2, 1) := by decide +kernel
theorem dBk_told_7 : decode cBk_told 7 = .ok (.tableswitch 102 0 7 #[45, 50, 55, 60, 65, 70, 75, 80], 45) := by decide +kernel
theorem dBk_told_52 : decode cBk_told 52 = .ok (.aload_n 3, 1) := by decide +kernel
theorem dBk_told_53 : decode cBk_told 53 = .ok (.getfield 107, 3) := by decide +kernel
theorem dBk_told_56 : decode cBk_told 56 = .ok (.ireturn, 1) := by decide +kernel
theorem dBk_told_57 : decode cBk_told 57 = .ok (.aload_n 3, 1) := by decide +kernel
theorem dBk_told_58 : decode cBk_told 58 = .ok (.getfield 127, 3) := by decide +kernel
theorem dBk_told_61 : decode cBk_told 61 = .ok (.ireturn, 1) := by decide +kernel
theorem dBk_told_62 : decode cBk_told 62 = .ok (.aload_n 3, 1) := by decide +kernel
theorem dBk_told_63 : decode cBk_told 63 = .ok (.getfield 134, 3) := by decide +kernel
theorem dBk_told_66 : decode cBk_told 66 = .ok (.ireturn, 1) := by decide +kernel
theorem dBk_told_67 : decode cBk_told 67 = .ok (.aload_n 3, 1) := by decide +kernel
theorem dBk_told_68 : decode cBk_told 68 = .ok (.getfield 77, 3) := by decide +kernel
theorem dBk_told_71 : decode cBk_told 71 = .ok (.ireturn, 1) := by decide +kernel
theorem dBk_told_72 : decode cBk_told 72 = .ok (.aload_n 3, 1) := by decide +kernel
theorem dBk_told_73 : decode cBk_told 73 = .ok (.getfield 80, 3) := by decide +kernel
theorem dBk_told_76 : decode cBk_told 76 = .ok (.ireturn, 1) := by decide +kernel
theorem dBk_told_77 : decode cBk_told 77 = .ok (.aload_n 3, 1) := by decide +kernel
theorem dBk_told_78 : decode cBk_told 78 = .ok (.getfield 83, 3) := by decide +kernel
theorem dBk_told_81 : decode cBk_told 81 = .ok (.ireturn, 1) := by decide +kernel
theorem dBk_told_82 : decode cBk_told 82 = .ok (.aload_n 3, 1) := by decide +kernel
theorem dBk_told_83 : decode cBk_told 83 = .ok (.getfield 74, 3) := by decide +kernel
theorem dBk_told_86 : decode cBk_told 86 = .ok (.ireturn, 1) := by decide +kernel
theorem dBk_told_87 : decode cBk_told 87 = .ok (.aload_n 3, 1) := by decide +kernel
theorem dBk_told_88 : decode cBk_told 88 = .ok (.getfield 159, 3) := by decide +kernel
theorem dBk_told_91 : decode cBk_told 91 = .ok (.iconst (-1), 1) := by decide +kernel
theorem dBk_told_92 : decode cBk_told 92 = .ok (.if_icmp .ne 7, 3) := by decide +kernel
theorem dBk_told_95 : decode cBk_told 95 = .ok (.iconst (-1), 1) := by decide +kernel
theorem dBk_told_96 : decode cBk_told 96 = .ok (.goto 12, 3) := by decide +kernel
theorem dBk_told_99 : decode cBk_told 99 = .ok (.aload_n 3, 1) := by decide +kernel
theorem dBk_told_100 : decode cBk_told 100 = .ok (.getfield 159, 3) := by decide +kernel
theorem dBk_told_103 : decode cBk_told 103 = .ok (.aload_n 3, 1) := by decide +kernel
theorem dBk_told_104 : decode cBk_told 104 = .ok (.getfield 77, 3) := by decide +kernel
theorem dBk_told_107 : decode cBk_told 107 = .ok (.isub, 1) := by decide +kernel
theorem dBk_told_108 : decode cBk_told 108 = .ok (.ireturn, 1) := by decide +kernel
theorem dBk_told_109 : decode cBk_told 109 = .ok (.new 186, 3) := by decide +kernel
theorem dBk_told_112 : decode cBk_told 112 = .ok (.dup, 1) := by decide +kernel
theorem dBk_told_113 : decode cBk_told 113 = .ok (.ldc 188, 2) := by decide +kernel
theorem dBk_told_115 : decode cBk_told 115 = .ok (.invokespecial 190, 3) := by decide +kernel
theorem dBk_told_118 : decode cBk_told 118 = .ok (.athrow, 1) := by decide +kernel
abbrev cBk_known : ByteArray := prog_1_method_18_code
abbrev mBk_known : MD := (⟨"DockBook", "known", "(II)I"⟩, cBk_known, 4, some (.int), [])
theorem dBk_known_0 : decode cBk_known 0 = .ok (.aload_n 0, 1) := by decide +kernel
theorem dBk_known_1 : decode cBk_known 1 = .ok (.iload_n 1, 1) := by decide +kernel
theorem dBk_known_2 : decode cBk_known 2 = .ok (.invokevirtual 130, 3) := by decide +kernel
theorem dBk_known_5 : decode cBk_known 5 = .ok (.astore_n 3, 1) := by decide +kernel
theorem dBk_known_6 : decode cBk_known 6 = .ok (.iload_n 2, 1) := by decide +kernel
theorem dBk_known_7 : decode cBk_known 7 = .ok (.tableswitch 67 0 4 #[33, 38, 51, 57, 62], 33) := by decide +kernel
theorem dBk_known_40 : decode cBk_known 40 = .ok (.aload_n 3, 1) := by decide +kernel
theorem dBk_known_41 : decode cBk_known 41 = .ok (.getfield 137, 3) := by decide +kernel
theorem dBk_known_44 : decode cBk_known 44 = .ok (.ireturn, 1) := by decide +kernel
theorem dBk_known_45 : decode cBk_known 45 = .ok (.aload_n 3, 1) := by decide +kernel
theorem dBk_known_46 : decode cBk_known 46 = .ok (.getfield 169, 3) := by decide +kernel
theorem dBk_known_49 : decode cBk_known 49 = .ok (.ifCond .eq 7, 3) := by decide +kernel
theorem dBk_known_52 : decode cBk_known 52 = .ok (.iconst 1, 1) := by decide +kernel
theorem dBk_known_53 : decode cBk_known 53 = .ok (.goto 4, 3) := by decide +kernel
theorem dBk_known_56 : decode cBk_known 56 = .ok (.iconst 0, 1) := by decide +kernel
theorem dBk_known_57 : decode cBk_known 57 = .ok (.ireturn, 1) := by decide +kernel
theorem dBk_known_58 : decode cBk_known 58 = .ok (.aload_n 0, 1) := by decide +kernel
theorem dBk_known_59 : decode cBk_known 59 = .ok (.iload_n 1, 1) := by decide +kernel
theorem dBk_known_60 : decode cBk_known 60 = .ok (.invokevirtual 191, 3) := by decide +kernel
theorem dBk_known_63 : decode cBk_known 63 = .ok (.ireturn, 1) := by decide +kernel
theorem dBk_known_64 : decode cBk_known 64 = .ok (.aload_n 3, 1) := by decide +kernel
theorem dBk_known_65 : decode cBk_known 65 = .ok (.getfield 63, 3) := by decide +kernel
theorem dBk_known_68 : decode cBk_known 68 = .ok (.ireturn, 1) := by decide +kernel
theorem dBk_known_69 : decode cBk_known 69 = .ok (.aload_n 3, 1) := by decide +kernel
theorem dBk_known_70 : decode cBk_known 70 = .ok (.getfield 162, 3) := by decide +kernel
theorem dBk_known_73 : decode cBk_known 73 = .ok (.ireturn, 1) := by decide +kernel
theorem dBk_known_74 : decode cBk_known 74 = .ok (.new 186, 3) := by decide +kernel
theorem dBk_known_77 : decode cBk_known 77 = .ok (.dup, 1) := by decide +kernel
theorem dBk_known_78 : decode cBk_known 78 = .ok (.ldc 194, 2) := by decide +kernel
theorem dBk_known_80 : decode cBk_known 80 = .ok (.invokespecial 190, 3) := by decide +kernel
theorem dBk_known_83 : decode cBk_known 83 = .ok (.athrow, 1) := by decide +kernel
abbrev cBk_count : ByteArray := prog_1_method_19_code
abbrev mBk_count : MD := (⟨"DockBook", "count", "(I)I"⟩, cBk_count, 2, some (.int), [])
theorem dBk_count_0 : decode cBk_count 0 = .ok (.iload_n 1, 1) := by decide +kernel
theorem dBk_count_1 : decode cBk_count 1 = .ok (.tableswitch 91 0 7 #[47, 52, 57, 63, 69, 75, 81, 86], 47) := by decide +kernel
theorem dBk_count_48 : decode cBk_count 48 = .ok (.aload_n 0, 1) := by decide +kernel
theorem dBk_count_49 : decode cBk_count 49 = .ok (.getfield 31, 3) := by decide +kernel
theorem dBk_count_52 : decode cBk_count 52 = .ok (.ireturn, 1) := by decide +kernel
theorem dBk_count_53 : decode cBk_count 53 = .ok (.aload_n 0, 1) := by decide +kernel
theorem dBk_count_54 : decode cBk_count 54 = .ok (.getfield 35, 3) := by decide +kernel
theorem dBk_count_57 : decode cBk_count 57 = .ok (.ireturn, 1) := by decide +kernel
theorem dBk_count_58 : decode cBk_count 58 = .ok (.aload_n 0, 1) := by decide +kernel
theorem dBk_count_59 : decode cBk_count 59 = .ok (.iconst 0, 1) := by decide +kernel
theorem dBk_count_60 : decode cBk_count 60 = .ok (.invokevirtual 196, 3) := by decide +kernel
theorem dBk_count_63 : decode cBk_count 63 = .ok (.ireturn, 1) := by decide +kernel
theorem dBk_count_64 : decode cBk_count 64 = .ok (.aload_n 0, 1) := by decide +kernel
theorem dBk_count_65 : decode cBk_count 65 = .ok (.iconst 1, 1) := by decide +kernel
theorem dBk_count_66 : decode cBk_count 66 = .ok (.invokevirtual 196, 3) := by decide +kernel
theorem dBk_count_69 : decode cBk_count 69 = .ok (.ireturn, 1) := by decide +kernel
theorem dBk_count_70 : decode cBk_count 70 = .ok (.aload_n 0, 1) := by decide +kernel
theorem dBk_count_71 : decode cBk_count 71 = .ok (.iconst 2, 1) := by decide +kernel
theorem dBk_count_72 : decode cBk_count 72 = .ok (.invokevirtual 196, 3) := by decide +kernel
theorem dBk_count_75 : decode cBk_count 75 = .ok (.ireturn, 1) := by decide +kernel
theorem dBk_count_76 : decode cBk_count 76 = .ok (.aload_n 0, 1) := by decide +kernel
theorem dBk_count_77 : decode cBk_count 77 = .ok (.iconst 3, 1) := by decide +kernel
theorem dBk_count_78 : decode cBk_count 78 = .ok (.invokevirtual 196, 3) := by decide +kernel
theorem dBk_count_81 : decode cBk_count 81 = .ok (.ireturn, 1) := by decide +kernel
theorem dBk_count_82 : decode cBk_count 82 = .ok (.aload_n 0, 1) := by decide +kernel
theorem dBk_count_83 : decode cBk_count 83 = .ok (.getfield 38, 3) := by decide +kernel
theorem dBk_count_86 : decode cBk_count 86 = .ok (.ireturn, 1) := by decide +kernel
theorem dBk_count_87 : decode cBk_count 87 = .ok (.aload_n 0, 1) := by decide +kernel
theorem dBk_count_88 : decode cBk_count 88 = .ok (.invokevirtual 104, 3) := by decide +kernel
theorem dBk_count_91 : decode cBk_count 91 = .ok (.ireturn, 1) := by decide +kernel
theorem dBk_count_92 : decode cBk_count 92 = .ok (.iconst (-1), 1) := by decide +kernel
theorem dBk_count_93 : decode cBk_count 93 = .ok (.ireturn, 1) := by decide +kernel
abbrev cBk_requireRange : ByteArray := prog_1_method_20_code
abbrev mBk_requireRange : MD := (⟨"DockBook", "requireRange", "(III)V"⟩, cBk_requireRange, 3, none, [])
theorem dBk_requireRange_0 : decode cBk_requireRange 0 = .ok (.iload_n 0, 1) := by decide +kernel
theorem dBk_requireRange_1 : decode cBk_requireRange 1 = .ok (.iload_n 1, 1) := by decide +kernel
theorem dBk_requireRange_2 : decode cBk_requireRange 2 = .ok (.if_icmp .lt 8, 3) := by decide +kernel
theorem dBk_requireRange_5 : decode cBk_requireRange 5 = .ok (.iload_n 0, 1) := by decide +kernel
theorem dBk_requireRange_6 : decode cBk_requireRange 6 = .ok (.iload_n 2, 1) := by decide +kernel
theorem dBk_requireRange_7 : decode cBk_requireRange 7 = .ok (.if_icmp .le 13, 3) := by decide +kernel
theorem dBk_requireRange_10 : decode cBk_requireRange 10 = .ok (.new 186, 3) := by decide +kernel
theorem dBk_requireRange_13 : decode cBk_requireRange 13 = .ok (.dup, 1) := by decide +kernel
theorem dBk_requireRange_14 : decode cBk_requireRange 14 = .ok (.ldc 199, 2) := by decide +kernel
theorem dBk_requireRange_16 : decode cBk_requireRange 16 = .ok (.invokespecial 190, 3) := by decide +kernel
theorem dBk_requireRange_19 : decode cBk_requireRange 19 = .ok (.athrow, 1) := by decide +kernel
theorem dBk_requireRange_20 : decode cBk_requireRange 20 = .ok (.return_, 1) := by decide +kernel
abbrev cBk_requireState : ByteArray := prog_1_method_21_code
abbrev mBk_requireState : MD := (⟨"DockBook", "requireState", "(LDockBook$Truck;I)V"⟩, cBk_requireState, 2, none, [])
theorem dBk_requireState_0 : decode cBk_requireState 0 = .ok (.aload_n 0, 1) := by decide +kernel
theorem dBk_requireState_1 : decode cBk_requireState 1 = .ok (.getfield 107, 3) := by decide +kernel
theorem dBk_requireState_4 : decode cBk_requireState 4 = .ok (.iload_n 1, 1) := by decide +kernel
theorem dBk_requireState_5 : decode cBk_requireState 5 = .ok (.if_icmp .eq 13, 3) := by decide +kernel
theorem dBk_requireState_8 : decode cBk_requireState 8 = .ok (.new 122, 3) := by decide +kernel
theorem dBk_requireState_11 : decode cBk_requireState 11 = .ok (.dup, 1) := by decide +kernel
theorem dBk_requireState_12 : decode cBk_requireState 12 = .ok (.ldc 201, 2) := by decide +kernel
theorem dBk_requireState_14 : decode cBk_requireState 14 = .ok (.invokespecial 126, 3) := by decide +kernel
theorem dBk_requireState_17 : decode cBk_requireState 17 = .ok (.athrow, 1) := by decide +kernel
theorem dBk_requireState_18 : decode cBk_requireState 18 = .ok (.return_, 1) := by decide +kernel
abbrev cBk_truckNumbered : ByteArray := prog_1_method_22_code
abbrev mBk_truckNumbered : MD := (⟨"DockBook", "truckNumbered", "(I)LDockBook$Truck;"⟩, cBk_truckNumbered, 2, some (.object "DockBook$Truck"), [])
theorem dBk_truckNumbered_0 : decode cBk_truckNumbered 0 = .ok (.iload_n 1, 1) := by decide +kernel
theorem dBk_truckNumbered_1 : decode cBk_truckNumbered 1 = .ok (.ifCond .lt 11, 3) := by decide +kernel
theorem dBk_truckNumbered_4 : decode cBk_truckNumbered 4 = .ok (.iload_n 1, 1) := by decide +kernel
theorem dBk_truckNumbered_5 : decode cBk_truckNumbered 5 = .ok (.aload_n 0, 1) := by decide +kernel
theorem dBk_truckNumbered_6 : decode cBk_truckNumbered 6 = .ok (.getfield 35, 3) := by decide +kernel
theorem dBk_truckNumbered_9 : decode cBk_truckNumbered 9 = .ok (.if_icmp .lt 13, 3) := by decide +kernel
theorem dBk_truckNumbered_12 : decode cBk_truckNumbered 12 = .ok (.new 181, 3) := by decide +kernel
theorem dBk_truckNumbered_15 : decode cBk_truckNumbered 15 = .ok (.dup, 1) := by decide +kernel
theorem dBk_truckNumbered_16 : decode cBk_truckNumbered 16 = .ok (.ldc 203, 2) := by decide +kernel
theorem dBk_truckNumbered_18 : decode cBk_truckNumbered 18 = .ok (.invokespecial 185, 3) := by decide +kernel
theorem dBk_truckNumbered_21 : decode cBk_truckNumbered 21 = .ok (.athrow, 1) := by decide +kernel
theorem dBk_truckNumbered_22 : decode cBk_truckNumbered 22 = .ok (.aload_n 0, 1) := by decide +kernel
theorem dBk_truckNumbered_23 : decode cBk_truckNumbered 23 = .ok (.getfield 17, 3) := by decide +kernel
theorem dBk_truckNumbered_26 : decode cBk_truckNumbered 26 = .ok (.iload_n 1, 1) := by decide +kernel
theorem dBk_truckNumbered_27 : decode cBk_truckNumbered 27 = .ok (.aaload, 1) := by decide +kernel
theorem dBk_truckNumbered_28 : decode cBk_truckNumbered 28 = .ok (.areturn, 1) := by decide +kernel
abbrev cBk_doorNumbered : ByteArray := prog_1_method_23_code
abbrev mBk_doorNumbered : MD := (⟨"DockBook", "doorNumbered", "(I)LDockBook$Door;"⟩, cBk_doorNumbered, 2, some (.object "DockBook$Door"), [])
theorem dBk_doorNumbered_0 : decode cBk_doorNumbered 0 = .ok (.iload_n 1, 1) := by decide +kernel
theorem dBk_doorNumbered_1 : decode cBk_doorNumbered 1 = .ok (.ifCond .lt 11, 3) := by decide +kernel
theorem dBk_doorNumbered_4 : decode cBk_doorNumbered 4 = .ok (.iload_n 1, 1) := by decide +kernel
theorem dBk_doorNumbered_5 : decode cBk_doorNumbered 5 = .ok (.aload_n 0, 1) := by decide +kernel
theorem dBk_doorNumbered_6 : decode cBk_doorNumbered 6 = .ok (.getfield 31, 3) := by decide +kernel
theorem dBk_doorNumbered_9 : decode cBk_doorNumbered 9 = .ok (.if_icmp .lt 13, 3) := by decide +kernel
theorem dBk_doorNumbered_12 : decode cBk_doorNumbered 12 = .ok (.new 181, 3) := by decide +kernel
theorem dBk_doorNumbered_15 : decode cBk_doorNumbered 15 = .ok (.dup, 1) := by decide +kernel
theorem dBk_doorNumbered_16 : decode cBk_doorNumbered 16 = .ok (.ldc 205, 2) := by decide +kernel
theorem dBk_doorNumbered_18 : decode cBk_doorNumbered 18 = .ok (.invokespecial 185, 3) := by decide +kernel
theorem dBk_doorNumbered_21 : decode cBk_doorNumbered 21 = .ok (.athrow, 1) := by decide +kernel
theorem dBk_doorNumbered_22 : decode cBk_doorNumbered 22 = .ok (.aload_n 0, 1) := by decide +kernel
theorem dBk_doorNumbered_23 : decode cBk_doorNumbered 23 = .ok (.getfield 11, 3) := by decide +kernel
theorem dBk_doorNumbered_26 : decode cBk_doorNumbered 26 = .ok (.iload_n 1, 1) := by decide +kernel
theorem dBk_doorNumbered_27 : decode cBk_doorNumbered 27 = .ok (.aaload, 1) := by decide +kernel
theorem dBk_doorNumbered_28 : decode cBk_doorNumbered 28 = .ok (.areturn, 1) := by decide +kernel
abbrev cBk_trucksThatAre : ByteArray := prog_1_method_24_code
abbrev mBk_trucksThatAre : MD := (⟨"DockBook", "trucksThatAre", "(I)I"⟩, cBk_trucksThatAre, 4, some (.int), [])
theorem dBk_trucksThatAre_0 : decode cBk_trucksThatAre 0 = .ok (.iconst 0, 1) := by decide +kernel
theorem dBk_trucksThatAre_1 : decode cBk_trucksThatAre 1 = .ok (.istore_n 2, 1) := by decide +kernel
theorem dBk_trucksThatAre_2 : decode cBk_trucksThatAre 2 = .ok (.iconst 0, 1) := by decide +kernel
theorem dBk_trucksThatAre_3 : decode cBk_trucksThatAre 3 = .ok (.istore_n 3, 1) := by decide +kernel
theorem dBk_trucksThatAre_4 : decode cBk_trucksThatAre 4 = .ok (.iload_n 3, 1) := by decide +kernel
theorem dBk_trucksThatAre_5 : decode cBk_trucksThatAre 5 = .ok (.aload_n 0, 1) := by decide +kernel
theorem dBk_trucksThatAre_6 : decode cBk_trucksThatAre 6 = .ok (.getfield 35, 3) := by decide +kernel
theorem dBk_trucksThatAre_9 : decode cBk_trucksThatAre 9 = .ok (.if_icmp .ge 30, 3) := by decide +kernel
theorem dBk_trucksThatAre_12 : decode cBk_trucksThatAre 12 = .ok (.iload_n 2, 1) := by decide +kernel
theorem dBk_trucksThatAre_13 : decode cBk_trucksThatAre 13 = .ok (.aload_n 0, 1) := by decide +kernel
theorem dBk_trucksThatAre_14 : decode cBk_trucksThatAre 14 = .ok (.getfield 17, 3) := by decide +kernel
theorem dBk_trucksThatAre_17 : decode cBk_trucksThatAre 17 = .ok (.iload_n 3, 1) := by decide +kernel
theorem dBk_trucksThatAre_18 : decode cBk_trucksThatAre 18 = .ok (.aaload, 1) := by decide +kernel
theorem dBk_trucksThatAre_19 : decode cBk_trucksThatAre 19 = .ok (.getfield 107, 3) := by decide +kernel
theorem dBk_trucksThatAre_22 : decode cBk_trucksThatAre 22 = .ok (.iload_n 1, 1) := by decide +kernel
theorem dBk_trucksThatAre_23 : decode cBk_trucksThatAre 23 = .ok (.if_icmp .ne 7, 3) := by decide +kernel
theorem dBk_trucksThatAre_26 : decode cBk_trucksThatAre 26 = .ok (.iconst 1, 1) := by decide +kernel
theorem dBk_trucksThatAre_27 : decode cBk_trucksThatAre 27 = .ok (.goto 4, 3) := by decide +kernel
theorem dBk_trucksThatAre_30 : decode cBk_trucksThatAre 30 = .ok (.iconst 0, 1) := by decide +kernel
theorem dBk_trucksThatAre_31 : decode cBk_trucksThatAre 31 = .ok (.iadd, 1) := by decide +kernel
theorem dBk_trucksThatAre_32 : decode cBk_trucksThatAre 32 = .ok (.istore_n 2, 1) := by decide +kernel
theorem dBk_trucksThatAre_33 : decode cBk_trucksThatAre 33 = .ok (.iinc 3 1, 3) := by decide +kernel
theorem dBk_trucksThatAre_36 : decode cBk_trucksThatAre 36 = .ok (.goto (-32), 3) := by decide +kernel
theorem dBk_trucksThatAre_39 : decode cBk_trucksThatAre 39 = .ok (.iload_n 2, 1) := by decide +kernel
theorem dBk_trucksThatAre_40 : decode cBk_trucksThatAre 40 = .ok (.ireturn, 1) := by decide +kernel
abbrev cBk_plannedFor : ByteArray := prog_1_method_25_code
abbrev mBk_plannedFor : MD := (⟨"DockBook", "plannedFor", "(I)I"⟩, cBk_plannedFor, 4, some (.int), [])
theorem dBk_plannedFor_0 : decode cBk_plannedFor 0 = .ok (.iconst 0, 1) := by decide +kernel
theorem dBk_plannedFor_1 : decode cBk_plannedFor 1 = .ok (.istore_n 2, 1) := by decide +kernel
theorem dBk_plannedFor_2 : decode cBk_plannedFor 2 = .ok (.iconst 0, 1) := by decide +kernel
theorem dBk_plannedFor_3 : decode cBk_plannedFor 3 = .ok (.istore_n 3, 1) := by decide +kernel
theorem dBk_plannedFor_4 : decode cBk_plannedFor 4 = .ok (.iload_n 3, 1) := by decide +kernel
theorem dBk_plannedFor_5 : decode cBk_plannedFor 5 = .ok (.aload_n 0, 1) := by decide +kernel
theorem dBk_plannedFor_6 : decode cBk_plannedFor 6 = .ok (.getfield 35, 3) := by decide +kernel
theorem dBk_plannedFor_9 : decode cBk_plannedFor 9 = .ok (.if_icmp .ge 30, 3) := by decide +kernel
theorem dBk_plannedFor_12 : decode cBk_plannedFor 12 = .ok (.iload_n 2, 1) := by decide +kernel
theorem dBk_plannedFor_13 : decode cBk_plannedFor 13 = .ok (.aload_n 0, 1) := by decide +kernel
theorem dBk_plannedFor_14 : decode cBk_plannedFor 14 = .ok (.getfield 17, 3) := by decide +kernel
theorem dBk_plannedFor_17 : decode cBk_plannedFor 17 = .ok (.iload_n 3, 1) := by decide +kernel
theorem dBk_plannedFor_18 : decode cBk_plannedFor 18 = .ok (.aaload, 1) := by decide +kernel
theorem dBk_plannedFor_19 : decode cBk_plannedFor 19 = .ok (.iload_n 1, 1) := by decide +kernel
theorem dBk_plannedFor_20 : decode cBk_plannedFor 20 = .ok (.invokevirtual 174, 3) := by decide +kernel
theorem dBk_plannedFor_23 : decode cBk_plannedFor 23 = .ok (.ifCond .eq 7, 3) := by decide +kernel
theorem dBk_plannedFor_26 : decode cBk_plannedFor 26 = .ok (.iconst 1, 1) := by decide +kernel
theorem dBk_plannedFor_27 : decode cBk_plannedFor 27 = .ok (.goto 4, 3) := by decide +kernel
theorem dBk_plannedFor_30 : decode cBk_plannedFor 30 = .ok (.iconst 0, 1) := by decide +kernel
theorem dBk_plannedFor_31 : decode cBk_plannedFor 31 = .ok (.iadd, 1) := by decide +kernel
theorem dBk_plannedFor_32 : decode cBk_plannedFor 32 = .ok (.istore_n 2, 1) := by decide +kernel
theorem dBk_plannedFor_33 : decode cBk_plannedFor 33 = .ok (.iinc 3 1, 3) := by decide +kernel
theorem dBk_plannedFor_36 : decode cBk_plannedFor 36 = .ok (.goto (-32), 3) := by decide +kernel
theorem dBk_plannedFor_39 : decode cBk_plannedFor 39 = .ok (.iload_n 2, 1) := by decide +kernel
theorem dBk_plannedFor_40 : decode cBk_plannedFor 40 = .ok (.ireturn, 1) := by decide +kernel
abbrev cBk_plannedBefore : ByteArray := prog_1_method_26_code
abbrev mBk_plannedBefore : MD := (⟨"DockBook", "plannedBefore", "(LDockBook$Truck;)I"⟩, cBk_plannedBefore, 6, some (.int), [])
theorem dBk_plannedBefore_0 : decode cBk_plannedBefore 0 = .ok (.iconst 0, 1) := by decide +kernel
theorem dBk_plannedBefore_1 : decode cBk_plannedBefore 1 = .ok (.istore_n 2, 1) := by decide +kernel
theorem dBk_plannedBefore_2 : decode cBk_plannedBefore 2 = .ok (.iconst 0, 1) := by decide +kernel
theorem dBk_plannedBefore_3 : decode cBk_plannedBefore 3 = .ok (.istore_n 3, 1) := by decide +kernel
theorem dBk_plannedBefore_4 : decode cBk_plannedBefore 4 = .ok (.iload_n 3, 1) := by decide +kernel
theorem dBk_plannedBefore_5 : decode cBk_plannedBefore 5 = .ok (.aload_n 0, 1) := by decide +kernel
theorem dBk_plannedBefore_6 : decode cBk_plannedBefore 6 = .ok (.getfield 35, 3) := by decide +kernel
theorem dBk_plannedBefore_9 : decode cBk_plannedBefore 9 = .ok (.if_icmp .ge 85, 3) := by decide +kernel
theorem dBk_plannedBefore_12 : decode cBk_plannedBefore 12 = .ok (.aload_n 0, 1) := by decide +kernel
theorem dBk_plannedBefore_13 : decode cBk_plannedBefore 13 = .ok (.getfield 17, 3) := by decide +kernel
theorem dBk_plannedBefore_16 : decode cBk_plannedBefore 16 = .ok (.iload_n 3, 1) := by decide +kernel
theorem dBk_plannedBefore_17 : decode cBk_plannedBefore 17 = .ok (.aaload, 1) := by decide +kernel
theorem dBk_plannedBefore_18 : decode cBk_plannedBefore 18 = .ok (.astore 4, 2) := by decide +kernel
theorem dBk_plannedBefore_20 : decode cBk_plannedBefore 20 = .ok (.aload 4, 2) := by decide +kernel
theorem dBk_plannedBefore_22 : decode cBk_plannedBefore 22 = .ok (.getfield 134, 3) := by decide +kernel
theorem dBk_plannedBefore_25 : decode cBk_plannedBefore 25 = .ok (.aload_n 1, 1) := by decide +kernel
theorem dBk_plannedBefore_26 : decode cBk_plannedBefore 26 = .ok (.getfield 134, 3) := by decide +kernel
theorem dBk_plannedBefore_29 : decode cBk_plannedBefore 29 = .ok (.if_icmp .lt 27, 3) := by decide +kernel
theorem dBk_plannedBefore_32 : decode cBk_plannedBefore 32 = .ok (.aload 4, 2) := by decide +kernel
theorem dBk_plannedBefore_34 : decode cBk_plannedBefore 34 = .ok (.getfield 134, 3) := by decide +kernel
theorem dBk_plannedBefore_37 : decode cBk_plannedBefore 37 = .ok (.aload_n 1, 1) := by decide +kernel
theorem dBk_plannedBefore_38 : decode cBk_plannedBefore 38 = .ok (.getfield 134, 3) := by decide +kernel
theorem dBk_plannedBefore_41 : decode cBk_plannedBefore 41 = .ok (.if_icmp .ne 19, 3) := by decide +kernel
theorem dBk_plannedBefore_44 : decode cBk_plannedBefore 44 = .ok (.aload 4, 2) := by decide +kernel
theorem dBk_plannedBefore_46 : decode cBk_plannedBefore 46 = .ok (.getfield 207, 3) := by decide +kernel
theorem dBk_plannedBefore_49 : decode cBk_plannedBefore 49 = .ok (.aload_n 1, 1) := by decide +kernel
theorem dBk_plannedBefore_50 : decode cBk_plannedBefore 50 = .ok (.getfield 207, 3) := by decide +kernel
theorem dBk_plannedBefore_53 : decode cBk_plannedBefore 53 = .ok (.if_icmp .ge 7, 3) := by decide +kernel
theorem dBk_plannedBefore_56 : decode cBk_plannedBefore 56 = .ok (.iconst 1, 1) := by decide +kernel
theorem dBk_plannedBefore_57 : decode cBk_plannedBefore 57 = .ok (.goto 4, 3) := by decide +kernel
theorem dBk_plannedBefore_60 : decode cBk_plannedBefore 60 = .ok (.iconst 0, 1) := by decide +kernel
theorem dBk_plannedBefore_61 : decode cBk_plannedBefore 61 = .ok (.istore 5, 2) := by decide +kernel
theorem dBk_plannedBefore_63 : decode cBk_plannedBefore 63 = .ok (.iload_n 2, 1) := by decide +kernel
theorem dBk_plannedBefore_64 : decode cBk_plannedBefore 64 = .ok (.aload 4, 2) := by decide +kernel
theorem dBk_plannedBefore_66 : decode cBk_plannedBefore 66 = .ok (.aload_n 1, 1) := by decide +kernel
theorem dBk_plannedBefore_67 : decode cBk_plannedBefore 67 = .ok (.getfield 127, 3) := by decide +kernel
theorem dBk_plannedBefore_70 : decode cBk_plannedBefore 70 = .ok (.invokevirtual 174, 3) := by decide +kernel
theorem dBk_plannedBefore_73 : decode cBk_plannedBefore 73 = .ok (.ifCond .eq 12, 3) := by decide +kernel
theorem dBk_plannedBefore_76 : decode cBk_plannedBefore 76 = .ok (.iload 5, 2) := by decide +kernel
theorem dBk_plannedBefore_78 : decode cBk_plannedBefore 78 = .ok (.ifCond .eq 7, 3) := by decide +kernel
theorem dBk_plannedBefore_81 : decode cBk_plannedBefore 81 = .ok (.iconst 1, 1) := by decide +kernel
theorem dBk_plannedBefore_82 : decode cBk_plannedBefore 82 = .ok (.goto 4, 3) := by decide +kernel
theorem dBk_plannedBefore_85 : decode cBk_plannedBefore 85 = .ok (.iconst 0, 1) := by decide +kernel
theorem dBk_plannedBefore_86 : decode cBk_plannedBefore 86 = .ok (.iadd, 1) := by decide +kernel
theorem dBk_plannedBefore_87 : decode cBk_plannedBefore 87 = .ok (.istore_n 2, 1) := by decide +kernel
theorem dBk_plannedBefore_88 : decode cBk_plannedBefore 88 = .ok (.iinc 3 1, 3) := by decide +kernel
theorem dBk_plannedBefore_91 : decode cBk_plannedBefore 91 = .ok (.goto (-87), 3) := by decide +kernel
theorem dBk_plannedBefore_94 : decode cBk_plannedBefore 94 = .ok (.iload_n 2, 1) := by decide +kernel
theorem dBk_plannedBefore_95 : decode cBk_plannedBefore 95 = .ok (.ireturn, 1) := by decide +kernel
abbrev cBk_planCost : ByteArray := prog_1_method_27_code
abbrev mBk_planCost : MD := (⟨"DockBook", "planCost", "()I"⟩, cBk_planCost, 3, some (.int), [])
theorem dBk_planCost_0 : decode cBk_planCost 0 = .ok (.iconst 0, 1) := by decide +kernel
theorem dBk_planCost_1 : decode cBk_planCost 1 = .ok (.istore_n 1, 1) := by decide +kernel
theorem dBk_planCost_2 : decode cBk_planCost 2 = .ok (.iconst 0, 1) := by decide +kernel
theorem dBk_planCost_3 : decode cBk_planCost 3 = .ok (.istore_n 2, 1) := by decide +kernel
theorem dBk_planCost_4 : decode cBk_planCost 4 = .ok (.iload_n 2, 1) := by decide +kernel
theorem dBk_planCost_5 : decode cBk_planCost 5 = .ok (.aload_n 0, 1) := by decide +kernel
theorem dBk_planCost_6 : decode cBk_planCost 6 = .ok (.getfield 35, 3) := by decide +kernel
theorem dBk_planCost_9 : decode cBk_planCost 9 = .ok (.if_icmp .ge 46, 3) := by decide +kernel
theorem dBk_planCost_12 : decode cBk_planCost 12 = .ok (.iload_n 1, 1) := by decide +kernel
theorem dBk_planCost_13 : decode cBk_planCost 13 = .ok (.aload_n 0, 1) := by decide +kernel
theorem dBk_planCost_14 : decode cBk_planCost 14 = .ok (.getfield 17, 3) := by decide +kernel
theorem dBk_planCost_17 : decode cBk_planCost 17 = .ok (.iload_n 2, 1) := by decide +kernel
theorem dBk_planCost_18 : decode cBk_planCost 18 = .ok (.aaload, 1) := by decide +kernel
theorem dBk_planCost_19 : decode cBk_planCost 19 = .ok (.getfield 107, 3) := by decide +kernel
theorem dBk_planCost_22 : decode cBk_planCost 22 = .ok (.ifCond .ne 24, 3) := by decide +kernel
theorem dBk_planCost_25 : decode cBk_planCost 25 = .ok (.aload_n 0, 1) := by decide +kernel
theorem dBk_planCost_26 : decode cBk_planCost 26 = .ok (.getfield 17, 3) := by decide +kernel
theorem dBk_planCost_29 : decode cBk_planCost 29 = .ok (.iload_n 2, 1) := by decide +kernel
theorem dBk_planCost_30 : decode cBk_planCost 30 = .ok (.aaload, 1) := by decide +kernel
theorem dBk_planCost_31 : decode cBk_planCost 31 = .ok (.aload_n 0, 1) := by decide +kernel
theorem dBk_planCost_32 : decode cBk_planCost 32 = .ok (.getfield 17, 3) := by decide +kernel
theorem dBk_planCost_35 : decode cBk_planCost 35 = .ok (.iload_n 2, 1) := by decide +kernel
theorem dBk_planCost_36 : decode cBk_planCost 36 = .ok (.aaload, 1) := by decide +kernel
theorem dBk_planCost_37 : decode cBk_planCost 37 = .ok (.getfield 134, 3) := by decide +kernel
theorem dBk_planCost_40 : decode cBk_planCost 40 = .ok (.invokevirtual 210, 3) := by decide +kernel
theorem dBk_planCost_43 : decode cBk_planCost 43 = .ok (.goto 4, 3) := by decide +kernel
theorem dBk_planCost_46 : decode cBk_planCost 46 = .ok (.iconst 0, 1) := by decide +kernel
theorem dBk_planCost_47 : decode cBk_planCost 47 = .ok (.iadd, 1) := by decide +kernel
theorem dBk_planCost_48 : decode cBk_planCost 48 = .ok (.istore_n 1, 1) := by decide +kernel
theorem dBk_planCost_49 : decode cBk_planCost 49 = .ok (.iinc 2 1, 3) := by decide +kernel
theorem dBk_planCost_52 : decode cBk_planCost 52 = .ok (.goto (-48), 3) := by decide +kernel
theorem dBk_planCost_55 : decode cBk_planCost 55 = .ok (.iload_n 1, 1) := by decide +kernel
theorem dBk_planCost_56 : decode cBk_planCost 56 = .ok (.ireturn, 1) := by decide +kernel
abbrev cBk_costAlone : ByteArray := prog_1_method_28_code
abbrev mBk_costAlone : MD := (⟨"DockBook", "costAlone", "(LDockBook$Truck;)I"⟩, cBk_costAlone, 5, some (.int), [])
theorem dBk_costAlone_0 : decode cBk_costAlone 0 = .ok (.sipush 5000, 3) := by decide +kernel
theorem dBk_costAlone_3 : decode cBk_costAlone 3 = .ok (.istore_n 2, 1) := by decide +kernel
theorem dBk_costAlone_4 : decode cBk_costAlone 4 = .ok (.iconst 0, 1) := by decide +kernel
theorem dBk_costAlone_5 : decode cBk_costAlone 5 = .ok (.istore_n 3, 1) := by decide +kernel
theorem dBk_costAlone_6 : decode cBk_costAlone 6 = .ok (.iload_n 3, 1) := by decide +kernel
theorem dBk_costAlone_7 : decode cBk_costAlone 7 = .ok (.aload_n 0, 1) := by decide +kernel
theorem dBk_costAlone_8 : decode cBk_costAlone 8 = .ok (.getfield 31, 3) := by decide +kernel
theorem dBk_costAlone_11 : decode cBk_costAlone 11 = .ok (.if_icmp .ge 45, 3) := by decide +kernel
theorem dBk_costAlone_14 : decode cBk_costAlone 14 = .ok (.aload_n 0, 1) := by decide +kernel
theorem dBk_costAlone_15 : decode cBk_costAlone 15 = .ok (.getfield 11, 3) := by decide +kernel
theorem dBk_costAlone_18 : decode cBk_costAlone 18 = .ok (.iload_n 3, 1) := by decide +kernel
theorem dBk_costAlone_19 : decode cBk_costAlone 19 = .ok (.aaload, 1) := by decide +kernel
theorem dBk_costAlone_20 : decode cBk_costAlone 20 = .ok (.aload_n 1, 1) := by decide +kernel
theorem dBk_costAlone_21 : decode cBk_costAlone 21 = .ok (.aload_n 0, 1) := by decide +kernel
theorem dBk_costAlone_22 : decode cBk_costAlone 22 = .ok (.getfield 11, 3) := by decide +kernel
theorem dBk_costAlone_25 : decode cBk_costAlone 25 = .ok (.iload_n 3, 1) := by decide +kernel
theorem dBk_costAlone_26 : decode cBk_costAlone 26 = .ok (.aaload, 1) := by decide +kernel
theorem dBk_costAlone_27 : decode cBk_costAlone 27 = .ok (.aload_n 0, 1) := by decide +kernel
theorem dBk_costAlone_28 : decode cBk_costAlone 28 = .ok (.getfield 38, 3) := by decide +kernel
theorem dBk_costAlone_31 : decode cBk_costAlone 31 = .ok (.invokevirtual 213, 3) := by decide +kernel
theorem dBk_costAlone_34 : decode cBk_costAlone 34 = .ok (.invokevirtual 216, 3) := by decide +kernel
theorem dBk_costAlone_37 : decode cBk_costAlone 37 = .ok (.istore 4, 2) := by decide +kernel
theorem dBk_costAlone_39 : decode cBk_costAlone 39 = .ok (.iload_n 2, 1) := by decide +kernel
theorem dBk_costAlone_40 : decode cBk_costAlone 40 = .ok (.aload_n 1, 1) := by decide +kernel
theorem dBk_costAlone_41 : decode cBk_costAlone 41 = .ok (.iload 4, 2) := by decide +kernel
theorem dBk_costAlone_43 : decode cBk_costAlone 43 = .ok (.invokevirtual 210, 3) := by decide +kernel
theorem dBk_costAlone_46 : decode cBk_costAlone 46 = .ok (.invokestatic 220, 3) := by decide +kernel
theorem dBk_costAlone_49 : decode cBk_costAlone 49 = .ok (.istore_n 2, 1) := by decide +kernel
theorem dBk_costAlone_50 : decode cBk_costAlone 50 = .ok (.iinc 3 1, 3) := by decide +kernel
theorem dBk_costAlone_53 : decode cBk_costAlone 53 = .ok (.goto (-47), 3) := by decide +kernel
theorem dBk_costAlone_56 : decode cBk_costAlone 56 = .ok (.iload_n 2, 1) := by decide +kernel
theorem dBk_costAlone_57 : decode cBk_costAlone 57 = .ok (.ireturn, 1) := by decide +kernel
abbrev cBk_mayBeCalled : ByteArray := prog_1_method_29_code
abbrev mBk_mayBeCalled : MD := (⟨"DockBook", "mayBeCalled", "(LDockBook$Truck;)Z"⟩, cBk_mayBeCalled, 3, some (.boolean), [])
theorem dBk_mayBeCalled_0 : decode cBk_mayBeCalled 0 = .ok (.aload_n 1, 1) := by decide +kernel
theorem dBk_mayBeCalled_1 : decode cBk_mayBeCalled 1 = .ok (.getfield 107, 3) := by decide +kernel
theorem dBk_mayBeCalled_4 : decode cBk_mayBeCalled 4 = .ok (.ifCond .ne 22, 3) := by decide +kernel
theorem dBk_mayBeCalled_7 : decode cBk_mayBeCalled 7 = .ok (.aload_n 1, 1) := by decide +kernel
theorem dBk_mayBeCalled_8 : decode cBk_mayBeCalled 8 = .ok (.getfield 127, 3) := by decide +kernel
theorem dBk_mayBeCalled_11 : decode cBk_mayBeCalled 11 = .ok (.iconst (-1), 1) := by decide +kernel
theorem dBk_mayBeCalled_12 : decode cBk_mayBeCalled 12 = .ok (.if_icmp .eq 14, 3) := by decide +kernel
theorem dBk_mayBeCalled_15 : decode cBk_mayBeCalled 15 = .ok (.aload_n 1, 1) := by decide +kernel
theorem dBk_mayBeCalled_16 : decode cBk_mayBeCalled 16 = .ok (.getfield 134, 3) := by decide +kernel
theorem dBk_mayBeCalled_19 : decode cBk_mayBeCalled 19 = .ok (.aload_n 0, 1) := by decide +kernel
theorem dBk_mayBeCalled_20 : decode cBk_mayBeCalled 20 = .ok (.getfield 38, 3) := by decide +kernel
theorem dBk_mayBeCalled_23 : decode cBk_mayBeCalled 23 = .ok (.if_icmp .le 5, 3) := by decide +kernel
theorem dBk_mayBeCalled_26 : decode cBk_mayBeCalled 26 = .ok (.iconst 0, 1) := by decide +kernel
theorem dBk_mayBeCalled_27 : decode cBk_mayBeCalled 27 = .ok (.ireturn, 1) := by decide +kernel
theorem dBk_mayBeCalled_28 : decode cBk_mayBeCalled 28 = .ok (.aload_n 0, 1) := by decide +kernel
theorem dBk_mayBeCalled_29 : decode cBk_mayBeCalled 29 = .ok (.aload_n 1, 1) := by decide +kernel
theorem dBk_mayBeCalled_30 : decode cBk_mayBeCalled 30 = .ok (.getfield 127, 3) := by decide +kernel
theorem dBk_mayBeCalled_33 : decode cBk_mayBeCalled 33 = .ok (.invokevirtual 130, 3) := by decide +kernel
theorem dBk_mayBeCalled_36 : decode cBk_mayBeCalled 36 = .ok (.astore_n 2, 1) := by decide +kernel
theorem dBk_mayBeCalled_37 : decode cBk_mayBeCalled 37 = .ok (.aload_n 2, 1) := by decide +kernel
theorem dBk_mayBeCalled_38 : decode cBk_mayBeCalled 38 = .ok (.getfield 169, 3) := by decide +kernel
theorem dBk_mayBeCalled_41 : decode cBk_mayBeCalled 41 = .ok (.ifCond .ne 31, 3) := by decide +kernel
theorem dBk_mayBeCalled_44 : decode cBk_mayBeCalled 44 = .ok (.aload_n 2, 1) := by decide +kernel
theorem dBk_mayBeCalled_45 : decode cBk_mayBeCalled 45 = .ok (.getfield 137, 3) := by decide +kernel
theorem dBk_mayBeCalled_48 : decode cBk_mayBeCalled 48 = .ok (.iconst (-1), 1) := by decide +kernel
theorem dBk_mayBeCalled_49 : decode cBk_mayBeCalled 49 = .ok (.if_icmp .ne 23, 3) := by decide +kernel
theorem dBk_mayBeCalled_52 : decode cBk_mayBeCalled 52 = .ok (.aload_n 0, 1) := by decide +kernel
theorem dBk_mayBeCalled_53 : decode cBk_mayBeCalled 53 = .ok (.getfield 38, 3) := by decide +kernel
theorem dBk_mayBeCalled_56 : decode cBk_mayBeCalled 56 = .ok (.aload_n 1, 1) := by decide +kernel
theorem dBk_mayBeCalled_57 : decode cBk_mayBeCalled 57 = .ok (.getfield 80, 3) := by decide +kernel
theorem dBk_mayBeCalled_60 : decode cBk_mayBeCalled 60 = .ok (.iadd, 1) := by decide +kernel
theorem dBk_mayBeCalled_61 : decode cBk_mayBeCalled 61 = .ok (.aload_n 2, 1) := by decide +kernel
theorem dBk_mayBeCalled_62 : decode cBk_mayBeCalled 62 = .ok (.getfield 69, 3) := by decide +kernel
theorem dBk_mayBeCalled_65 : decode cBk_mayBeCalled 65 = .ok (.if_icmp .gt 7, 3) := by decide +kernel
theorem dBk_mayBeCalled_68 : decode cBk_mayBeCalled 68 = .ok (.iconst 1, 1) := by decide +kernel
theorem dBk_mayBeCalled_69 : decode cBk_mayBeCalled 69 = .ok (.goto 4, 3) := by decide +kernel
theorem dBk_mayBeCalled_72 : decode cBk_mayBeCalled 72 = .ok (.iconst 0, 1) := by decide +kernel
theorem dBk_mayBeCalled_73 : decode cBk_mayBeCalled 73 = .ok (.ireturn, 1) := by decide +kernel
abbrev cBk_gatherWaiting : ByteArray := prog_1_method_30_code
abbrev mBk_gatherWaiting : MD := (⟨"DockBook", "gatherWaiting", "()I"⟩, cBk_gatherWaiting, 3, some (.int), [])
theorem dBk_gatherWaiting_0 : decode cBk_gatherWaiting 0 = .ok (.iconst 0, 1) := by decide +kernel
theorem dBk_gatherWaiting_1 : decode cBk_gatherWaiting 1 = .ok (.istore_n 1, 1) := by decide +kernel
theorem dBk_gatherWaiting_2 : decode cBk_gatherWaiting 2 = .ok (.iconst 0, 1) := by decide +kernel
theorem dBk_gatherWaiting_3 : decode cBk_gatherWaiting 3 = .ok (.istore_n 2, 1) := by decide +kernel
theorem dBk_gatherWaiting_4 : decode cBk_gatherWaiting 4 = .ok (.iload_n 2, 1) := by decide +kernel
theorem dBk_gatherWaiting_5 : decode cBk_gatherWaiting 5 = .ok (.aload_n 0, 1) := by decide +kernel
theorem dBk_gatherWaiting_6 : decode cBk_gatherWaiting 6 = .ok (.getfield 35, 3) := by decide +kernel
theorem dBk_gatherWaiting_9 : decode cBk_gatherWaiting 9 = .ok (.if_icmp .ge 36, 3) := by decide +kernel
theorem dBk_gatherWaiting_12 : decode cBk_gatherWaiting 12 = .ok (.aload_n 0, 1) := by decide +kernel
theorem dBk_gatherWaiting_13 : decode cBk_gatherWaiting 13 = .ok (.getfield 17, 3) := by decide +kernel
theorem dBk_gatherWaiting_16 : decode cBk_gatherWaiting 16 = .ok (.iload_n 2, 1) := by decide +kernel
theorem dBk_gatherWaiting_17 : decode cBk_gatherWaiting 17 = .ok (.aaload, 1) := by decide +kernel
theorem dBk_gatherWaiting_18 : decode cBk_gatherWaiting 18 = .ok (.getfield 107, 3) := by decide +kernel
theorem dBk_gatherWaiting_21 : decode cBk_gatherWaiting 21 = .ok (.ifCond .ne 18, 3) := by decide +kernel
theorem dBk_gatherWaiting_24 : decode cBk_gatherWaiting 24 = .ok (.aload_n 0, 1) := by decide +kernel
theorem dBk_gatherWaiting_25 : decode cBk_gatherWaiting 25 = .ok (.getfield 21, 3) := by decide +kernel
theorem dBk_gatherWaiting_28 : decode cBk_gatherWaiting 28 = .ok (.iload_n 1, 1) := by decide +kernel
theorem dBk_gatherWaiting_29 : decode cBk_gatherWaiting 29 = .ok (.aload_n 0, 1) := by decide +kernel
theorem dBk_gatherWaiting_30 : decode cBk_gatherWaiting 30 = .ok (.getfield 17, 3) := by decide +kernel
theorem dBk_gatherWaiting_33 : decode cBk_gatherWaiting 33 = .ok (.iload_n 2, 1) := by decide +kernel
theorem dBk_gatherWaiting_34 : decode cBk_gatherWaiting 34 = .ok (.aaload, 1) := by decide +kernel
theorem dBk_gatherWaiting_35 : decode cBk_gatherWaiting 35 = .ok (.aastore, 1) := by decide +kernel
theorem dBk_gatherWaiting_36 : decode cBk_gatherWaiting 36 = .ok (.iinc 1 1, 3) := by decide +kernel
theorem dBk_gatherWaiting_39 : decode cBk_gatherWaiting 39 = .ok (.iinc 2 1, 3) := by decide +kernel
theorem dBk_gatherWaiting_42 : decode cBk_gatherWaiting 42 = .ok (.goto (-38), 3) := by decide +kernel
theorem dBk_gatherWaiting_45 : decode cBk_gatherWaiting 45 = .ok (.iload_n 1, 1) := by decide +kernel
theorem dBk_gatherWaiting_46 : decode cBk_gatherWaiting 46 = .ok (.ireturn, 1) := by decide +kernel
abbrev cBk_planByRule : ByteArray := prog_1_method_31_code
abbrev mBk_planByRule : MD := (⟨"DockBook", "planByRule", "(I)V"⟩, cBk_planByRule, 3, none, [])
theorem dBk_planByRule_0 : decode cBk_planByRule 0 = .ok (.aload_n 0, 1) := by decide +kernel
theorem dBk_planByRule_1 : decode cBk_planByRule 1 = .ok (.iload_n 1, 1) := by decide +kernel
theorem dBk_planByRule_2 : decode cBk_planByRule 2 = .ok (.invokevirtual 226, 3) := by decide +kernel
theorem dBk_planByRule_5 : decode cBk_planByRule 5 = .ok (.iconst 0, 1) := by decide +kernel
theorem dBk_planByRule_6 : decode cBk_planByRule 6 = .ok (.istore_n 2, 1) := by decide +kernel
theorem dBk_planByRule_7 : decode cBk_planByRule 7 = .ok (.iload_n 2, 1) := by decide +kernel
theorem dBk_planByRule_8 : decode cBk_planByRule 8 = .ok (.aload_n 0, 1) := by decide +kernel
theorem dBk_planByRule_9 : decode cBk_planByRule 9 = .ok (.getfield 31, 3) := by decide +kernel
theorem dBk_planByRule_12 : decode cBk_planByRule 12 = .ok (.if_icmp .ge 31, 3) := by decide +kernel
theorem dBk_planByRule_15 : decode cBk_planByRule 15 = .ok (.aload_n 0, 1) := by decide +kernel
theorem dBk_planByRule_16 : decode cBk_planByRule 16 = .ok (.getfield 11, 3) := by decide +kernel
theorem dBk_planByRule_19 : decode cBk_planByRule 19 = .ok (.iload_n 2, 1) := by decide +kernel
theorem dBk_planByRule_20 : decode cBk_planByRule 20 = .ok (.aaload, 1) := by decide +kernel
theorem dBk_planByRule_21 : decode cBk_planByRule 21 = .ok (.aload_n 0, 1) := by decide +kernel
theorem dBk_planByRule_22 : decode cBk_planByRule 22 = .ok (.getfield 11, 3) := by decide +kernel
theorem dBk_planByRule_25 : decode cBk_planByRule 25 = .ok (.iload_n 2, 1) := by decide +kernel
theorem dBk_planByRule_26 : decode cBk_planByRule 26 = .ok (.aaload, 1) := by decide +kernel
theorem dBk_planByRule_27 : decode cBk_planByRule 27 = .ok (.aload_n 0, 1) := by decide +kernel
theorem dBk_planByRule_28 : decode cBk_planByRule 28 = .ok (.getfield 38, 3) := by decide +kernel
theorem dBk_planByRule_31 : decode cBk_planByRule 31 = .ok (.invokevirtual 213, 3) := by decide +kernel
theorem dBk_planByRule_34 : decode cBk_planByRule 34 = .ok (.putfield 229, 3) := by decide +kernel
theorem dBk_planByRule_37 : decode cBk_planByRule 37 = .ok (.iinc 2 1, 3) := by decide +kernel
theorem dBk_planByRule_40 : decode cBk_planByRule 40 = .ok (.goto (-33), 3) := by decide +kernel
theorem dBk_planByRule_43 : decode cBk_planByRule 43 = .ok (.iconst 0, 1) := by decide +kernel
theorem dBk_planByRule_44 : decode cBk_planByRule 44 = .ok (.istore_n 2, 1) := by decide +kernel
theorem dBk_planByRule_45 : decode cBk_planByRule 45 = .ok (.iload_n 2, 1) := by decide +kernel
theorem dBk_planByRule_46 : decode cBk_planByRule 46 = .ok (.iload_n 1, 1) := by decide +kernel
theorem dBk_planByRule_47 : decode cBk_planByRule 47 = .ok (.if_icmp .ge 19, 3) := by decide +kernel
theorem dBk_planByRule_50 : decode cBk_planByRule 50 = .ok (.aload_n 0, 1) := by decide +kernel
theorem dBk_planByRule_51 : decode cBk_planByRule 51 = .ok (.aload_n 0, 1) := by decide +kernel
theorem dBk_planByRule_52 : decode cBk_planByRule 52 = .ok (.getfield 21, 3) := by decide +kernel
theorem dBk_planByRule_55 : decode cBk_planByRule 55 = .ok (.iload_n 2, 1) := by decide +kernel
theorem dBk_planByRule_56 : decode cBk_planByRule 56 = .ok (.aaload, 1) := by decide +kernel
theorem dBk_planByRule_57 : decode cBk_planByRule 57 = .ok (.invokevirtual 232, 3) := by decide +kernel
theorem dBk_planByRule_60 : decode cBk_planByRule 60 = .ok (.iinc 2 1, 3) := by decide +kernel
theorem dBk_planByRule_63 : decode cBk_planByRule 63 = .ok (.goto (-18), 3) := by decide +kernel
theorem dBk_planByRule_66 : decode cBk_planByRule 66 = .ok (.return_, 1) := by decide +kernel
abbrev cBk_sortByRule : ByteArray := prog_1_method_32_code
abbrev mBk_sortByRule : MD := (⟨"DockBook", "sortByRule", "(I)V"⟩, cBk_sortByRule, 5, none, [])
theorem dBk_sortByRule_0 : decode cBk_sortByRule 0 = .ok (.iconst 1, 1) := by decide +kernel
theorem dBk_sortByRule_1 : decode cBk_sortByRule 1 = .ok (.istore_n 2, 1) := by decide +kernel
theorem dBk_sortByRule_2 : decode cBk_sortByRule 2 = .ok (.iload_n 2, 1) := by decide +kernel
theorem dBk_sortByRule_3 : decode cBk_sortByRule 3 = .ok (.iload_n 1, 1) := by decide +kernel
theorem dBk_sortByRule_4 : decode cBk_sortByRule 4 = .ok (.if_icmp .ge 70, 3) := by decide +kernel
theorem dBk_sortByRule_7 : decode cBk_sortByRule 7 = .ok (.aload_n 0, 1) := by decide +kernel
theorem dBk_sortByRule_8 : decode cBk_sortByRule 8 = .ok (.getfield 21, 3) := by decide +kernel
theorem dBk_sortByRule_11 : decode cBk_sortByRule 11 = .ok (.iload_n 2, 1) := by decide +kernel
theorem dBk_sortByRule_12 : decode cBk_sortByRule 12 = .ok (.aaload, 1) := by decide +kernel
theorem dBk_sortByRule_13 : decode cBk_sortByRule 13 = .ok (.astore_n 3, 1) := by decide +kernel
theorem dBk_sortByRule_14 : decode cBk_sortByRule 14 = .ok (.iload_n 2, 1) := by decide +kernel
theorem dBk_sortByRule_15 : decode cBk_sortByRule 15 = .ok (.istore 4, 2) := by decide +kernel
theorem dBk_sortByRule_17 : decode cBk_sortByRule 17 = .ok (.iload 4, 2) := by decide +kernel
theorem dBk_sortByRule_19 : decode cBk_sortByRule 19 = .ok (.ifCond .le 41, 3) := by decide +kernel
theorem dBk_sortByRule_22 : decode cBk_sortByRule 22 = .ok (.aload_n 3, 1) := by decide +kernel
theorem dBk_sortByRule_23 : decode cBk_sortByRule 23 = .ok (.aload_n 0, 1) := by decide +kernel
theorem dBk_sortByRule_24 : decode cBk_sortByRule 24 = .ok (.getfield 21, 3) := by decide +kernel
theorem dBk_sortByRule_27 : decode cBk_sortByRule 27 = .ok (.iload 4, 2) := by decide +kernel
theorem dBk_sortByRule_29 : decode cBk_sortByRule 29 = .ok (.iconst 1, 1) := by decide +kernel
theorem dBk_sortByRule_30 : decode cBk_sortByRule 30 = .ok (.isub, 1) := by decide +kernel
theorem dBk_sortByRule_31 : decode cBk_sortByRule 31 = .ok (.aaload, 1) := by decide +kernel
theorem dBk_sortByRule_32 : decode cBk_sortByRule 32 = .ok (.invokevirtual 236, 3) := by decide +kernel
theorem dBk_sortByRule_35 : decode cBk_sortByRule 35 = .ok (.ifCond .eq 25, 3) := by decide +kernel
theorem dBk_sortByRule_38 : decode cBk_sortByRule 38 = .ok (.aload_n 0, 1) := by decide +kernel
theorem dBk_sortByRule_39 : decode cBk_sortByRule 39 = .ok (.getfield 21, 3) := by decide +kernel
theorem dBk_sortByRule_42 : decode cBk_sortByRule 42 = .ok (.iload 4, 2) := by decide +kernel
theorem dBk_sortByRule_44 : decode cBk_sortByRule 44 = .ok (.aload_n 0, 1) := by decide +kernel
theorem dBk_sortByRule_45 : decode cBk_sortByRule 45 = .ok (.getfield 21, 3) := by decide +kernel
theorem dBk_sortByRule_48 : decode cBk_sortByRule 48 = .ok (.iload 4, 2) := by decide +kernel
theorem dBk_sortByRule_50 : decode cBk_sortByRule 50 = .ok (.iconst 1, 1) := by decide +kernel
theorem dBk_sortByRule_51 : decode cBk_sortByRule 51 = .ok (.isub, 1) := by decide +kernel
theorem dBk_sortByRule_52 : decode cBk_sortByRule 52 = .ok (.aaload, 1) := by decide +kernel
theorem dBk_sortByRule_53 : decode cBk_sortByRule 53 = .ok (.aastore, 1) := by decide +kernel
theorem dBk_sortByRule_54 : decode cBk_sortByRule 54 = .ok (.iinc 4 (-1), 3) := by decide +kernel
theorem dBk_sortByRule_57 : decode cBk_sortByRule 57 = .ok (.goto (-40), 3) := by decide +kernel
theorem dBk_sortByRule_60 : decode cBk_sortByRule 60 = .ok (.aload_n 0, 1) := by decide +kernel
theorem dBk_sortByRule_61 : decode cBk_sortByRule 61 = .ok (.getfield 21, 3) := by decide +kernel
theorem dBk_sortByRule_64 : decode cBk_sortByRule 64 = .ok (.iload 4, 2) := by decide +kernel
theorem dBk_sortByRule_66 : decode cBk_sortByRule 66 = .ok (.aload_n 3, 1) := by decide +kernel
theorem dBk_sortByRule_67 : decode cBk_sortByRule 67 = .ok (.aastore, 1) := by decide +kernel
theorem dBk_sortByRule_68 : decode cBk_sortByRule 68 = .ok (.iinc 2 1, 3) := by decide +kernel
theorem dBk_sortByRule_71 : decode cBk_sortByRule 71 = .ok (.goto (-69), 3) := by decide +kernel
theorem dBk_sortByRule_74 : decode cBk_sortByRule 74 = .ok (.return_, 1) := by decide +kernel
abbrev cBk_placeByRule : ByteArray := prog_1_method_33_code
abbrev mBk_placeByRule : MD := (⟨"DockBook", "placeByRule", "(LDockBook$Truck;)V"⟩, cBk_placeByRule, 6, none, [])
theorem dBk_placeByRule_0 : decode cBk_placeByRule 0 = .ok (.iconst (-1), 1) := by decide +kernel
theorem dBk_placeByRule_1 : decode cBk_placeByRule 1 = .ok (.istore_n 2, 1) := by decide +kernel
theorem dBk_placeByRule_2 : decode cBk_placeByRule 2 = .ok (.iconst (-1), 1) := by decide +kernel
theorem dBk_placeByRule_3 : decode cBk_placeByRule 3 = .ok (.istore_n 3, 1) := by decide +kernel
theorem dBk_placeByRule_4 : decode cBk_placeByRule 4 = .ok (.iconst 0, 1) := by decide +kernel
theorem dBk_placeByRule_5 : decode cBk_placeByRule 5 = .ok (.istore 4, 2) := by decide +kernel
theorem dBk_placeByRule_7 : decode cBk_placeByRule 7 = .ok (.iload 4, 2) := by decide +kernel
theorem dBk_placeByRule_9 : decode cBk_placeByRule 9 = .ok (.aload_n 0, 1) := by decide +kernel
theorem dBk_placeByRule_10 : decode cBk_placeByRule 10 = .ok (.getfield 31, 3) := by decide +kernel
theorem dBk_placeByRule_13 : decode cBk_placeByRule 13 = .ok (.if_icmp .ge 55, 3) := by decide +kernel
theorem dBk_placeByRule_16 : decode cBk_placeByRule 16 = .ok (.aload_n 0, 1) := by decide +kernel
theorem dBk_placeByRule_17 : decode cBk_placeByRule 17 = .ok (.getfield 11, 3) := by decide +kernel
theorem dBk_placeByRule_20 : decode cBk_placeByRule 20 = .ok (.iload 4, 2) := by decide +kernel
theorem dBk_placeByRule_22 : decode cBk_placeByRule 22 = .ok (.aaload, 1) := by decide +kernel
theorem dBk_placeByRule_23 : decode cBk_placeByRule 23 = .ok (.aload_n 1, 1) := by decide +kernel
theorem dBk_placeByRule_24 : decode cBk_placeByRule 24 = .ok (.aload_n 0, 1) := by decide +kernel
theorem dBk_placeByRule_25 : decode cBk_placeByRule 25 = .ok (.getfield 11, 3) := by decide +kernel
theorem dBk_placeByRule_28 : decode cBk_placeByRule 28 = .ok (.iload 4, 2) := by decide +kernel
theorem dBk_placeByRule_30 : decode cBk_placeByRule 30 = .ok (.aaload, 1) := by decide +kernel
theorem dBk_placeByRule_31 : decode cBk_placeByRule 31 = .ok (.getfield 229, 3) := by decide +kernel
theorem dBk_placeByRule_34 : decode cBk_placeByRule 34 = .ok (.invokevirtual 216, 3) := by decide +kernel
theorem dBk_placeByRule_37 : decode cBk_placeByRule 37 = .ok (.istore 5, 2) := by decide +kernel
theorem dBk_placeByRule_39 : decode cBk_placeByRule 39 = .ok (.iload 5, 2) := by decide +kernel
theorem dBk_placeByRule_41 : decode cBk_placeByRule 41 = .ok (.iconst (-1), 1) := by decide +kernel
theorem dBk_placeByRule_42 : decode cBk_placeByRule 42 = .ok (.if_icmp .eq 20, 3) := by decide +kernel
theorem dBk_placeByRule_45 : decode cBk_placeByRule 45 = .ok (.iload_n 2, 1) := by decide +kernel
theorem dBk_placeByRule_46 : decode cBk_placeByRule 46 = .ok (.iconst (-1), 1) := by decide +kernel
theorem dBk_placeByRule_47 : decode cBk_placeByRule 47 = .ok (.if_icmp .eq 9, 3) := by decide +kernel
theorem dBk_placeByRule_50 : decode cBk_placeByRule 50 = .ok (.iload 5, 2) := by decide +kernel
theorem dBk_placeByRule_52 : decode cBk_placeByRule 52 = .ok (.iload_n 3, 1) := by decide +kernel
theorem dBk_placeByRule_53 : decode cBk_placeByRule 53 = .ok (.if_icmp .ge 9, 3) := by decide +kernel
theorem dBk_placeByRule_56 : decode cBk_placeByRule 56 = .ok (.iload 4, 2) := by decide +kernel
theorem dBk_placeByRule_58 : decode cBk_placeByRule 58 = .ok (.istore_n 2, 1) := by decide +kernel
theorem dBk_placeByRule_59 : decode cBk_placeByRule 59 = .ok (.iload 5, 2) := by decide +kernel
theorem dBk_placeByRule_61 : decode cBk_placeByRule 61 = .ok (.istore_n 3, 1) := by decide +kernel
theorem dBk_placeByRule_62 : decode cBk_placeByRule 62 = .ok (.iinc 4 1, 3) := by decide +kernel
theorem dBk_placeByRule_65 : decode cBk_placeByRule 65 = .ok (.goto (-58), 3) := by decide +kernel
theorem dBk_placeByRule_68 : decode cBk_placeByRule 68 = .ok (.aload_n 1, 1) := by decide +kernel
theorem dBk_placeByRule_69 : decode cBk_placeByRule 69 = .ok (.iload_n 2, 1) := by decide +kernel
theorem dBk_placeByRule_70 : decode cBk_placeByRule 70 = .ok (.iload_n 3, 1) := by decide +kernel
theorem dBk_placeByRule_71 : decode cBk_placeByRule 71 = .ok (.invokevirtual 165, 3) := by decide +kernel
theorem dBk_placeByRule_74 : decode cBk_placeByRule 74 = .ok (.iload_n 2, 1) := by decide +kernel
theorem dBk_placeByRule_75 : decode cBk_placeByRule 75 = .ok (.iconst (-1), 1) := by decide +kernel
theorem dBk_placeByRule_76 : decode cBk_placeByRule 76 = .ok (.if_icmp .eq 18, 3) := by decide +kernel
theorem dBk_placeByRule_79 : decode cBk_placeByRule 79 = .ok (.aload_n 0, 1) := by decide +kernel
theorem dBk_placeByRule_80 : decode cBk_placeByRule 80 = .ok (.getfield 11, 3) := by decide +kernel
theorem dBk_placeByRule_83 : decode cBk_placeByRule 83 = .ok (.iload_n 2, 1) := by decide +kernel
theorem dBk_placeByRule_84 : decode cBk_placeByRule 84 = .ok (.aaload, 1) := by decide +kernel
theorem dBk_placeByRule_85 : decode cBk_placeByRule 85 = .ok (.iload_n 3, 1) := by decide +kernel
theorem dBk_placeByRule_86 : decode cBk_placeByRule 86 = .ok (.aload_n 1, 1) := by decide +kernel
theorem dBk_placeByRule_87 : decode cBk_placeByRule 87 = .ok (.getfield 80, 3) := by decide +kernel
theorem dBk_placeByRule_90 : decode cBk_placeByRule 90 = .ok (.iadd, 1) := by decide +kernel
theorem dBk_placeByRule_91 : decode cBk_placeByRule 91 = .ok (.putfield 229, 3) := by decide +kernel
theorem dBk_placeByRule_94 : decode cBk_placeByRule 94 = .ok (.return_, 1) := by decide +kernel
abbrev cDo_init : ByteArray := prog_2_method_1_code
abbrev mDo_init : MD := (⟨"DockBook$Door", "<init>", "()V"⟩, cDo_init, 1, none, [])
theorem dDo_init_0 : decode cDo_init 0 = .ok (.aload_n 0, 1) := by decide +kernel
theorem dDo_init_1 : decode cDo_init 1 = .ok (.invokespecial 3, 3) := by decide +kernel
theorem dDo_init_4 : decode cDo_init 4 = .ok (.aload_n 0, 1) := by decide +kernel
theorem dDo_init_5 : decode cDo_init 5 = .ok (.iconst 0, 1) := by decide +kernel
theorem dDo_init_6 : decode cDo_init 6 = .ok (.putfield 9, 3) := by decide +kernel
theorem dDo_init_9 : decode cDo_init 9 = .ok (.aload_n 0, 1) := by decide +kernel
theorem dDo_init_10 : decode cDo_init 10 = .ok (.iconst 0, 1) := by decide +kernel
theorem dDo_init_11 : decode cDo_init 11 = .ok (.putfield 15, 3) := by decide +kernel
theorem dDo_init_14 : decode cDo_init 14 = .ok (.aload_n 0, 1) := by decide +kernel
theorem dDo_init_15 : decode cDo_init 15 = .ok (.iconst 0, 1) := by decide +kernel
theorem dDo_init_16 : decode cDo_init 16 = .ok (.putfield 18, 3) := by decide +kernel
theorem dDo_init_19 : decode cDo_init 19 = .ok (.aload_n 0, 1) := by decide +kernel
theorem dDo_init_20 : decode cDo_init 20 = .ok (.iconst 0, 1) := by decide +kernel
theorem dDo_init_21 : decode cDo_init 21 = .ok (.putfield 21, 3) := by decide +kernel
theorem dDo_init_24 : decode cDo_init 24 = .ok (.aload_n 0, 1) := by decide +kernel
theorem dDo_init_25 : decode cDo_init 25 = .ok (.iconst (-1), 1) := by decide +kernel
theorem dDo_init_26 : decode cDo_init 26 = .ok (.putfield 25, 3) := by decide +kernel
theorem dDo_init_29 : decode cDo_init 29 = .ok (.aload_n 0, 1) := by decide +kernel
theorem dDo_init_30 : decode cDo_init 30 = .ok (.iconst 0, 1) := by decide +kernel
theorem dDo_init_31 : decode cDo_init 31 = .ok (.putfield 28, 3) := by decide +kernel
theorem dDo_init_34 : decode cDo_init 34 = .ok (.aload_n 0, 1) := by decide +kernel
theorem dDo_init_35 : decode cDo_init 35 = .ok (.iconst 0, 1) := by decide +kernel
theorem dDo_init_36 : decode cDo_init 36 = .ok (.putfield 31, 3) := by decide +kernel
theorem dDo_init_39 : decode cDo_init 39 = .ok (.aload_n 0, 1) := by decide +kernel
theorem dDo_init_40 : decode cDo_init 40 = .ok (.iconst 0, 1) := by decide +kernel
theorem dDo_init_41 : decode cDo_init 41 = .ok (.putfield 34, 3) := by decide +kernel
theorem dDo_init_44 : decode cDo_init 44 = .ok (.return_, 1) := by decide +kernel
abbrev cDo_readyAt : ByteArray := prog_2_method_2_code
abbrev mDo_readyAt : MD := (⟨"DockBook$Door", "readyAt", "(I)I"⟩, cDo_readyAt, 2, some (.int), [])
theorem dDo_readyAt_0 : decode cDo_readyAt 0 = .ok (.aload_n 0, 1) := by decide +kernel
theorem dDo_readyAt_1 : decode cDo_readyAt 1 = .ok (.getfield 15, 3) := by decide +kernel
theorem dDo_readyAt_4 : decode cDo_readyAt 4 = .ok (.aload_n 0, 1) := by decide +kernel
theorem dDo_readyAt_5 : decode cDo_readyAt 5 = .ok (.getfield 28, 3) := by decide +kernel
theorem dDo_readyAt_8 : decode cDo_readyAt 8 = .ok (.iload_n 1, 1) := by decide +kernel
theorem dDo_readyAt_9 : decode cDo_readyAt 9 = .ok (.invokestatic 37, 3) := by decide +kernel
theorem dDo_readyAt_12 : decode cDo_readyAt 12 = .ok (.invokestatic 37, 3) := by decide +kernel
theorem dDo_readyAt_15 : decode cDo_readyAt 15 = .ok (.ireturn, 1) := by decide +kernel
abbrev cDo_startOf : ByteArray := prog_2_method_3_code
abbrev mDo_startOf : MD := (⟨"DockBook$Door", "startOf", "(LDockBook$Truck;I)I"⟩, cDo_startOf, 4, some (.int), [])
theorem dDo_startOf_0 : decode cDo_startOf 0 = .ok (.aload_n 0, 1) := by decide +kernel
theorem dDo_startOf_1 : decode cDo_startOf 1 = .ok (.getfield 21, 3) := by decide +kernel
theorem dDo_startOf_4 : decode cDo_startOf 4 = .ok (.ifCond .ne 17, 3) := by decide +kernel
theorem dDo_startOf_7 : decode cDo_startOf 7 = .ok (.aload_n 0, 1) := by decide +kernel
theorem dDo_startOf_8 : decode cDo_startOf 8 = .ok (.getfield 9, 3) := by decide +kernel
theorem dDo_startOf_11 : decode cDo_startOf 11 = .ok (.iconst 1, 1) := by decide +kernel
theorem dDo_startOf_12 : decode cDo_startOf 12 = .ok (.aload_n 1, 1) := by decide +kernel
theorem dDo_startOf_13 : decode cDo_startOf 13 = .ok (.getfield 43, 3) := by decide +kernel
theorem dDo_startOf_16 : decode cDo_startOf 16 = .ok (.ishl, 1) := by decide +kernel
theorem dDo_startOf_17 : decode cDo_startOf 17 = .ok (.iand, 1) := by decide +kernel
theorem dDo_startOf_18 : decode cDo_startOf 18 = .ok (.ifCond .ne 5, 3) := by decide +kernel
theorem dDo_startOf_21 : decode cDo_startOf 21 = .ok (.iconst (-1), 1) := by decide +kernel
theorem dDo_startOf_22 : decode cDo_startOf 22 = .ok (.ireturn, 1) := by decide +kernel
theorem dDo_startOf_23 : decode cDo_startOf 23 = .ok (.aload_n 1, 1) := by decide +kernel
theorem dDo_startOf_24 : decode cDo_startOf 24 = .ok (.getfield 48, 3) := by decide +kernel
theorem dDo_startOf_27 : decode cDo_startOf 27 = .ok (.iload_n 2, 1) := by decide +kernel
theorem dDo_startOf_28 : decode cDo_startOf 28 = .ok (.invokestatic 37, 3) := by decide +kernel
theorem dDo_startOf_31 : decode cDo_startOf 31 = .ok (.istore_n 3, 1) := by decide +kernel
theorem dDo_startOf_32 : decode cDo_startOf 32 = .ok (.iload_n 3, 1) := by decide +kernel
theorem dDo_startOf_33 : decode cDo_startOf 33 = .ok (.aload_n 1, 1) := by decide +kernel
theorem dDo_startOf_34 : decode cDo_startOf 34 = .ok (.getfield 51, 3) := by decide +kernel
theorem dDo_startOf_37 : decode cDo_startOf 37 = .ok (.iadd, 1) := by decide +kernel
theorem dDo_startOf_38 : decode cDo_startOf 38 = .ok (.aload_n 0, 1) := by decide +kernel
theorem dDo_startOf_39 : decode cDo_startOf 39 = .ok (.getfield 18, 3) := by decide +kernel
theorem dDo_startOf_42 : decode cDo_startOf 42 = .ok (.if_icmp .gt 7, 3) := by decide +kernel
theorem dDo_startOf_45 : decode cDo_startOf 45 = .ok (.iload_n 3, 1) := by decide +kernel
theorem dDo_startOf_46 : decode cDo_startOf 46 = .ok (.goto 4, 3) := by decide +kernel
theorem dDo_startOf_49 : decode cDo_startOf 49 = .ok (.iconst (-1), 1) := by decide +kernel
theorem dDo_startOf_50 : decode cDo_startOf 50 = .ok (.ireturn, 1) := by decide +kernel
abbrev cCh_init : ByteArray := prog_3_method_1_code
abbrev mCh_init : MD := (⟨"DockBook$DoorChoice", "<init>", "()V"⟩, cCh_init, 2, none, [])
theorem dCh_init_0 : decode cCh_init 0 = .ok (.aload_n 0, 1) := by decide +kernel
theorem dCh_init_1 : decode cCh_init 1 = .ok (.invokespecial 3, 3) := by decide +kernel
theorem dCh_init_4 : decode cCh_init 4 = .ok (.aload_n 0, 1) := by decide +kernel
theorem dCh_init_5 : decode cCh_init 5 = .ok (.iconst 4, 1) := by decide +kernel
theorem dCh_init_6 : decode cCh_init 6 = .ok (.anewarray 9, 3) := by decide +kernel
theorem dCh_init_9 : decode cCh_init 9 = .ok (.putfield 11, 3) := by decide +kernel
theorem dCh_init_12 : decode cCh_init 12 = .ok (.aload_n 0, 1) := by decide +kernel
theorem dCh_init_13 : decode cCh_init 13 = .ok (.iconst 4, 1) := by decide +kernel
theorem dCh_init_14 : decode cCh_init 14 = .ok (.newarray .int, 2) := by decide +kernel
theorem dCh_init_16 : decode cCh_init 16 = .ok (.putfield 17, 3) := by decide +kernel
theorem dCh_init_19 : decode cCh_init 19 = .ok (.aload_n 0, 1) := by decide +kernel
theorem dCh_init_20 : decode cCh_init 20 = .ok (.iconst 5, 1) := by decide +kernel
theorem dCh_init_21 : decode cCh_init 21 = .ok (.newarray .int, 2) := by decide +kernel
theorem dCh_init_23 : decode cCh_init 23 = .ok (.putfield 21, 3) := by decide +kernel
theorem dCh_init_26 : decode cCh_init 26 = .ok (.aload_n 0, 1) := by decide +kernel
theorem dCh_init_27 : decode cCh_init 27 = .ok (.iconst 5, 1) := by decide +kernel
theorem dCh_init_28 : decode cCh_init 28 = .ok (.newarray .int, 2) := by decide +kernel
theorem dCh_init_30 : decode cCh_init 30 = .ok (.putfield 24, 3) := by decide +kernel
theorem dCh_init_33 : decode cCh_init 33 = .ok (.aload_n 0, 1) := by decide +kernel
theorem dCh_init_34 : decode cCh_init 34 = .ok (.ldc 27, 2) := by decide +kernel
theorem dCh_init_36 : decode cCh_init 36 = .ok (.putfield 28, 3) := by decide +kernel
theorem dCh_init_39 : decode cCh_init 39 = .ok (.iconst 0, 1) := by decide +kernel
theorem dCh_init_40 : decode cCh_init 40 = .ok (.istore_n 1, 1) := by decide +kernel
theorem dCh_init_41 : decode cCh_init 41 = .ok (.iload_n 1, 1) := by decide +kernel
theorem dCh_init_42 : decode cCh_init 42 = .ok (.iconst 4, 1) := by decide +kernel
theorem dCh_init_43 : decode cCh_init 43 = .ok (.if_icmp .ge 22, 3) := by decide +kernel
theorem dCh_init_46 : decode cCh_init 46 = .ok (.aload_n 0, 1) := by decide +kernel
theorem dCh_init_47 : decode cCh_init 47 = .ok (.getfield 11, 3) := by decide +kernel
theorem dCh_init_50 : decode cCh_init 50 = .ok (.iload_n 1, 1) := by decide +kernel
theorem dCh_init_51 : decode cCh_init 51 = .ok (.new 9, 3) := by decide +kernel
theorem dCh_init_54 : decode cCh_init 54 = .ok (.dup, 1) := by decide +kernel
theorem dCh_init_55 : decode cCh_init 55 = .ok (.invokespecial 32, 3) := by decide +kernel
theorem dCh_init_58 : decode cCh_init 58 = .ok (.aastore, 1) := by decide +kernel
theorem dCh_init_59 : decode cCh_init 59 = .ok (.iinc 1 1, 3) := by decide +kernel
theorem dCh_init_62 : decode cCh_init 62 = .ok (.goto (-21), 3) := by decide +kernel
theorem dCh_init_65 : decode cCh_init 65 = .ok (.return_, 1) := by decide +kernel
abbrev cCh_planExactly : ByteArray := prog_3_method_2_code
abbrev mCh_planExactly : MD := (⟨"DockBook$DoorChoice", "planExactly", "([LDockBook$Door;I[LDockBook$Truck;II)V"⟩, cCh_planExactly, 8, none, [])
theorem dCh_planExactly_0 : decode cCh_planExactly 0 = .ok (.iconst 0, 1) := by decide +kernel
theorem dCh_planExactly_1 : decode cCh_planExactly 1 = .ok (.istore 6, 2) := by decide +kernel
theorem dCh_planExactly_3 : decode cCh_planExactly 3 = .ok (.iload 6, 2) := by decide +kernel
theorem dCh_planExactly_5 : decode cCh_planExactly 5 = .ok (.iload_n 2, 1) := by decide +kernel
theorem dCh_planExactly_6 : decode cCh_planExactly 6 = .ok (.if_icmp .ge 43, 3) := by decide +kernel
theorem dCh_planExactly_9 : decode cCh_planExactly 9 = .ok (.aload_n 0, 1) := by decide +kernel
theorem dCh_planExactly_10 : decode cCh_planExactly 10 = .ok (.getfield 11, 3) := by decide +kernel
theorem dCh_planExactly_13 : decode cCh_planExactly 13 = .ok (.iload 6, 2) := by decide +kernel
theorem dCh_planExactly_15 : decode cCh_planExactly 15 = .ok (.aaload, 1) := by decide +kernel
theorem dCh_planExactly_16 : decode cCh_planExactly 16 = .ok (.aload_n 1, 1) := by decide +kernel
theorem dCh_planExactly_17 : decode cCh_planExactly 17 = .ok (.iload 6, 2) := by decide +kernel
theorem dCh_planExactly_19 : decode cCh_planExactly 19 = .ok (.aaload, 1) := by decide +kernel
theorem dCh_planExactly_20 : decode cCh_planExactly 20 = .ok (.aload_n 3, 1) := by decide +kernel
theorem dCh_planExactly_21 : decode cCh_planExactly 21 = .ok (.iload 4, 2) := by decide +kernel
theorem dCh_planExactly_23 : decode cCh_planExactly 23 = .ok (.aload_n 1, 1) := by decide +kernel
theorem dCh_planExactly_24 : decode cCh_planExactly 24 = .ok (.iload 6, 2) := by decide +kernel
theorem dCh_planExactly_26 : decode cCh_planExactly 26 = .ok (.aaload, 1) := by decide +kernel
theorem dCh_planExactly_27 : decode cCh_planExactly 27 = .ok (.iload 5, 2) := by decide +kernel
theorem dCh_planExactly_29 : decode cCh_planExactly 29 = .ok (.invokevirtual 33, 3) := by decide +kernel
theorem dCh_planExactly_32 : decode cCh_planExactly 32 = .ok (.invokevirtual 39, 3) := by decide +kernel
theorem dCh_planExactly_35 : decode cCh_planExactly 35 = .ok (.aload_n 0, 1) := by decide +kernel
theorem dCh_planExactly_36 : decode cCh_planExactly 36 = .ok (.getfield 17, 3) := by decide +kernel
theorem dCh_planExactly_39 : decode cCh_planExactly 39 = .ok (.iload 6, 2) := by decide +kernel
theorem dCh_planExactly_41 : decode cCh_planExactly 41 = .ok (.iconst 0, 1) := by decide +kernel
theorem dCh_planExactly_42 : decode cCh_planExactly 42 = .ok (.iastore, 1) := by decide +kernel
theorem dCh_planExactly_43 : decode cCh_planExactly 43 = .ok (.iinc 6 1, 3) := by decide +kernel
theorem dCh_planExactly_46 : decode cCh_planExactly 46 = .ok (.goto (-43), 3) := by decide +kernel
theorem dCh_planExactly_49 : decode cCh_planExactly 49 = .ok (.aload_n 0, 1) := by decide +kernel
theorem dCh_planExactly_50 : decode cCh_planExactly 50 = .ok (.ldc 27, 2) := by decide +kernel
theorem dCh_planExactly_52 : decode cCh_planExactly 52 = .ok (.putfield 28, 3) := by decide +kernel
theorem dCh_planExactly_55 : decode cCh_planExactly 55 = .ok (.aload_n 0, 1) := by decide +kernel
theorem dCh_planExactly_56 : decode cCh_planExactly 56 = .ok (.iload_n 2, 1) := by decide +kernel
theorem dCh_planExactly_57 : decode cCh_planExactly 57 = .ok (.iload 4, 2) := by decide +kernel
theorem dCh_planExactly_59 : decode cCh_planExactly 59 = .ok (.iconst 0, 1) := by decide +kernel
theorem dCh_planExactly_60 : decode cCh_planExactly 60 = .ok (.iconst 0, 1) := by decide +kernel
theorem dCh_planExactly_61 : decode cCh_planExactly 61 = .ok (.invokevirtual 43, 3) := by decide +kernel
theorem dCh_planExactly_64 : decode cCh_planExactly 64 = .ok (.iconst 0, 1) := by decide +kernel
theorem dCh_planExactly_65 : decode cCh_planExactly 65 = .ok (.istore 6, 2) := by decide +kernel
theorem dCh_planExactly_67 : decode cCh_planExactly 67 = .ok (.iload 6, 2) := by decide +kernel
theorem dCh_planExactly_69 : decode cCh_planExactly 69 = .ok (.iload 4, 2) := by decide +kernel
theorem dCh_planExactly_71 : decode cCh_planExactly 71 = .ok (.if_icmp .ge 57, 3) := by decide +kernel
theorem dCh_planExactly_74 : decode cCh_planExactly 74 = .ok (.aload_n 0, 1) := by decide +kernel
theorem dCh_planExactly_75 : decode cCh_planExactly 75 = .ok (.getfield 24, 3) := by decide +kernel
theorem dCh_planExactly_78 : decode cCh_planExactly 78 = .ok (.iload 6, 2) := by decide +kernel
theorem dCh_planExactly_80 : decode cCh_planExactly 80 = .ok (.iaload, 1) := by decide +kernel
theorem dCh_planExactly_81 : decode cCh_planExactly 81 = .ok (.istore 7, 2) := by decide +kernel
theorem dCh_planExactly_83 : decode cCh_planExactly 83 = .ok (.aload_n 3, 1) := by decide +kernel
theorem dCh_planExactly_84 : decode cCh_planExactly 84 = .ok (.iload 6, 2) := by decide +kernel
theorem dCh_planExactly_86 : decode cCh_planExactly 86 = .ok (.aaload, 1) := by decide +kernel
theorem dCh_planExactly_87 : decode cCh_planExactly 87 = .ok (.iload 7, 2) := by decide +kernel
theorem dCh_planExactly_89 : decode cCh_planExactly 89 = .ok (.iload 7, 2) := by decide +kernel
theorem dCh_planExactly_91 : decode cCh_planExactly 91 = .ok (.iconst (-1), 1) := by decide +kernel
theorem dCh_planExactly_92 : decode cCh_planExactly 92 = .ok (.if_icmp .ne 7, 3) := by decide +kernel
theorem dCh_planExactly_95 : decode cCh_planExactly 95 = .ok (.iconst (-1), 1) := by decide +kernel
theorem dCh_planExactly_96 : decode cCh_planExactly 96 = .ok (.goto 23, 3) := by decide +kernel
theorem dCh_planExactly_99 : decode cCh_planExactly 99 = .ok (.aload_n 0, 1) := by decide +kernel
theorem dCh_planExactly_100 : decode cCh_planExactly 100 = .ok (.getfield 11, 3) := by decide +kernel
theorem dCh_planExactly_103 : decode cCh_planExactly 103 = .ok (.iload 7, 2) := by decide +kernel
theorem dCh_planExactly_105 : decode cCh_planExactly 105 = .ok (.aaload, 1) := by decide +kernel
theorem dCh_planExactly_106 : decode cCh_planExactly 106 = .ok (.aload_n 0, 1) := by decide +kernel
theorem dCh_planExactly_107 : decode cCh_planExactly 107 = .ok (.iload 7, 2) := by decide +kernel
theorem dCh_planExactly_109 : decode cCh_planExactly 109 = .ok (.iload 4, 2) := by decide +kernel
theorem dCh_planExactly_111 : decode cCh_planExactly 111 = .ok (.invokevirtual 47, 3) := by decide +kernel
theorem dCh_planExactly_114 : decode cCh_planExactly 114 = .ok (.iload 6, 2) := by decide +kernel
theorem dCh_planExactly_116 : decode cCh_planExactly 116 = .ok (.invokevirtual 51, 3) := by decide +kernel
theorem dCh_planExactly_119 : decode cCh_planExactly 119 = .ok (.invokevirtual 54, 3) := by decide +kernel
theorem dCh_planExactly_122 : decode cCh_planExactly 122 = .ok (.iinc 6 1, 3) := by decide +kernel
theorem dCh_planExactly_125 : decode cCh_planExactly 125 = .ok (.goto (-58), 3) := by decide +kernel
theorem dCh_planExactly_128 : decode cCh_planExactly 128 = .ok (.return_, 1) := by decide +kernel
abbrev cCh_bestSetAt : ByteArray := prog_3_method_3_code
abbrev mCh_bestSetAt : MD := (⟨"DockBook$DoorChoice", "bestSetAt", "(II)I"⟩, cCh_bestSetAt, 5, some (.int), [])
theorem dCh_bestSetAt_0 : decode cCh_bestSetAt 0 = .ok (.iconst 0, 1) := by decide +kernel
theorem dCh_bestSetAt_1 : decode cCh_bestSetAt 1 = .ok (.istore_n 3, 1) := by decide +kernel
theorem dCh_bestSetAt_2 : decode cCh_bestSetAt 2 = .ok (.iconst 0, 1) := by decide +kernel
theorem dCh_bestSetAt_3 : decode cCh_bestSetAt 3 = .ok (.istore 4, 2) := by decide +kernel
theorem dCh_bestSetAt_5 : decode cCh_bestSetAt 5 = .ok (.iload 4, 2) := by decide +kernel
theorem dCh_bestSetAt_7 : decode cCh_bestSetAt 7 = .ok (.iload_n 2, 1) := by decide +kernel
theorem dCh_bestSetAt_8 : decode cCh_bestSetAt 8 = .ok (.if_icmp .ge 31, 3) := by decide +kernel
theorem dCh_bestSetAt_11 : decode cCh_bestSetAt 11 = .ok (.iload_n 3, 1) := by decide +kernel
theorem dCh_bestSetAt_12 : decode cCh_bestSetAt 12 = .ok (.aload_n 0, 1) := by decide +kernel
theorem dCh_bestSetAt_13 : decode cCh_bestSetAt 13 = .ok (.getfield 24, 3) := by decide +kernel
theorem dCh_bestSetAt_16 : decode cCh_bestSetAt 16 = .ok (.iload 4, 2) := by decide +kernel
theorem dCh_bestSetAt_18 : decode cCh_bestSetAt 18 = .ok (.iaload, 1) := by decide +kernel
theorem dCh_bestSetAt_19 : decode cCh_bestSetAt 19 = .ok (.iload_n 1, 1) := by decide +kernel
theorem dCh_bestSetAt_20 : decode cCh_bestSetAt 20 = .ok (.if_icmp .ne 10, 3) := by decide +kernel
theorem dCh_bestSetAt_23 : decode cCh_bestSetAt 23 = .ok (.iconst 1, 1) := by decide +kernel
theorem dCh_bestSetAt_24 : decode cCh_bestSetAt 24 = .ok (.iload 4, 2) := by decide +kernel
theorem dCh_bestSetAt_26 : decode cCh_bestSetAt 26 = .ok (.ishl, 1) := by decide +kernel
theorem dCh_bestSetAt_27 : decode cCh_bestSetAt 27 = .ok (.goto 4, 3) := by decide +kernel
theorem dCh_bestSetAt_30 : decode cCh_bestSetAt 30 = .ok (.iconst 0, 1) := by decide +kernel
theorem dCh_bestSetAt_31 : decode cCh_bestSetAt 31 = .ok (.ior, 1) := by decide +kernel
theorem dCh_bestSetAt_32 : decode cCh_bestSetAt 32 = .ok (.istore_n 3, 1) := by decide +kernel
theorem dCh_bestSetAt_33 : decode cCh_bestSetAt 33 = .ok (.iinc 4 1, 3) := by decide +kernel
theorem dCh_bestSetAt_36 : decode cCh_bestSetAt 36 = .ok (.goto (-31), 3) := by decide +kernel
theorem dCh_bestSetAt_39 : decode cCh_bestSetAt 39 = .ok (.iload_n 3, 1) := by decide +kernel
theorem dCh_bestSetAt_40 : decode cCh_bestSetAt 40 = .ok (.ireturn, 1) := by decide +kernel
abbrev cCh_choose : ByteArray := prog_3_method_4_code
abbrev mCh_choose : MD := (⟨"DockBook$DoorChoice", "choose", "(IIII)V"⟩, cCh_choose, 6, none, [])
theorem dCh_choose_0 : decode cCh_choose 0 = .ok (.iload 4, 2) := by decide +kernel
theorem dCh_choose_2 : decode cCh_choose 2 = .ok (.aload_n 0, 1) := by decide +kernel
theorem dCh_choose_3 : decode cCh_choose 3 = .ok (.getfield 28, 3) := by decide +kernel
theorem dCh_choose_6 : decode cCh_choose 6 = .ok (.if_icmp .lt 4, 3) := by decide +kernel
theorem dCh_choose_9 : decode cCh_choose 9 = .ok (.return_, 1) := by decide +kernel
theorem dCh_choose_10 : decode cCh_choose 10 = .ok (.iload_n 3, 1) := by decide +kernel
theorem dCh_choose_11 : decode cCh_choose 11 = .ok (.iload_n 2, 1) := by decide +kernel
theorem dCh_choose_12 : decode cCh_choose 12 = .ok (.if_icmp .lt 24, 3) := by decide +kernel
theorem dCh_choose_15 : decode cCh_choose 15 = .ok (.aload_n 0, 1) := by decide +kernel
theorem dCh_choose_16 : decode cCh_choose 16 = .ok (.iload 4, 2) := by decide +kernel
theorem dCh_choose_18 : decode cCh_choose 18 = .ok (.putfield 28, 3) := by decide +kernel
theorem dCh_choose_21 : decode cCh_choose 21 = .ok (.aload_n 0, 1) := by decide +kernel
theorem dCh_choose_22 : decode cCh_choose 22 = .ok (.getfield 21, 3) := by decide +kernel
theorem dCh_choose_25 : decode cCh_choose 25 = .ok (.iconst 0, 1) := by decide +kernel
theorem dCh_choose_26 : decode cCh_choose 26 = .ok (.aload_n 0, 1) := by decide +kernel
theorem dCh_choose_27 : decode cCh_choose 27 = .ok (.getfield 24, 3) := by decide +kernel
theorem dCh_choose_30 : decode cCh_choose 30 = .ok (.iconst 0, 1) := by decide +kernel
theorem dCh_choose_31 : decode cCh_choose 31 = .ok (.iload_n 2, 1) := by decide +kernel
theorem dCh_choose_32 : decode cCh_choose 32 = .ok (.invokestatic 60, 3) := by decide +kernel
theorem dCh_choose_35 : decode cCh_choose 35 = .ok (.return_, 1) := by decide +kernel
theorem dCh_choose_36 : decode cCh_choose 36 = .ok (.iconst 0, 1) := by decide +kernel
theorem dCh_choose_37 : decode cCh_choose 37 = .ok (.istore 5, 2) := by decide +kernel
theorem dCh_choose_39 : decode cCh_choose 39 = .ok (.iload 5, 2) := by decide +kernel
theorem dCh_choose_41 : decode cCh_choose 41 = .ok (.iload_n 1, 1) := by decide +kernel
theorem dCh_choose_42 : decode cCh_choose 42 = .ok (.if_icmp .ge 20, 3) := by decide +kernel
theorem dCh_choose_45 : decode cCh_choose 45 = .ok (.aload_n 0, 1) := by decide +kernel
theorem dCh_choose_46 : decode cCh_choose 46 = .ok (.iload 5, 2) := by decide +kernel
theorem dCh_choose_48 : decode cCh_choose 48 = .ok (.iload_n 1, 1) := by decide +kernel
theorem dCh_choose_49 : decode cCh_choose 49 = .ok (.iload_n 2, 1) := by decide +kernel
theorem dCh_choose_50 : decode cCh_choose 50 = .ok (.iload_n 3, 1) := by decide +kernel
theorem dCh_choose_51 : decode cCh_choose 51 = .ok (.iload 4, 2) := by decide +kernel
theorem dCh_choose_53 : decode cCh_choose 53 = .ok (.invokevirtual 66, 3) := by decide +kernel
theorem dCh_choose_56 : decode cCh_choose 56 = .ok (.iinc 5 1, 3) := by decide +kernel
theorem dCh_choose_59 : decode cCh_choose 59 = .ok (.goto (-20), 3) := by decide +kernel
theorem dCh_choose_62 : decode cCh_choose 62 = .ok (.aload_n 0, 1) := by decide +kernel
theorem dCh_choose_63 : decode cCh_choose 63 = .ok (.iload_n 1, 1) := by decide +kernel
theorem dCh_choose_64 : decode cCh_choose 64 = .ok (.iload_n 2, 1) := by decide +kernel
theorem dCh_choose_65 : decode cCh_choose 65 = .ok (.iload_n 3, 1) := by decide +kernel
theorem dCh_choose_66 : decode cCh_choose 66 = .ok (.iload 4, 2) := by decide +kernel
theorem dCh_choose_68 : decode cCh_choose 68 = .ok (.invokevirtual 70, 3) := by decide +kernel
theorem dCh_choose_71 : decode cCh_choose 71 = .ok (.return_, 1) := by decide +kernel
abbrev cCh_chooseDoor : ByteArray := prog_3_method_5_code
abbrev mCh_chooseDoor : MD := (⟨"DockBook$DoorChoice", "chooseDoor", "(IIIII)V"⟩, cCh_chooseDoor, 9, none, [])
theorem dCh_chooseDoor_0 : decode cCh_chooseDoor 0 = .ok (.aload_n 0, 1) := by decide +kernel
theorem dCh_chooseDoor_1 : decode cCh_chooseDoor 1 = .ok (.getfield 17, 3) := by decide +kernel
theorem dCh_chooseDoor_4 : decode cCh_chooseDoor 4 = .ok (.iload_n 1, 1) := by decide +kernel
theorem dCh_chooseDoor_5 : decode cCh_chooseDoor 5 = .ok (.iaload, 1) := by decide +kernel
theorem dCh_chooseDoor_6 : decode cCh_chooseDoor 6 = .ok (.istore 6, 2) := by decide +kernel
theorem dCh_chooseDoor_8 : decode cCh_chooseDoor 8 = .ok (.iload 6, 2) := by decide +kernel
theorem dCh_chooseDoor_10 : decode cCh_chooseDoor 10 = .ok (.iconst 1, 1) := by decide +kernel
theorem dCh_chooseDoor_11 : decode cCh_chooseDoor 11 = .ok (.iload 4, 2) := by decide +kernel
theorem dCh_chooseDoor_13 : decode cCh_chooseDoor 13 = .ok (.ishl, 1) := by decide +kernel
theorem dCh_chooseDoor_14 : decode cCh_chooseDoor 14 = .ok (.ior, 1) := by decide +kernel
theorem dCh_chooseDoor_15 : decode cCh_chooseDoor 15 = .ok (.istore 7, 2) := by decide +kernel
theorem dCh_chooseDoor_17 : decode cCh_chooseDoor 17 = .ok (.aload_n 0, 1) := by decide +kernel
theorem dCh_chooseDoor_18 : decode cCh_chooseDoor 18 = .ok (.getfield 11, 3) := by decide +kernel
theorem dCh_chooseDoor_21 : decode cCh_chooseDoor 21 = .ok (.iload_n 1, 1) := by decide +kernel
theorem dCh_chooseDoor_22 : decode cCh_chooseDoor 22 = .ok (.aaload, 1) := by decide +kernel
theorem dCh_chooseDoor_23 : decode cCh_chooseDoor 23 = .ok (.getfield 73, 3) := by decide +kernel
theorem dCh_chooseDoor_26 : decode cCh_chooseDoor 26 = .ok (.astore 8, 2) := by decide +kernel
theorem dCh_chooseDoor_28 : decode cCh_chooseDoor 28 = .ok (.aload_n 0, 1) := by decide +kernel
theorem dCh_chooseDoor_29 : decode cCh_chooseDoor 29 = .ok (.getfield 17, 3) := by decide +kernel
theorem dCh_chooseDoor_32 : decode cCh_chooseDoor 32 = .ok (.iload_n 1, 1) := by decide +kernel
theorem dCh_chooseDoor_33 : decode cCh_chooseDoor 33 = .ok (.iload 7, 2) := by decide +kernel
theorem dCh_chooseDoor_35 : decode cCh_chooseDoor 35 = .ok (.iastore, 1) := by decide +kernel
theorem dCh_chooseDoor_36 : decode cCh_chooseDoor 36 = .ok (.aload_n 0, 1) := by decide +kernel
theorem dCh_chooseDoor_37 : decode cCh_chooseDoor 37 = .ok (.getfield 21, 3) := by decide +kernel
theorem dCh_chooseDoor_40 : decode cCh_chooseDoor 40 = .ok (.iload 4, 2) := by decide +kernel
theorem dCh_chooseDoor_42 : decode cCh_chooseDoor 42 = .ok (.iload_n 1, 1) := by decide +kernel
theorem dCh_chooseDoor_43 : decode cCh_chooseDoor 43 = .ok (.iastore, 1) := by decide +kernel
theorem dCh_chooseDoor_44 : decode cCh_chooseDoor 44 = .ok (.aload_n 0, 1) := by decide +kernel
theorem dCh_chooseDoor_45 : decode cCh_chooseDoor 45 = .ok (.iload_n 2, 1) := by decide +kernel
theorem dCh_chooseDoor_46 : decode cCh_chooseDoor 46 = .ok (.iload_n 3, 1) := by decide +kernel
theorem dCh_chooseDoor_47 : decode cCh_chooseDoor 47 = .ok (.iload 4, 2) := by decide +kernel
theorem dCh_chooseDoor_49 : decode cCh_chooseDoor 49 = .ok (.iconst 1, 1) := by decide +kernel
theorem dCh_chooseDoor_50 : decode cCh_chooseDoor 50 = .ok (.iadd, 1) := by decide +kernel
theorem dCh_chooseDoor_51 : decode cCh_chooseDoor 51 = .ok (.iload 5, 2) := by decide +kernel
theorem dCh_chooseDoor_53 : decode cCh_chooseDoor 53 = .ok (.aload 8, 2) := by decide +kernel
theorem dCh_chooseDoor_55 : decode cCh_chooseDoor 55 = .ok (.iload 6, 2) := by decide +kernel
theorem dCh_chooseDoor_57 : decode cCh_chooseDoor 57 = .ok (.iaload, 1) := by decide +kernel
theorem dCh_chooseDoor_58 : decode cCh_chooseDoor 58 = .ok (.isub, 1) := by decide +kernel
theorem dCh_chooseDoor_59 : decode cCh_chooseDoor 59 = .ok (.aload 8, 2) := by decide +kernel
theorem dCh_chooseDoor_61 : decode cCh_chooseDoor 61 = .ok (.iload 7, 2) := by decide +kernel
theorem dCh_chooseDoor_63 : decode cCh_chooseDoor 63 = .ok (.iaload, 1) := by decide +kernel
theorem dCh_chooseDoor_64 : decode cCh_chooseDoor 64 = .ok (.iadd, 1) := by decide +kernel
theorem dCh_chooseDoor_65 : decode cCh_chooseDoor 65 = .ok (.invokevirtual 43, 3) := by decide +kernel
theorem dCh_chooseDoor_68 : decode cCh_chooseDoor 68 = .ok (.aload_n 0, 1) := by decide +kernel
theorem dCh_chooseDoor_69 : decode cCh_chooseDoor 69 = .ok (.getfield 17, 3) := by decide +kernel
theorem dCh_chooseDoor_72 : decode cCh_chooseDoor 72 = .ok (.iload_n 1, 1) := by decide +kernel
theorem dCh_chooseDoor_73 : decode cCh_chooseDoor 73 = .ok (.iload 6, 2) := by decide +kernel
theorem dCh_chooseDoor_75 : decode cCh_chooseDoor 75 = .ok (.iastore, 1) := by decide +kernel
theorem dCh_chooseDoor_76 : decode cCh_chooseDoor 76 = .ok (.return_, 1) := by decide +kernel
abbrev cCh_chooseNothing : ByteArray := prog_3_method_6_code
abbrev mCh_chooseNothing : MD := (⟨"DockBook$DoorChoice", "chooseNothing", "(IIII)V"⟩, cCh_chooseNothing, 5, none, [])
theorem dCh_chooseNothing_0 : decode cCh_chooseNothing 0 = .ok (.aload_n 0, 1) := by decide +kernel
theorem dCh_chooseNothing_1 : decode cCh_chooseNothing 1 = .ok (.getfield 21, 3) := by decide +kernel
theorem dCh_chooseNothing_4 : decode cCh_chooseNothing 4 = .ok (.iload_n 3, 1) := by decide +kernel
theorem dCh_chooseNothing_5 : decode cCh_chooseNothing 5 = .ok (.iconst (-1), 1) := by decide +kernel
theorem dCh_chooseNothing_6 : decode cCh_chooseNothing 6 = .ok (.iastore, 1) := by decide +kernel
theorem dCh_chooseNothing_7 : decode cCh_chooseNothing 7 = .ok (.aload_n 0, 1) := by decide +kernel
theorem dCh_chooseNothing_8 : decode cCh_chooseNothing 8 = .ok (.iload_n 1, 1) := by decide +kernel
theorem dCh_chooseNothing_9 : decode cCh_chooseNothing 9 = .ok (.iload_n 2, 1) := by decide +kernel
theorem dCh_chooseNothing_10 : decode cCh_chooseNothing 10 = .ok (.iload_n 3, 1) := by decide +kernel
theorem dCh_chooseNothing_11 : decode cCh_chooseNothing 11 = .ok (.iconst 1, 1) := by decide +kernel
theorem dCh_chooseNothing_12 : decode cCh_chooseNothing 12 = .ok (.iadd, 1) := by decide +kernel
theorem dCh_chooseNothing_13 : decode cCh_chooseNothing 13 = .ok (.iload 4, 2) := by decide +kernel
theorem dCh_chooseNothing_15 : decode cCh_chooseNothing 15 = .ok (.sipush 5000, 3) := by decide +kernel
theorem dCh_chooseNothing_18 : decode cCh_chooseNothing 18 = .ok (.iadd, 1) := by decide +kernel
theorem dCh_chooseNothing_19 : decode cCh_chooseNothing 19 = .ok (.invokevirtual 43, 3) := by decide +kernel
theorem dCh_chooseNothing_22 : decode cCh_chooseNothing 22 = .ok (.return_, 1) := by decide +kernel
abbrev cOr_init : ByteArray := prog_4_method_1_code
abbrev mOr_init : MD := (⟨"DockBook$DoorOrders", "<init>", "()V"⟩, cOr_init, 1, none, [])
theorem dOr_init_0 : decode cOr_init 0 = .ok (.aload_n 0, 1) := by decide +kernel
theorem dOr_init_1 : decode cOr_init 1 = .ok (.invokespecial 3, 3) := by decide +kernel
theorem dOr_init_4 : decode cOr_init 4 = .ok (.aload_n 0, 1) := by decide +kernel
theorem dOr_init_5 : decode cOr_init 5 = .ok (.bipush 32, 2) := by decide +kernel
theorem dOr_init_7 : decode cOr_init 7 = .ok (.newarray .int, 2) := by decide +kernel
theorem dOr_init_9 : decode cOr_init 9 = .ok (.putfield 9, 3) := by decide +kernel
theorem dOr_init_12 : decode cOr_init 12 = .ok (.aload_n 0, 1) := by decide +kernel
theorem dOr_init_13 : decode cOr_init 13 = .ok (.sipush 160, 3) := by decide +kernel
theorem dOr_init_16 : decode cOr_init 16 = .ok (.newarray .int, 2) := by decide +kernel
theorem dOr_init_18 : decode cOr_init 18 = .ok (.putfield 15, 3) := by decide +kernel
theorem dOr_init_21 : decode cOr_init 21 = .ok (.aload_n 0, 1) := by decide +kernel
theorem dOr_init_22 : decode cOr_init 22 = .ok (.iconst 5, 1) := by decide +kernel
theorem dOr_init_23 : decode cOr_init 23 = .ok (.newarray .int, 2) := by decide +kernel
theorem dOr_init_25 : decode cOr_init 25 = .ok (.putfield 18, 3) := by decide +kernel
theorem dOr_init_28 : decode cOr_init 28 = .ok (.return_, 1) := by decide +kernel
abbrev cOr_findAll : ByteArray := prog_4_method_2_code
abbrev mOr_findAll : MD := (⟨"DockBook$DoorOrders", "findAll", "(LDockBook$Door;[LDockBook$Truck;II)V"⟩, cOr_findAll, 5, none, [])
theorem dOr_findAll_0 : decode cOr_findAll 0 = .ok (.aload_n 0, 1) := by decide +kernel
theorem dOr_findAll_1 : decode cOr_findAll 1 = .ok (.getfield 9, 3) := by decide +kernel
theorem dOr_findAll_4 : decode cOr_findAll 4 = .ok (.ldc 21, 2) := by decide +kernel
theorem dOr_findAll_6 : decode cOr_findAll 6 = .ok (.invokestatic 22, 3) := by decide +kernel
theorem dOr_findAll_9 : decode cOr_findAll 9 = .ok (.aload_n 0, 1) := by decide +kernel
theorem dOr_findAll_10 : decode cOr_findAll 10 = .ok (.aload_n 1, 1) := by decide +kernel
theorem dOr_findAll_11 : decode cOr_findAll 11 = .ok (.aload_n 2, 1) := by decide +kernel
theorem dOr_findAll_12 : decode cOr_findAll 12 = .ok (.iload_n 3, 1) := by decide +kernel
theorem dOr_findAll_13 : decode cOr_findAll 13 = .ok (.iconst 0, 1) := by decide +kernel
theorem dOr_findAll_14 : decode cOr_findAll 14 = .ok (.iload 4, 2) := by decide +kernel
theorem dOr_findAll_16 : decode cOr_findAll 16 = .ok (.iconst 0, 1) := by decide +kernel
theorem dOr_findAll_17 : decode cOr_findAll 17 = .ok (.invokevirtual 28, 3) := by decide +kernel
theorem dOr_findAll_20 : decode cOr_findAll 20 = .ok (.return_, 1) := by decide +kernel
abbrev cOr_startIn : ByteArray := prog_4_method_3_code
abbrev mOr_startIn : MD := (⟨"DockBook$DoorOrders", "startIn", "(II)I"⟩, cOr_startIn, 3, some (.int), [])
theorem dOr_startIn_0 : decode cOr_startIn 0 = .ok (.aload_n 0, 1) := by decide +kernel
theorem dOr_startIn_1 : decode cOr_startIn 1 = .ok (.getfield 15, 3) := by decide +kernel
theorem dOr_startIn_4 : decode cOr_startIn 4 = .ok (.iload_n 1, 1) := by decide +kernel
theorem dOr_startIn_5 : decode cOr_startIn 5 = .ok (.iconst 5, 1) := by decide +kernel
theorem dOr_startIn_6 : decode cOr_startIn 6 = .ok (.imul, 1) := by decide +kernel
theorem dOr_startIn_7 : decode cOr_startIn 7 = .ok (.iload_n 2, 1) := by decide +kernel
theorem dOr_startIn_8 : decode cOr_startIn 8 = .ok (.iadd, 1) := by decide +kernel
theorem dOr_startIn_9 : decode cOr_startIn 9 = .ok (.iaload, 1) := by decide +kernel
theorem dOr_startIn_10 : decode cOr_startIn 10 = .ok (.ireturn, 1) := by decide +kernel
abbrev cOr_extend : ByteArray := prog_4_method_4_code
abbrev mOr_extend : MD := (⟨"DockBook$DoorOrders", "extend", "(LDockBook$Door;[LDockBook$Truck;IIII)V"⟩, cOr_extend, 8, none, [])
theorem dOr_extend_0 : decode cOr_extend 0 = .ok (.aload_n 0, 1) := by decide +kernel
theorem dOr_extend_1 : decode cOr_extend 1 = .ok (.iload 4, 2) := by decide +kernel
theorem dOr_extend_3 : decode cOr_extend 3 = .ok (.iload_n 3, 1) := by decide +kernel
theorem dOr_extend_4 : decode cOr_extend 4 = .ok (.iload 6, 2) := by decide +kernel
theorem dOr_extend_6 : decode cOr_extend 6 = .ok (.invokevirtual 32, 3) := by decide +kernel
theorem dOr_extend_9 : decode cOr_extend 9 = .ok (.iconst 0, 1) := by decide +kernel
theorem dOr_extend_10 : decode cOr_extend 10 = .ok (.istore 7, 2) := by decide +kernel
theorem dOr_extend_12 : decode cOr_extend 12 = .ok (.iload 7, 2) := by decide +kernel
theorem dOr_extend_14 : decode cOr_extend 14 = .ok (.iload_n 3, 1) := by decide +kernel
theorem dOr_extend_15 : decode cOr_extend 15 = .ok (.if_icmp .ge 34, 3) := by decide +kernel
theorem dOr_extend_18 : decode cOr_extend 18 = .ok (.iload 4, 2) := by decide +kernel
theorem dOr_extend_20 : decode cOr_extend 20 = .ok (.iconst 1, 1) := by decide +kernel
theorem dOr_extend_21 : decode cOr_extend 21 = .ok (.iload 7, 2) := by decide +kernel
theorem dOr_extend_23 : decode cOr_extend 23 = .ok (.ishl, 1) := by decide +kernel
theorem dOr_extend_24 : decode cOr_extend 24 = .ok (.iand, 1) := by decide +kernel
theorem dOr_extend_25 : decode cOr_extend 25 = .ok (.ifCond .ne 18, 3) := by decide +kernel
theorem dOr_extend_28 : decode cOr_extend 28 = .ok (.aload_n 0, 1) := by decide +kernel
theorem dOr_extend_29 : decode cOr_extend 29 = .ok (.aload_n 1, 1) := by decide +kernel
theorem dOr_extend_30 : decode cOr_extend 30 = .ok (.aload_n 2, 1) := by decide +kernel
theorem dOr_extend_31 : decode cOr_extend 31 = .ok (.iload_n 3, 1) := by decide +kernel
theorem dOr_extend_32 : decode cOr_extend 32 = .ok (.iload 4, 2) := by decide +kernel
theorem dOr_extend_34 : decode cOr_extend 34 = .ok (.iload 7, 2) := by decide +kernel
theorem dOr_extend_36 : decode cOr_extend 36 = .ok (.iload 5, 2) := by decide +kernel
theorem dOr_extend_38 : decode cOr_extend 38 = .ok (.iload 6, 2) := by decide +kernel
theorem dOr_extend_40 : decode cOr_extend 40 = .ok (.invokevirtual 36, 3) := by decide +kernel
theorem dOr_extend_43 : decode cOr_extend 43 = .ok (.iinc 7 1, 3) := by decide +kernel
theorem dOr_extend_46 : decode cOr_extend 46 = .ok (.goto (-34), 3) := by decide +kernel
theorem dOr_extend_49 : decode cOr_extend 49 = .ok (.return_, 1) := by decide +kernel
abbrev cOr_add : ByteArray := prog_4_method_5_code
abbrev mOr_add : MD := (⟨"DockBook$DoorOrders", "add", "(LDockBook$Door;[LDockBook$Truck;IIIII)V"⟩, cOr_add, 10, none, [])
theorem dOr_add_0 : decode cOr_add 0 = .ok (.aload_n 2, 1) := by decide +kernel
theorem dOr_add_1 : decode cOr_add 1 = .ok (.iload 5, 2) := by decide +kernel
theorem dOr_add_3 : decode cOr_add 3 = .ok (.aaload, 1) := by decide +kernel
theorem dOr_add_4 : decode cOr_add 4 = .ok (.astore 8, 2) := by decide +kernel
theorem dOr_add_6 : decode cOr_add 6 = .ok (.aload_n 1, 1) := by decide +kernel
theorem dOr_add_7 : decode cOr_add 7 = .ok (.aload 8, 2) := by decide +kernel
theorem dOr_add_9 : decode cOr_add 9 = .ok (.iload 6, 2) := by decide +kernel
theorem dOr_add_11 : decode cOr_add 11 = .ok (.invokevirtual 40, 3) := by decide +kernel
theorem dOr_add_14 : decode cOr_add 14 = .ok (.istore 9, 2) := by decide +kernel
theorem dOr_add_16 : decode cOr_add 16 = .ok (.iload 9, 2) := by decide +kernel
theorem dOr_add_18 : decode cOr_add 18 = .ok (.iconst (-1), 1) := by decide +kernel
theorem dOr_add_19 : decode cOr_add 19 = .ok (.if_icmp .ne 4, 3) := by decide +kernel
theorem dOr_add_22 : decode cOr_add 22 = .ok (.return_, 1) := by decide +kernel
theorem dOr_add_23 : decode cOr_add 23 = .ok (.aload_n 0, 1) := by decide +kernel
theorem dOr_add_24 : decode cOr_add 24 = .ok (.getfield 18, 3) := by decide +kernel
theorem dOr_add_27 : decode cOr_add 27 = .ok (.iload 5, 2) := by decide +kernel
theorem dOr_add_29 : decode cOr_add 29 = .ok (.iload 9, 2) := by decide +kernel
theorem dOr_add_31 : decode cOr_add 31 = .ok (.iastore, 1) := by decide +kernel
theorem dOr_add_32 : decode cOr_add 32 = .ok (.aload_n 0, 1) := by decide +kernel
theorem dOr_add_33 : decode cOr_add 33 = .ok (.aload_n 1, 1) := by decide +kernel
theorem dOr_add_34 : decode cOr_add 34 = .ok (.aload_n 2, 1) := by decide +kernel
theorem dOr_add_35 : decode cOr_add 35 = .ok (.iload_n 3, 1) := by decide +kernel
theorem dOr_add_36 : decode cOr_add 36 = .ok (.iload 4, 2) := by decide +kernel
theorem dOr_add_38 : decode cOr_add 38 = .ok (.iconst 1, 1) := by decide +kernel
theorem dOr_add_39 : decode cOr_add 39 = .ok (.iload 5, 2) := by decide +kernel
theorem dOr_add_41 : decode cOr_add 41 = .ok (.ishl, 1) := by decide +kernel
theorem dOr_add_42 : decode cOr_add 42 = .ok (.ior, 1) := by decide +kernel
theorem dOr_add_43 : decode cOr_add 43 = .ok (.iload 9, 2) := by decide +kernel
theorem dOr_add_45 : decode cOr_add 45 = .ok (.aload 8, 2) := by decide +kernel
theorem dOr_add_47 : decode cOr_add 47 = .ok (.getfield 46, 3) := by decide +kernel
theorem dOr_add_50 : decode cOr_add 50 = .ok (.iadd, 1) := by decide +kernel
theorem dOr_add_51 : decode cOr_add 51 = .ok (.iload 7, 2) := by decide +kernel
theorem dOr_add_53 : decode cOr_add 53 = .ok (.aload 8, 2) := by decide +kernel
theorem dOr_add_55 : decode cOr_add 55 = .ok (.iload 9, 2) := by decide +kernel
theorem dOr_add_57 : decode cOr_add 57 = .ok (.invokevirtual 52, 3) := by decide +kernel
theorem dOr_add_60 : decode cOr_add 60 = .ok (.iadd, 1) := by decide +kernel
theorem dOr_add_61 : decode cOr_add 61 = .ok (.invokevirtual 28, 3) := by decide +kernel
theorem dOr_add_64 : decode cOr_add 64 = .ok (.return_, 1) := by decide +kernel
abbrev cOr_keepIfBetter : ByteArray := prog_4_method_6_code
abbrev mOr_keepIfBetter : MD := (⟨"DockBook$DoorOrders", "keepIfBetter", "(III)V"⟩, cOr_keepIfBetter, 5, none, [])
theorem dOr_keepIfBetter_0 : decode cOr_keepIfBetter 0 = .ok (.iload_n 3, 1) := by decide +kernel
theorem dOr_keepIfBetter_1 : decode cOr_keepIfBetter 1 = .ok (.aload_n 0, 1) := by decide +kernel
theorem dOr_keepIfBetter_2 : decode cOr_keepIfBetter 2 = .ok (.getfield 9, 3) := by decide +kernel
theorem dOr_keepIfBetter_5 : decode cOr_keepIfBetter 5 = .ok (.iload_n 1, 1) := by decide +kernel
theorem dOr_keepIfBetter_6 : decode cOr_keepIfBetter 6 = .ok (.iaload, 1) := by decide +kernel
theorem dOr_keepIfBetter_7 : decode cOr_keepIfBetter 7 = .ok (.if_icmp .gt 22, 3) := by decide +kernel
theorem dOr_keepIfBetter_10 : decode cOr_keepIfBetter 10 = .ok (.iload_n 3, 1) := by decide +kernel
theorem dOr_keepIfBetter_11 : decode cOr_keepIfBetter 11 = .ok (.aload_n 0, 1) := by decide +kernel
theorem dOr_keepIfBetter_12 : decode cOr_keepIfBetter 12 = .ok (.getfield 9, 3) := by decide +kernel
theorem dOr_keepIfBetter_15 : decode cOr_keepIfBetter 15 = .ok (.iload_n 1, 1) := by decide +kernel
theorem dOr_keepIfBetter_16 : decode cOr_keepIfBetter 16 = .ok (.iaload, 1) := by decide +kernel
theorem dOr_keepIfBetter_17 : decode cOr_keepIfBetter 17 = .ok (.if_icmp .ne 13, 3) := by decide +kernel
theorem dOr_keepIfBetter_20 : decode cOr_keepIfBetter 20 = .ok (.aload_n 0, 1) := by decide +kernel
theorem dOr_keepIfBetter_21 : decode cOr_keepIfBetter 21 = .ok (.iload_n 1, 1) := by decide +kernel
theorem dOr_keepIfBetter_22 : decode cOr_keepIfBetter 22 = .ok (.iload_n 2, 1) := by decide +kernel
theorem dOr_keepIfBetter_23 : decode cOr_keepIfBetter 23 = .ok (.invokevirtual 56, 3) := by decide +kernel
theorem dOr_keepIfBetter_26 : decode cOr_keepIfBetter 26 = .ok (.ifCond .ne 4, 3) := by decide +kernel
theorem dOr_keepIfBetter_29 : decode cOr_keepIfBetter 29 = .ok (.return_, 1) := by decide +kernel
theorem dOr_keepIfBetter_30 : decode cOr_keepIfBetter 30 = .ok (.aload_n 0, 1) := by decide +kernel
theorem dOr_keepIfBetter_31 : decode cOr_keepIfBetter 31 = .ok (.getfield 9, 3) := by decide +kernel
theorem dOr_keepIfBetter_34 : decode cOr_keepIfBetter 34 = .ok (.iload_n 1, 1) := by decide +kernel
theorem dOr_keepIfBetter_35 : decode cOr_keepIfBetter 35 = .ok (.iload_n 3, 1) := by decide +kernel
theorem dOr_keepIfBetter_36 : decode cOr_keepIfBetter 36 = .ok (.iastore, 1) := by decide +kernel
theorem dOr_keepIfBetter_37 : decode cOr_keepIfBetter 37 = .ok (.iconst 0, 1) := by decide +kernel
theorem dOr_keepIfBetter_38 : decode cOr_keepIfBetter 38 = .ok (.istore 4, 2) := by decide +kernel
theorem dOr_keepIfBetter_40 : decode cOr_keepIfBetter 40 = .ok (.iload 4, 2) := by decide +kernel
theorem dOr_keepIfBetter_42 : decode cOr_keepIfBetter 42 = .ok (.iload_n 2, 1) := by decide +kernel
theorem dOr_keepIfBetter_43 : decode cOr_keepIfBetter 43 = .ok (.if_icmp .ge 27, 3) := by decide +kernel
theorem dOr_keepIfBetter_46 : decode cOr_keepIfBetter 46 = .ok (.aload_n 0, 1) := by decide +kernel
theorem dOr_keepIfBetter_47 : decode cOr_keepIfBetter 47 = .ok (.getfield 15, 3) := by decide +kernel
theorem dOr_keepIfBetter_50 : decode cOr_keepIfBetter 50 = .ok (.iload_n 1, 1) := by decide +kernel
theorem dOr_keepIfBetter_51 : decode cOr_keepIfBetter 51 = .ok (.iconst 5, 1) := by decide +kernel
theorem dOr_keepIfBetter_52 : decode cOr_keepIfBetter 52 = .ok (.imul, 1) := by decide +kernel
theorem dOr_keepIfBetter_53 : decode cOr_keepIfBetter 53 = .ok (.iload 4, 2) := by decide +kernel
theorem dOr_keepIfBetter_55 : decode cOr_keepIfBetter 55 = .ok (.iadd, 1) := by decide +kernel
theorem dOr_keepIfBetter_56 : decode cOr_keepIfBetter 56 = .ok (.aload_n 0, 1) := by decide +kernel
theorem dOr_keepIfBetter_57 : decode cOr_keepIfBetter 57 = .ok (.getfield 18, 3) := by decide +kernel
theorem dOr_keepIfBetter_60 : decode cOr_keepIfBetter 60 = .ok (.iload 4, 2) := by decide +kernel
theorem dOr_keepIfBetter_62 : decode cOr_keepIfBetter 62 = .ok (.iaload, 1) := by decide +kernel
theorem dOr_keepIfBetter_63 : decode cOr_keepIfBetter 63 = .ok (.iastore, 1) := by decide +kernel
theorem dOr_keepIfBetter_64 : decode cOr_keepIfBetter 64 = .ok (.iinc 4 1, 3) := by decide +kernel
theorem dOr_keepIfBetter_67 : decode cOr_keepIfBetter 67 = .ok (.goto (-27), 3) := by decide +kernel
theorem dOr_keepIfBetter_70 : decode cOr_keepIfBetter 70 = .ok (.return_, 1) := by decide +kernel
abbrev cOr_startsComeFirst : ByteArray := prog_4_method_7_code
abbrev mOr_startsComeFirst : MD := (⟨"DockBook$DoorOrders", "startsComeFirst", "(II)Z"⟩, cOr_startsComeFirst, 5, some (.boolean), [])
theorem dOr_startsComeFirst_0 : decode cOr_startsComeFirst 0 = .ok (.iconst 0, 1) := by decide +kernel
theorem dOr_startsComeFirst_1 : decode cOr_startsComeFirst 1 = .ok (.istore_n 3, 1) := by decide +kernel
theorem dOr_startsComeFirst_2 : decode cOr_startsComeFirst 2 = .ok (.iload_n 3, 1) := by decide +kernel
theorem dOr_startsComeFirst_3 : decode cOr_startsComeFirst 3 = .ok (.iload_n 2, 1) := by decide +kernel
theorem dOr_startsComeFirst_4 : decode cOr_startsComeFirst 4 = .ok (.if_icmp .ge 57, 3) := by decide +kernel
theorem dOr_startsComeFirst_7 : decode cOr_startsComeFirst 7 = .ok (.aload_n 0, 1) := by decide +kernel
theorem dOr_startsComeFirst_8 : decode cOr_startsComeFirst 8 = .ok (.getfield 15, 3) := by decide +kernel
theorem dOr_startsComeFirst_11 : decode cOr_startsComeFirst 11 = .ok (.iload_n 1, 1) := by decide +kernel
theorem dOr_startsComeFirst_12 : decode cOr_startsComeFirst 12 = .ok (.iconst 5, 1) := by decide +kernel
theorem dOr_startsComeFirst_13 : decode cOr_startsComeFirst 13 = .ok (.imul, 1) := by decide +kernel
theorem dOr_startsComeFirst_14 : decode cOr_startsComeFirst 14 = .ok (.iload_n 3, 1) := by decide +kernel
theorem dOr_startsComeFirst_15 : decode cOr_startsComeFirst 15 = .ok (.iadd, 1) := by decide +kernel
theorem dOr_startsComeFirst_16 : decode cOr_startsComeFirst 16 = .ok (.iaload, 1) := by decide +kernel
theorem dOr_startsComeFirst_17 : decode cOr_startsComeFirst 17 = .ok (.istore 4, 2) := by decide +kernel
theorem dOr_startsComeFirst_19 : decode cOr_startsComeFirst 19 = .ok (.iload_n 1, 1) := by decide +kernel
theorem dOr_startsComeFirst_20 : decode cOr_startsComeFirst 20 = .ok (.iconst 1, 1) := by decide +kernel
theorem dOr_startsComeFirst_21 : decode cOr_startsComeFirst 21 = .ok (.iload_n 3, 1) := by decide +kernel
theorem dOr_startsComeFirst_22 : decode cOr_startsComeFirst 22 = .ok (.ishl, 1) := by decide +kernel
theorem dOr_startsComeFirst_23 : decode cOr_startsComeFirst 23 = .ok (.iand, 1) := by decide +kernel
theorem dOr_startsComeFirst_24 : decode cOr_startsComeFirst 24 = .ok (.ifCond .eq 31, 3) := by decide +kernel
theorem dOr_startsComeFirst_27 : decode cOr_startsComeFirst 27 = .ok (.aload_n 0, 1) := by decide +kernel
theorem dOr_startsComeFirst_28 : decode cOr_startsComeFirst 28 = .ok (.getfield 18, 3) := by decide +kernel
theorem dOr_startsComeFirst_31 : decode cOr_startsComeFirst 31 = .ok (.iload_n 3, 1) := by decide +kernel
theorem dOr_startsComeFirst_32 : decode cOr_startsComeFirst 32 = .ok (.iaload, 1) := by decide +kernel
theorem dOr_startsComeFirst_33 : decode cOr_startsComeFirst 33 = .ok (.iload 4, 2) := by decide +kernel
theorem dOr_startsComeFirst_35 : decode cOr_startsComeFirst 35 = .ok (.if_icmp .eq 20, 3) := by decide +kernel
theorem dOr_startsComeFirst_38 : decode cOr_startsComeFirst 38 = .ok (.aload_n 0, 1) := by decide +kernel
theorem dOr_startsComeFirst_39 : decode cOr_startsComeFirst 39 = .ok (.getfield 18, 3) := by decide +kernel
theorem dOr_startsComeFirst_42 : decode cOr_startsComeFirst 42 = .ok (.iload_n 3, 1) := by decide +kernel
theorem dOr_startsComeFirst_43 : decode cOr_startsComeFirst 43 = .ok (.iaload, 1) := by decide +kernel
theorem dOr_startsComeFirst_44 : decode cOr_startsComeFirst 44 = .ok (.iload 4, 2) := by decide +kernel
theorem dOr_startsComeFirst_46 : decode cOr_startsComeFirst 46 = .ok (.if_icmp .ge 7, 3) := by decide +kernel
theorem dOr_startsComeFirst_49 : decode cOr_startsComeFirst 49 = .ok (.iconst 1, 1) := by decide +kernel
theorem dOr_startsComeFirst_50 : decode cOr_startsComeFirst 50 = .ok (.goto 4, 3) := by decide +kernel
theorem dOr_startsComeFirst_53 : decode cOr_startsComeFirst 53 = .ok (.iconst 0, 1) := by decide +kernel
theorem dOr_startsComeFirst_54 : decode cOr_startsComeFirst 54 = .ok (.ireturn, 1) := by decide +kernel
theorem dOr_startsComeFirst_55 : decode cOr_startsComeFirst 55 = .ok (.iinc 3 1, 3) := by decide +kernel
theorem dOr_startsComeFirst_58 : decode cOr_startsComeFirst 58 = .ok (.goto (-56), 3) := by decide +kernel
theorem dOr_startsComeFirst_61 : decode cOr_startsComeFirst 61 = .ok (.iconst 0, 1) := by decide +kernel
theorem dOr_startsComeFirst_62 : decode cOr_startsComeFirst 62 = .ok (.ireturn, 1) := by decide +kernel
abbrev cTr_init : ByteArray := prog_5_method_1_code
abbrev mTr_init : MD := (⟨"DockBook$Truck", "<init>", "(I)V"⟩, cTr_init, 2, none, [])
theorem dTr_init_0 : decode cTr_init 0 = .ok (.aload_n 0, 1) := by decide +kernel
theorem dTr_init_1 : decode cTr_init 1 = .ok (.invokespecial 3, 3) := by decide +kernel
theorem dTr_init_4 : decode cTr_init 4 = .ok (.aload_n 0, 1) := by decide +kernel
theorem dTr_init_5 : decode cTr_init 5 = .ok (.iconst 0, 1) := by decide +kernel
theorem dTr_init_6 : decode cTr_init 6 = .ok (.putfield 9, 3) := by decide +kernel
theorem dTr_init_9 : decode cTr_init 9 = .ok (.aload_n 0, 1) := by decide +kernel
theorem dTr_init_10 : decode cTr_init 10 = .ok (.iconst 0, 1) := by decide +kernel
theorem dTr_init_11 : decode cTr_init 11 = .ok (.putfield 15, 3) := by decide +kernel
theorem dTr_init_14 : decode cTr_init 14 = .ok (.aload_n 0, 1) := by decide +kernel
theorem dTr_init_15 : decode cTr_init 15 = .ok (.iconst 0, 1) := by decide +kernel
theorem dTr_init_16 : decode cTr_init 16 = .ok (.putfield 18, 3) := by decide +kernel
theorem dTr_init_19 : decode cTr_init 19 = .ok (.aload_n 0, 1) := by decide +kernel
theorem dTr_init_20 : decode cTr_init 20 = .ok (.iconst 0, 1) := by decide +kernel
theorem dTr_init_21 : decode cTr_init 21 = .ok (.putfield 21, 3) := by decide +kernel
theorem dTr_init_24 : decode cTr_init 24 = .ok (.aload_n 0, 1) := by decide +kernel
theorem dTr_init_25 : decode cTr_init 25 = .ok (.iconst 0, 1) := by decide +kernel
theorem dTr_init_26 : decode cTr_init 26 = .ok (.putfield 24, 3) := by decide +kernel
theorem dTr_init_29 : decode cTr_init 29 = .ok (.aload_n 0, 1) := by decide +kernel
theorem dTr_init_30 : decode cTr_init 30 = .ok (.iconst (-1), 1) := by decide +kernel
theorem dTr_init_31 : decode cTr_init 31 = .ok (.putfield 27, 3) := by decide +kernel
theorem dTr_init_34 : decode cTr_init 34 = .ok (.aload_n 0, 1) := by decide +kernel
theorem dTr_init_35 : decode cTr_init 35 = .ok (.iconst (-1), 1) := by decide +kernel
theorem dTr_init_36 : decode cTr_init 36 = .ok (.putfield 30, 3) := by decide +kernel
theorem dTr_init_39 : decode cTr_init 39 = .ok (.aload_n 0, 1) := by decide +kernel
theorem dTr_init_40 : decode cTr_init 40 = .ok (.iconst (-1), 1) := by decide +kernel
theorem dTr_init_41 : decode cTr_init 41 = .ok (.putfield 33, 3) := by decide +kernel
theorem dTr_init_44 : decode cTr_init 44 = .ok (.aload_n 0, 1) := by decide +kernel
theorem dTr_init_45 : decode cTr_init 45 = .ok (.iconst (-1), 1) := by decide +kernel
theorem dTr_init_46 : decode cTr_init 46 = .ok (.putfield 36, 3) := by decide +kernel
theorem dTr_init_49 : decode cTr_init 49 = .ok (.aload_n 0, 1) := by decide +kernel
theorem dTr_init_50 : decode cTr_init 50 = .ok (.iconst (-1), 1) := by decide +kernel
theorem dTr_init_51 : decode cTr_init 51 = .ok (.putfield 39, 3) := by decide +kernel
theorem dTr_init_54 : decode cTr_init 54 = .ok (.aload_n 0, 1) := by decide +kernel
theorem dTr_init_55 : decode cTr_init 55 = .ok (.iconst 0, 1) := by decide +kernel
theorem dTr_init_56 : decode cTr_init 56 = .ok (.putfield 42, 3) := by decide +kernel
theorem dTr_init_59 : decode cTr_init 59 = .ok (.aload_n 0, 1) := by decide +kernel
theorem dTr_init_60 : decode cTr_init 60 = .ok (.iconst 0, 1) := by decide +kernel
theorem dTr_init_61 : decode cTr_init 61 = .ok (.putfield 46, 3) := by decide +kernel
theorem dTr_init_64 : decode cTr_init 64 = .ok (.aload_n 0, 1) := by decide +kernel
theorem dTr_init_65 : decode cTr_init 65 = .ok (.iconst (-1), 1) := by decide +kernel
theorem dTr_init_66 : decode cTr_init 66 = .ok (.putfield 49, 3) := by decide +kernel
theorem dTr_init_69 : decode cTr_init 69 = .ok (.aload_n 0, 1) := by decide +kernel
theorem dTr_init_70 : decode cTr_init 70 = .ok (.iload_n 1, 1) := by decide +kernel
theorem dTr_init_71 : decode cTr_init 71 = .ok (.putfield 52, 3) := by decide +kernel
theorem dTr_init_74 : decode cTr_init 74 = .ok (.return_, 1) := by decide +kernel
abbrev cTr_setPlan : ByteArray := prog_5_method_2_code
abbrev mTr_setPlan : MD := (⟨"DockBook$Truck", "setPlan", "(II)V"⟩, cTr_setPlan, 3, none, [])
theorem dTr_setPlan_0 : decode cTr_setPlan 0 = .ok (.aload_n 0, 1) := by decide +kernel
theorem dTr_setPlan_1 : decode cTr_setPlan 1 = .ok (.iload_n 1, 1) := by decide +kernel
theorem dTr_setPlan_2 : decode cTr_setPlan 2 = .ok (.putfield 27, 3) := by decide +kernel
theorem dTr_setPlan_5 : decode cTr_setPlan 5 = .ok (.aload_n 0, 1) := by decide +kernel
theorem dTr_setPlan_6 : decode cTr_setPlan 6 = .ok (.iload_n 2, 1) := by decide +kernel
theorem dTr_setPlan_7 : decode cTr_setPlan 7 = .ok (.putfield 30, 3) := by decide +kernel
theorem dTr_setPlan_10 : decode cTr_setPlan 10 = .ok (.return_, 1) := by decide +kernel
abbrev cTr_rememberPlan : ByteArray := prog_5_method_3_code
abbrev mTr_rememberPlan : MD := (⟨"DockBook$Truck", "rememberPlan", "()V"⟩, cTr_rememberPlan, 1, none, [])
theorem dTr_rememberPlan_0 : decode cTr_rememberPlan 0 = .ok (.aload_n 0, 1) := by decide +kernel
theorem dTr_rememberPlan_1 : decode cTr_rememberPlan 1 = .ok (.aload_n 0, 1) := by decide +kernel
theorem dTr_rememberPlan_2 : decode cTr_rememberPlan 2 = .ok (.getfield 27, 3) := by decide +kernel
theorem dTr_rememberPlan_5 : decode cTr_rememberPlan 5 = .ok (.putfield 33, 3) := by decide +kernel
theorem dTr_rememberPlan_8 : decode cTr_rememberPlan 8 = .ok (.aload_n 0, 1) := by decide +kernel
theorem dTr_rememberPlan_9 : decode cTr_rememberPlan 9 = .ok (.aload_n 0, 1) := by decide +kernel
theorem dTr_rememberPlan_10 : decode cTr_rememberPlan 10 = .ok (.getfield 30, 3) := by decide +kernel
theorem dTr_rememberPlan_13 : decode cTr_rememberPlan 13 = .ok (.putfield 36, 3) := by decide +kernel
theorem dTr_rememberPlan_16 : decode cTr_rememberPlan 16 = .ok (.return_, 1) := by decide +kernel
abbrev cTr_hasMoved : ByteArray := prog_5_method_4_code
abbrev mTr_hasMoved : MD := (⟨"DockBook$Truck", "hasMoved", "()Z"⟩, cTr_hasMoved, 1, some (.boolean), [])
theorem dTr_hasMoved_0 : decode cTr_hasMoved 0 = .ok (.aload_n 0, 1) := by decide +kernel
theorem dTr_hasMoved_1 : decode cTr_hasMoved 1 = .ok (.getfield 27, 3) := by decide +kernel
theorem dTr_hasMoved_4 : decode cTr_hasMoved 4 = .ok (.aload_n 0, 1) := by decide +kernel
theorem dTr_hasMoved_5 : decode cTr_hasMoved 5 = .ok (.getfield 33, 3) := by decide +kernel
theorem dTr_hasMoved_8 : decode cTr_hasMoved 8 = .ok (.if_icmp .ne 14, 3) := by decide +kernel
theorem dTr_hasMoved_11 : decode cTr_hasMoved 11 = .ok (.aload_n 0, 1) := by decide +kernel
theorem dTr_hasMoved_12 : decode cTr_hasMoved 12 = .ok (.getfield 30, 3) := by decide +kernel
theorem dTr_hasMoved_15 : decode cTr_hasMoved 15 = .ok (.aload_n 0, 1) := by decide +kernel
theorem dTr_hasMoved_16 : decode cTr_hasMoved 16 = .ok (.getfield 36, 3) := by decide +kernel
theorem dTr_hasMoved_19 : decode cTr_hasMoved 19 = .ok (.if_icmp .eq 7, 3) := by decide +kernel
theorem dTr_hasMoved_22 : decode cTr_hasMoved 22 = .ok (.iconst 1, 1) := by decide +kernel
theorem dTr_hasMoved_23 : decode cTr_hasMoved 23 = .ok (.goto 4, 3) := by decide +kernel
theorem dTr_hasMoved_26 : decode cTr_hasMoved 26 = .ok (.iconst 0, 1) := by decide +kernel
theorem dTr_hasMoved_27 : decode cTr_hasMoved 27 = .ok (.ireturn, 1) := by decide +kernel
abbrev cTr_isPlannedFor : ByteArray := prog_5_method_5_code
abbrev mTr_isPlannedFor : MD := (⟨"DockBook$Truck", "isPlannedFor", "(I)Z"⟩, cTr_isPlannedFor, 2, some (.boolean), [])
theorem dTr_isPlannedFor_0 : decode cTr_isPlannedFor 0 = .ok (.aload_n 0, 1) := by decide +kernel
theorem dTr_isPlannedFor_1 : decode cTr_isPlannedFor 1 = .ok (.getfield 24, 3) := by decide +kernel
theorem dTr_isPlannedFor_4 : decode cTr_isPlannedFor 4 = .ok (.ifCond .ne 15, 3) := by decide +kernel
theorem dTr_isPlannedFor_7 : decode cTr_isPlannedFor 7 = .ok (.aload_n 0, 1) := by decide +kernel
theorem dTr_isPlannedFor_8 : decode cTr_isPlannedFor 8 = .ok (.getfield 27, 3) := by decide +kernel
theorem dTr_isPlannedFor_11 : decode cTr_isPlannedFor 11 = .ok (.iload_n 1, 1) := by decide +kernel
theorem dTr_isPlannedFor_12 : decode cTr_isPlannedFor 12 = .ok (.if_icmp .ne 7, 3) := by decide +kernel
theorem dTr_isPlannedFor_15 : decode cTr_isPlannedFor 15 = .ok (.iconst 1, 1) := by decide +kernel
theorem dTr_isPlannedFor_16 : decode cTr_isPlannedFor 16 = .ok (.goto 4, 3) := by decide +kernel
theorem dTr_isPlannedFor_19 : decode cTr_isPlannedFor 19 = .ok (.iconst 0, 1) := by decide +kernel
theorem dTr_isPlannedFor_20 : decode cTr_isPlannedFor 20 = .ok (.ireturn, 1) := by decide +kernel
abbrev cTr_costAt : ByteArray := prog_5_method_6_code
abbrev mTr_costAt : MD := (⟨"DockBook$Truck", "costAt", "(I)I"⟩, cTr_costAt, 2, some (.int), [])
theorem dTr_costAt_0 : decode cTr_costAt 0 = .ok (.iload_n 1, 1) := by decide +kernel
theorem dTr_costAt_1 : decode cTr_costAt 1 = .ok (.iconst (-1), 1) := by decide +kernel
theorem dTr_costAt_2 : decode cTr_costAt 2 = .ok (.if_icmp .ne 9, 3) := by decide +kernel
theorem dTr_costAt_5 : decode cTr_costAt 5 = .ok (.sipush 5000, 3) := by decide +kernel
theorem dTr_costAt_8 : decode cTr_costAt 8 = .ok (.goto 9, 3) := by decide +kernel
theorem dTr_costAt_11 : decode cTr_costAt 11 = .ok (.iload_n 1, 1) := by decide +kernel
theorem dTr_costAt_12 : decode cTr_costAt 12 = .ok (.aload_n 0, 1) := by decide +kernel
theorem dTr_costAt_13 : decode cTr_costAt 13 = .ok (.getfield 15, 3) := by decide +kernel
theorem dTr_costAt_16 : decode cTr_costAt 16 = .ok (.isub, 1) := by decide +kernel
theorem dTr_costAt_17 : decode cTr_costAt 17 = .ok (.ireturn, 1) := by decide +kernel
abbrev cTr_goesBefore : ByteArray := prog_5_method_7_code
abbrev mTr_goesBefore : MD := (⟨"DockBook$Truck", "goesBefore", "(LDockBook$Truck;)Z"⟩, cTr_goesBefore, 2, some (.boolean), [])
theorem dTr_goesBefore_0 : decode cTr_goesBefore 0 = .ok (.aload_n 0, 1) := by decide +kernel
theorem dTr_goesBefore_1 : decode cTr_goesBefore 1 = .ok (.getfield 21, 3) := by decide +kernel
theorem dTr_goesBefore_4 : decode cTr_goesBefore 4 = .ok (.aload_n 1, 1) := by decide +kernel
theorem dTr_goesBefore_5 : decode cTr_goesBefore 5 = .ok (.getfield 21, 3) := by decide +kernel
theorem dTr_goesBefore_8 : decode cTr_goesBefore 8 = .ok (.if_icmp .eq 20, 3) := by decide +kernel
theorem dTr_goesBefore_11 : decode cTr_goesBefore 11 = .ok (.aload_n 0, 1) := by decide +kernel
theorem dTr_goesBefore_12 : decode cTr_goesBefore 12 = .ok (.getfield 21, 3) := by decide +kernel
theorem dTr_goesBefore_15 : decode cTr_goesBefore 15 = .ok (.aload_n 1, 1) := by decide +kernel
theorem dTr_goesBefore_16 : decode cTr_goesBefore 16 = .ok (.getfield 21, 3) := by decide +kernel
theorem dTr_goesBefore_19 : decode cTr_goesBefore 19 = .ok (.if_icmp .ge 7, 3) := by decide +kernel
theorem dTr_goesBefore_22 : decode cTr_goesBefore 22 = .ok (.iconst 1, 1) := by decide +kernel
theorem dTr_goesBefore_23 : decode cTr_goesBefore 23 = .ok (.goto 4, 3) := by decide +kernel
theorem dTr_goesBefore_26 : decode cTr_goesBefore 26 = .ok (.iconst 0, 1) := by decide +kernel
theorem dTr_goesBefore_27 : decode cTr_goesBefore 27 = .ok (.ireturn, 1) := by decide +kernel
theorem dTr_goesBefore_28 : decode cTr_goesBefore 28 = .ok (.aload_n 0, 1) := by decide +kernel
theorem dTr_goesBefore_29 : decode cTr_goesBefore 29 = .ok (.getfield 15, 3) := by decide +kernel
theorem dTr_goesBefore_32 : decode cTr_goesBefore 32 = .ok (.aload_n 1, 1) := by decide +kernel
theorem dTr_goesBefore_33 : decode cTr_goesBefore 33 = .ok (.getfield 15, 3) := by decide +kernel
theorem dTr_goesBefore_36 : decode cTr_goesBefore 36 = .ok (.if_icmp .eq 20, 3) := by decide +kernel
theorem dTr_goesBefore_39 : decode cTr_goesBefore 39 = .ok (.aload_n 0, 1) := by decide +kernel
theorem dTr_goesBefore_40 : decode cTr_goesBefore 40 = .ok (.getfield 15, 3) := by decide +kernel
theorem dTr_goesBefore_43 : decode cTr_goesBefore 43 = .ok (.aload_n 1, 1) := by decide +kernel
theorem dTr_goesBefore_44 : decode cTr_goesBefore 44 = .ok (.getfield 15, 3) := by decide +kernel
theorem dTr_goesBefore_47 : decode cTr_goesBefore 47 = .ok (.if_icmp .ge 7, 3) := by decide +kernel
theorem dTr_goesBefore_50 : decode cTr_goesBefore 50 = .ok (.iconst 1, 1) := by decide +kernel
theorem dTr_goesBefore_51 : decode cTr_goesBefore 51 = .ok (.goto 4, 3) := by decide +kernel
theorem dTr_goesBefore_54 : decode cTr_goesBefore 54 = .ok (.iconst 0, 1) := by decide +kernel
theorem dTr_goesBefore_55 : decode cTr_goesBefore 55 = .ok (.ireturn, 1) := by decide +kernel
theorem dTr_goesBefore_56 : decode cTr_goesBefore 56 = .ok (.aload_n 0, 1) := by decide +kernel
theorem dTr_goesBefore_57 : decode cTr_goesBefore 57 = .ok (.getfield 52, 3) := by decide +kernel
theorem dTr_goesBefore_60 : decode cTr_goesBefore 60 = .ok (.aload_n 1, 1) := by decide +kernel
theorem dTr_goesBefore_61 : decode cTr_goesBefore 61 = .ok (.getfield 52, 3) := by decide +kernel
theorem dTr_goesBefore_64 : decode cTr_goesBefore 64 = .ok (.if_icmp .ge 7, 3) := by decide +kernel
theorem dTr_goesBefore_67 : decode cTr_goesBefore 67 = .ok (.iconst 1, 1) := by decide +kernel
theorem dTr_goesBefore_68 : decode cTr_goesBefore 68 = .ok (.goto 4, 3) := by decide +kernel
theorem dTr_goesBefore_71 : decode cTr_goesBefore 71 = .ok (.iconst 0, 1) := by decide +kernel
theorem dTr_goesBefore_72 : decode cTr_goesBefore 72 = .ok (.ireturn, 1) := by decide +kernel
abbrev cTr_tellSeal : ByteArray := prog_5_method_8_code
abbrev mTr_tellSeal : MD := (⟨"DockBook$Truck", "tellSeal", "(I)I"⟩, cTr_tellSeal, 2, some (.int), [])
theorem dTr_tellSeal_0 : decode cTr_tellSeal 0 = .ok (.aload_n 0, 1) := by decide +kernel
theorem dTr_tellSeal_1 : decode cTr_tellSeal 1 = .ok (.getfield 39, 3) := by decide +kernel
theorem dTr_tellSeal_4 : decode cTr_tellSeal 4 = .ok (.iconst (-1), 1) := by decide +kernel
theorem dTr_tellSeal_5 : decode cTr_tellSeal 5 = .ok (.if_icmp .ne 10, 3) := by decide +kernel
theorem dTr_tellSeal_8 : decode cTr_tellSeal 8 = .ok (.aload_n 0, 1) := by decide +kernel
theorem dTr_tellSeal_9 : decode cTr_tellSeal 9 = .ok (.iload_n 1, 1) := by decide +kernel
theorem dTr_tellSeal_10 : decode cTr_tellSeal 10 = .ok (.putfield 39, 3) := by decide +kernel
theorem dTr_tellSeal_13 : decode cTr_tellSeal 13 = .ok (.iconst 0, 1) := by decide +kernel
theorem dTr_tellSeal_14 : decode cTr_tellSeal 14 = .ok (.ireturn, 1) := by decide +kernel
theorem dTr_tellSeal_15 : decode cTr_tellSeal 15 = .ok (.aload_n 0, 1) := by decide +kernel
theorem dTr_tellSeal_16 : decode cTr_tellSeal 16 = .ok (.aload_n 0, 1) := by decide +kernel
theorem dTr_tellSeal_17 : decode cTr_tellSeal 17 = .ok (.getfield 39, 3) := by decide +kernel
theorem dTr_tellSeal_20 : decode cTr_tellSeal 20 = .ok (.iload_n 1, 1) := by decide +kernel
theorem dTr_tellSeal_21 : decode cTr_tellSeal 21 = .ok (.if_icmp .ne 7, 3) := by decide +kernel
theorem dTr_tellSeal_24 : decode cTr_tellSeal 24 = .ok (.iconst 1, 1) := by decide +kernel
theorem dTr_tellSeal_25 : decode cTr_tellSeal 25 = .ok (.goto 4, 3) := by decide +kernel
theorem dTr_tellSeal_28 : decode cTr_tellSeal 28 = .ok (.iconst 0, 1) := by decide +kernel
theorem dTr_tellSeal_29 : decode cTr_tellSeal 29 = .ok (.putfield 42, 3) := by decide +kernel
theorem dTr_tellSeal_32 : decode cTr_tellSeal 32 = .ok (.aload_n 0, 1) := by decide +kernel
theorem dTr_tellSeal_33 : decode cTr_tellSeal 33 = .ok (.getfield 42, 3) := by decide +kernel
theorem dTr_tellSeal_36 : decode cTr_tellSeal 36 = .ok (.ifCond .eq 5, 3) := by decide +kernel
theorem dTr_tellSeal_39 : decode cTr_tellSeal 39 = .ok (.iconst 1, 1) := by decide +kernel
theorem dTr_tellSeal_40 : decode cTr_tellSeal 40 = .ok (.ireturn, 1) := by decide +kernel
theorem dTr_tellSeal_41 : decode cTr_tellSeal 41 = .ok (.aload_n 0, 1) := by decide +kernel
theorem dTr_tellSeal_42 : decode cTr_tellSeal 42 = .ok (.iconst (-1), 1) := by decide +kernel
theorem dTr_tellSeal_43 : decode cTr_tellSeal 43 = .ok (.putfield 39, 3) := by decide +kernel
theorem dTr_tellSeal_46 : decode cTr_tellSeal 46 = .ok (.iconst 2, 1) := by decide +kernel
theorem dTr_tellSeal_47 : decode cTr_tellSeal 47 = .ok (.ireturn, 1) := by decide +kernel
