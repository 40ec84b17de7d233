theorem dX4_first_0 : decode cX4_first 0 = .ok (.aload_n 0, 1) := by decide +kernel
theorem dX4_first_1 : decode cX4_first 1 = .ok (.getfield 7, 3) := by decide +kernel
theorem dX4_first_4 : decode cX4_first 4 = .ok (.bipush 6, 2) := by decide +kernel
theorem dX4_first_6 : decode cX4_first 6 = .ok (.iaload, 1) := by decide +kernel
theorem dX4_first_7 : decode cX4_first 7 = .ok (.istore_n 1, 1) := by decide +kernel
theorem dX4_first_8 : decode cX4_first 8 = .ok (.iconst 0, 1) := by decide +kernel
theorem dX4_first_9 : decode cX4_first 9 = .ok (.istore_n 2, 1) := by decide +kernel
theorem dX4_first_10 : decode cX4_first 10 = .ok (.iload_n 2, 1) := by decide +kernel
theorem dX4_first_11 : decode cX4_first 11 = .ok (.bipush 103, 2) := by decide +kernel
theorem dX4_first_13 : decode cX4_first 13 = .ok (.if_icmp .ge 34, 3) := by decide +kernel
theorem dX4_first_16 : decode cX4_first 16 = .ok (.aload_n 0, 1) := by decide +kernel
theorem dX4_first_17 : decode cX4_first 17 = .ok (.getfield 7, 3) := by decide +kernel
theorem dX4_first_20 : decode cX4_first 20 = .ok (.iload_n 2, 1) := by decide +kernel
theorem dX4_first_21 : decode cX4_first 21 = .ok (.iload_n 2, 1) := by decide +kernel
theorem dX4_first_22 : decode cX4_first 22 = .ok (.i2l, 1) := by decide +kernel
theorem dX4_first_23 : decode cX4_first 23 = .ok (.ldc2_w 57, 3) := by decide +kernel
theorem dX4_first_26 : decode cX4_first 26 = .ok (.ldc2_w 59, 3) := by decide +kernel
theorem dX4_first_29 : decode cX4_first 29 = .ok (.invokestatic 61, 3) := by decide +kernel
theorem dX4_first_32 : decode cX4_first 32 = .ok (.ifCond .eq 7, 3) := by decide +kernel
theorem dX4_first_35 : decode cX4_first 35 = .ok (.iconst 5, 1) := by decide +kernel
theorem dX4_first_36 : decode cX4_first 36 = .ok (.goto 4, 3) := by decide +kernel
theorem dX4_first_39 : decode cX4_first 39 = .ok (.iconst 0, 1) := by decide +kernel
theorem dX4_first_40 : decode cX4_first 40 = .ok (.iastore, 1) := by decide +kernel
theorem dX4_first_41 : decode cX4_first 41 = .ok (.iinc 2 1, 3) := by decide +kernel
theorem dX4_first_44 : decode cX4_first 44 = .ok (.goto (-34), 3) := by decide +kernel
theorem dX4_first_47 : decode cX4_first 47 = .ok (.aload_n 0, 1) := by decide +kernel
theorem dX4_first_48 : decode cX4_first 48 = .ok (.getfield 7, 3) := by decide +kernel
theorem dX4_first_51 : decode cX4_first 51 = .ok (.iconst 0, 1) := by decide +kernel
theorem dX4_first_52 : decode cX4_first 52 = .ok (.iconst 2, 1) := by decide +kernel
theorem dX4_first_53 : decode cX4_first 53 = .ok (.iastore, 1) := by decide +kernel
theorem dX4_first_54 : decode cX4_first 54 = .ok (.aload_n 0, 1) := by decide +kernel
theorem dX4_first_55 : decode cX4_first 55 = .ok (.getfield 7, 3) := by decide +kernel
theorem dX4_first_58 : decode cX4_first 58 = .ok (.iconst 1, 1) := by decide +kernel
theorem dX4_first_59 : decode cX4_first 59 = .ok (.iconst 3, 1) := by decide +kernel
theorem dX4_first_60 : decode cX4_first 60 = .ok (.iastore, 1) := by decide +kernel
theorem dX4_first_61 : decode cX4_first 61 = .ok (.aload_n 0, 1) := by decide +kernel
theorem dX4_first_62 : decode cX4_first 62 = .ok (.getfield 7, 3) := by decide +kernel
theorem dX4_first_65 : decode cX4_first 65 = .ok (.iconst 2, 1) := by decide +kernel
theorem dX4_first_66 : decode cX4_first 66 = .ok (.bipush 20, 2) := by decide +kernel
theorem dX4_first_68 : decode cX4_first 68 = .ok (.iastore, 1) := by decide +kernel
theorem dX4_first_69 : decode cX4_first 69 = .ok (.aload_n 0, 1) := by decide +kernel
theorem dX4_first_70 : decode cX4_first 70 = .ok (.getfield 7, 3) := by decide +kernel
theorem dX4_first_73 : decode cX4_first 73 = .ok (.iconst 3, 1) := by decide +kernel
theorem dX4_first_74 : decode cX4_first 74 = .ok (.bipush 20, 2) := by decide +kernel
theorem dX4_first_76 : decode cX4_first 76 = .ok (.iastore, 1) := by decide +kernel
theorem dX4_first_77 : decode cX4_first 77 = .ok (.aload_n 0, 1) := by decide +kernel
theorem dX4_first_78 : decode cX4_first 78 = .ok (.getfield 7, 3) := by decide +kernel
theorem dX4_first_81 : decode cX4_first 81 = .ok (.bipush 6, 2) := by decide +kernel
theorem dX4_first_83 : decode cX4_first 83 = .ok (.iload_n 1, 1) := by decide +kernel
theorem dX4_first_84 : decode cX4_first 84 = .ok (.iastore, 1) := by decide +kernel
theorem dX4_first_85 : decode cX4_first 85 = .ok (.return_, 1) := by decide +kernel
theorem dX4_in_0 : decode cX4_in 0 = .ok (.lload_n 0, 1) := by decide +kernel
theorem dX4_in_1 : decode cX4_in 1 = .ok (.lload_n 2, 1) := by decide +kernel
theorem dX4_in_2 : decode cX4_in 2 = .ok (.lcmp, 1) := by decide +kernel
theorem dX4_in_3 : decode cX4_in 3 = .ok (.ifCond .lt 14, 3) := by decide +kernel
theorem dX4_in_6 : decode cX4_in 6 = .ok (.lload_n 0, 1) := by decide +kernel
theorem dX4_in_7 : decode cX4_in 7 = .ok (.lload 4, 2) := by decide +kernel
theorem dX4_in_9 : decode cX4_in 9 = .ok (.lcmp, 1) := by decide +kernel
theorem dX4_in_10 : decode cX4_in 10 = .ok (.ifCond .gt 7, 3) := by decide +kernel
theorem dX4_in_13 : decode cX4_in 13 = .ok (.iconst 1, 1) := by decide +kernel
theorem dX4_in_14 : decode cX4_in 14 = .ok (.goto 4, 3) := by decide +kernel
theorem dX4_in_17 : decode cX4_in 17 = .ok (.iconst 0, 1) := by decide +kernel
theorem dX4_in_18 : decode cX4_in 18 = .ok (.ireturn, 1) := by decide +kernel
theorem dX4_held_0 : decode cX4_held 0 = .ok (.iload_n 0, 1) := by decide +kernel
theorem dX4_held_1 : decode cX4_held 1 = .ok (.ifCond .ge 7, 3) := by decide +kernel
theorem dX4_held_4 : decode cX4_held 4 = .ok (.iconst 0, 1) := by decide +kernel
theorem dX4_held_5 : decode cX4_held 5 = .ok (.goto 15, 3) := by decide +kernel
theorem dX4_held_8 : decode cX4_held 8 = .ok (.iload_n 0, 1) := by decide +kernel
theorem dX4_held_9 : decode cX4_held 9 = .ok (.bipush 99, 2) := by decide +kernel
theorem dX4_held_11 : decode cX4_held 11 = .ok (.if_icmp .le 8, 3) := by decide +kernel
theorem dX4_held_14 : decode cX4_held 14 = .ok (.bipush 99, 2) := by decide +kernel
theorem dX4_held_16 : decode cX4_held 16 = .ok (.goto 4, 3) := by decide +kernel
theorem dX4_held_19 : decode cX4_held 19 = .ok (.iload_n 0, 1) := by decide +kernel
theorem dX4_held_20 : decode cX4_held 20 = .ok (.ireturn, 1) := by decide +kernel
theorem dX4_isPerson_0 : decode cX4_isPerson 0 = .ok (.iload_n 1, 1) := by decide +kernel
theorem dX4_isPerson_1 : decode cX4_isPerson 1 = .ok (.i2l, 1) := by decide +kernel
theorem dX4_isPerson_2 : decode cX4_isPerson 2 = .ok (.lconst 0, 1) := by decide +kernel
theorem dX4_isPerson_3 : decode cX4_isPerson 3 = .ok (.aload_n 0, 1) := by decide +kernel
theorem dX4_isPerson_4 : decode cX4_isPerson 4 = .ok (.getfield 7, 3) := by decide +kernel
theorem dX4_isPerson_7 : decode cX4_isPerson 7 = .ok (.iconst 5, 1) := by decide +kernel
theorem dX4_isPerson_8 : decode cX4_isPerson 8 = .ok (.iaload, 1) := by decide +kernel
theorem dX4_isPerson_9 : decode cX4_isPerson 9 = .ok (.iconst 1, 1) := by decide +kernel
theorem dX4_isPerson_10 : decode cX4_isPerson 10 = .ok (.isub, 1) := by decide +kernel
theorem dX4_isPerson_11 : decode cX4_isPerson 11 = .ok (.i2l, 1) := by decide +kernel
theorem dX4_isPerson_12 : decode cX4_isPerson 12 = .ok (.invokestatic 61, 3) := by decide +kernel
theorem dX4_isPerson_15 : decode cX4_isPerson 15 = .ok (.ireturn, 1) := by decide +kernel
theorem dX4_isCell_0 : decode cX4_isCell 0 = .ok (.iload_n 0, 1) := by decide +kernel
theorem dX4_isCell_1 : decode cX4_isCell 1 = .ok (.i2l, 1) := by decide +kernel
theorem dX4_isCell_2 : decode cX4_isCell 2 = .ok (.lconst 0, 1) := by decide +kernel
theorem dX4_isCell_3 : decode cX4_isCell 3 = .ok (.ldc2_w 65, 3) := by decide +kernel
theorem dX4_isCell_6 : decode cX4_isCell 6 = .ok (.invokestatic 61, 3) := by decide +kernel
theorem dX4_isCell_9 : decode cX4_isCell 9 = .ok (.ireturn, 1) := by decide +kernel
theorem dX4_get_0 : decode cX4_get 0 = .ok (.aload_n 0, 1) := by decide +kernel
theorem dX4_get_1 : decode cX4_get 1 = .ok (.getfield 7, 3) := by decide +kernel
theorem dX4_get_4 : decode cX4_get 4 = .ok (.bipush 71, 2) := by decide +kernel
theorem dX4_get_6 : decode cX4_get 6 = .ok (.iconst 4, 1) := by decide +kernel
theorem dX4_get_7 : decode cX4_get 7 = .ok (.iload_n 1, 1) := by decide +kernel
theorem dX4_get_8 : decode cX4_get 8 = .ok (.imul, 1) := by decide +kernel
theorem dX4_get_9 : decode cX4_get 9 = .ok (.iadd, 1) := by decide +kernel
theorem dX4_get_10 : decode cX4_get 10 = .ok (.iload_n 2, 1) := by decide +kernel
theorem dX4_get_11 : decode cX4_get 11 = .ok (.iadd, 1) := by decide +kernel
theorem dX4_get_12 : decode cX4_get 12 = .ok (.iaload, 1) := by decide +kernel
theorem dX4_get_13 : decode cX4_get 13 = .ok (.ireturn, 1) := by decide +kernel
theorem dX4_puts_0 : decode cX4_puts 0 = .ok (.aload_n 0, 1) := by decide +kernel
theorem dX4_puts_1 : decode cX4_puts 1 = .ok (.getfield 7, 3) := by decide +kernel
theorem dX4_puts_4 : decode cX4_puts 4 = .ok (.bipush 71, 2) := by decide +kernel
theorem dX4_puts_6 : decode cX4_puts 6 = .ok (.iconst 4, 1) := by decide +kernel
theorem dX4_puts_7 : decode cX4_puts 7 = .ok (.iload_n 1, 1) := by decide +kernel
theorem dX4_puts_8 : decode cX4_puts 8 = .ok (.imul, 1) := by decide +kernel
theorem dX4_puts_9 : decode cX4_puts 9 = .ok (.iadd, 1) := by decide +kernel
theorem dX4_puts_10 : decode cX4_puts 10 = .ok (.iload_n 2, 1) := by decide +kernel
theorem dX4_puts_11 : decode cX4_puts 11 = .ok (.iadd, 1) := by decide +kernel
theorem dX4_puts_12 : decode cX4_puts 12 = .ok (.iload_n 3, 1) := by decide +kernel
theorem dX4_puts_13 : decode cX4_puts 13 = .ok (.iastore, 1) := by decide +kernel
theorem dX4_puts_14 : decode cX4_puts 14 = .ok (.return_, 1) := by decide +kernel
theorem dX4_keepAside_0 : decode cX4_keepAside 0 = .ok (.iconst 0, 1) := by decide +kernel
theorem dX4_keepAside_1 : decode cX4_keepAside 1 = .ok (.istore_n 1, 1) := by decide +kernel
theorem dX4_keepAside_2 : decode cX4_keepAside 2 = .ok (.iload_n 1, 1) := by decide +kernel
theorem dX4_keepAside_3 : decode cX4_keepAside 3 = .ok (.bipush 103, 2) := by decide +kernel
theorem dX4_keepAside_5 : decode cX4_keepAside 5 = .ok (.if_icmp .ge 21, 3) := by decide +kernel
theorem dX4_keepAside_8 : decode cX4_keepAside 8 = .ok (.aload_n 0, 1) := by decide +kernel
theorem dX4_keepAside_9 : decode cX4_keepAside 9 = .ok (.getfield 16, 3) := by decide +kernel
theorem dX4_keepAside_12 : decode cX4_keepAside 12 = .ok (.iload_n 1, 1) := by decide +kernel
theorem dX4_keepAside_13 : decode cX4_keepAside 13 = .ok (.aload_n 0, 1) := by decide +kernel
theorem dX4_keepAside_14 : decode cX4_keepAside 14 = .ok (.getfield 7, 3) := by decide +kernel
theorem dX4_keepAside_17 : decode cX4_keepAside 17 = .ok (.iload_n 1, 1) := by decide +kernel
theorem dX4_keepAside_18 : decode cX4_keepAside 18 = .ok (.iaload, 1) := by decide +kernel
theorem dX4_keepAside_19 : decode cX4_keepAside 19 = .ok (.iastore, 1) := by decide +kernel
theorem dX4_keepAside_20 : decode cX4_keepAside 20 = .ok (.iinc 1 1, 3) := by decide +kernel
theorem dX4_keepAside_23 : decode cX4_keepAside 23 = .ok (.goto (-21), 3) := by decide +kernel
theorem dX4_keepAside_26 : decode cX4_keepAside 26 = .ok (.return_, 1) := by decide +kernel
theorem dX4_putBack_0 : decode cX4_putBack 0 = .ok (.iconst 0, 1) := by decide +kernel
theorem dX4_putBack_1 : decode cX4_putBack 1 = .ok (.istore_n 1, 1) := by decide +kernel
theorem dX4_putBack_2 : decode cX4_putBack 2 = .ok (.iload_n 1, 1) := by decide +kernel
theorem dX4_putBack_3 : decode cX4_putBack 3 = .ok (.bipush 103, 2) := by decide +kernel
theorem dX4_putBack_5 : decode cX4_putBack 5 = .ok (.if_icmp .ge 21, 3) := by decide +kernel
theorem dX4_putBack_8 : decode cX4_putBack 8 = .ok (.aload_n 0, 1) := by decide +kernel
theorem dX4_putBack_9 : decode cX4_putBack 9 = .ok (.getfield 7, 3) := by decide +kernel
theorem dX4_putBack_12 : decode cX4_putBack 12 = .ok (.iload_n 1, 1) := by decide +kernel
theorem dX4_putBack_13 : decode cX4_putBack 13 = .ok (.aload_n 0, 1) := by decide +kernel
theorem dX4_putBack_14 : decode cX4_putBack 14 = .ok (.getfield 16, 3) := by decide +kernel
theorem dX4_putBack_17 : decode cX4_putBack 17 = .ok (.iload_n 1, 1) := by decide +kernel
theorem dX4_putBack_18 : decode cX4_putBack 18 = .ok (.iaload, 1) := by decide +kernel
theorem dX4_putBack_19 : decode cX4_putBack 19 = .ok (.iastore, 1) := by decide +kernel
theorem dX4_putBack_20 : decode cX4_putBack 20 = .ok (.iinc 1 1, 3) := by decide +kernel
theorem dX4_putBack_23 : decode cX4_putBack 23 = .ok (.goto (-21), 3) := by decide +kernel
theorem dX4_putBack_26 : decode cX4_putBack 26 = .ok (.return_, 1) := by decide +kernel
theorem dX4_bits_0 : decode cX4_bits 0 = .ok (.iconst 0, 1) := by decide +kernel
theorem dX4_bits_1 : decode cX4_bits 1 = .ok (.istore_n 1, 1) := by decide +kernel
theorem dX4_bits_2 : decode cX4_bits 2 = .ok (.iconst 0, 1) := by decide +kernel
theorem dX4_bits_3 : decode cX4_bits 3 = .ok (.istore_n 2, 1) := by decide +kernel
theorem dX4_bits_4 : decode cX4_bits 4 = .ok (.iload_n 2, 1) := by decide +kernel
theorem dX4_bits_5 : decode cX4_bits 5 = .ok (.bipush 8, 2) := by decide +kernel
theorem dX4_bits_7 : decode cX4_bits 7 = .ok (.if_icmp .ge 17, 3) := by decide +kernel
theorem dX4_bits_10 : decode cX4_bits 10 = .ok (.iload_n 1, 1) := by decide +kernel
theorem dX4_bits_11 : decode cX4_bits 11 = .ok (.iload_n 0, 1) := by decide +kernel
theorem dX4_bits_12 : decode cX4_bits 12 = .ok (.iload_n 2, 1) := by decide +kernel
theorem dX4_bits_13 : decode cX4_bits 13 = .ok (.ishr, 1) := by decide +kernel
theorem dX4_bits_14 : decode cX4_bits 14 = .ok (.iconst 1, 1) := by decide +kernel
theorem dX4_bits_15 : decode cX4_bits 15 = .ok (.iand, 1) := by decide +kernel
theorem dX4_bits_16 : decode cX4_bits 16 = .ok (.iadd, 1) := by decide +kernel
theorem dX4_bits_17 : decode cX4_bits 17 = .ok (.istore_n 1, 1) := by decide +kernel
theorem dX4_bits_18 : decode cX4_bits 18 = .ok (.iinc 2 1, 3) := by decide +kernel
theorem dX4_bits_21 : decode cX4_bits 21 = .ok (.goto (-17), 3) := by decide +kernel
theorem dX4_bits_24 : decode cX4_bits 24 = .ok (.iload_n 1, 1) := by decide +kernel
theorem dX4_bits_25 : decode cX4_bits 25 = .ok (.ireturn, 1) := by decide +kernel
theorem dX4_wells_0 : decode cX4_wells 0 = .ok (.aload_n 0, 1) := by decide +kernel
theorem dX4_wells_1 : decode cX4_wells 1 = .ok (.iload_n 1, 1) := by decide +kernel
theorem dX4_wells_2 : decode cX4_wells 2 = .ok (.iconst 2, 1) := by decide +kernel
theorem dX4_wells_3 : decode cX4_wells 3 = .ok (.invokevirtual 67, 3) := by decide +kernel
theorem dX4_wells_6 : decode cX4_wells 6 = .ok (.bipush 50, 2) := by decide +kernel
theorem dX4_wells_8 : decode cX4_wells 8 = .ok (.if_icmp .lt 12, 3) := by decide +kernel
theorem dX4_wells_11 : decode cX4_wells 11 = .ok (.aload_n 0, 1) := by decide +kernel
theorem dX4_wells_12 : decode cX4_wells 12 = .ok (.iload_n 1, 1) := by decide +kernel
theorem dX4_wells_13 : decode cX4_wells 13 = .ok (.iconst 1, 1) := by decide +kernel
theorem dX4_wells_14 : decode cX4_wells 14 = .ok (.invokevirtual 67, 3) := by decide +kernel
theorem dX4_wells_17 : decode cX4_wells 17 = .ok (.goto 4, 3) := by decide +kernel
theorem dX4_wells_20 : decode cX4_wells 20 = .ok (.iconst 0, 1) := by decide +kernel
theorem dX4_wells_21 : decode cX4_wells 21 = .ok (.istore_n 2, 1) := by decide +kernel
theorem dX4_wells_22 : decode cX4_wells 22 = .ok (.iload_n 2, 1) := by decide +kernel
theorem dX4_wells_23 : decode cX4_wells 23 = .ok (.ifCond .ne 16, 3) := by decide +kernel
theorem dX4_wells_26 : decode cX4_wells 26 = .ok (.aload_n 0, 1) := by decide +kernel
theorem dX4_wells_27 : decode cX4_wells 27 = .ok (.iload_n 1, 1) := by decide +kernel
theorem dX4_wells_28 : decode cX4_wells 28 = .ok (.iconst 2, 1) := by decide +kernel
theorem dX4_wells_29 : decode cX4_wells 29 = .ok (.invokevirtual 67, 3) := by decide +kernel
theorem dX4_wells_32 : decode cX4_wells 32 = .ok (.ifCond .le 7, 3) := by decide +kernel
theorem dX4_wells_35 : decode cX4_wells 35 = .ok (.iconst 1, 1) := by decide +kernel
theorem dX4_wells_36 : decode cX4_wells 36 = .ok (.goto 4, 3) := by decide +kernel
theorem dX4_wells_39 : decode cX4_wells 39 = .ok (.iload_n 2, 1) := by decide +kernel
theorem dX4_wells_40 : decode cX4_wells 40 = .ok (.istore_n 3, 1) := by decide +kernel
theorem dX4_wells_41 : decode cX4_wells 41 = .ok (.aload_n 0, 1) := by decide +kernel
theorem dX4_wells_42 : decode cX4_wells 42 = .ok (.getfield 71, 3) := by decide +kernel
theorem dX4_wells_45 : decode cX4_wells 45 = .ok (.iload_n 1, 1) := by decide +kernel
theorem dX4_wells_46 : decode cX4_wells 46 = .ok (.ishr, 1) := by decide +kernel
theorem dX4_wells_47 : decode cX4_wells 47 = .ok (.iconst 1, 1) := by decide +kernel
theorem dX4_wells_48 : decode cX4_wells 48 = .ok (.iand, 1) := by decide +kernel
theorem dX4_wells_49 : decode cX4_wells 49 = .ok (.iconst 1, 1) := by decide +kernel
theorem dX4_wells_50 : decode cX4_wells 50 = .ok (.if_icmp .ne 5, 3) := by decide +kernel
theorem dX4_wells_53 : decode cX4_wells 53 = .ok (.iconst 0, 1) := by decide +kernel
theorem dX4_wells_54 : decode cX4_wells 54 = .ok (.ireturn, 1) := by decide +kernel
theorem dX4_wells_55 : decode cX4_wells 55 = .ok (.aload_n 0, 1) := by decide +kernel
theorem dX4_wells_56 : decode cX4_wells 56 = .ok (.iload_n 1, 1) := by decide +kernel
theorem dX4_wells_57 : decode cX4_wells 57 = .ok (.iconst 0, 1) := by decide +kernel
theorem dX4_wells_58 : decode cX4_wells 58 = .ok (.invokevirtual 67, 3) := by decide +kernel
theorem dX4_wells_61 : decode cX4_wells 61 = .ok (.tableswitch 73 1 5 #[35, 50, 39, 52, 56], 35) := by decide +kernel
theorem dX4_wells_96 : decode cX4_wells 96 = .ok (.iconst 2, 1) := by decide +kernel
theorem dX4_wells_97 : decode cX4_wells 97 = .ok (.iload_n 2, 1) := by decide +kernel
theorem dX4_wells_98 : decode cX4_wells 98 = .ok (.imul, 1) := by decide +kernel
theorem dX4_wells_99 : decode cX4_wells 99 = .ok (.ireturn, 1) := by decide +kernel
theorem dX4_wells_100 : decode cX4_wells 100 = .ok (.iconst 2, 1) := by decide +kernel
theorem dX4_wells_101 : decode cX4_wells 101 = .ok (.iload_n 2, 1) := by decide +kernel
theorem dX4_wells_102 : decode cX4_wells 102 = .ok (.imul, 1) := by decide +kernel
theorem dX4_wells_103 : decode cX4_wells 103 = .ok (.aload_n 0, 1) := by decide +kernel
theorem dX4_wells_104 : decode cX4_wells 104 = .ok (.getfield 7, 3) := by decide +kernel
theorem dX4_wells_107 : decode cX4_wells 107 = .ok (.iconst 0, 1) := by decide +kernel
theorem dX4_wells_108 : decode cX4_wells 108 = .ok (.iaload, 1) := by decide +kernel
theorem dX4_wells_109 : decode cX4_wells 109 = .ok (.iadd, 1) := by decide +kernel
theorem dX4_wells_110 : decode cX4_wells 110 = .ok (.ireturn, 1) := by decide +kernel
theorem dX4_wells_111 : decode cX4_wells 111 = .ok (.iload_n 3, 1) := by decide +kernel
theorem dX4_wells_112 : decode cX4_wells 112 = .ok (.ireturn, 1) := by decide +kernel
theorem dX4_wells_113 : decode cX4_wells 113 = .ok (.iload_n 3, 1) := by decide +kernel
theorem dX4_wells_114 : decode cX4_wells 114 = .ok (.iconst 2, 1) := by decide +kernel
theorem dX4_wells_115 : decode cX4_wells 115 = .ok (.idiv, 1) := by decide +kernel
theorem dX4_wells_116 : decode cX4_wells 116 = .ok (.ireturn, 1) := by decide +kernel
theorem dX4_wells_117 : decode cX4_wells 117 = .ok (.aload_n 0, 1) := by decide +kernel
theorem dX4_wells_118 : decode cX4_wells 118 = .ok (.getfield 7, 3) := by decide +kernel
theorem dX4_wells_121 : decode cX4_wells 121 = .ok (.iconst 4, 1) := by decide +kernel
theorem dX4_wells_122 : decode cX4_wells 122 = .ok (.iaload, 1) := by decide +kernel
theorem dX4_wells_123 : decode cX4_wells 123 = .ok (.iconst 2, 1) := by decide +kernel
theorem dX4_wells_124 : decode cX4_wells 124 = .ok (.irem, 1) := by decide +kernel
theorem dX4_wells_125 : decode cX4_wells 125 = .ok (.ifCond .ne 7, 3) := by decide +kernel
theorem dX4_wells_128 : decode cX4_wells 128 = .ok (.iload_n 2, 1) := by decide +kernel
theorem dX4_wells_129 : decode cX4_wells 129 = .ok (.goto 4, 3) := by decide +kernel
theorem dX4_wells_132 : decode cX4_wells 132 = .ok (.iconst 0, 1) := by decide +kernel
theorem dX4_wells_133 : decode cX4_wells 133 = .ok (.ireturn, 1) := by decide +kernel
theorem dX4_wells_134 : decode cX4_wells 134 = .ok (.iload_n 2, 1) := by decide +kernel
theorem dX4_wells_135 : decode cX4_wells 135 = .ok (.ireturn, 1) := by decide +kernel
theorem dX4_losesOf_0 : decode cX4_losesOf 0 = .ok (.aload_n 0, 1) := by decide +kernel
theorem dX4_losesOf_1 : decode cX4_losesOf 1 = .ok (.iload_n 1, 1) := by decide +kernel
theorem dX4_losesOf_2 : decode cX4_losesOf 2 = .ok (.iconst 0, 1) := by decide +kernel
theorem dX4_losesOf_3 : decode cX4_losesOf 3 = .ok (.invokevirtual 67, 3) := by decide +kernel
theorem dX4_losesOf_6 : decode cX4_losesOf 6 = .ok (.tableswitch 60 1 5 #[34, 38, 36, 48, 57], 34) := by decide +kernel
theorem dX4_losesOf_40 : decode cX4_losesOf 40 = .ok (.iconst 5, 1) := by decide +kernel
theorem dX4_losesOf_41 : decode cX4_losesOf 41 = .ok (.ireturn, 1) := by decide +kernel
theorem dX4_losesOf_42 : decode cX4_losesOf 42 = .ok (.iconst 0, 1) := by decide +kernel
theorem dX4_losesOf_43 : decode cX4_losesOf 43 = .ok (.ireturn, 1) := by decide +kernel
theorem dX4_losesOf_44 : decode cX4_losesOf 44 = .ok (.bipush 10, 2) := by decide +kernel
theorem dX4_losesOf_46 : decode cX4_losesOf 46 = .ok (.aload_n 0, 1) := by decide +kernel
theorem dX4_losesOf_47 : decode cX4_losesOf 47 = .ok (.iload_n 1, 1) := by decide +kernel
theorem dX4_losesOf_48 : decode cX4_losesOf 48 = .ok (.iconst 1, 1) := by decide +kernel
theorem dX4_losesOf_49 : decode cX4_losesOf 49 = .ok (.invokevirtual 67, 3) := by decide +kernel
theorem dX4_losesOf_52 : decode cX4_losesOf 52 = .ok (.iadd, 1) := by decide +kernel
theorem dX4_losesOf_53 : decode cX4_losesOf 53 = .ok (.ireturn, 1) := by decide +kernel
theorem dX4_losesOf_54 : decode cX4_losesOf 54 = .ok (.aload_n 0, 1) := by decide +kernel
theorem dX4_losesOf_55 : decode cX4_losesOf 55 = .ok (.iload_n 1, 1) := by decide +kernel
theorem dX4_losesOf_56 : decode cX4_losesOf 56 = .ok (.iconst 1, 1) := by decide +kernel
theorem dX4_losesOf_57 : decode cX4_losesOf 57 = .ok (.invokevirtual 67, 3) := by decide +kernel
theorem dX4_losesOf_60 : decode cX4_losesOf 60 = .ok (.iconst 5, 1) := by decide +kernel
theorem dX4_losesOf_61 : decode cX4_losesOf 61 = .ok (.isub, 1) := by decide +kernel
theorem dX4_losesOf_62 : decode cX4_losesOf 62 = .ok (.ireturn, 1) := by decide +kernel
theorem dX4_losesOf_63 : decode cX4_losesOf 63 = .ok (.bipush 30, 2) := by decide +kernel
theorem dX4_losesOf_65 : decode cX4_losesOf 65 = .ok (.ireturn, 1) := by decide +kernel
theorem dX4_losesOf_66 : decode cX4_losesOf 66 = .ok (.bipush 10, 2) := by decide +kernel
theorem dX4_losesOf_68 : decode cX4_losesOf 68 = .ok (.ireturn, 1) := by decide +kernel
theorem dX4_winsOf_0 : decode cX4_winsOf 0 = .ok (.aload_n 0, 1) := by decide +kernel
theorem dX4_winsOf_1 : decode cX4_winsOf 1 = .ok (.iload_n 1, 1) := by decide +kernel
theorem dX4_winsOf_2 : decode cX4_winsOf 2 = .ok (.iconst 0, 1) := by decide +kernel
theorem dX4_winsOf_3 : decode cX4_winsOf 3 = .ok (.invokevirtual 67, 3) := by decide +kernel
theorem dX4_winsOf_6 : decode cX4_winsOf 6 = .ok (.tableswitch 40 1 5 #[34, 36, 34, 36, 38], 34) := by decide +kernel
theorem dX4_winsOf_40 : decode cX4_winsOf 40 = .ok (.iconst 5, 1) := by decide +kernel
theorem dX4_winsOf_41 : decode cX4_winsOf 41 = .ok (.ireturn, 1) := by decide +kernel
theorem dX4_winsOf_42 : decode cX4_winsOf 42 = .ok (.iconst 1, 1) := by decide +kernel
theorem dX4_winsOf_43 : decode cX4_winsOf 43 = .ok (.ireturn, 1) := by decide +kernel
theorem dX4_winsOf_44 : decode cX4_winsOf 44 = .ok (.iconst 0, 1) := by decide +kernel
theorem dX4_winsOf_45 : decode cX4_winsOf 45 = .ok (.ireturn, 1) := by decide +kernel
theorem dX4_winsOf_46 : decode cX4_winsOf 46 = .ok (.iconst 3, 1) := by decide +kernel
theorem dX4_winsOf_47 : decode cX4_winsOf 47 = .ok (.ireturn, 1) := by decide +kernel
theorem dX4_doDisagree_0 : decode cX4_doDisagree 0 = .ok (.aload_n 0, 1) := by decide +kernel
theorem dX4_doDisagree_1 : decode cX4_doDisagree 1 = .ok (.iload_n 1, 1) := by decide +kernel
theorem dX4_doDisagree_2 : decode cX4_doDisagree 2 = .ok (.iconst 2, 1) := by decide +kernel
theorem dX4_doDisagree_3 : decode cX4_doDisagree 3 = .ok (.invokevirtual 67, 3) := by decide +kernel
theorem dX4_doDisagree_6 : decode cX4_doDisagree 6 = .ok (.istore_n 3, 1) := by decide +kernel
theorem dX4_doDisagree_7 : decode cX4_doDisagree 7 = .ok (.aload_n 0, 1) := by decide +kernel
theorem dX4_doDisagree_8 : decode cX4_doDisagree 8 = .ok (.iload_n 2, 1) := by decide +kernel
theorem dX4_doDisagree_9 : decode cX4_doDisagree 9 = .ok (.iconst 2, 1) := by decide +kernel
theorem dX4_doDisagree_10 : decode cX4_doDisagree 10 = .ok (.invokevirtual 67, 3) := by decide +kernel
theorem dX4_doDisagree_13 : decode cX4_doDisagree 13 = .ok (.istore 4, 2) := by decide +kernel
theorem dX4_doDisagree_15 : decode cX4_doDisagree 15 = .ok (.aload_n 0, 1) := by decide +kernel
theorem dX4_doDisagree_16 : decode cX4_doDisagree 16 = .ok (.getfield 71, 3) := by decide +kernel
theorem dX4_doDisagree_19 : decode cX4_doDisagree 19 = .ok (.iload_n 1, 1) := by decide +kernel
theorem dX4_doDisagree_20 : decode cX4_doDisagree 20 = .ok (.ishr, 1) := by decide +kernel
theorem dX4_doDisagree_21 : decode cX4_doDisagree 21 = .ok (.iconst 1, 1) := by decide +kernel
theorem dX4_doDisagree_22 : decode cX4_doDisagree 22 = .ok (.iand, 1) := by decide +kernel
theorem dX4_doDisagree_23 : decode cX4_doDisagree 23 = .ok (.iconst 1, 1) := by decide +kernel
theorem dX4_doDisagree_24 : decode cX4_doDisagree 24 = .ok (.if_icmp .eq 15, 3) := by decide +kernel
theorem dX4_doDisagree_27 : decode cX4_doDisagree 27 = .ok (.aload_n 0, 1) := by decide +kernel
theorem dX4_doDisagree_28 : decode cX4_doDisagree 28 = .ok (.getfield 71, 3) := by decide +kernel
theorem dX4_doDisagree_31 : decode cX4_doDisagree 31 = .ok (.iload_n 2, 1) := by decide +kernel
theorem dX4_doDisagree_32 : decode cX4_doDisagree 32 = .ok (.ishr, 1) := by decide +kernel
theorem dX4_doDisagree_33 : decode cX4_doDisagree 33 = .ok (.iconst 1, 1) := by decide +kernel
theorem dX4_doDisagree_34 : decode cX4_doDisagree 34 = .ok (.iand, 1) := by decide +kernel
theorem dX4_doDisagree_35 : decode cX4_doDisagree 35 = .ok (.iconst 1, 1) := by decide +kernel
theorem dX4_doDisagree_36 : decode cX4_doDisagree 36 = .ok (.if_icmp .ne 7, 3) := by decide +kernel
theorem dX4_doDisagree_39 : decode cX4_doDisagree 39 = .ok (.iconst 1, 1) := by decide +kernel
theorem dX4_doDisagree_40 : decode cX4_doDisagree 40 = .ok (.goto 4, 3) := by decide +kernel
theorem dX4_doDisagree_43 : decode cX4_doDisagree 43 = .ok (.iconst 0, 1) := by decide +kernel
theorem dX4_doDisagree_44 : decode cX4_doDisagree 44 = .ok (.istore 5, 2) := by decide +kernel
theorem dX4_doDisagree_46 : decode cX4_doDisagree 46 = .ok (.iload_n 1, 1) := by decide +kernel
theorem dX4_doDisagree_47 : decode cX4_doDisagree 47 = .ok (.iload_n 2, 1) := by decide +kernel
theorem dX4_doDisagree_48 : decode cX4_doDisagree 48 = .ok (.if_icmp .eq 54, 3) := by decide +kernel
theorem dX4_doDisagree_51 : decode cX4_doDisagree 51 = .ok (.iload 5, 2) := by decide +kernel
theorem dX4_doDisagree_53 : decode cX4_doDisagree 53 = .ok (.ifCond .ne 49, 3) := by decide +kernel
theorem dX4_doDisagree_56 : decode cX4_doDisagree 56 = .ok (.aload_n 0, 1) := by decide +kernel
theorem dX4_doDisagree_57 : decode cX4_doDisagree 57 = .ok (.iload_n 1, 1) := by decide +kernel
theorem dX4_doDisagree_58 : decode cX4_doDisagree 58 = .ok (.iconst 3, 1) := by decide +kernel
theorem dX4_doDisagree_59 : decode cX4_doDisagree 59 = .ok (.invokevirtual 67, 3) := by decide +kernel
theorem dX4_doDisagree_62 : decode cX4_doDisagree 62 = .ok (.aload_n 0, 1) := by decide +kernel
theorem dX4_doDisagree_63 : decode cX4_doDisagree 63 = .ok (.iload_n 2, 1) := by decide +kernel
theorem dX4_doDisagree_64 : decode cX4_doDisagree 64 = .ok (.iconst 3, 1) := by decide +kernel
theorem dX4_doDisagree_65 : decode cX4_doDisagree 65 = .ok (.invokevirtual 67, 3) := by decide +kernel
theorem dX4_doDisagree_68 : decode cX4_doDisagree 68 = .ok (.if_icmp .ne 34, 3) := by decide +kernel
theorem dX4_doDisagree_71 : decode cX4_doDisagree 71 = .ok (.iload_n 3, 1) := by decide +kernel
theorem dX4_doDisagree_72 : decode cX4_doDisagree 72 = .ok (.ifCond .le 30, 3) := by decide +kernel
theorem dX4_doDisagree_75 : decode cX4_doDisagree 75 = .ok (.iload 4, 2) := by decide +kernel
theorem dX4_doDisagree_77 : decode cX4_doDisagree 77 = .ok (.ifCond .le 25, 3) := by decide +kernel
theorem dX4_doDisagree_80 : decode cX4_doDisagree 80 = .ok (.iload_n 3, 1) := by decide +kernel
theorem dX4_doDisagree_81 : decode cX4_doDisagree 81 = .ok (.iload 4, 2) := by decide +kernel
theorem dX4_doDisagree_83 : decode cX4_doDisagree 83 = .ok (.isub, 1) := by decide +kernel
theorem dX4_doDisagree_84 : decode cX4_doDisagree 84 = .ok (.bipush 30, 2) := by decide +kernel
theorem dX4_doDisagree_86 : decode cX4_doDisagree 86 = .ok (.if_icmp .ge 12, 3) := by decide +kernel
theorem dX4_doDisagree_89 : decode cX4_doDisagree 89 = .ok (.iload 4, 2) := by decide +kernel
theorem dX4_doDisagree_91 : decode cX4_doDisagree 91 = .ok (.iload_n 3, 1) := by decide +kernel
theorem dX4_doDisagree_92 : decode cX4_doDisagree 92 = .ok (.isub, 1) := by decide +kernel
theorem dX4_doDisagree_93 : decode cX4_doDisagree 93 = .ok (.bipush 30, 2) := by decide +kernel
theorem dX4_doDisagree_95 : decode cX4_doDisagree 95 = .ok (.if_icmp .lt 7, 3) := by decide +kernel
theorem dX4_doDisagree_98 : decode cX4_doDisagree 98 = .ok (.iconst 1, 1) := by decide +kernel
theorem dX4_doDisagree_99 : decode cX4_doDisagree 99 = .ok (.goto 4, 3) := by decide +kernel
theorem dX4_doDisagree_102 : decode cX4_doDisagree 102 = .ok (.iconst 0, 1) := by decide +kernel
theorem dX4_doDisagree_103 : decode cX4_doDisagree 103 = .ok (.ireturn, 1) := by decide +kernel
theorem dX4_lowestOf_0 : decode cX4_lowestOf 0 = .ok (.bipush (-3), 2) := by decide +kernel
theorem dX4_lowestOf_2 : decode cX4_lowestOf 2 = .ok (.istore_n 2, 1) := by decide +kernel
theorem dX4_lowestOf_3 : decode cX4_lowestOf 3 = .ok (.aload_n 0, 1) := by decide +kernel
theorem dX4_lowestOf_4 : decode cX4_lowestOf 4 = .ok (.getfield 7, 3) := by decide +kernel
theorem dX4_lowestOf_7 : decode cX4_lowestOf 7 = .ok (.bipush 7, 2) := by decide +kernel
theorem dX4_lowestOf_9 : decode cX4_lowestOf 9 = .ok (.iload_n 1, 1) := by decide +kernel
theorem dX4_lowestOf_10 : decode cX4_lowestOf 10 = .ok (.iadd, 1) := by decide +kernel
theorem dX4_lowestOf_11 : decode cX4_lowestOf 11 = .ok (.iaload, 1) := by decide +kernel
theorem dX4_lowestOf_12 : decode cX4_lowestOf 12 = .ok (.istore_n 3, 1) := by decide +kernel
theorem dX4_lowestOf_13 : decode cX4_lowestOf 13 = .ok (.iconst 0, 1) := by decide +kernel
theorem dX4_lowestOf_14 : decode cX4_lowestOf 14 = .ok (.istore 4, 2) := by decide +kernel
theorem dX4_lowestOf_16 : decode cX4_lowestOf 16 = .ok (.iload 4, 2) := by decide +kernel
theorem dX4_lowestOf_18 : decode cX4_lowestOf 18 = .ok (.iconst 4, 1) := by decide +kernel
theorem dX4_lowestOf_19 : decode cX4_lowestOf 19 = .ok (.if_icmp .ge 160, 3) := by decide +kernel
theorem dX4_lowestOf_22 : decode cX4_lowestOf 22 = .ok (.iload 4, 2) := by decide +kernel
theorem dX4_lowestOf_24 : decode cX4_lowestOf 24 = .ok (.ifCond .ne 17, 3) := by decide +kernel
theorem dX4_lowestOf_27 : decode cX4_lowestOf 27 = .ok (.iload_n 1, 1) := by decide +kernel
theorem dX4_lowestOf_28 : decode cX4_lowestOf 28 = .ok (.bipush 8, 2) := by decide +kernel
theorem dX4_lowestOf_30 : decode cX4_lowestOf 30 = .ok (.if_icmp .lt 7, 3) := by decide +kernel
theorem dX4_lowestOf_33 : decode cX4_lowestOf 33 = .ok (.iconst 1, 1) := by decide +kernel
theorem dX4_lowestOf_34 : decode cX4_lowestOf 34 = .ok (.goto 62, 3) := by decide +kernel
theorem dX4_lowestOf_37 : decode cX4_lowestOf 37 = .ok (.iconst 0, 1) := by decide +kernel
theorem dX4_lowestOf_38 : decode cX4_lowestOf 38 = .ok (.goto 58, 3) := by decide +kernel
theorem dX4_lowestOf_41 : decode cX4_lowestOf 41 = .ok (.iload 4, 2) := by decide +kernel
theorem dX4_lowestOf_43 : decode cX4_lowestOf 43 = .ok (.iconst 1, 1) := by decide +kernel
theorem dX4_lowestOf_44 : decode cX4_lowestOf 44 = .ok (.if_icmp .ne 18, 3) := by decide +kernel
theorem dX4_lowestOf_47 : decode cX4_lowestOf 47 = .ok (.iload_n 1, 1) := by decide +kernel
theorem dX4_lowestOf_48 : decode cX4_lowestOf 48 = .ok (.bipush 8, 2) := by decide +kernel
theorem dX4_lowestOf_50 : decode cX4_lowestOf 50 = .ok (.irem, 1) := by decide +kernel
theorem dX4_lowestOf_51 : decode cX4_lowestOf 51 = .ok (.ifCond .le 7, 3) := by decide +kernel
theorem dX4_lowestOf_54 : decode cX4_lowestOf 54 = .ok (.iconst 1, 1) := by decide +kernel
theorem dX4_lowestOf_55 : decode cX4_lowestOf 55 = .ok (.goto 41, 3) := by decide +kernel
theorem dX4_lowestOf_58 : decode cX4_lowestOf 58 = .ok (.iconst 0, 1) := by decide +kernel
theorem dX4_lowestOf_59 : decode cX4_lowestOf 59 = .ok (.goto 37, 3) := by decide +kernel
theorem dX4_lowestOf_62 : decode cX4_lowestOf 62 = .ok (.iload 4, 2) := by decide +kernel
theorem dX4_lowestOf_64 : decode cX4_lowestOf 64 = .ok (.iconst 2, 1) := by decide +kernel
theorem dX4_lowestOf_65 : decode cX4_lowestOf 65 = .ok (.if_icmp .ne 20, 3) := by decide +kernel
theorem dX4_lowestOf_68 : decode cX4_lowestOf 68 = .ok (.iload_n 1, 1) := by decide +kernel
theorem dX4_lowestOf_69 : decode cX4_lowestOf 69 = .ok (.bipush 8, 2) := by decide +kernel
theorem dX4_lowestOf_71 : decode cX4_lowestOf 71 = .ok (.irem, 1) := by decide +kernel
theorem dX4_lowestOf_72 : decode cX4_lowestOf 72 = .ok (.bipush 7, 2) := by decide +kernel
theorem dX4_lowestOf_74 : decode cX4_lowestOf 74 = .ok (.if_icmp .ge 7, 3) := by decide +kernel
theorem dX4_lowestOf_77 : decode cX4_lowestOf 77 = .ok (.iconst 1, 1) := by decide +kernel
theorem dX4_lowestOf_78 : decode cX4_lowestOf 78 = .ok (.goto 18, 3) := by decide +kernel
theorem dX4_lowestOf_81 : decode cX4_lowestOf 81 = .ok (.iconst 0, 1) := by decide +kernel
theorem dX4_lowestOf_82 : decode cX4_lowestOf 82 = .ok (.goto 14, 3) := by decide +kernel
theorem dX4_lowestOf_85 : decode cX4_lowestOf 85 = .ok (.iload_n 1, 1) := by decide +kernel
theorem dX4_lowestOf_86 : decode cX4_lowestOf 86 = .ok (.bipush 24, 2) := by decide +kernel
theorem dX4_lowestOf_88 : decode cX4_lowestOf 88 = .ok (.if_icmp .ge 7, 3) := by decide +kernel
theorem dX4_lowestOf_91 : decode cX4_lowestOf 91 = .ok (.iconst 1, 1) := by decide +kernel
theorem dX4_lowestOf_92 : decode cX4_lowestOf 92 = .ok (.goto 4, 3) := by decide +kernel
theorem dX4_lowestOf_95 : decode cX4_lowestOf 95 = .ok (.iconst 0, 1) := by decide +kernel
theorem dX4_lowestOf_96 : decode cX4_lowestOf 96 = .ok (.istore 5, 2) := by decide +kernel
theorem dX4_lowestOf_98 : decode cX4_lowestOf 98 = .ok (.iload 4, 2) := by decide +kernel
theorem dX4_lowestOf_100 : decode cX4_lowestOf 100 = .ok (.ifCond .ne 10, 3) := by decide +kernel
theorem dX4_lowestOf_103 : decode cX4_lowestOf 103 = .ok (.iload_n 1, 1) := by decide +kernel
theorem dX4_lowestOf_104 : decode cX4_lowestOf 104 = .ok (.bipush 8, 2) := by decide +kernel
theorem dX4_lowestOf_106 : decode cX4_lowestOf 106 = .ok (.isub, 1) := by decide +kernel
theorem dX4_lowestOf_107 : decode cX4_lowestOf 107 = .ok (.goto 31, 3) := by decide +kernel
theorem dX4_lowestOf_110 : decode cX4_lowestOf 110 = .ok (.iload 4, 2) := by decide +kernel
theorem dX4_lowestOf_112 : decode cX4_lowestOf 112 = .ok (.iconst 1, 1) := by decide +kernel
theorem dX4_lowestOf_113 : decode cX4_lowestOf 113 = .ok (.if_icmp .ne 9, 3) := by decide +kernel
theorem dX4_lowestOf_116 : decode cX4_lowestOf 116 = .ok (.iload_n 1, 1) := by decide +kernel
theorem dX4_lowestOf_117 : decode cX4_lowestOf 117 = .ok (.iconst 1, 1) := by decide +kernel
theorem dX4_lowestOf_118 : decode cX4_lowestOf 118 = .ok (.isub, 1) := by decide +kernel
theorem dX4_lowestOf_119 : decode cX4_lowestOf 119 = .ok (.goto 19, 3) := by decide +kernel
theorem dX4_lowestOf_122 : decode cX4_lowestOf 122 = .ok (.iload 4, 2) := by decide +kernel
theorem dX4_lowestOf_124 : decode cX4_lowestOf 124 = .ok (.iconst 2, 1) := by decide +kernel
theorem dX4_lowestOf_125 : decode cX4_lowestOf 125 = .ok (.if_icmp .ne 9, 3) := by decide +kernel
theorem dX4_lowestOf_128 : decode cX4_lowestOf 128 = .ok (.iload_n 1, 1) := by decide +kernel
theorem dX4_lowestOf_129 : decode cX4_lowestOf 129 = .ok (.iconst 1, 1) := by decide +kernel
theorem dX4_lowestOf_130 : decode cX4_lowestOf 130 = .ok (.iadd, 1) := by decide +kernel
theorem dX4_lowestOf_131 : decode cX4_lowestOf 131 = .ok (.goto 7, 3) := by decide +kernel
theorem dX4_lowestOf_134 : decode cX4_lowestOf 134 = .ok (.iload_n 1, 1) := by decide +kernel
theorem dX4_lowestOf_135 : decode cX4_lowestOf 135 = .ok (.bipush 8, 2) := by decide +kernel
theorem dX4_lowestOf_137 : decode cX4_lowestOf 137 = .ok (.iadd, 1) := by decide +kernel
theorem dX4_lowestOf_138 : decode cX4_lowestOf 138 = .ok (.istore 6, 2) := by decide +kernel
theorem dX4_lowestOf_140 : decode cX4_lowestOf 140 = .ok (.iload 5, 2) := by decide +kernel
theorem dX4_lowestOf_142 : decode cX4_lowestOf 142 = .ok (.ifCond .eq 31, 3) := by decide +kernel
theorem dX4_lowestOf_145 : decode cX4_lowestOf 145 = .ok (.aload_n 0, 1) := by decide +kernel
theorem dX4_lowestOf_146 : decode cX4_lowestOf 146 = .ok (.getfield 7, 3) := by decide +kernel
theorem dX4_lowestOf_149 : decode cX4_lowestOf 149 = .ok (.bipush 7, 2) := by decide +kernel
theorem dX4_lowestOf_151 : decode cX4_lowestOf 151 = .ok (.iload 6, 2) := by decide +kernel
theorem dX4_lowestOf_153 : decode cX4_lowestOf 153 = .ok (.iadd, 1) := by decide +kernel
theorem dX4_lowestOf_154 : decode cX4_lowestOf 154 = .ok (.iaload, 1) := by decide +kernel
theorem dX4_lowestOf_155 : decode cX4_lowestOf 155 = .ok (.iload_n 3, 1) := by decide +kernel
theorem dX4_lowestOf_156 : decode cX4_lowestOf 156 = .ok (.if_icmp .ge 17, 3) := by decide +kernel
theorem dX4_lowestOf_159 : decode cX4_lowestOf 159 = .ok (.iload 6, 2) := by decide +kernel
theorem dX4_lowestOf_161 : decode cX4_lowestOf 161 = .ok (.istore_n 2, 1) := by decide +kernel
theorem dX4_lowestOf_162 : decode cX4_lowestOf 162 = .ok (.aload_n 0, 1) := by decide +kernel
theorem dX4_lowestOf_163 : decode cX4_lowestOf 163 = .ok (.getfield 7, 3) := by decide +kernel
theorem dX4_lowestOf_166 : decode cX4_lowestOf 166 = .ok (.bipush 7, 2) := by decide +kernel
theorem dX4_lowestOf_168 : decode cX4_lowestOf 168 = .ok (.iload 6, 2) := by decide +kernel
theorem dX4_lowestOf_170 : decode cX4_lowestOf 170 = .ok (.iadd, 1) := by decide +kernel
theorem dX4_lowestOf_171 : decode cX4_lowestOf 171 = .ok (.iaload, 1) := by decide +kernel
theorem dX4_lowestOf_172 : decode cX4_lowestOf 172 = .ok (.istore_n 3, 1) := by decide +kernel
theorem dX4_lowestOf_173 : decode cX4_lowestOf 173 = .ok (.iinc 4 1, 3) := by decide +kernel
theorem dX4_lowestOf_176 : decode cX4_lowestOf 176 = .ok (.goto (-160), 3) := by decide +kernel
theorem dX4_lowestOf_179 : decode cX4_lowestOf 179 = .ok (.iload_n 2, 1) := by decide +kernel
theorem dX4_lowestOf_180 : decode cX4_lowestOf 180 = .ok (.ireturn, 1) := by decide +kernel
theorem dX4_isWet_0 : decode cX4_isWet 0 = .ok (.aload_n 0, 1) := by decide +kernel
theorem dX4_isWet_1 : decode cX4_isWet 1 = .ok (.getfield 7, 3) := by decide +kernel
theorem dX4_isWet_4 : decode cX4_isWet 4 = .ok (.bipush 39, 2) := by decide +kernel
theorem dX4_isWet_6 : decode cX4_isWet 6 = .ok (.iload_n 1, 1) := by decide +kernel
theorem dX4_isWet_7 : decode cX4_isWet 7 = .ok (.iadd, 1) := by decide +kernel
theorem dX4_isWet_8 : decode cX4_isWet 8 = .ok (.iaload, 1) := by decide +kernel
theorem dX4_isWet_9 : decode cX4_isWet 9 = .ok (.bipush 10, 2) := by decide +kernel
theorem dX4_isWet_11 : decode cX4_isWet 11 = .ok (.if_icmp .lt 7, 3) := by decide +kernel
theorem dX4_isWet_14 : decode cX4_isWet 14 = .ok (.iconst 1, 1) := by decide +kernel
theorem dX4_isWet_15 : decode cX4_isWet 15 = .ok (.goto 4, 3) := by decide +kernel
theorem dX4_isWet_18 : decode cX4_isWet 18 = .ok (.iconst 0, 1) := by decide +kernel
theorem dX4_isWet_19 : decode cX4_isWet 19 = .ok (.ireturn, 1) := by decide +kernel
theorem dX4_comesTo_0 : decode cX4_comesTo 0 = .ok (.aload_n 0, 1) := by decide +kernel
theorem dX4_comesTo_1 : decode cX4_comesTo 1 = .ok (.getfield 7, 3) := by decide +kernel
theorem dX4_comesTo_4 : decode cX4_comesTo 4 = .ok (.bipush 39, 2) := by decide +kernel
theorem dX4_comesTo_6 : decode cX4_comesTo 6 = .ok (.iload_n 1, 1) := by decide +kernel
theorem dX4_comesTo_7 : decode cX4_comesTo 7 = .ok (.iadd, 1) := by decide +kernel
theorem dX4_comesTo_8 : decode cX4_comesTo 8 = .ok (.aload_n 0, 1) := by decide +kernel
theorem dX4_comesTo_9 : decode cX4_comesTo 9 = .ok (.getfield 7, 3) := by decide +kernel
theorem dX4_comesTo_12 : decode cX4_comesTo 12 = .ok (.bipush 39, 2) := by decide +kernel
theorem dX4_comesTo_14 : decode cX4_comesTo 14 = .ok (.iload_n 1, 1) := by decide +kernel
theorem dX4_comesTo_15 : decode cX4_comesTo 15 = .ok (.iadd, 1) := by decide +kernel
theorem dX4_comesTo_16 : decode cX4_comesTo 16 = .ok (.iaload, 1) := by decide +kernel
theorem dX4_comesTo_17 : decode cX4_comesTo 17 = .ok (.iload_n 2, 1) := by decide +kernel
theorem dX4_comesTo_18 : decode cX4_comesTo 18 = .ok (.iadd, 1) := by decide +kernel
theorem dX4_comesTo_19 : decode cX4_comesTo 19 = .ok (.invokestatic 75, 3) := by decide +kernel
theorem dX4_comesTo_22 : decode cX4_comesTo 22 = .ok (.iastore, 1) := by decide +kernel
theorem dX4_comesTo_23 : decode cX4_comesTo 23 = .ok (.return_, 1) := by decide +kernel
theorem dX4_yearGoes_0 : decode cX4_yearGoes 0 = .ok (.iconst 0, 1) := by decide +kernel
theorem dX4_yearGoes_1 : decode cX4_yearGoes 1 = .ok (.istore_n 1, 1) := by decide +kernel
theorem dX4_yearGoes_2 : decode cX4_yearGoes 2 = .ok (.iload_n 1, 1) := by decide +kernel
theorem dX4_yearGoes_3 : decode cX4_yearGoes 3 = .ok (.bipush 32, 2) := by decide +kernel
theorem dX4_yearGoes_5 : decode cX4_yearGoes 5 = .ok (.if_icmp .ge 16, 3) := by decide +kernel
theorem dX4_yearGoes_8 : decode cX4_yearGoes 8 = .ok (.aload_n 0, 1) := by decide +kernel
theorem dX4_yearGoes_9 : decode cX4_yearGoes 9 = .ok (.getfield 19, 3) := by decide +kernel
theorem dX4_yearGoes_12 : decode cX4_yearGoes 12 = .ok (.iload_n 1, 1) := by decide +kernel
theorem dX4_yearGoes_13 : decode cX4_yearGoes 13 = .ok (.iconst 0, 1) := by decide +kernel
theorem dX4_yearGoes_14 : decode cX4_yearGoes 14 = .ok (.iastore, 1) := by decide +kernel
theorem dX4_yearGoes_15 : decode cX4_yearGoes 15 = .ok (.iinc 1 1, 3) := by decide +kernel
theorem dX4_yearGoes_18 : decode cX4_yearGoes 18 = .ok (.goto (-16), 3) := by decide +kernel
theorem dX4_yearGoes_21 : decode cX4_yearGoes 21 = .ok (.iconst 0, 1) := by decide +kernel
theorem dX4_yearGoes_22 : decode cX4_yearGoes 22 = .ok (.istore_n 1, 1) := by decide +kernel
theorem dX4_yearGoes_23 : decode cX4_yearGoes 23 = .ok (.iload_n 1, 1) := by decide +kernel
theorem dX4_yearGoes_24 : decode cX4_yearGoes 24 = .ok (.aload_n 0, 1) := by decide +kernel
theorem dX4_yearGoes_25 : decode cX4_yearGoes 25 = .ok (.getfield 7, 3) := by decide +kernel
theorem dX4_yearGoes_28 : decode cX4_yearGoes 28 = .ok (.iconst 5, 1) := by decide +kernel
theorem dX4_yearGoes_29 : decode cX4_yearGoes 29 = .ok (.iaload, 1) := by decide +kernel
theorem dX4_yearGoes_30 : decode cX4_yearGoes 30 = .ok (.if_icmp .ge 81, 3) := by decide +kernel
theorem dX4_yearGoes_33 : decode cX4_yearGoes 33 = .ok (.aload_n 0, 1) := by decide +kernel
theorem dX4_yearGoes_34 : decode cX4_yearGoes 34 = .ok (.getfield 19, 3) := by decide +kernel
theorem dX4_yearGoes_37 : decode cX4_yearGoes 37 = .ok (.aload_n 0, 1) := by decide +kernel
theorem dX4_yearGoes_38 : decode cX4_yearGoes 38 = .ok (.iload_n 1, 1) := by decide +kernel
theorem dX4_yearGoes_39 : decode cX4_yearGoes 39 = .ok (.iconst 3, 1) := by decide +kernel
theorem dX4_yearGoes_40 : decode cX4_yearGoes 40 = .ok (.invokevirtual 67, 3) := by decide +kernel
theorem dX4_yearGoes_43 : decode cX4_yearGoes 43 = .ok (.dup2, 1) := by decide +kernel
theorem dX4_yearGoes_44 : decode cX4_yearGoes 44 = .ok (.iaload, 1) := by decide +kernel
theorem dX4_yearGoes_45 : decode cX4_yearGoes 45 = .ok (.aload_n 0, 1) := by decide +kernel
theorem dX4_yearGoes_46 : decode cX4_yearGoes 46 = .ok (.iload_n 1, 1) := by decide +kernel
theorem dX4_yearGoes_47 : decode cX4_yearGoes 47 = .ok (.invokevirtual 79, 3) := by decide +kernel
theorem dX4_yearGoes_50 : decode cX4_yearGoes 50 = .ok (.iadd, 1) := by decide +kernel
theorem dX4_yearGoes_51 : decode cX4_yearGoes 51 = .ok (.iastore, 1) := by decide +kernel
theorem dX4_yearGoes_52 : decode cX4_yearGoes 52 = .ok (.iload_n 1, 1) := by decide +kernel
theorem dX4_yearGoes_53 : decode cX4_yearGoes 53 = .ok (.iconst 1, 1) := by decide +kernel
theorem dX4_yearGoes_54 : decode cX4_yearGoes 54 = .ok (.iadd, 1) := by decide +kernel
theorem dX4_yearGoes_55 : decode cX4_yearGoes 55 = .ok (.istore_n 2, 1) := by decide +kernel
theorem dX4_yearGoes_56 : decode cX4_yearGoes 56 = .ok (.iload_n 2, 1) := by decide +kernel
theorem dX4_yearGoes_57 : decode cX4_yearGoes 57 = .ok (.aload_n 0, 1) := by decide +kernel
theorem dX4_yearGoes_58 : decode cX4_yearGoes 58 = .ok (.getfield 7, 3) := by decide +kernel
theorem dX4_yearGoes_61 : decode cX4_yearGoes 61 = .ok (.iconst 5, 1) := by decide +kernel
theorem dX4_yearGoes_62 : decode cX4_yearGoes 62 = .ok (.iaload, 1) := by decide +kernel
theorem dX4_yearGoes_63 : decode cX4_yearGoes 63 = .ok (.if_icmp .ge 42, 3) := by decide +kernel
theorem dX4_yearGoes_66 : decode cX4_yearGoes 66 = .ok (.aload_n 0, 1) := by decide +kernel
theorem dX4_yearGoes_67 : decode cX4_yearGoes 67 = .ok (.getfield 19, 3) := by decide +kernel
theorem dX4_yearGoes_70 : decode cX4_yearGoes 70 = .ok (.aload_n 0, 1) := by decide +kernel
theorem dX4_yearGoes_71 : decode cX4_yearGoes 71 = .ok (.iload_n 1, 1) := by decide +kernel
theorem dX4_yearGoes_72 : decode cX4_yearGoes 72 = .ok (.iconst 3, 1) := by decide +kernel
theorem dX4_yearGoes_73 : decode cX4_yearGoes 73 = .ok (.invokevirtual 67, 3) := by decide +kernel
theorem dX4_yearGoes_76 : decode cX4_yearGoes 76 = .ok (.dup2, 1) := by decide +kernel
theorem dX4_yearGoes_77 : decode cX4_yearGoes 77 = .ok (.iaload, 1) := by decide +kernel
theorem dX4_yearGoes_78 : decode cX4_yearGoes 78 = .ok (.aload_n 0, 1) := by decide +kernel
theorem dX4_yearGoes_79 : decode cX4_yearGoes 79 = .ok (.iload_n 1, 1) := by decide +kernel
theorem dX4_yearGoes_80 : decode cX4_yearGoes 80 = .ok (.iload_n 2, 1) := by decide +kernel
theorem dX4_yearGoes_81 : decode cX4_yearGoes 81 = .ok (.invokevirtual 82, 3) := by decide +kernel
theorem dX4_yearGoes_84 : decode cX4_yearGoes 84 = .ok (.ifCond .eq 12, 3) := by decide +kernel
theorem dX4_yearGoes_87 : decode cX4_yearGoes 87 = .ok (.aload_n 0, 1) := by decide +kernel
theorem dX4_yearGoes_88 : decode cX4_yearGoes 88 = .ok (.getfield 7, 3) := by decide +kernel
theorem dX4_yearGoes_91 : decode cX4_yearGoes 91 = .ok (.iconst 1, 1) := by decide +kernel
theorem dX4_yearGoes_92 : decode cX4_yearGoes 92 = .ok (.iaload, 1) := by decide +kernel
theorem dX4_yearGoes_93 : decode cX4_yearGoes 93 = .ok (.goto 4, 3) := by decide +kernel
theorem dX4_yearGoes_96 : decode cX4_yearGoes 96 = .ok (.iconst 0, 1) := by decide +kernel
theorem dX4_yearGoes_97 : decode cX4_yearGoes 97 = .ok (.iadd, 1) := by decide +kernel
theorem dX4_yearGoes_98 : decode cX4_yearGoes 98 = .ok (.iastore, 1) := by decide +kernel
theorem dX4_yearGoes_99 : decode cX4_yearGoes 99 = .ok (.iinc 2 1, 3) := by decide +kernel
theorem dX4_yearGoes_102 : decode cX4_yearGoes 102 = .ok (.goto (-46), 3) := by decide +kernel
theorem dX4_yearGoes_105 : decode cX4_yearGoes 105 = .ok (.iinc 1 1, 3) := by decide +kernel
theorem dX4_yearGoes_108 : decode cX4_yearGoes 108 = .ok (.goto (-85), 3) := by decide +kernel
theorem dX4_yearGoes_111 : decode cX4_yearGoes 111 = .ok (.iconst 0, 1) := by decide +kernel
theorem dX4_yearGoes_112 : decode cX4_yearGoes 112 = .ok (.istore_n 1, 1) := by decide +kernel
theorem dX4_yearGoes_113 : decode cX4_yearGoes 113 = .ok (.iload_n 1, 1) := by decide +kernel
theorem dX4_yearGoes_114 : decode cX4_yearGoes 114 = .ok (.bipush 32, 2) := by decide +kernel
theorem dX4_yearGoes_116 : decode cX4_yearGoes 116 = .ok (.if_icmp .ge 20, 3) := by decide +kernel
theorem dX4_yearGoes_119 : decode cX4_yearGoes 119 = .ok (.aload_n 0, 1) := by decide +kernel
theorem dX4_yearGoes_120 : decode cX4_yearGoes 120 = .ok (.iload_n 1, 1) := by decide +kernel
theorem dX4_yearGoes_121 : decode cX4_yearGoes 121 = .ok (.aload_n 0, 1) := by decide +kernel
theorem dX4_yearGoes_122 : decode cX4_yearGoes 122 = .ok (.getfield 19, 3) := by decide +kernel
theorem dX4_yearGoes_125 : decode cX4_yearGoes 125 = .ok (.iload_n 1, 1) := by decide +kernel
theorem dX4_yearGoes_126 : decode cX4_yearGoes 126 = .ok (.iaload, 1) := by decide +kernel
theorem dX4_yearGoes_127 : decode cX4_yearGoes 127 = .ok (.invokevirtual 86, 3) := by decide +kernel
theorem dX4_yearGoes_130 : decode cX4_yearGoes 130 = .ok (.iinc 1 1, 3) := by decide +kernel
theorem dX4_yearGoes_133 : decode cX4_yearGoes 133 = .ok (.goto (-20), 3) := by decide +kernel
theorem dX4_yearGoes_136 : decode cX4_yearGoes 136 = .ok (.iconst 0, 1) := by decide +kernel
theorem dX4_yearGoes_137 : decode cX4_yearGoes 137 = .ok (.istore_n 1, 1) := by decide +kernel
theorem dX4_yearGoes_138 : decode cX4_yearGoes 138 = .ok (.iload_n 1, 1) := by decide +kernel
theorem dX4_yearGoes_139 : decode cX4_yearGoes 139 = .ok (.bipush 32, 2) := by decide +kernel
theorem dX4_yearGoes_141 : decode cX4_yearGoes 141 = .ok (.if_icmp .ge 71, 3) := by decide +kernel
theorem dX4_yearGoes_144 : decode cX4_yearGoes 144 = .ok (.aload_n 0, 1) := by decide +kernel
theorem dX4_yearGoes_145 : decode cX4_yearGoes 145 = .ok (.getfield 7, 3) := by decide +kernel
theorem dX4_yearGoes_148 : decode cX4_yearGoes 148 = .ok (.bipush 39, 2) := by decide +kernel
theorem dX4_yearGoes_150 : decode cX4_yearGoes 150 = .ok (.iload_n 1, 1) := by decide +kernel
theorem dX4_yearGoes_151 : decode cX4_yearGoes 151 = .ok (.iadd, 1) := by decide +kernel
theorem dX4_yearGoes_152 : decode cX4_yearGoes 152 = .ok (.iaload, 1) := by decide +kernel
theorem dX4_yearGoes_153 : decode cX4_yearGoes 153 = .ok (.aload_n 0, 1) := by decide +kernel
theorem dX4_yearGoes_154 : decode cX4_yearGoes 154 = .ok (.getfield 7, 3) := by decide +kernel
theorem dX4_yearGoes_157 : decode cX4_yearGoes 157 = .ok (.iconst 2, 1) := by decide +kernel
theorem dX4_yearGoes_158 : decode cX4_yearGoes 158 = .ok (.iaload, 1) := by decide +kernel
theorem dX4_yearGoes_159 : decode cX4_yearGoes 159 = .ok (.isub, 1) := by decide +kernel
theorem dX4_yearGoes_160 : decode cX4_yearGoes 160 = .ok (.istore_n 2, 1) := by decide +kernel
theorem dX4_yearGoes_161 : decode cX4_yearGoes 161 = .ok (.iload_n 2, 1) := by decide +kernel
theorem dX4_yearGoes_162 : decode cX4_yearGoes 162 = .ok (.iconst 1, 1) := by decide +kernel
theorem dX4_yearGoes_163 : decode cX4_yearGoes 163 = .ok (.if_icmp .le 11, 3) := by decide +kernel
theorem dX4_yearGoes_166 : decode cX4_yearGoes 166 = .ok (.aload_n 0, 1) := by decide +kernel
theorem dX4_yearGoes_167 : decode cX4_yearGoes 167 = .ok (.iload_n 1, 1) := by decide +kernel
theorem dX4_yearGoes_168 : decode cX4_yearGoes 168 = .ok (.invokevirtual 90, 3) := by decide +kernel
theorem dX4_yearGoes_171 : decode cX4_yearGoes 171 = .ok (.goto 5, 3) := by decide +kernel
theorem dX4_yearGoes_174 : decode cX4_yearGoes 174 = .ok (.bipush (-3), 2) := by decide +kernel
theorem dX4_yearGoes_176 : decode cX4_yearGoes 176 = .ok (.istore_n 3, 1) := by decide +kernel
theorem dX4_yearGoes_177 : decode cX4_yearGoes 177 = .ok (.iload_n 3, 1) := by decide +kernel
theorem dX4_yearGoes_178 : decode cX4_yearGoes 178 = .ok (.bipush (-3), 2) := by decide +kernel
theorem dX4_yearGoes_180 : decode cX4_yearGoes 180 = .ok (.if_icmp .eq 26, 3) := by decide +kernel
theorem dX4_yearGoes_183 : decode cX4_yearGoes 183 = .ok (.aload_n 0, 1) := by decide +kernel
theorem dX4_yearGoes_184 : decode cX4_yearGoes 184 = .ok (.getfield 7, 3) := by decide +kernel
theorem dX4_yearGoes_187 : decode cX4_yearGoes 187 = .ok (.bipush 39, 2) := by decide +kernel
theorem dX4_yearGoes_189 : decode cX4_yearGoes 189 = .ok (.iload_n 1, 1) := by decide +kernel
theorem dX4_yearGoes_190 : decode cX4_yearGoes 190 = .ok (.iadd, 1) := by decide +kernel
theorem dX4_yearGoes_191 : decode cX4_yearGoes 191 = .ok (.dup2, 1) := by decide +kernel
theorem dX4_yearGoes_192 : decode cX4_yearGoes 192 = .ok (.iaload, 1) := by decide +kernel
theorem dX4_yearGoes_193 : decode cX4_yearGoes 193 = .ok (.iload_n 2, 1) := by decide +kernel
theorem dX4_yearGoes_194 : decode cX4_yearGoes 194 = .ok (.iconst 2, 1) := by decide +kernel
theorem dX4_yearGoes_195 : decode cX4_yearGoes 195 = .ok (.idiv, 1) := by decide +kernel
theorem dX4_yearGoes_196 : decode cX4_yearGoes 196 = .ok (.isub, 1) := by decide +kernel
theorem dX4_yearGoes_197 : decode cX4_yearGoes 197 = .ok (.iastore, 1) := by decide +kernel
theorem dX4_yearGoes_198 : decode cX4_yearGoes 198 = .ok (.aload_n 0, 1) := by decide +kernel
theorem dX4_yearGoes_199 : decode cX4_yearGoes 199 = .ok (.iload_n 3, 1) := by decide +kernel
theorem dX4_yearGoes_200 : decode cX4_yearGoes 200 = .ok (.iload_n 2, 1) := by decide +kernel
theorem dX4_yearGoes_201 : decode cX4_yearGoes 201 = .ok (.iconst 2, 1) := by decide +kernel
theorem dX4_yearGoes_202 : decode cX4_yearGoes 202 = .ok (.idiv, 1) := by decide +kernel
theorem dX4_yearGoes_203 : decode cX4_yearGoes 203 = .ok (.invokevirtual 86, 3) := by decide +kernel
theorem dX4_yearGoes_206 : decode cX4_yearGoes 206 = .ok (.iinc 1 1, 3) := by decide +kernel
theorem dX4_yearGoes_209 : decode cX4_yearGoes 209 = .ok (.goto (-71), 3) := by decide +kernel
theorem dX4_yearGoes_212 : decode cX4_yearGoes 212 = .ok (.iconst 0, 1) := by decide +kernel
theorem dX4_yearGoes_213 : decode cX4_yearGoes 213 = .ok (.istore_n 1, 1) := by decide +kernel
theorem dX4_yearGoes_214 : decode cX4_yearGoes 214 = .ok (.iload_n 1, 1) := by decide +kernel
theorem dX4_yearGoes_215 : decode cX4_yearGoes 215 = .ok (.aload_n 0, 1) := by decide +kernel
theorem dX4_yearGoes_216 : decode cX4_yearGoes 216 = .ok (.getfield 7, 3) := by decide +kernel
theorem dX4_yearGoes_219 : decode cX4_yearGoes 219 = .ok (.iconst 5, 1) := by decide +kernel
theorem dX4_yearGoes_220 : decode cX4_yearGoes 220 = .ok (.iaload, 1) := by decide +kernel
theorem dX4_yearGoes_221 : decode cX4_yearGoes 221 = .ok (.if_icmp .ge 61, 3) := by decide +kernel
theorem dX4_yearGoes_224 : decode cX4_yearGoes 224 = .ok (.aload_n 0, 1) := by decide +kernel
theorem dX4_yearGoes_225 : decode cX4_yearGoes 225 = .ok (.iload_n 1, 1) := by decide +kernel
theorem dX4_yearGoes_226 : decode cX4_yearGoes 226 = .ok (.iconst 2, 1) := by decide +kernel
theorem dX4_yearGoes_227 : decode cX4_yearGoes 227 = .ok (.invokevirtual 67, 3) := by decide +kernel
theorem dX4_yearGoes_230 : decode cX4_yearGoes 230 = .ok (.ifCond .le 46, 3) := by decide +kernel
theorem dX4_yearGoes_233 : decode cX4_yearGoes 233 = .ok (.aload_n 0, 1) := by decide +kernel
theorem dX4_yearGoes_234 : decode cX4_yearGoes 234 = .ok (.iload_n 1, 1) := by decide +kernel
theorem dX4_yearGoes_235 : decode cX4_yearGoes 235 = .ok (.iconst 2, 1) := by decide +kernel
theorem dX4_yearGoes_236 : decode cX4_yearGoes 236 = .ok (.aload_n 0, 1) := by decide +kernel
theorem dX4_yearGoes_237 : decode cX4_yearGoes 237 = .ok (.iload_n 1, 1) := by decide +kernel
theorem dX4_yearGoes_238 : decode cX4_yearGoes 238 = .ok (.iconst 2, 1) := by decide +kernel
theorem dX4_yearGoes_239 : decode cX4_yearGoes 239 = .ok (.invokevirtual 67, 3) := by decide +kernel
theorem dX4_yearGoes_242 : decode cX4_yearGoes 242 = .ok (.aload_n 0, 1) := by decide +kernel
theorem dX4_yearGoes_243 : decode cX4_yearGoes 243 = .ok (.aload_n 0, 1) := by decide +kernel
theorem dX4_yearGoes_244 : decode cX4_yearGoes 244 = .ok (.iload_n 1, 1) := by decide +kernel
theorem dX4_yearGoes_245 : decode cX4_yearGoes 245 = .ok (.iconst 3, 1) := by decide +kernel
theorem dX4_yearGoes_246 : decode cX4_yearGoes 246 = .ok (.invokevirtual 67, 3) := by decide +kernel
theorem dX4_yearGoes_249 : decode cX4_yearGoes 249 = .ok (.invokevirtual 93, 3) := by decide +kernel
theorem dX4_yearGoes_252 : decode cX4_yearGoes 252 = .ok (.ifCond .eq 12, 3) := by decide +kernel
theorem dX4_yearGoes_255 : decode cX4_yearGoes 255 = .ok (.aload_n 0, 1) := by decide +kernel
theorem dX4_yearGoes_256 : decode cX4_yearGoes 256 = .ok (.iload_n 1, 1) := by decide +kernel
theorem dX4_yearGoes_257 : decode cX4_yearGoes 257 = .ok (.invokevirtual 97, 3) := by decide +kernel
theorem dX4_yearGoes_260 : decode cX4_yearGoes 260 = .ok (.ineg, 1) := by decide +kernel
theorem dX4_yearGoes_261 : decode cX4_yearGoes 261 = .ok (.goto 8, 3) := by decide +kernel
theorem dX4_yearGoes_264 : decode cX4_yearGoes 264 = .ok (.aload_n 0, 1) := by decide +kernel
theorem dX4_yearGoes_265 : decode cX4_yearGoes 265 = .ok (.iload_n 1, 1) := by decide +kernel
theorem dX4_yearGoes_266 : decode cX4_yearGoes 266 = .ok (.invokevirtual 100, 3) := by decide +kernel
theorem dX4_yearGoes_269 : decode cX4_yearGoes 269 = .ok (.iadd, 1) := by decide +kernel
theorem dX4_yearGoes_270 : decode cX4_yearGoes 270 = .ok (.invokestatic 75, 3) := by decide +kernel
theorem dX4_yearGoes_273 : decode cX4_yearGoes 273 = .ok (.invokevirtual 103, 3) := by decide +kernel
theorem dX4_yearGoes_276 : decode cX4_yearGoes 276 = .ok (.iinc 1 1, 3) := by decide +kernel
theorem dX4_yearGoes_279 : decode cX4_yearGoes 279 = .ok (.goto (-65), 3) := by decide +kernel
theorem dX4_yearGoes_282 : decode cX4_yearGoes 282 = .ok (.aload_n 0, 1) := by decide +kernel
theorem dX4_yearGoes_283 : decode cX4_yearGoes 283 = .ok (.getfield 7, 3) := by decide +kernel
theorem dX4_yearGoes_286 : decode cX4_yearGoes 286 = .ok (.iconst 4, 1) := by decide +kernel
theorem dX4_yearGoes_287 : decode cX4_yearGoes 287 = .ok (.dup2, 1) := by decide +kernel
theorem dX4_yearGoes_288 : decode cX4_yearGoes 288 = .ok (.iaload, 1) := by decide +kernel
theorem dX4_yearGoes_289 : decode cX4_yearGoes 289 = .ok (.iconst 1, 1) := by decide +kernel
theorem dX4_yearGoes_290 : decode cX4_yearGoes 290 = .ok (.iadd, 1) := by decide +kernel
theorem dX4_yearGoes_291 : decode cX4_yearGoes 291 = .ok (.iastore, 1) := by decide +kernel
theorem dX4_yearGoes_292 : decode cX4_yearGoes 292 = .ok (.return_, 1) := by decide +kernel
theorem dX4_yearsGo_0 : decode cX4_yearsGo 0 = .ok (.iconst 0, 1) := by decide +kernel
theorem dX4_yearsGo_1 : decode cX4_yearsGo 1 = .ok (.istore_n 2, 1) := by decide +kernel
theorem dX4_yearsGo_2 : decode cX4_yearsGo 2 = .ok (.iload_n 2, 1) := by decide +kernel
theorem dX4_yearsGo_3 : decode cX4_yearsGo 3 = .ok (.iload_n 1, 1) := by decide +kernel
theorem dX4_yearsGo_4 : decode cX4_yearsGo 4 = .ok (.if_icmp .ge 13, 3) := by decide +kernel
theorem dX4_yearsGo_7 : decode cX4_yearsGo 7 = .ok (.aload_n 0, 1) := by decide +kernel
theorem dX4_yearsGo_8 : decode cX4_yearsGo 8 = .ok (.invokevirtual 107, 3) := by decide +kernel
theorem dX4_yearsGo_11 : decode cX4_yearsGo 11 = .ok (.iinc 2 1, 3) := by decide +kernel
theorem dX4_yearsGo_14 : decode cX4_yearsGo 14 = .ok (.goto (-12), 3) := by decide +kernel
theorem dX4_yearsGo_17 : decode cX4_yearsGo 17 = .ok (.return_, 1) := by decide +kernel
theorem dX4_set_0 : decode cX4_set 0 = .ok (.iload_n 1, 1) := by decide +kernel
theorem dX4_set_1 : decode cX4_set 1 = .ok (.i2l, 1) := by decide +kernel
theorem dX4_set_2 : decode cX4_set 2 = .ok (.lconst 0, 1) := by decide +kernel
theorem dX4_set_3 : decode cX4_set 3 = .ok (.ldc2_w 110, 3) := by decide +kernel
theorem dX4_set_6 : decode cX4_set 6 = .ok (.invokestatic 61, 3) := by decide +kernel
theorem dX4_set_9 : decode cX4_set 9 = .ok (.ifCond .eq 37, 3) := by decide +kernel
theorem dX4_set_12 : decode cX4_set 12 = .ok (.iload_n 2, 1) := by decide +kernel
theorem dX4_set_13 : decode cX4_set 13 = .ok (.i2l, 1) := by decide +kernel
theorem dX4_set_14 : decode cX4_set 14 = .ok (.lconst 0, 1) := by decide +kernel
theorem dX4_set_15 : decode cX4_set 15 = .ok (.iload_n 1, 1) := by decide +kernel
theorem dX4_set_16 : decode cX4_set 16 = .ok (.iconst 2, 1) := by decide +kernel
theorem dX4_set_17 : decode cX4_set 17 = .ok (.if_icmp .ge 9, 3) := by decide +kernel
theorem dX4_set_20 : decode cX4_set 20 = .ok (.ldc2_w 112, 3) := by decide +kernel
theorem dX4_set_23 : decode cX4_set 23 = .ok (.goto 17, 3) := by decide +kernel
theorem dX4_set_26 : decode cX4_set 26 = .ok (.iload_n 1, 1) := by decide +kernel
theorem dX4_set_27 : decode cX4_set 27 = .ok (.iconst 2, 1) := by decide +kernel
theorem dX4_set_28 : decode cX4_set 28 = .ok (.if_icmp .ne 9, 3) := by decide +kernel
theorem dX4_set_31 : decode cX4_set 31 = .ok (.ldc2_w 114, 3) := by decide +kernel
theorem dX4_set_34 : decode cX4_set 34 = .ok (.goto 6, 3) := by decide +kernel
theorem dX4_set_37 : decode cX4_set 37 = .ok (.ldc2_w 116, 3) := by decide +kernel
theorem dX4_set_40 : decode cX4_set 40 = .ok (.invokestatic 61, 3) := by decide +kernel
theorem dX4_set_43 : decode cX4_set 43 = .ok (.ifCond .ne 5, 3) := by decide +kernel
theorem dX4_set_46 : decode cX4_set 46 = .ok (.iconst (-1), 1) := by decide +kernel
theorem dX4_set_47 : decode cX4_set 47 = .ok (.ireturn, 1) := by decide +kernel
theorem dX4_set_48 : decode cX4_set 48 = .ok (.aload_n 0, 1) := by decide +kernel
theorem dX4_set_49 : decode cX4_set 49 = .ok (.getfield 7, 3) := by decide +kernel
theorem dX4_set_52 : decode cX4_set 52 = .ok (.iload_n 1, 1) := by decide +kernel
theorem dX4_set_53 : decode cX4_set 53 = .ok (.iaload, 1) := by decide +kernel
theorem dX4_set_54 : decode cX4_set 54 = .ok (.istore_n 3, 1) := by decide +kernel
theorem dX4_set_55 : decode cX4_set 55 = .ok (.aload_n 0, 1) := by decide +kernel
theorem dX4_set_56 : decode cX4_set 56 = .ok (.getfield 7, 3) := by decide +kernel
theorem dX4_set_59 : decode cX4_set 59 = .ok (.iload_n 1, 1) := by decide +kernel
theorem dX4_set_60 : decode cX4_set 60 = .ok (.iload_n 2, 1) := by decide +kernel
theorem dX4_set_61 : decode cX4_set 61 = .ok (.iastore, 1) := by decide +kernel
theorem dX4_set_62 : decode cX4_set 62 = .ok (.iload_n 3, 1) := by decide +kernel
theorem dX4_set_63 : decode cX4_set 63 = .ok (.ireturn, 1) := by decide +kernel
theorem dX4_lawOf_0 : decode cX4_lawOf 0 = .ok (.iload_n 1, 1) := by decide +kernel
theorem dX4_lawOf_1 : decode cX4_lawOf 1 = .ok (.i2l, 1) := by decide +kernel
theorem dX4_lawOf_2 : decode cX4_lawOf 2 = .ok (.lconst 0, 1) := by decide +kernel
theorem dX4_lawOf_3 : decode cX4_lawOf 3 = .ok (.ldc2_w 110, 3) := by decide +kernel
theorem dX4_lawOf_6 : decode cX4_lawOf 6 = .ok (.invokestatic 61, 3) := by decide +kernel
theorem dX4_lawOf_9 : decode cX4_lawOf 9 = .ok (.ifCond .eq 12, 3) := by decide +kernel
theorem dX4_lawOf_12 : decode cX4_lawOf 12 = .ok (.aload_n 0, 1) := by decide +kernel
theorem dX4_lawOf_13 : decode cX4_lawOf 13 = .ok (.getfield 7, 3) := by decide +kernel
theorem dX4_lawOf_16 : decode cX4_lawOf 16 = .ok (.iload_n 1, 1) := by decide +kernel
theorem dX4_lawOf_17 : decode cX4_lawOf 17 = .ok (.iaload, 1) := by decide +kernel
theorem dX4_lawOf_18 : decode cX4_lawOf 18 = .ok (.goto 4, 3) := by decide +kernel
theorem dX4_lawOf_21 : decode cX4_lawOf 21 = .ok (.iconst (-1), 1) := by decide +kernel
theorem dX4_lawOf_22 : decode cX4_lawOf 22 = .ok (.ireturn, 1) := by decide +kernel
theorem dX4_comes_0 : decode cX4_comes 0 = .ok (.aload_n 0, 1) := by decide +kernel
theorem dX4_comes_1 : decode cX4_comes 1 = .ok (.getfield 7, 3) := by decide +kernel
theorem dX4_comes_4 : decode cX4_comes 4 = .ok (.iconst 5, 1) := by decide +kernel
theorem dX4_comes_5 : decode cX4_comes 5 = .ok (.iaload, 1) := by decide +kernel
theorem dX4_comes_6 : decode cX4_comes 6 = .ok (.istore 5, 2) := by decide +kernel
theorem dX4_comes_8 : decode cX4_comes 8 = .ok (.aload_n 0, 1) := by decide +kernel
theorem dX4_comes_9 : decode cX4_comes 9 = .ok (.iload 5, 2) := by decide +kernel
theorem dX4_comes_11 : decode cX4_comes 11 = .ok (.iconst 0, 1) := by decide +kernel
theorem dX4_comes_12 : decode cX4_comes 12 = .ok (.iload_n 1, 1) := by decide +kernel
theorem dX4_comes_13 : decode cX4_comes 13 = .ok (.invokevirtual 103, 3) := by decide +kernel
theorem dX4_comes_16 : decode cX4_comes 16 = .ok (.aload_n 0, 1) := by decide +kernel
theorem dX4_comes_17 : decode cX4_comes 17 = .ok (.iload 5, 2) := by decide +kernel
theorem dX4_comes_19 : decode cX4_comes 19 = .ok (.iconst 1, 1) := by decide +kernel
theorem dX4_comes_20 : decode cX4_comes 20 = .ok (.iload_n 2, 1) := by decide +kernel
theorem dX4_comes_21 : decode cX4_comes 21 = .ok (.invokevirtual 103, 3) := by decide +kernel
theorem dX4_comes_24 : decode cX4_comes 24 = .ok (.aload_n 0, 1) := by decide +kernel
theorem dX4_comes_25 : decode cX4_comes 25 = .ok (.iload 5, 2) := by decide +kernel
theorem dX4_comes_27 : decode cX4_comes 27 = .ok (.iconst 2, 1) := by decide +kernel
theorem dX4_comes_28 : decode cX4_comes 28 = .ok (.iload_n 3, 1) := by decide +kernel
theorem dX4_comes_29 : decode cX4_comes 29 = .ok (.invokevirtual 103, 3) := by decide +kernel
theorem dX4_comes_32 : decode cX4_comes 32 = .ok (.aload_n 0, 1) := by decide +kernel
theorem dX4_comes_33 : decode cX4_comes 33 = .ok (.iload 5, 2) := by decide +kernel
theorem dX4_comes_35 : decode cX4_comes 35 = .ok (.iconst 3, 1) := by decide +kernel
theorem dX4_comes_36 : decode cX4_comes 36 = .ok (.iload 4, 2) := by decide +kernel
theorem dX4_comes_38 : decode cX4_comes 38 = .ok (.invokevirtual 103, 3) := by decide +kernel
theorem dX4_comes_41 : decode cX4_comes 41 = .ok (.aload_n 0, 1) := by decide +kernel
theorem dX4_comes_42 : decode cX4_comes 42 = .ok (.getfield 7, 3) := by decide +kernel
theorem dX4_comes_45 : decode cX4_comes 45 = .ok (.iconst 5, 1) := by decide +kernel
theorem dX4_comes_46 : decode cX4_comes 46 = .ok (.dup2, 1) := by decide +kernel
theorem dX4_comes_47 : decode cX4_comes 47 = .ok (.iaload, 1) := by decide +kernel
theorem dX4_comes_48 : decode cX4_comes 48 = .ok (.iconst 1, 1) := by decide +kernel
theorem dX4_comes_49 : decode cX4_comes 49 = .ok (.iadd, 1) := by decide +kernel
theorem dX4_comes_50 : decode cX4_comes 50 = .ok (.iastore, 1) := by decide +kernel
theorem dX4_comes_51 : decode cX4_comes 51 = .ok (.iload 5, 2) := by decide +kernel
theorem dX4_comes_53 : decode cX4_comes 53 = .ok (.ireturn, 1) := by decide +kernel
theorem dX4_person_0 : decode cX4_person 0 = .ok (.iload_n 1, 1) := by decide +kernel
theorem dX4_person_1 : decode cX4_person 1 = .ok (.i2l, 1) := by decide +kernel
theorem dX4_person_2 : decode cX4_person 2 = .ok (.lconst 0, 1) := by decide +kernel
theorem dX4_person_3 : decode cX4_person 3 = .ok (.ldc2_w 118, 3) := by decide +kernel
theorem dX4_person_6 : decode cX4_person 6 = .ok (.invokestatic 61, 3) := by decide +kernel
theorem dX4_person_9 : decode cX4_person 9 = .ok (.ifCond .eq 35, 3) := by decide +kernel
theorem dX4_person_12 : decode cX4_person 12 = .ok (.iload_n 2, 1) := by decide +kernel
theorem dX4_person_13 : decode cX4_person 13 = .ok (.i2l, 1) := by decide +kernel
theorem dX4_person_14 : decode cX4_person 14 = .ok (.lconst 0, 1) := by decide +kernel
theorem dX4_person_15 : decode cX4_person 15 = .ok (.ldc2_w 112, 3) := by decide +kernel
theorem dX4_person_18 : decode cX4_person 18 = .ok (.invokestatic 61, 3) := by decide +kernel
theorem dX4_person_21 : decode cX4_person 21 = .ok (.ifCond .eq 23, 3) := by decide +kernel
theorem dX4_person_24 : decode cX4_person 24 = .ok (.iload_n 3, 1) := by decide +kernel
theorem dX4_person_25 : decode cX4_person 25 = .ok (.i2l, 1) := by decide +kernel
theorem dX4_person_26 : decode cX4_person 26 = .ok (.lconst 0, 1) := by decide +kernel
theorem dX4_person_27 : decode cX4_person 27 = .ok (.ldc2_w 116, 3) := by decide +kernel
theorem dX4_person_30 : decode cX4_person 30 = .ok (.invokestatic 61, 3) := by decide +kernel
theorem dX4_person_33 : decode cX4_person 33 = .ok (.ifCond .eq 11, 3) := by decide +kernel
theorem dX4_person_36 : decode cX4_person 36 = .ok (.iload 4, 2) := by decide +kernel
theorem dX4_person_38 : decode cX4_person 38 = .ok (.invokestatic 120, 3) := by decide +kernel
theorem dX4_person_41 : decode cX4_person 41 = .ok (.ifCond .ne 5, 3) := by decide +kernel
theorem dX4_person_44 : decode cX4_person 44 = .ok (.iconst (-1), 1) := by decide +kernel
theorem dX4_person_45 : decode cX4_person 45 = .ok (.ireturn, 1) := by decide +kernel
theorem dX4_person_46 : decode cX4_person 46 = .ok (.aload_n 0, 1) := by decide +kernel
theorem dX4_person_47 : decode cX4_person 47 = .ok (.getfield 7, 3) := by decide +kernel
theorem dX4_person_50 : decode cX4_person 50 = .ok (.iconst 5, 1) := by decide +kernel
theorem dX4_person_51 : decode cX4_person 51 = .ok (.iaload, 1) := by decide +kernel
theorem dX4_person_52 : decode cX4_person 52 = .ok (.bipush 8, 2) := by decide +kernel
theorem dX4_person_54 : decode cX4_person 54 = .ok (.if_icmp .ne 8, 3) := by decide +kernel
theorem dX4_person_57 : decode cX4_person 57 = .ok (.bipush (-2), 2) := by decide +kernel
theorem dX4_person_59 : decode cX4_person 59 = .ok (.goto 12, 3) := by decide +kernel
theorem dX4_person_62 : decode cX4_person 62 = .ok (.aload_n 0, 1) := by decide +kernel
theorem dX4_person_63 : decode cX4_person 63 = .ok (.iload_n 1, 1) := by decide +kernel
theorem dX4_person_64 : decode cX4_person 64 = .ok (.iload_n 2, 1) := by decide +kernel
theorem dX4_person_65 : decode cX4_person 65 = .ok (.iload_n 3, 1) := by decide +kernel
theorem dX4_person_66 : decode cX4_person 66 = .ok (.iload 4, 2) := by decide +kernel
theorem dX4_person_68 : decode cX4_person 68 = .ok (.invokevirtual 123, 3) := by decide +kernel
theorem dX4_person_71 : decode cX4_person 71 = .ok (.ireturn, 1) := by decide +kernel
theorem dX4_foesOf_0 : decode cX4_foesOf 0 = .ok (.iconst 0, 1) := by decide +kernel
theorem dX4_foesOf_1 : decode cX4_foesOf 1 = .ok (.istore_n 2, 1) := by decide +kernel
theorem dX4_foesOf_2 : decode cX4_foesOf 2 = .ok (.iconst 0, 1) := by decide +kernel
theorem dX4_foesOf_3 : decode cX4_foesOf 3 = .ok (.istore_n 3, 1) := by decide +kernel
theorem dX4_foesOf_4 : decode cX4_foesOf 4 = .ok (.iload_n 3, 1) := by decide +kernel
theorem dX4_foesOf_5 : decode cX4_foesOf 5 = .ok (.aload_n 0, 1) := by decide +kernel
theorem dX4_foesOf_6 : decode cX4_foesOf 6 = .ok (.getfield 7, 3) := by decide +kernel
theorem dX4_foesOf_9 : decode cX4_foesOf 9 = .ok (.iconst 5, 1) := by decide +kernel
theorem dX4_foesOf_10 : decode cX4_foesOf 10 = .ok (.iaload, 1) := by decide +kernel
theorem dX4_foesOf_11 : decode cX4_foesOf 11 = .ok (.if_icmp .ge 28, 3) := by decide +kernel
theorem dX4_foesOf_14 : decode cX4_foesOf 14 = .ok (.iload_n 2, 1) := by decide +kernel
theorem dX4_foesOf_15 : decode cX4_foesOf 15 = .ok (.aload_n 0, 1) := by decide +kernel
theorem dX4_foesOf_16 : decode cX4_foesOf 16 = .ok (.iload_n 1, 1) := by decide +kernel
theorem dX4_foesOf_17 : decode cX4_foesOf 17 = .ok (.iload_n 3, 1) := by decide +kernel
theorem dX4_foesOf_18 : decode cX4_foesOf 18 = .ok (.invokevirtual 82, 3) := by decide +kernel
theorem dX4_foesOf_21 : decode cX4_foesOf 21 = .ok (.ifCond .eq 9, 3) := by decide +kernel
theorem dX4_foesOf_24 : decode cX4_foesOf 24 = .ok (.iconst 1, 1) := by decide +kernel
theorem dX4_foesOf_25 : decode cX4_foesOf 25 = .ok (.iload_n 3, 1) := by decide +kernel
theorem dX4_foesOf_26 : decode cX4_foesOf 26 = .ok (.ishl, 1) := by decide +kernel
theorem dX4_foesOf_27 : decode cX4_foesOf 27 = .ok (.goto 4, 3) := by decide +kernel
theorem dX4_foesOf_30 : decode cX4_foesOf 30 = .ok (.iconst 0, 1) := by decide +kernel
theorem dX4_foesOf_31 : decode cX4_foesOf 31 = .ok (.ior, 1) := by decide +kernel
theorem dX4_foesOf_32 : decode cX4_foesOf 32 = .ok (.istore_n 2, 1) := by decide +kernel
theorem dX4_foesOf_33 : decode cX4_foesOf 33 = .ok (.iinc 3 1, 3) := by decide +kernel
theorem dX4_foesOf_36 : decode cX4_foesOf 36 = .ok (.goto (-32), 3) := by decide +kernel
theorem dX4_foesOf_39 : decode cX4_foesOf 39 = .ok (.iload_n 2, 1) := by decide +kernel
theorem dX4_foesOf_40 : decode cX4_foesOf 40 = .ok (.ireturn, 1) := by decide +kernel
theorem dX4_of_0 : decode cX4_of 0 = .ok (.aload_n 0, 1) := by decide +kernel
theorem dX4_of_1 : decode cX4_of 1 = .ok (.iload_n 1, 1) := by decide +kernel
theorem dX4_of_2 : decode cX4_of 2 = .ok (.invokevirtual 127, 3) := by decide +kernel
theorem dX4_of_5 : decode cX4_of 5 = .ok (.ifCond .eq 15, 3) := by decide +kernel
theorem dX4_of_8 : decode cX4_of 8 = .ok (.iload_n 2, 1) := by decide +kernel
theorem dX4_of_9 : decode cX4_of 9 = .ok (.i2l, 1) := by decide +kernel
theorem dX4_of_10 : decode cX4_of 10 = .ok (.lconst 0, 1) := by decide +kernel
theorem dX4_of_11 : decode cX4_of 11 = .ok (.ldc2_w 57, 3) := by decide +kernel
theorem dX4_of_14 : decode cX4_of 14 = .ok (.invokestatic 61, 3) := by decide +kernel
theorem dX4_of_17 : decode cX4_of 17 = .ok (.ifCond .ne 5, 3) := by decide +kernel
theorem dX4_of_20 : decode cX4_of 20 = .ok (.iconst (-1), 1) := by decide +kernel
theorem dX4_of_21 : decode cX4_of 21 = .ok (.ireturn, 1) := by decide +kernel
theorem dX4_of_22 : decode cX4_of 22 = .ok (.iload_n 2, 1) := by decide +kernel
theorem dX4_of_23 : decode cX4_of 23 = .ok (.tableswitch 62 4 7 #[29, 35, 41, 56], 29) := by decide +kernel
theorem dX4_of_52 : decode cX4_of 52 = .ok (.aload_n 0, 1) := by decide +kernel
theorem dX4_of_53 : decode cX4_of 53 = .ok (.iload_n 1, 1) := by decide +kernel
theorem dX4_of_54 : decode cX4_of 54 = .ok (.invokevirtual 79, 3) := by decide +kernel
theorem dX4_of_57 : decode cX4_of 57 = .ok (.ireturn, 1) := by decide +kernel
theorem dX4_of_58 : decode cX4_of 58 = .ok (.aload_n 0, 1) := by decide +kernel
theorem dX4_of_59 : decode cX4_of 59 = .ok (.iload_n 1, 1) := by decide +kernel
theorem dX4_of_60 : decode cX4_of 60 = .ok (.invokevirtual 100, 3) := by decide +kernel
theorem dX4_of_63 : decode cX4_of 63 = .ok (.ireturn, 1) := by decide +kernel
theorem dX4_of_64 : decode cX4_of 64 = .ok (.aload_n 0, 1) := by decide +kernel
theorem dX4_of_65 : decode cX4_of 65 = .ok (.iload_n 1, 1) := by decide +kernel
theorem dX4_of_66 : decode cX4_of 66 = .ok (.iconst 2, 1) := by decide +kernel
theorem dX4_of_67 : decode cX4_of 67 = .ok (.invokevirtual 67, 3) := by decide +kernel
theorem dX4_of_70 : decode cX4_of 70 = .ok (.ifCond .ne 7, 3) := by decide +kernel
theorem dX4_of_73 : decode cX4_of 73 = .ok (.iconst 1, 1) := by decide +kernel
theorem dX4_of_74 : decode cX4_of 74 = .ok (.goto 4, 3) := by decide +kernel
theorem dX4_of_77 : decode cX4_of 77 = .ok (.iconst 0, 1) := by decide +kernel
theorem dX4_of_78 : decode cX4_of 78 = .ok (.ireturn, 1) := by decide +kernel
theorem dX4_of_79 : decode cX4_of 79 = .ok (.aload_n 0, 1) := by decide +kernel
theorem dX4_of_80 : decode cX4_of 80 = .ok (.iload_n 1, 1) := by decide +kernel
theorem dX4_of_81 : decode cX4_of 81 = .ok (.invokevirtual 130, 3) := by decide +kernel
theorem dX4_of_84 : decode cX4_of 84 = .ok (.ireturn, 1) := by decide +kernel
theorem dX4_of_85 : decode cX4_of 85 = .ok (.aload_n 0, 1) := by decide +kernel
theorem dX4_of_86 : decode cX4_of 86 = .ok (.iload_n 1, 1) := by decide +kernel
theorem dX4_of_87 : decode cX4_of 87 = .ok (.iload_n 2, 1) := by decide +kernel
theorem dX4_of_88 : decode cX4_of 88 = .ok (.invokevirtual 67, 3) := by decide +kernel
theorem dX4_of_91 : decode cX4_of 91 = .ok (.ireturn, 1) := by decide +kernel
theorem dX4_loses_0 : decode cX4_loses 0 = .ok (.aload_n 0, 1) := by decide +kernel
theorem dX4_loses_1 : decode cX4_loses 1 = .ok (.iload_n 1, 1) := by decide +kernel
theorem dX4_loses_2 : decode cX4_loses 2 = .ok (.invokevirtual 127, 3) := by decide +kernel
theorem dX4_loses_5 : decode cX4_loses 5 = .ok (.ifCond .eq 15, 3) := by decide +kernel
theorem dX4_loses_8 : decode cX4_loses 8 = .ok (.sipush 1000, 3) := by decide +kernel
theorem dX4_loses_11 : decode cX4_loses 11 = .ok (.aload_n 0, 1) := by decide +kernel
theorem dX4_loses_12 : decode cX4_loses 12 = .ok (.iload_n 1, 1) := by decide +kernel
theorem dX4_loses_13 : decode cX4_loses 13 = .ok (.invokevirtual 97, 3) := by decide +kernel
theorem dX4_loses_16 : decode cX4_loses 16 = .ok (.iadd, 1) := by decide +kernel
theorem dX4_loses_17 : decode cX4_loses 17 = .ok (.goto 4, 3) := by decide +kernel
theorem dX4_loses_20 : decode cX4_loses 20 = .ok (.iconst (-1), 1) := by decide +kernel
theorem dX4_loses_21 : decode cX4_loses 21 = .ok (.ireturn, 1) := by decide +kernel
theorem dX4_mind_0 : decode cX4_mind 0 = .ok (.aload_n 0, 1) := by decide +kernel
theorem dX4_mind_1 : decode cX4_mind 1 = .ok (.iload_n 1, 1) := by decide +kernel
theorem dX4_mind_2 : decode cX4_mind 2 = .ok (.invokevirtual 127, 3) := by decide +kernel
theorem dX4_mind_5 : decode cX4_mind 5 = .ok (.ifCond .eq 27, 3) := by decide +kernel
theorem dX4_mind_8 : decode cX4_mind 8 = .ok (.iload_n 2, 1) := by decide +kernel
theorem dX4_mind_9 : decode cX4_mind 9 = .ok (.i2l, 1) := by decide +kernel
theorem dX4_mind_10 : decode cX4_mind 10 = .ok (.lconst 0, 1) := by decide +kernel
theorem dX4_mind_11 : decode cX4_mind 11 = .ok (.ldc2_w 118, 3) := by decide +kernel
theorem dX4_mind_14 : decode cX4_mind 14 = .ok (.invokestatic 61, 3) := by decide +kernel
theorem dX4_mind_17 : decode cX4_mind 17 = .ok (.ifCond .eq 15, 3) := by decide +kernel
theorem dX4_mind_20 : decode cX4_mind 20 = .ok (.iload_n 3, 1) := by decide +kernel
theorem dX4_mind_21 : decode cX4_mind 21 = .ok (.i2l, 1) := by decide +kernel
theorem dX4_mind_22 : decode cX4_mind 22 = .ok (.lconst 0, 1) := by decide +kernel
theorem dX4_mind_23 : decode cX4_mind 23 = .ok (.ldc2_w 112, 3) := by decide +kernel
theorem dX4_mind_26 : decode cX4_mind 26 = .ok (.invokestatic 61, 3) := by decide +kernel
theorem dX4_mind_29 : decode cX4_mind 29 = .ok (.ifCond .ne 5, 3) := by decide +kernel
theorem dX4_mind_32 : decode cX4_mind 32 = .ok (.iconst (-1), 1) := by decide +kernel
theorem dX4_mind_33 : decode cX4_mind 33 = .ok (.ireturn, 1) := by decide +kernel
theorem dX4_mind_34 : decode cX4_mind 34 = .ok (.aload_n 0, 1) := by decide +kernel
theorem dX4_mind_35 : decode cX4_mind 35 = .ok (.iload_n 1, 1) := by decide +kernel
theorem dX4_mind_36 : decode cX4_mind 36 = .ok (.iconst 0, 1) := by decide +kernel
theorem dX4_mind_37 : decode cX4_mind 37 = .ok (.invokevirtual 67, 3) := by decide +kernel
theorem dX4_mind_40 : decode cX4_mind 40 = .ok (.istore 4, 2) := by decide +kernel
theorem dX4_mind_42 : decode cX4_mind 42 = .ok (.aload_n 0, 1) := by decide +kernel
theorem dX4_mind_43 : decode cX4_mind 43 = .ok (.iload_n 1, 1) := by decide +kernel
theorem dX4_mind_44 : decode cX4_mind 44 = .ok (.iconst 0, 1) := by decide +kernel
theorem dX4_mind_45 : decode cX4_mind 45 = .ok (.iload_n 2, 1) := by decide +kernel
theorem dX4_mind_46 : decode cX4_mind 46 = .ok (.invokevirtual 103, 3) := by decide +kernel
theorem dX4_mind_49 : decode cX4_mind 49 = .ok (.aload_n 0, 1) := by decide +kernel
theorem dX4_mind_50 : decode cX4_mind 50 = .ok (.iload_n 1, 1) := by decide +kernel
theorem dX4_mind_51 : decode cX4_mind 51 = .ok (.iconst 1, 1) := by decide +kernel
theorem dX4_mind_52 : decode cX4_mind 52 = .ok (.iload_n 3, 1) := by decide +kernel
theorem dX4_mind_53 : decode cX4_mind 53 = .ok (.invokevirtual 103, 3) := by decide +kernel
theorem dX4_mind_56 : decode cX4_mind 56 = .ok (.iload 4, 2) := by decide +kernel
theorem dX4_mind_58 : decode cX4_mind 58 = .ok (.ireturn, 1) := by decide +kernel
theorem dX4_sure_0 : decode cX4_sure 0 = .ok (.aload_n 0, 1) := by decide +kernel
theorem dX4_sure_1 : decode cX4_sure 1 = .ok (.iload_n 1, 1) := by decide +kernel
theorem dX4_sure_2 : decode cX4_sure 2 = .ok (.invokevirtual 127, 3) := by decide +kernel
theorem dX4_sure_5 : decode cX4_sure 5 = .ok (.ifCond .eq 15, 3) := by decide +kernel
theorem dX4_sure_8 : decode cX4_sure 8 = .ok (.iload_n 2, 1) := by decide +kernel
theorem dX4_sure_9 : decode cX4_sure 9 = .ok (.i2l, 1) := by decide +kernel
theorem dX4_sure_10 : decode cX4_sure 10 = .ok (.lconst 0, 1) := by decide +kernel
theorem dX4_sure_11 : decode cX4_sure 11 = .ok (.ldc2_w 116, 3) := by decide +kernel
theorem dX4_sure_14 : decode cX4_sure 14 = .ok (.invokestatic 61, 3) := by decide +kernel
theorem dX4_sure_17 : decode cX4_sure 17 = .ok (.ifCond .ne 5, 3) := by decide +kernel
theorem dX4_sure_20 : decode cX4_sure 20 = .ok (.iconst (-1), 1) := by decide +kernel
theorem dX4_sure_21 : decode cX4_sure 21 = .ok (.ireturn, 1) := by decide +kernel
theorem dX4_sure_22 : decode cX4_sure 22 = .ok (.aload_n 0, 1) := by decide +kernel
theorem dX4_sure_23 : decode cX4_sure 23 = .ok (.iload_n 1, 1) := by decide +kernel
theorem dX4_sure_24 : decode cX4_sure 24 = .ok (.iconst 2, 1) := by decide +kernel
theorem dX4_sure_25 : decode cX4_sure 25 = .ok (.invokevirtual 67, 3) := by decide +kernel
theorem dX4_sure_28 : decode cX4_sure 28 = .ok (.istore_n 3, 1) := by decide +kernel
theorem dX4_sure_29 : decode cX4_sure 29 = .ok (.aload_n 0, 1) := by decide +kernel
theorem dX4_sure_30 : decode cX4_sure 30 = .ok (.iload_n 1, 1) := by decide +kernel
theorem dX4_sure_31 : decode cX4_sure 31 = .ok (.iconst 2, 1) := by decide +kernel
theorem dX4_sure_32 : decode cX4_sure 32 = .ok (.iload_n 2, 1) := by decide +kernel
theorem dX4_sure_33 : decode cX4_sure 33 = .ok (.invokevirtual 103, 3) := by decide +kernel
theorem dX4_sure_36 : decode cX4_sure 36 = .ok (.iload_n 3, 1) := by decide +kernel
theorem dX4_sure_37 : decode cX4_sure 37 = .ok (.ireturn, 1) := by decide +kernel
theorem dX4_bring_0 : decode cX4_bring 0 = .ok (.aload_n 0, 1) := by decide +kernel
theorem dX4_bring_1 : decode cX4_bring 1 = .ok (.iload_n 1, 1) := by decide +kernel
theorem dX4_bring_2 : decode cX4_bring 2 = .ok (.invokevirtual 127, 3) := by decide +kernel
theorem dX4_bring_5 : decode cX4_bring 5 = .ok (.ifCond .eq 10, 3) := by decide +kernel
theorem dX4_bring_8 : decode cX4_bring 8 = .ok (.iload_n 2, 1) := by decide +kernel
theorem dX4_bring_9 : decode cX4_bring 9 = .ok (.invokestatic 120, 3) := by decide +kernel
theorem dX4_bring_12 : decode cX4_bring 12 = .ok (.ifCond .ne 5, 3) := by decide +kernel
theorem dX4_bring_15 : decode cX4_bring 15 = .ok (.iconst (-1), 1) := by decide +kernel
theorem dX4_bring_16 : decode cX4_bring 16 = .ok (.ireturn, 1) := by decide +kernel
theorem dX4_bring_17 : decode cX4_bring 17 = .ok (.aload_n 0, 1) := by decide +kernel
theorem dX4_bring_18 : decode cX4_bring 18 = .ok (.iload_n 1, 1) := by decide +kernel
theorem dX4_bring_19 : decode cX4_bring 19 = .ok (.iconst 3, 1) := by decide +kernel
theorem dX4_bring_20 : decode cX4_bring 20 = .ok (.invokevirtual 67, 3) := by decide +kernel
theorem dX4_bring_23 : decode cX4_bring 23 = .ok (.istore_n 3, 1) := by decide +kernel
theorem dX4_bring_24 : decode cX4_bring 24 = .ok (.aload_n 0, 1) := by decide +kernel
theorem dX4_bring_25 : decode cX4_bring 25 = .ok (.iload_n 1, 1) := by decide +kernel
theorem dX4_bring_26 : decode cX4_bring 26 = .ok (.iconst 3, 1) := by decide +kernel
theorem dX4_bring_27 : decode cX4_bring 27 = .ok (.iload_n 2, 1) := by decide +kernel
theorem dX4_bring_28 : decode cX4_bring 28 = .ok (.invokevirtual 103, 3) := by decide +kernel
theorem dX4_bring_31 : decode cX4_bring 31 = .ok (.iload_n 3, 1) := by decide +kernel
theorem dX4_bring_32 : decode cX4_bring 32 = .ok (.ireturn, 1) := by decide +kernel
theorem dX4_atCell_0 : decode cX4_atCell 0 = .ok (.iconst 0, 1) := by decide +kernel
theorem dX4_atCell_1 : decode cX4_atCell 1 = .ok (.istore_n 3, 1) := by decide +kernel
theorem dX4_atCell_2 : decode cX4_atCell 2 = .ok (.iconst 0, 1) := by decide +kernel
theorem dX4_atCell_3 : decode cX4_atCell 3 = .ok (.istore 4, 2) := by decide +kernel
theorem dX4_atCell_5 : decode cX4_atCell 5 = .ok (.iload 4, 2) := by decide +kernel
theorem dX4_atCell_7 : decode cX4_atCell 7 = .ok (.aload_n 0, 1) := by decide +kernel
theorem dX4_atCell_8 : decode cX4_atCell 8 = .ok (.getfield 7, 3) := by decide +kernel
theorem dX4_atCell_11 : decode cX4_atCell 11 = .ok (.iconst 5, 1) := by decide +kernel
theorem dX4_atCell_12 : decode cX4_atCell 12 = .ok (.iaload, 1) := by decide +kernel
theorem dX4_atCell_13 : decode cX4_atCell 13 = .ok (.if_icmp .ge 93, 3) := by decide +kernel
theorem dX4_atCell_16 : decode cX4_atCell 16 = .ok (.iload_n 1, 1) := by decide +kernel
theorem dX4_atCell_17 : decode cX4_atCell 17 = .ok (.ifCond .lt 14, 3) := by decide +kernel
theorem dX4_atCell_20 : decode cX4_atCell 20 = .ok (.aload_n 0, 1) := by decide +kernel
theorem dX4_atCell_21 : decode cX4_atCell 21 = .ok (.iload 4, 2) := by decide +kernel
theorem dX4_atCell_23 : decode cX4_atCell 23 = .ok (.iconst 3, 1) := by decide +kernel
theorem dX4_atCell_24 : decode cX4_atCell 24 = .ok (.invokevirtual 67, 3) := by decide +kernel
theorem dX4_atCell_27 : decode cX4_atCell 27 = .ok (.iload_n 1, 1) := by decide +kernel
theorem dX4_atCell_28 : decode cX4_atCell 28 = .ok (.if_icmp .ne 72, 3) := by decide +kernel
theorem dX4_atCell_31 : decode cX4_atCell 31 = .ok (.iload_n 3, 1) := by decide +kernel
theorem dX4_atCell_32 : decode cX4_atCell 32 = .ok (.iload_n 2, 1) := by decide +kernel
theorem dX4_atCell_33 : decode cX4_atCell 33 = .ok (.ifCond .ne 10, 3) := by decide +kernel
theorem dX4_atCell_36 : decode cX4_atCell 36 = .ok (.iconst 1, 1) := by decide +kernel
theorem dX4_atCell_37 : decode cX4_atCell 37 = .ok (.iload 4, 2) := by decide +kernel
theorem dX4_atCell_39 : decode cX4_atCell 39 = .ok (.ishl, 1) := by decide +kernel
theorem dX4_atCell_40 : decode cX4_atCell 40 = .ok (.goto 18, 3) := by decide +kernel
theorem dX4_atCell_43 : decode cX4_atCell 43 = .ok (.iload_n 2, 1) := by decide +kernel
theorem dX4_atCell_44 : decode cX4_atCell 44 = .ok (.iconst 1, 1) := by decide +kernel
theorem dX4_atCell_45 : decode cX4_atCell 45 = .ok (.if_icmp .ne 12, 3) := by decide +kernel
theorem dX4_atCell_48 : decode cX4_atCell 48 = .ok (.aload_n 0, 1) := by decide +kernel
theorem dX4_atCell_49 : decode cX4_atCell 49 = .ok (.iload 4, 2) := by decide +kernel
theorem dX4_atCell_51 : decode cX4_atCell 51 = .ok (.invokevirtual 79, 3) := by decide +kernel
theorem dX4_atCell_54 : decode cX4_atCell 54 = .ok (.goto 4, 3) := by decide +kernel
theorem dX4_atCell_57 : decode cX4_atCell 57 = .ok (.iconst 0, 1) := by decide +kernel
theorem dX4_atCell_58 : decode cX4_atCell 58 = .ok (.iadd, 1) := by decide +kernel
theorem dX4_atCell_59 : decode cX4_atCell 59 = .ok (.istore_n 3, 1) := by decide +kernel
theorem dX4_atCell_60 : decode cX4_atCell 60 = .ok (.iconst 0, 1) := by decide +kernel
theorem dX4_atCell_61 : decode cX4_atCell 61 = .ok (.istore 5, 2) := by decide +kernel
theorem dX4_atCell_63 : decode cX4_atCell 63 = .ok (.iload 5, 2) := by decide +kernel
theorem dX4_atCell_65 : decode cX4_atCell 65 = .ok (.iload 4, 2) := by decide +kernel
theorem dX4_atCell_67 : decode cX4_atCell 67 = .ok (.if_icmp .ge 33, 3) := by decide +kernel
theorem dX4_atCell_70 : decode cX4_atCell 70 = .ok (.iload_n 2, 1) := by decide +kernel
theorem dX4_atCell_71 : decode cX4_atCell 71 = .ok (.iconst 2, 1) := by decide +kernel
theorem dX4_atCell_72 : decode cX4_atCell 72 = .ok (.if_icmp .ne 28, 3) := by decide +kernel
theorem dX4_atCell_75 : decode cX4_atCell 75 = .ok (.iload_n 3, 1) := by decide +kernel
theorem dX4_atCell_76 : decode cX4_atCell 76 = .ok (.aload_n 0, 1) := by decide +kernel
theorem dX4_atCell_77 : decode cX4_atCell 77 = .ok (.iload 5, 2) := by decide +kernel
theorem dX4_atCell_79 : decode cX4_atCell 79 = .ok (.iload 4, 2) := by decide +kernel
theorem dX4_atCell_81 : decode cX4_atCell 81 = .ok (.invokevirtual 82, 3) := by decide +kernel
theorem dX4_atCell_84 : decode cX4_atCell 84 = .ok (.ifCond .eq 7, 3) := by decide +kernel
theorem dX4_atCell_87 : decode cX4_atCell 87 = .ok (.iconst 1, 1) := by decide +kernel
theorem dX4_atCell_88 : decode cX4_atCell 88 = .ok (.goto 4, 3) := by decide +kernel
theorem dX4_atCell_91 : decode cX4_atCell 91 = .ok (.iconst 0, 1) := by decide +kernel
theorem dX4_atCell_92 : decode cX4_atCell 92 = .ok (.iadd, 1) := by decide +kernel
theorem dX4_atCell_93 : decode cX4_atCell 93 = .ok (.istore_n 3, 1) := by decide +kernel
theorem dX4_atCell_94 : decode cX4_atCell 94 = .ok (.iinc 5 1, 3) := by decide +kernel
theorem dX4_atCell_97 : decode cX4_atCell 97 = .ok (.goto (-34), 3) := by decide +kernel
theorem dX4_atCell_100 : decode cX4_atCell 100 = .ok (.iinc 4 1, 3) := by decide +kernel
theorem dX4_atCell_103 : decode cX4_atCell 103 = .ok (.goto (-98), 3) := by decide +kernel
theorem dX4_atCell_106 : decode cX4_atCell 106 = .ok (.iload_n 3, 1) := by decide +kernel
theorem dX4_atCell_107 : decode cX4_atCell 107 = .ok (.ireturn, 1) := by decide +kernel
theorem dX4_cell_0 : decode cX4_cell 0 = .ok (.iload_n 1, 1) := by decide +kernel
theorem dX4_cell_1 : decode cX4_cell 1 = .ok (.invokestatic 120, 3) := by decide +kernel
theorem dX4_cell_4 : decode cX4_cell 4 = .ok (.ifCond .eq 15, 3) := by decide +kernel
theorem dX4_cell_7 : decode cX4_cell 7 = .ok (.iload_n 2, 1) := by decide +kernel
theorem dX4_cell_8 : decode cX4_cell 8 = .ok (.i2l, 1) := by decide +kernel
theorem dX4_cell_9 : decode cX4_cell 9 = .ok (.lconst 0, 1) := by decide +kernel
theorem dX4_cell_10 : decode cX4_cell 10 = .ok (.ldc2_w 133, 3) := by decide +kernel
theorem dX4_cell_13 : decode cX4_cell 13 = .ok (.invokestatic 61, 3) := by decide +kernel
theorem dX4_cell_16 : decode cX4_cell 16 = .ok (.ifCond .ne 5, 3) := by decide +kernel
theorem dX4_cell_19 : decode cX4_cell 19 = .ok (.iconst (-1), 1) := by decide +kernel
theorem dX4_cell_20 : decode cX4_cell 20 = .ok (.ireturn, 1) := by decide +kernel
theorem dX4_cell_21 : decode cX4_cell 21 = .ok (.iload_n 2, 1) := by decide +kernel
theorem dX4_cell_22 : decode cX4_cell 22 = .ok (.ifCond .ne 15, 3) := by decide +kernel
theorem dX4_cell_25 : decode cX4_cell 25 = .ok (.aload_n 0, 1) := by decide +kernel
theorem dX4_cell_26 : decode cX4_cell 26 = .ok (.getfield 7, 3) := by decide +kernel
theorem dX4_cell_29 : decode cX4_cell 29 = .ok (.bipush 39, 2) := by decide +kernel
theorem dX4_cell_31 : decode cX4_cell 31 = .ok (.iload_n 1, 1) := by decide +kernel
theorem dX4_cell_32 : decode cX4_cell 32 = .ok (.iadd, 1) := by decide +kernel
theorem dX4_cell_33 : decode cX4_cell 33 = .ok (.iaload, 1) := by decide +kernel
theorem dX4_cell_34 : decode cX4_cell 34 = .ok (.goto 28, 3) := by decide +kernel
theorem dX4_cell_37 : decode cX4_cell 37 = .ok (.iload_n 2, 1) := by decide +kernel
theorem dX4_cell_38 : decode cX4_cell 38 = .ok (.iconst 1, 1) := by decide +kernel
theorem dX4_cell_39 : decode cX4_cell 39 = .ok (.if_icmp .ne 15, 3) := by decide +kernel
theorem dX4_cell_42 : decode cX4_cell 42 = .ok (.aload_n 0, 1) := by decide +kernel
theorem dX4_cell_43 : decode cX4_cell 43 = .ok (.getfield 7, 3) := by decide +kernel
theorem dX4_cell_46 : decode cX4_cell 46 = .ok (.bipush 7, 2) := by decide +kernel
theorem dX4_cell_48 : decode cX4_cell 48 = .ok (.iload_n 1, 1) := by decide +kernel
theorem dX4_cell_49 : decode cX4_cell 49 = .ok (.iadd, 1) := by decide +kernel
theorem dX4_cell_50 : decode cX4_cell 50 = .ok (.iaload, 1) := by decide +kernel
theorem dX4_cell_51 : decode cX4_cell 51 = .ok (.goto 11, 3) := by decide +kernel
theorem dX4_cell_54 : decode cX4_cell 54 = .ok (.aload_n 0, 1) := by decide +kernel
theorem dX4_cell_55 : decode cX4_cell 55 = .ok (.iload_n 1, 1) := by decide +kernel
theorem dX4_cell_56 : decode cX4_cell 56 = .ok (.iload_n 2, 1) := by decide +kernel
theorem dX4_cell_57 : decode cX4_cell 57 = .ok (.iconst 2, 1) := by decide +kernel
theorem dX4_cell_58 : decode cX4_cell 58 = .ok (.isub, 1) := by decide +kernel
theorem dX4_cell_59 : decode cX4_cell 59 = .ok (.invokevirtual 135, 3) := by decide +kernel
theorem dX4_cell_62 : decode cX4_cell 62 = .ok (.ireturn, 1) := by decide +kernel
theorem dX4_lowest_0 : decode cX4_lowest 0 = .ok (.iload_n 1, 1) := by decide +kernel
theorem dX4_lowest_1 : decode cX4_lowest 1 = .ok (.invokestatic 120, 3) := by decide +kernel
theorem dX4_lowest_4 : decode cX4_lowest 4 = .ok (.ifCond .eq 11, 3) := by decide +kernel
theorem dX4_lowest_7 : decode cX4_lowest 7 = .ok (.aload_n 0, 1) := by decide +kernel
theorem dX4_lowest_8 : decode cX4_lowest 8 = .ok (.iload_n 1, 1) := by decide +kernel
theorem dX4_lowest_9 : decode cX4_lowest 9 = .ok (.invokevirtual 90, 3) := by decide +kernel
theorem dX4_lowest_12 : decode cX4_lowest 12 = .ok (.goto 4, 3) := by decide +kernel
theorem dX4_lowest_15 : decode cX4_lowest 15 = .ok (.iconst (-1), 1) := by decide +kernel
theorem dX4_lowest_16 : decode cX4_lowest 16 = .ok (.ireturn, 1) := by decide +kernel
theorem dX4_water_0 : decode cX4_water 0 = .ok (.iload_n 1, 1) := by decide +kernel
theorem dX4_water_1 : decode cX4_water 1 = .ok (.invokestatic 120, 3) := by decide +kernel
theorem dX4_water_4 : decode cX4_water 4 = .ok (.ifCond .eq 15, 3) := by decide +kernel
theorem dX4_water_7 : decode cX4_water 7 = .ok (.iload_n 2, 1) := by decide +kernel
theorem dX4_water_8 : decode cX4_water 8 = .ok (.i2l, 1) := by decide +kernel
theorem dX4_water_9 : decode cX4_water 9 = .ok (.lconst 0, 1) := by decide +kernel
theorem dX4_water_10 : decode cX4_water 10 = .ok (.ldc2_w 116, 3) := by decide +kernel
theorem dX4_water_13 : decode cX4_water 13 = .ok (.invokestatic 61, 3) := by decide +kernel
theorem dX4_water_16 : decode cX4_water 16 = .ok (.ifCond .ne 5, 3) := by decide +kernel
theorem dX4_water_19 : decode cX4_water 19 = .ok (.iconst (-1), 1) := by decide +kernel
theorem dX4_water_20 : decode cX4_water 20 = .ok (.ireturn, 1) := by decide +kernel
theorem dX4_water_21 : decode cX4_water 21 = .ok (.aload_n 0, 1) := by decide +kernel
theorem dX4_water_22 : decode cX4_water 22 = .ok (.getfield 7, 3) := by decide +kernel
theorem dX4_water_25 : decode cX4_water 25 = .ok (.bipush 39, 2) := by decide +kernel
theorem dX4_water_27 : decode cX4_water 27 = .ok (.iload_n 1, 1) := by decide +kernel
theorem dX4_water_28 : decode cX4_water 28 = .ok (.iadd, 1) := by decide +kernel
theorem dX4_water_29 : decode cX4_water 29 = .ok (.iaload, 1) := by decide +kernel
theorem dX4_water_30 : decode cX4_water 30 = .ok (.istore_n 3, 1) := by decide +kernel
theorem dX4_water_31 : decode cX4_water 31 = .ok (.aload_n 0, 1) := by decide +kernel
theorem dX4_water_32 : decode cX4_water 32 = .ok (.getfield 7, 3) := by decide +kernel
theorem dX4_water_35 : decode cX4_water 35 = .ok (.bipush 39, 2) := by decide +kernel
theorem dX4_water_37 : decode cX4_water 37 = .ok (.iload_n 1, 1) := by decide +kernel
theorem dX4_water_38 : decode cX4_water 38 = .ok (.iadd, 1) := by decide +kernel
theorem dX4_water_39 : decode cX4_water 39 = .ok (.iload_n 2, 1) := by decide +kernel
theorem dX4_water_40 : decode cX4_water 40 = .ok (.iastore, 1) := by decide +kernel
theorem dX4_water_41 : decode cX4_water 41 = .ok (.iload_n 3, 1) := by decide +kernel
theorem dX4_water_42 : decode cX4_water 42 = .ok (.ireturn, 1) := by decide +kernel
theorem dX4_height_0 : decode cX4_height 0 = .ok (.iload_n 1, 1) := by decide +kernel
theorem dX4_height_1 : decode cX4_height 1 = .ok (.invokestatic 120, 3) := by decide +kernel
theorem dX4_height_4 : decode cX4_height 4 = .ok (.ifCond .eq 15, 3) := by decide +kernel
theorem dX4_height_7 : decode cX4_height 7 = .ok (.iload_n 2, 1) := by decide +kernel
theorem dX4_height_8 : decode cX4_height 8 = .ok (.i2l, 1) := by decide +kernel
theorem dX4_height_9 : decode cX4_height 9 = .ok (.lconst 0, 1) := by decide +kernel
theorem dX4_height_10 : decode cX4_height 10 = .ok (.ldc2_w 112, 3) := by decide +kernel
theorem dX4_height_13 : decode cX4_height 13 = .ok (.invokestatic 61, 3) := by decide +kernel
theorem dX4_height_16 : decode cX4_height 16 = .ok (.ifCond .ne 5, 3) := by decide +kernel
theorem dX4_height_19 : decode cX4_height 19 = .ok (.iconst (-1), 1) := by decide +kernel
theorem dX4_height_20 : decode cX4_height 20 = .ok (.ireturn, 1) := by decide +kernel
theorem dX4_height_21 : decode cX4_height 21 = .ok (.aload_n 0, 1) := by decide +kernel
theorem dX4_height_22 : decode cX4_height 22 = .ok (.getfield 7, 3) := by decide +kernel
theorem dX4_height_25 : decode cX4_height 25 = .ok (.bipush 7, 2) := by decide +kernel
theorem dX4_height_27 : decode cX4_height 27 = .ok (.iload_n 1, 1) := by decide +kernel
theorem dX4_height_28 : decode cX4_height 28 = .ok (.iadd, 1) := by decide +kernel
theorem dX4_height_29 : decode cX4_height 29 = .ok (.iaload, 1) := by decide +kernel
theorem dX4_height_30 : decode cX4_height 30 = .ok (.istore_n 3, 1) := by decide +kernel
theorem dX4_height_31 : decode cX4_height 31 = .ok (.aload_n 0, 1) := by decide +kernel
theorem dX4_height_32 : decode cX4_height 32 = .ok (.getfield 7, 3) := by decide +kernel
theorem dX4_height_35 : decode cX4_height 35 = .ok (.bipush 7, 2) := by decide +kernel
theorem dX4_height_37 : decode cX4_height 37 = .ok (.iload_n 1, 1) := by decide +kernel
theorem dX4_height_38 : decode cX4_height 38 = .ok (.iadd, 1) := by decide +kernel
theorem dX4_height_39 : decode cX4_height 39 = .ok (.iload_n 2, 1) := by decide +kernel
theorem dX4_height_40 : decode cX4_height 40 = .ok (.iastore, 1) := by decide +kernel
theorem dX4_height_41 : decode cX4_height 41 = .ok (.iload_n 3, 1) := by decide +kernel
theorem dX4_height_42 : decode cX4_height 42 = .ok (.ireturn, 1) := by decide +kernel
theorem dX4_isSuch_0 : decode cX4_isSuch 0 = .ok (.iload_n 2, 1) := by decide +kernel
theorem dX4_isSuch_1 : decode cX4_isSuch 1 = .ok (.ifCond .ne 11, 3) := by decide +kernel
theorem dX4_isSuch_4 : decode cX4_isSuch 4 = .ok (.aload_n 0, 1) := by decide +kernel
theorem dX4_isSuch_5 : decode cX4_isSuch 5 = .ok (.iload_n 1, 1) := by decide +kernel
theorem dX4_isSuch_6 : decode cX4_isSuch 6 = .ok (.invokevirtual 93, 3) := by decide +kernel
theorem dX4_isSuch_9 : decode cX4_isSuch 9 = .ok (.goto 40, 3) := by decide +kernel
theorem dX4_isSuch_12 : decode cX4_isSuch 12 = .ok (.iload_n 2, 1) := by decide +kernel
theorem dX4_isSuch_13 : decode cX4_isSuch 13 = .ok (.iconst 1, 1) := by decide +kernel
theorem dX4_isSuch_14 : decode cX4_isSuch 14 = .ok (.if_icmp .ne 20, 3) := by decide +kernel
theorem dX4_isSuch_17 : decode cX4_isSuch 17 = .ok (.aload_n 0, 1) := by decide +kernel
theorem dX4_isSuch_18 : decode cX4_isSuch 18 = .ok (.iload_n 1, 1) := by decide +kernel
theorem dX4_isSuch_19 : decode cX4_isSuch 19 = .ok (.iconst 0, 1) := by decide +kernel
theorem dX4_isSuch_20 : decode cX4_isSuch 20 = .ok (.invokevirtual 135, 3) := by decide +kernel
theorem dX4_isSuch_23 : decode cX4_isSuch 23 = .ok (.ifCond .eq 7, 3) := by decide +kernel
theorem dX4_isSuch_26 : decode cX4_isSuch 26 = .ok (.iconst 1, 1) := by decide +kernel
theorem dX4_isSuch_27 : decode cX4_isSuch 27 = .ok (.goto 22, 3) := by decide +kernel
theorem dX4_isSuch_30 : decode cX4_isSuch 30 = .ok (.iconst 0, 1) := by decide +kernel
theorem dX4_isSuch_31 : decode cX4_isSuch 31 = .ok (.goto 18, 3) := by decide +kernel
theorem dX4_isSuch_34 : decode cX4_isSuch 34 = .ok (.aload_n 0, 1) := by decide +kernel
theorem dX4_isSuch_35 : decode cX4_isSuch 35 = .ok (.iload_n 1, 1) := by decide +kernel
theorem dX4_isSuch_36 : decode cX4_isSuch 36 = .ok (.invokevirtual 90, 3) := by decide +kernel
theorem dX4_isSuch_39 : decode cX4_isSuch 39 = .ok (.bipush (-3), 2) := by decide +kernel
theorem dX4_isSuch_41 : decode cX4_isSuch 41 = .ok (.if_icmp .ne 7, 3) := by decide +kernel
theorem dX4_isSuch_44 : decode cX4_isSuch 44 = .ok (.iconst 1, 1) := by decide +kernel
theorem dX4_isSuch_45 : decode cX4_isSuch 45 = .ok (.goto 4, 3) := by decide +kernel
theorem dX4_isSuch_48 : decode cX4_isSuch 48 = .ok (.iconst 0, 1) := by decide +kernel
theorem dX4_isSuch_49 : decode cX4_isSuch 49 = .ok (.ireturn, 1) := by decide +kernel
theorem dX4_cellsSuch_0 : decode cX4_cellsSuch 0 = .ok (.iconst 0, 1) := by decide +kernel
theorem dX4_cellsSuch_1 : decode cX4_cellsSuch 1 = .ok (.istore_n 2, 1) := by decide +kernel
theorem dX4_cellsSuch_2 : decode cX4_cellsSuch 2 = .ok (.iconst 0, 1) := by decide +kernel
theorem dX4_cellsSuch_3 : decode cX4_cellsSuch 3 = .ok (.istore_n 3, 1) := by decide +kernel
theorem dX4_cellsSuch_4 : decode cX4_cellsSuch 4 = .ok (.iload_n 3, 1) := by decide +kernel
theorem dX4_cellsSuch_5 : decode cX4_cellsSuch 5 = .ok (.bipush 32, 2) := by decide +kernel
theorem dX4_cellsSuch_7 : decode cX4_cellsSuch 7 = .ok (.if_icmp .ge 26, 3) := by decide +kernel
theorem dX4_cellsSuch_10 : decode cX4_cellsSuch 10 = .ok (.iload_n 2, 1) := by decide +kernel
theorem dX4_cellsSuch_11 : decode cX4_cellsSuch 11 = .ok (.aload_n 0, 1) := by decide +kernel
theorem dX4_cellsSuch_12 : decode cX4_cellsSuch 12 = .ok (.iload_n 3, 1) := by decide +kernel
theorem dX4_cellsSuch_13 : decode cX4_cellsSuch 13 = .ok (.iload_n 1, 1) := by decide +kernel
theorem dX4_cellsSuch_14 : decode cX4_cellsSuch 14 = .ok (.invokevirtual 138, 3) := by decide +kernel
theorem dX4_cellsSuch_17 : decode cX4_cellsSuch 17 = .ok (.ifCond .eq 7, 3) := by decide +kernel
theorem dX4_cellsSuch_20 : decode cX4_cellsSuch 20 = .ok (.iconst 1, 1) := by decide +kernel
theorem dX4_cellsSuch_21 : decode cX4_cellsSuch 21 = .ok (.goto 4, 3) := by decide +kernel
theorem dX4_cellsSuch_24 : decode cX4_cellsSuch 24 = .ok (.iconst 0, 1) := by decide +kernel
theorem dX4_cellsSuch_25 : decode cX4_cellsSuch 25 = .ok (.iadd, 1) := by decide +kernel
theorem dX4_cellsSuch_26 : decode cX4_cellsSuch 26 = .ok (.istore_n 2, 1) := by decide +kernel
theorem dX4_cellsSuch_27 : decode cX4_cellsSuch 27 = .ok (.iinc 3 1, 3) := by decide +kernel
theorem dX4_cellsSuch_30 : decode cX4_cellsSuch 30 = .ok (.goto (-26), 3) := by decide +kernel
theorem dX4_cellsSuch_33 : decode cX4_cellsSuch 33 = .ok (.iload_n 2, 1) := by decide +kernel
theorem dX4_cellsSuch_34 : decode cX4_cellsSuch 34 = .ok (.ireturn, 1) := by decide +kernel
theorem dX4_wets_0 : decode cX4_wets 0 = .ok (.iload_n 1, 1) := by decide +kernel
theorem dX4_wets_1 : decode cX4_wets 1 = .ok (.i2l, 1) := by decide +kernel
theorem dX4_wets_2 : decode cX4_wets 2 = .ok (.lconst 0, 1) := by decide +kernel
theorem dX4_wets_3 : decode cX4_wets 3 = .ok (.ldc2_w 141, 3) := by decide +kernel
theorem dX4_wets_6 : decode cX4_wets 6 = .ok (.invokestatic 61, 3) := by decide +kernel
theorem dX4_wets_9 : decode cX4_wets 9 = .ok (.ifCond .ne 7, 3) := by decide +kernel
theorem dX4_wets_12 : decode cX4_wets 12 = .ok (.ldc2_w 143, 3) := by decide +kernel
theorem dX4_wets_15 : decode cX4_wets 15 = .ok (.lreturn, 1) := by decide +kernel
theorem dX4_wets_16 : decode cX4_wets 16 = .ok (.lconst 0, 1) := by decide +kernel
theorem dX4_wets_17 : decode cX4_wets 17 = .ok (.lstore_n 2, 1) := by decide +kernel
theorem dX4_wets_18 : decode cX4_wets 18 = .ok (.iconst 0, 1) := by decide +kernel
theorem dX4_wets_19 : decode cX4_wets 19 = .ok (.istore 4, 2) := by decide +kernel
theorem dX4_wets_21 : decode cX4_wets 21 = .ok (.iload 4, 2) := by decide +kernel
theorem dX4_wets_23 : decode cX4_wets 23 = .ok (.bipush 32, 2) := by decide +kernel
theorem dX4_wets_25 : decode cX4_wets 25 = .ok (.if_icmp .ge 30, 3) := by decide +kernel
theorem dX4_wets_28 : decode cX4_wets 28 = .ok (.lload_n 2, 1) := by decide +kernel
theorem dX4_wets_29 : decode cX4_wets 29 = .ok (.aload_n 0, 1) := by decide +kernel
theorem dX4_wets_30 : decode cX4_wets 30 = .ok (.iload 4, 2) := by decide +kernel
theorem dX4_wets_32 : decode cX4_wets 32 = .ok (.iload_n 1, 1) := by decide +kernel
theorem dX4_wets_33 : decode cX4_wets 33 = .ok (.invokevirtual 138, 3) := by decide +kernel
theorem dX4_wets_36 : decode cX4_wets 36 = .ok (.ifCond .eq 10, 3) := by decide +kernel
theorem dX4_wets_39 : decode cX4_wets 39 = .ok (.lconst 1, 1) := by decide +kernel
theorem dX4_wets_40 : decode cX4_wets 40 = .ok (.iload 4, 2) := by decide +kernel
theorem dX4_wets_42 : decode cX4_wets 42 = .ok (.lshl, 1) := by decide +kernel
theorem dX4_wets_43 : decode cX4_wets 43 = .ok (.goto 4, 3) := by decide +kernel
theorem dX4_wets_46 : decode cX4_wets 46 = .ok (.lconst 0, 1) := by decide +kernel
theorem dX4_wets_47 : decode cX4_wets 47 = .ok (.lor, 1) := by decide +kernel
theorem dX4_wets_48 : decode cX4_wets 48 = .ok (.lstore_n 2, 1) := by decide +kernel
theorem dX4_wets_49 : decode cX4_wets 49 = .ok (.iinc 4 1, 3) := by decide +kernel
theorem dX4_wets_52 : decode cX4_wets 52 = .ok (.goto (-31), 3) := by decide +kernel
theorem dX4_wets_55 : decode cX4_wets 55 = .ok (.lload_n 2, 1) := by decide +kernel
theorem dX4_wets_56 : decode cX4_wets 56 = .ok (.lreturn, 1) := by decide +kernel
theorem dX4_lost_0 : decode cX4_lost 0 = .ok (.iconst 0, 1) := by decide +kernel
theorem dX4_lost_1 : decode cX4_lost 1 = .ok (.istore_n 1, 1) := by decide +kernel
theorem dX4_lost_2 : decode cX4_lost 2 = .ok (.iconst 0, 1) := by decide +kernel
theorem dX4_lost_3 : decode cX4_lost 3 = .ok (.istore_n 2, 1) := by decide +kernel
theorem dX4_lost_4 : decode cX4_lost 4 = .ok (.iload_n 2, 1) := by decide +kernel
theorem dX4_lost_5 : decode cX4_lost 5 = .ok (.aload_n 0, 1) := by decide +kernel
theorem dX4_lost_6 : decode cX4_lost 6 = .ok (.getfield 7, 3) := by decide +kernel
theorem dX4_lost_9 : decode cX4_lost 9 = .ok (.iconst 5, 1) := by decide +kernel
theorem dX4_lost_10 : decode cX4_lost 10 = .ok (.iaload, 1) := by decide +kernel
theorem dX4_lost_11 : decode cX4_lost 11 = .ok (.if_icmp .ge 28, 3) := by decide +kernel
theorem dX4_lost_14 : decode cX4_lost 14 = .ok (.iload_n 1, 1) := by decide +kernel
theorem dX4_lost_15 : decode cX4_lost 15 = .ok (.aload_n 0, 1) := by decide +kernel
theorem dX4_lost_16 : decode cX4_lost 16 = .ok (.iload_n 2, 1) := by decide +kernel
theorem dX4_lost_17 : decode cX4_lost 17 = .ok (.iconst 2, 1) := by decide +kernel
theorem dX4_lost_18 : decode cX4_lost 18 = .ok (.invokevirtual 67, 3) := by decide +kernel
theorem dX4_lost_21 : decode cX4_lost 21 = .ok (.ifCond .ne 9, 3) := by decide +kernel
theorem dX4_lost_24 : decode cX4_lost 24 = .ok (.iconst 1, 1) := by decide +kernel
theorem dX4_lost_25 : decode cX4_lost 25 = .ok (.iload_n 2, 1) := by decide +kernel
theorem dX4_lost_26 : decode cX4_lost 26 = .ok (.ishl, 1) := by decide +kernel
theorem dX4_lost_27 : decode cX4_lost 27 = .ok (.goto 4, 3) := by decide +kernel
theorem dX4_lost_30 : decode cX4_lost 30 = .ok (.iconst 0, 1) := by decide +kernel
theorem dX4_lost_31 : decode cX4_lost 31 = .ok (.ior, 1) := by decide +kernel
theorem dX4_lost_32 : decode cX4_lost 32 = .ok (.istore_n 1, 1) := by decide +kernel
theorem dX4_lost_33 : decode cX4_lost 33 = .ok (.iinc 2 1, 3) := by decide +kernel
theorem dX4_lost_36 : decode cX4_lost 36 = .ok (.goto (-32), 3) := by decide +kernel
theorem dX4_lost_39 : decode cX4_lost 39 = .ok (.iload_n 1, 1) := by decide +kernel
theorem dX4_lost_40 : decode cX4_lost 40 = .ok (.ireturn, 1) := by decide +kernel
theorem dX4_years_0 : decode cX4_years 0 = .ok (.iload_n 1, 1) := by decide +kernel
theorem dX4_years_1 : decode cX4_years 1 = .ok (.i2l, 1) := by decide +kernel
theorem dX4_years_2 : decode cX4_years 2 = .ok (.lconst 1, 1) := by decide +kernel
theorem dX4_years_3 : decode cX4_years 3 = .ok (.ldc2_w 145, 3) := by decide +kernel
theorem dX4_years_6 : decode cX4_years 6 = .ok (.invokestatic 61, 3) := by decide +kernel
theorem dX4_years_9 : decode cX4_years 9 = .ok (.ifCond .ne 5, 3) := by decide +kernel
theorem dX4_years_12 : decode cX4_years 12 = .ok (.iconst (-1), 1) := by decide +kernel
theorem dX4_years_13 : decode cX4_years 13 = .ok (.ireturn, 1) := by decide +kernel
theorem dX4_years_14 : decode cX4_years 14 = .ok (.aload_n 0, 1) := by decide +kernel
theorem dX4_years_15 : decode cX4_years 15 = .ok (.iload_n 1, 1) := by decide +kernel
theorem dX4_years_16 : decode cX4_years 16 = .ok (.invokevirtual 147, 3) := by decide +kernel
theorem dX4_years_19 : decode cX4_years 19 = .ok (.aload_n 0, 1) := by decide +kernel
theorem dX4_years_20 : decode cX4_years 20 = .ok (.iconst 0, 1) := by decide +kernel
theorem dX4_years_21 : decode cX4_years 21 = .ok (.invokevirtual 151, 3) := by decide +kernel
theorem dX4_years_24 : decode cX4_years 24 = .ok (.ireturn, 1) := by decide +kernel
theorem dX4_seed_0 : decode cX4_seed 0 = .ok (.aload_n 0, 1) := by decide +kernel
theorem dX4_seed_1 : decode cX4_seed 1 = .ok (.getfield 7, 3) := by decide +kernel
theorem dX4_seed_4 : decode cX4_seed 4 = .ok (.bipush 6, 2) := by decide +kernel
theorem dX4_seed_6 : decode cX4_seed 6 = .ok (.iaload, 1) := by decide +kernel
theorem dX4_seed_7 : decode cX4_seed 7 = .ok (.istore_n 2, 1) := by decide +kernel
theorem dX4_seed_8 : decode cX4_seed 8 = .ok (.aload_n 0, 1) := by decide +kernel
theorem dX4_seed_9 : decode cX4_seed 9 = .ok (.getfield 7, 3) := by decide +kernel
theorem dX4_seed_12 : decode cX4_seed 12 = .ok (.bipush 6, 2) := by decide +kernel
theorem dX4_seed_14 : decode cX4_seed 14 = .ok (.iload_n 1, 1) := by decide +kernel
theorem dX4_seed_15 : decode cX4_seed 15 = .ok (.iastore, 1) := by decide +kernel
theorem dX4_seed_16 : decode cX4_seed 16 = .ok (.iload_n 2, 1) := by decide +kernel
theorem dX4_seed_17 : decode cX4_seed 17 = .ok (.ireturn, 1) := by decide +kernel
theorem dX4_drawn_0 : decode cX4_drawn 0 = .ok (.aload_n 0, 1) := by decide +kernel
theorem dX4_drawn_1 : decode cX4_drawn 1 = .ok (.getfield 7, 3) := by decide +kernel
theorem dX4_drawn_4 : decode cX4_drawn 4 = .ok (.bipush 6, 2) := by decide +kernel
theorem dX4_drawn_6 : decode cX4_drawn 6 = .ok (.aload_n 0, 1) := by decide +kernel
theorem dX4_drawn_7 : decode cX4_drawn 7 = .ok (.getfield 7, 3) := by decide +kernel
theorem dX4_drawn_10 : decode cX4_drawn 10 = .ok (.bipush 6, 2) := by decide +kernel
theorem dX4_drawn_12 : decode cX4_drawn 12 = .ok (.iaload, 1) := by decide +kernel
theorem dX4_drawn_13 : decode cX4_drawn 13 = .ok (.ldc 154, 2) := by decide +kernel
theorem dX4_drawn_15 : decode cX4_drawn 15 = .ok (.imul, 1) := by decide +kernel
theorem dX4_drawn_16 : decode cX4_drawn 16 = .ok (.sipush 12345, 3) := by decide +kernel
theorem dX4_drawn_19 : decode cX4_drawn 19 = .ok (.iadd, 1) := by decide +kernel
theorem dX4_drawn_20 : decode cX4_drawn 20 = .ok (.iastore, 1) := by decide +kernel
theorem dX4_drawn_21 : decode cX4_drawn 21 = .ok (.aload_n 0, 1) := by decide +kernel
theorem dX4_drawn_22 : decode cX4_drawn 22 = .ok (.getfield 7, 3) := by decide +kernel
theorem dX4_drawn_25 : decode cX4_drawn 25 = .ok (.bipush 6, 2) := by decide +kernel
theorem dX4_drawn_27 : decode cX4_drawn 27 = .ok (.iaload, 1) := by decide +kernel
theorem dX4_drawn_28 : decode cX4_drawn 28 = .ok (.bipush 16, 2) := by decide +kernel
theorem dX4_drawn_30 : decode cX4_drawn 30 = .ok (.iushr, 1) := by decide +kernel
theorem dX4_drawn_31 : decode cX4_drawn 31 = .ok (.ireturn, 1) := by decide +kernel
theorem dX4_yearByDraws_0 : decode cX4_yearByDraws 0 = .ok (.aload_n 0, 1) := by decide +kernel
theorem dX4_yearByDraws_1 : decode cX4_yearByDraws 1 = .ok (.getfield 7, 3) := by decide +kernel
theorem dX4_yearByDraws_4 : decode cX4_yearByDraws 4 = .ok (.iconst 5, 1) := by decide +kernel
theorem dX4_yearByDraws_5 : decode cX4_yearByDraws 5 = .ok (.iaload, 1) := by decide +kernel
theorem dX4_yearByDraws_6 : decode cX4_yearByDraws 6 = .ok (.ifCond .le 45, 3) := by decide +kernel
theorem dX4_yearByDraws_9 : decode cX4_yearByDraws 9 = .ok (.aload_n 0, 1) := by decide +kernel
theorem dX4_yearByDraws_10 : decode cX4_yearByDraws 10 = .ok (.invokevirtual 155, 3) := by decide +kernel
theorem dX4_yearByDraws_13 : decode cX4_yearByDraws 13 = .ok (.aload_n 0, 1) := by decide +kernel
theorem dX4_yearByDraws_14 : decode cX4_yearByDraws 14 = .ok (.getfield 7, 3) := by decide +kernel
theorem dX4_yearByDraws_17 : decode cX4_yearByDraws 17 = .ok (.iconst 5, 1) := by decide +kernel
theorem dX4_yearByDraws_18 : decode cX4_yearByDraws 18 = .ok (.iaload, 1) := by decide +kernel
theorem dX4_yearByDraws_19 : decode cX4_yearByDraws 19 = .ok (.irem, 1) := by decide +kernel
theorem dX4_yearByDraws_20 : decode cX4_yearByDraws 20 = .ok (.istore_n 1, 1) := by decide +kernel
theorem dX4_yearByDraws_21 : decode cX4_yearByDraws 21 = .ok (.aload_n 0, 1) := by decide +kernel
theorem dX4_yearByDraws_22 : decode cX4_yearByDraws 22 = .ok (.invokevirtual 155, 3) := by decide +kernel
theorem dX4_yearByDraws_25 : decode cX4_yearByDraws 25 = .ok (.bipush 100, 2) := by decide +kernel
theorem dX4_yearByDraws_27 : decode cX4_yearByDraws 27 = .ok (.irem, 1) := by decide +kernel
theorem dX4_yearByDraws_28 : decode cX4_yearByDraws 28 = .ok (.aload_n 0, 1) := by decide +kernel
theorem dX4_yearByDraws_29 : decode cX4_yearByDraws 29 = .ok (.getfield 7, 3) := by decide +kernel
theorem dX4_yearByDraws_32 : decode cX4_yearByDraws 32 = .ok (.iconst 3, 1) := by decide +kernel
theorem dX4_yearByDraws_33 : decode cX4_yearByDraws 33 = .ok (.iaload, 1) := by decide +kernel
theorem dX4_yearByDraws_34 : decode cX4_yearByDraws 34 = .ok (.if_icmp .ge 17, 3) := by decide +kernel
theorem dX4_yearByDraws_37 : decode cX4_yearByDraws 37 = .ok (.aload_n 0, 1) := by decide +kernel
theorem dX4_yearByDraws_38 : decode cX4_yearByDraws 38 = .ok (.iload_n 1, 1) := by decide +kernel
theorem dX4_yearByDraws_39 : decode cX4_yearByDraws 39 = .ok (.iconst 2, 1) := by decide +kernel
theorem dX4_yearByDraws_40 : decode cX4_yearByDraws 40 = .ok (.aload_n 0, 1) := by decide +kernel
theorem dX4_yearByDraws_41 : decode cX4_yearByDraws 41 = .ok (.iload_n 1, 1) := by decide +kernel
theorem dX4_yearByDraws_42 : decode cX4_yearByDraws 42 = .ok (.iconst 2, 1) := by decide +kernel
theorem dX4_yearByDraws_43 : decode cX4_yearByDraws 43 = .ok (.invokevirtual 67, 3) := by decide +kernel
theorem dX4_yearByDraws_46 : decode cX4_yearByDraws 46 = .ok (.iconst 2, 1) := by decide +kernel
theorem dX4_yearByDraws_47 : decode cX4_yearByDraws 47 = .ok (.idiv, 1) := by decide +kernel
theorem dX4_yearByDraws_48 : decode cX4_yearByDraws 48 = .ok (.invokevirtual 103, 3) := by decide +kernel
theorem dX4_yearByDraws_51 : decode cX4_yearByDraws 51 = .ok (.aload_n 0, 1) := by decide +kernel
theorem dX4_yearByDraws_52 : decode cX4_yearByDraws 52 = .ok (.invokevirtual 107, 3) := by decide +kernel
theorem dX4_yearByDraws_55 : decode cX4_yearByDraws 55 = .ok (.return_, 1) := by decide +kernel
theorem dX4_year_0 : decode cX4_year 0 = .ok (.aload_n 0, 1) := by decide +kernel
theorem dX4_year_1 : decode cX4_year 1 = .ok (.invokevirtual 159, 3) := by decide +kernel
theorem dX4_year_4 : decode cX4_year 4 = .ok (.aload_n 0, 1) := by decide +kernel
theorem dX4_year_5 : decode cX4_year 5 = .ok (.invokevirtual 162, 3) := by decide +kernel
theorem dX4_year_8 : decode cX4_year 8 = .ok (.invokestatic 165, 3) := by decide +kernel
theorem dX4_year_11 : decode cX4_year 11 = .ok (.ireturn, 1) := by decide +kernel
theorem dX4_revel_0 : decode cX4_revel 0 = .ok (.iload_n 1, 1) := by decide +kernel
theorem dX4_revel_1 : decode cX4_revel 1 = .ok (.i2l, 1) := by decide +kernel
theorem dX4_revel_2 : decode cX4_revel 2 = .ok (.lconst 1, 1) := by decide +kernel
theorem dX4_revel_3 : decode cX4_revel 3 = .ok (.ldc2_w 168, 3) := by decide +kernel
theorem dX4_revel_6 : decode cX4_revel 6 = .ok (.invokestatic 61, 3) := by decide +kernel
theorem dX4_revel_9 : decode cX4_revel 9 = .ok (.ifCond .ne 5, 3) := by decide +kernel
theorem dX4_revel_12 : decode cX4_revel 12 = .ok (.iconst (-1), 1) := by decide +kernel
theorem dX4_revel_13 : decode cX4_revel 13 = .ok (.ireturn, 1) := by decide +kernel
theorem dX4_revel_14 : decode cX4_revel 14 = .ok (.aload_n 0, 1) := by decide +kernel
theorem dX4_revel_15 : decode cX4_revel 15 = .ok (.invokevirtual 170, 3) := by decide +kernel
theorem dX4_revel_18 : decode cX4_revel 18 = .ok (.aload_n 0, 1) := by decide +kernel
theorem dX4_revel_19 : decode cX4_revel 19 = .ok (.invokevirtual 162, 3) := by decide +kernel
theorem dX4_revel_22 : decode cX4_revel 22 = .ok (.invokestatic 165, 3) := by decide +kernel
theorem dX4_revel_25 : decode cX4_revel 25 = .ok (.istore_n 2, 1) := by decide +kernel
theorem dX4_revel_26 : decode cX4_revel 26 = .ok (.iconst 0, 1) := by decide +kernel
theorem dX4_revel_27 : decode cX4_revel 27 = .ok (.istore_n 3, 1) := by decide +kernel
theorem dX4_revel_28 : decode cX4_revel 28 = .ok (.iconst 0, 1) := by decide +kernel
theorem dX4_revel_29 : decode cX4_revel 29 = .ok (.istore 4, 2) := by decide +kernel
theorem dX4_revel_31 : decode cX4_revel 31 = .ok (.iload 4, 2) := by decide +kernel
theorem dX4_revel_33 : decode cX4_revel 33 = .ok (.iload_n 1, 1) := by decide +kernel
theorem dX4_revel_34 : decode cX4_revel 34 = .ok (.if_icmp .ge 54, 3) := by decide +kernel
theorem dX4_revel_37 : decode cX4_revel 37 = .ok (.aload_n 0, 1) := by decide +kernel
theorem dX4_revel_38 : decode cX4_revel 38 = .ok (.invokevirtual 159, 3) := by decide +kernel
theorem dX4_revel_41 : decode cX4_revel 41 = .ok (.iload_n 3, 1) := by decide +kernel
theorem dX4_revel_42 : decode cX4_revel 42 = .ok (.aload_n 0, 1) := by decide +kernel
theorem dX4_revel_43 : decode cX4_revel 43 = .ok (.invokevirtual 162, 3) := by decide +kernel
theorem dX4_revel_46 : decode cX4_revel 46 = .ok (.invokestatic 165, 3) := by decide +kernel
theorem dX4_revel_49 : decode cX4_revel 49 = .ok (.iload_n 2, 1) := by decide +kernel
theorem dX4_revel_50 : decode cX4_revel 50 = .ok (.if_icmp .le 7, 3) := by decide +kernel
theorem dX4_revel_53 : decode cX4_revel 53 = .ok (.iconst 1, 1) := by decide +kernel
theorem dX4_revel_54 : decode cX4_revel 54 = .ok (.goto 4, 3) := by decide +kernel
theorem dX4_revel_57 : decode cX4_revel 57 = .ok (.iconst 0, 1) := by decide +kernel
theorem dX4_revel_58 : decode cX4_revel 58 = .ok (.iadd, 1) := by decide +kernel
theorem dX4_revel_59 : decode cX4_revel 59 = .ok (.istore_n 3, 1) := by decide +kernel
theorem dX4_revel_60 : decode cX4_revel 60 = .ok (.aload_n 0, 1) := by decide +kernel
theorem dX4_revel_61 : decode cX4_revel 61 = .ok (.getfield 7, 3) := by decide +kernel
theorem dX4_revel_64 : decode cX4_revel 64 = .ok (.bipush 6, 2) := by decide +kernel
theorem dX4_revel_66 : decode cX4_revel 66 = .ok (.iaload, 1) := by decide +kernel
theorem dX4_revel_67 : decode cX4_revel 67 = .ok (.istore 5, 2) := by decide +kernel
theorem dX4_revel_69 : decode cX4_revel 69 = .ok (.aload_n 0, 1) := by decide +kernel
theorem dX4_revel_70 : decode cX4_revel 70 = .ok (.invokevirtual 173, 3) := by decide +kernel
theorem dX4_revel_73 : decode cX4_revel 73 = .ok (.aload_n 0, 1) := by decide +kernel
theorem dX4_revel_74 : decode cX4_revel 74 = .ok (.getfield 7, 3) := by decide +kernel
theorem dX4_revel_77 : decode cX4_revel 77 = .ok (.bipush 6, 2) := by decide +kernel
theorem dX4_revel_79 : decode cX4_revel 79 = .ok (.iload 5, 2) := by decide +kernel
theorem dX4_revel_81 : decode cX4_revel 81 = .ok (.iastore, 1) := by decide +kernel
theorem dX4_revel_82 : decode cX4_revel 82 = .ok (.iinc 4 1, 3) := by decide +kernel
theorem dX4_revel_85 : decode cX4_revel 85 = .ok (.goto (-54), 3) := by decide +kernel
theorem dX4_revel_88 : decode cX4_revel 88 = .ok (.aload_n 0, 1) := by decide +kernel
theorem dX4_revel_89 : decode cX4_revel 89 = .ok (.invokevirtual 173, 3) := by decide +kernel
theorem dX4_revel_92 : decode cX4_revel 92 = .ok (.iload_n 3, 1) := by decide +kernel
theorem dX4_revel_93 : decode cX4_revel 93 = .ok (.ireturn, 1) := by decide +kernel
theorem dX4_state_0 : decode cX4_state 0 = .ok (.iconst 0, 1) := by decide +kernel
theorem dX4_state_1 : decode cX4_state 1 = .ok (.istore_n 2, 1) := by decide +kernel
theorem dX4_state_2 : decode cX4_state 2 = .ok (.iload_n 1, 1) := by decide +kernel
theorem dX4_state_3 : decode cX4_state 3 = .ok (.tableswitch 109 0 4 #[33, 40, 68, 73, 102], 33) := by decide +kernel
theorem dX4_state_36 : decode cX4_state 36 = .ok (.aload_n 0, 1) := by decide +kernel
theorem dX4_state_37 : decode cX4_state 37 = .ok (.getfield 7, 3) := by decide +kernel
theorem dX4_state_40 : decode cX4_state 40 = .ok (.iconst 4, 1) := by decide +kernel
theorem dX4_state_41 : decode cX4_state 41 = .ok (.iaload, 1) := by decide +kernel
theorem dX4_state_42 : decode cX4_state 42 = .ok (.ireturn, 1) := by decide +kernel
theorem dX4_state_43 : decode cX4_state 43 = .ok (.iconst 0, 1) := by decide +kernel
theorem dX4_state_44 : decode cX4_state 44 = .ok (.istore_n 3, 1) := by decide +kernel
theorem dX4_state_45 : decode cX4_state 45 = .ok (.iload_n 3, 1) := by decide +kernel
theorem dX4_state_46 : decode cX4_state 46 = .ok (.bipush 32, 2) := by decide +kernel
theorem dX4_state_48 : decode cX4_state 48 = .ok (.if_icmp .ge 21, 3) := by decide +kernel
theorem dX4_state_51 : decode cX4_state 51 = .ok (.iload_n 2, 1) := by decide +kernel
theorem dX4_state_52 : decode cX4_state 52 = .ok (.aload_n 0, 1) := by decide +kernel
theorem dX4_state_53 : decode cX4_state 53 = .ok (.getfield 7, 3) := by decide +kernel
theorem dX4_state_56 : decode cX4_state 56 = .ok (.bipush 39, 2) := by decide +kernel
theorem dX4_state_58 : decode cX4_state 58 = .ok (.iload_n 3, 1) := by decide +kernel
theorem dX4_state_59 : decode cX4_state 59 = .ok (.iadd, 1) := by decide +kernel
theorem dX4_state_60 : decode cX4_state 60 = .ok (.iaload, 1) := by decide +kernel
theorem dX4_state_61 : decode cX4_state 61 = .ok (.iadd, 1) := by decide +kernel
theorem dX4_state_62 : decode cX4_state 62 = .ok (.istore_n 2, 1) := by decide +kernel
theorem dX4_state_63 : decode cX4_state 63 = .ok (.iinc 3 1, 3) := by decide +kernel
theorem dX4_state_66 : decode cX4_state 66 = .ok (.goto (-21), 3) := by decide +kernel
theorem dX4_state_69 : decode cX4_state 69 = .ok (.iload_n 2, 1) := by decide +kernel
theorem dX4_state_70 : decode cX4_state 70 = .ok (.ireturn, 1) := by decide +kernel
theorem dX4_state_71 : decode cX4_state 71 = .ok (.aload_n 0, 1) := by decide +kernel
theorem dX4_state_72 : decode cX4_state 72 = .ok (.invokevirtual 162, 3) := by decide +kernel
theorem dX4_state_75 : decode cX4_state 75 = .ok (.ireturn, 1) := by decide +kernel
theorem dX4_state_76 : decode cX4_state 76 = .ok (.iconst 0, 1) := by decide +kernel
theorem dX4_state_77 : decode cX4_state 77 = .ok (.istore_n 3, 1) := by decide +kernel
theorem dX4_state_78 : decode cX4_state 78 = .ok (.iload_n 3, 1) := by decide +kernel
theorem dX4_state_79 : decode cX4_state 79 = .ok (.aload_n 0, 1) := by decide +kernel
theorem dX4_state_80 : decode cX4_state 80 = .ok (.getfield 7, 3) := by decide +kernel
theorem dX4_state_83 : decode cX4_state 83 = .ok (.iconst 5, 1) := by decide +kernel
theorem dX4_state_84 : decode cX4_state 84 = .ok (.iaload, 1) := by decide +kernel
theorem dX4_state_85 : decode cX4_state 85 = .ok (.if_icmp .ge 18, 3) := by decide +kernel
theorem dX4_state_88 : decode cX4_state 88 = .ok (.iload_n 2, 1) := by decide +kernel
theorem dX4_state_89 : decode cX4_state 89 = .ok (.aload_n 0, 1) := by decide +kernel
theorem dX4_state_90 : decode cX4_state 90 = .ok (.iload_n 3, 1) := by decide +kernel
theorem dX4_state_91 : decode cX4_state 91 = .ok (.iconst 2, 1) := by decide +kernel
theorem dX4_state_92 : decode cX4_state 92 = .ok (.invokevirtual 67, 3) := by decide +kernel
theorem dX4_state_95 : decode cX4_state 95 = .ok (.iadd, 1) := by decide +kernel
theorem dX4_state_96 : decode cX4_state 96 = .ok (.istore_n 2, 1) := by decide +kernel
theorem dX4_state_97 : decode cX4_state 97 = .ok (.iinc 3 1, 3) := by decide +kernel
theorem dX4_state_100 : decode cX4_state 100 = .ok (.goto (-22), 3) := by decide +kernel
theorem dX4_state_103 : decode cX4_state 103 = .ok (.iload_n 2, 1) := by decide +kernel
theorem dX4_state_104 : decode cX4_state 104 = .ok (.ireturn, 1) := by decide +kernel
theorem dX4_state_105 : decode cX4_state 105 = .ok (.aload_n 0, 1) := by decide +kernel
theorem dX4_state_106 : decode cX4_state 106 = .ok (.iconst (-1), 1) := by decide +kernel
theorem dX4_state_107 : decode cX4_state 107 = .ok (.iconst 2, 1) := by decide +kernel
theorem dX4_state_108 : decode cX4_state 108 = .ok (.invokevirtual 135, 3) := by decide +kernel
theorem dX4_state_111 : decode cX4_state 111 = .ok (.ireturn, 1) := by decide +kernel
theorem dX4_state_112 : decode cX4_state 112 = .ok (.iconst (-1), 1) := by decide +kernel
theorem dX4_state_113 : decode cX4_state 113 = .ok (.ireturn, 1) := by decide +kernel
theorem dX4_levelWith_0 : decode cX4_levelWith 0 = .ok (.iload_n 3, 1) := by decide +kernel
theorem dX4_levelWith_1 : decode cX4_levelWith 1 = .ok (.ifCond .lt 11, 3) := by decide +kernel
theorem dX4_levelWith_4 : decode cX4_levelWith 4 = .ok (.aload_n 0, 1) := by decide +kernel
theorem dX4_levelWith_5 : decode cX4_levelWith 5 = .ok (.getfield 7, 3) := by decide +kernel
theorem dX4_levelWith_8 : decode cX4_levelWith 8 = .ok (.iload_n 3, 1) := by decide +kernel
theorem dX4_levelWith_9 : decode cX4_levelWith 9 = .ok (.iload 4, 2) := by decide +kernel
theorem dX4_levelWith_11 : decode cX4_levelWith 11 = .ok (.iastore, 1) := by decide +kernel
theorem dX4_levelWith_12 : decode cX4_levelWith 12 = .ok (.aload_n 0, 1) := by decide +kernel
theorem dX4_levelWith_13 : decode cX4_levelWith 13 = .ok (.iload_n 2, 1) := by decide +kernel
theorem dX4_levelWith_14 : decode cX4_levelWith 14 = .ok (.invokevirtual 147, 3) := by decide +kernel
theorem dX4_levelWith_17 : decode cX4_levelWith 17 = .ok (.aload_n 0, 1) := by decide +kernel
theorem dX4_levelWith_18 : decode cX4_levelWith 18 = .ok (.getfield 7, 3) := by decide +kernel
theorem dX4_levelWith_21 : decode cX4_levelWith 21 = .ok (.bipush 39, 2) := by decide +kernel
theorem dX4_levelWith_23 : decode cX4_levelWith 23 = .ok (.iload_n 1, 1) := by decide +kernel
theorem dX4_levelWith_24 : decode cX4_levelWith 24 = .ok (.iadd, 1) := by decide +kernel
theorem dX4_levelWith_25 : decode cX4_levelWith 25 = .ok (.iaload, 1) := by decide +kernel
theorem dX4_levelWith_26 : decode cX4_levelWith 26 = .ok (.istore 5, 2) := by decide +kernel
theorem dX4_levelWith_28 : decode cX4_levelWith 28 = .ok (.aload_n 0, 1) := by decide +kernel
theorem dX4_levelWith_29 : decode cX4_levelWith 29 = .ok (.invokevirtual 173, 3) := by decide +kernel
theorem dX4_levelWith_32 : decode cX4_levelWith 32 = .ok (.iload 5, 2) := by decide +kernel
theorem dX4_levelWith_34 : decode cX4_levelWith 34 = .ok (.ireturn, 1) := by decide +kernel
theorem dX4_level_0 : decode cX4_level 0 = .ok (.iload_n 1, 1) := by decide +kernel
theorem dX4_level_1 : decode cX4_level 1 = .ok (.invokestatic 120, 3) := by decide +kernel
theorem dX4_level_4 : decode cX4_level 4 = .ok (.ifCond .eq 15, 3) := by decide +kernel
theorem dX4_level_7 : decode cX4_level 7 = .ok (.iload_n 2, 1) := by decide +kernel
theorem dX4_level_8 : decode cX4_level 8 = .ok (.i2l, 1) := by decide +kernel
theorem dX4_level_9 : decode cX4_level 9 = .ok (.lconst 0, 1) := by decide +kernel
theorem dX4_level_10 : decode cX4_level 10 = .ok (.ldc2_w 145, 3) := by decide +kernel
theorem dX4_level_13 : decode cX4_level 13 = .ok (.invokestatic 61, 3) := by decide +kernel
theorem dX4_level_16 : decode cX4_level 16 = .ok (.ifCond .ne 5, 3) := by decide +kernel
theorem dX4_level_19 : decode cX4_level 19 = .ok (.iconst (-1), 1) := by decide +kernel
theorem dX4_level_20 : decode cX4_level 20 = .ok (.ireturn, 1) := by decide +kernel
theorem dX4_level_21 : decode cX4_level 21 = .ok (.aload_n 0, 1) := by decide +kernel
theorem dX4_level_22 : decode cX4_level 22 = .ok (.invokevirtual 170, 3) := by decide +kernel
theorem dX4_level_25 : decode cX4_level 25 = .ok (.aload_n 0, 1) := by decide +kernel
theorem dX4_level_26 : decode cX4_level 26 = .ok (.iload_n 1, 1) := by decide +kernel
theorem dX4_level_27 : decode cX4_level 27 = .ok (.iload_n 2, 1) := by decide +kernel
theorem dX4_level_28 : decode cX4_level 28 = .ok (.iconst (-1), 1) := by decide +kernel
theorem dX4_level_29 : decode cX4_level 29 = .ok (.iconst 0, 1) := by decide +kernel
theorem dX4_level_30 : decode cX4_level 30 = .ok (.invokevirtual 176, 3) := by decide +kernel
theorem dX4_level_33 : decode cX4_level 33 = .ok (.ireturn, 1) := by decide +kernel
theorem dX4_isDrowned_0 : decode cX4_isDrowned 0 = .ok (.iconst 1, 1) := by decide +kernel
theorem dX4_isDrowned_1 : decode cX4_isDrowned 1 = .ok (.istore_n 1, 1) := by decide +kernel
theorem dX4_isDrowned_2 : decode cX4_isDrowned 2 = .ok (.iconst 0, 1) := by decide +kernel
theorem dX4_isDrowned_3 : decode cX4_isDrowned 3 = .ok (.istore_n 2, 1) := by decide +kernel
theorem dX4_isDrowned_4 : decode cX4_isDrowned 4 = .ok (.iload_n 2, 1) := by decide +kernel
theorem dX4_isDrowned_5 : decode cX4_isDrowned 5 = .ok (.aload_n 0, 1) := by decide +kernel
theorem dX4_isDrowned_6 : decode cX4_isDrowned 6 = .ok (.getfield 7, 3) := by decide +kernel
theorem dX4_isDrowned_9 : decode cX4_isDrowned 9 = .ok (.iconst 5, 1) := by decide +kernel
theorem dX4_isDrowned_10 : decode cX4_isDrowned 10 = .ok (.iaload, 1) := by decide +kernel
theorem dX4_isDrowned_11 : decode cX4_isDrowned 11 = .ok (.if_icmp .ge 32, 3) := by decide +kernel
theorem dX4_isDrowned_14 : decode cX4_isDrowned 14 = .ok (.iload_n 1, 1) := by decide +kernel
theorem dX4_isDrowned_15 : decode cX4_isDrowned 15 = .ok (.ifCond .eq 20, 3) := by decide +kernel
theorem dX4_isDrowned_18 : decode cX4_isDrowned 18 = .ok (.aload_n 0, 1) := by decide +kernel
theorem dX4_isDrowned_19 : decode cX4_isDrowned 19 = .ok (.aload_n 0, 1) := by decide +kernel
theorem dX4_isDrowned_20 : decode cX4_isDrowned 20 = .ok (.iload_n 2, 1) := by decide +kernel
theorem dX4_isDrowned_21 : decode cX4_isDrowned 21 = .ok (.iconst 3, 1) := by decide +kernel
theorem dX4_isDrowned_22 : decode cX4_isDrowned 22 = .ok (.invokevirtual 67, 3) := by decide +kernel
theorem dX4_isDrowned_25 : decode cX4_isDrowned 25 = .ok (.invokevirtual 93, 3) := by decide +kernel
theorem dX4_isDrowned_28 : decode cX4_isDrowned 28 = .ok (.ifCond .eq 7, 3) := by decide +kernel
theorem dX4_isDrowned_31 : decode cX4_isDrowned 31 = .ok (.iconst 1, 1) := by decide +kernel
theorem dX4_isDrowned_32 : decode cX4_isDrowned 32 = .ok (.goto 4, 3) := by decide +kernel
theorem dX4_isDrowned_35 : decode cX4_isDrowned 35 = .ok (.iconst 0, 1) := by decide +kernel
theorem dX4_isDrowned_36 : decode cX4_isDrowned 36 = .ok (.istore_n 1, 1) := by decide +kernel
theorem dX4_isDrowned_37 : decode cX4_isDrowned 37 = .ok (.iinc 2 1, 3) := by decide +kernel
theorem dX4_isDrowned_40 : decode cX4_isDrowned 40 = .ok (.goto (-36), 3) := by decide +kernel
theorem dX4_isDrowned_43 : decode cX4_isDrowned 43 = .ok (.iload_n 1, 1) := by decide +kernel
theorem dX4_isDrowned_44 : decode cX4_isDrowned 44 = .ok (.ireturn, 1) := by decide +kernel
theorem dX4_whenFirst_0 : decode cX4_whenFirst 0 = .ok (.aload_n 0, 1) := by decide +kernel
theorem dX4_whenFirst_1 : decode cX4_whenFirst 1 = .ok (.invokevirtual 170, 3) := by decide +kernel
theorem dX4_whenFirst_4 : decode cX4_whenFirst 4 = .ok (.bipush (-3), 2) := by decide +kernel
theorem dX4_whenFirst_6 : decode cX4_whenFirst 6 = .ok (.istore_n 3, 1) := by decide +kernel
theorem dX4_whenFirst_7 : decode cX4_whenFirst 7 = .ok (.iconst 0, 1) := by decide +kernel
theorem dX4_whenFirst_8 : decode cX4_whenFirst 8 = .ok (.istore 4, 2) := by decide +kernel
theorem dX4_whenFirst_10 : decode cX4_whenFirst 10 = .ok (.iload 4, 2) := by decide +kernel
theorem dX4_whenFirst_12 : decode cX4_whenFirst 12 = .ok (.bipush 60, 2) := by decide +kernel
theorem dX4_whenFirst_14 : decode cX4_whenFirst 14 = .ok (.if_icmp .gt 72, 3) := by decide +kernel
theorem dX4_whenFirst_17 : decode cX4_whenFirst 17 = .ok (.iload_n 3, 1) := by decide +kernel
theorem dX4_whenFirst_18 : decode cX4_whenFirst 18 = .ok (.bipush (-3), 2) := by decide +kernel
theorem dX4_whenFirst_20 : decode cX4_whenFirst 20 = .ok (.if_icmp .ne 66, 3) := by decide +kernel
theorem dX4_whenFirst_23 : decode cX4_whenFirst 23 = .ok (.iload_n 1, 1) := by decide +kernel
theorem dX4_whenFirst_24 : decode cX4_whenFirst 24 = .ok (.ifCond .ne 11, 3) := by decide +kernel
theorem dX4_whenFirst_27 : decode cX4_whenFirst 27 = .ok (.aload_n 0, 1) := by decide +kernel
theorem dX4_whenFirst_28 : decode cX4_whenFirst 28 = .ok (.iload_n 2, 1) := by decide +kernel
theorem dX4_whenFirst_29 : decode cX4_whenFirst 29 = .ok (.invokevirtual 93, 3) := by decide +kernel
theorem dX4_whenFirst_32 : decode cX4_whenFirst 32 = .ok (.goto 29, 3) := by decide +kernel
theorem dX4_whenFirst_35 : decode cX4_whenFirst 35 = .ok (.iload_n 1, 1) := by decide +kernel
theorem dX4_whenFirst_36 : decode cX4_whenFirst 36 = .ok (.iconst 1, 1) := by decide +kernel
theorem dX4_whenFirst_37 : decode cX4_whenFirst 37 = .ok (.if_icmp .ne 20, 3) := by decide +kernel
theorem dX4_whenFirst_40 : decode cX4_whenFirst 40 = .ok (.aload_n 0, 1) := by decide +kernel
theorem dX4_whenFirst_41 : decode cX4_whenFirst 41 = .ok (.iload_n 2, 1) := by decide +kernel
theorem dX4_whenFirst_42 : decode cX4_whenFirst 42 = .ok (.iconst 2, 1) := by decide +kernel
theorem dX4_whenFirst_43 : decode cX4_whenFirst 43 = .ok (.invokevirtual 67, 3) := by decide +kernel
theorem dX4_whenFirst_46 : decode cX4_whenFirst 46 = .ok (.ifCond .ne 7, 3) := by decide +kernel
theorem dX4_whenFirst_49 : decode cX4_whenFirst 49 = .ok (.iconst 1, 1) := by decide +kernel
theorem dX4_whenFirst_50 : decode cX4_whenFirst 50 = .ok (.goto 11, 3) := by decide +kernel
theorem dX4_whenFirst_53 : decode cX4_whenFirst 53 = .ok (.iconst 0, 1) := by decide +kernel
theorem dX4_whenFirst_54 : decode cX4_whenFirst 54 = .ok (.goto 7, 3) := by decide +kernel
theorem dX4_whenFirst_57 : decode cX4_whenFirst 57 = .ok (.aload_n 0, 1) := by decide +kernel
theorem dX4_whenFirst_58 : decode cX4_whenFirst 58 = .ok (.invokevirtual 179, 3) := by decide +kernel
theorem dX4_whenFirst_61 : decode cX4_whenFirst 61 = .ok (.istore 5, 2) := by decide +kernel
theorem dX4_whenFirst_63 : decode cX4_whenFirst 63 = .ok (.iload 5, 2) := by decide +kernel
theorem dX4_whenFirst_65 : decode cX4_whenFirst 65 = .ok (.ifCond .eq 8, 3) := by decide +kernel
theorem dX4_whenFirst_68 : decode cX4_whenFirst 68 = .ok (.iload 4, 2) := by decide +kernel
theorem dX4_whenFirst_70 : decode cX4_whenFirst 70 = .ok (.goto 5, 3) := by decide +kernel
theorem dX4_whenFirst_73 : decode cX4_whenFirst 73 = .ok (.bipush (-3), 2) := by decide +kernel
theorem dX4_whenFirst_75 : decode cX4_whenFirst 75 = .ok (.istore_n 3, 1) := by decide +kernel
theorem dX4_whenFirst_76 : decode cX4_whenFirst 76 = .ok (.aload_n 0, 1) := by decide +kernel
theorem dX4_whenFirst_77 : decode cX4_whenFirst 77 = .ok (.invokevirtual 107, 3) := by decide +kernel
theorem dX4_whenFirst_80 : decode cX4_whenFirst 80 = .ok (.iinc 4 1, 3) := by decide +kernel
theorem dX4_whenFirst_83 : decode cX4_whenFirst 83 = .ok (.goto (-73), 3) := by decide +kernel
theorem dX4_whenFirst_86 : decode cX4_whenFirst 86 = .ok (.aload_n 0, 1) := by decide +kernel
theorem dX4_whenFirst_87 : decode cX4_whenFirst 87 = .ok (.invokevirtual 173, 3) := by decide +kernel
theorem dX4_whenFirst_90 : decode cX4_whenFirst 90 = .ok (.iload_n 3, 1) := by decide +kernel
theorem dX4_whenFirst_91 : decode cX4_whenFirst 91 = .ok (.ireturn, 1) := by decide +kernel
theorem dX4_damp_0 : decode cX4_damp 0 = .ok (.iload_n 1, 1) := by decide +kernel
theorem dX4_damp_1 : decode cX4_damp 1 = .ok (.invokestatic 120, 3) := by decide +kernel
theorem dX4_damp_4 : decode cX4_damp 4 = .ok (.ifCond .eq 12, 3) := by decide +kernel
theorem dX4_damp_7 : decode cX4_damp 7 = .ok (.aload_n 0, 1) := by decide +kernel
theorem dX4_damp_8 : decode cX4_damp 8 = .ok (.iconst 0, 1) := by decide +kernel
theorem dX4_damp_9 : decode cX4_damp 9 = .ok (.iload_n 1, 1) := by decide +kernel
theorem dX4_damp_10 : decode cX4_damp 10 = .ok (.invokevirtual 183, 3) := by decide +kernel
theorem dX4_damp_13 : decode cX4_damp 13 = .ok (.goto 4, 3) := by decide +kernel
theorem dX4_damp_16 : decode cX4_damp 16 = .ok (.iconst (-1), 1) := by decide +kernel
theorem dX4_damp_17 : decode cX4_damp 17 = .ok (.ireturn, 1) := by decide +kernel
theorem dX4_loss_0 : decode cX4_loss 0 = .ok (.aload_n 0, 1) := by decide +kernel
theorem dX4_loss_1 : decode cX4_loss 1 = .ok (.iload_n 1, 1) := by decide +kernel
theorem dX4_loss_2 : decode cX4_loss 2 = .ok (.invokevirtual 127, 3) := by decide +kernel
theorem dX4_loss_5 : decode cX4_loss 5 = .ok (.ifCond .eq 12, 3) := by decide +kernel
theorem dX4_loss_8 : decode cX4_loss 8 = .ok (.aload_n 0, 1) := by decide +kernel
theorem dX4_loss_9 : decode cX4_loss 9 = .ok (.iconst 1, 1) := by decide +kernel
theorem dX4_loss_10 : decode cX4_loss 10 = .ok (.iload_n 1, 1) := by decide +kernel
theorem dX4_loss_11 : decode cX4_loss 11 = .ok (.invokevirtual 183, 3) := by decide +kernel
theorem dX4_loss_14 : decode cX4_loss 14 = .ok (.goto 4, 3) := by decide +kernel
theorem dX4_loss_17 : decode cX4_loss 17 = .ok (.iconst (-1), 1) := by decide +kernel
theorem dX4_loss_18 : decode cX4_loss 18 = .ok (.ireturn, 1) := by decide +kernel
theorem dX4_drowned_0 : decode cX4_drowned 0 = .ok (.aload_n 0, 1) := by decide +kernel
theorem dX4_drowned_1 : decode cX4_drowned 1 = .ok (.iconst 2, 1) := by decide +kernel
theorem dX4_drowned_2 : decode cX4_drowned 2 = .ok (.iconst 0, 1) := by decide +kernel
theorem dX4_drowned_3 : decode cX4_drowned 3 = .ok (.invokevirtual 183, 3) := by decide +kernel
theorem dX4_drowned_6 : decode cX4_drowned 6 = .ok (.ireturn, 1) := by decide +kernel
theorem dX4_isAsk_0 : decode cX4_isAsk 0 = .ok (.aload_n 0, 1) := by decide +kernel
theorem dX4_isAsk_1 : decode cX4_isAsk 1 = .ok (.iload_n 1, 1) := by decide +kernel
theorem dX4_isAsk_2 : decode cX4_isAsk 2 = .ok (.invokevirtual 127, 3) := by decide +kernel
theorem dX4_isAsk_5 : decode cX4_isAsk 5 = .ok (.ifCond .eq 26, 3) := by decide +kernel
theorem dX4_isAsk_8 : decode cX4_isAsk 8 = .ok (.iload_n 2, 1) := by decide +kernel
theorem dX4_isAsk_9 : decode cX4_isAsk 9 = .ok (.invokestatic 120, 3) := by decide +kernel
theorem dX4_isAsk_12 : decode cX4_isAsk 12 = .ok (.ifCond .eq 19, 3) := by decide +kernel
theorem dX4_isAsk_15 : decode cX4_isAsk 15 = .ok (.iload_n 3, 1) := by decide +kernel
theorem dX4_isAsk_16 : decode cX4_isAsk 16 = .ok (.i2l, 1) := by decide +kernel
theorem dX4_isAsk_17 : decode cX4_isAsk 17 = .ok (.lconst 1, 1) := by decide +kernel
theorem dX4_isAsk_18 : decode cX4_isAsk 18 = .ok (.ldc2_w 186, 3) := by decide +kernel
theorem dX4_isAsk_21 : decode cX4_isAsk 21 = .ok (.invokestatic 61, 3) := by decide +kernel
theorem dX4_isAsk_24 : decode cX4_isAsk 24 = .ok (.ifCond .eq 7, 3) := by decide +kernel
theorem dX4_isAsk_27 : decode cX4_isAsk 27 = .ok (.iconst 1, 1) := by decide +kernel
theorem dX4_isAsk_28 : decode cX4_isAsk 28 = .ok (.goto 4, 3) := by decide +kernel
theorem dX4_isAsk_31 : decode cX4_isAsk 31 = .ok (.iconst 0, 1) := by decide +kernel
theorem dX4_isAsk_32 : decode cX4_isAsk 32 = .ok (.ireturn, 1) := by decide +kernel
theorem dX4_mostBy_0 : decode cX4_mostBy 0 = .ok (.aload_n 0, 1) := by decide +kernel
theorem dX4_mostBy_1 : decode cX4_mostBy 1 = .ok (.invokevirtual 170, 3) := by decide +kernel
theorem dX4_mostBy_4 : decode cX4_mostBy 4 = .ok (.iconst 0, 1) := by decide +kernel
theorem dX4_mostBy_5 : decode cX4_mostBy 5 = .ok (.istore 5, 2) := by decide +kernel
theorem dX4_mostBy_7 : decode cX4_mostBy 7 = .ok (.iconst (-1), 1) := by decide +kernel
theorem dX4_mostBy_8 : decode cX4_mostBy 8 = .ok (.istore 6, 2) := by decide +kernel
theorem dX4_mostBy_10 : decode cX4_mostBy 10 = .ok (.iconst 0, 1) := by decide +kernel
theorem dX4_mostBy_11 : decode cX4_mostBy 11 = .ok (.istore 7, 2) := by decide +kernel
theorem dX4_mostBy_13 : decode cX4_mostBy 13 = .ok (.iload 7, 2) := by decide +kernel
theorem dX4_mostBy_15 : decode cX4_mostBy 15 = .ok (.iload_n 2, 1) := by decide +kernel
theorem dX4_mostBy_16 : decode cX4_mostBy 16 = .ok (.if_icmp .ge 36, 3) := by decide +kernel
theorem dX4_mostBy_19 : decode cX4_mostBy 19 = .ok (.aload_n 0, 1) := by decide +kernel
theorem dX4_mostBy_20 : decode cX4_mostBy 20 = .ok (.iload_n 3, 1) := by decide +kernel
theorem dX4_mostBy_21 : decode cX4_mostBy 21 = .ok (.iload 4, 2) := by decide +kernel
theorem dX4_mostBy_23 : decode cX4_mostBy 23 = .ok (.iload_n 1, 1) := by decide +kernel
theorem dX4_mostBy_24 : decode cX4_mostBy 24 = .ok (.iload 7, 2) := by decide +kernel
theorem dX4_mostBy_26 : decode cX4_mostBy 26 = .ok (.invokevirtual 176, 3) := by decide +kernel
theorem dX4_mostBy_29 : decode cX4_mostBy 29 = .ok (.istore 8, 2) := by decide +kernel
theorem dX4_mostBy_31 : decode cX4_mostBy 31 = .ok (.iload 8, 2) := by decide +kernel
theorem dX4_mostBy_33 : decode cX4_mostBy 33 = .ok (.iload 6, 2) := by decide +kernel
theorem dX4_mostBy_35 : decode cX4_mostBy 35 = .ok (.if_icmp .le 11, 3) := by decide +kernel
theorem dX4_mostBy_38 : decode cX4_mostBy 38 = .ok (.iload 7, 2) := by decide +kernel
theorem dX4_mostBy_40 : decode cX4_mostBy 40 = .ok (.istore 5, 2) := by decide +kernel
theorem dX4_mostBy_42 : decode cX4_mostBy 42 = .ok (.iload 8, 2) := by decide +kernel
theorem dX4_mostBy_44 : decode cX4_mostBy 44 = .ok (.istore 6, 2) := by decide +kernel
theorem dX4_mostBy_46 : decode cX4_mostBy 46 = .ok (.iinc 7 1, 3) := by decide +kernel
theorem dX4_mostBy_49 : decode cX4_mostBy 49 = .ok (.goto (-36), 3) := by decide +kernel
theorem dX4_mostBy_52 : decode cX4_mostBy 52 = .ok (.iload 5, 2) := by decide +kernel
theorem dX4_mostBy_54 : decode cX4_mostBy 54 = .ok (.ireturn, 1) := by decide +kernel
theorem dX4_whereFor_0 : decode cX4_whereFor 0 = .ok (.aload_n 0, 1) := by decide +kernel
theorem dX4_whereFor_1 : decode cX4_whereFor 1 = .ok (.iload_n 1, 1) := by decide +kernel
theorem dX4_whereFor_2 : decode cX4_whereFor 2 = .ok (.iload_n 2, 1) := by decide +kernel
theorem dX4_whereFor_3 : decode cX4_whereFor 3 = .ok (.iload_n 3, 1) := by decide +kernel
theorem dX4_whereFor_4 : decode cX4_whereFor 4 = .ok (.invokevirtual 188, 3) := by decide +kernel
theorem dX4_whereFor_7 : decode cX4_whereFor 7 = .ok (.ifCond .eq 22, 3) := by decide +kernel
theorem dX4_whereFor_10 : decode cX4_whereFor 10 = .ok (.aload_n 0, 1) := by decide +kernel
theorem dX4_whereFor_11 : decode cX4_whereFor 11 = .ok (.bipush 71, 2) := by decide +kernel
theorem dX4_whereFor_13 : decode cX4_whereFor 13 = .ok (.iconst 4, 1) := by decide +kernel
theorem dX4_whereFor_14 : decode cX4_whereFor 14 = .ok (.iload_n 1, 1) := by decide +kernel
theorem dX4_whereFor_15 : decode cX4_whereFor 15 = .ok (.imul, 1) := by decide +kernel
theorem dX4_whereFor_16 : decode cX4_whereFor 16 = .ok (.iadd, 1) := by decide +kernel
theorem dX4_whereFor_17 : decode cX4_whereFor 17 = .ok (.iconst 3, 1) := by decide +kernel
theorem dX4_whereFor_18 : decode cX4_whereFor 18 = .ok (.iadd, 1) := by decide +kernel
theorem dX4_whereFor_19 : decode cX4_whereFor 19 = .ok (.bipush 32, 2) := by decide +kernel
theorem dX4_whereFor_21 : decode cX4_whereFor 21 = .ok (.iload_n 2, 1) := by decide +kernel
theorem dX4_whereFor_22 : decode cX4_whereFor 22 = .ok (.iload_n 3, 1) := by decide +kernel
theorem dX4_whereFor_23 : decode cX4_whereFor 23 = .ok (.invokevirtual 192, 3) := by decide +kernel
theorem dX4_whereFor_26 : decode cX4_whereFor 26 = .ok (.goto 4, 3) := by decide +kernel
theorem dX4_whereFor_29 : decode cX4_whereFor 29 = .ok (.iconst (-1), 1) := by decide +kernel
theorem dX4_whereFor_30 : decode cX4_whereFor 30 = .ok (.ireturn, 1) := by decide +kernel
theorem dX4_kindFor_0 : decode cX4_kindFor 0 = .ok (.aload_n 0, 1) := by decide +kernel
theorem dX4_kindFor_1 : decode cX4_kindFor 1 = .ok (.iload_n 1, 1) := by decide +kernel
theorem dX4_kindFor_2 : decode cX4_kindFor 2 = .ok (.iload_n 2, 1) := by decide +kernel
theorem dX4_kindFor_3 : decode cX4_kindFor 3 = .ok (.iload_n 3, 1) := by decide +kernel
theorem dX4_kindFor_4 : decode cX4_kindFor 4 = .ok (.invokevirtual 188, 3) := by decide +kernel
theorem dX4_kindFor_7 : decode cX4_kindFor 7 = .ok (.ifCond .eq 22, 3) := by decide +kernel
theorem dX4_kindFor_10 : decode cX4_kindFor 10 = .ok (.aload_n 0, 1) := by decide +kernel
theorem dX4_kindFor_11 : decode cX4_kindFor 11 = .ok (.bipush 71, 2) := by decide +kernel
theorem dX4_kindFor_13 : decode cX4_kindFor 13 = .ok (.iconst 4, 1) := by decide +kernel
theorem dX4_kindFor_14 : decode cX4_kindFor 14 = .ok (.iload_n 1, 1) := by decide +kernel
theorem dX4_kindFor_15 : decode cX4_kindFor 15 = .ok (.imul, 1) := by decide +kernel
theorem dX4_kindFor_16 : decode cX4_kindFor 16 = .ok (.iadd, 1) := by decide +kernel
theorem dX4_kindFor_17 : decode cX4_kindFor 17 = .ok (.iconst 0, 1) := by decide +kernel
theorem dX4_kindFor_18 : decode cX4_kindFor 18 = .ok (.iadd, 1) := by decide +kernel
theorem dX4_kindFor_19 : decode cX4_kindFor 19 = .ok (.bipush 6, 2) := by decide +kernel
theorem dX4_kindFor_21 : decode cX4_kindFor 21 = .ok (.iload_n 2, 1) := by decide +kernel
theorem dX4_kindFor_22 : decode cX4_kindFor 22 = .ok (.iload_n 3, 1) := by decide +kernel
theorem dX4_kindFor_23 : decode cX4_kindFor 23 = .ok (.invokevirtual 192, 3) := by decide +kernel
theorem dX4_kindFor_26 : decode cX4_kindFor 26 = .ok (.goto 4, 3) := by decide +kernel
theorem dX4_kindFor_29 : decode cX4_kindFor 29 = .ok (.iconst (-1), 1) := by decide +kernel
theorem dX4_kindFor_30 : decode cX4_kindFor 30 = .ok (.ireturn, 1) := by decide +kernel
theorem dX4_annoyed_0 : decode cX4_annoyed 0 = .ok (.aload_n 0, 1) := by decide +kernel
theorem dX4_annoyed_1 : decode cX4_annoyed 1 = .ok (.iload_n 1, 1) := by decide +kernel
theorem dX4_annoyed_2 : decode cX4_annoyed 2 = .ok (.iload_n 2, 1) := by decide +kernel
theorem dX4_annoyed_3 : decode cX4_annoyed 3 = .ok (.iload_n 3, 1) := by decide +kernel
theorem dX4_annoyed_4 : decode cX4_annoyed 4 = .ok (.invokevirtual 188, 3) := by decide +kernel
theorem dX4_annoyed_7 : decode cX4_annoyed 7 = .ok (.ifCond .ne 5, 3) := by decide +kernel
theorem dX4_annoyed_10 : decode cX4_annoyed 10 = .ok (.iconst (-1), 1) := by decide +kernel
theorem dX4_annoyed_11 : decode cX4_annoyed 11 = .ok (.ireturn, 1) := by decide +kernel
theorem dX4_annoyed_12 : decode cX4_annoyed 12 = .ok (.aload_n 0, 1) := by decide +kernel
theorem dX4_annoyed_13 : decode cX4_annoyed 13 = .ok (.invokevirtual 170, 3) := by decide +kernel
theorem dX4_annoyed_16 : decode cX4_annoyed 16 = .ok (.iconst 0, 1) := by decide +kernel
theorem dX4_annoyed_17 : decode cX4_annoyed 17 = .ok (.istore 4, 2) := by decide +kernel
theorem dX4_annoyed_19 : decode cX4_annoyed 19 = .ok (.iload 4, 2) := by decide +kernel
theorem dX4_annoyed_21 : decode cX4_annoyed 21 = .ok (.bipush 99, 2) := by decide +kernel
theorem dX4_annoyed_23 : decode cX4_annoyed 23 = .ok (.if_icmp .gt 33, 3) := by decide +kernel
theorem dX4_annoyed_26 : decode cX4_annoyed 26 = .ok (.aload_n 0, 1) := by decide +kernel
theorem dX4_annoyed_27 : decode cX4_annoyed 27 = .ok (.iload_n 2, 1) := by decide +kernel
theorem dX4_annoyed_28 : decode cX4_annoyed 28 = .ok (.iload_n 3, 1) := by decide +kernel
theorem dX4_annoyed_29 : decode cX4_annoyed 29 = .ok (.bipush 71, 2) := by decide +kernel
theorem dX4_annoyed_31 : decode cX4_annoyed 31 = .ok (.iconst 4, 1) := by decide +kernel
theorem dX4_annoyed_32 : decode cX4_annoyed 32 = .ok (.iload_n 1, 1) := by decide +kernel
theorem dX4_annoyed_33 : decode cX4_annoyed 33 = .ok (.imul, 1) := by decide +kernel
theorem dX4_annoyed_34 : decode cX4_annoyed 34 = .ok (.iadd, 1) := by decide +kernel
theorem dX4_annoyed_35 : decode cX4_annoyed 35 = .ok (.iconst 2, 1) := by decide +kernel
theorem dX4_annoyed_36 : decode cX4_annoyed 36 = .ok (.iadd, 1) := by decide +kernel
theorem dX4_annoyed_37 : decode cX4_annoyed 37 = .ok (.iload 4, 2) := by decide +kernel
theorem dX4_annoyed_39 : decode cX4_annoyed 39 = .ok (.invokevirtual 176, 3) := by decide +kernel
theorem dX4_annoyed_42 : decode cX4_annoyed 42 = .ok (.bipush 10, 2) := by decide +kernel
theorem dX4_annoyed_44 : decode cX4_annoyed 44 = .ok (.if_icmp .lt 6, 3) := by decide +kernel
theorem dX4_annoyed_47 : decode cX4_annoyed 47 = .ok (.iload 4, 2) := by decide +kernel
theorem dX4_annoyed_49 : decode cX4_annoyed 49 = .ok (.ireturn, 1) := by decide +kernel
theorem dX4_annoyed_50 : decode cX4_annoyed 50 = .ok (.iinc 4 1, 3) := by decide +kernel
theorem dX4_annoyed_53 : decode cX4_annoyed 53 = .ok (.goto (-34), 3) := by decide +kernel
theorem dX4_annoyed_56 : decode cX4_annoyed 56 = .ok (.bipush (-3), 2) := by decide +kernel
theorem dX4_annoyed_58 : decode cX4_annoyed 58 = .ok (.ireturn, 1) := by decide +kernel
theorem dX4_levelWithout_0 : decode cX4_levelWithout 0 = .ok (.aload_n 0, 1) := by decide +kernel
theorem dX4_levelWithout_1 : decode cX4_levelWithout 1 = .ok (.iload_n 1, 1) := by decide +kernel
theorem dX4_levelWithout_2 : decode cX4_levelWithout 2 = .ok (.putfield 71, 3) := by decide +kernel
theorem dX4_levelWithout_5 : decode cX4_levelWithout 5 = .ok (.aload_n 0, 1) := by decide +kernel
theorem dX4_levelWithout_6 : decode cX4_levelWithout 6 = .ok (.iload_n 2, 1) := by decide +kernel
theorem dX4_levelWithout_7 : decode cX4_levelWithout 7 = .ok (.iload_n 3, 1) := by decide +kernel
theorem dX4_levelWithout_8 : decode cX4_levelWithout 8 = .ok (.iconst (-1), 1) := by decide +kernel
theorem dX4_levelWithout_9 : decode cX4_levelWithout 9 = .ok (.iconst 0, 1) := by decide +kernel
theorem dX4_levelWithout_10 : decode cX4_levelWithout 10 = .ok (.invokevirtual 176, 3) := by decide +kernel
theorem dX4_levelWithout_13 : decode cX4_levelWithout 13 = .ok (.istore 4, 2) := by decide +kernel
theorem dX4_levelWithout_15 : decode cX4_levelWithout 15 = .ok (.aload_n 0, 1) := by decide +kernel
theorem dX4_levelWithout_16 : decode cX4_levelWithout 16 = .ok (.iconst 0, 1) := by decide +kernel
theorem dX4_levelWithout_17 : decode cX4_levelWithout 17 = .ok (.putfield 71, 3) := by decide +kernel
theorem dX4_levelWithout_20 : decode cX4_levelWithout 20 = .ok (.iload 4, 2) := by decide +kernel
theorem dX4_levelWithout_22 : decode cX4_levelWithout 22 = .ok (.ireturn, 1) := by decide +kernel
theorem dX4_needed_0 : decode cX4_needed 0 = .ok (.iload_n 1, 1) := by decide +kernel
theorem dX4_needed_1 : decode cX4_needed 1 = .ok (.invokestatic 120, 3) := by decide +kernel
theorem dX4_needed_4 : decode cX4_needed 4 = .ok (.ifCond .eq 15, 3) := by decide +kernel
theorem dX4_needed_7 : decode cX4_needed 7 = .ok (.iload_n 2, 1) := by decide +kernel
theorem dX4_needed_8 : decode cX4_needed 8 = .ok (.i2l, 1) := by decide +kernel
theorem dX4_needed_9 : decode cX4_needed 9 = .ok (.lconst 1, 1) := by decide +kernel
theorem dX4_needed_10 : decode cX4_needed 10 = .ok (.ldc2_w 186, 3) := by decide +kernel
theorem dX4_needed_13 : decode cX4_needed 13 = .ok (.invokestatic 61, 3) := by decide +kernel
theorem dX4_needed_16 : decode cX4_needed 16 = .ok (.ifCond .ne 5, 3) := by decide +kernel
theorem dX4_needed_19 : decode cX4_needed 19 = .ok (.iconst (-1), 1) := by decide +kernel
theorem dX4_needed_20 : decode cX4_needed 20 = .ok (.ireturn, 1) := by decide +kernel
theorem dX4_needed_21 : decode cX4_needed 21 = .ok (.aload_n 0, 1) := by decide +kernel
theorem dX4_needed_22 : decode cX4_needed 22 = .ok (.invokevirtual 170, 3) := by decide +kernel
theorem dX4_needed_25 : decode cX4_needed 25 = .ok (.aload_n 0, 1) := by decide +kernel
theorem dX4_needed_26 : decode cX4_needed 26 = .ok (.iconst 0, 1) := by decide +kernel
theorem dX4_needed_27 : decode cX4_needed 27 = .ok (.iload_n 1, 1) := by decide +kernel
theorem dX4_needed_28 : decode cX4_needed 28 = .ok (.iload_n 2, 1) := by decide +kernel
theorem dX4_needed_29 : decode cX4_needed 29 = .ok (.invokevirtual 195, 3) := by decide +kernel
theorem dX4_needed_32 : decode cX4_needed 32 = .ok (.istore_n 3, 1) := by decide +kernel
theorem dX4_needed_33 : decode cX4_needed 33 = .ok (.bipush (-3), 2) := by decide +kernel
theorem dX4_needed_35 : decode cX4_needed 35 = .ok (.istore 4, 2) := by decide +kernel
theorem dX4_needed_37 : decode cX4_needed 37 = .ok (.iconst 0, 1) := by decide +kernel
theorem dX4_needed_38 : decode cX4_needed 38 = .ok (.istore 5, 2) := by decide +kernel
theorem dX4_needed_40 : decode cX4_needed 40 = .ok (.iload 5, 2) := by decide +kernel
theorem dX4_needed_42 : decode cX4_needed 42 = .ok (.aload_n 0, 1) := by decide +kernel
theorem dX4_needed_43 : decode cX4_needed 43 = .ok (.getfield 7, 3) := by decide +kernel
theorem dX4_needed_46 : decode cX4_needed 46 = .ok (.iconst 5, 1) := by decide +kernel
theorem dX4_needed_47 : decode cX4_needed 47 = .ok (.iaload, 1) := by decide +kernel
theorem dX4_needed_48 : decode cX4_needed 48 = .ok (.if_icmp .ge 34, 3) := by decide +kernel
theorem dX4_needed_51 : decode cX4_needed 51 = .ok (.aload_n 0, 1) := by decide +kernel
theorem dX4_needed_52 : decode cX4_needed 52 = .ok (.iconst 1, 1) := by decide +kernel
theorem dX4_needed_53 : decode cX4_needed 53 = .ok (.iload 5, 2) := by decide +kernel
theorem dX4_needed_55 : decode cX4_needed 55 = .ok (.ishl, 1) := by decide +kernel
theorem dX4_needed_56 : decode cX4_needed 56 = .ok (.iload_n 1, 1) := by decide +kernel
theorem dX4_needed_57 : decode cX4_needed 57 = .ok (.iload_n 2, 1) := by decide +kernel
theorem dX4_needed_58 : decode cX4_needed 58 = .ok (.invokevirtual 195, 3) := by decide +kernel
theorem dX4_needed_61 : decode cX4_needed 61 = .ok (.istore 6, 2) := by decide +kernel
theorem dX4_needed_63 : decode cX4_needed 63 = .ok (.iload 6, 2) := by decide +kernel
theorem dX4_needed_65 : decode cX4_needed 65 = .ok (.iload_n 3, 1) := by decide +kernel
theorem dX4_needed_66 : decode cX4_needed 66 = .ok (.if_icmp .ge 10, 3) := by decide +kernel
theorem dX4_needed_69 : decode cX4_needed 69 = .ok (.iload 5, 2) := by decide +kernel
theorem dX4_needed_71 : decode cX4_needed 71 = .ok (.istore 4, 2) := by decide +kernel
theorem dX4_needed_73 : decode cX4_needed 73 = .ok (.iload 6, 2) := by decide +kernel
theorem dX4_needed_75 : decode cX4_needed 75 = .ok (.istore_n 3, 1) := by decide +kernel
theorem dX4_needed_76 : decode cX4_needed 76 = .ok (.iinc 5 1, 3) := by decide +kernel
theorem dX4_needed_79 : decode cX4_needed 79 = .ok (.goto (-39), 3) := by decide +kernel
theorem dX4_needed_82 : decode cX4_needed 82 = .ok (.iload 4, 2) := by decide +kernel
theorem dX4_needed_84 : decode cX4_needed 84 = .ok (.ireturn, 1) := by decide +kernel
theorem dX4_fewest_0 : decode cX4_fewest 0 = .ok (.iload_n 1, 1) := by decide +kernel
theorem dX4_fewest_1 : decode cX4_fewest 1 = .ok (.invokestatic 120, 3) := by decide +kernel
theorem dX4_fewest_4 : decode cX4_fewest 4 = .ok (.ifCond .eq 15, 3) := by decide +kernel
theorem dX4_fewest_7 : decode cX4_fewest 7 = .ok (.iload_n 2, 1) := by decide +kernel
theorem dX4_fewest_8 : decode cX4_fewest 8 = .ok (.i2l, 1) := by decide +kernel
theorem dX4_fewest_9 : decode cX4_fewest 9 = .ok (.lconst 1, 1) := by decide +kernel
theorem dX4_fewest_10 : decode cX4_fewest 10 = .ok (.ldc2_w 186, 3) := by decide +kernel
theorem dX4_fewest_13 : decode cX4_fewest 13 = .ok (.invokestatic 61, 3) := by decide +kernel
theorem dX4_fewest_16 : decode cX4_fewest 16 = .ok (.ifCond .ne 5, 3) := by decide +kernel
theorem dX4_fewest_19 : decode cX4_fewest 19 = .ok (.iconst (-1), 1) := by decide +kernel
theorem dX4_fewest_20 : decode cX4_fewest 20 = .ok (.ireturn, 1) := by decide +kernel
theorem dX4_fewest_21 : decode cX4_fewest 21 = .ok (.aload_n 0, 1) := by decide +kernel
theorem dX4_fewest_22 : decode cX4_fewest 22 = .ok (.invokevirtual 170, 3) := by decide +kernel
theorem dX4_fewest_25 : decode cX4_fewest 25 = .ok (.iconst 1, 1) := by decide +kernel
theorem dX4_fewest_26 : decode cX4_fewest 26 = .ok (.aload_n 0, 1) := by decide +kernel
theorem dX4_fewest_27 : decode cX4_fewest 27 = .ok (.getfield 7, 3) := by decide +kernel
theorem dX4_fewest_30 : decode cX4_fewest 30 = .ok (.iconst 5, 1) := by decide +kernel
theorem dX4_fewest_31 : decode cX4_fewest 31 = .ok (.iaload, 1) := by decide +kernel
theorem dX4_fewest_32 : decode cX4_fewest 32 = .ok (.ishl, 1) := by decide +kernel
theorem dX4_fewest_33 : decode cX4_fewest 33 = .ok (.iconst 1, 1) := by decide +kernel
theorem dX4_fewest_34 : decode cX4_fewest 34 = .ok (.isub, 1) := by decide +kernel
theorem dX4_fewest_35 : decode cX4_fewest 35 = .ok (.istore_n 3, 1) := by decide +kernel
theorem dX4_fewest_36 : decode cX4_fewest 36 = .ok (.bipush (-3), 2) := by decide +kernel
theorem dX4_fewest_38 : decode cX4_fewest 38 = .ok (.istore 4, 2) := by decide +kernel
theorem dX4_fewest_40 : decode cX4_fewest 40 = .ok (.iconst 0, 1) := by decide +kernel
theorem dX4_fewest_41 : decode cX4_fewest 41 = .ok (.istore 5, 2) := by decide +kernel
theorem dX4_fewest_43 : decode cX4_fewest 43 = .ok (.iload 5, 2) := by decide +kernel
theorem dX4_fewest_45 : decode cX4_fewest 45 = .ok (.iload_n 3, 1) := by decide +kernel
theorem dX4_fewest_46 : decode cX4_fewest 46 = .ok (.if_icmp .gt 50, 3) := by decide +kernel
theorem dX4_fewest_49 : decode cX4_fewest 49 = .ok (.iload 4, 2) := by decide +kernel
theorem dX4_fewest_51 : decode cX4_fewest 51 = .ok (.bipush (-3), 2) := by decide +kernel
theorem dX4_fewest_53 : decode cX4_fewest 53 = .ok (.if_icmp .eq 16, 3) := by decide +kernel
theorem dX4_fewest_56 : decode cX4_fewest 56 = .ok (.iload 5, 2) := by decide +kernel
theorem dX4_fewest_58 : decode cX4_fewest 58 = .ok (.invokestatic 165, 3) := by decide +kernel
theorem dX4_fewest_61 : decode cX4_fewest 61 = .ok (.iload 4, 2) := by decide +kernel
theorem dX4_fewest_63 : decode cX4_fewest 63 = .ok (.invokestatic 165, 3) := by decide +kernel
theorem dX4_fewest_66 : decode cX4_fewest 66 = .ok (.if_icmp .ge 24, 3) := by decide +kernel
theorem dX4_fewest_69 : decode cX4_fewest 69 = .ok (.aload_n 0, 1) := by decide +kernel
theorem dX4_fewest_70 : decode cX4_fewest 70 = .ok (.iload_n 3, 1) := by decide +kernel
theorem dX4_fewest_71 : decode cX4_fewest 71 = .ok (.iload 5, 2) := by decide +kernel
theorem dX4_fewest_73 : decode cX4_fewest 73 = .ok (.iconst (-1), 1) := by decide +kernel
theorem dX4_fewest_74 : decode cX4_fewest 74 = .ok (.ixor, 1) := by decide +kernel
theorem dX4_fewest_75 : decode cX4_fewest 75 = .ok (.iand, 1) := by decide +kernel
theorem dX4_fewest_76 : decode cX4_fewest 76 = .ok (.iload_n 1, 1) := by decide +kernel
theorem dX4_fewest_77 : decode cX4_fewest 77 = .ok (.iload_n 2, 1) := by decide +kernel
theorem dX4_fewest_78 : decode cX4_fewest 78 = .ok (.invokevirtual 195, 3) := by decide +kernel
theorem dX4_fewest_81 : decode cX4_fewest 81 = .ok (.bipush 10, 2) := by decide +kernel
theorem dX4_fewest_83 : decode cX4_fewest 83 = .ok (.if_icmp .lt 7, 3) := by decide +kernel
theorem dX4_fewest_86 : decode cX4_fewest 86 = .ok (.iload 5, 2) := by decide +kernel
theorem dX4_fewest_88 : decode cX4_fewest 88 = .ok (.istore 4, 2) := by decide +kernel
theorem dX4_fewest_90 : decode cX4_fewest 90 = .ok (.iinc 5 1, 3) := by decide +kernel
theorem dX4_fewest_93 : decode cX4_fewest 93 = .ok (.goto (-50), 3) := by decide +kernel
theorem dX4_fewest_96 : decode cX4_fewest 96 = .ok (.iload 4, 2) := by decide +kernel
theorem dX4_fewest_98 : decode cX4_fewest 98 = .ok (.ireturn, 1) := by decide +kernel
theorem dX4_ends_0 : decode cX4_ends 0 = .ok (.iload_n 1, 1) := by decide +kernel
theorem dX4_ends_1 : decode cX4_ends 1 = .ok (.invokestatic 120, 3) := by decide +kernel
theorem dX4_ends_4 : decode cX4_ends 4 = .ok (.ifCond .ne 5, 3) := by decide +kernel
theorem dX4_ends_7 : decode cX4_ends 7 = .ok (.iconst (-1), 1) := by decide +kernel
theorem dX4_ends_8 : decode cX4_ends 8 = .ok (.ireturn, 1) := by decide +kernel
theorem dX4_ends_9 : decode cX4_ends 9 = .ok (.iload_n 1, 1) := by decide +kernel
theorem dX4_ends_10 : decode cX4_ends 10 = .ok (.istore_n 2, 1) := by decide +kernel
theorem dX4_ends_11 : decode cX4_ends 11 = .ok (.aload_n 0, 1) := by decide +kernel
theorem dX4_ends_12 : decode cX4_ends 12 = .ok (.iload_n 2, 1) := by decide +kernel
theorem dX4_ends_13 : decode cX4_ends 13 = .ok (.invokevirtual 90, 3) := by decide +kernel
theorem dX4_ends_16 : decode cX4_ends 16 = .ok (.bipush (-3), 2) := by decide +kernel
theorem dX4_ends_18 : decode cX4_ends 18 = .ok (.if_icmp .eq 12, 3) := by decide +kernel
theorem dX4_ends_21 : decode cX4_ends 21 = .ok (.aload_n 0, 1) := by decide +kernel
theorem dX4_ends_22 : decode cX4_ends 22 = .ok (.iload_n 2, 1) := by decide +kernel
theorem dX4_ends_23 : decode cX4_ends 23 = .ok (.invokevirtual 90, 3) := by decide +kernel
theorem dX4_ends_26 : decode cX4_ends 26 = .ok (.istore_n 2, 1) := by decide +kernel
theorem dX4_ends_27 : decode cX4_ends 27 = .ok (.goto (-16), 3) := by decide +kernel
theorem dX4_ends_30 : decode cX4_ends 30 = .ok (.iload_n 2, 1) := by decide +kernel
theorem dX4_ends_31 : decode cX4_ends 31 = .ok (.ireturn, 1) := by decide +kernel
theorem dX4_isTold_0 : decode cX4_isTold 0 = .ok (.aload_n 0, 1) := by decide +kernel
theorem dX4_isTold_1 : decode cX4_isTold 1 = .ok (.iload_n 3, 1) := by decide +kernel
theorem dX4_isTold_2 : decode cX4_isTold 2 = .ok (.iconst 2, 1) := by decide +kernel
theorem dX4_isTold_3 : decode cX4_isTold 3 = .ok (.iload 4, 2) := by decide +kernel
theorem dX4_isTold_5 : decode cX4_isTold 5 = .ok (.invokevirtual 103, 3) := by decide +kernel
theorem dX4_isTold_8 : decode cX4_isTold 8 = .ok (.iconst 1, 1) := by decide +kernel
theorem dX4_isTold_9 : decode cX4_isTold 9 = .ok (.istore 5, 2) := by decide +kernel
theorem dX4_isTold_11 : decode cX4_isTold 11 = .ok (.iconst 0, 1) := by decide +kernel
theorem dX4_isTold_12 : decode cX4_isTold 12 = .ok (.istore 6, 2) := by decide +kernel
theorem dX4_isTold_14 : decode cX4_isTold 14 = .ok (.iload 6, 2) := by decide +kernel
theorem dX4_isTold_16 : decode cX4_isTold 16 = .ok (.aload_n 0, 1) := by decide +kernel
theorem dX4_isTold_17 : decode cX4_isTold 17 = .ok (.getfield 35, 3) := by decide +kernel
theorem dX4_isTold_20 : decode cX4_isTold 20 = .ok (.iload_n 1, 1) := by decide +kernel
theorem dX4_isTold_21 : decode cX4_isTold 21 = .ok (.iaload, 1) := by decide +kernel
theorem dX4_isTold_22 : decode cX4_isTold 22 = .ok (.if_icmp .ge 70, 3) := by decide +kernel
theorem dX4_isTold_25 : decode cX4_isTold 25 = .ok (.iload 5, 2) := by decide +kernel
theorem dX4_isTold_27 : decode cX4_isTold 27 = .ok (.ifCond .eq 65, 3) := by decide +kernel
theorem dX4_isTold_30 : decode cX4_isTold 30 = .ok (.aload_n 0, 1) := by decide +kernel
theorem dX4_isTold_31 : decode cX4_isTold 31 = .ok (.invokevirtual 107, 3) := by decide +kernel
theorem dX4_isTold_34 : decode cX4_isTold 34 = .ok (.aload_n 0, 1) := by decide +kernel
theorem dX4_isTold_35 : decode cX4_isTold 35 = .ok (.getfield 38, 3) := by decide +kernel
theorem dX4_isTold_38 : decode cX4_isTold 38 = .ok (.bipush 40, 2) := by decide +kernel
theorem dX4_isTold_40 : decode cX4_isTold 40 = .ok (.iload_n 1, 1) := by decide +kernel
theorem dX4_isTold_41 : decode cX4_isTold 41 = .ok (.imul, 1) := by decide +kernel
theorem dX4_isTold_42 : decode cX4_isTold 42 = .ok (.iload 6, 2) := by decide +kernel
theorem dX4_isTold_44 : decode cX4_isTold 44 = .ok (.iadd, 1) := by decide +kernel
theorem dX4_isTold_45 : decode cX4_isTold 45 = .ok (.laload, 1) := by decide +kernel
theorem dX4_isTold_46 : decode cX4_isTold 46 = .ok (.ldc2_w 143, 3) := by decide +kernel
theorem dX4_isTold_49 : decode cX4_isTold 49 = .ok (.lcmp, 1) := by decide +kernel
theorem dX4_isTold_50 : decode cX4_isTold 50 = .ok (.ifCond .eq 29, 3) := by decide +kernel
theorem dX4_isTold_53 : decode cX4_isTold 53 = .ok (.aload_n 0, 1) := by decide +kernel
theorem dX4_isTold_54 : decode cX4_isTold 54 = .ok (.getfield 38, 3) := by decide +kernel
theorem dX4_isTold_57 : decode cX4_isTold 57 = .ok (.bipush 40, 2) := by decide +kernel
theorem dX4_isTold_59 : decode cX4_isTold 59 = .ok (.iload_n 1, 1) := by decide +kernel
theorem dX4_isTold_60 : decode cX4_isTold 60 = .ok (.imul, 1) := by decide +kernel
theorem dX4_isTold_61 : decode cX4_isTold 61 = .ok (.iload 6, 2) := by decide +kernel
theorem dX4_isTold_63 : decode cX4_isTold 63 = .ok (.iadd, 1) := by decide +kernel
theorem dX4_isTold_64 : decode cX4_isTold 64 = .ok (.laload, 1) := by decide +kernel
theorem dX4_isTold_65 : decode cX4_isTold 65 = .ok (.aload_n 0, 1) := by decide +kernel
theorem dX4_isTold_66 : decode cX4_isTold 66 = .ok (.getfield 7, 3) := by decide +kernel
theorem dX4_isTold_69 : decode cX4_isTold 69 = .ok (.bipush 39, 2) := by decide +kernel
theorem dX4_isTold_71 : decode cX4_isTold 71 = .ok (.iload_n 2, 1) := by decide +kernel
theorem dX4_isTold_72 : decode cX4_isTold 72 = .ok (.iadd, 1) := by decide +kernel
theorem dX4_isTold_73 : decode cX4_isTold 73 = .ok (.iaload, 1) := by decide +kernel
theorem dX4_isTold_74 : decode cX4_isTold 74 = .ok (.i2l, 1) := by decide +kernel
theorem dX4_isTold_75 : decode cX4_isTold 75 = .ok (.lcmp, 1) := by decide +kernel
theorem dX4_isTold_76 : decode cX4_isTold 76 = .ok (.ifCond .ne 7, 3) := by decide +kernel
theorem dX4_isTold_79 : decode cX4_isTold 79 = .ok (.iconst 1, 1) := by decide +kernel
theorem dX4_isTold_80 : decode cX4_isTold 80 = .ok (.goto 4, 3) := by decide +kernel
theorem dX4_isTold_83 : decode cX4_isTold 83 = .ok (.iconst 0, 1) := by decide +kernel
theorem dX4_isTold_84 : decode cX4_isTold 84 = .ok (.istore 5, 2) := by decide +kernel
theorem dX4_isTold_86 : decode cX4_isTold 86 = .ok (.iinc 6 1, 3) := by decide +kernel
theorem dX4_isTold_89 : decode cX4_isTold 89 = .ok (.goto (-75), 3) := by decide +kernel
theorem dX4_isTold_92 : decode cX4_isTold 92 = .ok (.aload_n 0, 1) := by decide +kernel
theorem dX4_isTold_93 : decode cX4_isTold 93 = .ok (.invokevirtual 173, 3) := by decide +kernel
theorem dX4_isTold_96 : decode cX4_isTold 96 = .ok (.iload 5, 2) := by decide +kernel
theorem dX4_isTold_98 : decode cX4_isTold 98 = .ok (.ireturn, 1) := by decide +kernel
theorem dX4_fits_0 : decode cX4_fits 0 = .ok (.iload_n 1, 1) := by decide +kernel
theorem dX4_fits_1 : decode cX4_fits 1 = .ok (.invokestatic 199, 3) := by decide +kernel
theorem dX4_fits_4 : decode cX4_fits 4 = .ok (.ifCond .eq 29, 3) := by decide +kernel
theorem dX4_fits_7 : decode cX4_fits 7 = .ok (.iload_n 2, 1) := by decide +kernel
theorem dX4_fits_8 : decode cX4_fits 8 = .ok (.invokestatic 120, 3) := by decide +kernel
theorem dX4_fits_11 : decode cX4_fits 11 = .ok (.ifCond .eq 22, 3) := by decide +kernel
theorem dX4_fits_14 : decode cX4_fits 14 = .ok (.aload_n 0, 1) := by decide +kernel
theorem dX4_fits_15 : decode cX4_fits 15 = .ok (.iload_n 3, 1) := by decide +kernel
theorem dX4_fits_16 : decode cX4_fits 16 = .ok (.invokevirtual 127, 3) := by decide +kernel
theorem dX4_fits_19 : decode cX4_fits 19 = .ok (.ifCond .eq 14, 3) := by decide +kernel
theorem dX4_fits_22 : decode cX4_fits 22 = .ok (.iload 4, 2) := by decide +kernel
theorem dX4_fits_24 : decode cX4_fits 24 = .ok (.i2l, 1) := by decide +kernel
theorem dX4_fits_25 : decode cX4_fits 25 = .ok (.lconst 0, 1) := by decide +kernel
theorem dX4_fits_26 : decode cX4_fits 26 = .ok (.lconst 1, 1) := by decide +kernel
theorem dX4_fits_27 : decode cX4_fits 27 = .ok (.invokestatic 61, 3) := by decide +kernel
theorem dX4_fits_30 : decode cX4_fits 30 = .ok (.ifCond .ne 5, 3) := by decide +kernel
theorem dX4_fits_33 : decode cX4_fits 33 = .ok (.iconst (-1), 1) := by decide +kernel
theorem dX4_fits_34 : decode cX4_fits 34 = .ok (.ireturn, 1) := by decide +kernel
theorem dX4_fits_35 : decode cX4_fits 35 = .ok (.aload_n 0, 1) := by decide +kernel
theorem dX4_fits_36 : decode cX4_fits 36 = .ok (.getfield 32, 3) := by decide +kernel
theorem dX4_fits_39 : decode cX4_fits 39 = .ok (.iload_n 1, 1) := by decide +kernel
theorem dX4_fits_40 : decode cX4_fits 40 = .ok (.iaload, 1) := by decide +kernel
theorem dX4_fits_41 : decode cX4_fits 41 = .ok (.ifCond .ne 6, 3) := by decide +kernel
theorem dX4_fits_44 : decode cX4_fits 44 = .ok (.bipush (-11), 2) := by decide +kernel
theorem dX4_fits_46 : decode cX4_fits 46 = .ok (.ireturn, 1) := by decide +kernel
theorem dX4_fits_47 : decode cX4_fits 47 = .ok (.aload_n 0, 1) := by decide +kernel
theorem dX4_fits_48 : decode cX4_fits 48 = .ok (.invokevirtual 170, 3) := by decide +kernel
theorem dX4_fits_51 : decode cX4_fits 51 = .ok (.iconst 0, 1) := by decide +kernel
theorem dX4_fits_52 : decode cX4_fits 52 = .ok (.istore 5, 2) := by decide +kernel
theorem dX4_fits_54 : decode cX4_fits 54 = .ok (.bipush (-3), 2) := by decide +kernel
theorem dX4_fits_56 : decode cX4_fits 56 = .ok (.istore 6, 2) := by decide +kernel
theorem dX4_fits_58 : decode cX4_fits 58 = .ok (.iconst 0, 1) := by decide +kernel
theorem dX4_fits_59 : decode cX4_fits 59 = .ok (.istore 7, 2) := by decide +kernel
theorem dX4_fits_61 : decode cX4_fits 61 = .ok (.iload 7, 2) := by decide +kernel
theorem dX4_fits_63 : decode cX4_fits 63 = .ok (.bipush 99, 2) := by decide +kernel
theorem dX4_fits_65 : decode cX4_fits 65 = .ok (.if_icmp .gt 38, 3) := by decide +kernel
theorem dX4_fits_68 : decode cX4_fits 68 = .ok (.aload_n 0, 1) := by decide +kernel
theorem dX4_fits_69 : decode cX4_fits 69 = .ok (.iload_n 1, 1) := by decide +kernel
theorem dX4_fits_70 : decode cX4_fits 70 = .ok (.iload_n 2, 1) := by decide +kernel
theorem dX4_fits_71 : decode cX4_fits 71 = .ok (.iload_n 3, 1) := by decide +kernel
theorem dX4_fits_72 : decode cX4_fits 72 = .ok (.iload 7, 2) := by decide +kernel
theorem dX4_fits_74 : decode cX4_fits 74 = .ok (.invokevirtual 202, 3) := by decide +kernel
theorem dX4_fits_77 : decode cX4_fits 77 = .ok (.ifCond .eq 20, 3) := by decide +kernel
theorem dX4_fits_80 : decode cX4_fits 80 = .ok (.iload 5, 2) := by decide +kernel
theorem dX4_fits_82 : decode cX4_fits 82 = .ok (.ifCond .ne 8, 3) := by decide +kernel
theorem dX4_fits_85 : decode cX4_fits 85 = .ok (.iload 7, 2) := by decide +kernel
theorem dX4_fits_87 : decode cX4_fits 87 = .ok (.goto 5, 3) := by decide +kernel
theorem dX4_fits_90 : decode cX4_fits 90 = .ok (.iload 6, 2) := by decide +kernel
theorem dX4_fits_92 : decode cX4_fits 92 = .ok (.istore 6, 2) := by decide +kernel
theorem dX4_fits_94 : decode cX4_fits 94 = .ok (.iinc 5 1, 3) := by decide +kernel
theorem dX4_fits_97 : decode cX4_fits 97 = .ok (.iinc 7 1, 3) := by decide +kernel
theorem dX4_fits_100 : decode cX4_fits 100 = .ok (.goto (-39), 3) := by decide +kernel
theorem dX4_fits_103 : decode cX4_fits 103 = .ok (.iload 4, 2) := by decide +kernel
theorem dX4_fits_105 : decode cX4_fits 105 = .ok (.ifCond .ne 8, 3) := by decide +kernel
theorem dX4_fits_108 : decode cX4_fits 108 = .ok (.iload 5, 2) := by decide +kernel
theorem dX4_fits_110 : decode cX4_fits 110 = .ok (.goto 5, 3) := by decide +kernel
theorem dX4_fits_113 : decode cX4_fits 113 = .ok (.iload 6, 2) := by decide +kernel
theorem dX4_fits_115 : decode cX4_fits 115 = .ok (.ireturn, 1) := by decide +kernel
theorem dX4_common_0 : decode cX4_common 0 = .ok (.lload_n 0, 1) := by decide +kernel
theorem dX4_common_1 : decode cX4_common 1 = .ok (.lstore 4, 2) := by decide +kernel
theorem dX4_common_3 : decode cX4_common 3 = .ok (.lload_n 2, 1) := by decide +kernel
theorem dX4_common_4 : decode cX4_common 4 = .ok (.lstore 6, 2) := by decide +kernel
theorem dX4_common_6 : decode cX4_common 6 = .ok (.lload 6, 2) := by decide +kernel
theorem dX4_common_8 : decode cX4_common 8 = .ok (.lconst 0, 1) := by decide +kernel
theorem dX4_common_9 : decode cX4_common 9 = .ok (.lcmp, 1) := by decide +kernel
theorem dX4_common_10 : decode cX4_common 10 = .ok (.ifCond .eq 21, 3) := by decide +kernel
theorem dX4_common_13 : decode cX4_common 13 = .ok (.lload 4, 2) := by decide +kernel
theorem dX4_common_15 : decode cX4_common 15 = .ok (.lload 6, 2) := by decide +kernel
theorem dX4_common_17 : decode cX4_common 17 = .ok (.lrem, 1) := by decide +kernel
theorem dX4_common_18 : decode cX4_common 18 = .ok (.lstore 8, 2) := by decide +kernel
theorem dX4_common_20 : decode cX4_common 20 = .ok (.lload 6, 2) := by decide +kernel
theorem dX4_common_22 : decode cX4_common 22 = .ok (.lstore 4, 2) := by decide +kernel
theorem dX4_common_24 : decode cX4_common 24 = .ok (.lload 8, 2) := by decide +kernel
theorem dX4_common_26 : decode cX4_common 26 = .ok (.lstore 6, 2) := by decide +kernel
theorem dX4_common_28 : decode cX4_common 28 = .ok (.goto (-22), 3) := by decide +kernel
theorem dX4_common_31 : decode cX4_common 31 = .ok (.lload 4, 2) := by decide +kernel
theorem dX4_common_33 : decode cX4_common 33 = .ok (.lreturn, 1) := by decide +kernel
theorem dX4_partOf_0 : decode cX4_partOf 0 = .ok (.iload 4, 2) := by decide +kernel
theorem dX4_partOf_2 : decode cX4_partOf 2 = .ok (.ifCond .ne 7, 3) := by decide +kernel
theorem dX4_partOf_5 : decode cX4_partOf 5 = .ok (.lload_n 0, 1) := by decide +kernel
theorem dX4_partOf_6 : decode cX4_partOf 6 = .ok (.goto 4, 3) := by decide +kernel
theorem dX4_partOf_9 : decode cX4_partOf 9 = .ok (.lload_n 2, 1) := by decide +kernel
theorem dX4_partOf_10 : decode cX4_partOf 10 = .ok (.lload_n 0, 1) := by decide +kernel
theorem dX4_partOf_11 : decode cX4_partOf 11 = .ok (.lload_n 2, 1) := by decide +kernel
theorem dX4_partOf_12 : decode cX4_partOf 12 = .ok (.invokestatic 206, 3) := by decide +kernel
theorem dX4_partOf_15 : decode cX4_partOf 15 = .ok (.ldiv, 1) := by decide +kernel
theorem dX4_partOf_16 : decode cX4_partOf 16 = .ok (.lreturn, 1) := by decide +kernel
theorem dX4_odds_0 : decode cX4_odds 0 = .ok (.iload_n 1, 1) := by decide +kernel
theorem dX4_odds_1 : decode cX4_odds 1 = .ok (.i2l, 1) := by decide +kernel
theorem dX4_odds_2 : decode cX4_odds 2 = .ok (.lconst 0, 1) := by decide +kernel
theorem dX4_odds_3 : decode cX4_odds 3 = .ok (.ldc2_w 210, 3) := by decide +kernel
theorem dX4_odds_6 : decode cX4_odds 6 = .ok (.invokestatic 61, 3) := by decide +kernel
theorem dX4_odds_9 : decode cX4_odds 9 = .ok (.ifCond .eq 24, 3) := by decide +kernel
theorem dX4_odds_12 : decode cX4_odds 12 = .ok (.iload_n 2, 1) := by decide +kernel
theorem dX4_odds_13 : decode cX4_odds 13 = .ok (.i2l, 1) := by decide +kernel
theorem dX4_odds_14 : decode cX4_odds 14 = .ok (.lconst 0, 1) := by decide +kernel
theorem dX4_odds_15 : decode cX4_odds 15 = .ok (.iload_n 1, 1) := by decide +kernel
theorem dX4_odds_16 : decode cX4_odds 16 = .ok (.i2l, 1) := by decide +kernel
theorem dX4_odds_17 : decode cX4_odds 17 = .ok (.invokestatic 61, 3) := by decide +kernel
theorem dX4_odds_20 : decode cX4_odds 20 = .ok (.ifCond .eq 13, 3) := by decide +kernel
theorem dX4_odds_23 : decode cX4_odds 23 = .ok (.iload_n 3, 1) := by decide +kernel
theorem dX4_odds_24 : decode cX4_odds 24 = .ok (.i2l, 1) := by decide +kernel
theorem dX4_odds_25 : decode cX4_odds 25 = .ok (.lconst 0, 1) := by decide +kernel
theorem dX4_odds_26 : decode cX4_odds 26 = .ok (.lconst 1, 1) := by decide +kernel
theorem dX4_odds_27 : decode cX4_odds 27 = .ok (.invokestatic 61, 3) := by decide +kernel
theorem dX4_odds_30 : decode cX4_odds 30 = .ok (.ifCond .ne 7, 3) := by decide +kernel
theorem dX4_odds_33 : decode cX4_odds 33 = .ok (.ldc2_w 143, 3) := by decide +kernel
theorem dX4_odds_36 : decode cX4_odds 36 = .ok (.lreturn, 1) := by decide +kernel
theorem dX4_odds_37 : decode cX4_odds 37 = .ok (.lconst 1, 1) := by decide +kernel
theorem dX4_odds_38 : decode cX4_odds 38 = .ok (.lstore 4, 2) := by decide +kernel
theorem dX4_odds_40 : decode cX4_odds 40 = .ok (.lconst 1, 1) := by decide +kernel
theorem dX4_odds_41 : decode cX4_odds 41 = .ok (.lstore 6, 2) := by decide +kernel
theorem dX4_odds_43 : decode cX4_odds 43 = .ok (.iconst 0, 1) := by decide +kernel
theorem dX4_odds_44 : decode cX4_odds 44 = .ok (.istore 8, 2) := by decide +kernel
theorem dX4_odds_46 : decode cX4_odds 46 = .ok (.iload 8, 2) := by decide +kernel
theorem dX4_odds_48 : decode cX4_odds 48 = .ok (.iload_n 1, 1) := by decide +kernel
theorem dX4_odds_49 : decode cX4_odds 49 = .ok (.if_icmp .ge 48, 3) := by decide +kernel
theorem dX4_odds_52 : decode cX4_odds 52 = .ok (.lload 4, 2) := by decide +kernel
theorem dX4_odds_54 : decode cX4_odds 54 = .ok (.iload 8, 2) := by decide +kernel
theorem dX4_odds_56 : decode cX4_odds 56 = .ok (.iload_n 2, 1) := by decide +kernel
theorem dX4_odds_57 : decode cX4_odds 57 = .ok (.if_icmp .ge 13, 3) := by decide +kernel
theorem dX4_odds_60 : decode cX4_odds 60 = .ok (.aload_n 0, 1) := by decide +kernel
theorem dX4_odds_61 : decode cX4_odds 61 = .ok (.getfield 7, 3) := by decide +kernel
theorem dX4_odds_64 : decode cX4_odds 64 = .ok (.iconst 3, 1) := by decide +kernel
theorem dX4_odds_65 : decode cX4_odds 65 = .ok (.iaload, 1) := by decide +kernel
theorem dX4_odds_66 : decode cX4_odds 66 = .ok (.i2l, 1) := by decide +kernel
theorem dX4_odds_67 : decode cX4_odds 67 = .ok (.goto 13, 3) := by decide +kernel
theorem dX4_odds_70 : decode cX4_odds 70 = .ok (.bipush 100, 2) := by decide +kernel
theorem dX4_odds_72 : decode cX4_odds 72 = .ok (.aload_n 0, 1) := by decide +kernel
theorem dX4_odds_73 : decode cX4_odds 73 = .ok (.getfield 7, 3) := by decide +kernel
theorem dX4_odds_76 : decode cX4_odds 76 = .ok (.iconst 3, 1) := by decide +kernel
theorem dX4_odds_77 : decode cX4_odds 77 = .ok (.iaload, 1) := by decide +kernel
theorem dX4_odds_78 : decode cX4_odds 78 = .ok (.isub, 1) := by decide +kernel
theorem dX4_odds_79 : decode cX4_odds 79 = .ok (.i2l, 1) := by decide +kernel
theorem dX4_odds_80 : decode cX4_odds 80 = .ok (.lmul, 1) := by decide +kernel
theorem dX4_odds_81 : decode cX4_odds 81 = .ok (.lstore 4, 2) := by decide +kernel
theorem dX4_odds_83 : decode cX4_odds 83 = .ok (.lload 6, 2) := by decide +kernel
theorem dX4_odds_85 : decode cX4_odds 85 = .ok (.ldc2_w 212, 3) := by decide +kernel
theorem dX4_odds_88 : decode cX4_odds 88 = .ok (.lmul, 1) := by decide +kernel
theorem dX4_odds_89 : decode cX4_odds 89 = .ok (.lstore 6, 2) := by decide +kernel
theorem dX4_odds_91 : decode cX4_odds 91 = .ok (.iinc 8 1, 3) := by decide +kernel
theorem dX4_odds_94 : decode cX4_odds 94 = .ok (.goto (-48), 3) := by decide +kernel
theorem dX4_odds_97 : decode cX4_odds 97 = .ok (.lconst 1, 1) := by decide +kernel
theorem dX4_odds_98 : decode cX4_odds 98 = .ok (.lstore 8, 2) := by decide +kernel
theorem dX4_odds_100 : decode cX4_odds 100 = .ok (.iconst 1, 1) := by decide +kernel
theorem dX4_odds_101 : decode cX4_odds 101 = .ok (.istore 10, 2) := by decide +kernel
theorem dX4_odds_103 : decode cX4_odds 103 = .ok (.iload 10, 2) := by decide +kernel
theorem dX4_odds_105 : decode cX4_odds 105 = .ok (.iload_n 2, 1) := by decide +kernel
theorem dX4_odds_106 : decode cX4_odds 106 = .ok (.if_icmp .gt 25, 3) := by decide +kernel
theorem dX4_odds_109 : decode cX4_odds 109 = .ok (.lload 8, 2) := by decide +kernel
theorem dX4_odds_111 : decode cX4_odds 111 = .ok (.iload_n 1, 1) := by decide +kernel
theorem dX4_odds_112 : decode cX4_odds 112 = .ok (.iload_n 2, 1) := by decide +kernel
theorem dX4_odds_113 : decode cX4_odds 113 = .ok (.isub, 1) := by decide +kernel
theorem dX4_odds_114 : decode cX4_odds 114 = .ok (.iload 10, 2) := by decide +kernel
theorem dX4_odds_116 : decode cX4_odds 116 = .ok (.iadd, 1) := by decide +kernel
theorem dX4_odds_117 : decode cX4_odds 117 = .ok (.i2l, 1) := by decide +kernel
theorem dX4_odds_118 : decode cX4_odds 118 = .ok (.lmul, 1) := by decide +kernel
theorem dX4_odds_119 : decode cX4_odds 119 = .ok (.iload 10, 2) := by decide +kernel
theorem dX4_odds_121 : decode cX4_odds 121 = .ok (.i2l, 1) := by decide +kernel
theorem dX4_odds_122 : decode cX4_odds 122 = .ok (.ldiv, 1) := by decide +kernel
theorem dX4_odds_123 : decode cX4_odds 123 = .ok (.lstore 8, 2) := by decide +kernel
theorem dX4_odds_125 : decode cX4_odds 125 = .ok (.iinc 10 1, 3) := by decide +kernel
theorem dX4_odds_128 : decode cX4_odds 128 = .ok (.goto (-25), 3) := by decide +kernel
theorem dX4_odds_131 : decode cX4_odds 131 = .ok (.lload 8, 2) := by decide +kernel
theorem dX4_odds_133 : decode cX4_odds 133 = .ok (.lload 4, 2) := by decide +kernel
theorem dX4_odds_135 : decode cX4_odds 135 = .ok (.lmul, 1) := by decide +kernel
theorem dX4_odds_136 : decode cX4_odds 136 = .ok (.lload 6, 2) := by decide +kernel
theorem dX4_odds_138 : decode cX4_odds 138 = .ok (.iload_n 3, 1) := by decide +kernel
theorem dX4_odds_139 : decode cX4_odds 139 = .ok (.invokestatic 214, 3) := by decide +kernel
theorem dX4_odds_142 : decode cX4_odds 142 = .ok (.lreturn, 1) := by decide +kernel
theorem dX4_hope_0 : decode cX4_hope 0 = .ok (.iload_n 1, 1) := by decide +kernel
theorem dX4_hope_1 : decode cX4_hope 1 = .ok (.i2l, 1) := by decide +kernel
theorem dX4_hope_2 : decode cX4_hope 2 = .ok (.lconst 0, 1) := by decide +kernel
theorem dX4_hope_3 : decode cX4_hope 3 = .ok (.ldc2_w 116, 3) := by decide +kernel
theorem dX4_hope_6 : decode cX4_hope 6 = .ok (.invokestatic 61, 3) := by decide +kernel
theorem dX4_hope_9 : decode cX4_hope 9 = .ok (.ifCond .eq 33, 3) := by decide +kernel
theorem dX4_hope_12 : decode cX4_hope 12 = .ok (.iload_n 2, 1) := by decide +kernel
theorem dX4_hope_13 : decode cX4_hope 13 = .ok (.i2l, 1) := by decide +kernel
theorem dX4_hope_14 : decode cX4_hope 14 = .ok (.lconst 0, 1) := by decide +kernel
theorem dX4_hope_15 : decode cX4_hope 15 = .ok (.lconst 1, 1) := by decide +kernel
theorem dX4_hope_16 : decode cX4_hope 16 = .ok (.invokestatic 61, 3) := by decide +kernel
theorem dX4_hope_19 : decode cX4_hope 19 = .ok (.ifCond .eq 23, 3) := by decide +kernel
theorem dX4_hope_22 : decode cX4_hope 22 = .ok (.iload_n 1, 1) := by decide +kernel
theorem dX4_hope_23 : decode cX4_hope 23 = .ok (.i2l, 1) := by decide +kernel
theorem dX4_hope_24 : decode cX4_hope 24 = .ok (.aload_n 0, 1) := by decide +kernel
theorem dX4_hope_25 : decode cX4_hope 25 = .ok (.getfield 7, 3) := by decide +kernel
theorem dX4_hope_28 : decode cX4_hope 28 = .ok (.iconst 3, 1) := by decide +kernel
theorem dX4_hope_29 : decode cX4_hope 29 = .ok (.iaload, 1) := by decide +kernel
theorem dX4_hope_30 : decode cX4_hope 30 = .ok (.i2l, 1) := by decide +kernel
theorem dX4_hope_31 : decode cX4_hope 31 = .ok (.lmul, 1) := by decide +kernel
theorem dX4_hope_32 : decode cX4_hope 32 = .ok (.ldc2_w 212, 3) := by decide +kernel
theorem dX4_hope_35 : decode cX4_hope 35 = .ok (.iload_n 2, 1) := by decide +kernel
theorem dX4_hope_36 : decode cX4_hope 36 = .ok (.invokestatic 214, 3) := by decide +kernel
theorem dX4_hope_39 : decode cX4_hope 39 = .ok (.goto 6, 3) := by decide +kernel
theorem dX4_hope_42 : decode cX4_hope 42 = .ok (.ldc2_w 143, 3) := by decide +kernel
theorem dX4_hope_45 : decode cX4_hope 45 = .ok (.lreturn, 1) := by decide +kernel
theorem dX4_feed_0 : decode cX4_feed 0 = .ok (.iload_n 3, 1) := by decide +kernel
theorem dX4_feed_1 : decode cX4_feed 1 = .ok (.i2l, 1) := by decide +kernel
theorem dX4_feed_2 : decode cX4_feed 2 = .ok (.lconst 1, 1) := by decide +kernel
theorem dX4_feed_3 : decode cX4_feed 3 = .ok (.ldc2_w 210, 3) := by decide +kernel
theorem dX4_feed_6 : decode cX4_feed 6 = .ok (.invokestatic 61, 3) := by decide +kernel
theorem dX4_feed_9 : decode cX4_feed 9 = .ok (.ifCond .ne 5, 3) := by decide +kernel
theorem dX4_feed_12 : decode cX4_feed 12 = .ok (.iconst (-1), 1) := by decide +kernel
theorem dX4_feed_13 : decode cX4_feed 13 = .ok (.ireturn, 1) := by decide +kernel
theorem dX4_feed_14 : decode cX4_feed 14 = .ok (.aload_n 0, 1) := by decide +kernel
theorem dX4_feed_15 : decode cX4_feed 15 = .ok (.getfield 218, 3) := by decide +kernel
theorem dX4_feed_18 : decode cX4_feed 18 = .ok (.iload_n 3, 1) := by decide +kernel
theorem dX4_feed_19 : decode cX4_feed 19 = .ok (.iadd, 1) := by decide +kernel
theorem dX4_feed_20 : decode cX4_feed 20 = .ok (.sipush 200, 3) := by decide +kernel
theorem dX4_feed_23 : decode cX4_feed 23 = .ok (.if_icmp .le 6, 3) := by decide +kernel
theorem dX4_feed_26 : decode cX4_feed 26 = .ok (.bipush (-2), 2) := by decide +kernel
theorem dX4_feed_28 : decode cX4_feed 28 = .ok (.ireturn, 1) := by decide +kernel
theorem dX4_feed_29 : decode cX4_feed 29 = .ok (.iconst 0, 1) := by decide +kernel
theorem dX4_feed_30 : decode cX4_feed 30 = .ok (.istore 4, 2) := by decide +kernel
theorem dX4_feed_32 : decode cX4_feed 32 = .ok (.iload 4, 2) := by decide +kernel
theorem dX4_feed_34 : decode cX4_feed 34 = .ok (.iload_n 3, 1) := by decide +kernel
theorem dX4_feed_35 : decode cX4_feed 35 = .ok (.if_icmp .ge 40, 3) := by decide +kernel
theorem dX4_feed_38 : decode cX4_feed 38 = .ok (.aload_n 0, 1) := by decide +kernel
theorem dX4_feed_39 : decode cX4_feed 39 = .ok (.getfield 22, 3) := by decide +kernel
theorem dX4_feed_42 : decode cX4_feed 42 = .ok (.aload_n 0, 1) := by decide +kernel
theorem dX4_feed_43 : decode cX4_feed 43 = .ok (.getfield 218, 3) := by decide +kernel
theorem dX4_feed_46 : decode cX4_feed 46 = .ok (.lload_n 1, 1) := by decide +kernel
theorem dX4_feed_47 : decode cX4_feed 47 = .ok (.bipush 8, 2) := by decide +kernel
theorem dX4_feed_49 : decode cX4_feed 49 = .ok (.iload 4, 2) := by decide +kernel
theorem dX4_feed_51 : decode cX4_feed 51 = .ok (.imul, 1) := by decide +kernel
theorem dX4_feed_52 : decode cX4_feed 52 = .ok (.lshr, 1) := by decide +kernel
theorem dX4_feed_53 : decode cX4_feed 53 = .ok (.ldc2_w 221, 3) := by decide +kernel
theorem dX4_feed_56 : decode cX4_feed 56 = .ok (.land, 1) := by decide +kernel
theorem dX4_feed_57 : decode cX4_feed 57 = .ok (.l2i, 1) := by decide +kernel
theorem dX4_feed_58 : decode cX4_feed 58 = .ok (.iastore, 1) := by decide +kernel
theorem dX4_feed_59 : decode cX4_feed 59 = .ok (.aload_n 0, 1) := by decide +kernel
theorem dX4_feed_60 : decode cX4_feed 60 = .ok (.dup, 1) := by decide +kernel
theorem dX4_feed_61 : decode cX4_feed 61 = .ok (.getfield 218, 3) := by decide +kernel
theorem dX4_feed_64 : decode cX4_feed 64 = .ok (.iconst 1, 1) := by decide +kernel
theorem dX4_feed_65 : decode cX4_feed 65 = .ok (.iadd, 1) := by decide +kernel
theorem dX4_feed_66 : decode cX4_feed 66 = .ok (.putfield 218, 3) := by decide +kernel
theorem dX4_feed_69 : decode cX4_feed 69 = .ok (.iinc 4 1, 3) := by decide +kernel
theorem dX4_feed_72 : decode cX4_feed 72 = .ok (.goto (-40), 3) := by decide +kernel
theorem dX4_feed_75 : decode cX4_feed 75 = .ok (.aload_n 0, 1) := by decide +kernel
theorem dX4_feed_76 : decode cX4_feed 76 = .ok (.getfield 218, 3) := by decide +kernel
theorem dX4_feed_79 : decode cX4_feed 79 = .ok (.ireturn, 1) := by decide +kernel
theorem dX4_isRow_0 : decode cX4_isRow 0 = .ok (.aload_n 0, 1) := by decide +kernel
theorem dX4_isRow_1 : decode cX4_isRow 1 = .ok (.getfield 223, 3) := by decide +kernel
theorem dX4_isRow_4 : decode cX4_isRow 4 = .ok (.aload_n 0, 1) := by decide +kernel
theorem dX4_isRow_5 : decode cX4_isRow 5 = .ok (.getfield 218, 3) := by decide +kernel
theorem dX4_isRow_8 : decode cX4_isRow 8 = .ok (.if_icmp .ge 27, 3) := by decide +kernel
theorem dX4_isRow_11 : decode cX4_isRow 11 = .ok (.aload_n 0, 1) := by decide +kernel
theorem dX4_isRow_12 : decode cX4_isRow 12 = .ok (.getfield 22, 3) := by decide +kernel
theorem dX4_isRow_15 : decode cX4_isRow 15 = .ok (.aload_n 0, 1) := by decide +kernel
theorem dX4_isRow_16 : decode cX4_isRow 16 = .ok (.getfield 223, 3) := by decide +kernel
theorem dX4_isRow_19 : decode cX4_isRow 19 = .ok (.iaload, 1) := by decide +kernel
theorem dX4_isRow_20 : decode cX4_isRow 20 = .ok (.i2l, 1) := by decide +kernel
theorem dX4_isRow_21 : decode cX4_isRow 21 = .ok (.iload_n 1, 1) := by decide +kernel
theorem dX4_isRow_22 : decode cX4_isRow 22 = .ok (.i2l, 1) := by decide +kernel
theorem dX4_isRow_23 : decode cX4_isRow 23 = .ok (.iload_n 2, 1) := by decide +kernel
theorem dX4_isRow_24 : decode cX4_isRow 24 = .ok (.i2l, 1) := by decide +kernel
theorem dX4_isRow_25 : decode cX4_isRow 25 = .ok (.invokestatic 61, 3) := by decide +kernel
theorem dX4_isRow_28 : decode cX4_isRow 28 = .ok (.ifCond .eq 7, 3) := by decide +kernel
theorem dX4_isRow_31 : decode cX4_isRow 31 = .ok (.iconst 1, 1) := by decide +kernel
theorem dX4_isRow_32 : decode cX4_isRow 32 = .ok (.goto 4, 3) := by decide +kernel
theorem dX4_isRow_35 : decode cX4_isRow 35 = .ok (.iconst 0, 1) := by decide +kernel
theorem dX4_isRow_36 : decode cX4_isRow 36 = .ok (.ireturn, 1) := by decide +kernel
theorem dX4_wordThere_0 : decode cX4_wordThere 0 = .ok (.iconst 0, 1) := by decide +kernel
theorem dX4_wordThere_1 : decode cX4_wordThere 1 = .ok (.istore_n 1, 1) := by decide +kernel
theorem dX4_wordThere_2 : decode cX4_wordThere 2 = .ok (.iload_n 1, 1) := by decide +kernel
theorem dX4_wordThere_3 : decode cX4_wordThere 3 = .ok (.bipush 16, 2) := by decide +kernel
theorem dX4_wordThere_5 : decode cX4_wordThere 5 = .ok (.if_icmp .ge 102, 3) := by decide +kernel
theorem dX4_wordThere_8 : decode cX4_wordThere 8 = .ok (.aload_n 0, 1) := by decide +kernel
theorem dX4_wordThere_9 : decode cX4_wordThere 9 = .ok (.getfield 223, 3) := by decide +kernel
theorem dX4_wordThere_12 : decode cX4_wordThere 12 = .ok (.aload_n 0, 1) := by decide +kernel
theorem dX4_wordThere_13 : decode cX4_wordThere 13 = .ok (.getfield 226, 3) := by decide +kernel
theorem dX4_wordThere_16 : decode cX4_wordThere 16 = .ok (.isub, 1) := by decide +kernel
theorem dX4_wordThere_17 : decode cX4_wordThere 17 = .ok (.bipush 8, 2) := by decide +kernel
theorem dX4_wordThere_19 : decode cX4_wordThere 19 = .ok (.if_icmp .gt 7, 3) := by decide +kernel
theorem dX4_wordThere_22 : decode cX4_wordThere 22 = .ok (.iconst 1, 1) := by decide +kernel
theorem dX4_wordThere_23 : decode cX4_wordThere 23 = .ok (.goto 4, 3) := by decide +kernel
theorem dX4_wordThere_26 : decode cX4_wordThere 26 = .ok (.iconst 0, 1) := by decide +kernel
theorem dX4_wordThere_27 : decode cX4_wordThere 27 = .ok (.istore_n 2, 1) := by decide +kernel
theorem dX4_wordThere_28 : decode cX4_wordThere 28 = .ok (.iconst 0, 1) := by decide +kernel
theorem dX4_wordThere_29 : decode cX4_wordThere 29 = .ok (.istore_n 3, 1) := by decide +kernel
theorem dX4_wordThere_30 : decode cX4_wordThere 30 = .ok (.iload_n 3, 1) := by decide +kernel
theorem dX4_wordThere_31 : decode cX4_wordThere 31 = .ok (.bipush 8, 2) := by decide +kernel
theorem dX4_wordThere_33 : decode cX4_wordThere 33 = .ok (.if_icmp .ge 62, 3) := by decide +kernel
theorem dX4_wordThere_36 : decode cX4_wordThere 36 = .ok (.iload_n 2, 1) := by decide +kernel
theorem dX4_wordThere_37 : decode cX4_wordThere 37 = .ok (.ifCond .eq 58, 3) := by decide +kernel
theorem dX4_wordThere_40 : decode cX4_wordThere 40 = .ok (.aload_n 0, 1) := by decide +kernel
theorem dX4_wordThere_41 : decode cX4_wordThere 41 = .ok (.getfield 25, 3) := by decide +kernel
theorem dX4_wordThere_44 : decode cX4_wordThere 44 = .ok (.bipush 8, 2) := by decide +kernel
theorem dX4_wordThere_46 : decode cX4_wordThere 46 = .ok (.iload_n 1, 1) := by decide +kernel
theorem dX4_wordThere_47 : decode cX4_wordThere 47 = .ok (.imul, 1) := by decide +kernel
theorem dX4_wordThere_48 : decode cX4_wordThere 48 = .ok (.iload_n 3, 1) := by decide +kernel
theorem dX4_wordThere_49 : decode cX4_wordThere 49 = .ok (.iadd, 1) := by decide +kernel
theorem dX4_wordThere_50 : decode cX4_wordThere 50 = .ok (.caload, 1) := by decide +kernel
theorem dX4_wordThere_51 : decode cX4_wordThere 51 = .ok (.aload_n 0, 1) := by decide +kernel
theorem dX4_wordThere_52 : decode cX4_wordThere 52 = .ok (.getfield 226, 3) := by decide +kernel
theorem dX4_wordThere_55 : decode cX4_wordThere 55 = .ok (.iload_n 3, 1) := by decide +kernel
theorem dX4_wordThere_56 : decode cX4_wordThere 56 = .ok (.iadd, 1) := by decide +kernel
theorem dX4_wordThere_57 : decode cX4_wordThere 57 = .ok (.aload_n 0, 1) := by decide +kernel
theorem dX4_wordThere_58 : decode cX4_wordThere 58 = .ok (.getfield 223, 3) := by decide +kernel
theorem dX4_wordThere_61 : decode cX4_wordThere 61 = .ok (.if_icmp .ge 17, 3) := by decide +kernel
theorem dX4_wordThere_64 : decode cX4_wordThere 64 = .ok (.aload_n 0, 1) := by decide +kernel
theorem dX4_wordThere_65 : decode cX4_wordThere 65 = .ok (.getfield 22, 3) := by decide +kernel
theorem dX4_wordThere_68 : decode cX4_wordThere 68 = .ok (.aload_n 0, 1) := by decide +kernel
theorem dX4_wordThere_69 : decode cX4_wordThere 69 = .ok (.getfield 226, 3) := by decide +kernel
theorem dX4_wordThere_72 : decode cX4_wordThere 72 = .ok (.iload_n 3, 1) := by decide +kernel
theorem dX4_wordThere_73 : decode cX4_wordThere 73 = .ok (.iadd, 1) := by decide +kernel
theorem dX4_wordThere_74 : decode cX4_wordThere 74 = .ok (.iaload, 1) := by decide +kernel
theorem dX4_wordThere_75 : decode cX4_wordThere 75 = .ok (.goto 5, 3) := by decide +kernel
theorem dX4_wordThere_78 : decode cX4_wordThere 78 = .ok (.bipush 32, 2) := by decide +kernel
theorem dX4_wordThere_80 : decode cX4_wordThere 80 = .ok (.if_icmp .ne 7, 3) := by decide +kernel
theorem dX4_wordThere_83 : decode cX4_wordThere 83 = .ok (.iconst 1, 1) := by decide +kernel
theorem dX4_wordThere_84 : decode cX4_wordThere 84 = .ok (.goto 4, 3) := by decide +kernel
theorem dX4_wordThere_87 : decode cX4_wordThere 87 = .ok (.iconst 0, 1) := by decide +kernel
theorem dX4_wordThere_88 : decode cX4_wordThere 88 = .ok (.istore_n 2, 1) := by decide +kernel
theorem dX4_wordThere_89 : decode cX4_wordThere 89 = .ok (.iinc 3 1, 3) := by decide +kernel
theorem dX4_wordThere_92 : decode cX4_wordThere 92 = .ok (.goto (-62), 3) := by decide +kernel
theorem dX4_wordThere_95 : decode cX4_wordThere 95 = .ok (.iload_n 2, 1) := by decide +kernel
theorem dX4_wordThere_96 : decode cX4_wordThere 96 = .ok (.ifCond .eq 5, 3) := by decide +kernel
theorem dX4_wordThere_99 : decode cX4_wordThere 99 = .ok (.iload_n 1, 1) := by decide +kernel
theorem dX4_wordThere_100 : decode cX4_wordThere 100 = .ok (.ireturn, 1) := by decide +kernel
theorem dX4_wordThere_101 : decode cX4_wordThere 101 = .ok (.iinc 1 1, 3) := by decide +kernel
theorem dX4_wordThere_104 : decode cX4_wordThere 104 = .ok (.goto (-102), 3) := by decide +kernel
theorem dX4_wordThere_107 : decode cX4_wordThere 107 = .ok (.iconst (-1), 1) := by decide +kernel
theorem dX4_wordThere_108 : decode cX4_wordThere 108 = .ok (.ireturn, 1) := by decide +kernel
theorem dX4_next_0 : decode cX4_next 0 = .ok (.aload_n 0, 1) := by decide +kernel
theorem dX4_next_1 : decode cX4_next 1 = .ok (.getfield 223, 3) := by decide +kernel
theorem dX4_next_4 : decode cX4_next 4 = .ok (.aload_n 0, 1) := by decide +kernel
theorem dX4_next_5 : decode cX4_next 5 = .ok (.getfield 218, 3) := by decide +kernel
theorem dX4_next_8 : decode cX4_next 8 = .ok (.if_icmp .ge 30, 3) := by decide +kernel
theorem dX4_next_11 : decode cX4_next 11 = .ok (.aload_n 0, 1) := by decide +kernel
theorem dX4_next_12 : decode cX4_next 12 = .ok (.getfield 22, 3) := by decide +kernel
theorem dX4_next_15 : decode cX4_next 15 = .ok (.aload_n 0, 1) := by decide +kernel
theorem dX4_next_16 : decode cX4_next 16 = .ok (.getfield 223, 3) := by decide +kernel
theorem dX4_next_19 : decode cX4_next 19 = .ok (.iaload, 1) := by decide +kernel
theorem dX4_next_20 : decode cX4_next 20 = .ok (.bipush 32, 2) := by decide +kernel
theorem dX4_next_22 : decode cX4_next 22 = .ok (.if_icmp .ne 16, 3) := by decide +kernel
theorem dX4_next_25 : decode cX4_next 25 = .ok (.aload_n 0, 1) := by decide +kernel
theorem dX4_next_26 : decode cX4_next 26 = .ok (.dup, 1) := by decide +kernel
theorem dX4_next_27 : decode cX4_next 27 = .ok (.getfield 223, 3) := by decide +kernel
theorem dX4_next_30 : decode cX4_next 30 = .ok (.iconst 1, 1) := by decide +kernel
theorem dX4_next_31 : decode cX4_next 31 = .ok (.iadd, 1) := by decide +kernel
theorem dX4_next_32 : decode cX4_next 32 = .ok (.putfield 223, 3) := by decide +kernel
theorem dX4_next_35 : decode cX4_next 35 = .ok (.goto (-35), 3) := by decide +kernel
theorem dX4_next_38 : decode cX4_next 38 = .ok (.aload_n 0, 1) := by decide +kernel
theorem dX4_next_39 : decode cX4_next 39 = .ok (.aload_n 0, 1) := by decide +kernel
theorem dX4_next_40 : decode cX4_next 40 = .ok (.getfield 223, 3) := by decide +kernel
theorem dX4_next_43 : decode cX4_next 43 = .ok (.putfield 226, 3) := by decide +kernel
theorem dX4_next_46 : decode cX4_next 46 = .ok (.aload_n 0, 1) := by decide +kernel
theorem dX4_next_47 : decode cX4_next 47 = .ok (.iconst 0, 1) := by decide +kernel
theorem dX4_next_48 : decode cX4_next 48 = .ok (.putfield 229, 3) := by decide +kernel
theorem dX4_next_51 : decode cX4_next 51 = .ok (.aload_n 0, 1) := by decide +kernel
theorem dX4_next_52 : decode cX4_next 52 = .ok (.getfield 223, 3) := by decide +kernel
theorem dX4_next_55 : decode cX4_next 55 = .ok (.aload_n 0, 1) := by decide +kernel
theorem dX4_next_56 : decode cX4_next 56 = .ok (.getfield 218, 3) := by decide +kernel
theorem dX4_next_59 : decode cX4_next 59 = .ok (.if_icmp .ne 11, 3) := by decide +kernel
theorem dX4_next_62 : decode cX4_next 62 = .ok (.aload_n 0, 1) := by decide +kernel
theorem dX4_next_63 : decode cX4_next 63 = .ok (.iconst 0, 1) := by decide +kernel
theorem dX4_next_64 : decode cX4_next 64 = .ok (.putfield 232, 3) := by decide +kernel
theorem dX4_next_67 : decode cX4_next 67 = .ok (.goto 170, 3) := by decide +kernel
theorem dX4_next_70 : decode cX4_next 70 = .ok (.aload_n 0, 1) := by decide +kernel
theorem dX4_next_71 : decode cX4_next 71 = .ok (.bipush 97, 2) := by decide +kernel
theorem dX4_next_73 : decode cX4_next 73 = .ok (.bipush 122, 2) := by decide +kernel
theorem dX4_next_75 : decode cX4_next 75 = .ok (.invokevirtual 235, 3) := by decide +kernel
theorem dX4_next_78 : decode cX4_next 78 = .ok (.ifCond .eq 43, 3) := by decide +kernel
theorem dX4_next_81 : decode cX4_next 81 = .ok (.aload_n 0, 1) := by decide +kernel
theorem dX4_next_82 : decode cX4_next 82 = .ok (.iconst 1, 1) := by decide +kernel
theorem dX4_next_83 : decode cX4_next 83 = .ok (.putfield 232, 3) := by decide +kernel
theorem dX4_next_86 : decode cX4_next 86 = .ok (.aload_n 0, 1) := by decide +kernel
theorem dX4_next_87 : decode cX4_next 87 = .ok (.bipush 97, 2) := by decide +kernel
theorem dX4_next_89 : decode cX4_next 89 = .ok (.bipush 122, 2) := by decide +kernel
theorem dX4_next_91 : decode cX4_next 91 = .ok (.invokevirtual 235, 3) := by decide +kernel
theorem dX4_next_94 : decode cX4_next 94 = .ok (.ifCond .eq 16, 3) := by decide +kernel
theorem dX4_next_97 : decode cX4_next 97 = .ok (.aload_n 0, 1) := by decide +kernel
theorem dX4_next_98 : decode cX4_next 98 = .ok (.dup, 1) := by decide +kernel
theorem dX4_next_99 : decode cX4_next 99 = .ok (.getfield 223, 3) := by decide +kernel
theorem dX4_next_102 : decode cX4_next 102 = .ok (.iconst 1, 1) := by decide +kernel
theorem dX4_next_103 : decode cX4_next 103 = .ok (.iadd, 1) := by decide +kernel
theorem dX4_next_104 : decode cX4_next 104 = .ok (.putfield 223, 3) := by decide +kernel
theorem dX4_next_107 : decode cX4_next 107 = .ok (.goto (-21), 3) := by decide +kernel
theorem dX4_next_110 : decode cX4_next 110 = .ok (.aload_n 0, 1) := by decide +kernel
theorem dX4_next_111 : decode cX4_next 111 = .ok (.aload_n 0, 1) := by decide +kernel
theorem dX4_next_112 : decode cX4_next 112 = .ok (.invokevirtual 239, 3) := by decide +kernel
theorem dX4_next_115 : decode cX4_next 115 = .ok (.putfield 229, 3) := by decide +kernel
theorem dX4_next_118 : decode cX4_next 118 = .ok (.goto 119, 3) := by decide +kernel
theorem dX4_next_121 : decode cX4_next 121 = .ok (.aload_n 0, 1) := by decide +kernel
theorem dX4_next_122 : decode cX4_next 122 = .ok (.bipush 48, 2) := by decide +kernel
theorem dX4_next_124 : decode cX4_next 124 = .ok (.bipush 57, 2) := by decide +kernel
theorem dX4_next_126 : decode cX4_next 126 = .ok (.invokevirtual 235, 3) := by decide +kernel
theorem dX4_next_129 : decode cX4_next 129 = .ok (.ifCond .eq 75, 3) := by decide +kernel
theorem dX4_next_132 : decode cX4_next 132 = .ok (.aload_n 0, 1) := by decide +kernel
theorem dX4_next_133 : decode cX4_next 133 = .ok (.iconst 2, 1) := by decide +kernel
theorem dX4_next_134 : decode cX4_next 134 = .ok (.putfield 232, 3) := by decide +kernel
theorem dX4_next_137 : decode cX4_next 137 = .ok (.aload_n 0, 1) := by decide +kernel
theorem dX4_next_138 : decode cX4_next 138 = .ok (.bipush 48, 2) := by decide +kernel
theorem dX4_next_140 : decode cX4_next 140 = .ok (.bipush 57, 2) := by decide +kernel
theorem dX4_next_142 : decode cX4_next 142 = .ok (.invokevirtual 235, 3) := by decide +kernel
theorem dX4_next_145 : decode cX4_next 145 = .ok (.ifCond .eq 92, 3) := by decide +kernel
theorem dX4_next_148 : decode cX4_next 148 = .ok (.aload_n 0, 1) := by decide +kernel
theorem dX4_next_149 : decode cX4_next 149 = .ok (.aload_n 0, 1) := by decide +kernel
theorem dX4_next_150 : decode cX4_next 150 = .ok (.getfield 223, 3) := by decide +kernel
theorem dX4_next_153 : decode cX4_next 153 = .ok (.aload_n 0, 1) := by decide +kernel
theorem dX4_next_154 : decode cX4_next 154 = .ok (.getfield 226, 3) := by decide +kernel
theorem dX4_next_157 : decode cX4_next 157 = .ok (.isub, 1) := by decide +kernel
theorem dX4_next_158 : decode cX4_next 158 = .ok (.iconst 3, 1) := by decide +kernel
theorem dX4_next_159 : decode cX4_next 159 = .ok (.if_icmp .ge 26, 3) := by decide +kernel
theorem dX4_next_162 : decode cX4_next 162 = .ok (.bipush 10, 2) := by decide +kernel
theorem dX4_next_164 : decode cX4_next 164 = .ok (.aload_n 0, 1) := by decide +kernel
theorem dX4_next_165 : decode cX4_next 165 = .ok (.getfield 229, 3) := by decide +kernel
theorem dX4_next_168 : decode cX4_next 168 = .ok (.imul, 1) := by decide +kernel
theorem dX4_next_169 : decode cX4_next 169 = .ok (.aload_n 0, 1) := by decide +kernel
theorem dX4_next_170 : decode cX4_next 170 = .ok (.getfield 22, 3) := by decide +kernel
theorem dX4_next_173 : decode cX4_next 173 = .ok (.aload_n 0, 1) := by decide +kernel
theorem dX4_next_174 : decode cX4_next 174 = .ok (.getfield 223, 3) := by decide +kernel
theorem dX4_next_177 : decode cX4_next 177 = .ok (.iaload, 1) := by decide +kernel
theorem dX4_next_178 : decode cX4_next 178 = .ok (.iadd, 1) := by decide +kernel
theorem dX4_next_179 : decode cX4_next 179 = .ok (.bipush 48, 2) := by decide +kernel
theorem dX4_next_181 : decode cX4_next 181 = .ok (.isub, 1) := by decide +kernel
theorem dX4_next_182 : decode cX4_next 182 = .ok (.goto 6, 3) := by decide +kernel
theorem dX4_next_185 : decode cX4_next 185 = .ok (.sipush 1000, 3) := by decide +kernel
theorem dX4_next_188 : decode cX4_next 188 = .ok (.putfield 229, 3) := by decide +kernel
theorem dX4_next_191 : decode cX4_next 191 = .ok (.aload_n 0, 1) := by decide +kernel
theorem dX4_next_192 : decode cX4_next 192 = .ok (.dup, 1) := by decide +kernel
theorem dX4_next_193 : decode cX4_next 193 = .ok (.getfield 223, 3) := by decide +kernel
theorem dX4_next_196 : decode cX4_next 196 = .ok (.iconst 1, 1) := by decide +kernel
theorem dX4_next_197 : decode cX4_next 197 = .ok (.iadd, 1) := by decide +kernel
theorem dX4_next_198 : decode cX4_next 198 = .ok (.putfield 223, 3) := by decide +kernel
theorem dX4_next_201 : decode cX4_next 201 = .ok (.goto (-64), 3) := by decide +kernel
theorem dX4_next_204 : decode cX4_next 204 = .ok (.aload_n 0, 1) := by decide +kernel
theorem dX4_next_205 : decode cX4_next 205 = .ok (.aload_n 0, 1) := by decide +kernel
theorem dX4_next_206 : decode cX4_next 206 = .ok (.getfield 22, 3) := by decide +kernel
theorem dX4_next_209 : decode cX4_next 209 = .ok (.aload_n 0, 1) := by decide +kernel
theorem dX4_next_210 : decode cX4_next 210 = .ok (.getfield 223, 3) := by decide +kernel
theorem dX4_next_213 : decode cX4_next 213 = .ok (.iaload, 1) := by decide +kernel
theorem dX4_next_214 : decode cX4_next 214 = .ok (.bipush 59, 2) := by decide +kernel
theorem dX4_next_216 : decode cX4_next 216 = .ok (.if_icmp .ne 7, 3) := by decide +kernel
theorem dX4_next_219 : decode cX4_next 219 = .ok (.iconst 3, 1) := by decide +kernel
theorem dX4_next_220 : decode cX4_next 220 = .ok (.goto 4, 3) := by decide +kernel
theorem dX4_next_223 : decode cX4_next 223 = .ok (.iconst 4, 1) := by decide +kernel
theorem dX4_next_224 : decode cX4_next 224 = .ok (.putfield 232, 3) := by decide +kernel
theorem dX4_next_227 : decode cX4_next 227 = .ok (.aload_n 0, 1) := by decide +kernel
theorem dX4_next_228 : decode cX4_next 228 = .ok (.dup, 1) := by decide +kernel
theorem dX4_next_229 : decode cX4_next 229 = .ok (.getfield 223, 3) := by decide +kernel
theorem dX4_next_232 : decode cX4_next 232 = .ok (.iconst 1, 1) := by decide +kernel
theorem dX4_next_233 : decode cX4_next 233 = .ok (.iadd, 1) := by decide +kernel
theorem dX4_next_234 : decode cX4_next 234 = .ok (.putfield 223, 3) := by decide +kernel
theorem dX4_next_237 : decode cX4_next 237 = .ok (.return_, 1) := by decide +kernel
theorem dX4_isWord_0 : decode cX4_isWord 0 = .ok (.aload_n 0, 1) := by decide +kernel
theorem dX4_isWord_1 : decode cX4_isWord 1 = .ok (.getfield 232, 3) := by decide +kernel
theorem dX4_isWord_4 : decode cX4_isWord 4 = .ok (.iconst 1, 1) := by decide +kernel
theorem dX4_isWord_5 : decode cX4_isWord 5 = .ok (.if_icmp .ne 15, 3) := by decide +kernel
theorem dX4_isWord_8 : decode cX4_isWord 8 = .ok (.aload_n 0, 1) := by decide +kernel
theorem dX4_isWord_9 : decode cX4_isWord 9 = .ok (.getfield 229, 3) := by decide +kernel
theorem dX4_isWord_12 : decode cX4_isWord 12 = .ok (.iload_n 1, 1) := by decide +kernel
theorem dX4_isWord_13 : decode cX4_isWord 13 = .ok (.if_icmp .ne 7, 3) := by decide +kernel
theorem dX4_isWord_16 : decode cX4_isWord 16 = .ok (.iconst 1, 1) := by decide +kernel
theorem dX4_isWord_17 : decode cX4_isWord 17 = .ok (.goto 4, 3) := by decide +kernel
theorem dX4_isWord_20 : decode cX4_isWord 20 = .ok (.iconst 0, 1) := by decide +kernel
theorem dX4_isWord_21 : decode cX4_isWord 21 = .ok (.ireturn, 1) := by decide +kernel
theorem dX4_reads_0 : decode cX4_reads 0 = .ok (.aload_n 0, 1) := by decide +kernel
theorem dX4_reads_1 : decode cX4_reads 1 = .ok (.invokevirtual 242, 3) := by decide +kernel
theorem dX4_reads_4 : decode cX4_reads 4 = .ok (.aload_n 0, 1) := by decide +kernel
theorem dX4_reads_5 : decode cX4_reads 5 = .ok (.aload_n 0, 1) := by decide +kernel
theorem dX4_reads_6 : decode cX4_reads 6 = .ok (.getfield 229, 3) := by decide +kernel
theorem dX4_reads_9 : decode cX4_reads 9 = .ok (.putfield 245, 3) := by decide +kernel
theorem dX4_reads_12 : decode cX4_reads 12 = .ok (.aload_n 0, 1) := by decide +kernel
theorem dX4_reads_13 : decode cX4_reads 13 = .ok (.getfield 232, 3) := by decide +kernel
theorem dX4_reads_16 : decode cX4_reads 16 = .ok (.iconst 2, 1) := by decide +kernel
theorem dX4_reads_17 : decode cX4_reads 17 = .ok (.if_icmp .ne 15, 3) := by decide +kernel
theorem dX4_reads_20 : decode cX4_reads 20 = .ok (.aload_n 0, 1) := by decide +kernel
theorem dX4_reads_21 : decode cX4_reads 21 = .ok (.getfield 229, 3) := by decide +kernel
theorem dX4_reads_24 : decode cX4_reads 24 = .ok (.iload_n 1, 1) := by decide +kernel
theorem dX4_reads_25 : decode cX4_reads 25 = .ok (.if_icmp .gt 7, 3) := by decide +kernel
theorem dX4_reads_28 : decode cX4_reads 28 = .ok (.iconst 1, 1) := by decide +kernel
theorem dX4_reads_29 : decode cX4_reads 29 = .ok (.goto 4, 3) := by decide +kernel
theorem dX4_reads_32 : decode cX4_reads 32 = .ok (.iconst 0, 1) := by decide +kernel
theorem dX4_reads_33 : decode cX4_reads 33 = .ok (.ireturn, 1) := by decide +kernel
theorem dX4_readsWord_0 : decode cX4_readsWord 0 = .ok (.aload_n 0, 1) := by decide +kernel
theorem dX4_readsWord_1 : decode cX4_readsWord 1 = .ok (.invokevirtual 242, 3) := by decide +kernel
theorem dX4_readsWord_4 : decode cX4_readsWord 4 = .ok (.aload_n 0, 1) := by decide +kernel
theorem dX4_readsWord_5 : decode cX4_readsWord 5 = .ok (.iload_n 1, 1) := by decide +kernel
theorem dX4_readsWord_6 : decode cX4_readsWord 6 = .ok (.invokevirtual 248, 3) := by decide +kernel
theorem dX4_readsWord_9 : decode cX4_readsWord 9 = .ok (.ireturn, 1) := by decide +kernel
theorem dX4_readsPerson_0 : decode cX4_readsPerson 0 = .ok (.iload_n 2, 1) := by decide +kernel
theorem dX4_readsPerson_1 : decode cX4_readsPerson 1 = .ok (.bipush 8, 2) := by decide +kernel
theorem dX4_readsPerson_3 : decode cX4_readsPerson 3 = .ok (.if_icmp .eq 21, 3) := by decide +kernel
theorem dX4_readsPerson_6 : decode cX4_readsPerson 6 = .ok (.aload_n 0, 1) := by decide +kernel
theorem dX4_readsPerson_7 : decode cX4_readsPerson 7 = .ok (.bipush 6, 2) := by decide +kernel
theorem dX4_readsPerson_9 : decode cX4_readsPerson 9 = .ok (.invokevirtual 251, 3) := by decide +kernel
theorem dX4_readsPerson_12 : decode cX4_readsPerson 12 = .ok (.ifCond .eq 12, 3) := by decide +kernel
theorem dX4_readsPerson_15 : decode cX4_readsPerson 15 = .ok (.aload_n 0, 1) := by decide +kernel
theorem dX4_readsPerson_16 : decode cX4_readsPerson 16 = .ok (.bipush 31, 2) := by decide +kernel
theorem dX4_readsPerson_18 : decode cX4_readsPerson 18 = .ok (.invokevirtual 254, 3) := by decide +kernel
theorem dX4_readsPerson_21 : decode cX4_readsPerson 21 = .ok (.ifCond .ne 5, 3) := by decide +kernel
theorem dX4_readsPerson_24 : decode cX4_readsPerson 24 = .ok (.iconst 0, 1) := by decide +kernel
theorem dX4_readsPerson_25 : decode cX4_readsPerson 25 = .ok (.ireturn, 1) := by decide +kernel
theorem dX4_readsPerson_26 : decode cX4_readsPerson 26 = .ok (.aload_n 0, 1) := by decide +kernel
theorem dX4_readsPerson_27 : decode cX4_readsPerson 27 = .ok (.getfield 245, 3) := by decide +kernel
theorem dX4_readsPerson_30 : decode cX4_readsPerson 30 = .ok (.istore 4, 2) := by decide +kernel
theorem dX4_readsPerson_32 : decode cX4_readsPerson 32 = .ok (.bipush 50, 2) := by decide +kernel
theorem dX4_readsPerson_34 : decode cX4_readsPerson 34 = .ok (.istore 5, 2) := by decide +kernel
theorem dX4_readsPerson_36 : decode cX4_readsPerson 36 = .ok (.iconst 0, 1) := by decide +kernel
theorem dX4_readsPerson_37 : decode cX4_readsPerson 37 = .ok (.istore 6, 2) := by decide +kernel
theorem dX4_readsPerson_39 : decode cX4_readsPerson 39 = .ok (.aload_n 0, 1) := by decide +kernel
theorem dX4_readsPerson_40 : decode cX4_readsPerson 40 = .ok (.invokevirtual 242, 3) := by decide +kernel
theorem dX4_readsPerson_43 : decode cX4_readsPerson 43 = .ok (.aload_n 0, 1) := by decide +kernel
theorem dX4_readsPerson_44 : decode cX4_readsPerson 44 = .ok (.bipush 7, 2) := by decide +kernel
theorem dX4_readsPerson_46 : decode cX4_readsPerson 46 = .ok (.invokevirtual 248, 3) := by decide +kernel
theorem dX4_readsPerson_49 : decode cX4_readsPerson 49 = .ok (.ifCond .eq 24, 3) := by decide +kernel
theorem dX4_readsPerson_52 : decode cX4_readsPerson 52 = .ok (.aload_n 0, 1) := by decide +kernel
theorem dX4_readsPerson_53 : decode cX4_readsPerson 53 = .ok (.bipush 99, 2) := by decide +kernel
theorem dX4_readsPerson_55 : decode cX4_readsPerson 55 = .ok (.invokevirtual 254, 3) := by decide +kernel
theorem dX4_readsPerson_58 : decode cX4_readsPerson 58 = .ok (.ifCond .ne 5, 3) := by decide +kernel
theorem dX4_readsPerson_61 : decode cX4_readsPerson 61 = .ok (.iconst 0, 1) := by decide +kernel
theorem dX4_readsPerson_62 : decode cX4_readsPerson 62 = .ok (.ireturn, 1) := by decide +kernel
theorem dX4_readsPerson_63 : decode cX4_readsPerson 63 = .ok (.aload_n 0, 1) := by decide +kernel
theorem dX4_readsPerson_64 : decode cX4_readsPerson 64 = .ok (.getfield 245, 3) := by decide +kernel
theorem dX4_readsPerson_67 : decode cX4_readsPerson 67 = .ok (.istore 5, 2) := by decide +kernel
theorem dX4_readsPerson_69 : decode cX4_readsPerson 69 = .ok (.aload_n 0, 1) := by decide +kernel
theorem dX4_readsPerson_70 : decode cX4_readsPerson 70 = .ok (.invokevirtual 242, 3) := by decide +kernel
theorem dX4_readsPerson_73 : decode cX4_readsPerson 73 = .ok (.aload_n 0, 1) := by decide +kernel
theorem dX4_readsPerson_74 : decode cX4_readsPerson 74 = .ok (.bipush 8, 2) := by decide +kernel
theorem dX4_readsPerson_76 : decode cX4_readsPerson 76 = .ok (.invokevirtual 248, 3) := by decide +kernel
theorem dX4_readsPerson_79 : decode cX4_readsPerson 79 = .ok (.ifCond .eq 24, 3) := by decide +kernel
theorem dX4_readsPerson_82 : decode cX4_readsPerson 82 = .ok (.aload_n 0, 1) := by decide +kernel
theorem dX4_readsPerson_83 : decode cX4_readsPerson 83 = .ok (.bipush 9, 2) := by decide +kernel
theorem dX4_readsPerson_85 : decode cX4_readsPerson 85 = .ok (.invokevirtual 254, 3) := by decide +kernel
theorem dX4_readsPerson_88 : decode cX4_readsPerson 88 = .ok (.ifCond .ne 5, 3) := by decide +kernel
theorem dX4_readsPerson_91 : decode cX4_readsPerson 91 = .ok (.iconst 0, 1) := by decide +kernel
theorem dX4_readsPerson_92 : decode cX4_readsPerson 92 = .ok (.ireturn, 1) := by decide +kernel
theorem dX4_readsPerson_93 : decode cX4_readsPerson 93 = .ok (.aload_n 0, 1) := by decide +kernel
theorem dX4_readsPerson_94 : decode cX4_readsPerson 94 = .ok (.getfield 245, 3) := by decide +kernel
theorem dX4_readsPerson_97 : decode cX4_readsPerson 97 = .ok (.istore 6, 2) := by decide +kernel
theorem dX4_readsPerson_99 : decode cX4_readsPerson 99 = .ok (.aload_n 0, 1) := by decide +kernel
theorem dX4_readsPerson_100 : decode cX4_readsPerson 100 = .ok (.invokevirtual 242, 3) := by decide +kernel
theorem dX4_readsPerson_103 : decode cX4_readsPerson 103 = .ok (.aload_n 0, 1) := by decide +kernel
theorem dX4_readsPerson_104 : decode cX4_readsPerson 104 = .ok (.getfield 232, 3) := by decide +kernel
theorem dX4_readsPerson_107 : decode cX4_readsPerson 107 = .ok (.iconst 3, 1) := by decide +kernel
theorem dX4_readsPerson_108 : decode cX4_readsPerson 108 = .ok (.if_icmp .ne 20, 3) := by decide +kernel
theorem dX4_readsPerson_111 : decode cX4_readsPerson 111 = .ok (.iload_n 3, 1) := by decide +kernel
theorem dX4_readsPerson_112 : decode cX4_readsPerson 112 = .ok (.ifCond .eq 16, 3) := by decide +kernel
theorem dX4_readsPerson_115 : decode cX4_readsPerson 115 = .ok (.aload_n 0, 1) := by decide +kernel
theorem dX4_readsPerson_116 : decode cX4_readsPerson 116 = .ok (.iload_n 1, 1) := by decide +kernel
theorem dX4_readsPerson_117 : decode cX4_readsPerson 117 = .ok (.iload 6, 2) := by decide +kernel
theorem dX4_readsPerson_119 : decode cX4_readsPerson 119 = .ok (.iload 5, 2) := by decide +kernel
theorem dX4_readsPerson_121 : decode cX4_readsPerson 121 = .ok (.iload 4, 2) := by decide +kernel
theorem dX4_readsPerson_123 : decode cX4_readsPerson 123 = .ok (.invokevirtual 123, 3) := by decide +kernel
theorem dX4_readsPerson_126 : decode cX4_readsPerson 126 = .ok (.istore 7, 2) := by decide +kernel
theorem dX4_readsPerson_128 : decode cX4_readsPerson 128 = .ok (.aload_n 0, 1) := by decide +kernel
theorem dX4_readsPerson_129 : decode cX4_readsPerson 129 = .ok (.getfield 232, 3) := by decide +kernel
theorem dX4_readsPerson_132 : decode cX4_readsPerson 132 = .ok (.iconst 3, 1) := by decide +kernel
theorem dX4_readsPerson_133 : decode cX4_readsPerson 133 = .ok (.if_icmp .ne 7, 3) := by decide +kernel
theorem dX4_readsPerson_136 : decode cX4_readsPerson 136 = .ok (.iconst 1, 1) := by decide +kernel
theorem dX4_readsPerson_137 : decode cX4_readsPerson 137 = .ok (.goto 4, 3) := by decide +kernel
theorem dX4_readsPerson_140 : decode cX4_readsPerson 140 = .ok (.iconst 0, 1) := by decide +kernel
theorem dX4_readsPerson_141 : decode cX4_readsPerson 141 = .ok (.ireturn, 1) := by decide +kernel
theorem dX4_readsCell_0 : decode cX4_readsCell 0 = .ok (.aload_n 0, 1) := by decide +kernel
theorem dX4_readsCell_1 : decode cX4_readsCell 1 = .ok (.bipush 31, 2) := by decide +kernel
theorem dX4_readsCell_3 : decode cX4_readsCell 3 = .ok (.invokevirtual 254, 3) := by decide +kernel
theorem dX4_readsCell_6 : decode cX4_readsCell 6 = .ok (.ifCond .ne 5, 3) := by decide +kernel
theorem dX4_readsCell_9 : decode cX4_readsCell 9 = .ok (.iconst 0, 1) := by decide +kernel
theorem dX4_readsCell_10 : decode cX4_readsCell 10 = .ok (.ireturn, 1) := by decide +kernel
theorem dX4_readsCell_11 : decode cX4_readsCell 11 = .ok (.aload_n 0, 1) := by decide +kernel
theorem dX4_readsCell_12 : decode cX4_readsCell 12 = .ok (.getfield 245, 3) := by decide +kernel
theorem dX4_readsCell_15 : decode cX4_readsCell 15 = .ok (.istore_n 3, 1) := by decide +kernel
theorem dX4_readsCell_16 : decode cX4_readsCell 16 = .ok (.aload_n 0, 1) := by decide +kernel
theorem dX4_readsCell_17 : decode cX4_readsCell 17 = .ok (.bipush 9, 2) := by decide +kernel
theorem dX4_readsCell_19 : decode cX4_readsCell 19 = .ok (.invokevirtual 251, 3) := by decide +kernel
theorem dX4_readsCell_22 : decode cX4_readsCell 22 = .ok (.ifCond .eq 23, 3) := by decide +kernel
theorem dX4_readsCell_25 : decode cX4_readsCell 25 = .ok (.aload_n 0, 1) := by decide +kernel
theorem dX4_readsCell_26 : decode cX4_readsCell 26 = .ok (.iload_n 1, 1) := by decide +kernel
theorem dX4_readsCell_27 : decode cX4_readsCell 27 = .ok (.bipush 10, 2) := by decide +kernel
theorem dX4_readsCell_29 : decode cX4_readsCell 29 = .ok (.if_icmp .ne 8, 3) := by decide +kernel
theorem dX4_readsCell_32 : decode cX4_readsCell 32 = .ok (.bipush 9, 2) := by decide +kernel
theorem dX4_readsCell_34 : decode cX4_readsCell 34 = .ok (.goto 5, 3) := by decide +kernel
theorem dX4_readsCell_37 : decode cX4_readsCell 37 = .ok (.bipush 99, 2) := by decide +kernel
theorem dX4_readsCell_39 : decode cX4_readsCell 39 = .ok (.invokevirtual 254, 3) := by decide +kernel
theorem dX4_readsCell_42 : decode cX4_readsCell 42 = .ok (.ifCond .ne 5, 3) := by decide +kernel
theorem dX4_readsCell_45 : decode cX4_readsCell 45 = .ok (.iconst 0, 1) := by decide +kernel
theorem dX4_readsCell_46 : decode cX4_readsCell 46 = .ok (.ireturn, 1) := by decide +kernel
theorem dX4_readsCell_47 : decode cX4_readsCell 47 = .ok (.aload_n 0, 1) := by decide +kernel
theorem dX4_readsCell_48 : decode cX4_readsCell 48 = .ok (.getfield 245, 3) := by decide +kernel
theorem dX4_readsCell_51 : decode cX4_readsCell 51 = .ok (.istore 4, 2) := by decide +kernel
theorem dX4_readsCell_53 : decode cX4_readsCell 53 = .ok (.aload_n 0, 1) := by decide +kernel
theorem dX4_readsCell_54 : decode cX4_readsCell 54 = .ok (.invokevirtual 242, 3) := by decide +kernel
theorem dX4_readsCell_57 : decode cX4_readsCell 57 = .ok (.aload_n 0, 1) := by decide +kernel
theorem dX4_readsCell_58 : decode cX4_readsCell 58 = .ok (.getfield 232, 3) := by decide +kernel
theorem dX4_readsCell_61 : decode cX4_readsCell 61 = .ok (.iconst 3, 1) := by decide +kernel
theorem dX4_readsCell_62 : decode cX4_readsCell 62 = .ok (.if_icmp .ne 29, 3) := by decide +kernel
theorem dX4_readsCell_65 : decode cX4_readsCell 65 = .ok (.iload_n 2, 1) := by decide +kernel
theorem dX4_readsCell_66 : decode cX4_readsCell 66 = .ok (.ifCond .eq 25, 3) := by decide +kernel
theorem dX4_readsCell_69 : decode cX4_readsCell 69 = .ok (.aload_n 0, 1) := by decide +kernel
theorem dX4_readsCell_70 : decode cX4_readsCell 70 = .ok (.getfield 7, 3) := by decide +kernel
theorem dX4_readsCell_73 : decode cX4_readsCell 73 = .ok (.iload_n 1, 1) := by decide +kernel
theorem dX4_readsCell_74 : decode cX4_readsCell 74 = .ok (.bipush 10, 2) := by decide +kernel
theorem dX4_readsCell_76 : decode cX4_readsCell 76 = .ok (.if_icmp .ne 8, 3) := by decide +kernel
theorem dX4_readsCell_79 : decode cX4_readsCell 79 = .ok (.bipush 7, 2) := by decide +kernel
theorem dX4_readsCell_81 : decode cX4_readsCell 81 = .ok (.goto 5, 3) := by decide +kernel
theorem dX4_readsCell_84 : decode cX4_readsCell 84 = .ok (.bipush 39, 2) := by decide +kernel
theorem dX4_readsCell_86 : decode cX4_readsCell 86 = .ok (.iload_n 3, 1) := by decide +kernel
theorem dX4_readsCell_87 : decode cX4_readsCell 87 = .ok (.iadd, 1) := by decide +kernel
theorem dX4_readsCell_88 : decode cX4_readsCell 88 = .ok (.iload 4, 2) := by decide +kernel
theorem dX4_readsCell_90 : decode cX4_readsCell 90 = .ok (.iastore, 1) := by decide +kernel
theorem dX4_readsCell_91 : decode cX4_readsCell 91 = .ok (.aload_n 0, 1) := by decide +kernel
theorem dX4_readsCell_92 : decode cX4_readsCell 92 = .ok (.getfield 232, 3) := by decide +kernel
theorem dX4_readsCell_95 : decode cX4_readsCell 95 = .ok (.iconst 3, 1) := by decide +kernel
theorem dX4_readsCell_96 : decode cX4_readsCell 96 = .ok (.if_icmp .ne 7, 3) := by decide +kernel
theorem dX4_readsCell_99 : decode cX4_readsCell 99 = .ok (.iconst 1, 1) := by decide +kernel
theorem dX4_readsCell_100 : decode cX4_readsCell 100 = .ok (.goto 4, 3) := by decide +kernel
theorem dX4_readsCell_103 : decode cX4_readsCell 103 = .ok (.iconst 0, 1) := by decide +kernel
theorem dX4_readsCell_104 : decode cX4_readsCell 104 = .ok (.ireturn, 1) := by decide +kernel
theorem dX4_readsLaw_0 : decode cX4_readsLaw 0 = .ok (.aload_n 0, 1) := by decide +kernel
theorem dX4_readsLaw_1 : decode cX4_readsLaw 1 = .ok (.iload_n 1, 1) := by decide +kernel
theorem dX4_readsLaw_2 : decode cX4_readsLaw 2 = .ok (.iconst 2, 1) := by decide +kernel
theorem dX4_readsLaw_3 : decode cX4_readsLaw 3 = .ok (.if_icmp .ge 8, 3) := by decide +kernel
theorem dX4_readsLaw_6 : decode cX4_readsLaw 6 = .ok (.bipush 9, 2) := by decide +kernel
theorem dX4_readsLaw_8 : decode cX4_readsLaw 8 = .ok (.goto 15, 3) := by decide +kernel
theorem dX4_readsLaw_11 : decode cX4_readsLaw 11 = .ok (.iload_n 1, 1) := by decide +kernel
theorem dX4_readsLaw_12 : decode cX4_readsLaw 12 = .ok (.iconst 2, 1) := by decide +kernel
theorem dX4_readsLaw_13 : decode cX4_readsLaw 13 = .ok (.if_icmp .ne 8, 3) := by decide +kernel
theorem dX4_readsLaw_16 : decode cX4_readsLaw 16 = .ok (.bipush 50, 2) := by decide +kernel
theorem dX4_readsLaw_18 : decode cX4_readsLaw 18 = .ok (.goto 5, 3) := by decide +kernel
theorem dX4_readsLaw_21 : decode cX4_readsLaw 21 = .ok (.bipush 99, 2) := by decide +kernel
theorem dX4_readsLaw_23 : decode cX4_readsLaw 23 = .ok (.invokevirtual 254, 3) := by decide +kernel
theorem dX4_readsLaw_26 : decode cX4_readsLaw 26 = .ok (.ifCond .ne 5, 3) := by decide +kernel
theorem dX4_readsLaw_29 : decode cX4_readsLaw 29 = .ok (.iconst 0, 1) := by decide +kernel
theorem dX4_readsLaw_30 : decode cX4_readsLaw 30 = .ok (.ireturn, 1) := by decide +kernel
theorem dX4_readsLaw_31 : decode cX4_readsLaw 31 = .ok (.aload_n 0, 1) := by decide +kernel
theorem dX4_readsLaw_32 : decode cX4_readsLaw 32 = .ok (.getfield 245, 3) := by decide +kernel
theorem dX4_readsLaw_35 : decode cX4_readsLaw 35 = .ok (.istore_n 3, 1) := by decide +kernel
theorem dX4_readsLaw_36 : decode cX4_readsLaw 36 = .ok (.aload_n 0, 1) := by decide +kernel
theorem dX4_readsLaw_37 : decode cX4_readsLaw 37 = .ok (.invokevirtual 242, 3) := by decide +kernel
theorem dX4_readsLaw_40 : decode cX4_readsLaw 40 = .ok (.aload_n 0, 1) := by decide +kernel
theorem dX4_readsLaw_41 : decode cX4_readsLaw 41 = .ok (.getfield 232, 3) := by decide +kernel
theorem dX4_readsLaw_44 : decode cX4_readsLaw 44 = .ok (.iconst 3, 1) := by decide +kernel
theorem dX4_readsLaw_45 : decode cX4_readsLaw 45 = .ok (.if_icmp .ne 14, 3) := by decide +kernel
theorem dX4_readsLaw_48 : decode cX4_readsLaw 48 = .ok (.iload_n 2, 1) := by decide +kernel
theorem dX4_readsLaw_49 : decode cX4_readsLaw 49 = .ok (.ifCond .eq 10, 3) := by decide +kernel
theorem dX4_readsLaw_52 : decode cX4_readsLaw 52 = .ok (.aload_n 0, 1) := by decide +kernel
theorem dX4_readsLaw_53 : decode cX4_readsLaw 53 = .ok (.getfield 7, 3) := by decide +kernel
theorem dX4_readsLaw_56 : decode cX4_readsLaw 56 = .ok (.iload_n 1, 1) := by decide +kernel
theorem dX4_readsLaw_57 : decode cX4_readsLaw 57 = .ok (.iload_n 3, 1) := by decide +kernel
theorem dX4_readsLaw_58 : decode cX4_readsLaw 58 = .ok (.iastore, 1) := by decide +kernel
theorem dX4_readsLaw_59 : decode cX4_readsLaw 59 = .ok (.aload_n 0, 1) := by decide +kernel
theorem dX4_readsLaw_60 : decode cX4_readsLaw 60 = .ok (.getfield 232, 3) := by decide +kernel
theorem dX4_readsLaw_63 : decode cX4_readsLaw 63 = .ok (.iconst 3, 1) := by decide +kernel
theorem dX4_readsLaw_64 : decode cX4_readsLaw 64 = .ok (.if_icmp .ne 7, 3) := by decide +kernel
theorem dX4_readsLaw_67 : decode cX4_readsLaw 67 = .ok (.iconst 1, 1) := by decide +kernel
theorem dX4_readsLaw_68 : decode cX4_readsLaw 68 = .ok (.goto 4, 3) := by decide +kernel
theorem dX4_readsLaw_71 : decode cX4_readsLaw 71 = .ok (.iconst 0, 1) := by decide +kernel
theorem dX4_readsLaw_72 : decode cX4_readsLaw 72 = .ok (.ireturn, 1) := by decide +kernel
theorem dX4_readsAll_0 : decode cX4_readsAll 0 = .ok (.aload_n 0, 1) := by decide +kernel
theorem dX4_readsAll_1 : decode cX4_readsAll 1 = .ok (.iconst 0, 1) := by decide +kernel
theorem dX4_readsAll_2 : decode cX4_readsAll 2 = .ok (.putfield 223, 3) := by decide +kernel
theorem dX4_readsAll_5 : decode cX4_readsAll 5 = .ok (.iconst 0, 1) := by decide +kernel
theorem dX4_readsAll_6 : decode cX4_readsAll 6 = .ok (.istore_n 2, 1) := by decide +kernel
theorem dX4_readsAll_7 : decode cX4_readsAll 7 = .ok (.iconst 1, 1) := by decide +kernel
theorem dX4_readsAll_8 : decode cX4_readsAll 8 = .ok (.istore_n 3, 1) := by decide +kernel
theorem dX4_readsAll_9 : decode cX4_readsAll 9 = .ok (.iload_n 3, 1) := by decide +kernel
theorem dX4_readsAll_10 : decode cX4_readsAll 10 = .ok (.ifCond .eq 117, 3) := by decide +kernel
theorem dX4_readsAll_13 : decode cX4_readsAll 13 = .ok (.aload_n 0, 1) := by decide +kernel
theorem dX4_readsAll_14 : decode cX4_readsAll 14 = .ok (.invokevirtual 242, 3) := by decide +kernel
theorem dX4_readsAll_17 : decode cX4_readsAll 17 = .ok (.aload_n 0, 1) := by decide +kernel
theorem dX4_readsAll_18 : decode cX4_readsAll 18 = .ok (.getfield 232, 3) := by decide +kernel
theorem dX4_readsAll_21 : decode cX4_readsAll 21 = .ok (.ifCond .ne 5, 3) := by decide +kernel
theorem dX4_readsAll_24 : decode cX4_readsAll 24 = .ok (.iconst 1, 1) := by decide +kernel
theorem dX4_readsAll_25 : decode cX4_readsAll 25 = .ok (.ireturn, 1) := by decide +kernel
theorem dX4_readsAll_26 : decode cX4_readsAll 26 = .ok (.aload_n 0, 1) := by decide +kernel
theorem dX4_readsAll_27 : decode cX4_readsAll 27 = .ok (.getfield 232, 3) := by decide +kernel
theorem dX4_readsAll_30 : decode cX4_readsAll 30 = .ok (.iconst 1, 1) := by decide +kernel
theorem dX4_readsAll_31 : decode cX4_readsAll 31 = .ok (.if_icmp .ne 10, 3) := by decide +kernel
theorem dX4_readsAll_34 : decode cX4_readsAll 34 = .ok (.aload_n 0, 1) := by decide +kernel
theorem dX4_readsAll_35 : decode cX4_readsAll 35 = .ok (.getfield 229, 3) := by decide +kernel
theorem dX4_readsAll_38 : decode cX4_readsAll 38 = .ok (.goto 4, 3) := by decide +kernel
theorem dX4_readsAll_41 : decode cX4_readsAll 41 = .ok (.iconst (-1), 1) := by decide +kernel
theorem dX4_readsAll_42 : decode cX4_readsAll 42 = .ok (.istore 4, 2) := by decide +kernel
theorem dX4_readsAll_44 : decode cX4_readsAll 44 = .ok (.iload 4, 2) := by decide +kernel
theorem dX4_readsAll_46 : decode cX4_readsAll 46 = .ok (.i2l, 1) := by decide +kernel
theorem dX4_readsAll_47 : decode cX4_readsAll 47 = .ok (.lconst 0, 1) := by decide +kernel
theorem dX4_readsAll_48 : decode cX4_readsAll 48 = .ok (.ldc2_w 118, 3) := by decide +kernel
theorem dX4_readsAll_51 : decode cX4_readsAll 51 = .ok (.invokestatic 61, 3) := by decide +kernel
theorem dX4_readsAll_54 : decode cX4_readsAll 54 = .ok (.ifCond .eq 18, 3) := by decide +kernel
theorem dX4_readsAll_57 : decode cX4_readsAll 57 = .ok (.aload_n 0, 1) := by decide +kernel
theorem dX4_readsAll_58 : decode cX4_readsAll 58 = .ok (.iload 4, 2) := by decide +kernel
theorem dX4_readsAll_60 : decode cX4_readsAll 60 = .ok (.iload_n 2, 1) := by decide +kernel
theorem dX4_readsAll_61 : decode cX4_readsAll 61 = .ok (.iload_n 1, 1) := by decide +kernel
theorem dX4_readsAll_62 : decode cX4_readsAll 62 = .ok (.invokevirtual 257, 3) := by decide +kernel
theorem dX4_readsAll_65 : decode cX4_readsAll 65 = .ok (.istore_n 3, 1) := by decide +kernel
theorem dX4_readsAll_66 : decode cX4_readsAll 66 = .ok (.iinc 2 1, 3) := by decide +kernel
theorem dX4_readsAll_69 : decode cX4_readsAll 69 = .ok (.goto 55, 3) := by decide +kernel
theorem dX4_readsAll_72 : decode cX4_readsAll 72 = .ok (.iload 4, 2) := by decide +kernel
theorem dX4_readsAll_74 : decode cX4_readsAll 74 = .ok (.i2l, 1) := by decide +kernel
theorem dX4_readsAll_75 : decode cX4_readsAll 75 = .ok (.ldc2_w 261, 3) := by decide +kernel
theorem dX4_readsAll_78 : decode cX4_readsAll 78 = .ok (.ldc2_w 263, 3) := by decide +kernel
theorem dX4_readsAll_81 : decode cX4_readsAll 81 = .ok (.invokestatic 61, 3) := by decide +kernel
theorem dX4_readsAll_84 : decode cX4_readsAll 84 = .ok (.ifCond .eq 14, 3) := by decide +kernel
theorem dX4_readsAll_87 : decode cX4_readsAll 87 = .ok (.aload_n 0, 1) := by decide +kernel
theorem dX4_readsAll_88 : decode cX4_readsAll 88 = .ok (.iload 4, 2) := by decide +kernel
theorem dX4_readsAll_90 : decode cX4_readsAll 90 = .ok (.iload_n 1, 1) := by decide +kernel
theorem dX4_readsAll_91 : decode cX4_readsAll 91 = .ok (.invokevirtual 265, 3) := by decide +kernel
theorem dX4_readsAll_94 : decode cX4_readsAll 94 = .ok (.istore_n 3, 1) := by decide +kernel
theorem dX4_readsAll_95 : decode cX4_readsAll 95 = .ok (.goto 29, 3) := by decide +kernel
theorem dX4_readsAll_98 : decode cX4_readsAll 98 = .ok (.iload 4, 2) := by decide +kernel
theorem dX4_readsAll_100 : decode cX4_readsAll 100 = .ok (.bipush 12, 2) := by decide +kernel
theorem dX4_readsAll_102 : decode cX4_readsAll 102 = .ok (.if_icmp .lt 20, 3) := by decide +kernel
theorem dX4_readsAll_105 : decode cX4_readsAll 105 = .ok (.aload_n 0, 1) := by decide +kernel
theorem dX4_readsAll_106 : decode cX4_readsAll 106 = .ok (.iload 4, 2) := by decide +kernel
theorem dX4_readsAll_108 : decode cX4_readsAll 108 = .ok (.bipush 12, 2) := by decide +kernel
theorem dX4_readsAll_110 : decode cX4_readsAll 110 = .ok (.isub, 1) := by decide +kernel
theorem dX4_readsAll_111 : decode cX4_readsAll 111 = .ok (.iload_n 1, 1) := by decide +kernel
theorem dX4_readsAll_112 : decode cX4_readsAll 112 = .ok (.invokevirtual 269, 3) := by decide +kernel
theorem dX4_readsAll_115 : decode cX4_readsAll 115 = .ok (.ifCond .eq 7, 3) := by decide +kernel
theorem dX4_readsAll_118 : decode cX4_readsAll 118 = .ok (.iconst 1, 1) := by decide +kernel
theorem dX4_readsAll_119 : decode cX4_readsAll 119 = .ok (.goto 4, 3) := by decide +kernel
theorem dX4_readsAll_122 : decode cX4_readsAll 122 = .ok (.iconst 0, 1) := by decide +kernel
theorem dX4_readsAll_123 : decode cX4_readsAll 123 = .ok (.istore_n 3, 1) := by decide +kernel
theorem dX4_readsAll_124 : decode cX4_readsAll 124 = .ok (.goto (-115), 3) := by decide +kernel
theorem dX4_readsAll_127 : decode cX4_readsAll 127 = .ok (.iconst 0, 1) := by decide +kernel
theorem dX4_readsAll_128 : decode cX4_readsAll 128 = .ok (.ireturn, 1) := by decide +kernel
theorem dX4_moor_0 : decode cX4_moor 0 = .ok (.aload_n 0, 1) := by decide +kernel
theorem dX4_moor_1 : decode cX4_moor 1 = .ok (.iconst 0, 1) := by decide +kernel
theorem dX4_moor_2 : decode cX4_moor 2 = .ok (.invokevirtual 272, 3) := by decide +kernel
theorem dX4_moor_5 : decode cX4_moor 5 = .ok (.istore_n 1, 1) := by decide +kernel
theorem dX4_moor_6 : decode cX4_moor 6 = .ok (.aload_n 0, 1) := by decide +kernel
theorem dX4_moor_7 : decode cX4_moor 7 = .ok (.getfield 226, 3) := by decide +kernel
theorem dX4_moor_10 : decode cX4_moor 10 = .ok (.istore_n 2, 1) := by decide +kernel
theorem dX4_moor_11 : decode cX4_moor 11 = .ok (.iload_n 1, 1) := by decide +kernel
theorem dX4_moor_12 : decode cX4_moor 12 = .ok (.ifCond .eq 18, 3) := by decide +kernel
theorem dX4_moor_15 : decode cX4_moor 15 = .ok (.aload_n 0, 1) := by decide +kernel
theorem dX4_moor_16 : decode cX4_moor 16 = .ok (.invokevirtual 54, 3) := by decide +kernel
theorem dX4_moor_19 : decode cX4_moor 19 = .ok (.aload_n 0, 1) := by decide +kernel
theorem dX4_moor_20 : decode cX4_moor 20 = .ok (.iconst 1, 1) := by decide +kernel
theorem dX4_moor_21 : decode cX4_moor 21 = .ok (.invokevirtual 272, 3) := by decide +kernel
theorem dX4_moor_24 : decode cX4_moor 24 = .ok (.istore_n 1, 1) := by decide +kernel
theorem dX4_moor_25 : decode cX4_moor 25 = .ok (.aload_n 0, 1) := by decide +kernel
theorem dX4_moor_26 : decode cX4_moor 26 = .ok (.iconst 0, 1) := by decide +kernel
theorem dX4_moor_27 : decode cX4_moor 27 = .ok (.putfield 276, 3) := by decide +kernel
theorem dX4_moor_30 : decode cX4_moor 30 = .ok (.aload_n 0, 1) := by decide +kernel
theorem dX4_moor_31 : decode cX4_moor 31 = .ok (.iconst 0, 1) := by decide +kernel
theorem dX4_moor_32 : decode cX4_moor 32 = .ok (.putfield 218, 3) := by decide +kernel
theorem dX4_moor_35 : decode cX4_moor 35 = .ok (.iload_n 1, 1) := by decide +kernel
theorem dX4_moor_36 : decode cX4_moor 36 = .ok (.ifCond .eq 12, 3) := by decide +kernel
theorem dX4_moor_39 : decode cX4_moor 39 = .ok (.aload_n 0, 1) := by decide +kernel
theorem dX4_moor_40 : decode cX4_moor 40 = .ok (.getfield 7, 3) := by decide +kernel
theorem dX4_moor_43 : decode cX4_moor 43 = .ok (.iconst 5, 1) := by decide +kernel
theorem dX4_moor_44 : decode cX4_moor 44 = .ok (.iaload, 1) := by decide +kernel
theorem dX4_moor_45 : decode cX4_moor 45 = .ok (.goto 7, 3) := by decide +kernel
theorem dX4_moor_48 : decode cX4_moor 48 = .ok (.bipush (-100), 2) := by decide +kernel
theorem dX4_moor_50 : decode cX4_moor 50 = .ok (.iload_n 2, 1) := by decide +kernel
theorem dX4_moor_51 : decode cX4_moor 51 = .ok (.isub, 1) := by decide +kernel
theorem dX4_moor_52 : decode cX4_moor 52 = .ok (.ireturn, 1) := by decide +kernel
theorem dX4_mustBe_0 : decode cX4_mustBe 0 = .ok (.iload_n 2, 1) := by decide +kernel
theorem dX4_mustBe_1 : decode cX4_mustBe 1 = .ok (.ifCond .ne 12, 3) := by decide +kernel
theorem dX4_mustBe_4 : decode cX4_mustBe 4 = .ok (.aload_n 0, 1) := by decide +kernel
theorem dX4_mustBe_5 : decode cX4_mustBe 5 = .ok (.iload_n 1, 1) := by decide +kernel
theorem dX4_mustBe_6 : decode cX4_mustBe 6 = .ok (.iconst 2, 1) := by decide +kernel
theorem dX4_mustBe_7 : decode cX4_mustBe 7 = .ok (.invokevirtual 67, 3) := by decide +kernel
theorem dX4_mustBe_10 : decode cX4_mustBe 10 = .ok (.goto 29, 3) := by decide +kernel
theorem dX4_mustBe_13 : decode cX4_mustBe 13 = .ok (.iload_n 2, 1) := by decide +kernel
theorem dX4_mustBe_14 : decode cX4_mustBe 14 = .ok (.iconst 1, 1) := by decide +kernel
theorem dX4_mustBe_15 : decode cX4_mustBe 15 = .ok (.if_icmp .ne 20, 3) := by decide +kernel
theorem dX4_mustBe_18 : decode cX4_mustBe 18 = .ok (.aload_n 0, 1) := by decide +kernel
theorem dX4_mustBe_19 : decode cX4_mustBe 19 = .ok (.getfield 7, 3) := by decide +kernel
theorem dX4_mustBe_22 : decode cX4_mustBe 22 = .ok (.bipush 39, 2) := by decide +kernel
theorem dX4_mustBe_24 : decode cX4_mustBe 24 = .ok (.aload_n 0, 1) := by decide +kernel
theorem dX4_mustBe_25 : decode cX4_mustBe 25 = .ok (.iload_n 1, 1) := by decide +kernel
theorem dX4_mustBe_26 : decode cX4_mustBe 26 = .ok (.iconst 3, 1) := by decide +kernel
theorem dX4_mustBe_27 : decode cX4_mustBe 27 = .ok (.invokevirtual 67, 3) := by decide +kernel
theorem dX4_mustBe_30 : decode cX4_mustBe 30 = .ok (.iadd, 1) := by decide +kernel
theorem dX4_mustBe_31 : decode cX4_mustBe 31 = .ok (.iaload, 1) := by decide +kernel
theorem dX4_mustBe_32 : decode cX4_mustBe 32 = .ok (.goto 7, 3) := by decide +kernel
theorem dX4_mustBe_35 : decode cX4_mustBe 35 = .ok (.aload_n 0, 1) := by decide +kernel
theorem dX4_mustBe_36 : decode cX4_mustBe 36 = .ok (.invokevirtual 162, 3) := by decide +kernel
theorem dX4_mustBe_39 : decode cX4_mustBe 39 = .ok (.ireturn, 1) := by decide +kernel
theorem dX4_prove_0 : decode cX4_prove 0 = .ok (.aload_n 0, 1) := by decide +kernel
theorem dX4_prove_1 : decode cX4_prove 1 = .ok (.iload_n 1, 1) := by decide +kernel
theorem dX4_prove_2 : decode cX4_prove 2 = .ok (.invokevirtual 127, 3) := by decide +kernel
theorem dX4_prove_5 : decode cX4_prove 5 = .ok (.ifCond .eq 15, 3) := by decide +kernel
theorem dX4_prove_8 : decode cX4_prove 8 = .ok (.iload_n 2, 1) := by decide +kernel
theorem dX4_prove_9 : decode cX4_prove 9 = .ok (.i2l, 1) := by decide +kernel
theorem dX4_prove_10 : decode cX4_prove 10 = .ok (.lconst 1, 1) := by decide +kernel
theorem dX4_prove_11 : decode cX4_prove 11 = .ok (.ldc2_w 261, 3) := by decide +kernel
theorem dX4_prove_14 : decode cX4_prove 14 = .ok (.invokestatic 61, 3) := by decide +kernel
theorem dX4_prove_17 : decode cX4_prove 17 = .ok (.ifCond .ne 5, 3) := by decide +kernel
theorem dX4_prove_20 : decode cX4_prove 20 = .ok (.iconst (-1), 1) := by decide +kernel
theorem dX4_prove_21 : decode cX4_prove 21 = .ok (.ireturn, 1) := by decide +kernel
theorem dX4_prove_22 : decode cX4_prove 22 = .ok (.aload_n 0, 1) := by decide +kernel
theorem dX4_prove_23 : decode cX4_prove 23 = .ok (.invokevirtual 170, 3) := by decide +kernel
theorem dX4_prove_26 : decode cX4_prove 26 = .ok (.aload_n 0, 1) := by decide +kernel
theorem dX4_prove_27 : decode cX4_prove 27 = .ok (.iload_n 2, 1) := by decide +kernel
theorem dX4_prove_28 : decode cX4_prove 28 = .ok (.putfield 276, 3) := by decide +kernel
theorem dX4_prove_31 : decode cX4_prove 31 = .ok (.iconst 0, 1) := by decide +kernel
theorem dX4_prove_32 : decode cX4_prove 32 = .ok (.istore_n 3, 1) := by decide +kernel
theorem dX4_prove_33 : decode cX4_prove 33 = .ok (.iload_n 3, 1) := by decide +kernel
theorem dX4_prove_34 : decode cX4_prove 34 = .ok (.iload_n 2, 1) := by decide +kernel
theorem dX4_prove_35 : decode cX4_prove 35 = .ok (.if_icmp .ge 46, 3) := by decide +kernel
theorem dX4_prove_38 : decode cX4_prove 38 = .ok (.aload_n 0, 1) := by decide +kernel
theorem dX4_prove_39 : decode cX4_prove 39 = .ok (.invokevirtual 107, 3) := by decide +kernel
theorem dX4_prove_42 : decode cX4_prove 42 = .ok (.iconst 0, 1) := by decide +kernel
theorem dX4_prove_43 : decode cX4_prove 43 = .ok (.istore 4, 2) := by decide +kernel
theorem dX4_prove_45 : decode cX4_prove 45 = .ok (.iload 4, 2) := by decide +kernel
theorem dX4_prove_47 : decode cX4_prove 47 = .ok (.iconst 3, 1) := by decide +kernel
theorem dX4_prove_48 : decode cX4_prove 48 = .ok (.if_icmp .ge 27, 3) := by decide +kernel
theorem dX4_prove_51 : decode cX4_prove 51 = .ok (.aload_n 0, 1) := by decide +kernel
theorem dX4_prove_52 : decode cX4_prove 52 = .ok (.getfield 29, 3) := by decide +kernel
theorem dX4_prove_55 : decode cX4_prove 55 = .ok (.iconst 3, 1) := by decide +kernel
theorem dX4_prove_56 : decode cX4_prove 56 = .ok (.iload_n 3, 1) := by decide +kernel
theorem dX4_prove_57 : decode cX4_prove 57 = .ok (.imul, 1) := by decide +kernel
theorem dX4_prove_58 : decode cX4_prove 58 = .ok (.iload 4, 2) := by decide +kernel
theorem dX4_prove_60 : decode cX4_prove 60 = .ok (.iadd, 1) := by decide +kernel
theorem dX4_prove_61 : decode cX4_prove 61 = .ok (.aload_n 0, 1) := by decide +kernel
theorem dX4_prove_62 : decode cX4_prove 62 = .ok (.iload_n 1, 1) := by decide +kernel
theorem dX4_prove_63 : decode cX4_prove 63 = .ok (.iload 4, 2) := by decide +kernel
theorem dX4_prove_65 : decode cX4_prove 65 = .ok (.invokevirtual 279, 3) := by decide +kernel
theorem dX4_prove_68 : decode cX4_prove 68 = .ok (.iastore, 1) := by decide +kernel
theorem dX4_prove_69 : decode cX4_prove 69 = .ok (.iinc 4 1, 3) := by decide +kernel
theorem dX4_prove_72 : decode cX4_prove 72 = .ok (.goto (-27), 3) := by decide +kernel
theorem dX4_prove_75 : decode cX4_prove 75 = .ok (.iinc 3 1, 3) := by decide +kernel
theorem dX4_prove_78 : decode cX4_prove 78 = .ok (.goto (-45), 3) := by decide +kernel
theorem dX4_prove_81 : decode cX4_prove 81 = .ok (.aload_n 0, 1) := by decide +kernel
theorem dX4_prove_82 : decode cX4_prove 82 = .ok (.invokevirtual 173, 3) := by decide +kernel
theorem dX4_prove_85 : decode cX4_prove 85 = .ok (.iload_n 2, 1) := by decide +kernel
theorem dX4_prove_86 : decode cX4_prove 86 = .ok (.ireturn, 1) := by decide +kernel
theorem dX4_row_0 : decode cX4_row 0 = .ok (.iload_n 1, 1) := by decide +kernel
theorem dX4_row_1 : decode cX4_row 1 = .ok (.i2l, 1) := by decide +kernel
theorem dX4_row_2 : decode cX4_row 2 = .ok (.lconst 0, 1) := by decide +kernel
theorem dX4_row_3 : decode cX4_row 3 = .ok (.aload_n 0, 1) := by decide +kernel
theorem dX4_row_4 : decode cX4_row 4 = .ok (.getfield 276, 3) := by decide +kernel
theorem dX4_row_7 : decode cX4_row 7 = .ok (.iconst 1, 1) := by decide +kernel
theorem dX4_row_8 : decode cX4_row 8 = .ok (.isub, 1) := by decide +kernel
theorem dX4_row_9 : decode cX4_row 9 = .ok (.i2l, 1) := by decide +kernel
theorem dX4_row_10 : decode cX4_row 10 = .ok (.invokestatic 61, 3) := by decide +kernel
theorem dX4_row_13 : decode cX4_row 13 = .ok (.ifCond .eq 28, 3) := by decide +kernel
theorem dX4_row_16 : decode cX4_row 16 = .ok (.iload_n 2, 1) := by decide +kernel
theorem dX4_row_17 : decode cX4_row 17 = .ok (.i2l, 1) := by decide +kernel
theorem dX4_row_18 : decode cX4_row 18 = .ok (.lconst 0, 1) := by decide +kernel
theorem dX4_row_19 : decode cX4_row 19 = .ok (.ldc2_w 141, 3) := by decide +kernel
theorem dX4_row_22 : decode cX4_row 22 = .ok (.invokestatic 61, 3) := by decide +kernel
theorem dX4_row_25 : decode cX4_row 25 = .ok (.ifCond .eq 16, 3) := by decide +kernel
theorem dX4_row_28 : decode cX4_row 28 = .ok (.aload_n 0, 1) := by decide +kernel
theorem dX4_row_29 : decode cX4_row 29 = .ok (.getfield 29, 3) := by decide +kernel
theorem dX4_row_32 : decode cX4_row 32 = .ok (.iconst 3, 1) := by decide +kernel
theorem dX4_row_33 : decode cX4_row 33 = .ok (.iload_n 1, 1) := by decide +kernel
theorem dX4_row_34 : decode cX4_row 34 = .ok (.imul, 1) := by decide +kernel
theorem dX4_row_35 : decode cX4_row 35 = .ok (.iload_n 2, 1) := by decide +kernel
theorem dX4_row_36 : decode cX4_row 36 = .ok (.iadd, 1) := by decide +kernel
theorem dX4_row_37 : decode cX4_row 37 = .ok (.iaload, 1) := by decide +kernel
theorem dX4_row_38 : decode cX4_row 38 = .ok (.goto 5, 3) := by decide +kernel
theorem dX4_row_41 : decode cX4_row 41 = .ok (.bipush (-9), 2) := by decide +kernel
theorem dX4_row_43 : decode cX4_row 43 = .ok (.ireturn, 1) := by decide +kernel
theorem dX4_alterRow_0 : decode cX4_alterRow 0 = .ok (.iload_n 1, 1) := by decide +kernel
theorem dX4_alterRow_1 : decode cX4_alterRow 1 = .ok (.i2l, 1) := by decide +kernel
theorem dX4_alterRow_2 : decode cX4_alterRow 2 = .ok (.lconst 0, 1) := by decide +kernel
theorem dX4_alterRow_3 : decode cX4_alterRow 3 = .ok (.aload_n 0, 1) := by decide +kernel
theorem dX4_alterRow_4 : decode cX4_alterRow 4 = .ok (.getfield 276, 3) := by decide +kernel
theorem dX4_alterRow_7 : decode cX4_alterRow 7 = .ok (.iconst 1, 1) := by decide +kernel
theorem dX4_alterRow_8 : decode cX4_alterRow 8 = .ok (.isub, 1) := by decide +kernel
theorem dX4_alterRow_9 : decode cX4_alterRow 9 = .ok (.i2l, 1) := by decide +kernel
theorem dX4_alterRow_10 : decode cX4_alterRow 10 = .ok (.invokestatic 61, 3) := by decide +kernel
theorem dX4_alterRow_13 : decode cX4_alterRow 13 = .ok (.ifCond .eq 15, 3) := by decide +kernel
theorem dX4_alterRow_16 : decode cX4_alterRow 16 = .ok (.iload_n 2, 1) := by decide +kernel
theorem dX4_alterRow_17 : decode cX4_alterRow 17 = .ok (.i2l, 1) := by decide +kernel
theorem dX4_alterRow_18 : decode cX4_alterRow 18 = .ok (.lconst 0, 1) := by decide +kernel
theorem dX4_alterRow_19 : decode cX4_alterRow 19 = .ok (.ldc2_w 141, 3) := by decide +kernel
theorem dX4_alterRow_22 : decode cX4_alterRow 22 = .ok (.invokestatic 61, 3) := by decide +kernel
theorem dX4_alterRow_25 : decode cX4_alterRow 25 = .ok (.ifCond .ne 6, 3) := by decide +kernel
theorem dX4_alterRow_28 : decode cX4_alterRow 28 = .ok (.bipush (-9), 2) := by decide +kernel
theorem dX4_alterRow_30 : decode cX4_alterRow 30 = .ok (.ireturn, 1) := by decide +kernel
theorem dX4_alterRow_31 : decode cX4_alterRow 31 = .ok (.aload_n 0, 1) := by decide +kernel
theorem dX4_alterRow_32 : decode cX4_alterRow 32 = .ok (.getfield 29, 3) := by decide +kernel
theorem dX4_alterRow_35 : decode cX4_alterRow 35 = .ok (.iconst 3, 1) := by decide +kernel
theorem dX4_alterRow_36 : decode cX4_alterRow 36 = .ok (.iload_n 1, 1) := by decide +kernel
theorem dX4_alterRow_37 : decode cX4_alterRow 37 = .ok (.imul, 1) := by decide +kernel
theorem dX4_alterRow_38 : decode cX4_alterRow 38 = .ok (.iload_n 2, 1) := by decide +kernel
theorem dX4_alterRow_39 : decode cX4_alterRow 39 = .ok (.iadd, 1) := by decide +kernel
theorem dX4_alterRow_40 : decode cX4_alterRow 40 = .ok (.iaload, 1) := by decide +kernel
theorem dX4_alterRow_41 : decode cX4_alterRow 41 = .ok (.istore 4, 2) := by decide +kernel
theorem dX4_alterRow_43 : decode cX4_alterRow 43 = .ok (.aload_n 0, 1) := by decide +kernel
theorem dX4_alterRow_44 : decode cX4_alterRow 44 = .ok (.getfield 29, 3) := by decide +kernel
theorem dX4_alterRow_47 : decode cX4_alterRow 47 = .ok (.iconst 3, 1) := by decide +kernel
theorem dX4_alterRow_48 : decode cX4_alterRow 48 = .ok (.iload_n 1, 1) := by decide +kernel
theorem dX4_alterRow_49 : decode cX4_alterRow 49 = .ok (.imul, 1) := by decide +kernel
theorem dX4_alterRow_50 : decode cX4_alterRow 50 = .ok (.iload_n 2, 1) := by decide +kernel
theorem dX4_alterRow_51 : decode cX4_alterRow 51 = .ok (.iadd, 1) := by decide +kernel
theorem dX4_alterRow_52 : decode cX4_alterRow 52 = .ok (.iload_n 3, 1) := by decide +kernel
theorem dX4_alterRow_53 : decode cX4_alterRow 53 = .ok (.iastore, 1) := by decide +kernel
theorem dX4_alterRow_54 : decode cX4_alterRow 54 = .ok (.iload 4, 2) := by decide +kernel
theorem dX4_alterRow_56 : decode cX4_alterRow 56 = .ok (.ireturn, 1) := by decide +kernel
theorem dX4_judge_0 : decode cX4_judge 0 = .ok (.aload_n 0, 1) := by decide +kernel
theorem dX4_judge_1 : decode cX4_judge 1 = .ok (.iload_n 1, 1) := by decide +kernel
theorem dX4_judge_2 : decode cX4_judge 2 = .ok (.invokevirtual 127, 3) := by decide +kernel
theorem dX4_judge_5 : decode cX4_judge 5 = .ok (.ifCond .ne 5, 3) := by decide +kernel
theorem dX4_judge_8 : decode cX4_judge 8 = .ok (.iconst (-1), 1) := by decide +kernel
theorem dX4_judge_9 : decode cX4_judge 9 = .ok (.ireturn, 1) := by decide +kernel
theorem dX4_judge_10 : decode cX4_judge 10 = .ok (.aload_n 0, 1) := by decide +kernel
theorem dX4_judge_11 : decode cX4_judge 11 = .ok (.invokevirtual 170, 3) := by decide +kernel
theorem dX4_judge_14 : decode cX4_judge 14 = .ok (.iconst 0, 1) := by decide +kernel
theorem dX4_judge_15 : decode cX4_judge 15 = .ok (.istore_n 2, 1) := by decide +kernel
theorem dX4_judge_16 : decode cX4_judge 16 = .ok (.iconst 0, 1) := by decide +kernel
theorem dX4_judge_17 : decode cX4_judge 17 = .ok (.istore_n 3, 1) := by decide +kernel
theorem dX4_judge_18 : decode cX4_judge 18 = .ok (.iload_n 3, 1) := by decide +kernel
theorem dX4_judge_19 : decode cX4_judge 19 = .ok (.aload_n 0, 1) := by decide +kernel
theorem dX4_judge_20 : decode cX4_judge 20 = .ok (.getfield 276, 3) := by decide +kernel
theorem dX4_judge_23 : decode cX4_judge 23 = .ok (.if_icmp .ge 61, 3) := by decide +kernel
theorem dX4_judge_26 : decode cX4_judge 26 = .ok (.iload_n 2, 1) := by decide +kernel
theorem dX4_judge_27 : decode cX4_judge 27 = .ok (.ifCond .ne 57, 3) := by decide +kernel
theorem dX4_judge_30 : decode cX4_judge 30 = .ok (.aload_n 0, 1) := by decide +kernel
theorem dX4_judge_31 : decode cX4_judge 31 = .ok (.invokevirtual 107, 3) := by decide +kernel
theorem dX4_judge_34 : decode cX4_judge 34 = .ok (.iconst 0, 1) := by decide +kernel
theorem dX4_judge_35 : decode cX4_judge 35 = .ok (.istore 4, 2) := by decide +kernel
theorem dX4_judge_37 : decode cX4_judge 37 = .ok (.iload 4, 2) := by decide +kernel
theorem dX4_judge_39 : decode cX4_judge 39 = .ok (.iconst 3, 1) := by decide +kernel
theorem dX4_judge_40 : decode cX4_judge 40 = .ok (.if_icmp .ge 38, 3) := by decide +kernel
theorem dX4_judge_43 : decode cX4_judge 43 = .ok (.aload_n 0, 1) := by decide +kernel
theorem dX4_judge_44 : decode cX4_judge 44 = .ok (.getfield 29, 3) := by decide +kernel
theorem dX4_judge_47 : decode cX4_judge 47 = .ok (.iconst 3, 1) := by decide +kernel
theorem dX4_judge_48 : decode cX4_judge 48 = .ok (.iload_n 3, 1) := by decide +kernel
theorem dX4_judge_49 : decode cX4_judge 49 = .ok (.imul, 1) := by decide +kernel
theorem dX4_judge_50 : decode cX4_judge 50 = .ok (.iload 4, 2) := by decide +kernel
theorem dX4_judge_52 : decode cX4_judge 52 = .ok (.iadd, 1) := by decide +kernel
theorem dX4_judge_53 : decode cX4_judge 53 = .ok (.iaload, 1) := by decide +kernel
theorem dX4_judge_54 : decode cX4_judge 54 = .ok (.aload_n 0, 1) := by decide +kernel
theorem dX4_judge_55 : decode cX4_judge 55 = .ok (.iload_n 1, 1) := by decide +kernel
theorem dX4_judge_56 : decode cX4_judge 56 = .ok (.iload 4, 2) := by decide +kernel
theorem dX4_judge_58 : decode cX4_judge 58 = .ok (.invokevirtual 279, 3) := by decide +kernel
theorem dX4_judge_61 : decode cX4_judge 61 = .ok (.if_icmp .ne 7, 3) := by decide +kernel
theorem dX4_judge_64 : decode cX4_judge 64 = .ok (.iload_n 2, 1) := by decide +kernel
theorem dX4_judge_65 : decode cX4_judge 65 = .ok (.goto 6, 3) := by decide +kernel
theorem dX4_judge_68 : decode cX4_judge 68 = .ok (.iload_n 3, 1) := by decide +kernel
theorem dX4_judge_69 : decode cX4_judge 69 = .ok (.iconst 1, 1) := by decide +kernel
theorem dX4_judge_70 : decode cX4_judge 70 = .ok (.iadd, 1) := by decide +kernel
theorem dX4_judge_71 : decode cX4_judge 71 = .ok (.istore_n 2, 1) := by decide +kernel
theorem dX4_judge_72 : decode cX4_judge 72 = .ok (.iinc 4 1, 3) := by decide +kernel
theorem dX4_judge_75 : decode cX4_judge 75 = .ok (.goto (-38), 3) := by decide +kernel
theorem dX4_judge_78 : decode cX4_judge 78 = .ok (.iinc 3 1, 3) := by decide +kernel
theorem dX4_judge_81 : decode cX4_judge 81 = .ok (.goto (-63), 3) := by decide +kernel
theorem dX4_judge_84 : decode cX4_judge 84 = .ok (.aload_n 0, 1) := by decide +kernel
theorem dX4_judge_85 : decode cX4_judge 85 = .ok (.invokevirtual 173, 3) := by decide +kernel
theorem dX4_judge_88 : decode cX4_judge 88 = .ok (.iload_n 2, 1) := by decide +kernel
theorem dX4_judge_89 : decode cX4_judge 89 = .ok (.ireturn, 1) := by decide +kernel
theorem dX4_isSheet_0 : decode cX4_isSheet 0 = .ok (.iload_n 0, 1) := by decide +kernel
theorem dX4_isSheet_1 : decode cX4_isSheet 1 = .ok (.i2l, 1) := by decide +kernel
theorem dX4_isSheet_2 : decode cX4_isSheet 2 = .ok (.lconst 0, 1) := by decide +kernel
theorem dX4_isSheet_3 : decode cX4_isSheet 3 = .ok (.ldc2_w 110, 3) := by decide +kernel
theorem dX4_isSheet_6 : decode cX4_isSheet 6 = .ok (.invokestatic 61, 3) := by decide +kernel
theorem dX4_isSheet_9 : decode cX4_isSheet 9 = .ok (.ireturn, 1) := by decide +kernel
theorem dX4_minds_0 : decode cX4_minds 0 = .ok (.iload_n 1, 1) := by decide +kernel
theorem dX4_minds_1 : decode cX4_minds 1 = .ok (.invokestatic 199, 3) := by decide +kernel
theorem dX4_minds_4 : decode cX4_minds 4 = .ok (.ifCond .eq 37, 3) := by decide +kernel
theorem dX4_minds_7 : decode cX4_minds 7 = .ok (.aload_n 0, 1) := by decide +kernel
theorem dX4_minds_8 : decode cX4_minds 8 = .ok (.iload_n 3, 1) := by decide +kernel
theorem dX4_minds_9 : decode cX4_minds 9 = .ok (.invokevirtual 127, 3) := by decide +kernel
theorem dX4_minds_12 : decode cX4_minds 12 = .ok (.ifCond .eq 29, 3) := by decide +kernel
theorem dX4_minds_15 : decode cX4_minds 15 = .ok (.iload 4, 2) := by decide +kernel
theorem dX4_minds_17 : decode cX4_minds 17 = .ok (.i2l, 1) := by decide +kernel
theorem dX4_minds_18 : decode cX4_minds 18 = .ok (.lconst 0, 1) := by decide +kernel
theorem dX4_minds_19 : decode cX4_minds 19 = .ok (.ldc2_w 210, 3) := by decide +kernel
theorem dX4_minds_22 : decode cX4_minds 22 = .ok (.invokestatic 61, 3) := by decide +kernel
theorem dX4_minds_25 : decode cX4_minds 25 = .ok (.ifCond .eq 16, 3) := by decide +kernel
theorem dX4_minds_28 : decode cX4_minds 28 = .ok (.iload 4, 2) := by decide +kernel
theorem dX4_minds_30 : decode cX4_minds 30 = .ok (.aload_n 0, 1) := by decide +kernel
theorem dX4_minds_31 : decode cX4_minds 31 = .ok (.getfield 7, 3) := by decide +kernel
theorem dX4_minds_34 : decode cX4_minds 34 = .ok (.iconst 5, 1) := by decide +kernel
theorem dX4_minds_35 : decode cX4_minds 35 = .ok (.iaload, 1) := by decide +kernel
theorem dX4_minds_36 : decode cX4_minds 36 = .ok (.iload_n 3, 1) := by decide +kernel
theorem dX4_minds_37 : decode cX4_minds 37 = .ok (.isub, 1) := by decide +kernel
theorem dX4_minds_38 : decode cX4_minds 38 = .ok (.if_icmp .le 5, 3) := by decide +kernel
theorem dX4_minds_41 : decode cX4_minds 41 = .ok (.iconst (-1), 1) := by decide +kernel
theorem dX4_minds_42 : decode cX4_minds 42 = .ok (.ireturn, 1) := by decide +kernel
theorem dX4_minds_43 : decode cX4_minds 43 = .ok (.aload_n 0, 1) := by decide +kernel
theorem dX4_minds_44 : decode cX4_minds 44 = .ok (.getfield 32, 3) := by decide +kernel
theorem dX4_minds_47 : decode cX4_minds 47 = .ok (.iload_n 1, 1) := by decide +kernel
theorem dX4_minds_48 : decode cX4_minds 48 = .ok (.iaload, 1) := by decide +kernel
theorem dX4_minds_49 : decode cX4_minds 49 = .ok (.ifCond .ne 6, 3) := by decide +kernel
theorem dX4_minds_52 : decode cX4_minds 52 = .ok (.bipush (-11), 2) := by decide +kernel
theorem dX4_minds_54 : decode cX4_minds 54 = .ok (.ireturn, 1) := by decide +kernel
theorem dX4_minds_55 : decode cX4_minds 55 = .ok (.aload_n 0, 1) := by decide +kernel
theorem dX4_minds_56 : decode cX4_minds 56 = .ok (.getfield 32, 3) := by decide +kernel
theorem dX4_minds_59 : decode cX4_minds 59 = .ok (.iload_n 1, 1) := by decide +kernel
theorem dX4_minds_60 : decode cX4_minds 60 = .ok (.iaload, 1) := by decide +kernel
theorem dX4_minds_61 : decode cX4_minds 61 = .ok (.iconst 1, 1) := by decide +kernel
theorem dX4_minds_62 : decode cX4_minds 62 = .ok (.if_icmp .eq 6, 3) := by decide +kernel
theorem dX4_minds_65 : decode cX4_minds 65 = .ok (.bipush (-13), 2) := by decide +kernel
theorem dX4_minds_67 : decode cX4_minds 67 = .ok (.ireturn, 1) := by decide +kernel
theorem dX4_minds_68 : decode cX4_minds 68 = .ok (.iload_n 2, 1) := by decide +kernel
theorem dX4_minds_69 : decode cX4_minds 69 = .ok (.i2l, 1) := by decide +kernel
theorem dX4_minds_70 : decode cX4_minds 70 = .ok (.lconst 0, 1) := by decide +kernel
theorem dX4_minds_71 : decode cX4_minds 71 = .ok (.aload_n 0, 1) := by decide +kernel
theorem dX4_minds_72 : decode cX4_minds 72 = .ok (.getfield 35, 3) := by decide +kernel
theorem dX4_minds_75 : decode cX4_minds 75 = .ok (.iload_n 1, 1) := by decide +kernel
theorem dX4_minds_76 : decode cX4_minds 76 = .ok (.iaload, 1) := by decide +kernel
theorem dX4_minds_77 : decode cX4_minds 77 = .ok (.i2l, 1) := by decide +kernel
theorem dX4_minds_78 : decode cX4_minds 78 = .ok (.invokestatic 61, 3) := by decide +kernel
theorem dX4_minds_81 : decode cX4_minds 81 = .ok (.ifCond .eq 16, 3) := by decide +kernel
theorem dX4_minds_84 : decode cX4_minds 84 = .ok (.iload 4, 2) := by decide +kernel
theorem dX4_minds_86 : decode cX4_minds 86 = .ok (.aload_n 0, 1) := by decide +kernel
theorem dX4_minds_87 : decode cX4_minds 87 = .ok (.getfield 35, 3) := by decide +kernel
theorem dX4_minds_90 : decode cX4_minds 90 = .ok (.iload_n 1, 1) := by decide +kernel
theorem dX4_minds_91 : decode cX4_minds 91 = .ok (.iaload, 1) := by decide +kernel
theorem dX4_minds_92 : decode cX4_minds 92 = .ok (.iload_n 2, 1) := by decide +kernel
theorem dX4_minds_93 : decode cX4_minds 93 = .ok (.isub, 1) := by decide +kernel
theorem dX4_minds_94 : decode cX4_minds 94 = .ok (.if_icmp .le 6, 3) := by decide +kernel
theorem dX4_minds_97 : decode cX4_minds 97 = .ok (.bipush (-12), 2) := by decide +kernel
theorem dX4_minds_99 : decode cX4_minds 99 = .ok (.ireturn, 1) := by decide +kernel
theorem dX4_minds_100 : decode cX4_minds 100 = .ok (.iconst 0, 1) := by decide +kernel
theorem dX4_minds_101 : decode cX4_minds 101 = .ok (.istore 5, 2) := by decide +kernel
theorem dX4_minds_103 : decode cX4_minds 103 = .ok (.iload 5, 2) := by decide +kernel
theorem dX4_minds_105 : decode cX4_minds 105 = .ok (.iload 4, 2) := by decide +kernel
theorem dX4_minds_107 : decode cX4_minds 107 = .ok (.if_icmp .ge 36, 3) := by decide +kernel
theorem dX4_minds_110 : decode cX4_minds 110 = .ok (.aload_n 0, 1) := by decide +kernel
theorem dX4_minds_111 : decode cX4_minds 111 = .ok (.iload_n 3, 1) := by decide +kernel
theorem dX4_minds_112 : decode cX4_minds 112 = .ok (.iload 5, 2) := by decide +kernel
theorem dX4_minds_114 : decode cX4_minds 114 = .ok (.iadd, 1) := by decide +kernel
theorem dX4_minds_115 : decode cX4_minds 115 = .ok (.iconst 2, 1) := by decide +kernel
theorem dX4_minds_116 : decode cX4_minds 116 = .ok (.aload_n 0, 1) := by decide +kernel
theorem dX4_minds_117 : decode cX4_minds 117 = .ok (.getfield 38, 3) := by decide +kernel
theorem dX4_minds_120 : decode cX4_minds 120 = .ok (.bipush 40, 2) := by decide +kernel
theorem dX4_minds_122 : decode cX4_minds 122 = .ok (.iload_n 1, 1) := by decide +kernel
theorem dX4_minds_123 : decode cX4_minds 123 = .ok (.imul, 1) := by decide +kernel
theorem dX4_minds_124 : decode cX4_minds 124 = .ok (.iload_n 2, 1) := by decide +kernel
theorem dX4_minds_125 : decode cX4_minds 125 = .ok (.iadd, 1) := by decide +kernel
theorem dX4_minds_126 : decode cX4_minds 126 = .ok (.iload 5, 2) := by decide +kernel
theorem dX4_minds_128 : decode cX4_minds 128 = .ok (.iadd, 1) := by decide +kernel
theorem dX4_minds_129 : decode cX4_minds 129 = .ok (.laload, 1) := by decide +kernel
theorem dX4_minds_130 : decode cX4_minds 130 = .ok (.l2i, 1) := by decide +kernel
theorem dX4_minds_131 : decode cX4_minds 131 = .ok (.invokestatic 75, 3) := by decide +kernel
theorem dX4_minds_134 : decode cX4_minds 134 = .ok (.invokevirtual 103, 3) := by decide +kernel
theorem dX4_minds_137 : decode cX4_minds 137 = .ok (.iinc 5 1, 3) := by decide +kernel
theorem dX4_minds_140 : decode cX4_minds 140 = .ok (.goto (-37), 3) := by decide +kernel
theorem dX4_minds_143 : decode cX4_minds 143 = .ok (.iload 4, 2) := by decide +kernel
theorem dX4_minds_145 : decode cX4_minds 145 = .ok (.ireturn, 1) := by decide +kernel
theorem dX4_sheet_0 : decode cX4_sheet 0 = .ok (.iload_n 1, 1) := by decide +kernel
theorem dX4_sheet_1 : decode cX4_sheet 1 = .ok (.invokestatic 199, 3) := by decide +kernel
theorem dX4_sheet_4 : decode cX4_sheet 4 = .ok (.ifCond .eq 27, 3) := by decide +kernel
theorem dX4_sheet_7 : decode cX4_sheet 7 = .ok (.iload_n 2, 1) := by decide +kernel
theorem dX4_sheet_8 : decode cX4_sheet 8 = .ok (.i2l, 1) := by decide +kernel
theorem dX4_sheet_9 : decode cX4_sheet 9 = .ok (.ldc2_w 143, 3) := by decide +kernel
theorem dX4_sheet_12 : decode cX4_sheet 12 = .ok (.ldc2_w 110, 3) := by decide +kernel
theorem dX4_sheet_15 : decode cX4_sheet 15 = .ok (.invokestatic 61, 3) := by decide +kernel
theorem dX4_sheet_18 : decode cX4_sheet 18 = .ok (.ifCond .eq 13, 3) := by decide +kernel
theorem dX4_sheet_21 : decode cX4_sheet 21 = .ok (.iload_n 2, 1) := by decide +kernel
theorem dX4_sheet_22 : decode cX4_sheet 22 = .ok (.ifCond .lt 11, 3) := by decide +kernel
theorem dX4_sheet_25 : decode cX4_sheet 25 = .ok (.iload_n 3, 1) := by decide +kernel
theorem dX4_sheet_26 : decode cX4_sheet 26 = .ok (.bipush 40, 2) := by decide +kernel
theorem dX4_sheet_28 : decode cX4_sheet 28 = .ok (.if_icmp .le 5, 3) := by decide +kernel
theorem dX4_sheet_31 : decode cX4_sheet 31 = .ok (.iconst (-1), 1) := by decide +kernel
theorem dX4_sheet_32 : decode cX4_sheet 32 = .ok (.ireturn, 1) := by decide +kernel
theorem dX4_sheet_33 : decode cX4_sheet 33 = .ok (.iload_n 2, 1) := by decide +kernel
theorem dX4_sheet_34 : decode cX4_sheet 34 = .ok (.ifCond .lt 10, 3) := by decide +kernel
theorem dX4_sheet_37 : decode cX4_sheet 37 = .ok (.iload_n 3, 1) := by decide +kernel
theorem dX4_sheet_38 : decode cX4_sheet 38 = .ok (.ifCond .ge 6, 3) := by decide +kernel
theorem dX4_sheet_41 : decode cX4_sheet 41 = .ok (.bipush (-14), 2) := by decide +kernel
theorem dX4_sheet_43 : decode cX4_sheet 43 = .ok (.ireturn, 1) := by decide +kernel
theorem dX4_sheet_44 : decode cX4_sheet 44 = .ok (.aload_n 0, 1) := by decide +kernel
theorem dX4_sheet_45 : decode cX4_sheet 45 = .ok (.getfield 32, 3) := by decide +kernel
theorem dX4_sheet_48 : decode cX4_sheet 48 = .ok (.iload_n 1, 1) := by decide +kernel
theorem dX4_sheet_49 : decode cX4_sheet 49 = .ok (.iload_n 2, 1) := by decide +kernel
theorem dX4_sheet_50 : decode cX4_sheet 50 = .ok (.iconst 1, 1) := by decide +kernel
theorem dX4_sheet_51 : decode cX4_sheet 51 = .ok (.iadd, 1) := by decide +kernel
theorem dX4_sheet_52 : decode cX4_sheet 52 = .ok (.iastore, 1) := by decide +kernel
theorem dX4_sheet_53 : decode cX4_sheet 53 = .ok (.aload_n 0, 1) := by decide +kernel
theorem dX4_sheet_54 : decode cX4_sheet 54 = .ok (.getfield 35, 3) := by decide +kernel
theorem dX4_sheet_57 : decode cX4_sheet 57 = .ok (.iload_n 1, 1) := by decide +kernel
theorem dX4_sheet_58 : decode cX4_sheet 58 = .ok (.iload_n 2, 1) := by decide +kernel
theorem dX4_sheet_59 : decode cX4_sheet 59 = .ok (.ifCond .ge 7, 3) := by decide +kernel
theorem dX4_sheet_62 : decode cX4_sheet 62 = .ok (.iconst 0, 1) := by decide +kernel
theorem dX4_sheet_63 : decode cX4_sheet 63 = .ok (.goto 4, 3) := by decide +kernel
theorem dX4_sheet_66 : decode cX4_sheet 66 = .ok (.iload_n 3, 1) := by decide +kernel
theorem dX4_sheet_67 : decode cX4_sheet 67 = .ok (.iastore, 1) := by decide +kernel
theorem dX4_sheet_68 : decode cX4_sheet 68 = .ok (.iconst 0, 1) := by decide +kernel
theorem dX4_sheet_69 : decode cX4_sheet 69 = .ok (.istore 4, 2) := by decide +kernel
theorem dX4_sheet_71 : decode cX4_sheet 71 = .ok (.iload 4, 2) := by decide +kernel
theorem dX4_sheet_73 : decode cX4_sheet 73 = .ok (.bipush 40, 2) := by decide +kernel
theorem dX4_sheet_75 : decode cX4_sheet 75 = .ok (.if_icmp .ge 22, 3) := by decide +kernel
theorem dX4_sheet_78 : decode cX4_sheet 78 = .ok (.aload_n 0, 1) := by decide +kernel
theorem dX4_sheet_79 : decode cX4_sheet 79 = .ok (.getfield 38, 3) := by decide +kernel
theorem dX4_sheet_82 : decode cX4_sheet 82 = .ok (.bipush 40, 2) := by decide +kernel
theorem dX4_sheet_84 : decode cX4_sheet 84 = .ok (.iload_n 1, 1) := by decide +kernel
theorem dX4_sheet_85 : decode cX4_sheet 85 = .ok (.imul, 1) := by decide +kernel
theorem dX4_sheet_86 : decode cX4_sheet 86 = .ok (.iload 4, 2) := by decide +kernel
theorem dX4_sheet_88 : decode cX4_sheet 88 = .ok (.iadd, 1) := by decide +kernel
theorem dX4_sheet_89 : decode cX4_sheet 89 = .ok (.lconst 0, 1) := by decide +kernel
theorem dX4_sheet_90 : decode cX4_sheet 90 = .ok (.lastore, 1) := by decide +kernel
theorem dX4_sheet_91 : decode cX4_sheet 91 = .ok (.iinc 4 1, 3) := by decide +kernel
theorem dX4_sheet_94 : decode cX4_sheet 94 = .ok (.goto (-23), 3) := by decide +kernel
theorem dX4_sheet_97 : decode cX4_sheet 97 = .ok (.iconst 1, 1) := by decide +kernel
theorem dX4_sheet_98 : decode cX4_sheet 98 = .ok (.ireturn, 1) := by decide +kernel
theorem dX4_put_0 : decode cX4_put 0 = .ok (.iload_n 1, 1) := by decide +kernel
theorem dX4_put_1 : decode cX4_put 1 = .ok (.invokestatic 199, 3) := by decide +kernel
theorem dX4_put_4 : decode cX4_put 4 = .ok (.ifCond .ne 5, 3) := by decide +kernel
theorem dX4_put_7 : decode cX4_put 7 = .ok (.iconst (-1), 1) := by decide +kernel
theorem dX4_put_8 : decode cX4_put 8 = .ok (.ireturn, 1) := by decide +kernel
theorem dX4_put_9 : decode cX4_put 9 = .ok (.aload_n 0, 1) := by decide +kernel
theorem dX4_put_10 : decode cX4_put 10 = .ok (.getfield 32, 3) := by decide +kernel
theorem dX4_put_13 : decode cX4_put 13 = .ok (.iload_n 1, 1) := by decide +kernel
theorem dX4_put_14 : decode cX4_put 14 = .ok (.iaload, 1) := by decide +kernel
theorem dX4_put_15 : decode cX4_put 15 = .ok (.ifCond .ne 6, 3) := by decide +kernel
theorem dX4_put_18 : decode cX4_put 18 = .ok (.bipush (-11), 2) := by decide +kernel
theorem dX4_put_20 : decode cX4_put 20 = .ok (.ireturn, 1) := by decide +kernel
theorem dX4_put_21 : decode cX4_put 21 = .ok (.iload_n 2, 1) := by decide +kernel
theorem dX4_put_22 : decode cX4_put 22 = .ok (.i2l, 1) := by decide +kernel
theorem dX4_put_23 : decode cX4_put 23 = .ok (.lconst 0, 1) := by decide +kernel
theorem dX4_put_24 : decode cX4_put 24 = .ok (.aload_n 0, 1) := by decide +kernel
theorem dX4_put_25 : decode cX4_put 25 = .ok (.getfield 35, 3) := by decide +kernel
theorem dX4_put_28 : decode cX4_put 28 = .ok (.iload_n 1, 1) := by decide +kernel
theorem dX4_put_29 : decode cX4_put 29 = .ok (.iaload, 1) := by decide +kernel
theorem dX4_put_30 : decode cX4_put 30 = .ok (.iconst 1, 1) := by decide +kernel
theorem dX4_put_31 : decode cX4_put 31 = .ok (.isub, 1) := by decide +kernel
theorem dX4_put_32 : decode cX4_put 32 = .ok (.i2l, 1) := by decide +kernel
theorem dX4_put_33 : decode cX4_put 33 = .ok (.invokestatic 61, 3) := by decide +kernel
theorem dX4_put_36 : decode cX4_put 36 = .ok (.ifCond .ne 6, 3) := by decide +kernel
theorem dX4_put_39 : decode cX4_put 39 = .ok (.bipush (-12), 2) := by decide +kernel
theorem dX4_put_41 : decode cX4_put 41 = .ok (.ireturn, 1) := by decide +kernel
theorem dX4_put_42 : decode cX4_put 42 = .ok (.aload_n 0, 1) := by decide +kernel
theorem dX4_put_43 : decode cX4_put 43 = .ok (.getfield 38, 3) := by decide +kernel
theorem dX4_put_46 : decode cX4_put 46 = .ok (.bipush 40, 2) := by decide +kernel
theorem dX4_put_48 : decode cX4_put 48 = .ok (.iload_n 1, 1) := by decide +kernel
theorem dX4_put_49 : decode cX4_put 49 = .ok (.imul, 1) := by decide +kernel
theorem dX4_put_50 : decode cX4_put 50 = .ok (.iload_n 2, 1) := by decide +kernel
theorem dX4_put_51 : decode cX4_put 51 = .ok (.iadd, 1) := by decide +kernel
theorem dX4_put_52 : decode cX4_put 52 = .ok (.aload_n 0, 1) := by decide +kernel
theorem dX4_put_53 : decode cX4_put 53 = .ok (.getfield 32, 3) := by decide +kernel
theorem dX4_put_56 : decode cX4_put 56 = .ok (.iload_n 1, 1) := by decide +kernel
theorem dX4_put_57 : decode cX4_put 57 = .ok (.iaload, 1) := by decide +kernel
theorem dX4_put_58 : decode cX4_put 58 = .ok (.iconst 1, 1) := by decide +kernel
theorem dX4_put_59 : decode cX4_put 59 = .ok (.if_icmp .ne 9, 3) := by decide +kernel
theorem dX4_put_62 : decode cX4_put 62 = .ok (.iload_n 3, 1) := by decide +kernel
theorem dX4_put_63 : decode cX4_put 63 = .ok (.i2b, 1) := by decide +kernel
theorem dX4_put_64 : decode cX4_put 64 = .ok (.i2l, 1) := by decide +kernel
theorem dX4_put_65 : decode cX4_put 65 = .ok (.goto 21, 3) := by decide +kernel
theorem dX4_put_68 : decode cX4_put 68 = .ok (.aload_n 0, 1) := by decide +kernel
theorem dX4_put_69 : decode cX4_put 69 = .ok (.getfield 32, 3) := by decide +kernel
theorem dX4_put_72 : decode cX4_put 72 = .ok (.iload_n 1, 1) := by decide +kernel
theorem dX4_put_73 : decode cX4_put 73 = .ok (.iaload, 1) := by decide +kernel
theorem dX4_put_74 : decode cX4_put 74 = .ok (.iconst 2, 1) := by decide +kernel
theorem dX4_put_75 : decode cX4_put 75 = .ok (.if_icmp .ne 9, 3) := by decide +kernel
theorem dX4_put_78 : decode cX4_put 78 = .ok (.iload_n 3, 1) := by decide +kernel
theorem dX4_put_79 : decode cX4_put 79 = .ok (.i2s, 1) := by decide +kernel
theorem dX4_put_80 : decode cX4_put 80 = .ok (.i2l, 1) := by decide +kernel
theorem dX4_put_81 : decode cX4_put 81 = .ok (.goto 5, 3) := by decide +kernel
theorem dX4_put_84 : decode cX4_put 84 = .ok (.iload_n 3, 1) := by decide +kernel
theorem dX4_put_85 : decode cX4_put 85 = .ok (.i2l, 1) := by decide +kernel
theorem dX4_put_86 : decode cX4_put 86 = .ok (.lastore, 1) := by decide +kernel
theorem dX4_put_87 : decode cX4_put 87 = .ok (.iconst 1, 1) := by decide +kernel
theorem dX4_put_88 : decode cX4_put 88 = .ok (.ireturn, 1) := by decide +kernel
theorem dX4_item_0 : decode cX4_item 0 = .ok (.iload_n 1, 1) := by decide +kernel
theorem dX4_item_1 : decode cX4_item 1 = .ok (.invokestatic 199, 3) := by decide +kernel
theorem dX4_item_4 : decode cX4_item 4 = .ok (.ifCond .eq 15, 3) := by decide +kernel
theorem dX4_item_7 : decode cX4_item 7 = .ok (.iload_n 2, 1) := by decide +kernel
theorem dX4_item_8 : decode cX4_item 8 = .ok (.i2l, 1) := by decide +kernel
theorem dX4_item_9 : decode cX4_item 9 = .ok (.lconst 0, 1) := by decide +kernel
theorem dX4_item_10 : decode cX4_item 10 = .ok (.ldc2_w 110, 3) := by decide +kernel
theorem dX4_item_13 : decode cX4_item 13 = .ok (.invokestatic 61, 3) := by decide +kernel
theorem dX4_item_16 : decode cX4_item 16 = .ok (.ifCond .ne 5, 3) := by decide +kernel
theorem dX4_item_19 : decode cX4_item 19 = .ok (.iconst (-1), 1) := by decide +kernel
theorem dX4_item_20 : decode cX4_item 20 = .ok (.ireturn, 1) := by decide +kernel
theorem dX4_item_21 : decode cX4_item 21 = .ok (.aload_n 0, 1) := by decide +kernel
theorem dX4_item_22 : decode cX4_item 22 = .ok (.getfield 32, 3) := by decide +kernel
theorem dX4_item_25 : decode cX4_item 25 = .ok (.iload_n 1, 1) := by decide +kernel
theorem dX4_item_26 : decode cX4_item 26 = .ok (.iaload, 1) := by decide +kernel
theorem dX4_item_27 : decode cX4_item 27 = .ok (.ifCond .ne 6, 3) := by decide +kernel
theorem dX4_item_30 : decode cX4_item 30 = .ok (.bipush (-11), 2) := by decide +kernel
theorem dX4_item_32 : decode cX4_item 32 = .ok (.ireturn, 1) := by decide +kernel
theorem dX4_item_33 : decode cX4_item 33 = .ok (.aload_n 0, 1) := by decide +kernel
theorem dX4_item_34 : decode cX4_item 34 = .ok (.getfield 32, 3) := by decide +kernel
theorem dX4_item_37 : decode cX4_item 37 = .ok (.iload_n 1, 1) := by decide +kernel
theorem dX4_item_38 : decode cX4_item 38 = .ok (.iaload, 1) := by decide +kernel
theorem dX4_item_39 : decode cX4_item 39 = .ok (.iload_n 2, 1) := by decide +kernel
theorem dX4_item_40 : decode cX4_item 40 = .ok (.iconst 1, 1) := by decide +kernel
theorem dX4_item_41 : decode cX4_item 41 = .ok (.iadd, 1) := by decide +kernel
theorem dX4_item_42 : decode cX4_item 42 = .ok (.if_icmp .eq 6, 3) := by decide +kernel
theorem dX4_item_45 : decode cX4_item 45 = .ok (.bipush (-13), 2) := by decide +kernel
theorem dX4_item_47 : decode cX4_item 47 = .ok (.ireturn, 1) := by decide +kernel
theorem dX4_item_48 : decode cX4_item 48 = .ok (.iload_n 3, 1) := by decide +kernel
theorem dX4_item_49 : decode cX4_item 49 = .ok (.i2l, 1) := by decide +kernel
theorem dX4_item_50 : decode cX4_item 50 = .ok (.lconst 0, 1) := by decide +kernel
theorem dX4_item_51 : decode cX4_item 51 = .ok (.aload_n 0, 1) := by decide +kernel
theorem dX4_item_52 : decode cX4_item 52 = .ok (.getfield 35, 3) := by decide +kernel
theorem dX4_item_55 : decode cX4_item 55 = .ok (.iload_n 1, 1) := by decide +kernel
theorem dX4_item_56 : decode cX4_item 56 = .ok (.iaload, 1) := by decide +kernel
theorem dX4_item_57 : decode cX4_item 57 = .ok (.iconst 1, 1) := by decide +kernel
theorem dX4_item_58 : decode cX4_item 58 = .ok (.isub, 1) := by decide +kernel
theorem dX4_item_59 : decode cX4_item 59 = .ok (.i2l, 1) := by decide +kernel
theorem dX4_item_60 : decode cX4_item 60 = .ok (.invokestatic 61, 3) := by decide +kernel
theorem dX4_item_63 : decode cX4_item 63 = .ok (.ifCond .eq 18, 3) := by decide +kernel
theorem dX4_item_66 : decode cX4_item 66 = .ok (.aload_n 0, 1) := by decide +kernel
theorem dX4_item_67 : decode cX4_item 67 = .ok (.getfield 38, 3) := by decide +kernel
theorem dX4_item_70 : decode cX4_item 70 = .ok (.bipush 40, 2) := by decide +kernel
theorem dX4_item_72 : decode cX4_item 72 = .ok (.iload_n 1, 1) := by decide +kernel
theorem dX4_item_73 : decode cX4_item 73 = .ok (.imul, 1) := by decide +kernel
theorem dX4_item_74 : decode cX4_item 74 = .ok (.iload_n 3, 1) := by decide +kernel
theorem dX4_item_75 : decode cX4_item 75 = .ok (.iadd, 1) := by decide +kernel
theorem dX4_item_76 : decode cX4_item 76 = .ok (.laload, 1) := by decide +kernel
theorem dX4_item_77 : decode cX4_item 77 = .ok (.l2i, 1) := by decide +kernel
theorem dX4_item_78 : decode cX4_item 78 = .ok (.goto 5, 3) := by decide +kernel
theorem dX4_item_81 : decode cX4_item 81 = .ok (.bipush (-12), 2) := by decide +kernel
theorem dX4_item_83 : decode cX4_item 83 = .ok (.ireturn, 1) := by decide +kernel
theorem dX4_shelf_0 : decode cX4_shelf 0 = .ok (.iload_n 2, 1) := by decide +kernel
theorem dX4_shelf_1 : decode cX4_shelf 1 = .ok (.ifCond .ne 11, 3) := by decide +kernel
theorem dX4_shelf_4 : decode cX4_shelf 4 = .ok (.aload_n 0, 1) := by decide +kernel
theorem dX4_shelf_5 : decode cX4_shelf 5 = .ok (.iload_n 3, 1) := by decide +kernel
theorem dX4_shelf_6 : decode cX4_shelf 6 = .ok (.invokevirtual 127, 3) := by decide +kernel
theorem dX4_shelf_9 : decode cX4_shelf 9 = .ok (.goto 25, 3) := by decide +kernel
theorem dX4_shelf_12 : decode cX4_shelf 12 = .ok (.iload_n 2, 1) := by decide +kernel
theorem dX4_shelf_13 : decode cX4_shelf 13 = .ok (.iconst 1, 1) := by decide +kernel
theorem dX4_shelf_14 : decode cX4_shelf 14 = .ok (.if_icmp .ne 10, 3) := by decide +kernel
theorem dX4_shelf_17 : decode cX4_shelf 17 = .ok (.iload_n 3, 1) := by decide +kernel
theorem dX4_shelf_18 : decode cX4_shelf 18 = .ok (.invokestatic 199, 3) := by decide +kernel
theorem dX4_shelf_21 : decode cX4_shelf 21 = .ok (.goto 13, 3) := by decide +kernel
theorem dX4_shelf_24 : decode cX4_shelf 24 = .ok (.iload_n 2, 1) := by decide +kernel
theorem dX4_shelf_25 : decode cX4_shelf 25 = .ok (.iconst 2, 1) := by decide +kernel
theorem dX4_shelf_26 : decode cX4_shelf 26 = .ok (.if_icmp .ne 7, 3) := by decide +kernel
theorem dX4_shelf_29 : decode cX4_shelf 29 = .ok (.iconst 1, 1) := by decide +kernel
theorem dX4_shelf_30 : decode cX4_shelf 30 = .ok (.goto 4, 3) := by decide +kernel
theorem dX4_shelf_33 : decode cX4_shelf 33 = .ok (.iconst 0, 1) := by decide +kernel
theorem dX4_shelf_34 : decode cX4_shelf 34 = .ok (.istore 4, 2) := by decide +kernel
theorem dX4_shelf_36 : decode cX4_shelf 36 = .ok (.iload_n 1, 1) := by decide +kernel
theorem dX4_shelf_37 : decode cX4_shelf 37 = .ok (.i2l, 1) := by decide +kernel
theorem dX4_shelf_38 : decode cX4_shelf 38 = .ok (.lconst 0, 1) := by decide +kernel
theorem dX4_shelf_39 : decode cX4_shelf 39 = .ok (.ldc2_w 110, 3) := by decide +kernel
theorem dX4_shelf_42 : decode cX4_shelf 42 = .ok (.invokestatic 61, 3) := by decide +kernel
theorem dX4_shelf_45 : decode cX4_shelf 45 = .ok (.ifCond .eq 8, 3) := by decide +kernel
theorem dX4_shelf_48 : decode cX4_shelf 48 = .ok (.iload 4, 2) := by decide +kernel
theorem dX4_shelf_50 : decode cX4_shelf 50 = .ok (.ifCond .ne 5, 3) := by decide +kernel
theorem dX4_shelf_53 : decode cX4_shelf 53 = .ok (.iconst (-1), 1) := by decide +kernel
theorem dX4_shelf_54 : decode cX4_shelf 54 = .ok (.ireturn, 1) := by decide +kernel
theorem dX4_shelf_55 : decode cX4_shelf 55 = .ok (.iload_n 2, 1) := by decide +kernel
theorem dX4_shelf_56 : decode cX4_shelf 56 = .ok (.iconst 1, 1) := by decide +kernel
theorem dX4_shelf_57 : decode cX4_shelf 57 = .ok (.if_icmp .ne 16, 3) := by decide +kernel
theorem dX4_shelf_60 : decode cX4_shelf 60 = .ok (.aload_n 0, 1) := by decide +kernel
theorem dX4_shelf_61 : decode cX4_shelf 61 = .ok (.getfield 32, 3) := by decide +kernel
theorem dX4_shelf_64 : decode cX4_shelf 64 = .ok (.iload_n 3, 1) := by decide +kernel
theorem dX4_shelf_65 : decode cX4_shelf 65 = .ok (.iaload, 1) := by decide +kernel
theorem dX4_shelf_66 : decode cX4_shelf 66 = .ok (.ifCond .le 7, 3) := by decide +kernel
theorem dX4_shelf_69 : decode cX4_shelf 69 = .ok (.iconst 1, 1) := by decide +kernel
theorem dX4_shelf_70 : decode cX4_shelf 70 = .ok (.goto 4, 3) := by decide +kernel
theorem dX4_shelf_73 : decode cX4_shelf 73 = .ok (.iconst 0, 1) := by decide +kernel
theorem dX4_shelf_74 : decode cX4_shelf 74 = .ok (.istore 5, 2) := by decide +kernel
theorem dX4_shelf_76 : decode cX4_shelf 76 = .ok (.aload_n 0, 1) := by decide +kernel
theorem dX4_shelf_77 : decode cX4_shelf 77 = .ok (.getfield 42, 3) := by decide +kernel
theorem dX4_shelf_80 : decode cX4_shelf 80 = .ok (.iload_n 1, 1) := by decide +kernel
theorem dX4_shelf_81 : decode cX4_shelf 81 = .ok (.iload_n 2, 1) := by decide +kernel
theorem dX4_shelf_82 : decode cX4_shelf 82 = .ok (.ifCond .ne 7, 3) := by decide +kernel
theorem dX4_shelf_85 : decode cX4_shelf 85 = .ok (.iconst 1, 1) := by decide +kernel
theorem dX4_shelf_86 : decode cX4_shelf 86 = .ok (.goto 13, 3) := by decide +kernel
theorem dX4_shelf_89 : decode cX4_shelf 89 = .ok (.iload 5, 2) := by decide +kernel
theorem dX4_shelf_91 : decode cX4_shelf 91 = .ok (.ifCond .eq 7, 3) := by decide +kernel
theorem dX4_shelf_94 : decode cX4_shelf 94 = .ok (.iconst 2, 1) := by decide +kernel
theorem dX4_shelf_95 : decode cX4_shelf 95 = .ok (.goto 4, 3) := by decide +kernel
theorem dX4_shelf_98 : decode cX4_shelf 98 = .ok (.iconst 0, 1) := by decide +kernel
theorem dX4_shelf_99 : decode cX4_shelf 99 = .ok (.iastore, 1) := by decide +kernel
theorem dX4_shelf_100 : decode cX4_shelf 100 = .ok (.aload_n 0, 1) := by decide +kernel
theorem dX4_shelf_101 : decode cX4_shelf 101 = .ok (.getfield 45, 3) := by decide +kernel
theorem dX4_shelf_104 : decode cX4_shelf 104 = .ok (.iload_n 1, 1) := by decide +kernel
theorem dX4_shelf_105 : decode cX4_shelf 105 = .ok (.iload_n 2, 1) := by decide +kernel
theorem dX4_shelf_106 : decode cX4_shelf 106 = .ok (.ifCond .ne 7, 3) := by decide +kernel
theorem dX4_shelf_109 : decode cX4_shelf 109 = .ok (.iload_n 3, 1) := by decide +kernel
theorem dX4_shelf_110 : decode cX4_shelf 110 = .ok (.goto 20, 3) := by decide +kernel
theorem dX4_shelf_113 : decode cX4_shelf 113 = .ok (.iload 5, 2) := by decide +kernel
theorem dX4_shelf_115 : decode cX4_shelf 115 = .ok (.ifCond .eq 14, 3) := by decide +kernel
theorem dX4_shelf_118 : decode cX4_shelf 118 = .ok (.aload_n 0, 1) := by decide +kernel
theorem dX4_shelf_119 : decode cX4_shelf 119 = .ok (.getfield 32, 3) := by decide +kernel
theorem dX4_shelf_122 : decode cX4_shelf 122 = .ok (.iload_n 3, 1) := by decide +kernel
theorem dX4_shelf_123 : decode cX4_shelf 123 = .ok (.iaload, 1) := by decide +kernel
theorem dX4_shelf_124 : decode cX4_shelf 124 = .ok (.iconst 1, 1) := by decide +kernel
theorem dX4_shelf_125 : decode cX4_shelf 125 = .ok (.isub, 1) := by decide +kernel
theorem dX4_shelf_126 : decode cX4_shelf 126 = .ok (.goto 4, 3) := by decide +kernel
theorem dX4_shelf_129 : decode cX4_shelf 129 = .ok (.iconst 0, 1) := by decide +kernel
theorem dX4_shelf_130 : decode cX4_shelf 130 = .ok (.iastore, 1) := by decide +kernel
theorem dX4_shelf_131 : decode cX4_shelf 131 = .ok (.aload_n 0, 1) := by decide +kernel
theorem dX4_shelf_132 : decode cX4_shelf 132 = .ok (.getfield 48, 3) := by decide +kernel
theorem dX4_shelf_135 : decode cX4_shelf 135 = .ok (.iload_n 1, 1) := by decide +kernel
theorem dX4_shelf_136 : decode cX4_shelf 136 = .ok (.iload 5, 2) := by decide +kernel
theorem dX4_shelf_138 : decode cX4_shelf 138 = .ok (.ifCond .eq 12, 3) := by decide +kernel
theorem dX4_shelf_141 : decode cX4_shelf 141 = .ok (.aload_n 0, 1) := by decide +kernel
theorem dX4_shelf_142 : decode cX4_shelf 142 = .ok (.getfield 35, 3) := by decide +kernel
theorem dX4_shelf_145 : decode cX4_shelf 145 = .ok (.iload_n 3, 1) := by decide +kernel
theorem dX4_shelf_146 : decode cX4_shelf 146 = .ok (.iaload, 1) := by decide +kernel
theorem dX4_shelf_147 : decode cX4_shelf 147 = .ok (.goto 4, 3) := by decide +kernel
theorem dX4_shelf_150 : decode cX4_shelf 150 = .ok (.iconst 0, 1) := by decide +kernel
theorem dX4_shelf_151 : decode cX4_shelf 151 = .ok (.iastore, 1) := by decide +kernel
theorem dX4_shelf_152 : decode cX4_shelf 152 = .ok (.iconst 1, 1) := by decide +kernel
theorem dX4_shelf_153 : decode cX4_shelf 153 = .ok (.ireturn, 1) := by decide +kernel
theorem dX4_holdsNothing_0 : decode cX4_holdsNothing 0 = .ok (.aload_n 0, 1) := by decide +kernel
theorem dX4_holdsNothing_1 : decode cX4_holdsNothing 1 = .ok (.getfield 42, 3) := by decide +kernel
theorem dX4_holdsNothing_4 : decode cX4_holdsNothing 4 = .ok (.iload_n 1, 1) := by decide +kernel
theorem dX4_holdsNothing_5 : decode cX4_holdsNothing 5 = .ok (.iaload, 1) := by decide +kernel
theorem dX4_holdsNothing_6 : decode cX4_holdsNothing 6 = .ok (.ifCond .eq 26, 3) := by decide +kernel
theorem dX4_holdsNothing_9 : decode cX4_holdsNothing 9 = .ok (.aload_n 0, 1) := by decide +kernel
theorem dX4_holdsNothing_10 : decode cX4_holdsNothing 10 = .ok (.getfield 42, 3) := by decide +kernel
theorem dX4_holdsNothing_13 : decode cX4_holdsNothing 13 = .ok (.iload_n 1, 1) := by decide +kernel
theorem dX4_holdsNothing_14 : decode cX4_holdsNothing 14 = .ok (.iaload, 1) := by decide +kernel
theorem dX4_holdsNothing_15 : decode cX4_holdsNothing 15 = .ok (.iconst 1, 1) := by decide +kernel
theorem dX4_holdsNothing_16 : decode cX4_holdsNothing 16 = .ok (.if_icmp .ne 20, 3) := by decide +kernel
theorem dX4_holdsNothing_19 : decode cX4_holdsNothing 19 = .ok (.aload_n 0, 1) := by decide +kernel
theorem dX4_holdsNothing_20 : decode cX4_holdsNothing 20 = .ok (.aload_n 0, 1) := by decide +kernel
theorem dX4_holdsNothing_21 : decode cX4_holdsNothing 21 = .ok (.getfield 45, 3) := by decide +kernel
theorem dX4_holdsNothing_24 : decode cX4_holdsNothing 24 = .ok (.iload_n 1, 1) := by decide +kernel
theorem dX4_holdsNothing_25 : decode cX4_holdsNothing 25 = .ok (.iaload, 1) := by decide +kernel
theorem dX4_holdsNothing_26 : decode cX4_holdsNothing 26 = .ok (.invokevirtual 127, 3) := by decide +kernel
theorem dX4_holdsNothing_29 : decode cX4_holdsNothing 29 = .ok (.ifCond .ne 7, 3) := by decide +kernel
theorem dX4_holdsNothing_32 : decode cX4_holdsNothing 32 = .ok (.iconst 1, 1) := by decide +kernel
theorem dX4_holdsNothing_33 : decode cX4_holdsNothing 33 = .ok (.goto 4, 3) := by decide +kernel
theorem dX4_holdsNothing_36 : decode cX4_holdsNothing 36 = .ok (.iconst 0, 1) := by decide +kernel
theorem dX4_holdsNothing_37 : decode cX4_holdsNothing 37 = .ok (.ireturn, 1) := by decide +kernel
theorem dX4_above_0 : decode cX4_above 0 = .ok (.iload_n 0, 1) := by decide +kernel
theorem dX4_above_1 : decode cX4_above 1 = .ok (.iconst 3, 1) := by decide +kernel
theorem dX4_above_2 : decode cX4_above 2 = .ok (.if_icmp .ne 7, 3) := by decide +kernel
theorem dX4_above_5 : decode cX4_above 5 = .ok (.iconst 1, 1) := by decide +kernel
theorem dX4_above_6 : decode cX4_above 6 = .ok (.goto 13, 3) := by decide +kernel
theorem dX4_above_9 : decode cX4_above 9 = .ok (.iload_n 0, 1) := by decide +kernel
theorem dX4_above_10 : decode cX4_above 10 = .ok (.iconst 4, 1) := by decide +kernel
theorem dX4_above_11 : decode cX4_above 11 = .ok (.if_icmp .ne 7, 3) := by decide +kernel
theorem dX4_above_14 : decode cX4_above 14 = .ok (.iconst 2, 1) := by decide +kernel
theorem dX4_above_15 : decode cX4_above 15 = .ok (.goto 4, 3) := by decide +kernel
theorem dX4_above_18 : decode cX4_above 18 = .ok (.iconst 0, 1) := by decide +kernel
theorem dX4_above_19 : decode cX4_above 19 = .ok (.ireturn, 1) := by decide +kernel
theorem dX4_taken_0 : decode cX4_taken 0 = .ok (.iload_n 1, 1) := by decide +kernel
theorem dX4_taken_1 : decode cX4_taken 1 = .ok (.i2l, 1) := by decide +kernel
theorem dX4_taken_2 : decode cX4_taken 2 = .ok (.lconst 0, 1) := by decide +kernel
theorem dX4_taken_3 : decode cX4_taken 3 = .ok (.ldc2_w 110, 3) := by decide +kernel
theorem dX4_taken_6 : decode cX4_taken 6 = .ok (.invokestatic 61, 3) := by decide +kernel
theorem dX4_taken_9 : decode cX4_taken 9 = .ok (.ifCond .eq 29, 3) := by decide +kernel
theorem dX4_taken_12 : decode cX4_taken 12 = .ok (.iload_n 2, 1) := by decide +kernel
theorem dX4_taken_13 : decode cX4_taken 13 = .ok (.i2l, 1) := by decide +kernel
theorem dX4_taken_14 : decode cX4_taken 14 = .ok (.lconst 0, 1) := by decide +kernel
theorem dX4_taken_15 : decode cX4_taken 15 = .ok (.ldc2_w 118, 3) := by decide +kernel
theorem dX4_taken_18 : decode cX4_taken 18 = .ok (.invokestatic 61, 3) := by decide +kernel
theorem dX4_taken_21 : decode cX4_taken 21 = .ok (.ifCond .ne 19, 3) := by decide +kernel
theorem dX4_taken_24 : decode cX4_taken 24 = .ok (.iload_n 2, 1) := by decide +kernel
theorem dX4_taken_25 : decode cX4_taken 25 = .ok (.i2l, 1) := by decide +kernel
theorem dX4_taken_26 : decode cX4_taken 26 = .ok (.ldc2_w 261, 3) := by decide +kernel
theorem dX4_taken_29 : decode cX4_taken 29 = .ok (.ldc2_w 282, 3) := by decide +kernel
theorem dX4_taken_32 : decode cX4_taken 32 = .ok (.invokestatic 61, 3) := by decide +kernel
theorem dX4_taken_35 : decode cX4_taken 35 = .ok (.ifCond .ne 5, 3) := by decide +kernel
theorem dX4_taken_38 : decode cX4_taken 38 = .ok (.iconst (-1), 1) := by decide +kernel
theorem dX4_taken_39 : decode cX4_taken 39 = .ok (.ireturn, 1) := by decide +kernel
theorem dX4_taken_40 : decode cX4_taken 40 = .ok (.aload_n 0, 1) := by decide +kernel
theorem dX4_taken_41 : decode cX4_taken 41 = .ok (.iload_n 1, 1) := by decide +kernel
theorem dX4_taken_42 : decode cX4_taken 42 = .ok (.invokevirtual 284, 3) := by decide +kernel
theorem dX4_taken_45 : decode cX4_taken 45 = .ok (.ifCond .eq 6, 3) := by decide +kernel
theorem dX4_taken_48 : decode cX4_taken 48 = .ok (.bipush (-11), 2) := by decide +kernel
theorem dX4_taken_50 : decode cX4_taken 50 = .ok (.ireturn, 1) := by decide +kernel
theorem dX4_taken_51 : decode cX4_taken 51 = .ok (.aload_n 0, 1) := by decide +kernel
theorem dX4_taken_52 : decode cX4_taken 52 = .ok (.getfield 42, 3) := by decide +kernel
theorem dX4_taken_55 : decode cX4_taken 55 = .ok (.iload_n 1, 1) := by decide +kernel
theorem dX4_taken_56 : decode cX4_taken 56 = .ok (.iaload, 1) := by decide +kernel
theorem dX4_taken_57 : decode cX4_taken 57 = .ok (.iconst 2, 1) := by decide +kernel
theorem dX4_taken_58 : decode cX4_taken 58 = .ok (.if_icmp .ne 28, 3) := by decide +kernel
theorem dX4_taken_61 : decode cX4_taken 61 = .ok (.aload_n 0, 1) := by decide +kernel
theorem dX4_taken_62 : decode cX4_taken 62 = .ok (.getfield 45, 3) := by decide +kernel
theorem dX4_taken_65 : decode cX4_taken 65 = .ok (.iload_n 1, 1) := by decide +kernel
theorem dX4_taken_66 : decode cX4_taken 66 = .ok (.iaload, 1) := by decide +kernel
theorem dX4_taken_67 : decode cX4_taken 67 = .ok (.iload_n 2, 1) := by decide +kernel
theorem dX4_taken_68 : decode cX4_taken 68 = .ok (.bipush 10, 2) := by decide +kernel
theorem dX4_taken_70 : decode cX4_taken 70 = .ok (.isub, 1) := by decide +kernel
theorem dX4_taken_71 : decode cX4_taken 71 = .ok (.if_icmp .ne 12, 3) := by decide +kernel
theorem dX4_taken_74 : decode cX4_taken 74 = .ok (.aload_n 0, 1) := by decide +kernel
theorem dX4_taken_75 : decode cX4_taken 75 = .ok (.getfield 48, 3) := by decide +kernel
theorem dX4_taken_78 : decode cX4_taken 78 = .ok (.iload_n 1, 1) := by decide +kernel
theorem dX4_taken_79 : decode cX4_taken 79 = .ok (.iaload, 1) := by decide +kernel
theorem dX4_taken_80 : decode cX4_taken 80 = .ok (.goto 5, 3) := by decide +kernel
theorem dX4_taken_83 : decode cX4_taken 83 = .ok (.bipush (-13), 2) := by decide +kernel
theorem dX4_taken_85 : decode cX4_taken 85 = .ok (.ireturn, 1) := by decide +kernel
theorem dX4_taken_86 : decode cX4_taken 86 = .ok (.aload_n 0, 1) := by decide +kernel
theorem dX4_taken_87 : decode cX4_taken 87 = .ok (.aload_n 0, 1) := by decide +kernel
theorem dX4_taken_88 : decode cX4_taken 88 = .ok (.getfield 45, 3) := by decide +kernel
theorem dX4_taken_91 : decode cX4_taken 91 = .ok (.iload_n 1, 1) := by decide +kernel
theorem dX4_taken_92 : decode cX4_taken 92 = .ok (.iaload, 1) := by decide +kernel
theorem dX4_taken_93 : decode cX4_taken 93 = .ok (.iconst 0, 1) := by decide +kernel
theorem dX4_taken_94 : decode cX4_taken 94 = .ok (.invokevirtual 67, 3) := by decide +kernel
theorem dX4_taken_97 : decode cX4_taken 97 = .ok (.istore_n 3, 1) := by decide +kernel
theorem dX4_taken_98 : decode cX4_taken 98 = .ok (.iload_n 2, 1) := by decide +kernel
theorem dX4_taken_99 : decode cX4_taken 99 = .ok (.bipush 10, 2) := by decide +kernel
theorem dX4_taken_101 : decode cX4_taken 101 = .ok (.if_icmp .ge 29, 3) := by decide +kernel
theorem dX4_taken_104 : decode cX4_taken 104 = .ok (.iload_n 2, 1) := by decide +kernel
theorem dX4_taken_105 : decode cX4_taken 105 = .ok (.ifCond .eq 16, 3) := by decide +kernel
theorem dX4_taken_108 : decode cX4_taken 108 = .ok (.iload_n 3, 1) := by decide +kernel
theorem dX4_taken_109 : decode cX4_taken 109 = .ok (.iload_n 2, 1) := by decide +kernel
theorem dX4_taken_110 : decode cX4_taken 110 = .ok (.if_icmp .eq 11, 3) := by decide +kernel
theorem dX4_taken_113 : decode cX4_taken 113 = .ok (.iload_n 3, 1) := by decide +kernel
theorem dX4_taken_114 : decode cX4_taken 114 = .ok (.invokestatic 287, 3) := by decide +kernel
theorem dX4_taken_117 : decode cX4_taken 117 = .ok (.iload_n 2, 1) := by decide +kernel
theorem dX4_taken_118 : decode cX4_taken 118 = .ok (.if_icmp .ne 12, 3) := by decide +kernel
theorem dX4_taken_121 : decode cX4_taken 121 = .ok (.aload_n 0, 1) := by decide +kernel
theorem dX4_taken_122 : decode cX4_taken 122 = .ok (.getfield 45, 3) := by decide +kernel
theorem dX4_taken_125 : decode cX4_taken 125 = .ok (.iload_n 1, 1) := by decide +kernel
theorem dX4_taken_126 : decode cX4_taken 126 = .ok (.iaload, 1) := by decide +kernel
theorem dX4_taken_127 : decode cX4_taken 127 = .ok (.goto 5, 3) := by decide +kernel
theorem dX4_taken_130 : decode cX4_taken 130 = .ok (.bipush (-13), 2) := by decide +kernel
theorem dX4_taken_132 : decode cX4_taken 132 = .ok (.ireturn, 1) := by decide +kernel
theorem dX4_ran_0 : decode cX4_ran 0 = .ok (.aload_n 0, 1) := by decide +kernel
theorem dX4_ran_1 : decode cX4_ran 1 = .ok (.getfield 290, 3) := by decide +kernel
theorem dX4_ran_4 : decode cX4_ran 4 = .ok (.bipush 30, 2) := by decide +kernel
theorem dX4_ran_6 : decode cX4_ran 6 = .ok (.if_icmp .ge 30, 3) := by decide +kernel
theorem dX4_ran_9 : decode cX4_ran 9 = .ok (.aload_n 0, 1) := by decide +kernel
theorem dX4_ran_10 : decode cX4_ran 10 = .ok (.getfield 293, 3) := by decide +kernel
theorem dX4_ran_13 : decode cX4_ran 13 = .ok (.ifCond .ne 23, 3) := by decide +kernel
theorem dX4_ran_16 : decode cX4_ran 16 = .ok (.aload_n 0, 1) := by decide +kernel
theorem dX4_ran_17 : decode cX4_ran 17 = .ok (.getfield 51, 3) := by decide +kernel
theorem dX4_ran_20 : decode cX4_ran 20 = .ok (.aload_n 0, 1) := by decide +kernel
theorem dX4_ran_21 : decode cX4_ran 21 = .ok (.getfield 290, 3) := by decide +kernel
theorem dX4_ran_24 : decode cX4_ran 24 = .ok (.iload_n 1, 1) := by decide +kernel
theorem dX4_ran_25 : decode cX4_ran 25 = .ok (.iastore, 1) := by decide +kernel
theorem dX4_ran_26 : decode cX4_ran 26 = .ok (.aload_n 0, 1) := by decide +kernel
theorem dX4_ran_27 : decode cX4_ran 27 = .ok (.dup, 1) := by decide +kernel
theorem dX4_ran_28 : decode cX4_ran 28 = .ok (.getfield 290, 3) := by decide +kernel
theorem dX4_ran_31 : decode cX4_ran 31 = .ok (.iconst 1, 1) := by decide +kernel
theorem dX4_ran_32 : decode cX4_ran 32 = .ok (.iadd, 1) := by decide +kernel
theorem dX4_ran_33 : decode cX4_ran 33 = .ok (.putfield 290, 3) := by decide +kernel
theorem dX4_ran_36 : decode cX4_ran 36 = .ok (.return_, 1) := by decide +kernel
theorem dX4_swearsBy_0 : decode cX4_swearsBy 0 = .ok (.iload_n 1, 1) := by decide +kernel
theorem dX4_swearsBy_1 : decode cX4_swearsBy 1 = .ok (.tableswitch 98 0 4 #[35, 98, 50, 80, 65], 35) := by decide +kernel
theorem dX4_swearsBy_36 : decode cX4_swearsBy 36 = .ok (.aload_n 0, 1) := by decide +kernel
theorem dX4_swearsBy_37 : decode cX4_swearsBy 37 = .ok (.bipush 10, 2) := by decide +kernel
theorem dX4_swearsBy_39 : decode cX4_swearsBy 39 = .ok (.invokevirtual 297, 3) := by decide +kernel
theorem dX4_swearsBy_42 : decode cX4_swearsBy 42 = .ok (.iload_n 2, 1) := by decide +kernel
theorem dX4_swearsBy_43 : decode cX4_swearsBy 43 = .ok (.aload_n 0, 1) := by decide +kernel
theorem dX4_swearsBy_44 : decode cX4_swearsBy 44 = .ok (.getfield 300, 3) := by decide +kernel
theorem dX4_swearsBy_47 : decode cX4_swearsBy 47 = .ok (.iconst 3, 1) := by decide +kernel
theorem dX4_swearsBy_48 : decode cX4_swearsBy 48 = .ok (.imul, 1) := by decide +kernel
theorem dX4_swearsBy_49 : decode cX4_swearsBy 49 = .ok (.iadd, 1) := by decide +kernel
theorem dX4_swearsBy_50 : decode cX4_swearsBy 50 = .ok (.ireturn, 1) := by decide +kernel
theorem dX4_swearsBy_51 : decode cX4_swearsBy 51 = .ok (.aload_n 0, 1) := by decide +kernel
theorem dX4_swearsBy_52 : decode cX4_swearsBy 52 = .ok (.bipush 30, 2) := by decide +kernel
theorem dX4_swearsBy_54 : decode cX4_swearsBy 54 = .ok (.invokevirtual 297, 3) := by decide +kernel
theorem dX4_swearsBy_57 : decode cX4_swearsBy 57 = .ok (.aload_n 0, 1) := by decide +kernel
theorem dX4_swearsBy_58 : decode cX4_swearsBy 58 = .ok (.iconst 0, 1) := by decide +kernel
theorem dX4_swearsBy_59 : decode cX4_swearsBy 59 = .ok (.iload_n 2, 1) := by decide +kernel
theorem dX4_swearsBy_60 : decode cX4_swearsBy 60 = .ok (.invokevirtual 303, 3) := by decide +kernel
theorem dX4_swearsBy_63 : decode cX4_swearsBy 63 = .ok (.iconst 1, 1) := by decide +kernel
theorem dX4_swearsBy_64 : decode cX4_swearsBy 64 = .ok (.iadd, 1) := by decide +kernel
theorem dX4_swearsBy_65 : decode cX4_swearsBy 65 = .ok (.ireturn, 1) := by decide +kernel
theorem dX4_swearsBy_66 : decode cX4_swearsBy 66 = .ok (.aload_n 0, 1) := by decide +kernel
theorem dX4_swearsBy_67 : decode cX4_swearsBy 67 = .ok (.bipush 40, 2) := by decide +kernel
theorem dX4_swearsBy_69 : decode cX4_swearsBy 69 = .ok (.invokevirtual 297, 3) := by decide +kernel
theorem dX4_swearsBy_72 : decode cX4_swearsBy 72 = .ok (.iconst 0, 1) := by decide +kernel
theorem dX4_swearsBy_73 : decode cX4_swearsBy 73 = .ok (.aload_n 0, 1) := by decide +kernel
theorem dX4_swearsBy_74 : decode cX4_swearsBy 74 = .ok (.iconst 2, 1) := by decide +kernel
theorem dX4_swearsBy_75 : decode cX4_swearsBy 75 = .ok (.iload_n 2, 1) := by decide +kernel
theorem dX4_swearsBy_76 : decode cX4_swearsBy 76 = .ok (.invokevirtual 303, 3) := by decide +kernel
theorem dX4_swearsBy_79 : decode cX4_swearsBy 79 = .ok (.isub, 1) := by decide +kernel
theorem dX4_swearsBy_80 : decode cX4_swearsBy 80 = .ok (.ireturn, 1) := by decide +kernel
theorem dX4_swearsBy_81 : decode cX4_swearsBy 81 = .ok (.aload_n 0, 1) := by decide +kernel
theorem dX4_swearsBy_82 : decode cX4_swearsBy 82 = .ok (.bipush 51, 2) := by decide +kernel
theorem dX4_swearsBy_84 : decode cX4_swearsBy 84 = .ok (.invokevirtual 297, 3) := by decide +kernel
theorem dX4_swearsBy_87 : decode cX4_swearsBy 87 = .ok (.aload_n 0, 1) := by decide +kernel
theorem dX4_swearsBy_88 : decode cX4_swearsBy 88 = .ok (.iconst 1, 1) := by decide +kernel
theorem dX4_swearsBy_89 : decode cX4_swearsBy 89 = .ok (.iload_n 2, 1) := by decide +kernel
theorem dX4_swearsBy_90 : decode cX4_swearsBy 90 = .ok (.invokevirtual 303, 3) := by decide +kernel
theorem dX4_swearsBy_93 : decode cX4_swearsBy 93 = .ok (.aload_n 0, 1) := by decide +kernel
theorem dX4_swearsBy_94 : decode cX4_swearsBy 94 = .ok (.getfield 300, 3) := by decide +kernel
theorem dX4_swearsBy_97 : decode cX4_swearsBy 97 = .ok (.ixor, 1) := by decide +kernel
theorem dX4_swearsBy_98 : decode cX4_swearsBy 98 = .ok (.ireturn, 1) := by decide +kernel
theorem dX4_swearsBy_99 : decode cX4_swearsBy 99 = .ok (.aload_n 0, 1) := by decide +kernel
theorem dX4_swearsBy_100 : decode cX4_swearsBy 100 = .ok (.iconst 0, 1) := by decide +kernel
theorem dX4_swearsBy_101 : decode cX4_swearsBy 101 = .ok (.iload_n 2, 1) := by decide +kernel
theorem dX4_swearsBy_102 : decode cX4_swearsBy 102 = .ok (.invokevirtual 303, 3) := by decide +kernel
theorem dX4_swearsBy_105 : decode cX4_swearsBy 105 = .ok (.ireturn, 1) := by decide +kernel
theorem dX4_doubtsBy_0 : decode cX4_doubtsBy 0 = .ok (.iconst 0, 1) := by decide +kernel
theorem dX4_doubtsBy_1 : decode cX4_doubtsBy 1 = .ok (.istore_n 3, 1) := by decide +kernel
theorem dX4_doubtsBy_2 : decode cX4_doubtsBy 2 = .ok (.iload_n 1, 1) := by decide +kernel
theorem dX4_doubtsBy_3 : decode cX4_doubtsBy 3 = .ok (.tableswitch 117 0 4 #[33, 64, 117, 117, 79], 33) := by decide +kernel
theorem dX4_doubtsBy_36 : decode cX4_doubtsBy 36 = .ok (.aload_n 0, 1) := by decide +kernel
theorem dX4_doubtsBy_37 : decode cX4_doubtsBy 37 = .ok (.bipush 11, 2) := by decide +kernel
theorem dX4_doubtsBy_39 : decode cX4_doubtsBy 39 = .ok (.invokevirtual 297, 3) := by decide +kernel
theorem dX4_doubtsBy_42 : decode cX4_doubtsBy 42 = .ok (.aload_n 0, 1) := by decide +kernel
theorem dX4_doubtsBy_43 : decode cX4_doubtsBy 43 = .ok (.aload_n 0, 1) := by decide +kernel
theorem dX4_doubtsBy_44 : decode cX4_doubtsBy 44 = .ok (.aload_n 0, 1) := by decide +kernel
theorem dX4_doubtsBy_45 : decode cX4_doubtsBy 45 = .ok (.getfield 300, 3) := by decide +kernel
theorem dX4_doubtsBy_48 : decode cX4_doubtsBy 48 = .ok (.iconst 0, 1) := by decide +kernel
theorem dX4_doubtsBy_49 : decode cX4_doubtsBy 49 = .ok (.invokevirtual 67, 3) := by decide +kernel
theorem dX4_doubtsBy_52 : decode cX4_doubtsBy 52 = .ok (.iload_n 2, 1) := by decide +kernel
theorem dX4_doubtsBy_53 : decode cX4_doubtsBy 53 = .ok (.invokevirtual 303, 3) := by decide +kernel
theorem dX4_doubtsBy_56 : decode cX4_doubtsBy 56 = .ok (.aload_n 0, 1) := by decide +kernel
theorem dX4_doubtsBy_57 : decode cX4_doubtsBy 57 = .ok (.aload_n 0, 1) := by decide +kernel
theorem dX4_doubtsBy_58 : decode cX4_doubtsBy 58 = .ok (.getfield 300, 3) := by decide +kernel
theorem dX4_doubtsBy_61 : decode cX4_doubtsBy 61 = .ok (.iconst 1, 1) := by decide +kernel
theorem dX4_doubtsBy_62 : decode cX4_doubtsBy 62 = .ok (.invokevirtual 67, 3) := by decide +kernel
theorem dX4_doubtsBy_65 : decode cX4_doubtsBy 65 = .ok (.isub, 1) := by decide +kernel
theorem dX4_doubtsBy_66 : decode cX4_doubtsBy 66 = .ok (.ireturn, 1) := by decide +kernel
theorem dX4_doubtsBy_67 : decode cX4_doubtsBy 67 = .ok (.aload_n 0, 1) := by decide +kernel
theorem dX4_doubtsBy_68 : decode cX4_doubtsBy 68 = .ok (.bipush 20, 2) := by decide +kernel
theorem dX4_doubtsBy_70 : decode cX4_doubtsBy 70 = .ok (.invokevirtual 297, 3) := by decide +kernel
theorem dX4_doubtsBy_73 : decode cX4_doubtsBy 73 = .ok (.aload_n 0, 1) := by decide +kernel
theorem dX4_doubtsBy_74 : decode cX4_doubtsBy 74 = .ok (.iconst 0, 1) := by decide +kernel
theorem dX4_doubtsBy_75 : decode cX4_doubtsBy 75 = .ok (.iload_n 2, 1) := by decide +kernel
theorem dX4_doubtsBy_76 : decode cX4_doubtsBy 76 = .ok (.invokevirtual 306, 3) := by decide +kernel
theorem dX4_doubtsBy_79 : decode cX4_doubtsBy 79 = .ok (.iconst 2, 1) := by decide +kernel
theorem dX4_doubtsBy_80 : decode cX4_doubtsBy 80 = .ok (.imul, 1) := by decide +kernel
theorem dX4_doubtsBy_81 : decode cX4_doubtsBy 81 = .ok (.ireturn, 1) := by decide +kernel
theorem dX4_doubtsBy_82 : decode cX4_doubtsBy 82 = .ok (.aload_n 0, 1) := by decide +kernel
theorem dX4_doubtsBy_83 : decode cX4_doubtsBy 83 = .ok (.bipush 41, 2) := by decide +kernel
theorem dX4_doubtsBy_85 : decode cX4_doubtsBy 85 = .ok (.invokevirtual 297, 3) := by decide +kernel
theorem dX4_doubtsBy_88 : decode cX4_doubtsBy 88 = .ok (.aload_n 0, 1) := by decide +kernel
theorem dX4_doubtsBy_89 : decode cX4_doubtsBy 89 = .ok (.iconst 2, 1) := by decide +kernel
theorem dX4_doubtsBy_90 : decode cX4_doubtsBy 90 = .ok (.iload_n 2, 1) := by decide +kernel
theorem dX4_doubtsBy_91 : decode cX4_doubtsBy 91 = .ok (.invokevirtual 306, 3) := by decide +kernel
theorem dX4_doubtsBy_94 : decode cX4_doubtsBy 94 = .ok (.istore_n 3, 1) := by decide +kernel
theorem dX4_doubtsBy_95 : decode cX4_doubtsBy 95 = .ok (.iload_n 3, 1) := by decide +kernel
theorem dX4_doubtsBy_96 : decode cX4_doubtsBy 96 = .ok (.aload_n 0, 1) := by decide +kernel
theorem dX4_doubtsBy_97 : decode cX4_doubtsBy 97 = .ok (.aload_n 0, 1) := by decide +kernel
theorem dX4_doubtsBy_98 : decode cX4_doubtsBy 98 = .ok (.aload_n 0, 1) := by decide +kernel
theorem dX4_doubtsBy_99 : decode cX4_doubtsBy 99 = .ok (.getfield 300, 3) := by decide +kernel
theorem dX4_doubtsBy_102 : decode cX4_doubtsBy 102 = .ok (.iconst 0, 1) := by decide +kernel
theorem dX4_doubtsBy_103 : decode cX4_doubtsBy 103 = .ok (.invokevirtual 67, 3) := by decide +kernel
theorem dX4_doubtsBy_106 : decode cX4_doubtsBy 106 = .ok (.aload_n 0, 1) := by decide +kernel
theorem dX4_doubtsBy_107 : decode cX4_doubtsBy 107 = .ok (.aload_n 0, 1) := by decide +kernel
theorem dX4_doubtsBy_108 : decode cX4_doubtsBy 108 = .ok (.getfield 300, 3) := by decide +kernel
theorem dX4_doubtsBy_111 : decode cX4_doubtsBy 111 = .ok (.iconst 1, 1) := by decide +kernel
theorem dX4_doubtsBy_112 : decode cX4_doubtsBy 112 = .ok (.invokevirtual 67, 3) := by decide +kernel
theorem dX4_doubtsBy_115 : decode cX4_doubtsBy 115 = .ok (.invokevirtual 303, 3) := by decide +kernel
theorem dX4_doubtsBy_118 : decode cX4_doubtsBy 118 = .ok (.iadd, 1) := by decide +kernel
theorem dX4_doubtsBy_119 : decode cX4_doubtsBy 119 = .ok (.ireturn, 1) := by decide +kernel
theorem dX4_doubtsBy_120 : decode cX4_doubtsBy 120 = .ok (.aload_n 0, 1) := by decide +kernel
theorem dX4_doubtsBy_121 : decode cX4_doubtsBy 121 = .ok (.iload_n 1, 1) := by decide +kernel
theorem dX4_doubtsBy_122 : decode cX4_doubtsBy 122 = .ok (.invokestatic 287, 3) := by decide +kernel
theorem dX4_doubtsBy_125 : decode cX4_doubtsBy 125 = .ok (.iload_n 2, 1) := by decide +kernel
theorem dX4_doubtsBy_126 : decode cX4_doubtsBy 126 = .ok (.invokevirtual 306, 3) := by decide +kernel
theorem dX4_doubtsBy_129 : decode cX4_doubtsBy 129 = .ok (.ireturn, 1) := by decide +kernel
theorem dX4_partsBy_0 : decode cX4_partsBy 0 = .ok (.iconst 0, 1) := by decide +kernel
theorem dX4_partsBy_1 : decode cX4_partsBy 1 = .ok (.istore_n 3, 1) := by decide +kernel
theorem dX4_partsBy_2 : decode cX4_partsBy 2 = .ok (.iload_n 1, 1) := by decide +kernel
theorem dX4_partsBy_3 : decode cX4_partsBy 3 = .ok (.lookupswitch 144 #[(0, 33), (3, 86), (5, 111)], 33) := by decide +kernel
theorem dX4_partsBy_36 : decode cX4_partsBy 36 = .ok (.aload_n 0, 1) := by decide +kernel
theorem dX4_partsBy_37 : decode cX4_partsBy 37 = .ok (.bipush 12, 2) := by decide +kernel
theorem dX4_partsBy_39 : decode cX4_partsBy 39 = .ok (.invokevirtual 297, 3) := by decide +kernel
theorem dX4_partsBy_42 : decode cX4_partsBy 42 = .ok (.aload_n 0, 1) := by decide +kernel
theorem dX4_partsBy_43 : decode cX4_partsBy 43 = .ok (.aload_n 0, 1) := by decide +kernel
theorem dX4_partsBy_44 : decode cX4_partsBy 44 = .ok (.getfield 300, 3) := by decide +kernel
theorem dX4_partsBy_47 : decode cX4_partsBy 47 = .ok (.iconst 1, 1) := by decide +kernel
theorem dX4_partsBy_48 : decode cX4_partsBy 48 = .ok (.invokevirtual 67, 3) := by decide +kernel
theorem dX4_partsBy_51 : decode cX4_partsBy 51 = .ok (.aload_n 0, 1) := by decide +kernel
theorem dX4_partsBy_52 : decode cX4_partsBy 52 = .ok (.getfield 300, 3) := by decide +kernel
theorem dX4_partsBy_55 : decode cX4_partsBy 55 = .ok (.isub, 1) := by decide +kernel
theorem dX4_partsBy_56 : decode cX4_partsBy 56 = .ok (.istore_n 3, 1) := by decide +kernel
theorem dX4_partsBy_57 : decode cX4_partsBy 57 = .ok (.aload_n 0, 1) := by decide +kernel
theorem dX4_partsBy_58 : decode cX4_partsBy 58 = .ok (.aload_n 0, 1) := by decide +kernel
theorem dX4_partsBy_59 : decode cX4_partsBy 59 = .ok (.getfield 293, 3) := by decide +kernel
theorem dX4_partsBy_62 : decode cX4_partsBy 62 = .ok (.ifCond .ne 7, 3) := by decide +kernel
theorem dX4_partsBy_65 : decode cX4_partsBy 65 = .ok (.iload_n 3, 1) := by decide +kernel
theorem dX4_partsBy_66 : decode cX4_partsBy 66 = .ok (.ifCond .ne 7, 3) := by decide +kernel
theorem dX4_partsBy_69 : decode cX4_partsBy 69 = .ok (.iconst 1, 1) := by decide +kernel
theorem dX4_partsBy_70 : decode cX4_partsBy 70 = .ok (.goto 4, 3) := by decide +kernel
theorem dX4_partsBy_73 : decode cX4_partsBy 73 = .ok (.iconst 0, 1) := by decide +kernel
theorem dX4_partsBy_74 : decode cX4_partsBy 74 = .ok (.putfield 293, 3) := by decide +kernel
theorem dX4_partsBy_77 : decode cX4_partsBy 77 = .ok (.iload_n 3, 1) := by decide +kernel
theorem dX4_partsBy_78 : decode cX4_partsBy 78 = .ok (.ifCond .ne 7, 3) := by decide +kernel
theorem dX4_partsBy_81 : decode cX4_partsBy 81 = .ok (.iconst 0, 1) := by decide +kernel
theorem dX4_partsBy_82 : decode cX4_partsBy 82 = .ok (.goto 6, 3) := by decide +kernel
theorem dX4_partsBy_85 : decode cX4_partsBy 85 = .ok (.iload_n 2, 1) := by decide +kernel
theorem dX4_partsBy_86 : decode cX4_partsBy 86 = .ok (.iload_n 3, 1) := by decide +kernel
theorem dX4_partsBy_87 : decode cX4_partsBy 87 = .ok (.idiv, 1) := by decide +kernel
theorem dX4_partsBy_88 : decode cX4_partsBy 88 = .ok (.ireturn, 1) := by decide +kernel
theorem dX4_partsBy_89 : decode cX4_partsBy 89 = .ok (.aload_n 0, 1) := by decide +kernel
theorem dX4_partsBy_90 : decode cX4_partsBy 90 = .ok (.bipush 50, 2) := by decide +kernel
theorem dX4_partsBy_92 : decode cX4_partsBy 92 = .ok (.invokevirtual 297, 3) := by decide +kernel
theorem dX4_partsBy_95 : decode cX4_partsBy 95 = .ok (.aload_n 0, 1) := by decide +kernel
theorem dX4_partsBy_96 : decode cX4_partsBy 96 = .ok (.iconst 1, 1) := by decide +kernel
theorem dX4_partsBy_97 : decode cX4_partsBy 97 = .ok (.iload_n 2, 1) := by decide +kernel
theorem dX4_partsBy_98 : decode cX4_partsBy 98 = .ok (.iconst 4, 1) := by decide +kernel
theorem dX4_partsBy_99 : decode cX4_partsBy 99 = .ok (.imul, 1) := by decide +kernel
theorem dX4_partsBy_100 : decode cX4_partsBy 100 = .ok (.invokevirtual 309, 3) := by decide +kernel
theorem dX4_partsBy_103 : decode cX4_partsBy 103 = .ok (.aload_n 0, 1) := by decide +kernel
theorem dX4_partsBy_104 : decode cX4_partsBy 104 = .ok (.aload_n 0, 1) := by decide +kernel
theorem dX4_partsBy_105 : decode cX4_partsBy 105 = .ok (.getfield 300, 3) := by decide +kernel
theorem dX4_partsBy_108 : decode cX4_partsBy 108 = .ok (.iconst 1, 1) := by decide +kernel
theorem dX4_partsBy_109 : decode cX4_partsBy 109 = .ok (.invokevirtual 67, 3) := by decide +kernel
theorem dX4_partsBy_112 : decode cX4_partsBy 112 = .ok (.isub, 1) := by decide +kernel
theorem dX4_partsBy_113 : decode cX4_partsBy 113 = .ok (.ireturn, 1) := by decide +kernel
theorem dX4_partsBy_114 : decode cX4_partsBy 114 = .ok (.aload_n 0, 1) := by decide +kernel
theorem dX4_partsBy_115 : decode cX4_partsBy 115 = .ok (.bipush 61, 2) := by decide +kernel
theorem dX4_partsBy_117 : decode cX4_partsBy 117 = .ok (.invokevirtual 297, 3) := by decide +kernel
theorem dX4_partsBy_120 : decode cX4_partsBy 120 = .ok (.aload_n 0, 1) := by decide +kernel
theorem dX4_partsBy_121 : decode cX4_partsBy 121 = .ok (.iconst 0, 1) := by decide +kernel
theorem dX4_partsBy_122 : decode cX4_partsBy 122 = .ok (.iload_n 2, 1) := by decide +kernel
theorem dX4_partsBy_123 : decode cX4_partsBy 123 = .ok (.invokevirtual 309, 3) := by decide +kernel
theorem dX4_partsBy_126 : decode cX4_partsBy 126 = .ok (.istore_n 3, 1) := by decide +kernel
theorem dX4_partsBy_127 : decode cX4_partsBy 127 = .ok (.iload_n 3, 1) := by decide +kernel
theorem dX4_partsBy_128 : decode cX4_partsBy 128 = .ok (.aload_n 0, 1) := by decide +kernel
theorem dX4_partsBy_129 : decode cX4_partsBy 129 = .ok (.aload_n 0, 1) := by decide +kernel
theorem dX4_partsBy_130 : decode cX4_partsBy 130 = .ok (.aload_n 0, 1) := by decide +kernel
theorem dX4_partsBy_131 : decode cX4_partsBy 131 = .ok (.getfield 300, 3) := by decide +kernel
theorem dX4_partsBy_134 : decode cX4_partsBy 134 = .ok (.iconst 0, 1) := by decide +kernel
theorem dX4_partsBy_135 : decode cX4_partsBy 135 = .ok (.invokevirtual 67, 3) := by decide +kernel
theorem dX4_partsBy_138 : decode cX4_partsBy 138 = .ok (.aload_n 0, 1) := by decide +kernel
theorem dX4_partsBy_139 : decode cX4_partsBy 139 = .ok (.getfield 300, 3) := by decide +kernel
theorem dX4_partsBy_142 : decode cX4_partsBy 142 = .ok (.invokevirtual 303, 3) := by decide +kernel
theorem dX4_partsBy_145 : decode cX4_partsBy 145 = .ok (.iadd, 1) := by decide +kernel
theorem dX4_partsBy_146 : decode cX4_partsBy 146 = .ok (.ireturn, 1) := by decide +kernel
theorem dX4_partsBy_147 : decode cX4_partsBy 147 = .ok (.aload_n 0, 1) := by decide +kernel
theorem dX4_partsBy_148 : decode cX4_partsBy 148 = .ok (.iload_n 1, 1) := by decide +kernel
theorem dX4_partsBy_149 : decode cX4_partsBy 149 = .ok (.invokestatic 287, 3) := by decide +kernel
theorem dX4_partsBy_152 : decode cX4_partsBy 152 = .ok (.iload_n 2, 1) := by decide +kernel
theorem dX4_partsBy_153 : decode cX4_partsBy 153 = .ok (.invokevirtual 309, 3) := by decide +kernel
theorem dX4_partsBy_156 : decode cX4_partsBy 156 = .ok (.ireturn, 1) := by decide +kernel
theorem dX4_signsBy_0 : decode cX4_signsBy 0 = .ok (.iconst 0, 1) := by decide +kernel
theorem dX4_signsBy_1 : decode cX4_signsBy 1 = .ok (.istore_n 3, 1) := by decide +kernel
theorem dX4_signsBy_2 : decode cX4_signsBy 2 = .ok (.iload_n 1, 1) := by decide +kernel
theorem dX4_signsBy_3 : decode cX4_signsBy 3 = .ok (.lookupswitch 106 #[(0, 33), (2, 57), (5, 90)], 33) := by decide +kernel
theorem dX4_signsBy_36 : decode cX4_signsBy 36 = .ok (.aload_n 0, 1) := by decide +kernel
theorem dX4_signsBy_37 : decode cX4_signsBy 37 = .ok (.bipush 13, 2) := by decide +kernel
theorem dX4_signsBy_39 : decode cX4_signsBy 39 = .ok (.invokevirtual 297, 3) := by decide +kernel
theorem dX4_signsBy_42 : decode cX4_signsBy 42 = .ok (.aload_n 0, 1) := by decide +kernel
theorem dX4_signsBy_43 : decode cX4_signsBy 43 = .ok (.aload_n 0, 1) := by decide +kernel
theorem dX4_signsBy_44 : decode cX4_signsBy 44 = .ok (.aload_n 0, 1) := by decide +kernel
theorem dX4_signsBy_45 : decode cX4_signsBy 45 = .ok (.getfield 300, 3) := by decide +kernel
theorem dX4_signsBy_48 : decode cX4_signsBy 48 = .ok (.iconst 0, 1) := by decide +kernel
theorem dX4_signsBy_49 : decode cX4_signsBy 49 = .ok (.invokevirtual 67, 3) := by decide +kernel
theorem dX4_signsBy_52 : decode cX4_signsBy 52 = .ok (.iload_n 2, 1) := by decide +kernel
theorem dX4_signsBy_53 : decode cX4_signsBy 53 = .ok (.invokevirtual 306, 3) := by decide +kernel
theorem dX4_signsBy_56 : decode cX4_signsBy 56 = .ok (.bipush 9, 2) := by decide +kernel
theorem dX4_signsBy_58 : decode cX4_signsBy 58 = .ok (.ixor, 1) := by decide +kernel
theorem dX4_signsBy_59 : decode cX4_signsBy 59 = .ok (.ireturn, 1) := by decide +kernel
theorem dX4_signsBy_60 : decode cX4_signsBy 60 = .ok (.aload_n 0, 1) := by decide +kernel
theorem dX4_signsBy_61 : decode cX4_signsBy 61 = .ok (.bipush 31, 2) := by decide +kernel
theorem dX4_signsBy_63 : decode cX4_signsBy 63 = .ok (.invokevirtual 297, 3) := by decide +kernel
theorem dX4_signsBy_66 : decode cX4_signsBy 66 = .ok (.aload_n 0, 1) := by decide +kernel
theorem dX4_signsBy_67 : decode cX4_signsBy 67 = .ok (.iconst 0, 1) := by decide +kernel
theorem dX4_signsBy_68 : decode cX4_signsBy 68 = .ok (.iload_n 2, 1) := by decide +kernel
theorem dX4_signsBy_69 : decode cX4_signsBy 69 = .ok (.invokevirtual 312, 3) := by decide +kernel
theorem dX4_signsBy_72 : decode cX4_signsBy 72 = .ok (.istore_n 3, 1) := by decide +kernel
theorem dX4_signsBy_73 : decode cX4_signsBy 73 = .ok (.iload_n 3, 1) := by decide +kernel
theorem dX4_signsBy_74 : decode cX4_signsBy 74 = .ok (.aload_n 0, 1) := by decide +kernel
theorem dX4_signsBy_75 : decode cX4_signsBy 75 = .ok (.aload_n 0, 1) := by decide +kernel
theorem dX4_signsBy_76 : decode cX4_signsBy 76 = .ok (.aload_n 0, 1) := by decide +kernel
theorem dX4_signsBy_77 : decode cX4_signsBy 77 = .ok (.getfield 300, 3) := by decide +kernel
theorem dX4_signsBy_80 : decode cX4_signsBy 80 = .ok (.iconst 0, 1) := by decide +kernel
theorem dX4_signsBy_81 : decode cX4_signsBy 81 = .ok (.invokevirtual 67, 3) := by decide +kernel
theorem dX4_signsBy_84 : decode cX4_signsBy 84 = .ok (.aload_n 0, 1) := by decide +kernel
theorem dX4_signsBy_85 : decode cX4_signsBy 85 = .ok (.getfield 300, 3) := by decide +kernel
theorem dX4_signsBy_88 : decode cX4_signsBy 88 = .ok (.invokevirtual 309, 3) := by decide +kernel
theorem dX4_signsBy_91 : decode cX4_signsBy 91 = .ok (.isub, 1) := by decide +kernel
theorem dX4_signsBy_92 : decode cX4_signsBy 92 = .ok (.ireturn, 1) := by decide +kernel
theorem dX4_signsBy_93 : decode cX4_signsBy 93 = .ok (.aload_n 0, 1) := by decide +kernel
theorem dX4_signsBy_94 : decode cX4_signsBy 94 = .ok (.bipush 60, 2) := by decide +kernel
theorem dX4_signsBy_96 : decode cX4_signsBy 96 = .ok (.invokevirtual 297, 3) := by decide +kernel
theorem dX4_signsBy_99 : decode cX4_signsBy 99 = .ok (.bipush 50, 2) := by decide +kernel
theorem dX4_signsBy_101 : decode cX4_signsBy 101 = .ok (.aload_n 0, 1) := by decide +kernel
theorem dX4_signsBy_102 : decode cX4_signsBy 102 = .ok (.iconst 0, 1) := by decide +kernel
theorem dX4_signsBy_103 : decode cX4_signsBy 103 = .ok (.iload_n 2, 1) := by decide +kernel
theorem dX4_signsBy_104 : decode cX4_signsBy 104 = .ok (.invokevirtual 312, 3) := by decide +kernel
theorem dX4_signsBy_107 : decode cX4_signsBy 107 = .ok (.isub, 1) := by decide +kernel
theorem dX4_signsBy_108 : decode cX4_signsBy 108 = .ok (.ireturn, 1) := by decide +kernel
theorem dX4_signsBy_109 : decode cX4_signsBy 109 = .ok (.aload_n 0, 1) := by decide +kernel
theorem dX4_signsBy_110 : decode cX4_signsBy 110 = .ok (.iload_n 1, 1) := by decide +kernel
theorem dX4_signsBy_111 : decode cX4_signsBy 111 = .ok (.invokestatic 287, 3) := by decide +kernel
theorem dX4_signsBy_114 : decode cX4_signsBy 114 = .ok (.iload_n 2, 1) := by decide +kernel
theorem dX4_signsBy_115 : decode cX4_signsBy 115 = .ok (.invokevirtual 312, 3) := by decide +kernel
theorem dX4_signsBy_118 : decode cX4_signsBy 118 = .ok (.ireturn, 1) := by decide +kernel
theorem dX4_act_0 : decode cX4_act 0 = .ok (.aload_n 0, 1) := by decide +kernel
theorem dX4_act_1 : decode cX4_act 1 = .ok (.iconst 0, 1) := by decide +kernel
theorem dX4_act_2 : decode cX4_act 2 = .ok (.putfield 290, 3) := by decide +kernel
theorem dX4_act_5 : decode cX4_act 5 = .ok (.aload_n 0, 1) := by decide +kernel
theorem dX4_act_6 : decode cX4_act 6 = .ok (.iconst 0, 1) := by decide +kernel
theorem dX4_act_7 : decode cX4_act 7 = .ok (.putfield 293, 3) := by decide +kernel
theorem dX4_act_10 : decode cX4_act 10 = .ok (.iload_n 1, 1) := by decide +kernel
theorem dX4_act_11 : decode cX4_act 11 = .ok (.i2l, 1) := by decide +kernel
theorem dX4_act_12 : decode cX4_act 12 = .ok (.lconst 0, 1) := by decide +kernel
theorem dX4_act_13 : decode cX4_act 13 = .ok (.ldc2_w 110, 3) := by decide +kernel
theorem dX4_act_16 : decode cX4_act 16 = .ok (.invokestatic 61, 3) := by decide +kernel
theorem dX4_act_19 : decode cX4_act 19 = .ok (.ifCond .eq 33, 3) := by decide +kernel
theorem dX4_act_22 : decode cX4_act 22 = .ok (.iload_n 2, 1) := by decide +kernel
theorem dX4_act_23 : decode cX4_act 23 = .ok (.i2l, 1) := by decide +kernel
theorem dX4_act_24 : decode cX4_act 24 = .ok (.lconst 0, 1) := by decide +kernel
theorem dX4_act_25 : decode cX4_act 25 = .ok (.ldc2_w 110, 3) := by decide +kernel
theorem dX4_act_28 : decode cX4_act 28 = .ok (.invokestatic 61, 3) := by decide +kernel
theorem dX4_act_31 : decode cX4_act 31 = .ok (.ifCond .eq 21, 3) := by decide +kernel
theorem dX4_act_34 : decode cX4_act 34 = .ok (.aload_n 0, 1) := by decide +kernel
theorem dX4_act_35 : decode cX4_act 35 = .ok (.iload_n 1, 1) := by decide +kernel
theorem dX4_act_36 : decode cX4_act 36 = .ok (.invokevirtual 284, 3) := by decide +kernel
theorem dX4_act_39 : decode cX4_act 39 = .ok (.ifCond .ne 13, 3) := by decide +kernel
theorem dX4_act_42 : decode cX4_act 42 = .ok (.aload_n 0, 1) := by decide +kernel
theorem dX4_act_43 : decode cX4_act 43 = .ok (.getfield 42, 3) := by decide +kernel
theorem dX4_act_46 : decode cX4_act 46 = .ok (.iload_n 1, 1) := by decide +kernel
theorem dX4_act_47 : decode cX4_act 47 = .ok (.iaload, 1) := by decide +kernel
theorem dX4_act_48 : decode cX4_act 48 = .ok (.iconst 2, 1) := by decide +kernel
theorem dX4_act_49 : decode cX4_act 49 = .ok (.if_icmp .ne 5, 3) := by decide +kernel
theorem dX4_act_52 : decode cX4_act 52 = .ok (.iconst 0, 1) := by decide +kernel
theorem dX4_act_53 : decode cX4_act 53 = .ok (.ireturn, 1) := by decide +kernel
theorem dX4_act_54 : decode cX4_act 54 = .ok (.aload_n 0, 1) := by decide +kernel
theorem dX4_act_55 : decode cX4_act 55 = .ok (.aload_n 0, 1) := by decide +kernel
theorem dX4_act_56 : decode cX4_act 56 = .ok (.getfield 45, 3) := by decide +kernel
theorem dX4_act_59 : decode cX4_act 59 = .ok (.iload_n 1, 1) := by decide +kernel
theorem dX4_act_60 : decode cX4_act 60 = .ok (.iaload, 1) := by decide +kernel
theorem dX4_act_61 : decode cX4_act 61 = .ok (.putfield 300, 3) := by decide +kernel
theorem dX4_act_64 : decode cX4_act 64 = .ok (.aload_n 0, 1) := by decide +kernel
theorem dX4_act_65 : decode cX4_act 65 = .ok (.aload_n 0, 1) := by decide +kernel
theorem dX4_act_66 : decode cX4_act 66 = .ok (.getfield 300, 3) := by decide +kernel
theorem dX4_act_69 : decode cX4_act 69 = .ok (.iconst 0, 1) := by decide +kernel
theorem dX4_act_70 : decode cX4_act 70 = .ok (.invokevirtual 67, 3) := by decide +kernel
theorem dX4_act_73 : decode cX4_act 73 = .ok (.istore 4, 2) := by decide +kernel
theorem dX4_act_75 : decode cX4_act 75 = .ok (.iload_n 2, 1) := by decide +kernel
theorem dX4_act_76 : decode cX4_act 76 = .ok (.ifCond .ne 13, 3) := by decide +kernel
theorem dX4_act_79 : decode cX4_act 79 = .ok (.aload_n 0, 1) := by decide +kernel
theorem dX4_act_80 : decode cX4_act 80 = .ok (.iload 4, 2) := by decide +kernel
theorem dX4_act_82 : decode cX4_act 82 = .ok (.iload_n 3, 1) := by decide +kernel
theorem dX4_act_83 : decode cX4_act 83 = .ok (.invokevirtual 303, 3) := by decide +kernel
theorem dX4_act_86 : decode cX4_act 86 = .ok (.goto 40, 3) := by decide +kernel
theorem dX4_act_89 : decode cX4_act 89 = .ok (.iload_n 2, 1) := by decide +kernel
theorem dX4_act_90 : decode cX4_act 90 = .ok (.iconst 1, 1) := by decide +kernel
theorem dX4_act_91 : decode cX4_act 91 = .ok (.if_icmp .ne 13, 3) := by decide +kernel
theorem dX4_act_94 : decode cX4_act 94 = .ok (.aload_n 0, 1) := by decide +kernel
theorem dX4_act_95 : decode cX4_act 95 = .ok (.iload 4, 2) := by decide +kernel
theorem dX4_act_97 : decode cX4_act 97 = .ok (.iload_n 3, 1) := by decide +kernel
theorem dX4_act_98 : decode cX4_act 98 = .ok (.invokevirtual 306, 3) := by decide +kernel
theorem dX4_act_101 : decode cX4_act 101 = .ok (.goto 25, 3) := by decide +kernel
theorem dX4_act_104 : decode cX4_act 104 = .ok (.iload_n 2, 1) := by decide +kernel
theorem dX4_act_105 : decode cX4_act 105 = .ok (.iconst 2, 1) := by decide +kernel
theorem dX4_act_106 : decode cX4_act 106 = .ok (.if_icmp .ne 13, 3) := by decide +kernel
theorem dX4_act_109 : decode cX4_act 109 = .ok (.aload_n 0, 1) := by decide +kernel
theorem dX4_act_110 : decode cX4_act 110 = .ok (.iload 4, 2) := by decide +kernel
theorem dX4_act_112 : decode cX4_act 112 = .ok (.iload_n 3, 1) := by decide +kernel
theorem dX4_act_113 : decode cX4_act 113 = .ok (.invokevirtual 309, 3) := by decide +kernel
theorem dX4_act_116 : decode cX4_act 116 = .ok (.goto 10, 3) := by decide +kernel
theorem dX4_act_119 : decode cX4_act 119 = .ok (.aload_n 0, 1) := by decide +kernel
theorem dX4_act_120 : decode cX4_act 120 = .ok (.iload 4, 2) := by decide +kernel
theorem dX4_act_122 : decode cX4_act 122 = .ok (.iload_n 3, 1) := by decide +kernel
theorem dX4_act_123 : decode cX4_act 123 = .ok (.invokevirtual 312, 3) := by decide +kernel
theorem dX4_act_126 : decode cX4_act 126 = .ok (.istore 5, 2) := by decide +kernel
theorem dX4_act_128 : decode cX4_act 128 = .ok (.aload_n 0, 1) := by decide +kernel
theorem dX4_act_129 : decode cX4_act 129 = .ok (.getfield 293, 3) := by decide +kernel
theorem dX4_act_132 : decode cX4_act 132 = .ok (.ifCond .eq 8, 3) := by decide +kernel
theorem dX4_act_135 : decode cX4_act 135 = .ok (.bipush (-15), 2) := by decide +kernel
theorem dX4_act_137 : decode cX4_act 137 = .ok (.goto 5, 3) := by decide +kernel
theorem dX4_act_140 : decode cX4_act 140 = .ok (.iload 5, 2) := by decide +kernel
theorem dX4_act_142 : decode cX4_act 142 = .ok (.ireturn, 1) := by decide +kernel
theorem dX4_trace_0 : decode cX4_trace 0 = .ok (.iload_n 1, 1) := by decide +kernel
theorem dX4_trace_1 : decode cX4_trace 1 = .ok (.i2l, 1) := by decide +kernel
theorem dX4_trace_2 : decode cX4_trace 2 = .ok (.lconst 0, 1) := by decide +kernel
theorem dX4_trace_3 : decode cX4_trace 3 = .ok (.aload_n 0, 1) := by decide +kernel
theorem dX4_trace_4 : decode cX4_trace 4 = .ok (.getfield 290, 3) := by decide +kernel
theorem dX4_trace_7 : decode cX4_trace 7 = .ok (.iconst 1, 1) := by decide +kernel
theorem dX4_trace_8 : decode cX4_trace 8 = .ok (.isub, 1) := by decide +kernel
theorem dX4_trace_9 : decode cX4_trace 9 = .ok (.i2l, 1) := by decide +kernel
theorem dX4_trace_10 : decode cX4_trace 10 = .ok (.invokestatic 61, 3) := by decide +kernel
theorem dX4_trace_13 : decode cX4_trace 13 = .ok (.ifCond .eq 12, 3) := by decide +kernel
theorem dX4_trace_16 : decode cX4_trace 16 = .ok (.aload_n 0, 1) := by decide +kernel
theorem dX4_trace_17 : decode cX4_trace 17 = .ok (.getfield 51, 3) := by decide +kernel
theorem dX4_trace_20 : decode cX4_trace 20 = .ok (.iload_n 1, 1) := by decide +kernel
theorem dX4_trace_21 : decode cX4_trace 21 = .ok (.iaload, 1) := by decide +kernel
theorem dX4_trace_22 : decode cX4_trace 22 = .ok (.goto 5, 3) := by decide +kernel
theorem dX4_trace_25 : decode cX4_trace 25 = .ok (.bipush (-3), 2) := by decide +kernel
theorem dX4_trace_27 : decode cX4_trace 27 = .ok (.ireturn, 1) := by decide +kernel
theorem dX4_many_0 : decode cX4_many 0 = .ok (.iload_n 1, 1) := by decide +kernel
theorem dX4_many_1 : decode cX4_many 1 = .ok (.tableswitch 85 0 6 #[43, 50, 56, 64, 70, 75, 80], 43) := by decide +kernel
theorem dX4_many_44 : decode cX4_many 44 = .ok (.aload_n 0, 1) := by decide +kernel
theorem dX4_many_45 : decode cX4_many 45 = .ok (.getfield 7, 3) := by decide +kernel
theorem dX4_many_48 : decode cX4_many 48 = .ok (.iconst 5, 1) := by decide +kernel
theorem dX4_many_49 : decode cX4_many 49 = .ok (.iaload, 1) := by decide +kernel
theorem dX4_many_50 : decode cX4_many 50 = .ok (.ireturn, 1) := by decide +kernel
theorem dX4_many_51 : decode cX4_many 51 = .ok (.aload_n 0, 1) := by decide +kernel
theorem dX4_many_52 : decode cX4_many 52 = .ok (.iconst 0, 1) := by decide +kernel
theorem dX4_many_53 : decode cX4_many 53 = .ok (.invokevirtual 151, 3) := by decide +kernel
theorem dX4_many_56 : decode cX4_many 56 = .ok (.ireturn, 1) := by decide +kernel
theorem dX4_many_57 : decode cX4_many 57 = .ok (.aload_n 0, 1) := by decide +kernel
theorem dX4_many_58 : decode cX4_many 58 = .ok (.invokevirtual 162, 3) := by decide +kernel
theorem dX4_many_61 : decode cX4_many 61 = .ok (.invokestatic 165, 3) := by decide +kernel
theorem dX4_many_64 : decode cX4_many 64 = .ok (.ireturn, 1) := by decide +kernel
theorem dX4_many_65 : decode cX4_many 65 = .ok (.aload_n 0, 1) := by decide +kernel
theorem dX4_many_66 : decode cX4_many 66 = .ok (.iconst 2, 1) := by decide +kernel
theorem dX4_many_67 : decode cX4_many 67 = .ok (.invokevirtual 151, 3) := by decide +kernel
theorem dX4_many_70 : decode cX4_many 70 = .ok (.ireturn, 1) := by decide +kernel
theorem dX4_many_71 : decode cX4_many 71 = .ok (.aload_n 0, 1) := by decide +kernel
theorem dX4_many_72 : decode cX4_many 72 = .ok (.getfield 276, 3) := by decide +kernel
theorem dX4_many_75 : decode cX4_many 75 = .ok (.ireturn, 1) := by decide +kernel
theorem dX4_many_76 : decode cX4_many 76 = .ok (.aload_n 0, 1) := by decide +kernel
theorem dX4_many_77 : decode cX4_many 77 = .ok (.getfield 218, 3) := by decide +kernel
theorem dX4_many_80 : decode cX4_many 80 = .ok (.ireturn, 1) := by decide +kernel
theorem dX4_many_81 : decode cX4_many 81 = .ok (.aload_n 0, 1) := by decide +kernel
theorem dX4_many_82 : decode cX4_many 82 = .ok (.getfield 290, 3) := by decide +kernel
theorem dX4_many_85 : decode cX4_many 85 = .ok (.ireturn, 1) := by decide +kernel
theorem dX4_many_86 : decode cX4_many 86 = .ok (.iconst (-1), 1) := by decide +kernel
theorem dX4_many_87 : decode cX4_many 87 = .ok (.ireturn, 1) := by decide +kernel
theorem dX4_keep_0 : decode cX4_keep 0 = .ok (.iconst 0, 1) := by decide +kernel
theorem dX4_keep_1 : decode cX4_keep 1 = .ok (.istore_n 1, 1) := by decide +kernel
theorem dX4_keep_2 : decode cX4_keep 2 = .ok (.iload_n 1, 1) := by decide +kernel
theorem dX4_keep_3 : decode cX4_keep 3 = .ok (.bipush 103, 2) := by decide +kernel
theorem dX4_keep_5 : decode cX4_keep 5 = .ok (.if_icmp .ge 21, 3) := by decide +kernel
theorem dX4_keep_8 : decode cX4_keep 8 = .ok (.aload_n 0, 1) := by decide +kernel
theorem dX4_keep_9 : decode cX4_keep 9 = .ok (.getfield 13, 3) := by decide +kernel
theorem dX4_keep_12 : decode cX4_keep 12 = .ok (.iload_n 1, 1) := by decide +kernel
theorem dX4_keep_13 : decode cX4_keep 13 = .ok (.aload_n 0, 1) := by decide +kernel
theorem dX4_keep_14 : decode cX4_keep 14 = .ok (.getfield 7, 3) := by decide +kernel
theorem dX4_keep_17 : decode cX4_keep 17 = .ok (.iload_n 1, 1) := by decide +kernel
theorem dX4_keep_18 : decode cX4_keep 18 = .ok (.iaload, 1) := by decide +kernel
theorem dX4_keep_19 : decode cX4_keep 19 = .ok (.iastore, 1) := by decide +kernel
theorem dX4_keep_20 : decode cX4_keep 20 = .ok (.iinc 1 1, 3) := by decide +kernel
theorem dX4_keep_23 : decode cX4_keep 23 = .ok (.goto (-21), 3) := by decide +kernel
theorem dX4_keep_26 : decode cX4_keep 26 = .ok (.aload_n 0, 1) := by decide +kernel
theorem dX4_keep_27 : decode cX4_keep 27 = .ok (.iconst 1, 1) := by decide +kernel
theorem dX4_keep_28 : decode cX4_keep 28 = .ok (.putfield 315, 3) := by decide +kernel
theorem dX4_keep_31 : decode cX4_keep 31 = .ok (.iconst 1, 1) := by decide +kernel
theorem dX4_keep_32 : decode cX4_keep 32 = .ok (.ireturn, 1) := by decide +kernel
theorem dX4_again_0 : decode cX4_again 0 = .ok (.aload_n 0, 1) := by decide +kernel
theorem dX4_again_1 : decode cX4_again 1 = .ok (.getfield 315, 3) := by decide +kernel
theorem dX4_again_4 : decode cX4_again 4 = .ok (.ifCond .ne 6, 3) := by decide +kernel
theorem dX4_again_7 : decode cX4_again 7 = .ok (.bipush (-3), 2) := by decide +kernel
theorem dX4_again_9 : decode cX4_again 9 = .ok (.ireturn, 1) := by decide +kernel
theorem dX4_again_10 : decode cX4_again 10 = .ok (.iconst 0, 1) := by decide +kernel
theorem dX4_again_11 : decode cX4_again 11 = .ok (.istore_n 1, 1) := by decide +kernel
theorem dX4_again_12 : decode cX4_again 12 = .ok (.iload_n 1, 1) := by decide +kernel
theorem dX4_again_13 : decode cX4_again 13 = .ok (.bipush 103, 2) := by decide +kernel
theorem dX4_again_15 : decode cX4_again 15 = .ok (.if_icmp .ge 21, 3) := by decide +kernel
theorem dX4_again_18 : decode cX4_again 18 = .ok (.aload_n 0, 1) := by decide +kernel
theorem dX4_again_19 : decode cX4_again 19 = .ok (.getfield 7, 3) := by decide +kernel
theorem dX4_again_22 : decode cX4_again 22 = .ok (.iload_n 1, 1) := by decide +kernel
theorem dX4_again_23 : decode cX4_again 23 = .ok (.aload_n 0, 1) := by decide +kernel
theorem dX4_again_24 : decode cX4_again 24 = .ok (.getfield 13, 3) := by decide +kernel
theorem dX4_again_27 : decode cX4_again 27 = .ok (.iload_n 1, 1) := by decide +kernel
theorem dX4_again_28 : decode cX4_again 28 = .ok (.iaload, 1) := by decide +kernel
theorem dX4_again_29 : decode cX4_again 29 = .ok (.iastore, 1) := by decide +kernel
theorem dX4_again_30 : decode cX4_again 30 = .ok (.iinc 1 1, 3) := by decide +kernel
theorem dX4_again_33 : decode cX4_again 33 = .ok (.goto (-21), 3) := by decide +kernel
theorem dX4_again_36 : decode cX4_again 36 = .ok (.aload_n 0, 1) := by decide +kernel
theorem dX4_again_37 : decode cX4_again 37 = .ok (.getfield 7, 3) := by decide +kernel
theorem dX4_again_40 : decode cX4_again 40 = .ok (.iconst 5, 1) := by decide +kernel
theorem dX4_again_41 : decode cX4_again 41 = .ok (.iaload, 1) := by decide +kernel
theorem dX4_again_42 : decode cX4_again 42 = .ok (.ireturn, 1) := by decide +kernel
