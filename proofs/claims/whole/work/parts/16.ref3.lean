theorem dX1_error_0 : decode cX1_error 0 = .ok (.aload_n 0, 1) := by decide +kernel
theorem dX1_error_1 : decode cX1_error 1 = .ok (.iload_n 1, 1) := by decide +kernel
theorem dX1_error_2 : decode cX1_error 2 = .ok (.iconst 1, 1) := by decide +kernel
theorem dX1_error_3 : decode cX1_error 3 = .ok (.if_icmp .lt 9, 3) := by decide +kernel
theorem dX1_error_6 : decode cX1_error 6 = .ok (.iload_n 1, 1) := by decide +kernel
theorem dX1_error_7 : decode cX1_error 7 = .ok (.bipush 8, 2) := by decide +kernel
theorem dX1_error_9 : decode cX1_error 9 = .ok (.if_icmp .le 7, 3) := by decide +kernel
theorem dX1_error_12 : decode cX1_error 12 = .ok (.iconst 1, 1) := by decide +kernel
theorem dX1_error_13 : decode cX1_error 13 = .ok (.goto 4, 3) := by decide +kernel
theorem dX1_error_16 : decode cX1_error 16 = .ok (.iconst 0, 1) := by decide +kernel
theorem dX1_error_17 : decode cX1_error 17 = .ok (.putfield 32, 3) := by decide +kernel
theorem dX1_error_20 : decode cX1_error 20 = .ok (.iconst 0, 1) := by decide +kernel
theorem dX1_error_21 : decode cX1_error 21 = .ok (.istore_n 2, 1) := by decide +kernel
theorem dX1_error_22 : decode cX1_error 22 = .ok (.iconst 0, 1) := by decide +kernel
theorem dX1_error_23 : decode cX1_error 23 = .ok (.istore_n 3, 1) := by decide +kernel
theorem dX1_error_24 : decode cX1_error 24 = .ok (.iload_n 3, 1) := by decide +kernel
theorem dX1_error_25 : decode cX1_error 25 = .ok (.bipush 64, 2) := by decide +kernel
theorem dX1_error_27 : decode cX1_error 27 = .ok (.if_icmp .ge 59, 3) := by decide +kernel
theorem dX1_error_30 : decode cX1_error 30 = .ok (.aload_n 0, 1) := by decide +kernel
theorem dX1_error_31 : decode cX1_error 31 = .ok (.getfield 32, 3) := by decide +kernel
theorem dX1_error_34 : decode cX1_error 34 = .ok (.ifCond .ne 52, 3) := by decide +kernel
theorem dX1_error_37 : decode cX1_error 37 = .ok (.aload_n 0, 1) := by decide +kernel
theorem dX1_error_38 : decode cX1_error 38 = .ok (.getfield 16, 3) := by decide +kernel
theorem dX1_error_41 : decode cX1_error 41 = .ok (.iload_n 3, 1) := by decide +kernel
theorem dX1_error_42 : decode cX1_error 42 = .ok (.iaload, 1) := by decide +kernel
theorem dX1_error_43 : decode cX1_error 43 = .ok (.aload_n 0, 1) := by decide +kernel
theorem dX1_error_44 : decode cX1_error 44 = .ok (.getfield 19, 3) := by decide +kernel
theorem dX1_error_47 : decode cX1_error 47 = .ok (.iload_n 3, 1) := by decide +kernel
theorem dX1_error_48 : decode cX1_error 48 = .ok (.iaload, 1) := by decide +kernel
theorem dX1_error_49 : decode cX1_error 49 = .ok (.isub, 1) := by decide +kernel
theorem dX1_error_50 : decode cX1_error 50 = .ok (.istore 4, 2) := by decide +kernel
theorem dX1_error_52 : decode cX1_error 52 = .ok (.iload_n 2, 1) := by decide +kernel
theorem dX1_error_53 : decode cX1_error 53 = .ok (.iload_n 3, 1) := by decide +kernel
theorem dX1_error_54 : decode cX1_error 54 = .ok (.bipush 8, 2) := by decide +kernel
theorem dX1_error_56 : decode cX1_error 56 = .ok (.idiv, 1) := by decide +kernel
theorem dX1_error_57 : decode cX1_error 57 = .ok (.iload_n 1, 1) := by decide +kernel
theorem dX1_error_58 : decode cX1_error 58 = .ok (.if_icmp .ge 19, 3) := by decide +kernel
theorem dX1_error_61 : decode cX1_error 61 = .ok (.iload_n 3, 1) := by decide +kernel
theorem dX1_error_62 : decode cX1_error 62 = .ok (.bipush 8, 2) := by decide +kernel
theorem dX1_error_64 : decode cX1_error 64 = .ok (.irem, 1) := by decide +kernel
theorem dX1_error_65 : decode cX1_error 65 = .ok (.iload_n 1, 1) := by decide +kernel
theorem dX1_error_66 : decode cX1_error 66 = .ok (.if_icmp .ge 11, 3) := by decide +kernel
theorem dX1_error_69 : decode cX1_error 69 = .ok (.iload 4, 2) := by decide +kernel
theorem dX1_error_71 : decode cX1_error 71 = .ok (.iload 4, 2) := by decide +kernel
theorem dX1_error_73 : decode cX1_error 73 = .ok (.imul, 1) := by decide +kernel
theorem dX1_error_74 : decode cX1_error 74 = .ok (.goto 4, 3) := by decide +kernel
theorem dX1_error_77 : decode cX1_error 77 = .ok (.iconst 0, 1) := by decide +kernel
theorem dX1_error_78 : decode cX1_error 78 = .ok (.iadd, 1) := by decide +kernel
theorem dX1_error_79 : decode cX1_error 79 = .ok (.istore_n 2, 1) := by decide +kernel
theorem dX1_error_80 : decode cX1_error 80 = .ok (.iinc 3 1, 3) := by decide +kernel
theorem dX1_error_83 : decode cX1_error 83 = .ok (.goto (-59), 3) := by decide +kernel
theorem dX1_error_86 : decode cX1_error 86 = .ok (.iload_n 2, 1) := by decide +kernel
theorem dX1_error_87 : decode cX1_error 87 = .ok (.ireturn, 1) := by decide +kernel
theorem dX1_at_0 : decode cX1_at 0 = .ok (.aload_n 0, 1) := by decide +kernel
theorem dX1_at_1 : decode cX1_at 1 = .ok (.iload_n 1, 1) := by decide +kernel
theorem dX1_at_2 : decode cX1_at 2 = .ok (.invokestatic 40, 3) := by decide +kernel
theorem dX1_at_5 : decode cX1_at 5 = .ok (.ifCond .eq 12, 3) := by decide +kernel
theorem dX1_at_8 : decode cX1_at 8 = .ok (.iload_n 2, 1) := by decide +kernel
theorem dX1_at_9 : decode cX1_at 9 = .ok (.ifCond .lt 8, 3) := by decide +kernel
theorem dX1_at_12 : decode cX1_at 12 = .ok (.iload_n 2, 1) := by decide +kernel
theorem dX1_at_13 : decode cX1_at 13 = .ok (.iconst 3, 1) := by decide +kernel
theorem dX1_at_14 : decode cX1_at 14 = .ok (.if_icmp .le 7, 3) := by decide +kernel
theorem dX1_at_17 : decode cX1_at 17 = .ok (.iconst 1, 1) := by decide +kernel
theorem dX1_at_18 : decode cX1_at 18 = .ok (.goto 4, 3) := by decide +kernel
theorem dX1_at_21 : decode cX1_at 21 = .ok (.iconst 0, 1) := by decide +kernel
theorem dX1_at_22 : decode cX1_at 22 = .ok (.putfield 32, 3) := by decide +kernel
theorem dX1_at_25 : decode cX1_at 25 = .ok (.aload_n 0, 1) := by decide +kernel
theorem dX1_at_26 : decode cX1_at 26 = .ok (.getfield 32, 3) := by decide +kernel
theorem dX1_at_29 : decode cX1_at 29 = .ok (.ifCond .le 7, 3) := by decide +kernel
theorem dX1_at_32 : decode cX1_at 32 = .ok (.iconst 0, 1) := by decide +kernel
theorem dX1_at_33 : decode cX1_at 33 = .ok (.goto 50, 3) := by decide +kernel
theorem dX1_at_36 : decode cX1_at 36 = .ok (.iload_n 2, 1) := by decide +kernel
theorem dX1_at_37 : decode cX1_at 37 = .ok (.ifCond .ne 12, 3) := by decide +kernel
theorem dX1_at_40 : decode cX1_at 40 = .ok (.aload_n 0, 1) := by decide +kernel
theorem dX1_at_41 : decode cX1_at 41 = .ok (.getfield 7, 3) := by decide +kernel
theorem dX1_at_44 : decode cX1_at 44 = .ok (.iload_n 1, 1) := by decide +kernel
theorem dX1_at_45 : decode cX1_at 45 = .ok (.iaload, 1) := by decide +kernel
theorem dX1_at_46 : decode cX1_at 46 = .ok (.goto 37, 3) := by decide +kernel
theorem dX1_at_49 : decode cX1_at 49 = .ok (.iload_n 2, 1) := by decide +kernel
theorem dX1_at_50 : decode cX1_at 50 = .ok (.iconst 1, 1) := by decide +kernel
theorem dX1_at_51 : decode cX1_at 51 = .ok (.if_icmp .ne 12, 3) := by decide +kernel
theorem dX1_at_54 : decode cX1_at 54 = .ok (.aload_n 0, 1) := by decide +kernel
theorem dX1_at_55 : decode cX1_at 55 = .ok (.getfield 13, 3) := by decide +kernel
theorem dX1_at_58 : decode cX1_at 58 = .ok (.iload_n 1, 1) := by decide +kernel
theorem dX1_at_59 : decode cX1_at 59 = .ok (.iaload, 1) := by decide +kernel
theorem dX1_at_60 : decode cX1_at 60 = .ok (.goto 23, 3) := by decide +kernel
theorem dX1_at_63 : decode cX1_at 63 = .ok (.iload_n 2, 1) := by decide +kernel
theorem dX1_at_64 : decode cX1_at 64 = .ok (.iconst 2, 1) := by decide +kernel
theorem dX1_at_65 : decode cX1_at 65 = .ok (.if_icmp .ne 12, 3) := by decide +kernel
theorem dX1_at_68 : decode cX1_at 68 = .ok (.aload_n 0, 1) := by decide +kernel
theorem dX1_at_69 : decode cX1_at 69 = .ok (.getfield 22, 3) := by decide +kernel
theorem dX1_at_72 : decode cX1_at 72 = .ok (.iload_n 1, 1) := by decide +kernel
theorem dX1_at_73 : decode cX1_at 73 = .ok (.iaload, 1) := by decide +kernel
theorem dX1_at_74 : decode cX1_at 74 = .ok (.goto 9, 3) := by decide +kernel
theorem dX1_at_77 : decode cX1_at 77 = .ok (.aload_n 0, 1) := by decide +kernel
theorem dX1_at_78 : decode cX1_at 78 = .ok (.getfield 25, 3) := by decide +kernel
theorem dX1_at_81 : decode cX1_at 81 = .ok (.iload_n 1, 1) := by decide +kernel
theorem dX1_at_82 : decode cX1_at 82 = .ok (.iaload, 1) := by decide +kernel
theorem dX1_at_83 : decode cX1_at 83 = .ok (.ireturn, 1) := by decide +kernel
theorem dX1_order_0 : decode cX1_order 0 = .ok (.aload_n 0, 1) := by decide +kernel
theorem dX1_order_1 : decode cX1_order 1 = .ok (.iconst 0, 1) := by decide +kernel
theorem dX1_order_2 : decode cX1_order 2 = .ok (.putfield 32, 3) := by decide +kernel
theorem dX1_order_5 : decode cX1_order 5 = .ok (.aload_n 0, 1) := by decide +kernel
theorem dX1_order_6 : decode cX1_order 6 = .ok (.iload_n 1, 1) := by decide +kernel
theorem dX1_order_7 : decode cX1_order 7 = .ok (.iload_n 2, 1) := by decide +kernel
theorem dX1_order_8 : decode cX1_order 8 = .ok (.invokevirtual 46, 3) := by decide +kernel
theorem dX1_order_11 : decode cX1_order 11 = .ok (.ireturn, 1) := by decide +kernel
theorem dX1_samples_0 : decode cX1_samples 0 = .ok (.aload_n 0, 1) := by decide +kernel
theorem dX1_samples_1 : decode cX1_samples 1 = .ok (.iconst 0, 1) := by decide +kernel
theorem dX1_samples_2 : decode cX1_samples 2 = .ok (.putfield 32, 3) := by decide +kernel
theorem dX1_samples_5 : decode cX1_samples 5 = .ok (.lconst 0, 1) := by decide +kernel
theorem dX1_samples_6 : decode cX1_samples 6 = .ok (.lstore_n 2, 1) := by decide +kernel
theorem dX1_samples_7 : decode cX1_samples 7 = .ok (.iconst 0, 1) := by decide +kernel
theorem dX1_samples_8 : decode cX1_samples 8 = .ok (.istore 4, 2) := by decide +kernel
theorem dX1_samples_10 : decode cX1_samples 10 = .ok (.iload 4, 2) := by decide +kernel
theorem dX1_samples_12 : decode cX1_samples 12 = .ok (.bipush 8, 2) := by decide +kernel
theorem dX1_samples_14 : decode cX1_samples 14 = .ok (.if_icmp .ge 38, 3) := by decide +kernel
theorem dX1_samples_17 : decode cX1_samples 17 = .ok (.iload_n 1, 1) := by decide +kernel
theorem dX1_samples_18 : decode cX1_samples 18 = .ok (.ifCond .lt 34, 3) := by decide +kernel
theorem dX1_samples_21 : decode cX1_samples 21 = .ok (.iload_n 1, 1) := by decide +kernel
theorem dX1_samples_22 : decode cX1_samples 22 = .ok (.bipush 8, 2) := by decide +kernel
theorem dX1_samples_24 : decode cX1_samples 24 = .ok (.if_icmp .ge 28, 3) := by decide +kernel
theorem dX1_samples_27 : decode cX1_samples 27 = .ok (.lload_n 2, 1) := by decide +kernel
theorem dX1_samples_28 : decode cX1_samples 28 = .ok (.bipush 8, 2) := by decide +kernel
theorem dX1_samples_30 : decode cX1_samples 30 = .ok (.lshl, 1) := by decide +kernel
theorem dX1_samples_31 : decode cX1_samples 31 = .ok (.aload_n 0, 1) := by decide +kernel
theorem dX1_samples_32 : decode cX1_samples 32 = .ok (.getfield 16, 3) := by decide +kernel
theorem dX1_samples_35 : decode cX1_samples 35 = .ok (.bipush 8, 2) := by decide +kernel
theorem dX1_samples_37 : decode cX1_samples 37 = .ok (.iload_n 1, 1) := by decide +kernel
theorem dX1_samples_38 : decode cX1_samples 38 = .ok (.imul, 1) := by decide +kernel
theorem dX1_samples_39 : decode cX1_samples 39 = .ok (.iload 4, 2) := by decide +kernel
theorem dX1_samples_41 : decode cX1_samples 41 = .ok (.iadd, 1) := by decide +kernel
theorem dX1_samples_42 : decode cX1_samples 42 = .ok (.iaload, 1) := by decide +kernel
theorem dX1_samples_43 : decode cX1_samples 43 = .ok (.i2l, 1) := by decide +kernel
theorem dX1_samples_44 : decode cX1_samples 44 = .ok (.lor, 1) := by decide +kernel
theorem dX1_samples_45 : decode cX1_samples 45 = .ok (.lstore_n 2, 1) := by decide +kernel
theorem dX1_samples_46 : decode cX1_samples 46 = .ok (.iinc 4 1, 3) := by decide +kernel
theorem dX1_samples_49 : decode cX1_samples 49 = .ok (.goto (-39), 3) := by decide +kernel
theorem dX1_samples_52 : decode cX1_samples 52 = .ok (.lload_n 2, 1) := by decide +kernel
theorem dX1_samples_53 : decode cX1_samples 53 = .ok (.lreturn, 1) := by decide +kernel
theorem dX1_exact_0 : decode cX1_exact 0 = .ok (.aload_n 0, 1) := by decide +kernel
theorem dX1_exact_1 : decode cX1_exact 1 = .ok (.iload_n 1, 1) := by decide +kernel
theorem dX1_exact_2 : decode cX1_exact 2 = .ok (.ifCond .lt 19, 3) := by decide +kernel
theorem dX1_exact_5 : decode cX1_exact 5 = .ok (.iload_n 1, 1) := by decide +kernel
theorem dX1_exact_6 : decode cX1_exact 6 = .ok (.bipush 7, 2) := by decide +kernel
theorem dX1_exact_8 : decode cX1_exact 8 = .ok (.if_icmp .gt 13, 3) := by decide +kernel
theorem dX1_exact_11 : decode cX1_exact 11 = .ok (.iload_n 2, 1) := by decide +kernel
theorem dX1_exact_12 : decode cX1_exact 12 = .ok (.ifCond .lt 9, 3) := by decide +kernel
theorem dX1_exact_15 : decode cX1_exact 15 = .ok (.iload_n 2, 1) := by decide +kernel
theorem dX1_exact_16 : decode cX1_exact 16 = .ok (.bipush 7, 2) := by decide +kernel
theorem dX1_exact_18 : decode cX1_exact 18 = .ok (.if_icmp .le 7, 3) := by decide +kernel
theorem dX1_exact_21 : decode cX1_exact 21 = .ok (.iconst 1, 1) := by decide +kernel
theorem dX1_exact_22 : decode cX1_exact 22 = .ok (.goto 4, 3) := by decide +kernel
theorem dX1_exact_25 : decode cX1_exact 25 = .ok (.iconst 0, 1) := by decide +kernel
theorem dX1_exact_26 : decode cX1_exact 26 = .ok (.putfield 32, 3) := by decide +kernel
theorem dX1_exact_29 : decode cX1_exact 29 = .ok (.aload_n 0, 1) := by decide +kernel
theorem dX1_exact_30 : decode cX1_exact 30 = .ok (.getfield 32, 3) := by decide +kernel
theorem dX1_exact_33 : decode cX1_exact 33 = .ok (.ifCond .le 7, 3) := by decide +kernel
theorem dX1_exact_36 : decode cX1_exact 36 = .ok (.iconst 0, 1) := by decide +kernel
theorem dX1_exact_37 : decode cX1_exact 37 = .ok (.goto 10, 3) := by decide +kernel
theorem dX1_exact_40 : decode cX1_exact 40 = .ok (.aload_n 0, 1) := by decide +kernel
theorem dX1_exact_41 : decode cX1_exact 41 = .ok (.iload_n 1, 1) := by decide +kernel
theorem dX1_exact_42 : decode cX1_exact 42 = .ok (.iload_n 2, 1) := by decide +kernel
theorem dX1_exact_43 : decode cX1_exact 43 = .ok (.invokevirtual 67, 3) := by decide +kernel
theorem dX1_exact_46 : decode cX1_exact 46 = .ok (.l2i, 1) := by decide +kernel
theorem dX1_exact_47 : decode cX1_exact 47 = .ok (.ireturn, 1) := by decide +kernel
theorem dX1_wave_0 : decode cX1_wave 0 = .ok (.aload_n 0, 1) := by decide +kernel
theorem dX1_wave_1 : decode cX1_wave 1 = .ok (.iload_n 1, 1) := by decide +kernel
theorem dX1_wave_2 : decode cX1_wave 2 = .ok (.invokestatic 58, 3) := by decide +kernel
theorem dX1_wave_5 : decode cX1_wave 5 = .ok (.ifCond .eq 25, 3) := by decide +kernel
theorem dX1_wave_8 : decode cX1_wave 8 = .ok (.iload_n 2, 1) := by decide +kernel
theorem dX1_wave_9 : decode cX1_wave 9 = .ok (.ifCond .lt 21, 3) := by decide +kernel
theorem dX1_wave_12 : decode cX1_wave 12 = .ok (.iload_n 2, 1) := by decide +kernel
theorem dX1_wave_13 : decode cX1_wave 13 = .ok (.iload_n 1, 1) := by decide +kernel
theorem dX1_wave_14 : decode cX1_wave 14 = .ok (.if_icmp .ge 16, 3) := by decide +kernel
theorem dX1_wave_17 : decode cX1_wave 17 = .ok (.iload_n 3, 1) := by decide +kernel
theorem dX1_wave_18 : decode cX1_wave 18 = .ok (.ifCond .lt 12, 3) := by decide +kernel
theorem dX1_wave_21 : decode cX1_wave 21 = .ok (.iload_n 3, 1) := by decide +kernel
theorem dX1_wave_22 : decode cX1_wave 22 = .ok (.iload_n 1, 1) := by decide +kernel
theorem dX1_wave_23 : decode cX1_wave 23 = .ok (.if_icmp .ge 7, 3) := by decide +kernel
theorem dX1_wave_26 : decode cX1_wave 26 = .ok (.iconst 0, 1) := by decide +kernel
theorem dX1_wave_27 : decode cX1_wave 27 = .ok (.goto 4, 3) := by decide +kernel
theorem dX1_wave_30 : decode cX1_wave 30 = .ok (.iconst 1, 1) := by decide +kernel
theorem dX1_wave_31 : decode cX1_wave 31 = .ok (.putfield 32, 3) := by decide +kernel
theorem dX1_wave_34 : decode cX1_wave 34 = .ok (.aload_n 0, 1) := by decide +kernel
theorem dX1_wave_35 : decode cX1_wave 35 = .ok (.getfield 32, 3) := by decide +kernel
theorem dX1_wave_38 : decode cX1_wave 38 = .ok (.ifCond .le 7, 3) := by decide +kernel
theorem dX1_wave_41 : decode cX1_wave 41 = .ok (.iconst 0, 1) := by decide +kernel
theorem dX1_wave_42 : decode cX1_wave 42 = .ok (.goto 9, 3) := by decide +kernel
theorem dX1_wave_45 : decode cX1_wave 45 = .ok (.iload_n 1, 1) := by decide +kernel
theorem dX1_wave_46 : decode cX1_wave 46 = .ok (.iload_n 2, 1) := by decide +kernel
theorem dX1_wave_47 : decode cX1_wave 47 = .ok (.iload_n 3, 1) := by decide +kernel
theorem dX1_wave_48 : decode cX1_wave 48 = .ok (.invokestatic 50, 3) := by decide +kernel
theorem dX1_wave_51 : decode cX1_wave 51 = .ok (.ireturn, 1) := by decide +kernel
theorem dX1_look_0 : decode cX1_look 0 = .ok (.aload_n 0, 1) := by decide +kernel
theorem dX1_look_1 : decode cX1_look 1 = .ok (.iconst 0, 1) := by decide +kernel
theorem dX1_look_2 : decode cX1_look 2 = .ok (.putfield 32, 3) := by decide +kernel
theorem dX1_look_5 : decode cX1_look 5 = .ok (.iconst 0, 1) := by decide +kernel
theorem dX1_look_6 : decode cX1_look 6 = .ok (.istore_n 2, 1) := by decide +kernel
theorem dX1_look_7 : decode cX1_look 7 = .ok (.iconst (-1), 1) := by decide +kernel
theorem dX1_look_8 : decode cX1_look 8 = .ok (.istore_n 3, 1) := by decide +kernel
theorem dX1_look_9 : decode cX1_look 9 = .ok (.iconst 0, 1) := by decide +kernel
theorem dX1_look_10 : decode cX1_look 10 = .ok (.istore 4, 2) := by decide +kernel
theorem dX1_look_12 : decode cX1_look 12 = .ok (.iconst 0, 1) := by decide +kernel
theorem dX1_look_13 : decode cX1_look 13 = .ok (.istore 5, 2) := by decide +kernel
theorem dX1_look_15 : decode cX1_look 15 = .ok (.iconst 0, 1) := by decide +kernel
theorem dX1_look_16 : decode cX1_look 16 = .ok (.istore 6, 2) := by decide +kernel
theorem dX1_look_18 : decode cX1_look 18 = .ok (.iconst 0, 1) := by decide +kernel
theorem dX1_look_19 : decode cX1_look 19 = .ok (.istore 7, 2) := by decide +kernel
theorem dX1_look_21 : decode cX1_look 21 = .ok (.iload 7, 2) := by decide +kernel
theorem dX1_look_23 : decode cX1_look 23 = .ok (.bipush 64, 2) := by decide +kernel
theorem dX1_look_25 : decode cX1_look 25 = .ok (.if_icmp .ge 101, 3) := by decide +kernel
theorem dX1_look_28 : decode cX1_look 28 = .ok (.iload_n 2, 1) := by decide +kernel
theorem dX1_look_29 : decode cX1_look 29 = .ok (.aload_n 0, 1) := by decide +kernel
theorem dX1_look_30 : decode cX1_look 30 = .ok (.getfield 7, 3) := by decide +kernel
theorem dX1_look_33 : decode cX1_look 33 = .ok (.iload 7, 2) := by decide +kernel
theorem dX1_look_35 : decode cX1_look 35 = .ok (.iaload, 1) := by decide +kernel
theorem dX1_look_36 : decode cX1_look 36 = .ok (.ifCond .eq 7, 3) := by decide +kernel
theorem dX1_look_39 : decode cX1_look 39 = .ok (.iconst 1, 1) := by decide +kernel
theorem dX1_look_40 : decode cX1_look 40 = .ok (.goto 4, 3) := by decide +kernel
theorem dX1_look_43 : decode cX1_look 43 = .ok (.iconst 0, 1) := by decide +kernel
theorem dX1_look_44 : decode cX1_look 44 = .ok (.iadd, 1) := by decide +kernel
theorem dX1_look_45 : decode cX1_look 45 = .ok (.istore_n 2, 1) := by decide +kernel
theorem dX1_look_46 : decode cX1_look 46 = .ok (.aload_n 0, 1) := by decide +kernel
theorem dX1_look_47 : decode cX1_look 47 = .ok (.getfield 7, 3) := by decide +kernel
theorem dX1_look_50 : decode cX1_look 50 = .ok (.iload 7, 2) := by decide +kernel
theorem dX1_look_52 : decode cX1_look 52 = .ok (.iaload, 1) := by decide +kernel
theorem dX1_look_53 : decode cX1_look 53 = .ok (.ifCond .eq 8, 3) := by decide +kernel
theorem dX1_look_56 : decode cX1_look 56 = .ok (.iload 7, 2) := by decide +kernel
theorem dX1_look_58 : decode cX1_look 58 = .ok (.goto 4, 3) := by decide +kernel
theorem dX1_look_61 : decode cX1_look 61 = .ok (.iload_n 3, 1) := by decide +kernel
theorem dX1_look_62 : decode cX1_look 62 = .ok (.istore_n 3, 1) := by decide +kernel
theorem dX1_look_63 : decode cX1_look 63 = .ok (.iload 4, 2) := by decide +kernel
theorem dX1_look_65 : decode cX1_look 65 = .ok (.aload_n 0, 1) := by decide +kernel
theorem dX1_look_66 : decode cX1_look 66 = .ok (.getfield 13, 3) := by decide +kernel
theorem dX1_look_69 : decode cX1_look 69 = .ok (.iload 7, 2) := by decide +kernel
theorem dX1_look_71 : decode cX1_look 71 = .ok (.iaload, 1) := by decide +kernel
theorem dX1_look_72 : decode cX1_look 72 = .ok (.iadd, 1) := by decide +kernel
theorem dX1_look_73 : decode cX1_look 73 = .ok (.istore 4, 2) := by decide +kernel
theorem dX1_look_75 : decode cX1_look 75 = .ok (.iload 5, 2) := by decide +kernel
theorem dX1_look_77 : decode cX1_look 77 = .ok (.aload_n 0, 1) := by decide +kernel
theorem dX1_look_78 : decode cX1_look 78 = .ok (.getfield 16, 3) := by decide +kernel
theorem dX1_look_81 : decode cX1_look 81 = .ok (.iload 7, 2) := by decide +kernel
theorem dX1_look_83 : decode cX1_look 83 = .ok (.iaload, 1) := by decide +kernel
theorem dX1_look_84 : decode cX1_look 84 = .ok (.iadd, 1) := by decide +kernel
theorem dX1_look_85 : decode cX1_look 85 = .ok (.istore 5, 2) := by decide +kernel
theorem dX1_look_87 : decode cX1_look 87 = .ok (.iload 6, 2) := by decide +kernel
theorem dX1_look_89 : decode cX1_look 89 = .ok (.aload_n 0, 1) := by decide +kernel
theorem dX1_look_90 : decode cX1_look 90 = .ok (.getfield 7, 3) := by decide +kernel
theorem dX1_look_93 : decode cX1_look 93 = .ok (.iload 7, 2) := by decide +kernel
theorem dX1_look_95 : decode cX1_look 95 = .ok (.iaload, 1) := by decide +kernel
theorem dX1_look_96 : decode cX1_look 96 = .ok (.ifCond .ge 14, 3) := by decide +kernel
theorem dX1_look_99 : decode cX1_look 99 = .ok (.aload_n 0, 1) := by decide +kernel
theorem dX1_look_100 : decode cX1_look 100 = .ok (.getfield 7, 3) := by decide +kernel
theorem dX1_look_103 : decode cX1_look 103 = .ok (.iload 7, 2) := by decide +kernel
theorem dX1_look_105 : decode cX1_look 105 = .ok (.iaload, 1) := by decide +kernel
theorem dX1_look_106 : decode cX1_look 106 = .ok (.ineg, 1) := by decide +kernel
theorem dX1_look_107 : decode cX1_look 107 = .ok (.goto 10, 3) := by decide +kernel
theorem dX1_look_110 : decode cX1_look 110 = .ok (.aload_n 0, 1) := by decide +kernel
theorem dX1_look_111 : decode cX1_look 111 = .ok (.getfield 7, 3) := by decide +kernel
theorem dX1_look_114 : decode cX1_look 114 = .ok (.iload 7, 2) := by decide +kernel
theorem dX1_look_116 : decode cX1_look 116 = .ok (.iaload, 1) := by decide +kernel
theorem dX1_look_117 : decode cX1_look 117 = .ok (.iadd, 1) := by decide +kernel
theorem dX1_look_118 : decode cX1_look 118 = .ok (.istore 6, 2) := by decide +kernel
theorem dX1_look_120 : decode cX1_look 120 = .ok (.iinc 7 1, 3) := by decide +kernel
theorem dX1_look_123 : decode cX1_look 123 = .ok (.goto (-102), 3) := by decide +kernel
theorem dX1_look_126 : decode cX1_look 126 = .ok (.iload_n 1, 1) := by decide +kernel
theorem dX1_look_127 : decode cX1_look 127 = .ok (.ifCond .ne 7, 3) := by decide +kernel
theorem dX1_look_130 : decode cX1_look 130 = .ok (.iload_n 2, 1) := by decide +kernel
theorem dX1_look_131 : decode cX1_look 131 = .ok (.goto 43, 3) := by decide +kernel
theorem dX1_look_134 : decode cX1_look 134 = .ok (.iload_n 1, 1) := by decide +kernel
theorem dX1_look_135 : decode cX1_look 135 = .ok (.iconst 1, 1) := by decide +kernel
theorem dX1_look_136 : decode cX1_look 136 = .ok (.if_icmp .ne 7, 3) := by decide +kernel
theorem dX1_look_139 : decode cX1_look 139 = .ok (.iload_n 3, 1) := by decide +kernel
theorem dX1_look_140 : decode cX1_look 140 = .ok (.goto 34, 3) := by decide +kernel
theorem dX1_look_143 : decode cX1_look 143 = .ok (.iload_n 1, 1) := by decide +kernel
theorem dX1_look_144 : decode cX1_look 144 = .ok (.iconst 2, 1) := by decide +kernel
theorem dX1_look_145 : decode cX1_look 145 = .ok (.if_icmp .ne 8, 3) := by decide +kernel
theorem dX1_look_148 : decode cX1_look 148 = .ok (.iload 4, 2) := by decide +kernel
theorem dX1_look_150 : decode cX1_look 150 = .ok (.goto 24, 3) := by decide +kernel
theorem dX1_look_153 : decode cX1_look 153 = .ok (.iload_n 1, 1) := by decide +kernel
theorem dX1_look_154 : decode cX1_look 154 = .ok (.iconst 3, 1) := by decide +kernel
theorem dX1_look_155 : decode cX1_look 155 = .ok (.if_icmp .ne 8, 3) := by decide +kernel
theorem dX1_look_158 : decode cX1_look 158 = .ok (.iload 5, 2) := by decide +kernel
theorem dX1_look_160 : decode cX1_look 160 = .ok (.goto 14, 3) := by decide +kernel
theorem dX1_look_163 : decode cX1_look 163 = .ok (.iload_n 1, 1) := by decide +kernel
theorem dX1_look_164 : decode cX1_look 164 = .ok (.iconst 4, 1) := by decide +kernel
theorem dX1_look_165 : decode cX1_look 165 = .ok (.if_icmp .ne 8, 3) := by decide +kernel
theorem dX1_look_168 : decode cX1_look 168 = .ok (.iload 6, 2) := by decide +kernel
theorem dX1_look_170 : decode cX1_look 170 = .ok (.goto 4, 3) := by decide +kernel
theorem dX1_look_173 : decode cX1_look 173 = .ok (.iconst (-1), 1) := by decide +kernel
theorem dX1_look_174 : decode cX1_look 174 = .ok (.ireturn, 1) := by decide +kernel
set_option maxHeartbeats 4000000 in
set_option maxRecDepth 100000 in
/-- the reference: error -/
theorem n_error (l : Launch) (D : va_G) (y : Nat → Nat) (ce : Nat → ClassId) (th : Int32) (r0 r1 r2 r3 dn ac : Nat → Int32) (sm : Nat → Int64) (q : Int32) (sz : Nat) : Met l yX1_error wsX1_error ({ frames := 0, cells := 0, slots := 0, locals := 0 } : Room) (va_Pc [.ref (y 0), .int q] (crw D (mw y ce th r0 r1 r2 r3 dn ac sm) (mty ce) sz)) (va_Qi (fun (r : Int32) (t9 : Int32) => (t9 = 0 ∧ (1 ≤ q.toInt ∧ q.toInt ≤ 8) ∧ r = erR r2 r3 q.toInt.toNat 64) ∨ (t9 = 1 ∧ ¬ (1 ≤ q.toInt ∧ q.toInt ≤ 8))) (fun (t9 : Int32) (t : State) => crB D (mw y ce t9 r0 r1 r2 r3 dn ac sm) (mty ce) (va_A (mw y ce th r0 r1 r2 r3 dn ac sm) sz) t) (va_A (mw y ce th r0 r1 r2 r3 dn ac sm) sz)) 0 0 (va_A (mw y ce th r0 r1 r2 r3 dn ac sm) sz) := by
  refine Met.ofW (cc := cX1_error) (maxL := 5) (ret := some .int) (by decide) rfl ?_
  intro p e s m args below meth c s₁ B hml hv
  obtain ⟨rfl, hsz, hP, hK, hD0, hTb⟩ := hv
  have hx := B.exec
  have hb := B.bytes
  have hr := B.returns
  have hts : ∀ w ∈ wA, w.before _ s = true := fun w h => atoms_spec (ws := wsX1_error) B.pre w (List.mem_cons_of_mem _ h)
  have hown : s.vm.findClass RX1 = some m.cls := findClass_of_methodNamed B.named
  have hlocks := B.notSynchronized
  subst hsz
  have hD := hD0.self (sz := s.heap.size)
  generalize hAe : va_A (mw y ce th r0 r1 r2 r3 dn ac sm) s.heap.size = A at hD hTb ⊢
  have hA : ∀ q : Nat, s.heap.size ≤ q → A q := fun q h => by rw [← hAe]; exact Or.inr h
  have hS : va_S A s.heap s.heap [] := va_S.rf
  have hin1 := inA1
  have hf32 := (hts _ wm_302)
  have hf16 := (hts _ wm_305)
  have hf19 := (hts _ wm_306)
  have hl := lv_entry ([.ref (y 0), .int q]) (n := 5) (Nat.le_of_ble_eq_true rfl)
  rw [lg_entry_eq]
  generalize (lg_sl ([.ref (y 0), .int q]) ++ List.replicate (5 - (lg_sl ([.ref (y 0), .int q])).length) Slot.unset).toArray = ls at hl ⊢
  have hl : lv_has ls 5 [(0, .ref (y 0)), (1, .int q)] := hl
  have J17 : ∀ (tv : Int32), ((tv = 0 ∧ (1 ≤ q.toInt ∧ q.toInt ≤ 8)) ∨ (tv = 1 ∧ ¬ ((1 ≤ q.toInt ∧ q.toInt ≤ 8)))) → W p l e ((headSpec wsX1_error ({ frames := 0, cells := 0, slots := 0, locals := 0 } : Room)).room) s m (([.ref (y 0), .int q] : List Value).toArray) below meth c s.heap [] 0 0 (MQ below (va_Qi (fun (r : Int32) (t9 : Int32) => (t9 = 0 ∧ (1 ≤ q.toInt ∧ q.toInt ≤ 8) ∧ r = erR r2 r3 q.toInt.toNat 64) ∨ (t9 = 1 ∧ ¬ (1 ≤ q.toInt ∧ q.toInt ≤ 8))) (fun (t9 : Int32) (t : State) => crB D (mw y ce t9 r0 r1 r2 r3 dn ac sm) (mty ce) A t) A) ([.ref (y 0), .int q] : List Value).toArray s 0 0 A) (F0 m 17 ls [.int tv, .ref (y 0)]) := by
    intro tv htv
    rcases htv with ⟨rfl, hok⟩ | ⟨rfl, hno⟩
    · skip
      obtain ⟨nn, hn9, hej⟩ := cx_ofN (x := q) (n := 9) (by omega) (by omega) (by decide)
      have e_1 : q = nI nn := hej
      rw [e_1] at hl
      refine va_put (D := D) (ci := 1) (v := .int (0 : Int32)) (ty := .int) (C := RX1) (T := TX1) (N := 8) hx hb hts hin1 tyX1 tyX1_ok nmX1 hown hK hP hD hS 0 rfl rfl 0 (by decide) hf32 (fun _ h9 => h9) rfl (by decide +kernel) rfl rfl (Nat.le_of_ble_eq_true rfl) dX1_error_17 (fun H locs hP hD hS => ?_)
      have hP : va_P D vwCl (mw y ce (0 : Int32) r0 r1 r2 r3 dn ac sm) H := hP
      have hD : va_D A (mw y ce (0 : Int32) r0 r1 r2 r3 dn ac sm) := hD
      refine lv_iconst (v := (0 : Int32)) hx hb dX1_error_20 (by decide +kernel) ?_
      refine lv_istore_n (lv' := [(2, .int (0 : Int32)), (0, .ref (y 0)), (1, .int (nI nn))]) hx hb dX1_error_21 rfl hl (by decide) rfl (fun ls hl => ?_)
      refine lv_iconst (v := (0 : Int32)) hx hb dX1_error_22 (by decide +kernel) ?_
      refine lv_istore_n (lv' := [(3, .int (0 : Int32)), (2, .int (0 : Int32)), (0, .ref (y 0)), (1, .int (nI nn))]) hx hb dX1_error_23 rfl hl (by decide) rfl (fun ls hl => ?_)
      have L24 : ∀ (n : Nat) (k9 : Nat) (ls : Array Slot), (64 - k9) < n → (k9 ≤ 64) → lv_has ls 5 [(0, .ref (y 0)), (1, .int (nI nn)), (2, .int (erR r2 r3 nn k9)), (3, .int (nI k9))] → W p l e ((headSpec wsX1_error ({ frames := 0, cells := 0, slots := 0, locals := 0 } : Room)).room) s m (([.ref (y 0), .int q] : List Value).toArray) below meth c H locs 0 0 (MQ below (va_Qi (fun (r : Int32) (t9 : Int32) => (t9 = 0 ∧ (1 ≤ q.toInt ∧ q.toInt ≤ 8) ∧ r = erR r2 r3 q.toInt.toNat 64) ∨ (t9 = 1 ∧ ¬ (1 ≤ q.toInt ∧ q.toInt ≤ 8))) (fun (t9 : Int32) (t : State) => crB D (mw y ce t9 r0 r1 r2 r3 dn ac sm) (mty ce) A t) A) ([.ref (y 0), .int q] : List Value).toArray s 0 0 A) (F0 m 24 ls []) := by
        intro n
        induction n with
        | zero =>
          intro k9 ls hn
          exact absurd hn (Nat.not_lt_zero _)
        | succ n ih24 =>
          intro k9 ls hn24 hk9 hl
          refine lv_iload_n hx hb dX1_error_24 rfl (lv_at hl 3 rfl) ?_
          refine lv_bipush (v := (64 : Int32)) hx hb dX1_error_25 (by decide +kernel) ?_
          refine cx_icmp_ge (i := ((k9 : Nat) : Int)) (j := 64) (tgt := 86) hx hb (nI_toInt (by omega)) (by decide +kernel) dX1_error_27 (by decide) (fun c_2 => ?_) (fun c_2 => ?_)
          · refine lv_iload_n hx hb dX1_error_86 rfl (lv_at hl 2 rfl) ?_
            exact W.iret (v := erR r2 r3 nn k9) hx hb hr (fun t ht hW => ⟨⟨erR r2 r3 nn k9, (0 : Int32), rfl, (by obtain rfl : k9 = 64 := (by omega); exact Or.inl ⟨rfl, hok, by rw [hej, cx_toNat (by omega)]⟩), by rw [ht]; exact hP, va_K.moved hW.alike hK, hD⟩, hS.F ht⟩) hS.2.2 dX1_error_87
          · refine lv_aload_n hx hb dX1_error_30 rfl (lv_at hl 0 rfl) ?_
            refine va_get (D := D) (ci := 1) (v := .int (0 : Int32)) (C := RX1) (T := TX1) (N := 8) hx hb hts hin1 hown hK hP 0 rfl rfl 0 (by decide) hf32 (fun _ h9 => h9) rfl dX1_error_31 ?_
            refine cx_if_ne (i := 0) (j := 0) (tgt := 86) hx hb (by decide +kernel) rfl dX1_error_34 (by decide) (fun c_3 => absurd c_3 (by decide)) (fun c_3 => ?_)
            refine lv_aload_n hx hb dX1_error_37 rfl (lv_at hl 0 rfl) ?_
            refine va_get (D := D) (ci := 1) (v := .ref (y 3)) (C := RX1) (T := TX1) (N := 8) hx hb hts hin1 hown hK hP 0 rfl rfl 3 (by decide) hf16 (fun _ h9 => h9) rfl dX1_error_38 ?_
            refine lv_iload_n hx hb dX1_error_41 rfl (lv_at hl 3 rfl) ?_
            refine cx_iald hx hb hK hP 3 2 rfl rfl k9 (by omega) (by decide) dX1_error_42 ?_
            refine lv_aload_n hx hb dX1_error_43 rfl (lv_at hl 0 rfl) ?_
            refine va_get (D := D) (ci := 1) (v := .ref (y 4)) (C := RX1) (T := TX1) (N := 8) hx hb hts hin1 hown hK hP 0 rfl rfl 4 (by decide) hf19 (fun _ h9 => h9) rfl dX1_error_44 ?_
            refine lv_iload_n hx hb dX1_error_47 rfl (lv_at hl 3 rfl) ?_
            refine cx_iald hx hb hK hP 4 3 rfl rfl k9 (by omega) (by decide) dX1_error_48 ?_
            refine lv_isub hx hb dX1_error_49 ?_
            refine lv_istore (lv' := [(4, .int ((r2 k9) - (r3 k9))), (0, .ref (y 0)), (1, .int (nI nn)), (2, .int (erR r2 r3 nn k9)), (3, .int (nI k9))]) hx hb dX1_error_50 hl (by decide) rfl (fun ls hl => ?_)
            refine lv_iload_n hx hb dX1_error_52 rfl (lv_at hl 3 rfl) ?_
            have J78 : ∀ (tc : Int32), (tc = if k9 / 8 < nn ∧ k9 % 8 < nn then ((r2 k9) - (r3 k9)) * ((r2 k9) - (r3 k9)) else 0) → W p l e ((headSpec wsX1_error ({ frames := 0, cells := 0, slots := 0, locals := 0 } : Room)).room) s m (([.ref (y 0), .int q] : List Value).toArray) below meth c H locs 0 0 (MQ below (va_Qi (fun (r : Int32) (t9 : Int32) => (t9 = 0 ∧ (1 ≤ q.toInt ∧ q.toInt ≤ 8) ∧ r = erR r2 r3 q.toInt.toNat 64) ∨ (t9 = 1 ∧ ¬ (1 ≤ q.toInt ∧ q.toInt ≤ 8))) (fun (t9 : Int32) (t : State) => crB D (mw y ce t9 r0 r1 r2 r3 dn ac sm) (mty ce) A t) A) ([.ref (y 0), .int q] : List Value).toArray s 0 0 A) (F0 m 78 ls [.int tc, .int (erR r2 r3 nn k9)]) := by
              intro tc hcl
              refine lv_iadd hx hb dX1_error_78 ?_
              refine lv_istore_n (lv' := [(2, .int ((erR r2 r3 nn k9) + tc)), (4, .int ((r2 k9) - (r3 k9))), (0, .ref (y 0)), (1, .int (nI nn)), (3, .int (nI k9))]) hx hb dX1_error_79 rfl hl (by decide) rfl (fun ls hl => ?_)
              refine lv_iinc (v := nI (k9 + 1)) (lv' := [(3, .int (nI (k9 + 1))), (2, .int ((erR r2 r3 nn k9) + tc)), (4, .int ((r2 k9) - (r3 k9))), (0, .ref (y 0)), (1, .int (nI nn))]) hx hb dX1_error_80 hl (k := 4) rfl (by show nI k9 + 1 = nI (k9 + 1); exact nI_add k9 1) (by decide) rfl (fun ls hl => ?_)
              refine lv_goto (tgt := 24) hx hb dX1_error_83 (by decide) ?_
              have e_4 : (erR r2 r3 nn k9) + tc = erR r2 r3 nn (k9 + 1) := by rw [hcl]; rfl
              rw [e_4] at hl
              exact ih24 (k9 + 1) _ (by omega) (by omega) (lv_sub hl [3, 4, 1, 0] rfl)
            refine lv_iload_n hx hb dX1_error_53 rfl (lv_at hl 4 rfl) ?_
            refine lv_bipush (v := (8 : Int32)) hx hb dX1_error_54 (by decide +kernel) ?_
            refine lv_idiv hx hb dX1_error_56 (by decide) ?_
            have e_5 : (nI k9) / (8 : Int32) = nI (k9 / 8) := pk_div (by omega) (by decide) (by decide)
            rw [e_5]
            refine lv_iload_n hx hb dX1_error_57 rfl (lv_at hl 2 rfl) ?_
            refine cx_icmp_ge (i := ((k9 / 8 : Nat) : Int)) (j := ((nn : Nat) : Int)) (tgt := 77) hx hb (nI_toInt (by omega)) (nI_toInt (by omega)) dX1_error_58 (by decide) (fun c_6 => ?_) (fun c_6 => ?_)
            · refine lv_iconst (v := (0 : Int32)) hx hb dX1_error_77 (by decide +kernel) ?_
              exact J78 (0 : Int32) (by rw [if_neg (by omega)])
            · refine lv_iload_n hx hb dX1_error_61 rfl (lv_at hl 4 rfl) ?_
              refine lv_bipush (v := (8 : Int32)) hx hb dX1_error_62 (by decide +kernel) ?_
              refine lv_irem hx hb dX1_error_64 (by decide) ?_
              have e_7 : (nI k9) - (nI k9) / (8 : Int32) * (8 : Int32) = nI (k9 % 8) := pk_rem (by omega) (by decide) (by decide)
              rw [e_7]
              refine lv_iload_n hx hb dX1_error_65 rfl (lv_at hl 2 rfl) ?_
              refine cx_icmp_ge (i := ((k9 % 8 : Nat) : Int)) (j := ((nn : Nat) : Int)) (tgt := 77) hx hb (nI_toInt (by omega)) (nI_toInt (by omega)) dX1_error_66 (by decide) (fun c_8 => ?_) (fun c_8 => ?_)
              · refine lv_iconst (v := (0 : Int32)) hx hb dX1_error_77 (by decide +kernel) ?_
                exact J78 (0 : Int32) (by rw [if_neg (by omega)])
              · refine lv_iload hx hb dX1_error_69 (lv_at hl 0 rfl) ?_
                refine lv_iload hx hb dX1_error_71 (lv_at hl 0 rfl) ?_
                refine lv_imul hx hb dX1_error_73 ?_
                refine lv_goto (tgt := 78) hx hb dX1_error_74 (by decide) ?_
                exact J78 (((r2 k9) - (r3 k9)) * ((r2 k9) - (r3 k9))) (by rw [if_pos (by omega)])
      exact L24 _ 0 _ (Nat.lt_succ_self _) (Nat.zero_le _) (lv_sub hl [2, 3, 1, 0] rfl)
    · skip
      refine va_put (D := D) (ci := 1) (v := .int (1 : Int32)) (ty := .int) (C := RX1) (T := TX1) (N := 8) hx hb hts hin1 tyX1 tyX1_ok nmX1 hown hK hP hD hS 0 rfl rfl 0 (by decide) hf32 (fun _ h9 => h9) rfl (by decide +kernel) rfl rfl (Nat.le_of_ble_eq_true rfl) dX1_error_17 (fun H locs hP hD hS => ?_)
      have hP : va_P D vwCl (mw y ce (1 : Int32) r0 r1 r2 r3 dn ac sm) H := hP
      have hD : va_D A (mw y ce (1 : Int32) r0 r1 r2 r3 dn ac sm) := hD
      refine lv_iconst (v := (0 : Int32)) hx hb dX1_error_20 (by decide +kernel) ?_
      refine lv_istore_n (lv' := [(2, .int (0 : Int32)), (0, .ref (y 0)), (1, .int q)]) hx hb dX1_error_21 rfl hl (by decide) rfl (fun ls hl => ?_)
      refine lv_iconst (v := (0 : Int32)) hx hb dX1_error_22 (by decide +kernel) ?_
      refine lv_istore_n (lv' := [(3, .int (0 : Int32)), (2, .int (0 : Int32)), (0, .ref (y 0)), (1, .int q)]) hx hb dX1_error_23 rfl hl (by decide) rfl (fun ls hl => ?_)
      refine lv_iload_n hx hb dX1_error_24 rfl (lv_at hl 0 rfl) ?_
      refine lv_bipush (v := (64 : Int32)) hx hb dX1_error_25 (by decide +kernel) ?_
      refine cx_icmp_ge (i := 0) (j := 64) (tgt := 86) hx hb (by decide +kernel) (by decide +kernel) dX1_error_27 (by decide) (fun c_9 => absurd c_9 (by decide)) (fun c_9 => ?_)
      refine lv_aload_n hx hb dX1_error_30 rfl (lv_at hl 2 rfl) ?_
      refine va_get (D := D) (ci := 1) (v := .int (1 : Int32)) (C := RX1) (T := TX1) (N := 8) hx hb hts hin1 hown hK hP 0 rfl rfl 0 (by decide) hf32 (fun _ h9 => h9) rfl dX1_error_31 ?_
      refine cx_if_ne (i := 1) (j := 0) (tgt := 86) hx hb (by decide +kernel) rfl dX1_error_34 (by decide) (fun c_10 => ?_) (fun c_10 => absurd c_10 (by decide))
      refine lv_iload_n hx hb dX1_error_86 rfl (lv_at hl 1 rfl) ?_
      exact W.iret (v := (0 : Int32)) hx hb hr (fun t ht hW => ⟨⟨(0 : Int32), (1 : Int32), rfl, Or.inr ⟨rfl, hno⟩, by rw [ht]; exact hP, va_K.moved hW.alike hK, hD⟩, hS.F ht⟩) hS.2.2 dX1_error_87
  refine lv_aload_n hx hb dX1_error_0 rfl (lv_at hl 0 rfl) ?_
  refine lv_iload_n hx hb dX1_error_1 rfl (lv_at hl 1 rfl) ?_
  refine lv_iconst (v := (1 : Int32)) hx hb dX1_error_2 (by decide +kernel) ?_
  refine cx_icmp_lt (i := q.toInt) (j := 1) (tgt := 12) hx hb rfl (by decide +kernel) dX1_error_3 (by decide) (fun c_11 => ?_) (fun c_11 => ?_)
  · refine lv_iconst (v := (1 : Int32)) hx hb dX1_error_12 (by decide +kernel) ?_
    refine lv_goto (tgt := 17) hx hb dX1_error_13 (by decide) ?_
    exact J17 (1 : Int32) (Or.inr ⟨rfl, by omega⟩)
  · refine lv_iload_n hx hb dX1_error_6 rfl (lv_at hl 1 rfl) ?_
    refine lv_bipush (v := (8 : Int32)) hx hb dX1_error_7 (by decide +kernel) ?_
    refine cx_icmp_le (i := q.toInt) (j := 8) (tgt := 16) hx hb rfl (by decide +kernel) dX1_error_9 (by decide) (fun c_12 => ?_) (fun c_12 => ?_)
    · refine lv_iconst (v := (0 : Int32)) hx hb dX1_error_16 (by decide +kernel) ?_
      exact J17 (0 : Int32) (Or.inl ⟨rfl, by omega⟩)
    · refine lv_iconst (v := (1 : Int32)) hx hb dX1_error_12 (by decide +kernel) ?_
      refine lv_goto (tgt := 17) hx hb dX1_error_13 (by decide) ?_
      exact J17 (1 : Int32) (Or.inr ⟨rfl, by omega⟩)
set_option maxHeartbeats 4000000 in
set_option maxRecDepth 100000 in
/-- the reference: at -/
theorem n_at (l : Launch) (D : va_G) (y : Nat → Nat) (ce : Nat → ClassId) (th : Int32) (r0 r1 r2 r3 dn ac : Nat → Int32) (sm : Nat → Int64) (hdn : dnOk dn ac) (q k9 : Int32) (sz : Nat) : Met l yX1_at wsX1_at ({ frames := 1, cells := 0, slots := 0, locals := 20 } : Room) (va_Pc [.ref (y 0), .int q, .int k9] (crw D (mw y ce th r0 r1 r2 r3 dn ac sm) (mty ce) sz)) (va_Qi (fun (r : Int32) (t9 : Int32) => (t9 = 0 ∧ ((0 ≤ q.toInt ∧ q.toInt < 64) ∧ (0 ≤ k9.toInt ∧ k9.toInt ≤ 3)) ∧ r = atR r0 r1 q.toInt.toNat k9) ∨ (t9 = 1 ∧ ¬ ((0 ≤ q.toInt ∧ q.toInt < 64) ∧ (0 ≤ k9.toInt ∧ k9.toInt ≤ 3)))) (fun (t9 : Int32) (t : State) => crB D (mw y ce t9 r0 r1 r2 r3 dn ac sm) (mty ce) (va_A (mw y ce th r0 r1 r2 r3 dn ac sm) sz) t) (va_A (mw y ce th r0 r1 r2 r3 dn ac sm) sz)) 0 0 (va_A (mw y ce th r0 r1 r2 r3 dn ac sm) sz) := by
  refine Met.ofW (cc := cX1_at) (maxL := 3) (ret := some .int) (by decide) rfl ?_
  intro p e s m args below meth c s₁ B hml hv
  obtain ⟨rfl, hsz, hP, hK, hD0, hTb⟩ := hv
  have hx := B.exec
  have hb := B.bytes
  have hr := B.returns
  have hts : ∀ w ∈ wA, w.before _ s = true := fun w h => atoms_spec (ws := wsX1_at) B.pre w (List.mem_cons_of_mem _ h)
  have hown : s.vm.findClass RX1 = some m.cls := findClass_of_methodNamed B.named
  have hlocks := B.notSynchronized
  subst hsz
  have hD := hD0.self (sz := s.heap.size)
  generalize hAe : va_A (mw y ce th r0 r1 r2 r3 dn ac sm) s.heap.size = A at hD hTb ⊢
  have hA : ∀ q : Nat, s.heap.size ≤ q → A q := fun q h => by rw [← hAe]; exact Or.inr h
  have hS : va_S A s.heap s.heap [] := va_S.rf
  have hin1 := inA1
  have hf32 := (hts _ wm_302)
  have hf7 := (hts _ wm_303)
  have hf13 := (hts _ wm_304)
  have hf22 := (hts _ wm_307)
  have hf25 := (hts _ wm_308)
  have hl := lv_entry ([.ref (y 0), .int q, .int k9]) (n := 3) (Nat.le_of_ble_eq_true rfl)
  rw [lg_entry_eq]
  generalize (lg_sl ([.ref (y 0), .int q, .int k9]) ++ List.replicate (3 - (lg_sl ([.ref (y 0), .int q, .int k9])).length) Slot.unset).toArray = ls at hl ⊢
  have hl : lv_has ls 3 [(0, .ref (y 0)), (1, .int q), (2, .int k9)] := hl
  have J22 : ∀ (tv : Int32), ((tv = 0 ∧ (0 ≤ q.toInt ∧ q.toInt < 64) ∧ (0 ≤ k9.toInt ∧ k9.toInt ≤ 3)) ∨ (tv = 1 ∧ ¬ ((0 ≤ q.toInt ∧ q.toInt < 64) ∧ (0 ≤ k9.toInt ∧ k9.toInt ≤ 3)))) → W p l e ((headSpec wsX1_at ({ frames := 1, cells := 0, slots := 0, locals := 20 } : Room)).room) s m (([.ref (y 0), .int q, .int k9] : List Value).toArray) below meth c s.heap [] 0 0 (MQ below (va_Qi (fun (r : Int32) (t9 : Int32) => (t9 = 0 ∧ ((0 ≤ q.toInt ∧ q.toInt < 64) ∧ (0 ≤ k9.toInt ∧ k9.toInt ≤ 3)) ∧ r = atR r0 r1 q.toInt.toNat k9) ∨ (t9 = 1 ∧ ¬ ((0 ≤ q.toInt ∧ q.toInt < 64) ∧ (0 ≤ k9.toInt ∧ k9.toInt ≤ 3)))) (fun (t9 : Int32) (t : State) => crB D (mw y ce t9 r0 r1 r2 r3 dn ac sm) (mty ce) A t) A) ([.ref (y 0), .int q, .int k9] : List Value).toArray s 0 0 A) (F0 m 22 ls [.int tv, .ref (y 0)]) := by
    intro tv htv
    rcases htv with ⟨rfl, hok⟩ | ⟨rfl, hno⟩
    · skip
      obtain ⟨j9, hj9, hej⟩ := cx_ofN (x := q) (n := 64) (by omega) (by omega) (by decide)
      have e_1 : q = nI j9 := hej
      rw [e_1] at hl
      refine va_put (D := D) (ci := 1) (v := .int (0 : Int32)) (ty := .int) (C := RX1) (T := TX1) (N := 8) hx hb hts hin1 tyX1 tyX1_ok nmX1 hown hK hP hD hS 0 rfl rfl 0 (by decide) hf32 (fun _ h9 => h9) rfl (by decide +kernel) rfl rfl (Nat.le_of_ble_eq_true rfl) dX1_at_22 (fun H locs hP hD hS => ?_)
      have hP : va_P D vwCl (mw y ce (0 : Int32) r0 r1 r2 r3 dn ac sm) H := hP
      have hD : va_D A (mw y ce (0 : Int32) r0 r1 r2 r3 dn ac sm) := hD
      refine lv_aload_n hx hb dX1_at_25 rfl (lv_at hl 0 rfl) ?_
      refine va_get (D := D) (ci := 1) (v := .int (0 : Int32)) (C := RX1) (T := TX1) (N := 8) hx hb hts hin1 hown hK hP 0 rfl rfl 0 (by decide) hf32 (fun _ h9 => h9) rfl dX1_at_26 ?_
      refine cx_if_le (i := 0) (j := 0) (tgt := 36) hx hb (by decide +kernel) rfl dX1_at_29 (by decide) (fun c_2 => ?_) (fun c_2 => absurd c_2 (by decide))
      refine lv_iload_n hx hb dX1_at_36 rfl (lv_at hl 2 rfl) ?_
      refine cx_if_ne (i := k9.toInt) (j := 0) (tgt := 49) hx hb rfl rfl dX1_at_37 (by decide) (fun c_3 => ?_) (fun c_3 => ?_)
      · refine lv_iload_n hx hb dX1_at_49 rfl (lv_at hl 2 rfl) ?_
        refine lv_iconst (v := (1 : Int32)) hx hb dX1_at_50 (by decide +kernel) ?_
        refine cx_icmp_ne (i := k9.toInt) (j := 1) (tgt := 63) hx hb rfl (by decide +kernel) dX1_at_51 (by decide) (fun c_4 => ?_) (fun c_4 => ?_)
        · refine lv_iload_n hx hb dX1_at_63 rfl (lv_at hl 2 rfl) ?_
          refine lv_iconst (v := (2 : Int32)) hx hb dX1_at_64 (by decide +kernel) ?_
          refine cx_icmp_ne (i := k9.toInt) (j := 2) (tgt := 77) hx hb rfl (by decide +kernel) dX1_at_65 (by decide) (fun c_5 => ?_) (fun c_5 => ?_)
          · refine lv_aload_n hx hb dX1_at_77 rfl (lv_at hl 0 rfl) ?_
            refine va_get (D := D) (ci := 1) (v := .ref (y 6)) (C := RX1) (T := TX1) (N := 8) hx hb hts hin1 hown hK hP 0 rfl rfl 6 (by decide) hf25 (fun _ h9 => h9) rfl dX1_at_78 ?_
            refine lv_iload_n hx hb dX1_at_81 rfl (lv_at hl 1 rfl) ?_
            refine cx_iald hx hb hK hP 6 5 rfl rfl j9 (by omega) (by decide) dX1_at_82 ?_
            exact W.iret (v := ac j9) hx hb hr (fun t ht hW => ⟨⟨ac j9, (0 : Int32), rfl, Or.inl ⟨rfl, hok, by unfold atR; rw [hej, cx_toNat (by omega), if_neg (by omega), if_neg (by omega), if_neg (by omega)]; exact (hdn j9 (by omega)).2⟩, by rw [ht]; exact hP, va_K.moved hW.alike hK, hD⟩, hS.F ht⟩) hS.2.2 dX1_at_83
          · refine lv_aload_n hx hb dX1_at_68 rfl (lv_at hl 0 rfl) ?_
            refine va_get (D := D) (ci := 1) (v := .ref (y 5)) (C := RX1) (T := TX1) (N := 8) hx hb hts hin1 hown hK hP 0 rfl rfl 5 (by decide) hf22 (fun _ h9 => h9) rfl dX1_at_69 ?_
            refine lv_iload_n hx hb dX1_at_72 rfl (lv_at hl 1 rfl) ?_
            refine cx_iald hx hb hK hP 5 4 rfl rfl j9 (by omega) (by decide) dX1_at_73 ?_
            refine lv_goto (tgt := 83) hx hb dX1_at_74 (by decide) ?_
            exact W.iret (v := dn j9) hx hb hr (fun t ht hW => ⟨⟨dn j9, (0 : Int32), rfl, Or.inl ⟨rfl, hok, by unfold atR; rw [hej, cx_toNat (by omega), if_neg (by omega), if_neg (by omega), if_pos (by omega)]; exact (hdn j9 (by omega)).1⟩, by rw [ht]; exact hP, va_K.moved hW.alike hK, hD⟩, hS.F ht⟩) hS.2.2 dX1_at_83
        · refine lv_aload_n hx hb dX1_at_54 rfl (lv_at hl 0 rfl) ?_
          refine va_get (D := D) (ci := 1) (v := .ref (y 2)) (C := RX1) (T := TX1) (N := 8) hx hb hts hin1 hown hK hP 0 rfl rfl 2 (by decide) hf13 (fun _ h9 => h9) rfl dX1_at_55 ?_
          refine lv_iload_n hx hb dX1_at_58 rfl (lv_at hl 1 rfl) ?_
          refine cx_iald hx hb hK hP 2 1 rfl rfl j9 (by omega) (by decide) dX1_at_59 ?_
          refine lv_goto (tgt := 83) hx hb dX1_at_60 (by decide) ?_
          exact W.iret (v := r1 j9) hx hb hr (fun t ht hW => ⟨⟨r1 j9, (0 : Int32), rfl, Or.inl ⟨rfl, hok, by unfold atR; rw [hej, cx_toNat (by omega), if_neg (by omega), if_pos (by omega)]⟩, by rw [ht]; exact hP, va_K.moved hW.alike hK, hD⟩, hS.F ht⟩) hS.2.2 dX1_at_83
      · refine lv_aload_n hx hb dX1_at_40 rfl (lv_at hl 0 rfl) ?_
        refine va_get (D := D) (ci := 1) (v := .ref (y 1)) (C := RX1) (T := TX1) (N := 8) hx hb hts hin1 hown hK hP 0 rfl rfl 1 (by decide) hf7 (fun _ h9 => h9) rfl dX1_at_41 ?_
        refine lv_iload_n hx hb dX1_at_44 rfl (lv_at hl 1 rfl) ?_
        refine cx_iald hx hb hK hP 1 0 rfl rfl j9 (by omega) (by decide) dX1_at_45 ?_
        refine lv_goto (tgt := 83) hx hb dX1_at_46 (by decide) ?_
        exact W.iret (v := r0 j9) hx hb hr (fun t ht hW => ⟨⟨r0 j9, (0 : Int32), rfl, Or.inl ⟨rfl, hok, by unfold atR; rw [hej, cx_toNat (by omega), if_pos (by omega)]⟩, by rw [ht]; exact hP, va_K.moved hW.alike hK, hD⟩, hS.F ht⟩) hS.2.2 dX1_at_83
    · skip
      refine va_put (D := D) (ci := 1) (v := .int (1 : Int32)) (ty := .int) (C := RX1) (T := TX1) (N := 8) hx hb hts hin1 tyX1 tyX1_ok nmX1 hown hK hP hD hS 0 rfl rfl 0 (by decide) hf32 (fun _ h9 => h9) rfl (by decide +kernel) rfl rfl (Nat.le_of_ble_eq_true rfl) dX1_at_22 (fun H locs hP hD hS => ?_)
      have hP : va_P D vwCl (mw y ce (1 : Int32) r0 r1 r2 r3 dn ac sm) H := hP
      have hD : va_D A (mw y ce (1 : Int32) r0 r1 r2 r3 dn ac sm) := hD
      refine lv_aload_n hx hb dX1_at_25 rfl (lv_at hl 0 rfl) ?_
      refine va_get (D := D) (ci := 1) (v := .int (1 : Int32)) (C := RX1) (T := TX1) (N := 8) hx hb hts hin1 hown hK hP 0 rfl rfl 0 (by decide) hf32 (fun _ h9 => h9) rfl dX1_at_26 ?_
      refine cx_if_le (i := 1) (j := 0) (tgt := 36) hx hb (by decide +kernel) rfl dX1_at_29 (by decide) (fun c_6 => absurd c_6 (by decide)) (fun c_6 => ?_)
      refine lv_iconst (v := (0 : Int32)) hx hb dX1_at_32 (by decide +kernel) ?_
      refine lv_goto (tgt := 83) hx hb dX1_at_33 (by decide) ?_
      exact W.iret (v := (0 : Int32)) hx hb hr (fun t ht hW => ⟨⟨(0 : Int32), (1 : Int32), rfl, Or.inr ⟨rfl, hno⟩, by rw [ht]; exact hP, va_K.moved hW.alike hK, hD⟩, hS.F ht⟩) hS.2.2 dX1_at_83
  refine lv_aload_n hx hb dX1_at_0 rfl (lv_at hl 0 rfl) ?_
  refine lv_iload_n hx hb dX1_at_1 rfl (lv_at hl 1 rfl) ?_
  refine vp_callSi (W.runS (As := [.int q]) (rest := [.ref (y 0)]) ⟨hx, hb, hml, hown, hts⟩ (n_isPlace l D q) (va_cwS 1 hts (gw_S wm_335 wm_336 wm_13 wm_337) rfl rfl rfl (by decide +kernel) ⟨Nat.le_of_ble_eq_true rfl, Nat.le_of_ble_eq_true rfl⟩) ⟨cro_blind, fun U hU hW => ⟨rfl, cro_at (hP.sub (ws' := []) [] rfl) (hK.sub (tys' := []) [] rfl) hTb hS hU hW⟩⟩ rfl rfl hl.1 rfl (lv_room (Nat.le_of_ble_eq_true rfl)) dX1_at_2 ⟨Nat.le_of_ble_eq_true rfl, Nat.le_of_ble_eq_true rfl⟩) (fun r_7 hr_7 => ?_)
  rcases hr_7 with ⟨rfl, ha9, hb9⟩ | ⟨rfl, ha9⟩
  · refine cx_if_eq (i := 1) (j := 0) (tgt := 17) hx hb (by decide +kernel) rfl dX1_at_5 (by decide) (fun c_8 => absurd c_8 (by decide)) (fun c_8 => ?_)
    refine lv_iload_n hx hb dX1_at_8 rfl (lv_at hl 2 rfl) ?_
    refine cx_if_lt (i := k9.toInt) (j := 0) (tgt := 17) hx hb rfl rfl dX1_at_9 (by decide) (fun c_9 => ?_) (fun c_9 => ?_)
    · refine lv_iconst (v := (1 : Int32)) hx hb dX1_at_17 (by decide +kernel) ?_
      refine lv_goto (tgt := 22) hx hb dX1_at_18 (by decide) ?_
      exact J22 (1 : Int32) (Or.inr ⟨rfl, by omega⟩)
    · refine lv_iload_n hx hb dX1_at_12 rfl (lv_at hl 2 rfl) ?_
      refine lv_iconst (v := (3 : Int32)) hx hb dX1_at_13 (by decide +kernel) ?_
      refine cx_icmp_le (i := k9.toInt) (j := 3) (tgt := 21) hx hb rfl (by decide +kernel) dX1_at_14 (by decide) (fun c_10 => ?_) (fun c_10 => ?_)
      · refine lv_iconst (v := (0 : Int32)) hx hb dX1_at_21 (by decide +kernel) ?_
        exact J22 (0 : Int32) (Or.inl ⟨rfl, by omega⟩)
      · refine lv_iconst (v := (1 : Int32)) hx hb dX1_at_17 (by decide +kernel) ?_
        refine lv_goto (tgt := 22) hx hb dX1_at_18 (by decide) ?_
        exact J22 (1 : Int32) (Or.inr ⟨rfl, by omega⟩)
  · refine cx_if_eq (i := 0) (j := 0) (tgt := 17) hx hb (by decide +kernel) rfl dX1_at_5 (by decide) (fun c_11 => ?_) (fun c_11 => absurd c_11 (by decide))
    refine lv_iconst (v := (1 : Int32)) hx hb dX1_at_17 (by decide +kernel) ?_
    refine lv_goto (tgt := 22) hx hb dX1_at_18 (by decide) ?_
    exact J22 (1 : Int32) (Or.inr ⟨rfl, by omega⟩)
set_option maxHeartbeats 4000000 in
set_option maxRecDepth 100000 in
/-- the reference: order -/
theorem n_order (l : Launch) (D : va_G) (y : Nat → Nat) (ce : Nat → ClassId) (th : Int32) (r0 r1 r2 r3 dn ac : Nat → Int32) (sm : Nat → Int64) (hdn : dnOk dn ac) (a9 b9 : Int32) (sz : Nat) : Met l yX1_order wsX1_order ({ frames := 1, cells := 0, slots := 0, locals := 24 } : Room) (va_Pc [.ref (y 0), .int a9, .int b9] (crw D (mw y ce th r0 r1 r2 r3 dn ac sm) (mty ce) sz)) (va_Qi (fun (r : Int32) (t9 : Int32) => t9 = 0 ∧ r = orderV a9 b9) (fun (t9 : Int32) (t : State) => crB D (mw y ce t9 r0 r1 r2 r3 dn ac sm) (mty ce) (va_A (mw y ce th r0 r1 r2 r3 dn ac sm) sz) t) (va_A (mw y ce th r0 r1 r2 r3 dn ac sm) sz)) 0 0 (va_A (mw y ce th r0 r1 r2 r3 dn ac sm) sz) := by
  refine Met.ofW (cc := cX1_order) (maxL := 3) (ret := some .int) (by decide) rfl ?_
  intro p e s m args below meth c s₁ B hml hv
  obtain ⟨rfl, hsz, hP, hK, hD0, hTb⟩ := hv
  have hx := B.exec
  have hb := B.bytes
  have hr := B.returns
  have hts : ∀ w ∈ wA, w.before _ s = true := fun w h => atoms_spec (ws := wsX1_order) B.pre w (List.mem_cons_of_mem _ h)
  have hown : s.vm.findClass RX1 = some m.cls := findClass_of_methodNamed B.named
  have hlocks := B.notSynchronized
  subst hsz
  have hD := hD0.self (sz := s.heap.size)
  generalize hAe : va_A (mw y ce th r0 r1 r2 r3 dn ac sm) s.heap.size = A at hD hTb ⊢
  have hA : ∀ q : Nat, s.heap.size ≤ q → A q := fun q h => by rw [← hAe]; exact Or.inr h
  have hS : va_S A s.heap s.heap [] := va_S.rf
  have hin1 := inA1
  have hf32 := (hts _ wm_302)
  have hl := lv_entry ([.ref (y 0), .int a9, .int b9]) (n := 3) (Nat.le_of_ble_eq_true rfl)
  rw [lg_entry_eq]
  generalize (lg_sl ([.ref (y 0), .int a9, .int b9]) ++ List.replicate (3 - (lg_sl ([.ref (y 0), .int a9, .int b9])).length) Slot.unset).toArray = ls at hl ⊢
  have hl : lv_has ls 3 [(0, .ref (y 0)), (1, .int a9), (2, .int b9)] := hl
  refine lv_aload_n hx hb dX1_order_0 rfl (lv_at hl 0 rfl) ?_
  refine lv_iconst (v := (0 : Int32)) hx hb dX1_order_1 (by decide +kernel) ?_
  refine va_put (D := D) (ci := 1) (v := .int (0 : Int32)) (ty := .int) (C := RX1) (T := TX1) (N := 8) hx hb hts hin1 tyX1 tyX1_ok nmX1 hown hK hP hD hS 0 rfl rfl 0 (by decide) hf32 (fun _ h9 => h9) rfl (by decide +kernel) rfl rfl (Nat.le_of_ble_eq_true rfl) dX1_order_2 (fun H locs hP hD hS => ?_)
  have hP : va_P D vwCl (mw y ce (0 : Int32) r0 r1 r2 r3 dn ac sm) H := hP
  have hD : va_D A (mw y ce (0 : Int32) r0 r1 r2 r3 dn ac sm) := hD
  refine lv_aload_n hx hb dX1_order_5 rfl (lv_at hl 0 rfl) ?_
  refine lv_iload_n hx hb dX1_order_6 rfl (lv_at hl 1 rfl) ?_
  refine lv_iload_n hx hb dX1_order_7 rfl (lv_at hl 2 rfl) ?_
  refine vp_callSi (W.runV (As := [.int a9, .int b9]) (rest := []) ⟨hx, hb, hml, hown, hts⟩ (n_orderOf l D y ce (0 : Int32) r0 r1 r2 r3 dn ac sm hdn a9 b9) (cwV 2 hts (gw_V wm_362 wm_364 wm_9 wm_13 wm_365) rfl rfl rfl (by decide +kernel) ⟨Nat.le_of_ble_eq_true rfl, Nat.le_of_ble_eq_true rfl⟩) ⟨cro_blind, va_recv hK hP (ci := 1) (q0 := 0) rfl rfl, fun U hU hW => ⟨rfl, cro_at hP hK hTb hS hU hW⟩⟩ rfl rfl hl.1 rfl (lv_room (Nat.le_of_ble_eq_true rfl)) dX1_order_8 ⟨Nat.le_of_ble_eq_true rfl, Nat.le_of_ble_eq_true rfl⟩) (fun r_1 hr_1 => ?_)
  rw [hr_1]
  exact W.iret (v := orderV a9 b9) hx hb hr (fun t ht hW => ⟨⟨orderV a9 b9, (0 : Int32), rfl, ⟨rfl, rfl⟩, by rw [ht]; exact hP, va_K.moved hW.alike hK, hD⟩, hS.F ht⟩) hS.2.2 dX1_order_11
set_option maxHeartbeats 4000000 in
set_option maxRecDepth 100000 in
/-- the reference: samples -/
theorem n_samples (l : Launch) (D : va_G) (y : Nat → Nat) (ce : Nat → ClassId) (th : Int32) (r0 r1 r2 r3 dn ac : Nat → Int32) (sm : Nat → Int64) (q : Int32) (sz : Nat) : Met l yX1_samples wsX1_samples ({ frames := 0, cells := 0, slots := 0, locals := 0 } : Room) (va_Pc [.ref (y 0), .int q] (crw D (mw y ce th r0 r1 r2 r3 dn ac sm) (mty ce) sz)) (va_Ql (fun (r : Int64) (t9 : Int32) => t9 = 0 ∧ r = samplesV r2 q) (fun (t9 : Int32) (t : State) => crB D (mw y ce t9 r0 r1 r2 r3 dn ac sm) (mty ce) (va_A (mw y ce th r0 r1 r2 r3 dn ac sm) sz) t) (va_A (mw y ce th r0 r1 r2 r3 dn ac sm) sz)) 0 0 (va_A (mw y ce th r0 r1 r2 r3 dn ac sm) sz) := by
  refine Met.ofW (cc := cX1_samples) (maxL := 5) (ret := some .long) (by decide) rfl ?_
  intro p e s m args below meth c s₁ B hml hv
  obtain ⟨rfl, hsz, hP, hK, hD0, hTb⟩ := hv
  have hx := B.exec
  have hb := B.bytes
  have hr := B.returns
  have hts : ∀ w ∈ wA, w.before _ s = true := fun w h => atoms_spec (ws := wsX1_samples) B.pre w (List.mem_cons_of_mem _ h)
  have hown : s.vm.findClass RX1 = some m.cls := findClass_of_methodNamed B.named
  have hlocks := B.notSynchronized
  subst hsz
  have hD := hD0.self (sz := s.heap.size)
  generalize hAe : va_A (mw y ce th r0 r1 r2 r3 dn ac sm) s.heap.size = A at hD hTb ⊢
  have hA : ∀ q : Nat, s.heap.size ≤ q → A q := fun q h => by rw [← hAe]; exact Or.inr h
  have hS : va_S A s.heap s.heap [] := va_S.rf
  have hin1 := inA1
  have hf32 := (hts _ wm_302)
  have hf16 := (hts _ wm_305)
  have hl := lv_entry ([.ref (y 0), .int q]) (n := 5) (Nat.le_of_ble_eq_true rfl)
  rw [lg_entry_eq]
  generalize (lg_sl ([.ref (y 0), .int q]) ++ List.replicate (5 - (lg_sl ([.ref (y 0), .int q])).length) Slot.unset).toArray = ls at hl ⊢
  have hl : lv_has ls 5 [(0, .ref (y 0)), (1, .int q)] := hl
  refine lv_aload_n hx hb dX1_samples_0 rfl (lv_at hl 0 rfl) ?_
  refine lv_iconst (v := (0 : Int32)) hx hb dX1_samples_1 (by decide +kernel) ?_
  refine va_put (D := D) (ci := 1) (v := .int (0 : Int32)) (ty := .int) (C := RX1) (T := TX1) (N := 8) hx hb hts hin1 tyX1 tyX1_ok nmX1 hown hK hP hD hS 0 rfl rfl 0 (by decide) hf32 (fun _ h9 => h9) rfl (by decide +kernel) rfl rfl (Nat.le_of_ble_eq_true rfl) dX1_samples_2 (fun H locs hP hD hS => ?_)
  have hP : va_P D vwCl (mw y ce (0 : Int32) r0 r1 r2 r3 dn ac sm) H := hP
  have hD : va_D A (mw y ce (0 : Int32) r0 r1 r2 r3 dn ac sm) := hD
  by_cases hy9 : 0 ≤ q.toInt ∧ q.toInt < 8
  · obtain ⟨a8, hla, hea⟩ := cx_ofN (x := q) (n := 8) (by omega) (by omega) (by decide)
    have e_1 : q = nI a8 := hea
    rw [e_1] at hl
    refine lv_lconst (v := (0 : Int64)) hx hb dX1_samples_5 (by decide +kernel) ?_
    refine lv_lstore_n (lv' := [(2, .long (0 : Int64)), (0, .ref (y 0)), (1, .int (nI a8))]) hx hb dX1_samples_6 rfl hl (by decide) rfl (fun ls hl => ?_)
    refine lv_iconst (v := (0 : Int32)) hx hb dX1_samples_7 (by decide +kernel) ?_
    refine lv_istore (lv' := [(4, .int (0 : Int32)), (2, .long (0 : Int64)), (0, .ref (y 0)), (1, .int (nI a8))]) hx hb dX1_samples_8 hl (by decide) rfl (fun ls hl => ?_)
    have L10 : ∀ (n : Nat) (i9 : Nat) (ls : Array Slot), (8 - i9) < n → (i9 ≤ 8) → lv_has ls 5 [(0, .ref (y 0)), (1, .int (nI a8)), (2, .long (smp r2 a8 i9)), (4, .int (nI i9))] → W p l e ((headSpec wsX1_samples ({ frames := 0, cells := 0, slots := 0, locals := 0 } : Room)).room) s m (([.ref (y 0), .int q] : List Value).toArray) below meth c H locs 0 0 (MQ below (va_Ql (fun (r : Int64) (t9 : Int32) => t9 = 0 ∧ r = samplesV r2 q) (fun (t9 : Int32) (t : State) => crB D (mw y ce t9 r0 r1 r2 r3 dn ac sm) (mty ce) A t) A) ([.ref (y 0), .int q] : List Value).toArray s 0 0 A) (F0 m 10 ls []) := by
      intro n
      induction n with
      | zero =>
        intro i9 ls hn
        exact absurd hn (Nat.not_lt_zero _)
      | succ n ih10 =>
        intro i9 ls hn10 hi9 hl
        refine lv_iload hx hb dX1_samples_10 (lv_at hl 3 rfl) ?_
        refine lv_bipush (v := (8 : Int32)) hx hb dX1_samples_12 (by decide +kernel) ?_
        refine cx_icmp_ge (i := ((i9 : Nat) : Int)) (j := 8) (tgt := 52) hx hb (nI_toInt (by omega)) (by decide +kernel) dX1_samples_14 (by decide) (fun c_2 => ?_) (fun c_2 => ?_)
        · refine lv_lload_n hx hb dX1_samples_52 rfl (lv_at hl 2 rfl) ?_
          exact W.lret (v := smp r2 a8 i9) hx hb hr (fun t ht hW => ⟨⟨smp r2 a8 i9, (0 : Int32), rfl, (by obtain rfl : i9 = 8 := (by omega); exact ⟨rfl, by unfold samplesV; rw [if_pos hy9, hea, cx_toNat (by omega)]⟩), by rw [ht]; exact hP, va_K.moved hW.alike hK, hD⟩, hS.F ht⟩) hS.2.2 dX1_samples_53
        · refine lv_iload_n hx hb dX1_samples_17 rfl (lv_at hl 1 rfl) ?_
          refine cx_if_lt (i := ((a8 : Nat) : Int)) (j := 0) (tgt := 52) hx hb (nI_toInt (by omega)) rfl dX1_samples_18 (by decide) (fun c_3 => absurd c_3 (by omega)) (fun c_3 => ?_)
          refine lv_iload_n hx hb dX1_samples_21 rfl (lv_at hl 1 rfl) ?_
          refine lv_bipush (v := (8 : Int32)) hx hb dX1_samples_22 (by decide +kernel) ?_
          refine cx_icmp_ge (i := ((a8 : Nat) : Int)) (j := 8) (tgt := 52) hx hb (nI_toInt (by omega)) (by decide +kernel) dX1_samples_24 (by decide) (fun c_4 => ?_) (fun c_4 => ?_)
          · refine lv_lload_n hx hb dX1_samples_52 rfl (lv_at hl 2 rfl) ?_
            exact W.lret (v := smp r2 a8 i9) hx hb hr (fun t ht hW => ⟨⟨smp r2 a8 i9, (0 : Int32), rfl, (by obtain rfl : i9 = 8 := (by omega); exact ⟨rfl, by unfold samplesV; rw [if_pos hy9, hea, cx_toNat (by omega)]⟩), by rw [ht]; exact hP, va_K.moved hW.alike hK, hD⟩, hS.F ht⟩) hS.2.2 dX1_samples_53
          · refine lv_lload_n hx hb dX1_samples_27 rfl (lv_at hl 2 rfl) ?_
            refine lv_bipush (v := (8 : Int32)) hx hb dX1_samples_28 (by decide +kernel) ?_
            refine lv_lshl hx hb dX1_samples_30 rfl ?_
            refine lv_aload_n hx hb dX1_samples_31 rfl (lv_at hl 0 rfl) ?_
            refine va_get (D := D) (ci := 1) (v := .ref (y 3)) (C := RX1) (T := TX1) (N := 8) hx hb hts hin1 hown hK hP 0 rfl rfl 3 (by decide) hf16 (fun _ h9 => h9) rfl dX1_samples_32 ?_
            refine lv_bipush (v := (8 : Int32)) hx hb dX1_samples_35 (by decide +kernel) ?_
            refine lv_iload_n hx hb dX1_samples_37 rfl (lv_at hl 1 rfl) ?_
            refine cx_imul hx hb 8 a8 dX1_samples_38 ?_
            refine lv_iload hx hb dX1_samples_39 (lv_at hl 3 rfl) ?_
            refine cx_iadd hx hb (8 * a8) i9 dX1_samples_41 ?_
            rw [show 8 * a8 + i9 = a8 * 8 + i9 from by omega]
            refine cx_iald hx hb hK hP 3 2 rfl rfl (a8 * 8 + i9) (by omega) (by decide) dX1_samples_42 ?_
            refine lv_i2l hx hb dX1_samples_43 rfl ?_
            refine lv_lor hx hb dX1_samples_44 ?_
            refine lv_lstore_n (lv' := [(2, .long (((smp r2 a8 i9) <<< ((8 : Int32).toInt64 &&& 63)) ||| ((r2 (a8 * 8 + i9)).toInt64))), (0, .ref (y 0)), (1, .int (nI a8)), (4, .int (nI i9))]) hx hb dX1_samples_45 rfl hl (by decide) rfl (fun ls hl => ?_)
            refine lv_iinc (v := nI (i9 + 1)) (lv' := [(4, .int (nI (i9 + 1))), (2, .long (((smp r2 a8 i9) <<< ((8 : Int32).toInt64 &&& 63)) ||| ((r2 (a8 * 8 + i9)).toInt64))), (0, .ref (y 0)), (1, .int (nI a8))]) hx hb dX1_samples_46 hl (k := 3) rfl (by show nI i9 + 1 = nI (i9 + 1); exact nI_add i9 1) (by decide) rfl (fun ls hl => ?_)
            refine lv_goto (tgt := 10) hx hb dX1_samples_49 (by decide) ?_
            exact ih10 (i9 + 1) _ (by omega) (by omega) (lv_sub hl [2, 3, 1, 0] rfl)
    exact L10 _ 0 _ (Nat.lt_succ_self _) (Nat.zero_le _) (lv_sub hl [2, 3, 1, 0] rfl)
  · skip
    refine lv_lconst (v := (0 : Int64)) hx hb dX1_samples_5 (by decide +kernel) ?_
    refine lv_lstore_n (lv' := [(2, .long (0 : Int64)), (0, .ref (y 0)), (1, .int q)]) hx hb dX1_samples_6 rfl hl (by decide) rfl (fun ls hl => ?_)
    refine lv_iconst (v := (0 : Int32)) hx hb dX1_samples_7 (by decide +kernel) ?_
    refine lv_istore (lv' := [(4, .int (0 : Int32)), (2, .long (0 : Int64)), (0, .ref (y 0)), (1, .int q)]) hx hb dX1_samples_8 hl (by decide) rfl (fun ls hl => ?_)
    refine lv_iload hx hb dX1_samples_10 (lv_at hl 0 rfl) ?_
    refine lv_bipush (v := (8 : Int32)) hx hb dX1_samples_12 (by decide +kernel) ?_
    refine cx_icmp_ge (i := 0) (j := 8) (tgt := 52) hx hb (by decide +kernel) (by decide +kernel) dX1_samples_14 (by decide) (fun c_5 => absurd c_5 (by decide)) (fun c_5 => ?_)
    refine lv_iload_n hx hb dX1_samples_17 rfl (lv_at hl 3 rfl) ?_
    refine cx_if_lt (i := q.toInt) (j := 0) (tgt := 52) hx hb rfl rfl dX1_samples_18 (by decide) (fun c_6 => ?_) (fun c_6 => ?_)
    · refine lv_lload_n hx hb dX1_samples_52 rfl (lv_at hl 1 rfl) ?_
      exact W.lret (v := (0 : Int64)) hx hb hr (fun t ht hW => ⟨⟨(0 : Int64), (0 : Int32), rfl, ⟨rfl, by unfold samplesV; rw [if_neg hy9]⟩, by rw [ht]; exact hP, va_K.moved hW.alike hK, hD⟩, hS.F ht⟩) hS.2.2 dX1_samples_53
    · refine lv_iload_n hx hb dX1_samples_21 rfl (lv_at hl 3 rfl) ?_
      refine lv_bipush (v := (8 : Int32)) hx hb dX1_samples_22 (by decide +kernel) ?_
      refine cx_icmp_ge (i := q.toInt) (j := 8) (tgt := 52) hx hb rfl (by decide +kernel) dX1_samples_24 (by decide) (fun c_7 => ?_) (fun c_7 => ?_)
      · refine lv_lload_n hx hb dX1_samples_52 rfl (lv_at hl 1 rfl) ?_
        exact W.lret (v := (0 : Int64)) hx hb hr (fun t ht hW => ⟨⟨(0 : Int64), (0 : Int32), rfl, ⟨rfl, by unfold samplesV; rw [if_neg hy9]⟩, by rw [ht]; exact hP, va_K.moved hW.alike hK, hD⟩, hS.F ht⟩) hS.2.2 dX1_samples_53
      · exact absurd (And.intro (by omega) (by omega)) hy9
set_option maxHeartbeats 4000000 in
set_option maxRecDepth 100000 in
/-- the reference: exact -/
theorem n_exact (l : Launch) (D : va_G) (y : Nat → Nat) (ce : Nat → ClassId) (th : Int32) (r0 r1 r2 r3 dn ac : Nat → Int32) (sm : Nat → Int64) (a9 b9 : Int32) (sz : Nat) : Met l yX1_exact wsX1_exact ({ frames := 3, cells := 0, slots := 0, locals := 71 } : Room) (va_Pc [.ref (y 0), .int a9, .int b9] (crw D (mw y ce th r0 r1 r2 r3 dn ac sm) (mty ce) sz)) (va_Qi (fun (r : Int32) (t9 : Int32) => (t9 = 0 ∧ ((0 ≤ a9.toInt ∧ a9.toInt < 8) ∧ (0 ≤ b9.toInt ∧ b9.toInt < 8)) ∧ r = (eN r2 a9.toInt.toNat b9.toInt.toNat).toInt32) ∨ (t9 = 1 ∧ ¬ ((0 ≤ a9.toInt ∧ a9.toInt < 8) ∧ (0 ≤ b9.toInt ∧ b9.toInt < 8)))) (fun (t9 : Int32) (t : State) => crB D (mw y ce t9 r0 r1 r2 r3 dn ac sm) (mty ce) (va_A (mw y ce th r0 r1 r2 r3 dn ac sm) sz) t) (va_A (mw y ce th r0 r1 r2 r3 dn ac sm) sz)) 0 0 (va_A (mw y ce th r0 r1 r2 r3 dn ac sm) sz) := by
  refine Met.ofW (cc := cX1_exact) (maxL := 3) (ret := some .int) (by decide) rfl ?_
  intro p e s m args below meth c s₁ B hml hv
  obtain ⟨rfl, hsz, hP, hK, hD0, hTb⟩ := hv
  have hx := B.exec
  have hb := B.bytes
  have hr := B.returns
  have hts : ∀ w ∈ wA, w.before _ s = true := fun w h => atoms_spec (ws := wsX1_exact) B.pre w (List.mem_cons_of_mem _ h)
  have hown : s.vm.findClass RX1 = some m.cls := findClass_of_methodNamed B.named
  have hlocks := B.notSynchronized
  subst hsz
  have hD := hD0.self (sz := s.heap.size)
  generalize hAe : va_A (mw y ce th r0 r1 r2 r3 dn ac sm) s.heap.size = A at hD hTb ⊢
  have hA : ∀ q : Nat, s.heap.size ≤ q → A q := fun q h => by rw [← hAe]; exact Or.inr h
  have hS : va_S A s.heap s.heap [] := va_S.rf
  have hin1 := inA1
  have hf32 := (hts _ wm_302)
  have hl := lv_entry ([.ref (y 0), .int a9, .int b9]) (n := 3) (Nat.le_of_ble_eq_true rfl)
  rw [lg_entry_eq]
  generalize (lg_sl ([.ref (y 0), .int a9, .int b9]) ++ List.replicate (3 - (lg_sl ([.ref (y 0), .int a9, .int b9])).length) Slot.unset).toArray = ls at hl ⊢
  have hl : lv_has ls 3 [(0, .ref (y 0)), (1, .int a9), (2, .int b9)] := hl
  have J26 : ∀ (tv : Int32), ((tv = 0 ∧ (0 ≤ a9.toInt ∧ a9.toInt < 8) ∧ (0 ≤ b9.toInt ∧ b9.toInt < 8)) ∨ (tv = 1 ∧ ¬ ((0 ≤ a9.toInt ∧ a9.toInt < 8) ∧ (0 ≤ b9.toInt ∧ b9.toInt < 8)))) → W p l e ((headSpec wsX1_exact ({ frames := 3, cells := 0, slots := 0, locals := 71 } : Room)).room) s m (([.ref (y 0), .int a9, .int b9] : List Value).toArray) below meth c s.heap [] 0 0 (MQ below (va_Qi (fun (r : Int32) (t9 : Int32) => (t9 = 0 ∧ ((0 ≤ a9.toInt ∧ a9.toInt < 8) ∧ (0 ≤ b9.toInt ∧ b9.toInt < 8)) ∧ r = (eN r2 a9.toInt.toNat b9.toInt.toNat).toInt32) ∨ (t9 = 1 ∧ ¬ ((0 ≤ a9.toInt ∧ a9.toInt < 8) ∧ (0 ≤ b9.toInt ∧ b9.toInt < 8)))) (fun (t9 : Int32) (t : State) => crB D (mw y ce t9 r0 r1 r2 r3 dn ac sm) (mty ce) A t) A) ([.ref (y 0), .int a9, .int b9] : List Value).toArray s 0 0 A) (F0 m 26 ls [.int tv, .ref (y 0)]) := by
    intro tv htv
    rcases htv with ⟨rfl, hok⟩ | ⟨rfl, hno⟩
    · skip
      obtain ⟨a8, hla, hea⟩ := cx_ofN (x := a9) (n := 8) (by omega) (by omega) (by decide)
      obtain ⟨b8, hlb, heb⟩ := cx_ofN (x := b9) (n := 8) (by omega) (by omega) (by decide)
      have e_1 : a9 = nI a8 := hea
      rw [e_1] at hl
      have e_2 : b9 = nI b8 := heb
      rw [e_2] at hl
      refine va_put (D := D) (ci := 1) (v := .int (0 : Int32)) (ty := .int) (C := RX1) (T := TX1) (N := 8) hx hb hts hin1 tyX1 tyX1_ok nmX1 hown hK hP hD hS 0 rfl rfl 0 (by decide) hf32 (fun _ h9 => h9) rfl (by decide +kernel) rfl rfl (Nat.le_of_ble_eq_true rfl) dX1_exact_26 (fun H locs hP hD hS => ?_)
      have hP : va_P D vwCl (mw y ce (0 : Int32) r0 r1 r2 r3 dn ac sm) H := hP
      have hD : va_D A (mw y ce (0 : Int32) r0 r1 r2 r3 dn ac sm) := hD
      refine lv_aload_n hx hb dX1_exact_29 rfl (lv_at hl 0 rfl) ?_
      refine va_get (D := D) (ci := 1) (v := .int (0 : Int32)) (C := RX1) (T := TX1) (N := 8) hx hb hts hin1 hown hK hP 0 rfl rfl 0 (by decide) hf32 (fun _ h9 => h9) rfl dX1_exact_30 ?_
      refine cx_if_le (i := 0) (j := 0) (tgt := 40) hx hb (by decide +kernel) rfl dX1_exact_33 (by decide) (fun c_3 => ?_) (fun c_3 => absurd c_3 (by decide))
      refine lv_aload_n hx hb dX1_exact_40 rfl (lv_at hl 0 rfl) ?_
      refine lv_iload_n hx hb dX1_exact_41 rfl (lv_at hl 1 rfl) ?_
      refine lv_iload_n hx hb dX1_exact_42 rfl (lv_at hl 2 rfl) ?_
      refine vp_callSl (W.runV (As := [.int (nI a8), .int (nI b8)]) (rest := []) ⟨hx, hb, hml, hown, hts⟩ (n_exactOf l D y ce (0 : Int32) r0 r1 r2 r3 dn ac sm a8 b8 (by omega) (by omega)) (cwV 2 hts (gw_V wm_380 wm_382 wm_10 wm_13 wm_383) rfl rfl rfl (by decide +kernel) ⟨Nat.le_of_ble_eq_true rfl, Nat.le_of_ble_eq_true rfl⟩) ⟨cro_blind, va_recv hK hP (ci := 1) (q0 := 0) rfl rfl, fun U hU hW => ⟨rfl, cro_at hP hK hTb hS hU hW⟩⟩ rfl rfl hl.1 rfl (lv_room (Nat.le_of_ble_eq_true rfl)) dX1_exact_43 ⟨Nat.le_of_ble_eq_true rfl, Nat.le_of_ble_eq_true rfl⟩) (fun r_4 hr_4 => ?_)
      rw [hr_4]
      refine lv_l2i hx hb dX1_exact_46 rfl ?_
      exact W.iret (v := (eN r2 a8 b8).toInt32) hx hb hr (fun t ht hW => ⟨⟨(eN r2 a8 b8).toInt32, (0 : Int32), rfl, Or.inl ⟨rfl, hok, by rw [hea, heb, cx_toNat (by omega), cx_toNat (by omega)]⟩, by rw [ht]; exact hP, va_K.moved hW.alike hK, hD⟩, hS.F ht⟩) hS.2.2 dX1_exact_47
    · skip
      refine va_put (D := D) (ci := 1) (v := .int (1 : Int32)) (ty := .int) (C := RX1) (T := TX1) (N := 8) hx hb hts hin1 tyX1 tyX1_ok nmX1 hown hK hP hD hS 0 rfl rfl 0 (by decide) hf32 (fun _ h9 => h9) rfl (by decide +kernel) rfl rfl (Nat.le_of_ble_eq_true rfl) dX1_exact_26 (fun H locs hP hD hS => ?_)
      have hP : va_P D vwCl (mw y ce (1 : Int32) r0 r1 r2 r3 dn ac sm) H := hP
      have hD : va_D A (mw y ce (1 : Int32) r0 r1 r2 r3 dn ac sm) := hD
      refine lv_aload_n hx hb dX1_exact_29 rfl (lv_at hl 0 rfl) ?_
      refine va_get (D := D) (ci := 1) (v := .int (1 : Int32)) (C := RX1) (T := TX1) (N := 8) hx hb hts hin1 hown hK hP 0 rfl rfl 0 (by decide) hf32 (fun _ h9 => h9) rfl dX1_exact_30 ?_
      refine cx_if_le (i := 1) (j := 0) (tgt := 40) hx hb (by decide +kernel) rfl dX1_exact_33 (by decide) (fun c_5 => absurd c_5 (by decide)) (fun c_5 => ?_)
      refine lv_iconst (v := (0 : Int32)) hx hb dX1_exact_36 (by decide +kernel) ?_
      refine lv_goto (tgt := 47) hx hb dX1_exact_37 (by decide) ?_
      exact W.iret (v := (0 : Int32)) hx hb hr (fun t ht hW => ⟨⟨(0 : Int32), (1 : Int32), rfl, Or.inr ⟨rfl, hno⟩, by rw [ht]; exact hP, va_K.moved hW.alike hK, hD⟩, hS.F ht⟩) hS.2.2 dX1_exact_47
  refine lv_aload_n hx hb dX1_exact_0 rfl (lv_at hl 0 rfl) ?_
  refine lv_iload_n hx hb dX1_exact_1 rfl (lv_at hl 1 rfl) ?_
  refine cx_if_lt (i := a9.toInt) (j := 0) (tgt := 21) hx hb rfl rfl dX1_exact_2 (by decide) (fun c_6 => ?_) (fun c_6 => ?_)
  · refine lv_iconst (v := (1 : Int32)) hx hb dX1_exact_21 (by decide +kernel) ?_
    refine lv_goto (tgt := 26) hx hb dX1_exact_22 (by decide) ?_
    exact J26 (1 : Int32) (Or.inr ⟨rfl, by omega⟩)
  · refine lv_iload_n hx hb dX1_exact_5 rfl (lv_at hl 1 rfl) ?_
    refine lv_bipush (v := (7 : Int32)) hx hb dX1_exact_6 (by decide +kernel) ?_
    refine cx_icmp_gt (i := a9.toInt) (j := 7) (tgt := 21) hx hb rfl (by decide +kernel) dX1_exact_8 (by decide) (fun c_7 => ?_) (fun c_7 => ?_)
    · refine lv_iconst (v := (1 : Int32)) hx hb dX1_exact_21 (by decide +kernel) ?_
      refine lv_goto (tgt := 26) hx hb dX1_exact_22 (by decide) ?_
      exact J26 (1 : Int32) (Or.inr ⟨rfl, by omega⟩)
    · refine lv_iload_n hx hb dX1_exact_11 rfl (lv_at hl 2 rfl) ?_
      refine cx_if_lt (i := b9.toInt) (j := 0) (tgt := 21) hx hb rfl rfl dX1_exact_12 (by decide) (fun c_8 => ?_) (fun c_8 => ?_)
      · refine lv_iconst (v := (1 : Int32)) hx hb dX1_exact_21 (by decide +kernel) ?_
        refine lv_goto (tgt := 26) hx hb dX1_exact_22 (by decide) ?_
        exact J26 (1 : Int32) (Or.inr ⟨rfl, by omega⟩)
      · refine lv_iload_n hx hb dX1_exact_15 rfl (lv_at hl 2 rfl) ?_
        refine lv_bipush (v := (7 : Int32)) hx hb dX1_exact_16 (by decide +kernel) ?_
        refine cx_icmp_le (i := b9.toInt) (j := 7) (tgt := 25) hx hb rfl (by decide +kernel) dX1_exact_18 (by decide) (fun c_9 => ?_) (fun c_9 => ?_)
        · refine lv_iconst (v := (0 : Int32)) hx hb dX1_exact_25 (by decide +kernel) ?_
          exact J26 (0 : Int32) (Or.inl ⟨rfl, by omega⟩)
        · refine lv_iconst (v := (1 : Int32)) hx hb dX1_exact_21 (by decide +kernel) ?_
          refine lv_goto (tgt := 26) hx hb dX1_exact_22 (by decide) ?_
          exact J26 (1 : Int32) (Or.inr ⟨rfl, by omega⟩)
set_option maxHeartbeats 4000000 in
set_option maxRecDepth 100000 in
/-- the reference: wave -/
theorem n_wave (l : Launch) (D : va_G) (y : Nat → Nat) (ce : Nat → ClassId) (th : Int32) (r0 r1 r2 r3 dn ac : Nat → Int32) (sm : Nat → Int64) (q u8 x8 : Int32) (sz : Nat) : Met l yX1_wave wsX1_wave ({ frames := 2, cells := 0, slots := 0, locals := 43 } : Room) (va_Pc [.ref (y 0), .int q, .int u8, .int x8] (crw D (mw y ce th r0 r1 r2 r3 dn ac sm) (mty ce) sz)) (va_Qi (fun (r : Int32) (t9 : Int32) => (t9 = 0 ∧ (szOk q ∧ (0 ≤ u8.toInt ∧ u8.toInt < q.toInt) ∧ (0 ≤ x8.toInt ∧ x8.toInt < q.toInt)) ∧ r = wvN (8 / q.toInt.toNat) u8.toInt.toNat x8.toInt.toNat) ∨ (t9 = 1 ∧ ¬ (szOk q ∧ (0 ≤ u8.toInt ∧ u8.toInt < q.toInt) ∧ (0 ≤ x8.toInt ∧ x8.toInt < q.toInt)))) (fun (t9 : Int32) (t : State) => crB D (mw y ce t9 r0 r1 r2 r3 dn ac sm) (mty ce) (va_A (mw y ce th r0 r1 r2 r3 dn ac sm) sz) t) (va_A (mw y ce th r0 r1 r2 r3 dn ac sm) sz)) 0 0 (va_A (mw y ce th r0 r1 r2 r3 dn ac sm) sz) := by
  refine Met.ofW (cc := cX1_wave) (maxL := 4) (ret := some .int) (by decide) rfl ?_
  intro p e s m args below meth c s₁ B hml hv
  obtain ⟨rfl, hsz, hP, hK, hD0, hTb⟩ := hv
  have hx := B.exec
  have hb := B.bytes
  have hr := B.returns
  have hts : ∀ w ∈ wA, w.before _ s = true := fun w h => atoms_spec (ws := wsX1_wave) B.pre w (List.mem_cons_of_mem _ h)
  have hown : s.vm.findClass RX1 = some m.cls := findClass_of_methodNamed B.named
  have hlocks := B.notSynchronized
  subst hsz
  have hD := hD0.self (sz := s.heap.size)
  generalize hAe : va_A (mw y ce th r0 r1 r2 r3 dn ac sm) s.heap.size = A at hD hTb ⊢
  have hA : ∀ q : Nat, s.heap.size ≤ q → A q := fun q h => by rw [← hAe]; exact Or.inr h
  have hS : va_S A s.heap s.heap [] := va_S.rf
  have hin1 := inA1
  have hf32 := (hts _ wm_302)
  have hl := lv_entry ([.ref (y 0), .int q, .int u8, .int x8]) (n := 4) (Nat.le_of_ble_eq_true rfl)
  rw [lg_entry_eq]
  generalize (lg_sl ([.ref (y 0), .int q, .int u8, .int x8]) ++ List.replicate (4 - (lg_sl ([.ref (y 0), .int q, .int u8, .int x8])).length) Slot.unset).toArray = ls at hl ⊢
  have hl : lv_has ls 4 [(0, .ref (y 0)), (1, .int q), (2, .int u8), (3, .int x8)] := hl
  have J31 : ∀ (tv : Int32), ((tv = 0 ∧ szOk q ∧ (0 ≤ u8.toInt ∧ u8.toInt < q.toInt) ∧ (0 ≤ x8.toInt ∧ x8.toInt < q.toInt)) ∨ (tv = 1 ∧ ¬ (szOk q ∧ (0 ≤ u8.toInt ∧ u8.toInt < q.toInt) ∧ (0 ≤ x8.toInt ∧ x8.toInt < q.toInt)))) → W p l e ((headSpec wsX1_wave ({ frames := 2, cells := 0, slots := 0, locals := 43 } : Room)).room) s m (([.ref (y 0), .int q, .int u8, .int x8] : List Value).toArray) below meth c s.heap [] 0 0 (MQ below (va_Qi (fun (r : Int32) (t9 : Int32) => (t9 = 0 ∧ (szOk q ∧ (0 ≤ u8.toInt ∧ u8.toInt < q.toInt) ∧ (0 ≤ x8.toInt ∧ x8.toInt < q.toInt)) ∧ r = wvN (8 / q.toInt.toNat) u8.toInt.toNat x8.toInt.toNat) ∨ (t9 = 1 ∧ ¬ (szOk q ∧ (0 ≤ u8.toInt ∧ u8.toInt < q.toInt) ∧ (0 ≤ x8.toInt ∧ x8.toInt < q.toInt)))) (fun (t9 : Int32) (t : State) => crB D (mw y ce t9 r0 r1 r2 r3 dn ac sm) (mty ce) A t) A) ([.ref (y 0), .int q, .int u8, .int x8] : List Value).toArray s 0 0 A) (F0 m 31 ls [.int tv, .ref (y 0)]) := by
    intro tv htv
    rcases htv with ⟨rfl, hok⟩ | ⟨rfl, hno⟩
    · skip
      obtain ⟨nn, sp, heq9, hsz9⟩ := szOk_cases hok.1
      obtain ⟨hbn, hbs, hbp, hq1, hq2, hq3⟩ := isSz_facts ⟨heq9, hsz9⟩
      obtain ⟨uu, hlu, heu⟩ := cx_ofN (x := u8) (n := 8) (by omega) (by omega) (by decide)
      obtain ⟨xx, hlx, hex⟩ := cx_ofN (x := x8) (n := 8) (by omega) (by omega) (by decide)
      have e_1 : q = nI nn := heq9
      rw [e_1] at hl
      have e_2 : u8 = nI uu := heu
      rw [e_2] at hl
      have e_3 : x8 = nI xx := hex
      rw [e_3] at hl
      refine va_put (D := D) (ci := 1) (v := .int (0 : Int32)) (ty := .int) (C := RX1) (T := TX1) (N := 8) hx hb hts hin1 tyX1 tyX1_ok nmX1 hown hK hP hD hS 0 rfl rfl 0 (by decide) hf32 (fun _ h9 => h9) rfl (by decide +kernel) rfl rfl (Nat.le_of_ble_eq_true rfl) dX1_wave_31 (fun H locs hP hD hS => ?_)
      have hP : va_P D vwCl (mw y ce (0 : Int32) r0 r1 r2 r3 dn ac sm) H := hP
      have hD : va_D A (mw y ce (0 : Int32) r0 r1 r2 r3 dn ac sm) := hD
      refine lv_aload_n hx hb dX1_wave_34 rfl (lv_at hl 0 rfl) ?_
      refine va_get (D := D) (ci := 1) (v := .int (0 : Int32)) (C := RX1) (T := TX1) (N := 8) hx hb hts hin1 hown hK hP 0 rfl rfl 0 (by decide) hf32 (fun _ h9 => h9) rfl dX1_wave_35 ?_
      refine cx_if_le (i := 0) (j := 0) (tgt := 45) hx hb (by decide +kernel) rfl dX1_wave_38 (by decide) (fun c_4 => ?_) (fun c_4 => absurd c_4 (by decide))
      refine lv_iload_n hx hb dX1_wave_45 rfl (lv_at hl 1 rfl) ?_
      refine lv_iload_n hx hb dX1_wave_46 rfl (lv_at hl 2 rfl) ?_
      refine lv_iload_n hx hb dX1_wave_47 rfl (lv_at hl 3 rfl) ?_
      refine vp_callSi (W.runS (As := [.int (nI nn), .int (nI uu), .int (nI xx)]) (rest := []) ⟨hx, hb, hml, hown, hts⟩ (n_waveOf l D nn sp uu xx (by omega) hsz9 (by omega) (by omega)) (va_cwS 3 hts (gw_S wm_366 wm_367 wm_13 wm_368) rfl rfl rfl (by decide +kernel) ⟨Nat.le_of_ble_eq_true rfl, Nat.le_of_ble_eq_true rfl⟩) ⟨cro_blind, fun U hU hW => ⟨rfl, cro_at (hP.sub (ws' := []) [] rfl) (hK.sub (tys' := []) [] rfl) hTb hS hU hW⟩⟩ rfl rfl hl.1 rfl (lv_room (Nat.le_of_ble_eq_true rfl)) dX1_wave_48 ⟨Nat.le_of_ble_eq_true rfl, Nat.le_of_ble_eq_true rfl⟩) (fun r_5 hr_5 => ?_)
      rw [hr_5]
      exact W.iret (v := wvN sp uu xx) hx hb hr (fun t ht hW => ⟨⟨wvN sp uu xx, (0 : Int32), rfl, Or.inl ⟨rfl, hok, by rw [hq1, hq2, heu, hex, cx_toNat (by omega), cx_toNat (by omega)]⟩, by rw [ht]; exact hP, va_K.moved hW.alike hK, hD⟩, hS.F ht⟩) hS.2.2 dX1_wave_51
    · skip
      refine va_put (D := D) (ci := 1) (v := .int (1 : Int32)) (ty := .int) (C := RX1) (T := TX1) (N := 8) hx hb hts hin1 tyX1 tyX1_ok nmX1 hown hK hP hD hS 0 rfl rfl 0 (by decide) hf32 (fun _ h9 => h9) rfl (by decide +kernel) rfl rfl (Nat.le_of_ble_eq_true rfl) dX1_wave_31 (fun H locs hP hD hS => ?_)
      have hP : va_P D vwCl (mw y ce (1 : Int32) r0 r1 r2 r3 dn ac sm) H := hP
      have hD : va_D A (mw y ce (1 : Int32) r0 r1 r2 r3 dn ac sm) := hD
      refine lv_aload_n hx hb dX1_wave_34 rfl (lv_at hl 0 rfl) ?_
      refine va_get (D := D) (ci := 1) (v := .int (1 : Int32)) (C := RX1) (T := TX1) (N := 8) hx hb hts hin1 hown hK hP 0 rfl rfl 0 (by decide) hf32 (fun _ h9 => h9) rfl dX1_wave_35 ?_
      refine cx_if_le (i := 1) (j := 0) (tgt := 45) hx hb (by decide +kernel) rfl dX1_wave_38 (by decide) (fun c_6 => absurd c_6 (by decide)) (fun c_6 => ?_)
      refine lv_iconst (v := (0 : Int32)) hx hb dX1_wave_41 (by decide +kernel) ?_
      refine lv_goto (tgt := 51) hx hb dX1_wave_42 (by decide) ?_
      exact W.iret (v := (0 : Int32)) hx hb hr (fun t ht hW => ⟨⟨(0 : Int32), (1 : Int32), rfl, Or.inr ⟨rfl, hno⟩, by rw [ht]; exact hP, va_K.moved hW.alike hK, hD⟩, hS.F ht⟩) hS.2.2 dX1_wave_51
  refine lv_aload_n hx hb dX1_wave_0 rfl (lv_at hl 0 rfl) ?_
  refine lv_iload_n hx hb dX1_wave_1 rfl (lv_at hl 1 rfl) ?_
  refine vp_callSi (W.runS (As := [.int q]) (rest := [.ref (y 0)]) ⟨hx, hb, hml, hown, hts⟩ (n_isSize l D q) (va_cwS 1 hts (gw_S wm_355 wm_356 wm_13 wm_357) rfl rfl rfl (by decide +kernel) ⟨Nat.le_of_ble_eq_true rfl, Nat.le_of_ble_eq_true rfl⟩) ⟨cro_blind, fun U hU hW => ⟨rfl, cro_at (hP.sub (ws' := []) [] rfl) (hK.sub (tys' := []) [] rfl) hTb hS hU hW⟩⟩ rfl rfl hl.1 rfl (lv_room (Nat.le_of_ble_eq_true rfl)) dX1_wave_2 ⟨Nat.le_of_ble_eq_true rfl, Nat.le_of_ble_eq_true rfl⟩) (fun r_7 hr_7 => ?_)
  rcases hr_7 with ⟨rfl, hs9⟩ | ⟨rfl, hs9⟩
  · refine cx_if_eq (i := 1) (j := 0) (tgt := 30) hx hb (by decide +kernel) rfl dX1_wave_5 (by decide) (fun c_8 => absurd c_8 (by decide)) (fun c_8 => ?_)
    refine lv_iload_n hx hb dX1_wave_8 rfl (lv_at hl 2 rfl) ?_
    refine cx_if_lt (i := u8.toInt) (j := 0) (tgt := 30) hx hb rfl rfl dX1_wave_9 (by decide) (fun c_9 => ?_) (fun c_9 => ?_)
    · refine lv_iconst (v := (1 : Int32)) hx hb dX1_wave_30 (by decide +kernel) ?_
      exact J31 (1 : Int32) (Or.inr ⟨rfl, fun h9 => by omega⟩)
    · refine lv_iload_n hx hb dX1_wave_12 rfl (lv_at hl 2 rfl) ?_
      refine lv_iload_n hx hb dX1_wave_13 rfl (lv_at hl 1 rfl) ?_
      refine cx_icmp_ge (i := u8.toInt) (j := q.toInt) (tgt := 30) hx hb rfl rfl dX1_wave_14 (by decide) (fun c_10 => ?_) (fun c_10 => ?_)
      · refine lv_iconst (v := (1 : Int32)) hx hb dX1_wave_30 (by decide +kernel) ?_
        exact J31 (1 : Int32) (Or.inr ⟨rfl, fun h9 => by omega⟩)
      · refine lv_iload_n hx hb dX1_wave_17 rfl (lv_at hl 3 rfl) ?_
        refine cx_if_lt (i := x8.toInt) (j := 0) (tgt := 30) hx hb rfl rfl dX1_wave_18 (by decide) (fun c_11 => ?_) (fun c_11 => ?_)
        · refine lv_iconst (v := (1 : Int32)) hx hb dX1_wave_30 (by decide +kernel) ?_
          exact J31 (1 : Int32) (Or.inr ⟨rfl, fun h9 => by omega⟩)
        · refine lv_iload_n hx hb dX1_wave_21 rfl (lv_at hl 3 rfl) ?_
          refine lv_iload_n hx hb dX1_wave_22 rfl (lv_at hl 1 rfl) ?_
          refine cx_icmp_ge (i := x8.toInt) (j := q.toInt) (tgt := 30) hx hb rfl rfl dX1_wave_23 (by decide) (fun c_12 => ?_) (fun c_12 => ?_)
          · refine lv_iconst (v := (1 : Int32)) hx hb dX1_wave_30 (by decide +kernel) ?_
            exact J31 (1 : Int32) (Or.inr ⟨rfl, fun h9 => by omega⟩)
          · refine lv_iconst (v := (0 : Int32)) hx hb dX1_wave_26 (by decide +kernel) ?_
            refine lv_goto (tgt := 31) hx hb dX1_wave_27 (by decide) ?_
            exact J31 (0 : Int32) (Or.inl ⟨rfl, hs9, by omega, by omega⟩)
  · refine cx_if_eq (i := 0) (j := 0) (tgt := 30) hx hb (by decide +kernel) rfl dX1_wave_5 (by decide) (fun c_13 => ?_) (fun c_13 => absurd c_13 (by decide))
    refine lv_iconst (v := (1 : Int32)) hx hb dX1_wave_30 (by decide +kernel) ?_
    exact J31 (1 : Int32) (Or.inr ⟨rfl, fun h9 => hs9 h9.1⟩)
set_option maxHeartbeats 4000000 in
set_option maxRecDepth 100000 in
/-- the reference: look -/
theorem n_look (l : Launch) (D : va_G) (y : Nat → Nat) (ce : Nat → ClassId) (th : Int32) (r0 r1 r2 r3 dn ac : Nat → Int32) (sm : Nat → Int64) (q : Int32) (sz : Nat) : Met l yX1_look wsX1_look ({ frames := 0, cells := 0, slots := 0, locals := 0 } : Room) (va_Pc [.ref (y 0), .int q] (crw D (mw y ce th r0 r1 r2 r3 dn ac sm) (mty ce) sz)) (va_Qi (fun (r : Int32) (t9 : Int32) => t9 = 0 ∧ r = lookR r0 r1 r2 q) (fun (t9 : Int32) (t : State) => crB D (mw y ce t9 r0 r1 r2 r3 dn ac sm) (mty ce) (va_A (mw y ce th r0 r1 r2 r3 dn ac sm) sz) t) (va_A (mw y ce th r0 r1 r2 r3 dn ac sm) sz)) 0 0 (va_A (mw y ce th r0 r1 r2 r3 dn ac sm) sz) := by
  refine Met.ofW (cc := cX1_look) (maxL := 8) (ret := some .int) (by decide) rfl ?_
  intro p e s m args below meth c s₁ B hml hv
  obtain ⟨rfl, hsz, hP, hK, hD0, hTb⟩ := hv
  have hx := B.exec
  have hb := B.bytes
  have hr := B.returns
  have hts : ∀ w ∈ wA, w.before _ s = true := fun w h => atoms_spec (ws := wsX1_look) B.pre w (List.mem_cons_of_mem _ h)
  have hown : s.vm.findClass RX1 = some m.cls := findClass_of_methodNamed B.named
  have hlocks := B.notSynchronized
  subst hsz
  have hD := hD0.self (sz := s.heap.size)
  generalize hAe : va_A (mw y ce th r0 r1 r2 r3 dn ac sm) s.heap.size = A at hD hTb ⊢
  have hA : ∀ q : Nat, s.heap.size ≤ q → A q := fun q h => by rw [← hAe]; exact Or.inr h
  have hS : va_S A s.heap s.heap [] := va_S.rf
  have hin1 := inA1
  have hf32 := (hts _ wm_302)
  have hf7 := (hts _ wm_303)
  have hf13 := (hts _ wm_304)
  have hf16 := (hts _ wm_305)
  have hl := lv_entry ([.ref (y 0), .int q]) (n := 8) (Nat.le_of_ble_eq_true rfl)
  rw [lg_entry_eq]
  generalize (lg_sl ([.ref (y 0), .int q]) ++ List.replicate (8 - (lg_sl ([.ref (y 0), .int q])).length) Slot.unset).toArray = ls at hl ⊢
  have hl : lv_has ls 8 [(0, .ref (y 0)), (1, .int q)] := hl
  refine lv_aload_n hx hb dX1_look_0 rfl (lv_at hl 0 rfl) ?_
  refine lv_iconst (v := (0 : Int32)) hx hb dX1_look_1 (by decide +kernel) ?_
  refine va_put (D := D) (ci := 1) (v := .int (0 : Int32)) (ty := .int) (C := RX1) (T := TX1) (N := 8) hx hb hts hin1 tyX1 tyX1_ok nmX1 hown hK hP hD hS 0 rfl rfl 0 (by decide) hf32 (fun _ h9 => h9) rfl (by decide +kernel) rfl rfl (Nat.le_of_ble_eq_true rfl) dX1_look_2 (fun H locs hP hD hS => ?_)
  have hP : va_P D vwCl (mw y ce (0 : Int32) r0 r1 r2 r3 dn ac sm) H := hP
  have hD : va_D A (mw y ce (0 : Int32) r0 r1 r2 r3 dn ac sm) := hD
  refine lv_iconst (v := (0 : Int32)) hx hb dX1_look_5 (by decide +kernel) ?_
  refine lv_istore_n (lv' := [(2, .int (0 : Int32)), (0, .ref (y 0)), (1, .int q)]) hx hb dX1_look_6 rfl hl (by decide) rfl (fun ls hl => ?_)
  refine lv_iconst (v := (-1 : Int32)) hx hb dX1_look_7 (by decide +kernel) ?_
  refine lv_istore_n (lv' := [(3, .int (-1 : Int32)), (2, .int (0 : Int32)), (0, .ref (y 0)), (1, .int q)]) hx hb dX1_look_8 rfl hl (by decide) rfl (fun ls hl => ?_)
  refine lv_iconst (v := (0 : Int32)) hx hb dX1_look_9 (by decide +kernel) ?_
  refine lv_istore (lv' := [(4, .int (0 : Int32)), (3, .int (-1 : Int32)), (2, .int (0 : Int32)), (0, .ref (y 0)), (1, .int q)]) hx hb dX1_look_10 hl (by decide) rfl (fun ls hl => ?_)
  refine lv_iconst (v := (0 : Int32)) hx hb dX1_look_12 (by decide +kernel) ?_
  refine lv_istore (lv' := [(5, .int (0 : Int32)), (4, .int (0 : Int32)), (3, .int (-1 : Int32)), (2, .int (0 : Int32)), (0, .ref (y 0)), (1, .int q)]) hx hb dX1_look_13 hl (by decide) rfl (fun ls hl => ?_)
  refine lv_iconst (v := (0 : Int32)) hx hb dX1_look_15 (by decide +kernel) ?_
  refine lv_istore (lv' := [(6, .int (0 : Int32)), (5, .int (0 : Int32)), (4, .int (0 : Int32)), (3, .int (-1 : Int32)), (2, .int (0 : Int32)), (0, .ref (y 0)), (1, .int q)]) hx hb dX1_look_16 hl (by decide) rfl (fun ls hl => ?_)
  refine lv_iconst (v := (0 : Int32)) hx hb dX1_look_18 (by decide +kernel) ?_
  refine lv_istore (lv' := [(7, .int (0 : Int32)), (6, .int (0 : Int32)), (5, .int (0 : Int32)), (4, .int (0 : Int32)), (3, .int (-1 : Int32)), (2, .int (0 : Int32)), (0, .ref (y 0)), (1, .int q)]) hx hb dX1_look_19 hl (by decide) rfl (fun ls hl => ?_)
  have L21 : ∀ (n : Nat) (k9 : Nat) (ls : Array Slot), (64 - k9) < n → (k9 ≤ 64) → lv_has ls 8 [(0, .ref (y 0)), (1, .int q), (2, .int (cntI r0 k9)), (3, .int (lastI r0 k9)), (4, .int (sumI r1 k9)), (5, .int (sumI r2 k9)), (6, .int (sumI (fun j => absR (r0 j)) k9)), (7, .int (nI k9))] → W p l e ((headSpec wsX1_look ({ frames := 0, cells := 0, slots := 0, locals := 0 } : Room)).room) s m (([.ref (y 0), .int q] : List Value).toArray) below meth c H locs 0 0 (MQ below (va_Qi (fun (r : Int32) (t9 : Int32) => t9 = 0 ∧ r = lookR r0 r1 r2 q) (fun (t9 : Int32) (t : State) => crB D (mw y ce t9 r0 r1 r2 r3 dn ac sm) (mty ce) A t) A) ([.ref (y 0), .int q] : List Value).toArray s 0 0 A) (F0 m 21 ls []) := by
    intro n
    induction n with
    | zero =>
      intro k9 ls hn
      exact absurd hn (Nat.not_lt_zero _)
    | succ n ih21 =>
      intro k9 ls hn21 hk9 hl
      refine lv_iload hx hb dX1_look_21 (lv_at hl 7 rfl) ?_
      refine lv_bipush (v := (64 : Int32)) hx hb dX1_look_23 (by decide +kernel) ?_
      refine cx_icmp_ge (i := ((k9 : Nat) : Int)) (j := 64) (tgt := 126) hx hb (nI_toInt (by omega)) (by decide +kernel) dX1_look_25 (by decide) (fun c_1 => ?_) (fun c_1 => ?_)
      · refine lv_iload_n hx hb dX1_look_126 rfl (lv_at hl 1 rfl) ?_
        refine cx_if_ne (i := q.toInt) (j := 0) (tgt := 134) hx hb rfl rfl dX1_look_127 (by decide) (fun c_2 => ?_) (fun c_2 => ?_)
        · refine lv_iload_n hx hb dX1_look_134 rfl (lv_at hl 1 rfl) ?_
          refine lv_iconst (v := (1 : Int32)) hx hb dX1_look_135 (by decide +kernel) ?_
          refine cx_icmp_ne (i := q.toInt) (j := 1) (tgt := 143) hx hb rfl (by decide +kernel) dX1_look_136 (by decide) (fun c_3 => ?_) (fun c_3 => ?_)
          · refine lv_iload_n hx hb dX1_look_143 rfl (lv_at hl 1 rfl) ?_
            refine lv_iconst (v := (2 : Int32)) hx hb dX1_look_144 (by decide +kernel) ?_
            refine cx_icmp_ne (i := q.toInt) (j := 2) (tgt := 153) hx hb rfl (by decide +kernel) dX1_look_145 (by decide) (fun c_4 => ?_) (fun c_4 => ?_)
            · refine lv_iload_n hx hb dX1_look_153 rfl (lv_at hl 1 rfl) ?_
              refine lv_iconst (v := (3 : Int32)) hx hb dX1_look_154 (by decide +kernel) ?_
              refine cx_icmp_ne (i := q.toInt) (j := 3) (tgt := 163) hx hb rfl (by decide +kernel) dX1_look_155 (by decide) (fun c_5 => ?_) (fun c_5 => ?_)
              · refine lv_iload_n hx hb dX1_look_163 rfl (lv_at hl 1 rfl) ?_
                refine lv_iconst (v := (4 : Int32)) hx hb dX1_look_164 (by decide +kernel) ?_
                refine cx_icmp_ne (i := q.toInt) (j := 4) (tgt := 173) hx hb rfl (by decide +kernel) dX1_look_165 (by decide) (fun c_6 => ?_) (fun c_6 => ?_)
                · refine lv_iconst (v := (-1 : Int32)) hx hb dX1_look_173 (by decide +kernel) ?_
                  exact W.iret (v := (-1 : Int32)) hx hb hr (fun t ht hW => ⟨⟨(-1 : Int32), (0 : Int32), rfl, (by obtain rfl : k9 = 64 := (by omega); exact ⟨rfl, by unfold lookR; rw [if_neg (by omega), if_neg (by omega), if_neg (by omega), if_neg (by omega), if_neg (by omega)]⟩), by rw [ht]; exact hP, va_K.moved hW.alike hK, hD⟩, hS.F ht⟩) hS.2.2 dX1_look_174
                · refine lv_iload hx hb dX1_look_168 (lv_at hl 6 rfl) ?_
                  refine lv_goto (tgt := 174) hx hb dX1_look_170 (by decide) ?_
                  exact W.iret (v := sumI (fun j => absR (r0 j)) k9) hx hb hr (fun t ht hW => ⟨⟨sumI (fun j => absR (r0 j)) k9, (0 : Int32), rfl, (by obtain rfl : k9 = 64 := (by omega); exact ⟨rfl, by unfold lookR; rw [if_neg (by omega), if_neg (by omega), if_neg (by omega), if_neg (by omega), if_pos (by omega)]⟩), by rw [ht]; exact hP, va_K.moved hW.alike hK, hD⟩, hS.F ht⟩) hS.2.2 dX1_look_174
              · refine lv_iload hx hb dX1_look_158 (lv_at hl 5 rfl) ?_
                refine lv_goto (tgt := 174) hx hb dX1_look_160 (by decide) ?_
                exact W.iret (v := sumI r2 k9) hx hb hr (fun t ht hW => ⟨⟨sumI r2 k9, (0 : Int32), rfl, (by obtain rfl : k9 = 64 := (by omega); exact ⟨rfl, by unfold lookR; rw [if_neg (by omega), if_neg (by omega), if_neg (by omega), if_pos (by omega)]⟩), by rw [ht]; exact hP, va_K.moved hW.alike hK, hD⟩, hS.F ht⟩) hS.2.2 dX1_look_174
            · refine lv_iload hx hb dX1_look_148 (lv_at hl 4 rfl) ?_
              refine lv_goto (tgt := 174) hx hb dX1_look_150 (by decide) ?_
              exact W.iret (v := sumI r1 k9) hx hb hr (fun t ht hW => ⟨⟨sumI r1 k9, (0 : Int32), rfl, (by obtain rfl : k9 = 64 := (by omega); exact ⟨rfl, by unfold lookR; rw [if_neg (by omega), if_neg (by omega), if_pos (by omega)]⟩), by rw [ht]; exact hP, va_K.moved hW.alike hK, hD⟩, hS.F ht⟩) hS.2.2 dX1_look_174
          · refine lv_iload_n hx hb dX1_look_139 rfl (lv_at hl 3 rfl) ?_
            refine lv_goto (tgt := 174) hx hb dX1_look_140 (by decide) ?_
            exact W.iret (v := lastI r0 k9) hx hb hr (fun t ht hW => ⟨⟨lastI r0 k9, (0 : Int32), rfl, (by obtain rfl : k9 = 64 := (by omega); exact ⟨rfl, by unfold lookR; rw [if_neg (by omega), if_pos (by omega)]⟩), by rw [ht]; exact hP, va_K.moved hW.alike hK, hD⟩, hS.F ht⟩) hS.2.2 dX1_look_174
        · refine lv_iload_n hx hb dX1_look_130 rfl (lv_at hl 2 rfl) ?_
          refine lv_goto (tgt := 174) hx hb dX1_look_131 (by decide) ?_
          exact W.iret (v := cntI r0 k9) hx hb hr (fun t ht hW => ⟨⟨cntI r0 k9, (0 : Int32), rfl, (by obtain rfl : k9 = 64 := (by omega); exact ⟨rfl, by unfold lookR; rw [if_pos (by omega)]⟩), by rw [ht]; exact hP, va_K.moved hW.alike hK, hD⟩, hS.F ht⟩) hS.2.2 dX1_look_174
      · refine lv_iload_n hx hb dX1_look_28 rfl (lv_at hl 2 rfl) ?_
        refine lv_aload_n hx hb dX1_look_29 rfl (lv_at hl 0 rfl) ?_
        refine va_get (D := D) (ci := 1) (v := .ref (y 1)) (C := RX1) (T := TX1) (N := 8) hx hb hts hin1 hown hK hP 0 rfl rfl 1 (by decide) hf7 (fun _ h9 => h9) rfl dX1_look_30 ?_
        refine lv_iload hx hb dX1_look_33 (lv_at hl 7 rfl) ?_
        refine cx_iald hx hb hK hP 1 0 rfl rfl k9 (by omega) (by decide) dX1_look_35 ?_
        refine cx_if_eq (i := (r0 k9).toInt) (j := 0) (tgt := 43) hx hb rfl rfl dX1_look_36 (by decide) (fun c_7 => ?_) (fun c_7 => ?_)
        · refine lv_iconst (v := (0 : Int32)) hx hb dX1_look_43 (by decide +kernel) ?_
          refine lv_iadd hx hb dX1_look_44 ?_
          refine lv_istore_n (lv' := [(2, .int ((cntI r0 k9) + (0 : Int32))), (0, .ref (y 0)), (1, .int q), (3, .int (lastI r0 k9)), (4, .int (sumI r1 k9)), (5, .int (sumI r2 k9)), (6, .int (sumI (fun j => absR (r0 j)) k9)), (7, .int (nI k9))]) hx hb dX1_look_45 rfl hl (by decide) rfl (fun ls hl => ?_)
          refine lv_aload_n hx hb dX1_look_46 rfl (lv_at hl 1 rfl) ?_
          refine va_get (D := D) (ci := 1) (v := .ref (y 1)) (C := RX1) (T := TX1) (N := 8) hx hb hts hin1 hown hK hP 0 rfl rfl 1 (by decide) hf7 (fun _ h9 => h9) rfl dX1_look_47 ?_
          refine lv_iload hx hb dX1_look_50 (lv_at hl 7 rfl) ?_
          refine cx_iald hx hb hK hP 1 0 rfl rfl k9 (by omega) (by decide) dX1_look_52 ?_
          refine cx_if_eq (i := (r0 k9).toInt) (j := 0) (tgt := 61) hx hb rfl rfl dX1_look_53 (by decide) (fun c_8 => ?_) (fun c_8 => ?_)
          · refine lv_iload_n hx hb dX1_look_61 rfl (lv_at hl 3 rfl) ?_
            refine lv_istore_n (lv' := [(3, .int (lastI r0 k9)), (2, .int ((cntI r0 k9) + (0 : Int32))), (0, .ref (y 0)), (1, .int q), (4, .int (sumI r1 k9)), (5, .int (sumI r2 k9)), (6, .int (sumI (fun j => absR (r0 j)) k9)), (7, .int (nI k9))]) hx hb dX1_look_62 rfl hl (by decide) rfl (fun ls hl => ?_)
            refine lv_iload hx hb dX1_look_63 (lv_at hl 4 rfl) ?_
            refine lv_aload_n hx hb dX1_look_65 rfl (lv_at hl 2 rfl) ?_
            refine va_get (D := D) (ci := 1) (v := .ref (y 2)) (C := RX1) (T := TX1) (N := 8) hx hb hts hin1 hown hK hP 0 rfl rfl 2 (by decide) hf13 (fun _ h9 => h9) rfl dX1_look_66 ?_
            refine lv_iload hx hb dX1_look_69 (lv_at hl 7 rfl) ?_
            refine cx_iald hx hb hK hP 2 1 rfl rfl k9 (by omega) (by decide) dX1_look_71 ?_
            refine lv_iadd hx hb dX1_look_72 ?_
            refine lv_istore (lv' := [(4, .int ((sumI r1 k9) + (r1 k9))), (3, .int (lastI r0 k9)), (2, .int ((cntI r0 k9) + (0 : Int32))), (0, .ref (y 0)), (1, .int q), (5, .int (sumI r2 k9)), (6, .int (sumI (fun j => absR (r0 j)) k9)), (7, .int (nI k9))]) hx hb dX1_look_73 hl (by decide) rfl (fun ls hl => ?_)
            refine lv_iload hx hb dX1_look_75 (lv_at hl 5 rfl) ?_
            refine lv_aload_n hx hb dX1_look_77 rfl (lv_at hl 3 rfl) ?_
            refine va_get (D := D) (ci := 1) (v := .ref (y 3)) (C := RX1) (T := TX1) (N := 8) hx hb hts hin1 hown hK hP 0 rfl rfl 3 (by decide) hf16 (fun _ h9 => h9) rfl dX1_look_78 ?_
            refine lv_iload hx hb dX1_look_81 (lv_at hl 7 rfl) ?_
            refine cx_iald hx hb hK hP 3 2 rfl rfl k9 (by omega) (by decide) dX1_look_83 ?_
            refine lv_iadd hx hb dX1_look_84 ?_
            refine lv_istore (lv' := [(5, .int ((sumI r2 k9) + (r2 k9))), (4, .int ((sumI r1 k9) + (r1 k9))), (3, .int (lastI r0 k9)), (2, .int ((cntI r0 k9) + (0 : Int32))), (0, .ref (y 0)), (1, .int q), (6, .int (sumI (fun j => absR (r0 j)) k9)), (7, .int (nI k9))]) hx hb dX1_look_85 hl (by decide) rfl (fun ls hl => ?_)
            refine lv_iload hx hb dX1_look_87 (lv_at hl 6 rfl) ?_
            refine lv_aload_n hx hb dX1_look_89 rfl (lv_at hl 4 rfl) ?_
            refine va_get (D := D) (ci := 1) (v := .ref (y 1)) (C := RX1) (T := TX1) (N := 8) hx hb hts hin1 hown hK hP 0 rfl rfl 1 (by decide) hf7 (fun _ h9 => h9) rfl dX1_look_90 ?_
            refine lv_iload hx hb dX1_look_93 (lv_at hl 7 rfl) ?_
            refine cx_iald hx hb hK hP 1 0 rfl rfl k9 (by omega) (by decide) dX1_look_95 ?_
            refine cx_if_ge (i := (r0 k9).toInt) (j := 0) (tgt := 110) hx hb rfl rfl dX1_look_96 (by decide) (fun c_9 => ?_) (fun c_9 => ?_)
            · refine lv_aload_n hx hb dX1_look_110 rfl (lv_at hl 4 rfl) ?_
              refine va_get (D := D) (ci := 1) (v := .ref (y 1)) (C := RX1) (T := TX1) (N := 8) hx hb hts hin1 hown hK hP 0 rfl rfl 1 (by decide) hf7 (fun _ h9 => h9) rfl dX1_look_111 ?_
              refine lv_iload hx hb dX1_look_114 (lv_at hl 7 rfl) ?_
              refine cx_iald hx hb hK hP 1 0 rfl rfl k9 (by omega) (by decide) dX1_look_116 ?_
              refine lv_iadd hx hb dX1_look_117 ?_
              refine lv_istore (lv' := [(6, .int ((sumI (fun j => absR (r0 j)) k9) + (r0 k9))), (5, .int ((sumI r2 k9) + (r2 k9))), (4, .int ((sumI r1 k9) + (r1 k9))), (3, .int (lastI r0 k9)), (2, .int ((cntI r0 k9) + (0 : Int32))), (0, .ref (y 0)), (1, .int q), (7, .int (nI k9))]) hx hb dX1_look_118 hl (by decide) rfl (fun ls hl => ?_)
              refine lv_iinc (v := nI (k9 + 1)) (lv' := [(7, .int (nI (k9 + 1))), (6, .int ((sumI (fun j => absR (r0 j)) k9) + (r0 k9))), (5, .int ((sumI r2 k9) + (r2 k9))), (4, .int ((sumI r1 k9) + (r1 k9))), (3, .int (lastI r0 k9)), (2, .int ((cntI r0 k9) + (0 : Int32))), (0, .ref (y 0)), (1, .int q)]) hx hb dX1_look_120 hl (k := 7) rfl (by show nI k9 + 1 = nI (k9 + 1); exact nI_add k9 1) (by decide) rfl (fun ls hl => ?_)
              refine lv_goto (tgt := 21) hx hb dX1_look_123 (by decide) ?_
              have e_10 : (cntI r0 k9) + (0 : Int32) = cntI r0 (k9 + 1) := cntI_z0 c_7
              rw [e_10] at hl
              have e_11 : lastI r0 k9 = lastI r0 (k9 + 1) := (lastI_z c_8).symm
              rw [e_11] at hl
              have e_12 : (sumI (fun j => absR (r0 j)) k9) + (r0 k9) = sumI (fun j => absR (r0 j)) (k9 + 1) := by show _ = sumI (fun j => absR (r0 j)) k9 + absR (r0 k9); unfold absR; rw [if_neg (by omega)]
              rw [e_12] at hl
              exact ih21 (k9 + 1) _ (by omega) (by omega) (lv_sub hl [6, 7, 5, 4, 3, 2, 1, 0] rfl)
            · refine lv_aload_n hx hb dX1_look_99 rfl (lv_at hl 4 rfl) ?_
              refine va_get (D := D) (ci := 1) (v := .ref (y 1)) (C := RX1) (T := TX1) (N := 8) hx hb hts hin1 hown hK hP 0 rfl rfl 1 (by decide) hf7 (fun _ h9 => h9) rfl dX1_look_100 ?_
              refine lv_iload hx hb dX1_look_103 (lv_at hl 7 rfl) ?_
              refine cx_iald hx hb hK hP 1 0 rfl rfl k9 (by omega) (by decide) dX1_look_105 ?_
              refine lv_ineg hx hb dX1_look_106 ?_
              refine lv_goto (tgt := 117) hx hb dX1_look_107 (by decide) ?_
              refine lv_iadd hx hb dX1_look_117 ?_
              refine lv_istore (lv' := [(6, .int ((sumI (fun j => absR (r0 j)) k9) + (-(r0 k9)))), (5, .int ((sumI r2 k9) + (r2 k9))), (4, .int ((sumI r1 k9) + (r1 k9))), (3, .int (lastI r0 k9)), (2, .int ((cntI r0 k9) + (0 : Int32))), (0, .ref (y 0)), (1, .int q), (7, .int (nI k9))]) hx hb dX1_look_118 hl (by decide) rfl (fun ls hl => ?_)
              refine lv_iinc (v := nI (k9 + 1)) (lv' := [(7, .int (nI (k9 + 1))), (6, .int ((sumI (fun j => absR (r0 j)) k9) + (-(r0 k9)))), (5, .int ((sumI r2 k9) + (r2 k9))), (4, .int ((sumI r1 k9) + (r1 k9))), (3, .int (lastI r0 k9)), (2, .int ((cntI r0 k9) + (0 : Int32))), (0, .ref (y 0)), (1, .int q)]) hx hb dX1_look_120 hl (k := 7) rfl (by show nI k9 + 1 = nI (k9 + 1); exact nI_add k9 1) (by decide) rfl (fun ls hl => ?_)
              refine lv_goto (tgt := 21) hx hb dX1_look_123 (by decide) ?_
              have e_13 : (cntI r0 k9) + (0 : Int32) = cntI r0 (k9 + 1) := cntI_z0 c_7
              rw [e_13] at hl
              have e_14 : lastI r0 k9 = lastI r0 (k9 + 1) := (lastI_z c_8).symm
              rw [e_14] at hl
              have e_15 : (sumI (fun j => absR (r0 j)) k9) + (-(r0 k9)) = sumI (fun j => absR (r0 j)) (k9 + 1) := by show _ = sumI (fun j => absR (r0 j)) k9 + absR (r0 k9); unfold absR; rw [if_pos (by omega)]
              rw [e_15] at hl
              exact ih21 (k9 + 1) _ (by omega) (by omega) (lv_sub hl [6, 7, 5, 4, 3, 2, 1, 0] rfl)
          · refine lv_iload hx hb dX1_look_56 (lv_at hl 7 rfl) ?_
            refine lv_goto (tgt := 62) hx hb dX1_look_58 (by decide) ?_
            refine lv_istore_n (lv' := [(3, .int (nI k9)), (2, .int ((cntI r0 k9) + (0 : Int32))), (0, .ref (y 0)), (1, .int q), (4, .int (sumI r1 k9)), (5, .int (sumI r2 k9)), (6, .int (sumI (fun j => absR (r0 j)) k9)), (7, .int (nI k9))]) hx hb dX1_look_62 rfl hl (by decide) rfl (fun ls hl => ?_)
            refine lv_iload hx hb dX1_look_63 (lv_at hl 4 rfl) ?_
            refine lv_aload_n hx hb dX1_look_65 rfl (lv_at hl 2 rfl) ?_
            refine va_get (D := D) (ci := 1) (v := .ref (y 2)) (C := RX1) (T := TX1) (N := 8) hx hb hts hin1 hown hK hP 0 rfl rfl 2 (by decide) hf13 (fun _ h9 => h9) rfl dX1_look_66 ?_
            refine lv_iload hx hb dX1_look_69 (lv_at hl 7 rfl) ?_
            refine cx_iald hx hb hK hP 2 1 rfl rfl k9 (by omega) (by decide) dX1_look_71 ?_
            refine lv_iadd hx hb dX1_look_72 ?_
            refine lv_istore (lv' := [(4, .int ((sumI r1 k9) + (r1 k9))), (3, .int (nI k9)), (2, .int ((cntI r0 k9) + (0 : Int32))), (0, .ref (y 0)), (1, .int q), (5, .int (sumI r2 k9)), (6, .int (sumI (fun j => absR (r0 j)) k9)), (7, .int (nI k9))]) hx hb dX1_look_73 hl (by decide) rfl (fun ls hl => ?_)
            refine lv_iload hx hb dX1_look_75 (lv_at hl 5 rfl) ?_
            refine lv_aload_n hx hb dX1_look_77 rfl (lv_at hl 3 rfl) ?_
            refine va_get (D := D) (ci := 1) (v := .ref (y 3)) (C := RX1) (T := TX1) (N := 8) hx hb hts hin1 hown hK hP 0 rfl rfl 3 (by decide) hf16 (fun _ h9 => h9) rfl dX1_look_78 ?_
            refine lv_iload hx hb dX1_look_81 (lv_at hl 7 rfl) ?_
            refine cx_iald hx hb hK hP 3 2 rfl rfl k9 (by omega) (by decide) dX1_look_83 ?_
            refine lv_iadd hx hb dX1_look_84 ?_
            refine lv_istore (lv' := [(5, .int ((sumI r2 k9) + (r2 k9))), (4, .int ((sumI r1 k9) + (r1 k9))), (3, .int (nI k9)), (2, .int ((cntI r0 k9) + (0 : Int32))), (0, .ref (y 0)), (1, .int q), (6, .int (sumI (fun j => absR (r0 j)) k9)), (7, .int (nI k9))]) hx hb dX1_look_85 hl (by decide) rfl (fun ls hl => ?_)
            refine lv_iload hx hb dX1_look_87 (lv_at hl 6 rfl) ?_
            refine lv_aload_n hx hb dX1_look_89 rfl (lv_at hl 4 rfl) ?_
            refine va_get (D := D) (ci := 1) (v := .ref (y 1)) (C := RX1) (T := TX1) (N := 8) hx hb hts hin1 hown hK hP 0 rfl rfl 1 (by decide) hf7 (fun _ h9 => h9) rfl dX1_look_90 ?_
            refine lv_iload hx hb dX1_look_93 (lv_at hl 7 rfl) ?_
            refine cx_iald hx hb hK hP 1 0 rfl rfl k9 (by omega) (by decide) dX1_look_95 ?_
            refine cx_if_ge (i := (r0 k9).toInt) (j := 0) (tgt := 110) hx hb rfl rfl dX1_look_96 (by decide) (fun c_16 => ?_) (fun c_16 => ?_)
            · refine lv_aload_n hx hb dX1_look_110 rfl (lv_at hl 4 rfl) ?_
              refine va_get (D := D) (ci := 1) (v := .ref (y 1)) (C := RX1) (T := TX1) (N := 8) hx hb hts hin1 hown hK hP 0 rfl rfl 1 (by decide) hf7 (fun _ h9 => h9) rfl dX1_look_111 ?_
              refine lv_iload hx hb dX1_look_114 (lv_at hl 7 rfl) ?_
              refine cx_iald hx hb hK hP 1 0 rfl rfl k9 (by omega) (by decide) dX1_look_116 ?_
              refine lv_iadd hx hb dX1_look_117 ?_
              refine lv_istore (lv' := [(6, .int ((sumI (fun j => absR (r0 j)) k9) + (r0 k9))), (5, .int ((sumI r2 k9) + (r2 k9))), (4, .int ((sumI r1 k9) + (r1 k9))), (3, .int (nI k9)), (2, .int ((cntI r0 k9) + (0 : Int32))), (0, .ref (y 0)), (1, .int q), (7, .int (nI k9))]) hx hb dX1_look_118 hl (by decide) rfl (fun ls hl => ?_)
              refine lv_iinc (v := nI (k9 + 1)) (lv' := [(7, .int (nI (k9 + 1))), (6, .int ((sumI (fun j => absR (r0 j)) k9) + (r0 k9))), (5, .int ((sumI r2 k9) + (r2 k9))), (4, .int ((sumI r1 k9) + (r1 k9))), (3, .int (nI k9)), (2, .int ((cntI r0 k9) + (0 : Int32))), (0, .ref (y 0)), (1, .int q)]) hx hb dX1_look_120 hl (k := 7) rfl (by show nI k9 + 1 = nI (k9 + 1); exact nI_add k9 1) (by decide) rfl (fun ls hl => ?_)
              refine lv_goto (tgt := 21) hx hb dX1_look_123 (by decide) ?_
              have e_17 : (cntI r0 k9) + (0 : Int32) = cntI r0 (k9 + 1) := cntI_z0 c_7
              rw [e_17] at hl
              have e_18 : nI k9 = lastI r0 (k9 + 1) := (lastI_s c_8).symm
              rw [e_18] at hl
              have e_19 : (sumI (fun j => absR (r0 j)) k9) + (r0 k9) = sumI (fun j => absR (r0 j)) (k9 + 1) := by show _ = sumI (fun j => absR (r0 j)) k9 + absR (r0 k9); unfold absR; rw [if_neg (by omega)]
              rw [e_19] at hl
              exact ih21 (k9 + 1) _ (by omega) (by omega) (lv_sub hl [6, 7, 5, 4, 3, 2, 1, 0] rfl)
            · refine lv_aload_n hx hb dX1_look_99 rfl (lv_at hl 4 rfl) ?_
              refine va_get (D := D) (ci := 1) (v := .ref (y 1)) (C := RX1) (T := TX1) (N := 8) hx hb hts hin1 hown hK hP 0 rfl rfl 1 (by decide) hf7 (fun _ h9 => h9) rfl dX1_look_100 ?_
              refine lv_iload hx hb dX1_look_103 (lv_at hl 7 rfl) ?_
              refine cx_iald hx hb hK hP 1 0 rfl rfl k9 (by omega) (by decide) dX1_look_105 ?_
              refine lv_ineg hx hb dX1_look_106 ?_
              refine lv_goto (tgt := 117) hx hb dX1_look_107 (by decide) ?_
              refine lv_iadd hx hb dX1_look_117 ?_
              refine lv_istore (lv' := [(6, .int ((sumI (fun j => absR (r0 j)) k9) + (-(r0 k9)))), (5, .int ((sumI r2 k9) + (r2 k9))), (4, .int ((sumI r1 k9) + (r1 k9))), (3, .int (nI k9)), (2, .int ((cntI r0 k9) + (0 : Int32))), (0, .ref (y 0)), (1, .int q), (7, .int (nI k9))]) hx hb dX1_look_118 hl (by decide) rfl (fun ls hl => ?_)
              refine lv_iinc (v := nI (k9 + 1)) (lv' := [(7, .int (nI (k9 + 1))), (6, .int ((sumI (fun j => absR (r0 j)) k9) + (-(r0 k9)))), (5, .int ((sumI r2 k9) + (r2 k9))), (4, .int ((sumI r1 k9) + (r1 k9))), (3, .int (nI k9)), (2, .int ((cntI r0 k9) + (0 : Int32))), (0, .ref (y 0)), (1, .int q)]) hx hb dX1_look_120 hl (k := 7) rfl (by show nI k9 + 1 = nI (k9 + 1); exact nI_add k9 1) (by decide) rfl (fun ls hl => ?_)
              refine lv_goto (tgt := 21) hx hb dX1_look_123 (by decide) ?_
              have e_20 : (cntI r0 k9) + (0 : Int32) = cntI r0 (k9 + 1) := cntI_z0 c_7
              rw [e_20] at hl
              have e_21 : nI k9 = lastI r0 (k9 + 1) := (lastI_s c_8).symm
              rw [e_21] at hl
              have e_22 : (sumI (fun j => absR (r0 j)) k9) + (-(r0 k9)) = sumI (fun j => absR (r0 j)) (k9 + 1) := by show _ = sumI (fun j => absR (r0 j)) k9 + absR (r0 k9); unfold absR; rw [if_pos (by omega)]
              rw [e_22] at hl
              exact ih21 (k9 + 1) _ (by omega) (by omega) (lv_sub hl [6, 7, 5, 4, 3, 2, 1, 0] rfl)
        · refine lv_iconst (v := (1 : Int32)) hx hb dX1_look_39 (by decide +kernel) ?_
          refine lv_goto (tgt := 44) hx hb dX1_look_40 (by decide) ?_
          refine lv_iadd hx hb dX1_look_44 ?_
          refine lv_istore_n (lv' := [(2, .int ((cntI r0 k9) + (1 : Int32))), (0, .ref (y 0)), (1, .int q), (3, .int (lastI r0 k9)), (4, .int (sumI r1 k9)), (5, .int (sumI r2 k9)), (6, .int (sumI (fun j => absR (r0 j)) k9)), (7, .int (nI k9))]) hx hb dX1_look_45 rfl hl (by decide) rfl (fun ls hl => ?_)
          refine lv_aload_n hx hb dX1_look_46 rfl (lv_at hl 1 rfl) ?_
          refine va_get (D := D) (ci := 1) (v := .ref (y 1)) (C := RX1) (T := TX1) (N := 8) hx hb hts hin1 hown hK hP 0 rfl rfl 1 (by decide) hf7 (fun _ h9 => h9) rfl dX1_look_47 ?_
          refine lv_iload hx hb dX1_look_50 (lv_at hl 7 rfl) ?_
          refine cx_iald hx hb hK hP 1 0 rfl rfl k9 (by omega) (by decide) dX1_look_52 ?_
          refine cx_if_eq (i := (r0 k9).toInt) (j := 0) (tgt := 61) hx hb rfl rfl dX1_look_53 (by decide) (fun c_23 => ?_) (fun c_23 => ?_)
          · refine lv_iload_n hx hb dX1_look_61 rfl (lv_at hl 3 rfl) ?_
            refine lv_istore_n (lv' := [(3, .int (lastI r0 k9)), (2, .int ((cntI r0 k9) + (1 : Int32))), (0, .ref (y 0)), (1, .int q), (4, .int (sumI r1 k9)), (5, .int (sumI r2 k9)), (6, .int (sumI (fun j => absR (r0 j)) k9)), (7, .int (nI k9))]) hx hb dX1_look_62 rfl hl (by decide) rfl (fun ls hl => ?_)
            refine lv_iload hx hb dX1_look_63 (lv_at hl 4 rfl) ?_
            refine lv_aload_n hx hb dX1_look_65 rfl (lv_at hl 2 rfl) ?_
            refine va_get (D := D) (ci := 1) (v := .ref (y 2)) (C := RX1) (T := TX1) (N := 8) hx hb hts hin1 hown hK hP 0 rfl rfl 2 (by decide) hf13 (fun _ h9 => h9) rfl dX1_look_66 ?_
            refine lv_iload hx hb dX1_look_69 (lv_at hl 7 rfl) ?_
            refine cx_iald hx hb hK hP 2 1 rfl rfl k9 (by omega) (by decide) dX1_look_71 ?_
            refine lv_iadd hx hb dX1_look_72 ?_
            refine lv_istore (lv' := [(4, .int ((sumI r1 k9) + (r1 k9))), (3, .int (lastI r0 k9)), (2, .int ((cntI r0 k9) + (1 : Int32))), (0, .ref (y 0)), (1, .int q), (5, .int (sumI r2 k9)), (6, .int (sumI (fun j => absR (r0 j)) k9)), (7, .int (nI k9))]) hx hb dX1_look_73 hl (by decide) rfl (fun ls hl => ?_)
            refine lv_iload hx hb dX1_look_75 (lv_at hl 5 rfl) ?_
            refine lv_aload_n hx hb dX1_look_77 rfl (lv_at hl 3 rfl) ?_
            refine va_get (D := D) (ci := 1) (v := .ref (y 3)) (C := RX1) (T := TX1) (N := 8) hx hb hts hin1 hown hK hP 0 rfl rfl 3 (by decide) hf16 (fun _ h9 => h9) rfl dX1_look_78 ?_
            refine lv_iload hx hb dX1_look_81 (lv_at hl 7 rfl) ?_
            refine cx_iald hx hb hK hP 3 2 rfl rfl k9 (by omega) (by decide) dX1_look_83 ?_
            refine lv_iadd hx hb dX1_look_84 ?_
            refine lv_istore (lv' := [(5, .int ((sumI r2 k9) + (r2 k9))), (4, .int ((sumI r1 k9) + (r1 k9))), (3, .int (lastI r0 k9)), (2, .int ((cntI r0 k9) + (1 : Int32))), (0, .ref (y 0)), (1, .int q), (6, .int (sumI (fun j => absR (r0 j)) k9)), (7, .int (nI k9))]) hx hb dX1_look_85 hl (by decide) rfl (fun ls hl => ?_)
            refine lv_iload hx hb dX1_look_87 (lv_at hl 6 rfl) ?_
            refine lv_aload_n hx hb dX1_look_89 rfl (lv_at hl 4 rfl) ?_
            refine va_get (D := D) (ci := 1) (v := .ref (y 1)) (C := RX1) (T := TX1) (N := 8) hx hb hts hin1 hown hK hP 0 rfl rfl 1 (by decide) hf7 (fun _ h9 => h9) rfl dX1_look_90 ?_
            refine lv_iload hx hb dX1_look_93 (lv_at hl 7 rfl) ?_
            refine cx_iald hx hb hK hP 1 0 rfl rfl k9 (by omega) (by decide) dX1_look_95 ?_
            refine cx_if_ge (i := (r0 k9).toInt) (j := 0) (tgt := 110) hx hb rfl rfl dX1_look_96 (by decide) (fun c_24 => ?_) (fun c_24 => ?_)
            · refine lv_aload_n hx hb dX1_look_110 rfl (lv_at hl 4 rfl) ?_
              refine va_get (D := D) (ci := 1) (v := .ref (y 1)) (C := RX1) (T := TX1) (N := 8) hx hb hts hin1 hown hK hP 0 rfl rfl 1 (by decide) hf7 (fun _ h9 => h9) rfl dX1_look_111 ?_
              refine lv_iload hx hb dX1_look_114 (lv_at hl 7 rfl) ?_
              refine cx_iald hx hb hK hP 1 0 rfl rfl k9 (by omega) (by decide) dX1_look_116 ?_
              refine lv_iadd hx hb dX1_look_117 ?_
              refine lv_istore (lv' := [(6, .int ((sumI (fun j => absR (r0 j)) k9) + (r0 k9))), (5, .int ((sumI r2 k9) + (r2 k9))), (4, .int ((sumI r1 k9) + (r1 k9))), (3, .int (lastI r0 k9)), (2, .int ((cntI r0 k9) + (1 : Int32))), (0, .ref (y 0)), (1, .int q), (7, .int (nI k9))]) hx hb dX1_look_118 hl (by decide) rfl (fun ls hl => ?_)
              refine lv_iinc (v := nI (k9 + 1)) (lv' := [(7, .int (nI (k9 + 1))), (6, .int ((sumI (fun j => absR (r0 j)) k9) + (r0 k9))), (5, .int ((sumI r2 k9) + (r2 k9))), (4, .int ((sumI r1 k9) + (r1 k9))), (3, .int (lastI r0 k9)), (2, .int ((cntI r0 k9) + (1 : Int32))), (0, .ref (y 0)), (1, .int q)]) hx hb dX1_look_120 hl (k := 7) rfl (by show nI k9 + 1 = nI (k9 + 1); exact nI_add k9 1) (by decide) rfl (fun ls hl => ?_)
              refine lv_goto (tgt := 21) hx hb dX1_look_123 (by decide) ?_
              have e_25 : (cntI r0 k9) + (1 : Int32) = cntI r0 (k9 + 1) := cntI_s c_7
              rw [e_25] at hl
              have e_26 : lastI r0 k9 = lastI r0 (k9 + 1) := (lastI_z c_23).symm
              rw [e_26] at hl
              have e_27 : (sumI (fun j => absR (r0 j)) k9) + (r0 k9) = sumI (fun j => absR (r0 j)) (k9 + 1) := by show _ = sumI (fun j => absR (r0 j)) k9 + absR (r0 k9); unfold absR; rw [if_neg (by omega)]
              rw [e_27] at hl
              exact ih21 (k9 + 1) _ (by omega) (by omega) (lv_sub hl [6, 7, 5, 4, 3, 2, 1, 0] rfl)
            · refine lv_aload_n hx hb dX1_look_99 rfl (lv_at hl 4 rfl) ?_
              refine va_get (D := D) (ci := 1) (v := .ref (y 1)) (C := RX1) (T := TX1) (N := 8) hx hb hts hin1 hown hK hP 0 rfl rfl 1 (by decide) hf7 (fun _ h9 => h9) rfl dX1_look_100 ?_
              refine lv_iload hx hb dX1_look_103 (lv_at hl 7 rfl) ?_
              refine cx_iald hx hb hK hP 1 0 rfl rfl k9 (by omega) (by decide) dX1_look_105 ?_
              refine lv_ineg hx hb dX1_look_106 ?_
              refine lv_goto (tgt := 117) hx hb dX1_look_107 (by decide) ?_
              refine lv_iadd hx hb dX1_look_117 ?_
              refine lv_istore (lv' := [(6, .int ((sumI (fun j => absR (r0 j)) k9) + (-(r0 k9)))), (5, .int ((sumI r2 k9) + (r2 k9))), (4, .int ((sumI r1 k9) + (r1 k9))), (3, .int (lastI r0 k9)), (2, .int ((cntI r0 k9) + (1 : Int32))), (0, .ref (y 0)), (1, .int q), (7, .int (nI k9))]) hx hb dX1_look_118 hl (by decide) rfl (fun ls hl => ?_)
              refine lv_iinc (v := nI (k9 + 1)) (lv' := [(7, .int (nI (k9 + 1))), (6, .int ((sumI (fun j => absR (r0 j)) k9) + (-(r0 k9)))), (5, .int ((sumI r2 k9) + (r2 k9))), (4, .int ((sumI r1 k9) + (r1 k9))), (3, .int (lastI r0 k9)), (2, .int ((cntI r0 k9) + (1 : Int32))), (0, .ref (y 0)), (1, .int q)]) hx hb dX1_look_120 hl (k := 7) rfl (by show nI k9 + 1 = nI (k9 + 1); exact nI_add k9 1) (by decide) rfl (fun ls hl => ?_)
              refine lv_goto (tgt := 21) hx hb dX1_look_123 (by decide) ?_
              have e_28 : (cntI r0 k9) + (1 : Int32) = cntI r0 (k9 + 1) := cntI_s c_7
              rw [e_28] at hl
              have e_29 : lastI r0 k9 = lastI r0 (k9 + 1) := (lastI_z c_23).symm
              rw [e_29] at hl
              have e_30 : (sumI (fun j => absR (r0 j)) k9) + (-(r0 k9)) = sumI (fun j => absR (r0 j)) (k9 + 1) := by show _ = sumI (fun j => absR (r0 j)) k9 + absR (r0 k9); unfold absR; rw [if_pos (by omega)]
              rw [e_30] at hl
              exact ih21 (k9 + 1) _ (by omega) (by omega) (lv_sub hl [6, 7, 5, 4, 3, 2, 1, 0] rfl)
          · refine lv_iload hx hb dX1_look_56 (lv_at hl 7 rfl) ?_
            refine lv_goto (tgt := 62) hx hb dX1_look_58 (by decide) ?_
            refine lv_istore_n (lv' := [(3, .int (nI k9)), (2, .int ((cntI r0 k9) + (1 : Int32))), (0, .ref (y 0)), (1, .int q), (4, .int (sumI r1 k9)), (5, .int (sumI r2 k9)), (6, .int (sumI (fun j => absR (r0 j)) k9)), (7, .int (nI k9))]) hx hb dX1_look_62 rfl hl (by decide) rfl (fun ls hl => ?_)
            refine lv_iload hx hb dX1_look_63 (lv_at hl 4 rfl) ?_
            refine lv_aload_n hx hb dX1_look_65 rfl (lv_at hl 2 rfl) ?_
            refine va_get (D := D) (ci := 1) (v := .ref (y 2)) (C := RX1) (T := TX1) (N := 8) hx hb hts hin1 hown hK hP 0 rfl rfl 2 (by decide) hf13 (fun _ h9 => h9) rfl dX1_look_66 ?_
            refine lv_iload hx hb dX1_look_69 (lv_at hl 7 rfl) ?_
            refine cx_iald hx hb hK hP 2 1 rfl rfl k9 (by omega) (by decide) dX1_look_71 ?_
            refine lv_iadd hx hb dX1_look_72 ?_
            refine lv_istore (lv' := [(4, .int ((sumI r1 k9) + (r1 k9))), (3, .int (nI k9)), (2, .int ((cntI r0 k9) + (1 : Int32))), (0, .ref (y 0)), (1, .int q), (5, .int (sumI r2 k9)), (6, .int (sumI (fun j => absR (r0 j)) k9)), (7, .int (nI k9))]) hx hb dX1_look_73 hl (by decide) rfl (fun ls hl => ?_)
            refine lv_iload hx hb dX1_look_75 (lv_at hl 5 rfl) ?_
            refine lv_aload_n hx hb dX1_look_77 rfl (lv_at hl 3 rfl) ?_
            refine va_get (D := D) (ci := 1) (v := .ref (y 3)) (C := RX1) (T := TX1) (N := 8) hx hb hts hin1 hown hK hP 0 rfl rfl 3 (by decide) hf16 (fun _ h9 => h9) rfl dX1_look_78 ?_
            refine lv_iload hx hb dX1_look_81 (lv_at hl 7 rfl) ?_
            refine cx_iald hx hb hK hP 3 2 rfl rfl k9 (by omega) (by decide) dX1_look_83 ?_
            refine lv_iadd hx hb dX1_look_84 ?_
            refine lv_istore (lv' := [(5, .int ((sumI r2 k9) + (r2 k9))), (4, .int ((sumI r1 k9) + (r1 k9))), (3, .int (nI k9)), (2, .int ((cntI r0 k9) + (1 : Int32))), (0, .ref (y 0)), (1, .int q), (6, .int (sumI (fun j => absR (r0 j)) k9)), (7, .int (nI k9))]) hx hb dX1_look_85 hl (by decide) rfl (fun ls hl => ?_)
            refine lv_iload hx hb dX1_look_87 (lv_at hl 6 rfl) ?_
            refine lv_aload_n hx hb dX1_look_89 rfl (lv_at hl 4 rfl) ?_
            refine va_get (D := D) (ci := 1) (v := .ref (y 1)) (C := RX1) (T := TX1) (N := 8) hx hb hts hin1 hown hK hP 0 rfl rfl 1 (by decide) hf7 (fun _ h9 => h9) rfl dX1_look_90 ?_
            refine lv_iload hx hb dX1_look_93 (lv_at hl 7 rfl) ?_
            refine cx_iald hx hb hK hP 1 0 rfl rfl k9 (by omega) (by decide) dX1_look_95 ?_
            refine cx_if_ge (i := (r0 k9).toInt) (j := 0) (tgt := 110) hx hb rfl rfl dX1_look_96 (by decide) (fun c_31 => ?_) (fun c_31 => ?_)
            · refine lv_aload_n hx hb dX1_look_110 rfl (lv_at hl 4 rfl) ?_
              refine va_get (D := D) (ci := 1) (v := .ref (y 1)) (C := RX1) (T := TX1) (N := 8) hx hb hts hin1 hown hK hP 0 rfl rfl 1 (by decide) hf7 (fun _ h9 => h9) rfl dX1_look_111 ?_
              refine lv_iload hx hb dX1_look_114 (lv_at hl 7 rfl) ?_
              refine cx_iald hx hb hK hP 1 0 rfl rfl k9 (by omega) (by decide) dX1_look_116 ?_
              refine lv_iadd hx hb dX1_look_117 ?_
              refine lv_istore (lv' := [(6, .int ((sumI (fun j => absR (r0 j)) k9) + (r0 k9))), (5, .int ((sumI r2 k9) + (r2 k9))), (4, .int ((sumI r1 k9) + (r1 k9))), (3, .int (nI k9)), (2, .int ((cntI r0 k9) + (1 : Int32))), (0, .ref (y 0)), (1, .int q), (7, .int (nI k9))]) hx hb dX1_look_118 hl (by decide) rfl (fun ls hl => ?_)
              refine lv_iinc (v := nI (k9 + 1)) (lv' := [(7, .int (nI (k9 + 1))), (6, .int ((sumI (fun j => absR (r0 j)) k9) + (r0 k9))), (5, .int ((sumI r2 k9) + (r2 k9))), (4, .int ((sumI r1 k9) + (r1 k9))), (3, .int (nI k9)), (2, .int ((cntI r0 k9) + (1 : Int32))), (0, .ref (y 0)), (1, .int q)]) hx hb dX1_look_120 hl (k := 7) rfl (by show nI k9 + 1 = nI (k9 + 1); exact nI_add k9 1) (by decide) rfl (fun ls hl => ?_)
              refine lv_goto (tgt := 21) hx hb dX1_look_123 (by decide) ?_
              have e_32 : (cntI r0 k9) + (1 : Int32) = cntI r0 (k9 + 1) := cntI_s c_7
              rw [e_32] at hl
              have e_33 : nI k9 = lastI r0 (k9 + 1) := (lastI_s c_23).symm
              rw [e_33] at hl
              have e_34 : (sumI (fun j => absR (r0 j)) k9) + (r0 k9) = sumI (fun j => absR (r0 j)) (k9 + 1) := by show _ = sumI (fun j => absR (r0 j)) k9 + absR (r0 k9); unfold absR; rw [if_neg (by omega)]
              rw [e_34] at hl
              exact ih21 (k9 + 1) _ (by omega) (by omega) (lv_sub hl [6, 7, 5, 4, 3, 2, 1, 0] rfl)
            · refine lv_aload_n hx hb dX1_look_99 rfl (lv_at hl 4 rfl) ?_
              refine va_get (D := D) (ci := 1) (v := .ref (y 1)) (C := RX1) (T := TX1) (N := 8) hx hb hts hin1 hown hK hP 0 rfl rfl 1 (by decide) hf7 (fun _ h9 => h9) rfl dX1_look_100 ?_
              refine lv_iload hx hb dX1_look_103 (lv_at hl 7 rfl) ?_
              refine cx_iald hx hb hK hP 1 0 rfl rfl k9 (by omega) (by decide) dX1_look_105 ?_
              refine lv_ineg hx hb dX1_look_106 ?_
              refine lv_goto (tgt := 117) hx hb dX1_look_107 (by decide) ?_
              refine lv_iadd hx hb dX1_look_117 ?_
              refine lv_istore (lv' := [(6, .int ((sumI (fun j => absR (r0 j)) k9) + (-(r0 k9)))), (5, .int ((sumI r2 k9) + (r2 k9))), (4, .int ((sumI r1 k9) + (r1 k9))), (3, .int (nI k9)), (2, .int ((cntI r0 k9) + (1 : Int32))), (0, .ref (y 0)), (1, .int q), (7, .int (nI k9))]) hx hb dX1_look_118 hl (by decide) rfl (fun ls hl => ?_)
              refine lv_iinc (v := nI (k9 + 1)) (lv' := [(7, .int (nI (k9 + 1))), (6, .int ((sumI (fun j => absR (r0 j)) k9) + (-(r0 k9)))), (5, .int ((sumI r2 k9) + (r2 k9))), (4, .int ((sumI r1 k9) + (r1 k9))), (3, .int (nI k9)), (2, .int ((cntI r0 k9) + (1 : Int32))), (0, .ref (y 0)), (1, .int q)]) hx hb dX1_look_120 hl (k := 7) rfl (by show nI k9 + 1 = nI (k9 + 1); exact nI_add k9 1) (by decide) rfl (fun ls hl => ?_)
              refine lv_goto (tgt := 21) hx hb dX1_look_123 (by decide) ?_
              have e_35 : (cntI r0 k9) + (1 : Int32) = cntI r0 (k9 + 1) := cntI_s c_7
              rw [e_35] at hl
              have e_36 : nI k9 = lastI r0 (k9 + 1) := (lastI_s c_23).symm
              rw [e_36] at hl
              have e_37 : (sumI (fun j => absR (r0 j)) k9) + (-(r0 k9)) = sumI (fun j => absR (r0 j)) (k9 + 1) := by show _ = sumI (fun j => absR (r0 j)) k9 + absR (r0 k9); unfold absR; rw [if_pos (by omega)]
              rw [e_37] at hl
              exact ih21 (k9 + 1) _ (by omega) (by omega) (lv_sub hl [6, 7, 5, 4, 3, 2, 1, 0] rfl)
  exact L21 _ 0 _ (Nat.lt_succ_self _) (Nat.zero_le _) (lv_sub hl [6, 7, 5, 4, 3, 2, 1, 0] rfl)
