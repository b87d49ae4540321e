theorem cx_nz {nn sp : Nat} (h0 : nn ≤ 8) (h1 : (nn = 1 ∧ sp = 8) ∨ (nn = 2 ∧ sp = 4) ∨ (nn = 4 ∧ sp = 2) ∨ (nn = 8 ∧ sp = 1)) : ¬ nI nn = 0 := nI_ne0 (by omega) (by omega)
theorem cx_spl {nn sp : Nat} (h1 : (nn = 1 ∧ sp = 8) ∨ (nn = 2 ∧ sp = 4) ∨ (nn = 4 ∧ sp = 2) ∨ (nn = 8 ∧ sp = 1)) : sp ≤ 8 := by omega
theorem cx_8n {nn sp : Nat} (h0 : nn ≤ 8) (h1 : (nn = 1 ∧ sp = 8) ∨ (nn = 2 ∧ sp = 4) ∨ (nn = 4 ∧ sp = 2) ∨ (nn = 8 ∧ sp = 1)) : (8 : Int32) / nI nn = nI sp := by
  rcases h1 with ⟨rfl, rfl⟩ | ⟨rfl, rfl⟩ | ⟨rfl, rfl⟩ | ⟨rfl, rfl⟩ <;> decide +kernel
theorem szOk_cases {q : Int32} (h : szOk q) : ∃ nn sp : Nat, q = nI nn ∧ ((nn = 1 ∧ sp = 8) ∨ (nn = 2 ∧ sp = 4) ∨ (nn = 4 ∧ sp = 2) ∨ (nn = 8 ∧ sp = 1)) := by
  rcases h with h | h | h | h
  · exact ⟨1, 8, Int32.toInt_inj.mp (h.trans (by decide +kernel)), by omega⟩
  · exact ⟨2, 4, Int32.toInt_inj.mp (h.trans (by decide +kernel)), by omega⟩
  · exact ⟨4, 2, Int32.toInt_inj.mp (h.trans (by decide +kernel)), by omega⟩
  · exact ⟨8, 1, Int32.toInt_inj.mp (h.trans (by decide +kernel)), by omega⟩
theorem dX1_isPlace_0 : decode cX1_isPlace 0 = .ok (.iload_n 0, 1) := by decide +kernel
theorem dX1_isPlace_1 : decode cX1_isPlace 1 = .ok (.ifCond .lt 13, 3) := by decide +kernel
theorem dX1_isPlace_4 : decode cX1_isPlace 4 = .ok (.iload_n 0, 1) := by decide +kernel
theorem dX1_isPlace_5 : decode cX1_isPlace 5 = .ok (.bipush 64, 2) := by decide +kernel
theorem dX1_isPlace_7 : decode cX1_isPlace 7 = .ok (.if_icmp .ge 7, 3) := by decide +kernel
theorem dX1_isPlace_10 : decode cX1_isPlace 10 = .ok (.iconst 1, 1) := by decide +kernel
theorem dX1_isPlace_11 : decode cX1_isPlace 11 = .ok (.goto 4, 3) := by decide +kernel
theorem dX1_isPlace_14 : decode cX1_isPlace 14 = .ok (.iconst 0, 1) := by decide +kernel
theorem dX1_isPlace_15 : decode cX1_isPlace 15 = .ok (.ireturn, 1) := by decide +kernel
theorem dX1_isSize_0 : decode cX1_isSize 0 = .ok (.iload_n 0, 1) := by decide +kernel
theorem dX1_isSize_1 : decode cX1_isSize 1 = .ok (.iconst 1, 1) := by decide +kernel
theorem dX1_isSize_2 : decode cX1_isSize 2 = .ok (.if_icmp .eq 19, 3) := by decide +kernel
theorem dX1_isSize_5 : decode cX1_isSize 5 = .ok (.iload_n 0, 1) := by decide +kernel
theorem dX1_isSize_6 : decode cX1_isSize 6 = .ok (.iconst 2, 1) := by decide +kernel
theorem dX1_isSize_7 : decode cX1_isSize 7 = .ok (.if_icmp .eq 14, 3) := by decide +kernel
theorem dX1_isSize_10 : decode cX1_isSize 10 = .ok (.iload_n 0, 1) := by decide +kernel
theorem dX1_isSize_11 : decode cX1_isSize 11 = .ok (.iconst 4, 1) := by decide +kernel
theorem dX1_isSize_12 : decode cX1_isSize 12 = .ok (.if_icmp .eq 9, 3) := by decide +kernel
theorem dX1_isSize_15 : decode cX1_isSize 15 = .ok (.iload_n 0, 1) := by decide +kernel
theorem dX1_isSize_16 : decode cX1_isSize 16 = .ok (.bipush 8, 2) := by decide +kernel
theorem dX1_isSize_18 : decode cX1_isSize 18 = .ok (.if_icmp .ne 7, 3) := by decide +kernel
theorem dX1_isSize_21 : decode cX1_isSize 21 = .ok (.iconst 1, 1) := by decide +kernel
theorem dX1_isSize_22 : decode cX1_isSize 22 = .ok (.goto 4, 3) := by decide +kernel
theorem dX1_isSize_25 : decode cX1_isSize 25 = .ok (.iconst 0, 1) := by decide +kernel
theorem dX1_isSize_26 : decode cX1_isSize 26 = .ok (.ireturn, 1) := by decide +kernel
theorem dX1_k_0 : decode cX1_k 0 = .ok (.iload_n 0, 1) := by decide +kernel
theorem dX1_k_1 : decode cX1_k 1 = .ok (.tableswitch 79 0 7 #[47, 51, 55, 59, 63, 67, 71, 75], 47) := by decide +kernel
theorem dX1_k_48 : decode cX1_k 48 = .ok (.sipush 8192, 3) := by decide +kernel
theorem dX1_k_51 : decode cX1_k 51 = .ok (.ireturn, 1) := by decide +kernel
theorem dX1_k_52 : decode cX1_k 52 = .ok (.sipush 8035, 3) := by decide +kernel
theorem dX1_k_55 : decode cX1_k 55 = .ok (.ireturn, 1) := by decide +kernel
theorem dX1_k_56 : decode cX1_k 56 = .ok (.sipush 7568, 3) := by decide +kernel
theorem dX1_k_59 : decode cX1_k 59 = .ok (.ireturn, 1) := by decide +kernel
theorem dX1_k_60 : decode cX1_k 60 = .ok (.sipush 6811, 3) := by decide +kernel
theorem dX1_k_63 : decode cX1_k 63 = .ok (.ireturn, 1) := by decide +kernel
theorem dX1_k_64 : decode cX1_k 64 = .ok (.sipush 5793, 3) := by decide +kernel
theorem dX1_k_67 : decode cX1_k 67 = .ok (.ireturn, 1) := by decide +kernel
theorem dX1_k_68 : decode cX1_k 68 = .ok (.sipush 4551, 3) := by decide +kernel
theorem dX1_k_71 : decode cX1_k 71 = .ok (.ireturn, 1) := by decide +kernel
theorem dX1_k_72 : decode cX1_k 72 = .ok (.sipush 3135, 3) := by decide +kernel
theorem dX1_k_75 : decode cX1_k 75 = .ok (.ireturn, 1) := by decide +kernel
theorem dX1_k_76 : decode cX1_k 76 = .ok (.sipush 1598, 3) := by decide +kernel
theorem dX1_k_79 : decode cX1_k 79 = .ok (.ireturn, 1) := by decide +kernel
theorem dX1_k_80 : decode cX1_k 80 = .ok (.iconst 0, 1) := by decide +kernel
theorem dX1_k_81 : decode cX1_k 81 = .ok (.ireturn, 1) := by decide +kernel
theorem dX1_waveOf_0 : decode cX1_waveOf 0 = .ok (.iconst 2, 1) := by decide +kernel
theorem dX1_waveOf_1 : decode cX1_waveOf 1 = .ok (.iload_n 2, 1) := by decide +kernel
theorem dX1_waveOf_2 : decode cX1_waveOf 2 = .ok (.imul, 1) := by decide +kernel
theorem dX1_waveOf_3 : decode cX1_waveOf 3 = .ok (.iconst 1, 1) := by decide +kernel
theorem dX1_waveOf_4 : decode cX1_waveOf 4 = .ok (.iadd, 1) := by decide +kernel
theorem dX1_waveOf_5 : decode cX1_waveOf 5 = .ok (.iload_n 1, 1) := by decide +kernel
theorem dX1_waveOf_6 : decode cX1_waveOf 6 = .ok (.imul, 1) := by decide +kernel
theorem dX1_waveOf_7 : decode cX1_waveOf 7 = .ok (.bipush 8, 2) := by decide +kernel
theorem dX1_waveOf_9 : decode cX1_waveOf 9 = .ok (.iload_n 0, 1) := by decide +kernel
theorem dX1_waveOf_10 : decode cX1_waveOf 10 = .ok (.idiv, 1) := by decide +kernel
theorem dX1_waveOf_11 : decode cX1_waveOf 11 = .ok (.imul, 1) := by decide +kernel
theorem dX1_waveOf_12 : decode cX1_waveOf 12 = .ok (.bipush 32, 2) := by decide +kernel
theorem dX1_waveOf_14 : decode cX1_waveOf 14 = .ok (.irem, 1) := by decide +kernel
theorem dX1_waveOf_15 : decode cX1_waveOf 15 = .ok (.istore_n 3, 1) := by decide +kernel
theorem dX1_waveOf_16 : decode cX1_waveOf 16 = .ok (.iload_n 1, 1) := by decide +kernel
theorem dX1_waveOf_17 : decode cX1_waveOf 17 = .ok (.ifCond .ne 10, 3) := by decide +kernel
theorem dX1_waveOf_20 : decode cX1_waveOf 20 = .ok (.iconst 4, 1) := by decide +kernel
theorem dX1_waveOf_21 : decode cX1_waveOf 21 = .ok (.invokestatic 36, 3) := by decide +kernel
theorem dX1_waveOf_24 : decode cX1_waveOf 24 = .ok (.goto 57, 3) := by decide +kernel
theorem dX1_waveOf_27 : decode cX1_waveOf 27 = .ok (.iload_n 3, 1) := by decide +kernel
theorem dX1_waveOf_28 : decode cX1_waveOf 28 = .ok (.bipush 9, 2) := by decide +kernel
theorem dX1_waveOf_30 : decode cX1_waveOf 30 = .ok (.if_icmp .ge 10, 3) := by decide +kernel
theorem dX1_waveOf_33 : decode cX1_waveOf 33 = .ok (.iload_n 3, 1) := by decide +kernel
theorem dX1_waveOf_34 : decode cX1_waveOf 34 = .ok (.invokestatic 36, 3) := by decide +kernel
theorem dX1_waveOf_37 : decode cX1_waveOf 37 = .ok (.goto 44, 3) := by decide +kernel
theorem dX1_waveOf_40 : decode cX1_waveOf 40 = .ok (.iload_n 3, 1) := by decide +kernel
theorem dX1_waveOf_41 : decode cX1_waveOf 41 = .ok (.bipush 17, 2) := by decide +kernel
theorem dX1_waveOf_43 : decode cX1_waveOf 43 = .ok (.if_icmp .ge 14, 3) := by decide +kernel
theorem dX1_waveOf_46 : decode cX1_waveOf 46 = .ok (.bipush 16, 2) := by decide +kernel
theorem dX1_waveOf_48 : decode cX1_waveOf 48 = .ok (.iload_n 3, 1) := by decide +kernel
theorem dX1_waveOf_49 : decode cX1_waveOf 49 = .ok (.isub, 1) := by decide +kernel
theorem dX1_waveOf_50 : decode cX1_waveOf 50 = .ok (.invokestatic 36, 3) := by decide +kernel
theorem dX1_waveOf_53 : decode cX1_waveOf 53 = .ok (.ineg, 1) := by decide +kernel
theorem dX1_waveOf_54 : decode cX1_waveOf 54 = .ok (.goto 27, 3) := by decide +kernel
theorem dX1_waveOf_57 : decode cX1_waveOf 57 = .ok (.iload_n 3, 1) := by decide +kernel
theorem dX1_waveOf_58 : decode cX1_waveOf 58 = .ok (.bipush 25, 2) := by decide +kernel
theorem dX1_waveOf_60 : decode cX1_waveOf 60 = .ok (.if_icmp .ge 14, 3) := by decide +kernel
theorem dX1_waveOf_63 : decode cX1_waveOf 63 = .ok (.iload_n 3, 1) := by decide +kernel
theorem dX1_waveOf_64 : decode cX1_waveOf 64 = .ok (.bipush 16, 2) := by decide +kernel
theorem dX1_waveOf_66 : decode cX1_waveOf 66 = .ok (.isub, 1) := by decide +kernel
theorem dX1_waveOf_67 : decode cX1_waveOf 67 = .ok (.invokestatic 36, 3) := by decide +kernel
theorem dX1_waveOf_70 : decode cX1_waveOf 70 = .ok (.ineg, 1) := by decide +kernel
theorem dX1_waveOf_71 : decode cX1_waveOf 71 = .ok (.goto 10, 3) := by decide +kernel
theorem dX1_waveOf_74 : decode cX1_waveOf 74 = .ok (.bipush 32, 2) := by decide +kernel
theorem dX1_waveOf_76 : decode cX1_waveOf 76 = .ok (.iload_n 3, 1) := by decide +kernel
theorem dX1_waveOf_77 : decode cX1_waveOf 77 = .ok (.isub, 1) := by decide +kernel
theorem dX1_waveOf_78 : decode cX1_waveOf 78 = .ok (.invokestatic 36, 3) := by decide +kernel
theorem dX1_waveOf_81 : decode cX1_waveOf 81 = .ok (.ireturn, 1) := by decide +kernel
theorem dX1_round_0 : decode cX1_round 0 = .ok (.lload_n 0, 1) := by decide +kernel
theorem dX1_round_1 : decode cX1_round 1 = .ok (.lconst 1, 1) := by decide +kernel
theorem dX1_round_2 : decode cX1_round 2 = .ok (.iload_n 2, 1) := by decide +kernel
theorem dX1_round_3 : decode cX1_round 3 = .ok (.iconst 1, 1) := by decide +kernel
theorem dX1_round_4 : decode cX1_round 4 = .ok (.isub, 1) := by decide +kernel
theorem dX1_round_5 : decode cX1_round 5 = .ok (.lshl, 1) := by decide +kernel
theorem dX1_round_6 : decode cX1_round 6 = .ok (.ladd, 1) := by decide +kernel
theorem dX1_round_7 : decode cX1_round 7 = .ok (.iload_n 2, 1) := by decide +kernel
theorem dX1_round_8 : decode cX1_round 8 = .ok (.lshr, 1) := by decide +kernel
theorem dX1_round_9 : decode cX1_round 9 = .ok (.lreturn, 1) := by decide +kernel
theorem dX1_thrown_0 : decode cX1_thrown 0 = .ok (.aload_n 0, 1) := by decide +kernel
theorem dX1_thrown_1 : decode cX1_thrown 1 = .ok (.getfield 32, 3) := by decide +kernel
theorem dX1_thrown_4 : decode cX1_thrown 4 = .ok (.ireturn, 1) := by decide +kernel
theorem dX1_orderOf_0 : decode cX1_orderOf 0 = .ok (.iconst (-1), 1) := by decide +kernel
theorem dX1_orderOf_1 : decode cX1_orderOf 1 = .ok (.istore_n 3, 1) := by decide +kernel
theorem dX1_orderOf_2 : decode cX1_orderOf 2 = .ok (.iconst 0, 1) := by decide +kernel
theorem dX1_orderOf_3 : decode cX1_orderOf 3 = .ok (.istore 4, 2) := by decide +kernel
theorem dX1_orderOf_5 : decode cX1_orderOf 5 = .ok (.iload 4, 2) := by decide +kernel
theorem dX1_orderOf_7 : decode cX1_orderOf 7 = .ok (.bipush 64, 2) := by decide +kernel
theorem dX1_orderOf_9 : decode cX1_orderOf 9 = .ok (.if_icmp .ge 38, 3) := by decide +kernel
theorem dX1_orderOf_12 : decode cX1_orderOf 12 = .ok (.aload_n 0, 1) := by decide +kernel
theorem dX1_orderOf_13 : decode cX1_orderOf 13 = .ok (.getfield 22, 3) := by decide +kernel
theorem dX1_orderOf_16 : decode cX1_orderOf 16 = .ok (.iload 4, 2) := by decide +kernel
theorem dX1_orderOf_18 : decode cX1_orderOf 18 = .ok (.iaload, 1) := by decide +kernel
theorem dX1_orderOf_19 : decode cX1_orderOf 19 = .ok (.iload_n 1, 1) := by decide +kernel
theorem dX1_orderOf_20 : decode cX1_orderOf 20 = .ok (.if_icmp .ne 19, 3) := by decide +kernel
theorem dX1_orderOf_23 : decode cX1_orderOf 23 = .ok (.aload_n 0, 1) := by decide +kernel
theorem dX1_orderOf_24 : decode cX1_orderOf 24 = .ok (.getfield 25, 3) := by decide +kernel
theorem dX1_orderOf_27 : decode cX1_orderOf 27 = .ok (.iload 4, 2) := by decide +kernel
theorem dX1_orderOf_29 : decode cX1_orderOf 29 = .ok (.iaload, 1) := by decide +kernel
theorem dX1_orderOf_30 : decode cX1_orderOf 30 = .ok (.iload_n 2, 1) := by decide +kernel
theorem dX1_orderOf_31 : decode cX1_orderOf 31 = .ok (.if_icmp .ne 8, 3) := by decide +kernel
theorem dX1_orderOf_34 : decode cX1_orderOf 34 = .ok (.iload 4, 2) := by decide +kernel
theorem dX1_orderOf_36 : decode cX1_orderOf 36 = .ok (.goto 4, 3) := by decide +kernel
theorem dX1_orderOf_39 : decode cX1_orderOf 39 = .ok (.iload_n 3, 1) := by decide +kernel
theorem dX1_orderOf_40 : decode cX1_orderOf 40 = .ok (.istore_n 3, 1) := by decide +kernel
theorem dX1_orderOf_41 : decode cX1_orderOf 41 = .ok (.iinc 4 1, 3) := by decide +kernel
theorem dX1_orderOf_44 : decode cX1_orderOf 44 = .ok (.goto (-39), 3) := by decide +kernel
theorem dX1_orderOf_47 : decode cX1_orderOf 47 = .ok (.iload_n 3, 1) := by decide +kernel
theorem dX1_orderOf_48 : decode cX1_orderOf 48 = .ok (.ireturn, 1) := by decide +kernel
theorem dX1_column_0 : decode cX1_column 0 = .ok (.lconst 0, 1) := by decide +kernel
theorem dX1_column_1 : decode cX1_column 1 = .ok (.lstore 4, 2) := by decide +kernel
theorem dX1_column_3 : decode cX1_column 3 = .ok (.iconst 0, 1) := by decide +kernel
theorem dX1_column_4 : decode cX1_column 4 = .ok (.istore 6, 2) := by decide +kernel
theorem dX1_column_6 : decode cX1_column 6 = .ok (.iload 6, 2) := by decide +kernel
theorem dX1_column_8 : decode cX1_column 8 = .ok (.iload_n 1, 1) := by decide +kernel
theorem dX1_column_9 : decode cX1_column 9 = .ok (.if_icmp .ge 49, 3) := by decide +kernel
theorem dX1_column_12 : decode cX1_column 12 = .ok (.aload_n 0, 1) := by decide +kernel
theorem dX1_column_13 : decode cX1_column 13 = .ok (.iload 6, 2) := by decide +kernel
theorem dX1_column_15 : decode cX1_column 15 = .ok (.iload_n 3, 1) := by decide +kernel
theorem dX1_column_16 : decode cX1_column 16 = .ok (.invokevirtual 46, 3) := by decide +kernel
theorem dX1_column_19 : decode cX1_column 19 = .ok (.istore 7, 2) := by decide +kernel
theorem dX1_column_21 : decode cX1_column 21 = .ok (.lload 4, 2) := by decide +kernel
theorem dX1_column_23 : decode cX1_column 23 = .ok (.iload_n 1, 1) := by decide +kernel
theorem dX1_column_24 : decode cX1_column 24 = .ok (.iload 6, 2) := by decide +kernel
theorem dX1_column_26 : decode cX1_column 26 = .ok (.iload_n 2, 1) := by decide +kernel
theorem dX1_column_27 : decode cX1_column 27 = .ok (.invokestatic 50, 3) := by decide +kernel
theorem dX1_column_30 : decode cX1_column 30 = .ok (.i2l, 1) := by decide +kernel
theorem dX1_column_31 : decode cX1_column 31 = .ok (.aload_n 0, 1) := by decide +kernel
theorem dX1_column_32 : decode cX1_column 32 = .ok (.getfield 7, 3) := by decide +kernel
theorem dX1_column_35 : decode cX1_column 35 = .ok (.iload 7, 2) := by decide +kernel
theorem dX1_column_37 : decode cX1_column 37 = .ok (.iaload, 1) := by decide +kernel
theorem dX1_column_38 : decode cX1_column 38 = .ok (.i2l, 1) := by decide +kernel
theorem dX1_column_39 : decode cX1_column 39 = .ok (.lmul, 1) := by decide +kernel
theorem dX1_column_40 : decode cX1_column 40 = .ok (.aload_n 0, 1) := by decide +kernel
theorem dX1_column_41 : decode cX1_column 41 = .ok (.getfield 13, 3) := by decide +kernel
theorem dX1_column_44 : decode cX1_column 44 = .ok (.iload 7, 2) := by decide +kernel
theorem dX1_column_46 : decode cX1_column 46 = .ok (.iaload, 1) := by decide +kernel
theorem dX1_column_47 : decode cX1_column 47 = .ok (.i2l, 1) := by decide +kernel
theorem dX1_column_48 : decode cX1_column 48 = .ok (.lmul, 1) := by decide +kernel
theorem dX1_column_49 : decode cX1_column 49 = .ok (.ladd, 1) := by decide +kernel
theorem dX1_column_50 : decode cX1_column 50 = .ok (.lstore 4, 2) := by decide +kernel
theorem dX1_column_52 : decode cX1_column 52 = .ok (.iinc 6 1, 3) := by decide +kernel
theorem dX1_column_55 : decode cX1_column 55 = .ok (.goto (-49), 3) := by decide +kernel
theorem dX1_column_58 : decode cX1_column 58 = .ok (.lload 4, 2) := by decide +kernel
theorem dX1_column_60 : decode cX1_column 60 = .ok (.bipush 11, 2) := by decide +kernel
theorem dX1_column_62 : decode cX1_column 62 = .ok (.invokestatic 54, 3) := by decide +kernel
theorem dX1_column_65 : decode cX1_column 65 = .ok (.lreturn, 1) := by decide +kernel
theorem dX1_exactOf_0 : decode cX1_exactOf 0 = .ok (.lconst 0, 1) := by decide +kernel
theorem dX1_exactOf_1 : decode cX1_exactOf 1 = .ok (.lstore_n 3, 1) := by decide +kernel
theorem dX1_exactOf_2 : decode cX1_exactOf 2 = .ok (.iconst 0, 1) := by decide +kernel
theorem dX1_exactOf_3 : decode cX1_exactOf 3 = .ok (.istore 5, 2) := by decide +kernel
theorem dX1_exactOf_5 : decode cX1_exactOf 5 = .ok (.iload 5, 2) := by decide +kernel
theorem dX1_exactOf_7 : decode cX1_exactOf 7 = .ok (.bipush 8, 2) := by decide +kernel
theorem dX1_exactOf_9 : decode cX1_exactOf 9 = .ok (.if_icmp .ge 81, 3) := by decide +kernel
theorem dX1_exactOf_12 : decode cX1_exactOf 12 = .ok (.lconst 0, 1) := by decide +kernel
theorem dX1_exactOf_13 : decode cX1_exactOf 13 = .ok (.lstore 6, 2) := by decide +kernel
theorem dX1_exactOf_15 : decode cX1_exactOf 15 = .ok (.iconst 0, 1) := by decide +kernel
theorem dX1_exactOf_16 : decode cX1_exactOf 16 = .ok (.istore 8, 2) := by decide +kernel
theorem dX1_exactOf_18 : decode cX1_exactOf 18 = .ok (.iload 8, 2) := by decide +kernel
theorem dX1_exactOf_20 : decode cX1_exactOf 20 = .ok (.bipush 8, 2) := by decide +kernel
theorem dX1_exactOf_22 : decode cX1_exactOf 22 = .ok (.if_icmp .ge 42, 3) := by decide +kernel
theorem dX1_exactOf_25 : decode cX1_exactOf 25 = .ok (.lload 6, 2) := by decide +kernel
theorem dX1_exactOf_27 : decode cX1_exactOf 27 = .ok (.bipush 8, 2) := by decide +kernel
theorem dX1_exactOf_29 : decode cX1_exactOf 29 = .ok (.iload_n 1, 1) := by decide +kernel
theorem dX1_exactOf_30 : decode cX1_exactOf 30 = .ok (.iload 8, 2) := by decide +kernel
theorem dX1_exactOf_32 : decode cX1_exactOf 32 = .ok (.invokestatic 50, 3) := by decide +kernel
theorem dX1_exactOf_35 : decode cX1_exactOf 35 = .ok (.i2l, 1) := by decide +kernel
theorem dX1_exactOf_36 : decode cX1_exactOf 36 = .ok (.aload_n 0, 1) := by decide +kernel
theorem dX1_exactOf_37 : decode cX1_exactOf 37 = .ok (.getfield 16, 3) := by decide +kernel
theorem dX1_exactOf_40 : decode cX1_exactOf 40 = .ok (.bipush 8, 2) := by decide +kernel
theorem dX1_exactOf_42 : decode cX1_exactOf 42 = .ok (.iload 8, 2) := by decide +kernel
theorem dX1_exactOf_44 : decode cX1_exactOf 44 = .ok (.imul, 1) := by decide +kernel
theorem dX1_exactOf_45 : decode cX1_exactOf 45 = .ok (.iload 5, 2) := by decide +kernel
theorem dX1_exactOf_47 : decode cX1_exactOf 47 = .ok (.iadd, 1) := by decide +kernel
theorem dX1_exactOf_48 : decode cX1_exactOf 48 = .ok (.iaload, 1) := by decide +kernel
theorem dX1_exactOf_49 : decode cX1_exactOf 49 = .ok (.sipush 128, 3) := by decide +kernel
theorem dX1_exactOf_52 : decode cX1_exactOf 52 = .ok (.isub, 1) := by decide +kernel
theorem dX1_exactOf_53 : decode cX1_exactOf 53 = .ok (.i2l, 1) := by decide +kernel
theorem dX1_exactOf_54 : decode cX1_exactOf 54 = .ok (.lmul, 1) := by decide +kernel
theorem dX1_exactOf_55 : decode cX1_exactOf 55 = .ok (.ladd, 1) := by decide +kernel
theorem dX1_exactOf_56 : decode cX1_exactOf 56 = .ok (.lstore 6, 2) := by decide +kernel
theorem dX1_exactOf_58 : decode cX1_exactOf 58 = .ok (.iinc 8 1, 3) := by decide +kernel
theorem dX1_exactOf_61 : decode cX1_exactOf 61 = .ok (.goto (-43), 3) := by decide +kernel
theorem dX1_exactOf_64 : decode cX1_exactOf 64 = .ok (.lload_n 3, 1) := by decide +kernel
theorem dX1_exactOf_65 : decode cX1_exactOf 65 = .ok (.bipush 8, 2) := by decide +kernel
theorem dX1_exactOf_67 : decode cX1_exactOf 67 = .ok (.iload_n 2, 1) := by decide +kernel
theorem dX1_exactOf_68 : decode cX1_exactOf 68 = .ok (.iload 5, 2) := by decide +kernel
theorem dX1_exactOf_70 : decode cX1_exactOf 70 = .ok (.invokestatic 50, 3) := by decide +kernel
theorem dX1_exactOf_73 : decode cX1_exactOf 73 = .ok (.i2l, 1) := by decide +kernel
theorem dX1_exactOf_74 : decode cX1_exactOf 74 = .ok (.lload 6, 2) := by decide +kernel
theorem dX1_exactOf_76 : decode cX1_exactOf 76 = .ok (.bipush 11, 2) := by decide +kernel
theorem dX1_exactOf_78 : decode cX1_exactOf 78 = .ok (.invokestatic 54, 3) := by decide +kernel
theorem dX1_exactOf_81 : decode cX1_exactOf 81 = .ok (.lmul, 1) := by decide +kernel
theorem dX1_exactOf_82 : decode cX1_exactOf 82 = .ok (.ladd, 1) := by decide +kernel
theorem dX1_exactOf_83 : decode cX1_exactOf 83 = .ok (.lstore_n 3, 1) := by decide +kernel
theorem dX1_exactOf_84 : decode cX1_exactOf 84 = .ok (.iinc 5 1, 3) := by decide +kernel
theorem dX1_exactOf_87 : decode cX1_exactOf 87 = .ok (.goto (-82), 3) := by decide +kernel
theorem dX1_exactOf_90 : decode cX1_exactOf 90 = .ok (.lload_n 3, 1) := by decide +kernel
theorem dX1_exactOf_91 : decode cX1_exactOf 91 = .ok (.bipush 17, 2) := by decide +kernel
theorem dX1_exactOf_93 : decode cX1_exactOf 93 = .ok (.invokestatic 54, 3) := by decide +kernel
theorem dX1_exactOf_96 : decode cX1_exactOf 96 = .ok (.lreturn, 1) := by decide +kernel
set_option maxHeartbeats 4000000 in
set_option maxRecDepth 100000 in
/-- the reference: isPlace -/
theorem n_isPlace (l : Launch) (D : va_G) (q : Int32) : Met l yX1_isPlace wsX1_isPlace ({ frames := 0, cells := 0, slots := 0, locals := 0 } : Room) (va_Pc [.int q] (cro D ([]) ([]))) (vp_Si (fun r => (r = 1 ∧ 0 ≤ q.toInt ∧ q.toInt < 64) ∨ (r = 0 ∧ ¬ (0 ≤ q.toInt ∧ q.toInt < 64)))) 0 0 (fun _ => False) := by
  refine Met.ofW (cc := cX1_isPlace) (maxL := 1) (ret := some .boolean) (by decide) rfl ?_
  intro p e s m args below meth c s₁ B hml hv
  obtain ⟨rfl, hP, hK, hTb⟩ := hv
  have hx := B.exec
  have hb := B.bytes
  have hr := B.returns
  have hts : ∀ w ∈ wA, w.before _ s = true := fun w h => atoms_spec (ws := wsX1_isPlace) B.pre w (List.mem_cons_of_mem _ h)
  have hown : s.vm.findClass RX1 = some m.cls := findClass_of_methodNamed B.named
  have hlocks := B.notSynchronized
  have hS : va_S (fun _ => False) s.heap s.heap [] := va_S.rf
  have hl := lv_entry ([.int q]) (n := 1) (Nat.le_of_ble_eq_true rfl)
  rw [lg_entry_eq]
  generalize (lg_sl ([.int q]) ++ List.replicate (1 - (lg_sl ([.int q])).length) Slot.unset).toArray = ls at hl ⊢
  have hl : lv_has ls 1 [(0, .int q)] := hl
  refine lv_iload_n hx hb dX1_isPlace_0 rfl (lv_at hl 0 rfl) ?_
  refine cx_if_lt (i := q.toInt) (j := 0) (tgt := 14) hx hb rfl rfl dX1_isPlace_1 (by decide) (fun c_1 => ?_) (fun c_1 => ?_)
  · refine lv_iconst (v := (0 : Int32)) hx hb dX1_isPlace_14 (by decide +kernel) ?_
    exact W.zret (v := (0 : Int32)) (ty := .boolean) hx hb hr (by decide) (fun t ht hW => ⟨_, rfl, Or.inr ⟨rfl, by omega⟩, ht⟩) (fun _ h9 => by cases h9) dX1_isPlace_15
  · refine lv_iload_n hx hb dX1_isPlace_4 rfl (lv_at hl 0 rfl) ?_
    refine lv_bipush (v := (64 : Int32)) hx hb dX1_isPlace_5 (by decide +kernel) ?_
    refine cx_icmp_ge (i := q.toInt) (j := 64) (tgt := 14) hx hb rfl (by decide +kernel) dX1_isPlace_7 (by decide) (fun c_2 => ?_) (fun c_2 => ?_)
    · refine lv_iconst (v := (0 : Int32)) hx hb dX1_isPlace_14 (by decide +kernel) ?_
      exact W.zret (v := (0 : Int32)) (ty := .boolean) hx hb hr (by decide) (fun t ht hW => ⟨_, rfl, Or.inr ⟨rfl, by omega⟩, ht⟩) (fun _ h9 => by cases h9) dX1_isPlace_15
    · refine lv_iconst (v := (1 : Int32)) hx hb dX1_isPlace_10 (by decide +kernel) ?_
      refine lv_goto (tgt := 15) hx hb dX1_isPlace_11 (by decide) ?_
      exact W.zret (v := (1 : Int32)) (ty := .boolean) hx hb hr (by decide) (fun t ht hW => ⟨_, rfl, Or.inl ⟨rfl, by omega, by omega⟩, ht⟩) (fun _ h9 => by cases h9) dX1_isPlace_15
set_option maxHeartbeats 4000000 in
set_option maxRecDepth 100000 in
/-- the reference: isSize -/
theorem n_isSize (l : Launch) (D : va_G) (q : Int32) : Met l yX1_isSize wsX1_isSize ({ frames := 0, cells := 0, slots := 0, locals := 0 } : Room) (va_Pc [.int q] (cro D ([]) ([]))) (vp_Si (fun r => (r = 1 ∧ szOk q) ∨ (r = 0 ∧ ¬ szOk q))) 0 0 (fun _ => False) := by
  refine Met.ofW (cc := cX1_isSize) (maxL := 1) (ret := some .boolean) (by decide) rfl ?_
  intro p e s m args below meth c s₁ B hml hv
  obtain ⟨rfl, hP, hK, hTb⟩ := hv
  have hx := B.exec
  have hb := B.bytes
  have hr := B.returns
  have hts : ∀ w ∈ wA, w.before _ s = true := fun w h => atoms_spec (ws := wsX1_isSize) B.pre w (List.mem_cons_of_mem _ h)
  have hown : s.vm.findClass RX1 = some m.cls := findClass_of_methodNamed B.named
  have hlocks := B.notSynchronized
  have hS : va_S (fun _ => False) s.heap s.heap [] := va_S.rf
  have hl := lv_entry ([.int q]) (n := 1) (Nat.le_of_ble_eq_true rfl)
  rw [lg_entry_eq]
  generalize (lg_sl ([.int q]) ++ List.replicate (1 - (lg_sl ([.int q])).length) Slot.unset).toArray = ls at hl ⊢
  have hl : lv_has ls 1 [(0, .int q)] := hl
  refine lv_iload_n hx hb dX1_isSize_0 rfl (lv_at hl 0 rfl) ?_
  refine lv_iconst (v := (1 : Int32)) hx hb dX1_isSize_1 (by decide +kernel) ?_
  refine cx_icmp_eq (i := q.toInt) (j := 1) (tgt := 21) hx hb rfl (by decide +kernel) dX1_isSize_2 (by decide) (fun c_1 => ?_) (fun c_1 => ?_)
  · refine lv_iconst (v := (1 : Int32)) hx hb dX1_isSize_21 (by decide +kernel) ?_
    refine lv_goto (tgt := 26) hx hb dX1_isSize_22 (by decide) ?_
    exact W.zret (v := (1 : Int32)) (ty := .boolean) hx hb hr (by decide) (fun t ht hW => ⟨_, rfl, Or.inl ⟨rfl, by unfold szOk; omega⟩, ht⟩) (fun _ h9 => by cases h9) dX1_isSize_26
  · refine lv_iload_n hx hb dX1_isSize_5 rfl (lv_at hl 0 rfl) ?_
    refine lv_iconst (v := (2 : Int32)) hx hb dX1_isSize_6 (by decide +kernel) ?_
    refine cx_icmp_eq (i := q.toInt) (j := 2) (tgt := 21) hx hb rfl (by decide +kernel) dX1_isSize_7 (by decide) (fun c_2 => ?_) (fun c_2 => ?_)
    · refine lv_iconst (v := (1 : Int32)) hx hb dX1_isSize_21 (by decide +kernel) ?_
      refine lv_goto (tgt := 26) hx hb dX1_isSize_22 (by decide) ?_
      exact W.zret (v := (1 : Int32)) (ty := .boolean) hx hb hr (by decide) (fun t ht hW => ⟨_, rfl, Or.inl ⟨rfl, by unfold szOk; omega⟩, ht⟩) (fun _ h9 => by cases h9) dX1_isSize_26
    · refine lv_iload_n hx hb dX1_isSize_10 rfl (lv_at hl 0 rfl) ?_
      refine lv_iconst (v := (4 : Int32)) hx hb dX1_isSize_11 (by decide +kernel) ?_
      refine cx_icmp_eq (i := q.toInt) (j := 4) (tgt := 21) hx hb rfl (by decide +kernel) dX1_isSize_12 (by decide) (fun c_3 => ?_) (fun c_3 => ?_)
      · refine lv_iconst (v := (1 : Int32)) hx hb dX1_isSize_21 (by decide +kernel) ?_
        refine lv_goto (tgt := 26) hx hb dX1_isSize_22 (by decide) ?_
        exact W.zret (v := (1 : Int32)) (ty := .boolean) hx hb hr (by decide) (fun t ht hW => ⟨_, rfl, Or.inl ⟨rfl, by unfold szOk; omega⟩, ht⟩) (fun _ h9 => by cases h9) dX1_isSize_26
      · refine lv_iload_n hx hb dX1_isSize_15 rfl (lv_at hl 0 rfl) ?_
        refine lv_bipush (v := (8 : Int32)) hx hb dX1_isSize_16 (by decide +kernel) ?_
        refine cx_icmp_ne (i := q.toInt) (j := 8) (tgt := 25) hx hb rfl (by decide +kernel) dX1_isSize_18 (by decide) (fun c_4 => ?_) (fun c_4 => ?_)
        · refine lv_iconst (v := (0 : Int32)) hx hb dX1_isSize_25 (by decide +kernel) ?_
          exact W.zret (v := (0 : Int32)) (ty := .boolean) hx hb hr (by decide) (fun t ht hW => ⟨_, rfl, Or.inr ⟨rfl, by unfold szOk; omega⟩, ht⟩) (fun _ h9 => by cases h9) dX1_isSize_26
        · refine lv_iconst (v := (1 : Int32)) hx hb dX1_isSize_21 (by decide +kernel) ?_
          refine lv_goto (tgt := 26) hx hb dX1_isSize_22 (by decide) ?_
          exact W.zret (v := (1 : Int32)) (ty := .boolean) hx hb hr (by decide) (fun t ht hW => ⟨_, rfl, Or.inl ⟨rfl, by unfold szOk; omega⟩, ht⟩) (fun _ h9 => by cases h9) dX1_isSize_26
set_option maxHeartbeats 4000000 in
set_option maxRecDepth 100000 in
/-- the reference: k -/
theorem n_k (l : Launch) (D : va_G) (j9 : Nat) (h1 : j9 ≤ 8) : Met l yX1_k wsX1_k ({ frames := 0, cells := 0, slots := 0, locals := 0 } : Room) (va_Pc [.int (nI j9)] (cro D ([]) ([]))) (vp_Si (fun r => r = cQ j9)) 0 0 (fun _ => False) := by
  refine Met.ofW (cc := cX1_k) (maxL := 1) (ret := some .int) (by decide) rfl ?_
  intro p e s m args below meth c s₁ B hml hv
  obtain ⟨rfl, hP, hK, hTb⟩ := hv
  have hx := B.exec
  have hb := B.bytes
  have hr := B.returns
  have hts : ∀ w ∈ wA, w.before _ s = true := fun w h => atoms_spec (ws := wsX1_k) B.pre w (List.mem_cons_of_mem _ h)
  have hown : s.vm.findClass RX1 = some m.cls := findClass_of_methodNamed B.named
  have hlocks := B.notSynchronized
  have hS : va_S (fun _ => False) s.heap s.heap [] := va_S.rf
  have hl := lv_entry ([.int (nI j9)]) (n := 1) (Nat.le_of_ble_eq_true rfl)
  rw [lg_entry_eq]
  generalize (lg_sl ([.int (nI j9)]) ++ List.replicate (1 - (lg_sl ([.int (nI j9)])).length) Slot.unset).toArray = ls at hl ⊢
  have hl : lv_has ls 1 [(0, .int (nI j9))] := hl
  refine lv_iload_n hx hb dX1_k_0 rfl (lv_at hl 0 rfl) ?_
  by_cases k_1 : ((j9 : Nat) : Int) < 0 ∨ 7 < ((j9 : Nat) : Int)
  · refine cx_tabO (i := ((j9 : Nat) : Int)) (tgt := 80) hx hb (nI_toInt (by omega)) dX1_k_1 k_1 (by decide) ?_
    refine lv_iconst (v := (0 : Int32)) hx hb dX1_k_80 (by decide +kernel) ?_
    exact W.iret (v := (0 : Int32)) hx hb hr (fun t ht hW => ⟨_, rfl, (by obtain rfl : j9 = 8 := (by omega); rfl), ht⟩) (fun _ h9 => by cases h9) dX1_k_81
  · have k_1 : ((j9 : Nat) : Int) = 0 ∨ ((j9 : Nat) : Int) = 1 ∨ ((j9 : Nat) : Int) = 2 ∨ ((j9 : Nat) : Int) = 3 ∨ ((j9 : Nat) : Int) = 4 ∨ ((j9 : Nat) : Int) = 5 ∨ ((j9 : Nat) : Int) = 6 ∨ ((j9 : Nat) : Int) = 7 := by omega
    rcases k_1 with k_1 | k_1 | k_1 | k_1 | k_1 | k_1 | k_1 | k_1
    · refine cx_tabI (i := ((j9 : Nat) : Int)) (off := 47) (tgt := 48) hx hb (nI_toInt (by omega)) dX1_k_1 (by omega) (by omega) (by rw [k_1]; rfl) (by decide) ?_
      refine lv_sipush (v := (8192 : Int32)) hx hb dX1_k_48 (by decide +kernel) ?_
      exact W.iret (v := (8192 : Int32)) hx hb hr (fun t ht hW => ⟨_, rfl, (by obtain rfl : j9 = 0 := (by omega); rfl), ht⟩) (fun _ h9 => by cases h9) dX1_k_51
    · refine cx_tabI (i := ((j9 : Nat) : Int)) (off := 51) (tgt := 52) hx hb (nI_toInt (by omega)) dX1_k_1 (by omega) (by omega) (by rw [k_1]; rfl) (by decide) ?_
      refine lv_sipush (v := (8035 : Int32)) hx hb dX1_k_52 (by decide +kernel) ?_
      exact W.iret (v := (8035 : Int32)) hx hb hr (fun t ht hW => ⟨_, rfl, (by obtain rfl : j9 = 1 := (by omega); rfl), ht⟩) (fun _ h9 => by cases h9) dX1_k_55
    · refine cx_tabI (i := ((j9 : Nat) : Int)) (off := 55) (tgt := 56) hx hb (nI_toInt (by omega)) dX1_k_1 (by omega) (by omega) (by rw [k_1]; rfl) (by decide) ?_
      refine lv_sipush (v := (7568 : Int32)) hx hb dX1_k_56 (by decide +kernel) ?_
      exact W.iret (v := (7568 : Int32)) hx hb hr (fun t ht hW => ⟨_, rfl, (by obtain rfl : j9 = 2 := (by omega); rfl), ht⟩) (fun _ h9 => by cases h9) dX1_k_59
    · refine cx_tabI (i := ((j9 : Nat) : Int)) (off := 59) (tgt := 60) hx hb (nI_toInt (by omega)) dX1_k_1 (by omega) (by omega) (by rw [k_1]; rfl) (by decide) ?_
      refine lv_sipush (v := (6811 : Int32)) hx hb dX1_k_60 (by decide +kernel) ?_
      exact W.iret (v := (6811 : Int32)) hx hb hr (fun t ht hW => ⟨_, rfl, (by obtain rfl : j9 = 3 := (by omega); rfl), ht⟩) (fun _ h9 => by cases h9) dX1_k_63
    · refine cx_tabI (i := ((j9 : Nat) : Int)) (off := 63) (tgt := 64) hx hb (nI_toInt (by omega)) dX1_k_1 (by omega) (by omega) (by rw [k_1]; rfl) (by decide) ?_
      refine lv_sipush (v := (5793 : Int32)) hx hb dX1_k_64 (by decide +kernel) ?_
      exact W.iret (v := (5793 : Int32)) hx hb hr (fun t ht hW => ⟨_, rfl, (by obtain rfl : j9 = 4 := (by omega); rfl), ht⟩) (fun _ h9 => by cases h9) dX1_k_67
    · refine cx_tabI (i := ((j9 : Nat) : Int)) (off := 67) (tgt := 68) hx hb (nI_toInt (by omega)) dX1_k_1 (by omega) (by omega) (by rw [k_1]; rfl) (by decide) ?_
      refine lv_sipush (v := (4551 : Int32)) hx hb dX1_k_68 (by decide +kernel) ?_
      exact W.iret (v := (4551 : Int32)) hx hb hr (fun t ht hW => ⟨_, rfl, (by obtain rfl : j9 = 5 := (by omega); rfl), ht⟩) (fun _ h9 => by cases h9) dX1_k_71
    · refine cx_tabI (i := ((j9 : Nat) : Int)) (off := 71) (tgt := 72) hx hb (nI_toInt (by omega)) dX1_k_1 (by omega) (by omega) (by rw [k_1]; rfl) (by decide) ?_
      refine lv_sipush (v := (3135 : Int32)) hx hb dX1_k_72 (by decide +kernel) ?_
      exact W.iret (v := (3135 : Int32)) hx hb hr (fun t ht hW => ⟨_, rfl, (by obtain rfl : j9 = 6 := (by omega); rfl), ht⟩) (fun _ h9 => by cases h9) dX1_k_75
    · refine cx_tabI (i := ((j9 : Nat) : Int)) (off := 75) (tgt := 76) hx hb (nI_toInt (by omega)) dX1_k_1 (by omega) (by omega) (by rw [k_1]; rfl) (by decide) ?_
      refine lv_sipush (v := (1598 : Int32)) hx hb dX1_k_76 (by decide +kernel) ?_
      exact W.iret (v := (1598 : Int32)) hx hb hr (fun t ht hW => ⟨_, rfl, (by obtain rfl : j9 = 7 := (by omega); rfl), ht⟩) (fun _ h9 => by cases h9) dX1_k_79
set_option maxHeartbeats 4000000 in
set_option maxRecDepth 100000 in
/-- the reference: waveOf -/
theorem n_waveOf (l : Launch) (D : va_G) (nn sp u9 x9 : Nat) (h0 : nn ≤ 8) (h1 : (nn = 1 ∧ sp = 8) ∨ (nn = 2 ∧ sp = 4) ∨ (nn = 4 ∧ sp = 2) ∨ (nn = 8 ∧ sp = 1)) (h2 : u9 < 8) (h3 : x9 < 8) : Met l yX1_waveOf wsX1_waveOf ({ frames := 1, cells := 0, slots := 0, locals := 20 } : Room) (va_Pc [.int (nI nn), .int (nI u9), .int (nI x9)] (cro D ([]) ([]))) (vp_Si (fun r => r = wvN sp u9 x9)) 0 0 (fun _ => False) := by
  refine Met.ofW (cc := cX1_waveOf) (maxL := 4) (ret := some .int) (by decide) rfl ?_
  intro p e s m args below meth c s₁ B hml hv
  obtain ⟨rfl, hP, hK, hTb⟩ := hv
  have hx := B.exec
  have hb := B.bytes
  have hr := B.returns
  have hts : ∀ w ∈ wA, w.before _ s = true := fun w h => atoms_spec (ws := wsX1_waveOf) B.pre w (List.mem_cons_of_mem _ h)
  have hown : s.vm.findClass RX1 = some m.cls := findClass_of_methodNamed B.named
  have hlocks := B.notSynchronized
  have hS : va_S (fun _ => False) s.heap s.heap [] := va_S.rf
  have hl := lv_entry ([.int (nI nn), .int (nI u9), .int (nI x9)]) (n := 4) (Nat.le_of_ble_eq_true rfl)
  rw [lg_entry_eq]
  generalize (lg_sl ([.int (nI nn), .int (nI u9), .int (nI x9)]) ++ List.replicate (4 - (lg_sl ([.int (nI nn), .int (nI u9), .int (nI x9)])).length) Slot.unset).toArray = ls at hl ⊢
  have hl : lv_has ls 4 [(0, .int (nI nn)), (1, .int (nI u9)), (2, .int (nI x9))] := hl
  refine lv_iconst (v := (2 : Int32)) hx hb dX1_waveOf_0 (by decide +kernel) ?_
  refine lv_iload_n hx hb dX1_waveOf_1 rfl (lv_at hl 2 rfl) ?_
  refine cx_imul hx hb 2 x9 dX1_waveOf_2 ?_
  refine lv_iconst (v := (1 : Int32)) hx hb dX1_waveOf_3 (by decide +kernel) ?_
  refine cx_iadd hx hb (2 * x9) 1 dX1_waveOf_4 ?_
  refine lv_iload_n hx hb dX1_waveOf_5 rfl (lv_at hl 1 rfl) ?_
  refine cx_imul hx hb (2 * x9 + 1) u9 dX1_waveOf_6 ?_
  refine lv_bipush (v := (8 : Int32)) hx hb dX1_waveOf_7 (by decide +kernel) ?_
  refine lv_iload_n hx hb dX1_waveOf_9 rfl (lv_at hl 0 rfl) ?_
  refine lv_idiv hx hb dX1_waveOf_10 (cx_nz h0 h1) ?_
  have e_1 : (8 : Int32) / (nI nn) = nI sp := cx_8n h0 h1
  rw [e_1]
  refine cx_imul hx hb ((2 * x9 + 1) * u9) sp dX1_waveOf_11 ?_
  refine lv_bipush (v := (32 : Int32)) hx hb dX1_waveOf_12 (by decide +kernel) ?_
  refine lv_irem hx hb dX1_waveOf_14 (by decide +kernel) ?_
  have e_2 : (nI (((2 * x9 + 1) * u9) * sp)) - (nI (((2 * x9 + 1) * u9) * sp)) / (32 : Int32) * (32 : Int32) = nI ((2 * x9 + 1) * u9 * sp % 32) := pk_rem (Nat.lt_of_le_of_lt (Nat.mul_le_mul (Nat.mul_le_mul (show 2 * x9 + 1 ≤ 15 by omega) (show u9 ≤ 7 by omega)) (cx_spl h1)) (by decide)) (by decide) (by decide)
  rw [e_2]
  refine lv_istore_n (lv' := [(3, .int (nI ((2 * x9 + 1) * u9 * sp % 32))), (0, .int (nI nn)), (1, .int (nI u9)), (2, .int (nI x9))]) hx hb dX1_waveOf_15 rfl hl (by decide) rfl (fun ls hl => ?_)
  refine lv_iload_n hx hb dX1_waveOf_16 rfl (lv_at hl 2 rfl) ?_
  refine cx_if_ne (i := ((u9 : Nat) : Int)) (j := 0) (tgt := 27) hx hb (nI_toInt (by omega)) rfl dX1_waveOf_17 (by decide) (fun c_3 => ?_) (fun c_3 => ?_)
  · refine lv_iload_n hx hb dX1_waveOf_27 rfl (lv_at hl 0 rfl) ?_
    refine lv_bipush (v := (9 : Int32)) hx hb dX1_waveOf_28 (by decide +kernel) ?_
    refine cx_icmp_ge (i := (((2 * x9 + 1) * u9 * sp % 32 : Nat) : Int)) (j := 9) (tgt := 40) hx hb (nI_toInt (by omega)) (by decide +kernel) dX1_waveOf_30 (by decide) (fun c_4 => ?_) (fun c_4 => ?_)
    · refine lv_iload_n hx hb dX1_waveOf_40 rfl (lv_at hl 0 rfl) ?_
      refine lv_bipush (v := (17 : Int32)) hx hb dX1_waveOf_41 (by decide +kernel) ?_
      refine cx_icmp_ge (i := (((2 * x9 + 1) * u9 * sp % 32 : Nat) : Int)) (j := 17) (tgt := 57) hx hb (nI_toInt (by omega)) (by decide +kernel) dX1_waveOf_43 (by decide) (fun c_5 => ?_) (fun c_5 => ?_)
      · refine lv_iload_n hx hb dX1_waveOf_57 rfl (lv_at hl 0 rfl) ?_
        refine lv_bipush (v := (25 : Int32)) hx hb dX1_waveOf_58 (by decide +kernel) ?_
        refine cx_icmp_ge (i := (((2 * x9 + 1) * u9 * sp % 32 : Nat) : Int)) (j := 25) (tgt := 74) hx hb (nI_toInt (by omega)) (by decide +kernel) dX1_waveOf_60 (by decide) (fun c_6 => ?_) (fun c_6 => ?_)
        · refine lv_bipush (v := (32 : Int32)) hx hb dX1_waveOf_74 (by decide +kernel) ?_
          refine lv_iload_n hx hb dX1_waveOf_76 rfl (lv_at hl 0 rfl) ?_
          refine cx_isub hx hb 32 ((2 * x9 + 1) * u9 * sp % 32) (by omega) dX1_waveOf_77 ?_
          refine vp_callSi (W.runS (As := [.int (nI (32 - ((2 * x9 + 1) * u9 * sp % 32)))]) (rest := []) ⟨hx, hb, hml, hown, hts⟩ (n_k l D (32 - ((2 * x9 + 1) * u9 * sp % 32)) (by omega)) (va_cwS 1 hts (gw_S wm_369 wm_370 wm_13 wm_371) rfl rfl rfl (by decide +kernel) ⟨Nat.le_of_ble_eq_true rfl, Nat.le_of_ble_eq_true rfl⟩) ⟨cro_blind, fun U hU hW => ⟨rfl, cro_at (hP.sub (ws' := []) [] rfl) (hK.sub (tys' := []) [] rfl) hTb hS hU hW⟩⟩ rfl rfl hl.1 rfl (lv_room (Nat.le_of_ble_eq_true rfl)) dX1_waveOf_78 ⟨Nat.le_of_ble_eq_true rfl, Nat.le_of_ble_eq_true rfl⟩) (fun r_7 hr_7 => ?_)
          rw [hr_7]
          exact W.iret (v := cQ (32 - ((2 * x9 + 1) * u9 * sp % 32))) hx hb hr (fun t ht hW => ⟨_, rfl, (by unfold wvN cosN; rw [if_neg (by omega), if_neg (by omega), if_neg (by omega), if_neg (by omega)]), ht⟩) (fun _ h9 => by cases h9) dX1_waveOf_81
        · refine lv_iload_n hx hb dX1_waveOf_63 rfl (lv_at hl 0 rfl) ?_
          refine lv_bipush (v := (16 : Int32)) hx hb dX1_waveOf_64 (by decide +kernel) ?_
          refine cx_isub hx hb ((2 * x9 + 1) * u9 * sp % 32) 16 (by omega) dX1_waveOf_66 ?_
          refine vp_callSi (W.runS (As := [.int (nI (((2 * x9 + 1) * u9 * sp % 32) - 16))]) (rest := []) ⟨hx, hb, hml, hown, hts⟩ (n_k l D (((2 * x9 + 1) * u9 * sp % 32) - 16) (by omega)) (va_cwS 1 hts (gw_S wm_369 wm_370 wm_13 wm_371) rfl rfl rfl (by decide +kernel) ⟨Nat.le_of_ble_eq_true rfl, Nat.le_of_ble_eq_true rfl⟩) ⟨cro_blind, fun U hU hW => ⟨rfl, cro_at (hP.sub (ws' := []) [] rfl) (hK.sub (tys' := []) [] rfl) hTb hS hU hW⟩⟩ rfl rfl hl.1 rfl (lv_room (Nat.le_of_ble_eq_true rfl)) dX1_waveOf_67 ⟨Nat.le_of_ble_eq_true rfl, Nat.le_of_ble_eq_true rfl⟩) (fun r_8 hr_8 => ?_)
          rw [hr_8]
          refine lv_ineg hx hb dX1_waveOf_70 ?_
          refine lv_goto (tgt := 81) hx hb dX1_waveOf_71 (by decide) ?_
          exact W.iret (v := -(cQ (((2 * x9 + 1) * u9 * sp % 32) - 16))) hx hb hr (fun t ht hW => ⟨_, rfl, (by unfold wvN cosN; rw [if_neg (by omega), if_neg (by omega), if_neg (by omega), if_pos (by omega)]), ht⟩) (fun _ h9 => by cases h9) dX1_waveOf_81
      · refine lv_bipush (v := (16 : Int32)) hx hb dX1_waveOf_46 (by decide +kernel) ?_
        refine lv_iload_n hx hb dX1_waveOf_48 rfl (lv_at hl 0 rfl) ?_
        refine cx_isub hx hb 16 ((2 * x9 + 1) * u9 * sp % 32) (by omega) dX1_waveOf_49 ?_
        refine vp_callSi (W.runS (As := [.int (nI (16 - ((2 * x9 + 1) * u9 * sp % 32)))]) (rest := []) ⟨hx, hb, hml, hown, hts⟩ (n_k l D (16 - ((2 * x9 + 1) * u9 * sp % 32)) (by omega)) (va_cwS 1 hts (gw_S wm_369 wm_370 wm_13 wm_371) rfl rfl rfl (by decide +kernel) ⟨Nat.le_of_ble_eq_true rfl, Nat.le_of_ble_eq_true rfl⟩) ⟨cro_blind, fun U hU hW => ⟨rfl, cro_at (hP.sub (ws' := []) [] rfl) (hK.sub (tys' := []) [] rfl) hTb hS hU hW⟩⟩ rfl rfl hl.1 rfl (lv_room (Nat.le_of_ble_eq_true rfl)) dX1_waveOf_50 ⟨Nat.le_of_ble_eq_true rfl, Nat.le_of_ble_eq_true rfl⟩) (fun r_9 hr_9 => ?_)
        rw [hr_9]
        refine lv_ineg hx hb dX1_waveOf_53 ?_
        refine lv_goto (tgt := 81) hx hb dX1_waveOf_54 (by decide) ?_
        exact W.iret (v := -(cQ (16 - ((2 * x9 + 1) * u9 * sp % 32)))) hx hb hr (fun t ht hW => ⟨_, rfl, (by unfold wvN cosN; rw [if_neg (by omega), if_neg (by omega), if_pos (by omega)]), ht⟩) (fun _ h9 => by cases h9) dX1_waveOf_81
    · refine lv_iload_n hx hb dX1_waveOf_33 rfl (lv_at hl 0 rfl) ?_
      refine vp_callSi (W.runS (As := [.int (nI ((2 * x9 + 1) * u9 * sp % 32))]) (rest := []) ⟨hx, hb, hml, hown, hts⟩ (n_k l D ((2 * x9 + 1) * u9 * sp % 32) (by omega)) (va_cwS 1 hts (gw_S wm_369 wm_370 wm_13 wm_371) rfl rfl rfl (by decide +kernel) ⟨Nat.le_of_ble_eq_true rfl, Nat.le_of_ble_eq_true rfl⟩) ⟨cro_blind, fun U hU hW => ⟨rfl, cro_at (hP.sub (ws' := []) [] rfl) (hK.sub (tys' := []) [] rfl) hTb hS hU hW⟩⟩ rfl rfl hl.1 rfl (lv_room (Nat.le_of_ble_eq_true rfl)) dX1_waveOf_34 ⟨Nat.le_of_ble_eq_true rfl, Nat.le_of_ble_eq_true rfl⟩) (fun r_10 hr_10 => ?_)
      rw [hr_10]
      refine lv_goto (tgt := 81) hx hb dX1_waveOf_37 (by decide) ?_
      exact W.iret (v := cQ ((2 * x9 + 1) * u9 * sp % 32)) hx hb hr (fun t ht hW => ⟨_, rfl, (by unfold wvN cosN; rw [if_neg (by omega), if_pos (by omega)]), ht⟩) (fun _ h9 => by cases h9) dX1_waveOf_81
  · refine lv_iconst (v := (4 : Int32)) hx hb dX1_waveOf_20 (by decide +kernel) ?_
    refine vp_callSi (W.runS (As := [.int (4 : Int32)]) (rest := []) ⟨hx, hb, hml, hown, hts⟩ (n_k l D 4 (by omega)) (va_cwS 1 hts (gw_S wm_369 wm_370 wm_13 wm_371) rfl rfl rfl (by decide +kernel) ⟨Nat.le_of_ble_eq_true rfl, Nat.le_of_ble_eq_true rfl⟩) ⟨cro_blind, fun U hU hW => ⟨rfl, cro_at (hP.sub (ws' := []) [] rfl) (hK.sub (tys' := []) [] rfl) hTb hS hU hW⟩⟩ rfl rfl hl.1 rfl (lv_room (Nat.le_of_ble_eq_true rfl)) dX1_waveOf_21 ⟨Nat.le_of_ble_eq_true rfl, Nat.le_of_ble_eq_true rfl⟩) (fun r_11 hr_11 => ?_)
    rw [hr_11]
    refine lv_goto (tgt := 81) hx hb dX1_waveOf_24 (by decide) ?_
    exact W.iret (v := cQ 4) hx hb hr (fun t ht hW => ⟨_, rfl, (by unfold wvN; rw [if_pos (by omega)]), ht⟩) (fun _ h9 => by cases h9) dX1_waveOf_81
set_option maxHeartbeats 4000000 in
set_option maxRecDepth 100000 in
/-- the reference: round -/
theorem n_round (l : Launch) (D : va_G) (v9 : Int64) (sh : Int32) : Met l yX1_round wsX1_round ({ frames := 0, cells := 0, slots := 0, locals := 0 } : Room) (va_Pc [.long v9, .int sh] (cro D ([]) ([]))) (vp_Sl (fun r => r = rdL v9 sh)) 0 0 (fun _ => False) := by
  refine Met.ofW (cc := cX1_round) (maxL := 3) (ret := some .long) (by decide) rfl ?_
  intro p e s m args below meth c s₁ B hml hv
  obtain ⟨rfl, hP, hK, hTb⟩ := hv
  have hx := B.exec
  have hb := B.bytes
  have hr := B.returns
  have hts : ∀ w ∈ wA, w.before _ s = true := fun w h => atoms_spec (ws := wsX1_round) B.pre w (List.mem_cons_of_mem _ h)
  have hown : s.vm.findClass RX1 = some m.cls := findClass_of_methodNamed B.named
  have hlocks := B.notSynchronized
  have hS : va_S (fun _ => False) s.heap s.heap [] := va_S.rf
  have hl := lv_entry ([.long v9, .int sh]) (n := 3) (Nat.le_of_ble_eq_true rfl)
  rw [lg_entry_eq]
  generalize (lg_sl ([.long v9, .int sh]) ++ List.replicate (3 - (lg_sl ([.long v9, .int sh])).length) Slot.unset).toArray = ls at hl ⊢
  have hl : lv_has ls 3 [(0, .long v9), (2, .int sh)] := hl
  refine lv_lload_n hx hb dX1_round_0 rfl (lv_at hl 0 rfl) ?_
  refine lv_lconst (v := (1 : Int64)) hx hb dX1_round_1 (by decide +kernel) ?_
  refine lv_iload_n hx hb dX1_round_2 rfl (lv_at hl 1 rfl) ?_
  refine lv_iconst (v := (1 : Int32)) hx hb dX1_round_3 (by decide +kernel) ?_
  refine lv_isub hx hb dX1_round_4 ?_
  refine lv_lshl hx hb dX1_round_5 rfl ?_
  refine lv_ladd hx hb dX1_round_6 ?_
  refine lv_iload_n hx hb dX1_round_7 rfl (lv_at hl 1 rfl) ?_
  refine lv_lshr hx hb dX1_round_8 rfl ?_
  exact W.lret (v := (v9 + ((1 : Int64) <<< ((sh - (1 : Int32)).toInt64 &&& 63))) >>> (sh.toInt64 &&& 63)) hx hb hr (fun t ht hW => ⟨_, rfl, rfl, ht⟩) (fun _ h9 => by cases h9) dX1_round_9
set_option maxHeartbeats 4000000 in
set_option maxRecDepth 100000 in
/-- the reference: thrown -/
theorem n_thrown (l : Launch) (D : va_G) (y : Nat → Nat) (ce : Nat → ClassId) (th : Int32) (r0 r1 r2 r3 dn ac : Nat → Int32) (sm : Nat → Int64) : Met l yX1_thrown wsX1_thrown ({ frames := 0, cells := 0, slots := 0, locals := 0 } : Room) (va_Pc [.ref (y 0)] (cro D (mw y ce th r0 r1 r2 r3 dn ac sm) (mty ce))) (vp_Si (fun r => r = th)) 0 0 (fun _ => False) := by
  refine Met.ofW (cc := cX1_thrown) (maxL := 1) (ret := some .int) (by decide) rfl ?_
  intro p e s m args below meth c s₁ B hml hv
  obtain ⟨rfl, hP, hK, hTb⟩ := hv
  have hx := B.exec
  have hb := B.bytes
  have hr := B.returns
  have hts : ∀ w ∈ wA, w.before _ s = true := fun w h => atoms_spec (ws := wsX1_thrown) B.pre w (List.mem_cons_of_mem _ h)
  have hown : s.vm.findClass RX1 = some m.cls := findClass_of_methodNamed B.named
  have hlocks := B.notSynchronized
  have hS : va_S (fun _ => False) s.heap s.heap [] := va_S.rf
  have hin1 := inA1
  have hf32 := (hts _ wm_302)
  have hl := lv_entry ([.ref (y 0)]) (n := 1) (Nat.le_of_ble_eq_true rfl)
  rw [lg_entry_eq]
  generalize (lg_sl ([.ref (y 0)]) ++ List.replicate (1 - (lg_sl ([.ref (y 0)])).length) Slot.unset).toArray = ls at hl ⊢
  have hl : lv_has ls 1 [(0, .ref (y 0))] := hl
  refine lv_aload_n hx hb dX1_thrown_0 rfl (lv_at hl 0 rfl) ?_
  refine va_get (D := D) (ci := 1) (v := .int th) (C := RX1) (T := TX1) (N := 8) hx hb hts hin1 hown hK hP 0 rfl rfl 0 (by decide) hf32 (fun _ h9 => h9) rfl dX1_thrown_1 ?_
  exact W.iret (v := th) hx hb hr (fun t ht hW => ⟨_, rfl, rfl, ht⟩) (fun _ h9 => by cases h9) dX1_thrown_4
set_option maxHeartbeats 4000000 in
set_option maxRecDepth 100000 in
/-- the reference: orderOf -/
theorem n_orderOf (l : Launch) (D : va_G) (y : Nat → Nat) (ce : Nat → ClassId) (th : Int32) (r0 r1 r2 r3 dn ac : Nat → Int32) (sm : Nat → Int64) (hdn : dnOk dn ac) (a9 b9 : Int32) : Met l yX1_orderOf wsX1_orderOf ({ frames := 0, cells := 0, slots := 0, locals := 0 } : Room) (va_Pc [.ref (y 0), .int a9, .int b9] (cro D (mw y ce th r0 r1 r2 r3 dn ac sm) (mty ce))) (vp_Si (fun r => r = orderV a9 b9)) 0 0 (fun _ => False) := by
  refine Met.ofW (cc := cX1_orderOf) (maxL := 5) (ret := some .int) (by decide) rfl ?_
  intro p e s m args below meth c s₁ B hml hv
  obtain ⟨rfl, hP, hK, hTb⟩ := hv
  have hx := B.exec
  have hb := B.bytes
  have hr := B.returns
  have hts : ∀ w ∈ wA, w.before _ s = true := fun w h => atoms_spec (ws := wsX1_orderOf) B.pre w (List.mem_cons_of_mem _ h)
  have hown : s.vm.findClass RX1 = some m.cls := findClass_of_methodNamed B.named
  have hlocks := B.notSynchronized
  have hS : va_S (fun _ => False) s.heap s.heap [] := va_S.rf
  have hin1 := inA1
  have hf22 := (hts _ wm_307)
  have hf25 := (hts _ wm_308)
  have hl := lv_entry ([.ref (y 0), .int a9, .int b9]) (n := 5) (Nat.le_of_ble_eq_true rfl)
  rw [lg_entry_eq]
  generalize (lg_sl ([.ref (y 0), .int a9, .int b9]) ++ List.replicate (5 - (lg_sl ([.ref (y 0), .int a9, .int b9])).length) Slot.unset).toArray = ls at hl ⊢
  have hl : lv_has ls 5 [(0, .ref (y 0)), (1, .int a9), (2, .int b9)] := hl
  refine lv_iconst (v := (-1 : Int32)) hx hb dX1_orderOf_0 (by decide +kernel) ?_
  refine lv_istore_n (lv' := [(3, .int (-1 : Int32)), (0, .ref (y 0)), (1, .int a9), (2, .int b9)]) hx hb dX1_orderOf_1 rfl hl (by decide) rfl (fun ls hl => ?_)
  refine lv_iconst (v := (0 : Int32)) hx hb dX1_orderOf_2 (by decide +kernel) ?_
  refine lv_istore (lv' := [(4, .int (0 : Int32)), (3, .int (-1 : Int32)), (0, .ref (y 0)), (1, .int a9), (2, .int b9)]) hx hb dX1_orderOf_3 hl (by decide) rfl (fun ls hl => ?_)
  have L5 : ∀ (n : Nat) (k9 : Nat) (ls : Array Slot), (64 - k9) < n → (k9 ≤ 64) → lv_has ls 5 [(0, .ref (y 0)), (1, .int a9), (2, .int b9), (3, .int (ordR dn ac a9 b9 k9)), (4, .int (nI k9))] → W p l e ((headSpec wsX1_orderOf ({ frames := 0, cells := 0, slots := 0, locals := 0 } : Room)).room) s m (([.ref (y 0), .int a9, .int b9] : List Value).toArray) below meth c s.heap [] 0 0 (MQ below (vp_Si (fun r => r = orderV a9 b9)) ([.ref (y 0), .int a9, .int b9] : List Value).toArray s 0 0 (fun _ => False)) (F0 m 5 ls []) := by
    intro n
    induction n with
    | zero =>
      intro k9 ls hn
      exact absurd hn (Nat.not_lt_zero _)
    | succ n ih5 =>
      intro k9 ls hn5 hk9 hl
      refine lv_iload hx hb dX1_orderOf_5 (lv_at hl 4 rfl) ?_
      refine lv_bipush (v := (64 : Int32)) hx hb dX1_orderOf_7 (by decide +kernel) ?_
      refine cx_icmp_ge (i := ((k9 : Nat) : Int)) (j := 64) (tgt := 47) hx hb (nI_toInt (by omega)) (by decide +kernel) dX1_orderOf_9 (by decide) (fun c_1 => ?_) (fun c_1 => ?_)
      · refine lv_iload_n hx hb dX1_orderOf_47 rfl (lv_at hl 3 rfl) ?_
        exact W.iret (v := ordR dn ac a9 b9 k9) hx hb hr (fun t ht hW => ⟨_, rfl, (by obtain rfl : k9 = 64 := (by omega); exact ordR_eq hdn a9 b9), ht⟩) (fun _ h9 => by cases h9) dX1_orderOf_48
      · refine lv_aload_n hx hb dX1_orderOf_12 rfl (lv_at hl 0 rfl) ?_
        refine va_get (D := D) (ci := 1) (v := .ref (y 5)) (C := RX1) (T := TX1) (N := 8) hx hb hts hin1 hown hK hP 0 rfl rfl 5 (by decide) hf22 (fun _ h9 => h9) rfl dX1_orderOf_13 ?_
        refine lv_iload hx hb dX1_orderOf_16 (lv_at hl 4 rfl) ?_
        refine cx_iald hx hb hK hP 5 4 rfl rfl k9 (by omega) (by decide) dX1_orderOf_18 ?_
        refine lv_iload_n hx hb dX1_orderOf_19 rfl (lv_at hl 1 rfl) ?_
        refine cx_icmp_ne (i := (dn k9).toInt) (j := a9.toInt) (tgt := 39) hx hb rfl rfl dX1_orderOf_20 (by decide) (fun c_2 => ?_) (fun c_2 => ?_)
        · refine lv_iload_n hx hb dX1_orderOf_39 rfl (lv_at hl 3 rfl) ?_
          refine lv_istore_n (lv' := [(3, .int (ordR dn ac a9 b9 k9)), (0, .ref (y 0)), (1, .int a9), (2, .int b9), (4, .int (nI k9))]) hx hb dX1_orderOf_40 rfl hl (by decide) rfl (fun ls hl => ?_)
          refine lv_iinc (v := nI (k9 + 1)) (lv' := [(4, .int (nI (k9 + 1))), (3, .int (ordR dn ac a9 b9 k9)), (0, .ref (y 0)), (1, .int a9), (2, .int b9)]) hx hb dX1_orderOf_41 hl (k := 4) rfl (by show nI k9 + 1 = nI (k9 + 1); exact nI_add k9 1) (by decide) rfl (fun ls hl => ?_)
          refine lv_goto (tgt := 5) hx hb dX1_orderOf_44 (by decide) ?_
          have e_3 : ordR dn ac a9 b9 k9 = ordR dn ac a9 b9 (k9 + 1) := ordR_z (fun q => c_2 q.1)
          rw [e_3] at hl
          exact ih5 (k9 + 1) _ (by omega) (by omega) (lv_sub hl [2, 3, 4, 1, 0] rfl)
        · refine lv_aload_n hx hb dX1_orderOf_23 rfl (lv_at hl 0 rfl) ?_
          refine va_get (D := D) (ci := 1) (v := .ref (y 6)) (C := RX1) (T := TX1) (N := 8) hx hb hts hin1 hown hK hP 0 rfl rfl 6 (by decide) hf25 (fun _ h9 => h9) rfl dX1_orderOf_24 ?_
          refine lv_iload hx hb dX1_orderOf_27 (lv_at hl 4 rfl) ?_
          refine cx_iald hx hb hK hP 6 5 rfl rfl k9 (by omega) (by decide) dX1_orderOf_29 ?_
          refine lv_iload_n hx hb dX1_orderOf_30 rfl (lv_at hl 2 rfl) ?_
          refine cx_icmp_ne (i := (ac k9).toInt) (j := b9.toInt) (tgt := 39) hx hb rfl rfl dX1_orderOf_31 (by decide) (fun c_4 => ?_) (fun c_4 => ?_)
          · refine lv_iload_n hx hb dX1_orderOf_39 rfl (lv_at hl 3 rfl) ?_
            refine lv_istore_n (lv' := [(3, .int (ordR dn ac a9 b9 k9)), (0, .ref (y 0)), (1, .int a9), (2, .int b9), (4, .int (nI k9))]) hx hb dX1_orderOf_40 rfl hl (by decide) rfl (fun ls hl => ?_)
            refine lv_iinc (v := nI (k9 + 1)) (lv' := [(4, .int (nI (k9 + 1))), (3, .int (ordR dn ac a9 b9 k9)), (0, .ref (y 0)), (1, .int a9), (2, .int b9)]) hx hb dX1_orderOf_41 hl (k := 4) rfl (by show nI k9 + 1 = nI (k9 + 1); exact nI_add k9 1) (by decide) rfl (fun ls hl => ?_)
            refine lv_goto (tgt := 5) hx hb dX1_orderOf_44 (by decide) ?_
            have e_5 : ordR dn ac a9 b9 k9 = ordR dn ac a9 b9 (k9 + 1) := ordR_z (fun q => c_4 q.2)
            rw [e_5] at hl
            exact ih5 (k9 + 1) _ (by omega) (by omega) (lv_sub hl [2, 3, 4, 1, 0] rfl)
          · refine lv_iload hx hb dX1_orderOf_34 (lv_at hl 4 rfl) ?_
            refine lv_goto (tgt := 40) hx hb dX1_orderOf_36 (by decide) ?_
            refine lv_istore_n (lv' := [(3, .int (nI k9)), (0, .ref (y 0)), (1, .int a9), (2, .int b9), (4, .int (nI k9))]) hx hb dX1_orderOf_40 rfl hl (by decide) rfl (fun ls hl => ?_)
            refine lv_iinc (v := nI (k9 + 1)) (lv' := [(4, .int (nI (k9 + 1))), (3, .int (nI k9)), (0, .ref (y 0)), (1, .int a9), (2, .int b9)]) hx hb dX1_orderOf_41 hl (k := 4) rfl (by show nI k9 + 1 = nI (k9 + 1); exact nI_add k9 1) (by decide) rfl (fun ls hl => ?_)
            refine lv_goto (tgt := 5) hx hb dX1_orderOf_44 (by decide) ?_
            have e_6 : nI k9 = ordR dn ac a9 b9 (k9 + 1) := ordR_s ⟨c_2, c_4⟩
            rw [e_6] at hl
            exact ih5 (k9 + 1) _ (by omega) (by omega) (lv_sub hl [2, 3, 4, 1, 0] rfl)
  exact L5 _ 0 _ (Nat.lt_succ_self _) (Nat.zero_le _) (lv_sub hl [2, 3, 4, 1, 0] rfl)
set_option maxHeartbeats 4000000 in
set_option maxRecDepth 100000 in
/-- the reference: column -/
theorem n_column (l : Launch) (D : va_G) (y : Nat → Nat) (ce : Nat → ClassId) (th : Int32) (r0 r1 r2 r3 dn ac : Nat → Int32) (sm : Nat → Int64) (hdn : dnOk dn ac) (nn sp y9 u9 : Nat) (h0 : nn ≤ 8) (h1 : (nn = 1 ∧ sp = 8) ∨ (nn = 2 ∧ sp = 4) ∨ (nn = 4 ∧ sp = 2) ∨ (nn = 8 ∧ sp = 1)) (h2 : y9 < 8) (h3 : u9 < 8) : Met l yX1_column wsX1_column ({ frames := 2, cells := 0, slots := 0, locals := 43 } : Room) (va_Pc [.ref (y 0), .int (nI nn), .int (nI y9), .int (nI u9)] (cro D (mw y ce th r0 r1 r2 r3 dn ac sm) (mty ce))) (vp_Sl (fun r => r = cN sp nn r0 r1 y9 u9)) 0 0 (fun _ => False) := by
  refine Met.ofW (cc := cX1_column) (maxL := 8) (ret := some .long) (by decide) rfl ?_
  intro p e s m args below meth c s₁ B hml hv
  obtain ⟨rfl, hP, hK, hTb⟩ := hv
  have hx := B.exec
  have hb := B.bytes
  have hr := B.returns
  have hts : ∀ w ∈ wA, w.before _ s = true := fun w h => atoms_spec (ws := wsX1_column) B.pre w (List.mem_cons_of_mem _ h)
  have hown : s.vm.findClass RX1 = some m.cls := findClass_of_methodNamed B.named
  have hlocks := B.notSynchronized
  have hS : va_S (fun _ => False) s.heap s.heap [] := va_S.rf
  have hin1 := inA1
  have hf7 := (hts _ wm_303)
  have hf13 := (hts _ wm_304)
  have hl := lv_entry ([.ref (y 0), .int (nI nn), .int (nI y9), .int (nI u9)]) (n := 8) (Nat.le_of_ble_eq_true rfl)
  rw [lg_entry_eq]
  generalize (lg_sl ([.ref (y 0), .int (nI nn), .int (nI y9), .int (nI u9)]) ++ List.replicate (8 - (lg_sl ([.ref (y 0), .int (nI nn), .int (nI y9), .int (nI u9)])).length) Slot.unset).toArray = ls at hl ⊢
  have hl : lv_has ls 8 [(0, .ref (y 0)), (1, .int (nI nn)), (2, .int (nI y9)), (3, .int (nI u9))] := hl
  refine lv_lconst (v := (0 : Int64)) hx hb dX1_column_0 (by decide +kernel) ?_
  refine lv_lstore (lv' := [(4, .long (0 : Int64)), (0, .ref (y 0)), (1, .int (nI nn)), (2, .int (nI y9)), (3, .int (nI u9))]) hx hb dX1_column_1 hl (by decide) rfl (fun ls hl => ?_)
  refine lv_iconst (v := (0 : Int32)) hx hb dX1_column_3 (by decide +kernel) ?_
  refine lv_istore (lv' := [(6, .int (0 : Int32)), (4, .long (0 : Int64)), (0, .ref (y 0)), (1, .int (nI nn)), (2, .int (nI y9)), (3, .int (nI u9))]) hx hb dX1_column_4 hl (by decide) rfl (fun ls hl => ?_)
  have L6 : ∀ (n : Nat) (v9 : Nat) (ls : Array Slot), (nn - v9) < n → (v9 ≤ nn) → lv_has ls 8 [(0, .ref (y 0)), (1, .int (nI nn)), (2, .int (nI y9)), (3, .int (nI u9)), (4, .long (sumL (fun v9 => (wvN sp v9 y9).toInt64 * (r0 (cPn (v9 * 8 + u9))).toInt64 * (r1 (cPn (v9 * 8 + u9))).toInt64) v9)), (6, .int (nI v9))] → W p l e ((headSpec wsX1_column ({ frames := 2, cells := 0, slots := 0, locals := 43 } : Room)).room) s m (([.ref (y 0), .int (nI nn), .int (nI y9), .int (nI u9)] : List Value).toArray) below meth c s.heap [] 0 0 (MQ below (vp_Sl (fun r => r = cN sp nn r0 r1 y9 u9)) ([.ref (y 0), .int (nI nn), .int (nI y9), .int (nI u9)] : List Value).toArray s 0 0 (fun _ => False)) (F0 m 6 ls []) := by
    intro n
    induction n with
    | zero =>
      intro v9 ls hn
      exact absurd hn (Nat.not_lt_zero _)
    | succ n ih6 =>
      intro v9 ls hn6 hv9 hl
      refine lv_iload hx hb dX1_column_6 (lv_at hl 5 rfl) ?_
      refine lv_iload_n hx hb dX1_column_8 rfl (lv_at hl 1 rfl) ?_
      refine cx_icmp_ge (i := ((v9 : Nat) : Int)) (j := ((nn : Nat) : Int)) (tgt := 58) hx hb (nI_toInt (by omega)) (nI_toInt (by omega)) dX1_column_9 (by decide) (fun c_1 => ?_) (fun c_1 => ?_)
      · refine lv_lload hx hb dX1_column_58 (lv_at hl 4 rfl) ?_
        refine lv_bipush (v := (11 : Int32)) hx hb dX1_column_60 (by decide +kernel) ?_
        refine vp_callSl (W.runS (As := [.long (sumL (fun v9 => (wvN sp v9 y9).toInt64 * (r0 (cPn (v9 * 8 + u9))).toInt64 * (r1 (cPn (v9 * 8 + u9))).toInt64) v9), .int (11 : Int32)]) (rest := []) ⟨hx, hb, hml, hown, hts⟩ (n_round l D (sumL (fun v9 => (wvN sp v9 y9).toInt64 * (r0 (cPn (v9 * 8 + u9))).toInt64 * (r1 (cPn (v9 * 8 + u9))).toInt64) v9) (11 : Int32)) (va_cwS 2 hts (gw_S wm_372 wm_373 wm_13 wm_374) rfl rfl rfl (by decide +kernel) ⟨Nat.le_of_ble_eq_true rfl, Nat.le_of_ble_eq_true rfl⟩) ⟨cro_blind, fun U hU hW => ⟨rfl, cro_at (hP.sub (ws' := []) [] rfl) (hK.sub (tys' := []) [] rfl) hTb hS hU hW⟩⟩ rfl rfl hl.1 rfl (lv_room (Nat.le_of_ble_eq_true rfl)) dX1_column_62 ⟨Nat.le_of_ble_eq_true rfl, Nat.le_of_ble_eq_true rfl⟩) (fun r_2 hr_2 => ?_)
        rw [hr_2]
        exact W.lret (v := rdL (sumL (fun v9 => (wvN sp v9 y9).toInt64 * (r0 (cPn (v9 * 8 + u9))).toInt64 * (r1 (cPn (v9 * 8 + u9))).toInt64) v9) (11 : Int32)) hx hb hr (fun t ht hW => ⟨_, rfl, (by obtain rfl : nn = v9 := (by omega); rfl), ht⟩) (fun _ h9 => by cases h9) dX1_column_65
      · refine lv_aload_n hx hb dX1_column_12 rfl (lv_at hl 0 rfl) ?_
        refine lv_iload hx hb dX1_column_13 (lv_at hl 5 rfl) ?_
        refine lv_iload_n hx hb dX1_column_15 rfl (lv_at hl 3 rfl) ?_
        refine vp_callSi (W.runV (As := [.int (nI v9), .int (nI u9)]) (rest := []) ⟨hx, hb, hml, hown, hts⟩ (n_orderOf l D y ce th r0 r1 r2 r3 dn ac sm hdn (nI v9) (nI u9)) (cwV 2 hts (gw_V wm_362 wm_364 wm_9 wm_13 wm_365) rfl rfl rfl (by decide +kernel) ⟨Nat.le_of_ble_eq_true rfl, Nat.le_of_ble_eq_true rfl⟩) ⟨cro_blind, va_recv hK hP (ci := 1) (q0 := 0) rfl rfl, fun U hU hW => ⟨rfl, cro_at hP hK hTb hS hU hW⟩⟩ rfl rfl hl.1 rfl (lv_room (Nat.le_of_ble_eq_true rfl)) dX1_column_16 ⟨Nat.le_of_ble_eq_true rfl, Nat.le_of_ble_eq_true rfl⟩) (fun r_3 hr_3 => ?_)
        rw [orderV_nat (by omega) (by omega)] at hr_3
        rw [hr_3]
        refine lv_istore (lv' := [(7, .int (nI (cPn (v9 * 8 + u9)))), (0, .ref (y 0)), (1, .int (nI nn)), (2, .int (nI y9)), (3, .int (nI u9)), (4, .long (sumL (fun v9 => (wvN sp v9 y9).toInt64 * (r0 (cPn (v9 * 8 + u9))).toInt64 * (r1 (cPn (v9 * 8 + u9))).toInt64) v9)), (6, .int (nI v9))]) hx hb dX1_column_19 hl (by decide) rfl (fun ls hl => ?_)
        refine lv_lload hx hb dX1_column_21 (lv_at hl 5 rfl) ?_
        refine lv_iload_n hx hb dX1_column_23 rfl (lv_at hl 2 rfl) ?_
        refine lv_iload hx hb dX1_column_24 (lv_at hl 6 rfl) ?_
        refine lv_iload_n hx hb dX1_column_26 rfl (lv_at hl 3 rfl) ?_
        refine vp_callSi (W.runS (As := [.int (nI nn), .int (nI v9), .int (nI y9)]) (rest := [.long (sumL (fun v9 => (wvN sp v9 y9).toInt64 * (r0 (cPn (v9 * 8 + u9))).toInt64 * (r1 (cPn (v9 * 8 + u9))).toInt64) v9)]) ⟨hx, hb, hml, hown, hts⟩ (n_waveOf l D nn sp v9 y9 (by omega) h1 (by omega) (by omega)) (va_cwS 3 hts (gw_S wm_366 wm_367 wm_13 wm_368) rfl rfl rfl (by decide +kernel) ⟨Nat.le_of_ble_eq_true rfl, Nat.le_of_ble_eq_true rfl⟩) ⟨cro_blind, fun U hU hW => ⟨rfl, cro_at (hP.sub (ws' := []) [] rfl) (hK.sub (tys' := []) [] rfl) hTb hS hU hW⟩⟩ rfl rfl hl.1 rfl (lv_room (Nat.le_of_ble_eq_true rfl)) dX1_column_27 ⟨Nat.le_of_ble_eq_true rfl, Nat.le_of_ble_eq_true rfl⟩) (fun r_4 hr_4 => ?_)
        rw [hr_4]
        refine lv_i2l hx hb dX1_column_30 rfl ?_
        refine lv_aload_n hx hb dX1_column_31 rfl (lv_at hl 1 rfl) ?_
        refine va_get (D := D) (ci := 1) (v := .ref (y 1)) (C := RX1) (T := TX1) (N := 8) hx hb hts hin1 hown hK hP 0 rfl rfl 1 (by decide) hf7 (fun _ h9 => h9) rfl dX1_column_32 ?_
        refine lv_iload hx hb dX1_column_35 (lv_at hl 0 rfl) ?_
        refine cx_iald hx hb hK hP 1 0 rfl rfl (cPn (v9 * 8 + u9)) (cPn_lt _ (by omega)) (by decide) dX1_column_37 ?_
        refine lv_i2l hx hb dX1_column_38 rfl ?_
        refine lv_lmul hx hb dX1_column_39 ?_
        refine lv_aload_n hx hb dX1_column_40 rfl (lv_at hl 1 rfl) ?_
        refine va_get (D := D) (ci := 1) (v := .ref (y 2)) (C := RX1) (T := TX1) (N := 8) hx hb hts hin1 hown hK hP 0 rfl rfl 2 (by decide) hf13 (fun _ h9 => h9) rfl dX1_column_41 ?_
        refine lv_iload hx hb dX1_column_44 (lv_at hl 0 rfl) ?_
        refine cx_iald hx hb hK hP 2 1 rfl rfl (cPn (v9 * 8 + u9)) (cPn_lt _ (by omega)) (by decide) dX1_column_46 ?_
        refine lv_i2l hx hb dX1_column_47 rfl ?_
        refine lv_lmul hx hb dX1_column_48 ?_
        refine lv_ladd hx hb dX1_column_49 ?_
        refine lv_lstore (lv' := [(4, .long ((sumL (fun v9 => (wvN sp v9 y9).toInt64 * (r0 (cPn (v9 * 8 + u9))).toInt64 * (r1 (cPn (v9 * 8 + u9))).toInt64) v9) + ((((wvN sp v9 y9).toInt64) * ((r0 (cPn (v9 * 8 + u9))).toInt64)) * ((r1 (cPn (v9 * 8 + u9))).toInt64)))), (7, .int (nI (cPn (v9 * 8 + u9)))), (0, .ref (y 0)), (1, .int (nI nn)), (2, .int (nI y9)), (3, .int (nI u9)), (6, .int (nI v9))]) hx hb dX1_column_50 hl (by decide) rfl (fun ls hl => ?_)
        refine lv_iinc (v := nI (v9 + 1)) (lv' := [(6, .int (nI (v9 + 1))), (4, .long ((sumL (fun v9 => (wvN sp v9 y9).toInt64 * (r0 (cPn (v9 * 8 + u9))).toInt64 * (r1 (cPn (v9 * 8 + u9))).toInt64) v9) + ((((wvN sp v9 y9).toInt64) * ((r0 (cPn (v9 * 8 + u9))).toInt64)) * ((r1 (cPn (v9 * 8 + u9))).toInt64)))), (7, .int (nI (cPn (v9 * 8 + u9)))), (0, .ref (y 0)), (1, .int (nI nn)), (2, .int (nI y9)), (3, .int (nI u9))]) hx hb dX1_column_52 hl (k := 6) rfl (by show nI v9 + 1 = nI (v9 + 1); exact nI_add v9 1) (by decide) rfl (fun ls hl => ?_)
        refine lv_goto (tgt := 6) hx hb dX1_column_55 (by decide) ?_
        exact ih6 (v9 + 1) _ (by omega) (by omega) (lv_sub hl [3, 4, 5, 6, 1, 0] rfl)
  exact L6 _ 0 _ (Nat.lt_succ_self _) (Nat.zero_le _) (lv_sub hl [2, 3, 4, 5, 1, 0] rfl)
set_option maxHeartbeats 4000000 in
set_option maxRecDepth 100000 in
/-- the reference: exactOf -/
theorem n_exactOf (l : Launch) (D : va_G) (y : Nat → Nat) (ce : Nat → ClassId) (th : Int32) (r0 r1 r2 r3 dn ac : Nat → Int32) (sm : Nat → Int64) (v9 u9 : Nat) (h1 : v9 < 8) (h2 : u9 < 8) : Met l yX1_exactOf wsX1_exactOf ({ frames := 2, cells := 0, slots := 0, locals := 43 } : Room) (va_Pc [.ref (y 0), .int (nI v9), .int (nI u9)] (cro D (mw y ce th r0 r1 r2 r3 dn ac sm) (mty ce))) (vp_Sl (fun r => r = eN r2 v9 u9)) 0 0 (fun _ => False) := by
  refine Met.ofW (cc := cX1_exactOf) (maxL := 9) (ret := some .long) (by decide) rfl ?_
  intro p e s m args below meth c s₁ B hml hv
  obtain ⟨rfl, hP, hK, hTb⟩ := hv
  have hx := B.exec
  have hb := B.bytes
  have hr := B.returns
  have hts : ∀ w ∈ wA, w.before _ s = true := fun w h => atoms_spec (ws := wsX1_exactOf) B.pre w (List.mem_cons_of_mem _ h)
  have hown : s.vm.findClass RX1 = some m.cls := findClass_of_methodNamed B.named
  have hlocks := B.notSynchronized
  have hS : va_S (fun _ => False) s.heap s.heap [] := va_S.rf
  have hin1 := inA1
  have hf16 := (hts _ wm_305)
  have hl := lv_entry ([.ref (y 0), .int (nI v9), .int (nI u9)]) (n := 9) (Nat.le_of_ble_eq_true rfl)
  rw [lg_entry_eq]
  generalize (lg_sl ([.ref (y 0), .int (nI v9), .int (nI u9)]) ++ List.replicate (9 - (lg_sl ([.ref (y 0), .int (nI v9), .int (nI u9)])).length) Slot.unset).toArray = ls at hl ⊢
  have hl : lv_has ls 9 [(0, .ref (y 0)), (1, .int (nI v9)), (2, .int (nI u9))] := hl
  refine lv_lconst (v := (0 : Int64)) hx hb dX1_exactOf_0 (by decide +kernel) ?_
  refine lv_lstore_n (lv' := [(3, .long (0 : Int64)), (0, .ref (y 0)), (1, .int (nI v9)), (2, .int (nI u9))]) hx hb dX1_exactOf_1 rfl hl (by decide) rfl (fun ls hl => ?_)
  refine lv_iconst (v := (0 : Int32)) hx hb dX1_exactOf_2 (by decide +kernel) ?_
  refine lv_istore (lv' := [(5, .int (0 : Int32)), (3, .long (0 : Int64)), (0, .ref (y 0)), (1, .int (nI v9)), (2, .int (nI u9))]) hx hb dX1_exactOf_3 hl (by decide) rfl (fun ls hl => ?_)
  have L5 : ∀ (n : Nat) (x9 : Nat) (ls : Array Slot), (8 - x9) < n → (x9 ≤ 8) → lv_has ls 9 [(0, .ref (y 0)), (1, .int (nI v9)), (2, .int (nI u9)), (3, .long (sumL (fun x9 => (wvN 1 u9 x9).toInt64 * eP r2 v9 x9) x9)), (5, .int (nI x9))] → W p l e ((headSpec wsX1_exactOf ({ frames := 2, cells := 0, slots := 0, locals := 43 } : Room)).room) s m (([.ref (y 0), .int (nI v9), .int (nI u9)] : List Value).toArray) below meth c s.heap [] 0 0 (MQ below (vp_Sl (fun r => r = eN r2 v9 u9)) ([.ref (y 0), .int (nI v9), .int (nI u9)] : List Value).toArray s 0 0 (fun _ => False)) (F0 m 5 ls []) := by
    intro n
    induction n with
    | zero =>
      intro x9 ls hn
      exact absurd hn (Nat.not_lt_zero _)
    | succ n ih5 =>
      intro x9 ls hn5 hx9 hl
      refine lv_iload hx hb dX1_exactOf_5 (lv_at hl 4 rfl) ?_
      refine lv_bipush (v := (8 : Int32)) hx hb dX1_exactOf_7 (by decide +kernel) ?_
      refine cx_icmp_ge (i := ((x9 : Nat) : Int)) (j := 8) (tgt := 90) hx hb (nI_toInt (by omega)) (by decide +kernel) dX1_exactOf_9 (by decide) (fun c_1 => ?_) (fun c_1 => ?_)
      · refine lv_lload_n hx hb dX1_exactOf_90 rfl (lv_at hl 3 rfl) ?_
        refine lv_bipush (v := (17 : Int32)) hx hb dX1_exactOf_91 (by decide +kernel) ?_
        refine vp_callSl (W.runS (As := [.long (sumL (fun x9 => (wvN 1 u9 x9).toInt64 * eP r2 v9 x9) x9), .int (17 : Int32)]) (rest := []) ⟨hx, hb, hml, hown, hts⟩ (n_round l D (sumL (fun x9 => (wvN 1 u9 x9).toInt64 * eP r2 v9 x9) x9) (17 : Int32)) (va_cwS 2 hts (gw_S wm_372 wm_373 wm_13 wm_374) rfl rfl rfl (by decide +kernel) ⟨Nat.le_of_ble_eq_true rfl, Nat.le_of_ble_eq_true rfl⟩) ⟨cro_blind, fun U hU hW => ⟨rfl, cro_at (hP.sub (ws' := []) [] rfl) (hK.sub (tys' := []) [] rfl) hTb hS hU hW⟩⟩ rfl rfl hl.1 rfl (lv_room (Nat.le_of_ble_eq_true rfl)) dX1_exactOf_93 ⟨Nat.le_of_ble_eq_true rfl, Nat.le_of_ble_eq_true rfl⟩) (fun r_2 hr_2 => ?_)
        rw [hr_2]
        exact W.lret (v := rdL (sumL (fun x9 => (wvN 1 u9 x9).toInt64 * eP r2 v9 x9) x9) (17 : Int32)) hx hb hr (fun t ht hW => ⟨_, rfl, (by obtain rfl : x9 = 8 := (by omega); rfl), ht⟩) (fun _ h9 => by cases h9) dX1_exactOf_96
      · refine lv_lconst (v := (0 : Int64)) hx hb dX1_exactOf_12 (by decide +kernel) ?_
        refine lv_lstore (lv' := [(6, .long (0 : Int64)), (0, .ref (y 0)), (1, .int (nI v9)), (2, .int (nI u9)), (3, .long (sumL (fun x9 => (wvN 1 u9 x9).toInt64 * eP r2 v9 x9) x9)), (5, .int (nI x9))]) hx hb dX1_exactOf_13 hl (by decide) rfl (fun ls hl => ?_)
        refine lv_iconst (v := (0 : Int32)) hx hb dX1_exactOf_15 (by decide +kernel) ?_
        refine lv_istore (lv' := [(8, .int (0 : Int32)), (6, .long (0 : Int64)), (0, .ref (y 0)), (1, .int (nI v9)), (2, .int (nI u9)), (3, .long (sumL (fun x9 => (wvN 1 u9 x9).toInt64 * eP r2 v9 x9) x9)), (5, .int (nI x9))]) hx hb dX1_exactOf_16 hl (by decide) rfl (fun ls hl => ?_)
        have L18 : ∀ (n : Nat) (y9 : Nat) (ls : Array Slot), (8 - y9) < n → (y9 ≤ 8) → lv_has ls 9 [(0, .ref (y 0)), (1, .int (nI v9)), (2, .int (nI u9)), (3, .long (sumL (fun x9 => (wvN 1 u9 x9).toInt64 * eP r2 v9 x9) x9)), (5, .int (nI x9)), (6, .long (sumL (fun y9 => (wvN 1 v9 y9).toInt64 * (r2 (y9 * 8 + x9) - 128).toInt64) y9)), (8, .int (nI y9))] → W p l e ((headSpec wsX1_exactOf ({ frames := 2, cells := 0, slots := 0, locals := 43 } : Room)).room) s m (([.ref (y 0), .int (nI v9), .int (nI u9)] : List Value).toArray) below meth c s.heap [] 0 0 (MQ below (vp_Sl (fun r => r = eN r2 v9 u9)) ([.ref (y 0), .int (nI v9), .int (nI u9)] : List Value).toArray s 0 0 (fun _ => False)) (F0 m 18 ls []) := by
          intro n
          induction n with
          | zero =>
            intro y9 ls hn
            exact absurd hn (Nat.not_lt_zero _)
          | succ n ih18 =>
            intro y9 ls hn18 hy9 hl
            refine lv_iload hx hb dX1_exactOf_18 (lv_at hl 6 rfl) ?_
            refine lv_bipush (v := (8 : Int32)) hx hb dX1_exactOf_20 (by decide +kernel) ?_
            refine cx_icmp_ge (i := ((y9 : Nat) : Int)) (j := 8) (tgt := 64) hx hb (nI_toInt (by omega)) (by decide +kernel) dX1_exactOf_22 (by decide) (fun c_3 => ?_) (fun c_3 => ?_)
            · refine lv_lload_n hx hb dX1_exactOf_64 rfl (lv_at hl 3 rfl) ?_
              refine lv_bipush (v := (8 : Int32)) hx hb dX1_exactOf_65 (by decide +kernel) ?_
              refine lv_iload_n hx hb dX1_exactOf_67 rfl (lv_at hl 2 rfl) ?_
              refine lv_iload hx hb dX1_exactOf_68 (lv_at hl 4 rfl) ?_
              refine vp_callSi (W.runS (As := [.int (8 : Int32), .int (nI u9), .int (nI x9)]) (rest := [.long (sumL (fun x9 => (wvN 1 u9 x9).toInt64 * eP r2 v9 x9) x9)]) ⟨hx, hb, hml, hown, hts⟩ (n_waveOf l D 8 1 u9 x9 (by omega) (by omega) (by omega) (by omega)) (va_cwS 3 hts (gw_S wm_366 wm_367 wm_13 wm_368) rfl rfl rfl (by decide +kernel) ⟨Nat.le_of_ble_eq_true rfl, Nat.le_of_ble_eq_true rfl⟩) ⟨cro_blind, fun U hU hW => ⟨rfl, cro_at (hP.sub (ws' := []) [] rfl) (hK.sub (tys' := []) [] rfl) hTb hS hU hW⟩⟩ rfl rfl hl.1 rfl (lv_room (Nat.le_of_ble_eq_true rfl)) dX1_exactOf_70 ⟨Nat.le_of_ble_eq_true rfl, Nat.le_of_ble_eq_true rfl⟩) (fun r_4 hr_4 => ?_)
              rw [hr_4]
              refine lv_i2l hx hb dX1_exactOf_73 rfl ?_
              refine lv_lload hx hb dX1_exactOf_74 (lv_at hl 5 rfl) ?_
              refine lv_bipush (v := (11 : Int32)) hx hb dX1_exactOf_76 (by decide +kernel) ?_
              refine vp_callSl (W.runS (As := [.long (sumL (fun y9 => (wvN 1 v9 y9).toInt64 * (r2 (y9 * 8 + x9) - 128).toInt64) y9), .int (11 : Int32)]) (rest := [.long ((wvN 1 u9 x9).toInt64), .long (sumL (fun x9 => (wvN 1 u9 x9).toInt64 * eP r2 v9 x9) x9)]) ⟨hx, hb, hml, hown, hts⟩ (n_round l D (sumL (fun y9 => (wvN 1 v9 y9).toInt64 * (r2 (y9 * 8 + x9) - 128).toInt64) y9) (11 : Int32)) (va_cwS 2 hts (gw_S wm_372 wm_373 wm_13 wm_374) rfl rfl rfl (by decide +kernel) ⟨Nat.le_of_ble_eq_true rfl, Nat.le_of_ble_eq_true rfl⟩) ⟨cro_blind, fun U hU hW => ⟨rfl, cro_at (hP.sub (ws' := []) [] rfl) (hK.sub (tys' := []) [] rfl) hTb hS hU hW⟩⟩ rfl rfl hl.1 rfl (lv_room (Nat.le_of_ble_eq_true rfl)) dX1_exactOf_78 ⟨Nat.le_of_ble_eq_true rfl, Nat.le_of_ble_eq_true rfl⟩) (fun r_5 hr_5 => ?_)
              rw [hr_5]
              refine lv_lmul hx hb dX1_exactOf_81 ?_
              refine lv_ladd hx hb dX1_exactOf_82 ?_
              refine lv_lstore_n (lv' := [(3, .long ((sumL (fun x9 => (wvN 1 u9 x9).toInt64 * eP r2 v9 x9) x9) + (((wvN 1 u9 x9).toInt64) * (rdL (sumL (fun y9 => (wvN 1 v9 y9).toInt64 * (r2 (y9 * 8 + x9) - 128).toInt64) y9) (11 : Int32))))), (0, .ref (y 0)), (1, .int (nI v9)), (2, .int (nI u9)), (5, .int (nI x9)), (6, .long (sumL (fun y9 => (wvN 1 v9 y9).toInt64 * (r2 (y9 * 8 + x9) - 128).toInt64) y9)), (8, .int (nI y9))]) hx hb dX1_exactOf_83 rfl hl (by decide) rfl (fun ls hl => ?_)
              refine lv_iinc (v := nI (x9 + 1)) (lv' := [(5, .int (nI (x9 + 1))), (3, .long ((sumL (fun x9 => (wvN 1 u9 x9).toInt64 * eP r2 v9 x9) x9) + (((wvN 1 u9 x9).toInt64) * (rdL (sumL (fun y9 => (wvN 1 v9 y9).toInt64 * (r2 (y9 * 8 + x9) - 128).toInt64) y9) (11 : Int32))))), (0, .ref (y 0)), (1, .int (nI v9)), (2, .int (nI u9)), (6, .long (sumL (fun y9 => (wvN 1 v9 y9).toInt64 * (r2 (y9 * 8 + x9) - 128).toInt64) y9)), (8, .int (nI y9))]) hx hb dX1_exactOf_84 hl (k := 4) rfl (by show nI x9 + 1 = nI (x9 + 1); exact nI_add x9 1) (by decide) rfl (fun ls hl => ?_)
              refine lv_goto (tgt := 5) hx hb dX1_exactOf_87 (by decide) ?_
              obtain rfl : y9 = 8 := by omega
              exact ih5 (x9 + 1) _ (by omega) (by omega) (lv_sub hl [2, 3, 4, 1, 0] rfl)
            · refine lv_lload hx hb dX1_exactOf_25 (lv_at hl 5 rfl) ?_
              refine lv_bipush (v := (8 : Int32)) hx hb dX1_exactOf_27 (by decide +kernel) ?_
              refine lv_iload_n hx hb dX1_exactOf_29 rfl (lv_at hl 1 rfl) ?_
              refine lv_iload hx hb dX1_exactOf_30 (lv_at hl 6 rfl) ?_
              refine vp_callSi (W.runS (As := [.int (8 : Int32), .int (nI v9), .int (nI y9)]) (rest := [.long (sumL (fun y9 => (wvN 1 v9 y9).toInt64 * (r2 (y9 * 8 + x9) - 128).toInt64) y9)]) ⟨hx, hb, hml, hown, hts⟩ (n_waveOf l D 8 1 v9 y9 (by omega) (by omega) (by omega) (by omega)) (va_cwS 3 hts (gw_S wm_366 wm_367 wm_13 wm_368) rfl rfl rfl (by decide +kernel) ⟨Nat.le_of_ble_eq_true rfl, Nat.le_of_ble_eq_true rfl⟩) ⟨cro_blind, fun U hU hW => ⟨rfl, cro_at (hP.sub (ws' := []) [] rfl) (hK.sub (tys' := []) [] rfl) hTb hS hU hW⟩⟩ rfl rfl hl.1 rfl (lv_room (Nat.le_of_ble_eq_true rfl)) dX1_exactOf_32 ⟨Nat.le_of_ble_eq_true rfl, Nat.le_of_ble_eq_true rfl⟩) (fun r_6 hr_6 => ?_)
              rw [hr_6]
              refine lv_i2l hx hb dX1_exactOf_35 rfl ?_
              refine lv_aload_n hx hb dX1_exactOf_36 rfl (lv_at hl 0 rfl) ?_
              refine va_get (D := D) (ci := 1) (v := .ref (y 3)) (C := RX1) (T := TX1) (N := 8) hx hb hts hin1 hown hK hP 0 rfl rfl 3 (by decide) hf16 (fun _ h9 => h9) rfl dX1_exactOf_37 ?_
              refine lv_bipush (v := (8 : Int32)) hx hb dX1_exactOf_40 (by decide +kernel) ?_
              refine lv_iload hx hb dX1_exactOf_42 (lv_at hl 6 rfl) ?_
              refine cx_imul hx hb 8 y9 dX1_exactOf_44 ?_
              refine lv_iload hx hb dX1_exactOf_45 (lv_at hl 4 rfl) ?_
              refine cx_iadd hx hb (8 * y9) x9 dX1_exactOf_47 ?_
              rw [show 8 * y9 + x9 = y9 * 8 + x9 from by omega]
              refine cx_iald hx hb hK hP 3 2 rfl rfl (y9 * 8 + x9) (by omega) (by decide) dX1_exactOf_48 ?_
              refine lv_sipush (v := (128 : Int32)) hx hb dX1_exactOf_49 (by decide +kernel) ?_
              refine lv_isub hx hb dX1_exactOf_52 ?_
              refine lv_i2l hx hb dX1_exactOf_53 rfl ?_
              refine lv_lmul hx hb dX1_exactOf_54 ?_
              refine lv_ladd hx hb dX1_exactOf_55 ?_
              refine lv_lstore (lv' := [(6, .long ((sumL (fun y9 => (wvN 1 v9 y9).toInt64 * (r2 (y9 * 8 + x9) - 128).toInt64) y9) + (((wvN 1 v9 y9).toInt64) * (((r2 (y9 * 8 + x9)) - (128 : Int32)).toInt64)))), (0, .ref (y 0)), (1, .int (nI v9)), (2, .int (nI u9)), (3, .long (sumL (fun x9 => (wvN 1 u9 x9).toInt64 * eP r2 v9 x9) x9)), (5, .int (nI x9)), (8, .int (nI y9))]) hx hb dX1_exactOf_56 hl (by decide) rfl (fun ls hl => ?_)
              refine lv_iinc (v := nI (y9 + 1)) (lv' := [(8, .int (nI (y9 + 1))), (6, .long ((sumL (fun y9 => (wvN 1 v9 y9).toInt64 * (r2 (y9 * 8 + x9) - 128).toInt64) y9) + (((wvN 1 v9 y9).toInt64) * (((r2 (y9 * 8 + x9)) - (128 : Int32)).toInt64)))), (0, .ref (y 0)), (1, .int (nI v9)), (2, .int (nI u9)), (3, .long (sumL (fun x9 => (wvN 1 u9 x9).toInt64 * eP r2 v9 x9) x9)), (5, .int (nI x9))]) hx hb dX1_exactOf_58 hl (k := 6) rfl (by show nI y9 + 1 = nI (y9 + 1); exact nI_add y9 1) (by decide) rfl (fun ls hl => ?_)
              refine lv_goto (tgt := 18) hx hb dX1_exactOf_61 (by decide) ?_
              exact ih18 (y9 + 1) _ (by omega) (by omega) (lv_sub hl [2, 3, 4, 5, 6, 1, 0] rfl)
        exact L18 _ 0 _ (Nat.lt_succ_self _) (Nat.zero_le _) (lv_sub hl [2, 3, 4, 5, 6, 1, 0] rfl)
  exact L5 _ 0 _ (Nat.lt_succ_self _) (Nat.zero_le _) (lv_sub hl [2, 3, 4, 1, 0] rfl)
