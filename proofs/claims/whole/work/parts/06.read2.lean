theorem dX0_forwardAcross_0 : decode cX0_forwardAcross 0 = .ok (.lconst 0, 1) := by decide +kernel
theorem dX0_forwardAcross_1 : decode cX0_forwardAcross 1 = .ok (.lstore_n 3, 1) := by decide +kernel
theorem dX0_forwardAcross_2 : decode cX0_forwardAcross 2 = .ok (.iconst 0, 1) := by decide +kernel
theorem dX0_forwardAcross_3 : decode cX0_forwardAcross 3 = .ok (.istore 5, 2) := by decide +kernel
theorem dX0_forwardAcross_5 : decode cX0_forwardAcross 5 = .ok (.iload 5, 2) := by decide +kernel
theorem dX0_forwardAcross_7 : decode cX0_forwardAcross 7 = .ok (.bipush 8, 2) := by decide +kernel
theorem dX0_forwardAcross_9 : decode cX0_forwardAcross 9 = .ok (.if_icmp .ge 33, 3) := by decide +kernel
theorem dX0_forwardAcross_12 : decode cX0_forwardAcross 12 = .ok (.lload_n 3, 1) := by decide +kernel
theorem dX0_forwardAcross_13 : decode cX0_forwardAcross 13 = .ok (.iconst 1, 1) := by decide +kernel
theorem dX0_forwardAcross_14 : decode cX0_forwardAcross 14 = .ok (.iload_n 2, 1) := by decide +kernel
theorem dX0_forwardAcross_15 : decode cX0_forwardAcross 15 = .ok (.iload 5, 2) := by decide +kernel
theorem dX0_forwardAcross_17 : decode cX0_forwardAcross 17 = .ok (.invokestatic 96, 3) := by decide +kernel
theorem dX0_forwardAcross_20 : decode cX0_forwardAcross 20 = .ok (.i2l, 1) := by decide +kernel
theorem dX0_forwardAcross_21 : decode cX0_forwardAcross 21 = .ok (.aload_n 0, 1) := by decide +kernel
theorem dX0_forwardAcross_22 : decode cX0_forwardAcross 22 = .ok (.getfield 22, 3) := by decide +kernel
theorem dX0_forwardAcross_25 : decode cX0_forwardAcross 25 = .ok (.iload_n 1, 1) := by decide +kernel
theorem dX0_forwardAcross_26 : decode cX0_forwardAcross 26 = .ok (.bipush 8, 2) := by decide +kernel
theorem dX0_forwardAcross_28 : decode cX0_forwardAcross 28 = .ok (.imul, 1) := by decide +kernel
theorem dX0_forwardAcross_29 : decode cX0_forwardAcross 29 = .ok (.iload 5, 2) := by decide +kernel
theorem dX0_forwardAcross_31 : decode cX0_forwardAcross 31 = .ok (.iadd, 1) := by decide +kernel
theorem dX0_forwardAcross_32 : decode cX0_forwardAcross 32 = .ok (.laload, 1) := by decide +kernel
theorem dX0_forwardAcross_33 : decode cX0_forwardAcross 33 = .ok (.lmul, 1) := by decide +kernel
theorem dX0_forwardAcross_34 : decode cX0_forwardAcross 34 = .ok (.ladd, 1) := by decide +kernel
theorem dX0_forwardAcross_35 : decode cX0_forwardAcross 35 = .ok (.lstore_n 3, 1) := by decide +kernel
theorem dX0_forwardAcross_36 : decode cX0_forwardAcross 36 = .ok (.iinc 5 1, 3) := by decide +kernel
theorem dX0_forwardAcross_39 : decode cX0_forwardAcross 39 = .ok (.goto (-34), 3) := by decide +kernel
theorem dX0_forwardAcross_42 : decode cX0_forwardAcross 42 = .ok (.lload_n 3, 1) := by decide +kernel
theorem dX0_forwardAcross_43 : decode cX0_forwardAcross 43 = .ok (.bipush 17, 2) := by decide +kernel
theorem dX0_forwardAcross_45 : decode cX0_forwardAcross 45 = .ok (.invokestatic 121, 3) := by decide +kernel
theorem dX0_forwardAcross_48 : decode cX0_forwardAcross 48 = .ok (.l2i, 1) := by decide +kernel
theorem dX0_forwardAcross_49 : decode cX0_forwardAcross 49 = .ok (.ireturn, 1) := by decide +kernel
theorem dX0_countOfCoefficients_0 : decode cX0_countOfCoefficients 0 = .ok (.iconst 0, 1) := by decide +kernel
theorem dX0_countOfCoefficients_1 : decode cX0_countOfCoefficients 1 = .ok (.istore_n 1, 1) := by decide +kernel
theorem dX0_countOfCoefficients_2 : decode cX0_countOfCoefficients 2 = .ok (.iconst 0, 1) := by decide +kernel
theorem dX0_countOfCoefficients_3 : decode cX0_countOfCoefficients 3 = .ok (.istore_n 2, 1) := by decide +kernel
theorem dX0_countOfCoefficients_4 : decode cX0_countOfCoefficients 4 = .ok (.iload_n 2, 1) := by decide +kernel
theorem dX0_countOfCoefficients_5 : decode cX0_countOfCoefficients 5 = .ok (.bipush 64, 2) := by decide +kernel
theorem dX0_countOfCoefficients_7 : decode cX0_countOfCoefficients 7 = .ok (.if_icmp .ge 21, 3) := by decide +kernel
theorem dX0_countOfCoefficients_10 : decode cX0_countOfCoefficients 10 = .ok (.aload_n 0, 1) := by decide +kernel
theorem dX0_countOfCoefficients_11 : decode cX0_countOfCoefficients 11 = .ok (.getfield 9, 3) := by decide +kernel
theorem dX0_countOfCoefficients_14 : decode cX0_countOfCoefficients 14 = .ok (.iload_n 2, 1) := by decide +kernel
theorem dX0_countOfCoefficients_15 : decode cX0_countOfCoefficients 15 = .ok (.iaload, 1) := by decide +kernel
theorem dX0_countOfCoefficients_16 : decode cX0_countOfCoefficients 16 = .ok (.ifCond .eq 6, 3) := by decide +kernel
theorem dX0_countOfCoefficients_19 : decode cX0_countOfCoefficients 19 = .ok (.iinc 1 1, 3) := by decide +kernel
theorem dX0_countOfCoefficients_22 : decode cX0_countOfCoefficients 22 = .ok (.iinc 2 1, 3) := by decide +kernel
theorem dX0_countOfCoefficients_25 : decode cX0_countOfCoefficients 25 = .ok (.goto (-21), 3) := by decide +kernel
theorem dX0_countOfCoefficients_28 : decode cX0_countOfCoefficients 28 = .ok (.iload_n 1, 1) := by decide +kernel
theorem dX0_countOfCoefficients_29 : decode cX0_countOfCoefficients 29 = .ok (.ireturn, 1) := by decide +kernel
theorem dX0_lastPlace_0 : decode cX0_lastPlace 0 = .ok (.bipush 63, 2) := by decide +kernel
theorem dX0_lastPlace_2 : decode cX0_lastPlace 2 = .ok (.istore_n 1, 1) := by decide +kernel
theorem dX0_lastPlace_3 : decode cX0_lastPlace 3 = .ok (.iload_n 1, 1) := by decide +kernel
theorem dX0_lastPlace_4 : decode cX0_lastPlace 4 = .ok (.ifCond .lt 24, 3) := by decide +kernel
theorem dX0_lastPlace_7 : decode cX0_lastPlace 7 = .ok (.aload_n 0, 1) := by decide +kernel
theorem dX0_lastPlace_8 : decode cX0_lastPlace 8 = .ok (.getfield 9, 3) := by decide +kernel
theorem dX0_lastPlace_11 : decode cX0_lastPlace 11 = .ok (.getstatic 42, 3) := by decide +kernel
theorem dX0_lastPlace_14 : decode cX0_lastPlace 14 = .ok (.iload_n 1, 1) := by decide +kernel
theorem dX0_lastPlace_15 : decode cX0_lastPlace 15 = .ok (.iaload, 1) := by decide +kernel
theorem dX0_lastPlace_16 : decode cX0_lastPlace 16 = .ok (.iaload, 1) := by decide +kernel
theorem dX0_lastPlace_17 : decode cX0_lastPlace 17 = .ok (.ifCond .eq 5, 3) := by decide +kernel
theorem dX0_lastPlace_20 : decode cX0_lastPlace 20 = .ok (.iload_n 1, 1) := by decide +kernel
theorem dX0_lastPlace_21 : decode cX0_lastPlace 21 = .ok (.ireturn, 1) := by decide +kernel
theorem dX0_lastPlace_22 : decode cX0_lastPlace 22 = .ok (.iinc 1 (-1), 3) := by decide +kernel
theorem dX0_lastPlace_25 : decode cX0_lastPlace 25 = .ok (.goto (-22), 3) := by decide +kernel
theorem dX0_lastPlace_28 : decode cX0_lastPlace 28 = .ok (.iconst (-1), 1) := by decide +kernel
theorem dX0_lastPlace_29 : decode cX0_lastPlace 29 = .ok (.ireturn, 1) := by decide +kernel
theorem dX0_sumOfMagnitudes_0 : decode cX0_sumOfMagnitudes 0 = .ok (.iconst 0, 1) := by decide +kernel
theorem dX0_sumOfMagnitudes_1 : decode cX0_sumOfMagnitudes 1 = .ok (.istore_n 1, 1) := by decide +kernel
theorem dX0_sumOfMagnitudes_2 : decode cX0_sumOfMagnitudes 2 = .ok (.iconst 0, 1) := by decide +kernel
theorem dX0_sumOfMagnitudes_3 : decode cX0_sumOfMagnitudes 3 = .ok (.istore_n 2, 1) := by decide +kernel
theorem dX0_sumOfMagnitudes_4 : decode cX0_sumOfMagnitudes 4 = .ok (.iload_n 2, 1) := by decide +kernel
theorem dX0_sumOfMagnitudes_5 : decode cX0_sumOfMagnitudes 5 = .ok (.bipush 64, 2) := by decide +kernel
theorem dX0_sumOfMagnitudes_7 : decode cX0_sumOfMagnitudes 7 = .ok (.if_icmp .ge 21, 3) := by decide +kernel
theorem dX0_sumOfMagnitudes_10 : decode cX0_sumOfMagnitudes 10 = .ok (.iload_n 1, 1) := by decide +kernel
theorem dX0_sumOfMagnitudes_11 : decode cX0_sumOfMagnitudes 11 = .ok (.aload_n 0, 1) := by decide +kernel
theorem dX0_sumOfMagnitudes_12 : decode cX0_sumOfMagnitudes 12 = .ok (.getfield 9, 3) := by decide +kernel
theorem dX0_sumOfMagnitudes_15 : decode cX0_sumOfMagnitudes 15 = .ok (.iload_n 2, 1) := by decide +kernel
theorem dX0_sumOfMagnitudes_16 : decode cX0_sumOfMagnitudes 16 = .ok (.iaload, 1) := by decide +kernel
theorem dX0_sumOfMagnitudes_17 : decode cX0_sumOfMagnitudes 17 = .ok (.invokestatic 116, 3) := by decide +kernel
theorem dX0_sumOfMagnitudes_20 : decode cX0_sumOfMagnitudes 20 = .ok (.iadd, 1) := by decide +kernel
theorem dX0_sumOfMagnitudes_21 : decode cX0_sumOfMagnitudes 21 = .ok (.istore_n 1, 1) := by decide +kernel
theorem dX0_sumOfMagnitudes_22 : decode cX0_sumOfMagnitudes 22 = .ok (.iinc 2 1, 3) := by decide +kernel
theorem dX0_sumOfMagnitudes_25 : decode cX0_sumOfMagnitudes 25 = .ok (.goto (-21), 3) := by decide +kernel
theorem dX0_sumOfMagnitudes_28 : decode cX0_sumOfMagnitudes 28 = .ok (.iload_n 1, 1) := by decide +kernel
theorem dX0_sumOfMagnitudes_29 : decode cX0_sumOfMagnitudes 29 = .ok (.ireturn, 1) := by decide +kernel
theorem dX0_sumOf_0 : decode cX0_sumOf 0 = .ok (.iconst 0, 1) := by decide +kernel
theorem dX0_sumOf_1 : decode cX0_sumOf 1 = .ok (.istore_n 1, 1) := by decide +kernel
theorem dX0_sumOf_2 : decode cX0_sumOf 2 = .ok (.aload_n 0, 1) := by decide +kernel
theorem dX0_sumOf_3 : decode cX0_sumOf 3 = .ok (.astore_n 2, 1) := by decide +kernel
theorem dX0_sumOf_4 : decode cX0_sumOf 4 = .ok (.aload_n 2, 1) := by decide +kernel
theorem dX0_sumOf_5 : decode cX0_sumOf 5 = .ok (.arraylength, 1) := by decide +kernel
theorem dX0_sumOf_6 : decode cX0_sumOf 6 = .ok (.istore_n 3, 1) := by decide +kernel
theorem dX0_sumOf_7 : decode cX0_sumOf 7 = .ok (.iconst 0, 1) := by decide +kernel
theorem dX0_sumOf_8 : decode cX0_sumOf 8 = .ok (.istore 4, 2) := by decide +kernel
theorem dX0_sumOf_10 : decode cX0_sumOf 10 = .ok (.iload 4, 2) := by decide +kernel
theorem dX0_sumOf_12 : decode cX0_sumOf 12 = .ok (.iload_n 3, 1) := by decide +kernel
theorem dX0_sumOf_13 : decode cX0_sumOf 13 = .ok (.if_icmp .ge 20, 3) := by decide +kernel
theorem dX0_sumOf_16 : decode cX0_sumOf 16 = .ok (.aload_n 2, 1) := by decide +kernel
theorem dX0_sumOf_17 : decode cX0_sumOf 17 = .ok (.iload 4, 2) := by decide +kernel
theorem dX0_sumOf_19 : decode cX0_sumOf 19 = .ok (.iaload, 1) := by decide +kernel
theorem dX0_sumOf_20 : decode cX0_sumOf 20 = .ok (.istore 5, 2) := by decide +kernel
theorem dX0_sumOf_22 : decode cX0_sumOf 22 = .ok (.iload_n 1, 1) := by decide +kernel
theorem dX0_sumOf_23 : decode cX0_sumOf 23 = .ok (.iload 5, 2) := by decide +kernel
theorem dX0_sumOf_25 : decode cX0_sumOf 25 = .ok (.iadd, 1) := by decide +kernel
theorem dX0_sumOf_26 : decode cX0_sumOf 26 = .ok (.istore_n 1, 1) := by decide +kernel
theorem dX0_sumOf_27 : decode cX0_sumOf 27 = .ok (.iinc 4 1, 3) := by decide +kernel
theorem dX0_sumOf_30 : decode cX0_sumOf 30 = .ok (.goto (-20), 3) := by decide +kernel
theorem dX0_sumOf_33 : decode cX0_sumOf 33 = .ok (.iload_n 1, 1) := by decide +kernel
theorem dX0_sumOf_34 : decode cX0_sumOf 34 = .ok (.ireturn, 1) := by decide +kernel
theorem dX0_look_0 : decode cX0_look 0 = .ok (.iload_n 1, 1) := by decide +kernel
theorem dX0_look_1 : decode cX0_look 1 = .ok (.tableswitch 66 0 4 #[35, 40, 45, 53, 61], 35) := by decide +kernel
theorem dX0_look_36 : decode cX0_look 36 = .ok (.aload_n 0, 1) := by decide +kernel
theorem dX0_look_37 : decode cX0_look 37 = .ok (.invokevirtual 83, 3) := by decide +kernel
theorem dX0_look_40 : decode cX0_look 40 = .ok (.ireturn, 1) := by decide +kernel
theorem dX0_look_41 : decode cX0_look 41 = .ok (.aload_n 0, 1) := by decide +kernel
theorem dX0_look_42 : decode cX0_look 42 = .ok (.invokevirtual 100, 3) := by decide +kernel
theorem dX0_look_45 : decode cX0_look 45 = .ok (.ireturn, 1) := by decide +kernel
theorem dX0_look_46 : decode cX0_look 46 = .ok (.aload_n 0, 1) := by decide +kernel
theorem dX0_look_47 : decode cX0_look 47 = .ok (.getfield 13, 3) := by decide +kernel
theorem dX0_look_50 : decode cX0_look 50 = .ok (.invokestatic 103, 3) := by decide +kernel
theorem dX0_look_53 : decode cX0_look 53 = .ok (.ireturn, 1) := by decide +kernel
theorem dX0_look_54 : decode cX0_look 54 = .ok (.aload_n 0, 1) := by decide +kernel
theorem dX0_look_55 : decode cX0_look 55 = .ok (.getfield 16, 3) := by decide +kernel
theorem dX0_look_58 : decode cX0_look 58 = .ok (.invokestatic 103, 3) := by decide +kernel
theorem dX0_look_61 : decode cX0_look 61 = .ok (.ireturn, 1) := by decide +kernel
theorem dX0_look_62 : decode cX0_look 62 = .ok (.aload_n 0, 1) := by decide +kernel
theorem dX0_look_63 : decode cX0_look 63 = .ok (.invokevirtual 107, 3) := by decide +kernel
theorem dX0_look_66 : decode cX0_look 66 = .ok (.ireturn, 1) := by decide +kernel
theorem dX0_look_67 : decode cX0_look 67 = .ok (.iconst (-1), 1) := by decide +kernel
theorem dX0_look_68 : decode cX0_look 68 = .ok (.ireturn, 1) := by decide +kernel
theorem dX0_order_0 : decode cX0_order 0 = .ok (.iload_n 1, 1) := by decide +kernel
theorem dX0_order_1 : decode cX0_order 1 = .ok (.invokestatic 53, 3) := by decide +kernel
theorem dX0_order_4 : decode cX0_order 4 = .ok (.ifCond .eq 10, 3) := by decide +kernel
theorem dX0_order_7 : decode cX0_order 7 = .ok (.iload_n 2, 1) := by decide +kernel
theorem dX0_order_8 : decode cX0_order 8 = .ok (.invokestatic 53, 3) := by decide +kernel
theorem dX0_order_11 : decode cX0_order 11 = .ok (.ifCond .ne 5, 3) := by decide +kernel
theorem dX0_order_14 : decode cX0_order 14 = .ok (.iconst (-1), 1) := by decide +kernel
theorem dX0_order_15 : decode cX0_order 15 = .ok (.ireturn, 1) := by decide +kernel
theorem dX0_order_16 : decode cX0_order 16 = .ok (.getstatic 91, 3) := by decide +kernel
theorem dX0_order_19 : decode cX0_order 19 = .ok (.iload_n 1, 1) := by decide +kernel
theorem dX0_order_20 : decode cX0_order 20 = .ok (.bipush 8, 2) := by decide +kernel
theorem dX0_order_22 : decode cX0_order 22 = .ok (.imul, 1) := by decide +kernel
theorem dX0_order_23 : decode cX0_order 23 = .ok (.iload_n 2, 1) := by decide +kernel
theorem dX0_order_24 : decode cX0_order 24 = .ok (.iadd, 1) := by decide +kernel
theorem dX0_order_25 : decode cX0_order 25 = .ok (.iaload, 1) := by decide +kernel
theorem dX0_order_26 : decode cX0_order 26 = .ok (.ireturn, 1) := by decide +kernel
theorem dX0_samples_0 : decode cX0_samples 0 = .ok (.iload_n 1, 1) := by decide +kernel
theorem dX0_samples_1 : decode cX0_samples 1 = .ok (.invokestatic 53, 3) := by decide +kernel
theorem dX0_samples_4 : decode cX0_samples 4 = .ok (.ifCond .ne 5, 3) := by decide +kernel
theorem dX0_samples_7 : decode cX0_samples 7 = .ok (.lconst 0, 1) := by decide +kernel
theorem dX0_samples_8 : decode cX0_samples 8 = .ok (.lreturn, 1) := by decide +kernel
theorem dX0_samples_9 : decode cX0_samples 9 = .ok (.lconst 0, 1) := by decide +kernel
theorem dX0_samples_10 : decode cX0_samples 10 = .ok (.lstore_n 2, 1) := by decide +kernel
theorem dX0_samples_11 : decode cX0_samples 11 = .ok (.iconst 0, 1) := by decide +kernel
theorem dX0_samples_12 : decode cX0_samples 12 = .ok (.istore 4, 2) := by decide +kernel
theorem dX0_samples_14 : decode cX0_samples 14 = .ok (.iload 4, 2) := by decide +kernel
theorem dX0_samples_16 : decode cX0_samples 16 = .ok (.bipush 8, 2) := by decide +kernel
theorem dX0_samples_18 : decode cX0_samples 18 = .ok (.if_icmp .ge 28, 3) := by decide +kernel
theorem dX0_samples_21 : decode cX0_samples 21 = .ok (.lload_n 2, 1) := by decide +kernel
theorem dX0_samples_22 : decode cX0_samples 22 = .ok (.bipush 8, 2) := by decide +kernel
theorem dX0_samples_24 : decode cX0_samples 24 = .ok (.lshl, 1) := by decide +kernel
theorem dX0_samples_25 : decode cX0_samples 25 = .ok (.aload_n 0, 1) := by decide +kernel
theorem dX0_samples_26 : decode cX0_samples 26 = .ok (.getfield 16, 3) := by decide +kernel
theorem dX0_samples_29 : decode cX0_samples 29 = .ok (.iload_n 1, 1) := by decide +kernel
theorem dX0_samples_30 : decode cX0_samples 30 = .ok (.bipush 8, 2) := by decide +kernel
theorem dX0_samples_32 : decode cX0_samples 32 = .ok (.imul, 1) := by decide +kernel
theorem dX0_samples_33 : decode cX0_samples 33 = .ok (.iload 4, 2) := by decide +kernel
theorem dX0_samples_35 : decode cX0_samples 35 = .ok (.iadd, 1) := by decide +kernel
theorem dX0_samples_36 : decode cX0_samples 36 = .ok (.iaload, 1) := by decide +kernel
theorem dX0_samples_37 : decode cX0_samples 37 = .ok (.i2l, 1) := by decide +kernel
theorem dX0_samples_38 : decode cX0_samples 38 = .ok (.lor, 1) := by decide +kernel
theorem dX0_samples_39 : decode cX0_samples 39 = .ok (.lstore_n 2, 1) := by decide +kernel
theorem dX0_samples_40 : decode cX0_samples 40 = .ok (.iinc 4 1, 3) := by decide +kernel
theorem dX0_samples_43 : decode cX0_samples 43 = .ok (.goto (-29), 3) := by decide +kernel
theorem dX0_samples_46 : decode cX0_samples 46 = .ok (.lload_n 2, 1) := by decide +kernel
theorem dX0_samples_47 : decode cX0_samples 47 = .ok (.lreturn, 1) := by decide +kernel
set_option maxHeartbeats 4000000 in
set_option maxRecDepth 100000 in
/-- E(v, u) -/
theorem m_forwardAcross (l : Launch) (D : va_G) (x : Nat → Nat) (cd : Nat → ClassId) (f0 f1 f2 f3 : Nat → Int32) (g : Nat → Int64) (v9 u9 : Nat) (h1 : v9 < 8) (h2 : u9 < 8) : Met l yX0_forwardAcross wsX0_forwardAcross ({ frames := 2, cells := 0, slots := 0, locals := 43 } : Room) (va_Pc [.ref (x 0), .int (nI v9), .int (nI u9)] (cro D (cw x cd f0 f1 f2 f3 g) (cty cd))) (vp_Si (fun r => r = fE (fun a9 b9 => g (a9 * 8 + b9)) v9 u9)) 0 0 (fun _ => False) := by
  refine Met.ofW (cc := cX0_forwardAcross) (maxL := 6) (ret := some .int) (by decide) rfl ?_
  intro p e s m args below meth c s₁ B hml hv
  obtain ⟨rfl, hP, hK, hTb⟩ := hv
  have hx := B.exec
  have hb := B.bytes
  have hr := B.returns
  have hts : ∀ w ∈ wA, w.before _ s = true := fun w h => atoms_spec (ws := wsX0_forwardAcross) B.pre w (List.mem_cons_of_mem _ h)
  have hown : s.vm.findClass RX0 = some m.cls := findClass_of_methodNamed B.named
  have hlocks := B.notSynchronized
  have hS : va_S (fun _ => False) s.heap s.heap [] := va_S.rf
  have hin0 := inA0
  have hf22 := (hts _ wm_32)
  have hl := lv_entry ([.ref (x 0), .int (nI v9), .int (nI u9)]) (n := 6) (Nat.le_of_ble_eq_true rfl)
  rw [lg_entry_eq]
  generalize (lg_sl ([.ref (x 0), .int (nI v9), .int (nI u9)]) ++ List.replicate (6 - (lg_sl ([.ref (x 0), .int (nI v9), .int (nI u9)])).length) Slot.unset).toArray = ls at hl ⊢
  have hl : lv_has ls 6 [(0, .ref (x 0)), (1, .int (nI v9)), (2, .int (nI u9))] := hl
  refine lv_lconst (v := (0 : Int64)) hx hb dX0_forwardAcross_0 (by decide +kernel) ?_
  refine lv_lstore_n (lv' := [(3, .long (0 : Int64)), (0, .ref (x 0)), (1, .int (nI v9)), (2, .int (nI u9))]) hx hb dX0_forwardAcross_1 rfl hl (by decide) rfl (fun ls hl => ?_)
  refine lv_iconst (v := (0 : Int32)) hx hb dX0_forwardAcross_2 (by decide +kernel) ?_
  refine lv_istore (lv' := [(5, .int (0 : Int32)), (3, .long (0 : Int64)), (0, .ref (x 0)), (1, .int (nI v9)), (2, .int (nI u9))]) hx hb dX0_forwardAcross_3 hl (by decide) rfl (fun ls hl => ?_)
  have L5 : ∀ (n : Nat) (i9 : Nat) (ls : Array Slot), (8 - i9) < n → (i9 ≤ 8) → lv_has ls 6 [(0, .ref (x 0)), (1, .int (nI v9)), (2, .int (nI u9)), (3, .long (sumL (fun x9 => (wvN 1 u9 x9).toInt64 * g (v9 * 8 + x9)) i9)), (5, .int (nI i9))] → W p l e ((headSpec wsX0_forwardAcross ({ frames := 2, cells := 0, slots := 0, locals := 43 } : Room)).room) s m (([.ref (x 0), .int (nI v9), .int (nI u9)] : List Value).toArray) below meth c s.heap [] 0 0 (MQ below (vp_Si (fun r => r = fE (fun a9 b9 => g (a9 * 8 + b9)) v9 u9)) ([.ref (x 0), .int (nI v9), .int (nI u9)] : List Value).toArray s 0 0 (fun _ => False)) (F0 m 5 ls []) := by
    intro n
    induction n with
    | zero =>
      intro i9 ls hn
      exact absurd hn (Nat.not_lt_zero _)
    | succ n ih5 =>
      intro i9 ls hn5 hi9 hl
      refine lv_iload hx hb dX0_forwardAcross_5 (lv_at hl 4 rfl) ?_
      refine lv_bipush (v := (8 : Int32)) hx hb dX0_forwardAcross_7 (by decide +kernel) ?_
      refine cx_icmp_ge (i := ((i9 : Nat) : Int)) (j := 8) (tgt := 42) hx hb (nI_toInt (by omega)) (by decide +kernel) dX0_forwardAcross_9 (by decide) (fun c_1 => ?_) (fun c_1 => ?_)
      · refine lv_lload_n hx hb dX0_forwardAcross_42 rfl (lv_at hl 3 rfl) ?_
        refine lv_bipush (v := (17 : Int32)) hx hb dX0_forwardAcross_43 (by decide +kernel) ?_
        refine vp_callSl (W.runS (As := [.long (sumL (fun x9 => (wvN 1 u9 x9).toInt64 * g (v9 * 8 + x9)) i9), .int (17 : Int32)]) (rest := []) ⟨hx, hb, hml, hown, hts⟩ (m_rounded l D (sumL (fun x9 => (wvN 1 u9 x9).toInt64 * g (v9 * 8 + x9)) i9) (17 : Int32)) (va_cwS 2 hts (gw_S wm_62 wm_63 wm_12 wm_64) rfl rfl rfl (by decide +kernel) ⟨Nat.le_of_ble_eq_true rfl, Nat.le_of_ble_eq_true rfl⟩) ⟨cro_blind, fun U hU hW => ⟨rfl, cro_at (hP.sub (ws' := []) [] rfl) (hK.sub (tys' := []) [] rfl) hTb hS hU hW⟩⟩ rfl rfl hl.1 rfl (lv_room (Nat.le_of_ble_eq_true rfl)) dX0_forwardAcross_45 ⟨Nat.le_of_ble_eq_true rfl, Nat.le_of_ble_eq_true rfl⟩) (fun r_2 hr_2 => ?_)
        rw [hr_2]
        refine lv_l2i hx hb dX0_forwardAcross_48 rfl ?_
        exact W.iret (v := (rdL (sumL (fun x9 => (wvN 1 u9 x9).toInt64 * g (v9 * 8 + x9)) i9) (17 : Int32)).toInt32) hx hb hr (fun t ht hW => ⟨_, rfl, (by obtain rfl : i9 = 8 := (by omega); rfl), ht⟩) (fun _ h9 => by cases h9) dX0_forwardAcross_49
      · refine lv_lload_n hx hb dX0_forwardAcross_12 rfl (lv_at hl 3 rfl) ?_
        refine lv_iconst (v := (1 : Int32)) hx hb dX0_forwardAcross_13 (by decide +kernel) ?_
        refine lv_iload_n hx hb dX0_forwardAcross_14 rfl (lv_at hl 2 rfl) ?_
        refine lv_iload hx hb dX0_forwardAcross_15 (lv_at hl 4 rfl) ?_
        refine vp_callSi (W.runS (As := [.int (1 : Int32), .int (nI u9), .int (nI i9)]) (rest := [.long (sumL (fun x9 => (wvN 1 u9 x9).toInt64 * g (v9 * 8 + x9)) i9)]) ⟨hx, hb, hml, hown, hts⟩ (m_waveAt l D 1 u9 i9 (by omega) (by omega) (by omega)) (va_cwS 3 hts (gw_S wm_54 wm_55 wm_12 wm_56) rfl rfl rfl (by decide +kernel) ⟨Nat.le_of_ble_eq_true rfl, Nat.le_of_ble_eq_true rfl⟩) ⟨cro_blind, fun U hU hW => ⟨rfl, cro_at (hP.sub (ws' := []) [] rfl) (hK.sub (tys' := []) [] rfl) hTb hS hU hW⟩⟩ rfl rfl hl.1 rfl (lv_room (Nat.le_of_ble_eq_true rfl)) dX0_forwardAcross_17 ⟨Nat.le_of_ble_eq_true rfl, Nat.le_of_ble_eq_true rfl⟩) (fun r_3 hr_3 => ?_)
        rw [hr_3]
        refine lv_i2l hx hb dX0_forwardAcross_20 rfl ?_
        refine lv_aload_n hx hb dX0_forwardAcross_21 rfl (lv_at hl 0 rfl) ?_
        refine va_get (D := D) (ci := 0) (v := .ref (x 5)) (C := RX0) (T := TX0) (N := 5) hx hb hts hin0 hown hK hP 0 rfl rfl 4 (by decide) hf22 (fun _ h9 => h9) rfl dX0_forwardAcross_22 ?_
        refine lv_iload_n hx hb dX0_forwardAcross_25 rfl (lv_at hl 1 rfl) ?_
        refine lv_bipush (v := (8 : Int32)) hx hb dX0_forwardAcross_26 (by decide +kernel) ?_
        refine cx_imul hx hb v9 8 dX0_forwardAcross_28 ?_
        refine lv_iload hx hb dX0_forwardAcross_29 (lv_at hl 4 rfl) ?_
        refine cx_iadd hx hb (v9 * 8) i9 dX0_forwardAcross_31 ?_
        refine cx_lald hx hb hK hP 5 4 rfl rfl (v9 * 8 + i9) (by omega) (by decide) dX0_forwardAcross_32 ?_
        refine lv_lmul hx hb dX0_forwardAcross_33 ?_
        refine lv_ladd hx hb dX0_forwardAcross_34 ?_
        refine lv_lstore_n (lv' := [(3, .long ((sumL (fun x9 => (wvN 1 u9 x9).toInt64 * g (v9 * 8 + x9)) i9) + (((wvN 1 u9 i9).toInt64) * (g (v9 * 8 + i9))))), (0, .ref (x 0)), (1, .int (nI v9)), (2, .int (nI u9)), (5, .int (nI i9))]) hx hb dX0_forwardAcross_35 rfl hl (by decide) rfl (fun ls hl => ?_)
        refine lv_iinc (v := nI (i9 + 1)) (lv' := [(5, .int (nI (i9 + 1))), (3, .long ((sumL (fun x9 => (wvN 1 u9 x9).toInt64 * g (v9 * 8 + x9)) i9) + (((wvN 1 u9 i9).toInt64) * (g (v9 * 8 + i9))))), (0, .ref (x 0)), (1, .int (nI v9)), (2, .int (nI u9))]) hx hb dX0_forwardAcross_36 hl (k := 4) rfl (by show nI i9 + 1 = nI (i9 + 1); exact nI_add i9 1) (by decide) rfl (fun ls hl => ?_)
        refine lv_goto (tgt := 5) hx hb dX0_forwardAcross_39 (by decide) ?_
        exact ih5 (i9 + 1) _ (by omega) (by omega) (lv_sub hl [2, 3, 4, 1, 0] rfl)
  exact L5 _ 0 _ (Nat.lt_succ_self _) (Nat.zero_le _) (lv_sub hl [2, 3, 4, 1, 0] rfl)
set_option maxHeartbeats 4000000 in
set_option maxRecDepth 100000 in
/-- COEFFICIENTS that are not 0 -/
theorem m_count (l : Launch) (D : va_G) (x : Nat → Nat) (cd : Nat → ClassId) (f0 f1 f2 f3 : Nat → Int32) (g : Nat → Int64) : Met l yX0_countOfCoefficients wsX0_countOfCoefficients ({ frames := 0, cells := 0, slots := 0, locals := 0 } : Room) (va_Pc [.ref (x 0)] (cro D (cw x cd f0 f1 f2 f3 g) (cty cd))) (vp_Si (fun r => r = cntI f0 64)) 0 0 (fun _ => False) := by
  refine Met.ofW (cc := cX0_countOfCoefficients) (maxL := 3) (ret := some .int) (by decide) rfl ?_
  intro p e s m args below meth c s₁ B hml hv
  obtain ⟨rfl, hP, hK, hTb⟩ := hv
  have hx := B.exec
  have hb := B.bytes
  have hr := B.returns
  have hts : ∀ w ∈ wA, w.before _ s = true := fun w h => atoms_spec (ws := wsX0_countOfCoefficients) B.pre w (List.mem_cons_of_mem _ h)
  have hown : s.vm.findClass RX0 = some m.cls := findClass_of_methodNamed B.named
  have hlocks := B.notSynchronized
  have hS : va_S (fun _ => False) s.heap s.heap [] := va_S.rf
  have hin0 := inA0
  have hf9 := (hts _ wm_28)
  have hl := lv_entry ([.ref (x 0)]) (n := 3) (Nat.le_of_ble_eq_true rfl)
  rw [lg_entry_eq]
  generalize (lg_sl ([.ref (x 0)]) ++ List.replicate (3 - (lg_sl ([.ref (x 0)])).length) Slot.unset).toArray = ls at hl ⊢
  have hl : lv_has ls 3 [(0, .ref (x 0))] := hl
  refine lv_iconst (v := (0 : Int32)) hx hb dX0_countOfCoefficients_0 (by decide +kernel) ?_
  refine lv_istore_n (lv' := [(1, .int (0 : Int32)), (0, .ref (x 0))]) hx hb dX0_countOfCoefficients_1 rfl hl (by decide) rfl (fun ls hl => ?_)
  refine lv_iconst (v := (0 : Int32)) hx hb dX0_countOfCoefficients_2 (by decide +kernel) ?_
  refine lv_istore_n (lv' := [(2, .int (0 : Int32)), (1, .int (0 : Int32)), (0, .ref (x 0))]) hx hb dX0_countOfCoefficients_3 rfl hl (by decide) rfl (fun ls hl => ?_)
  have L4 : ∀ (n : Nat) (i9 : Nat) (ls : Array Slot), (64 - i9) < n → (i9 ≤ 64) → lv_has ls 3 [(0, .ref (x 0)), (1, .int (cntI f0 i9)), (2, .int (nI i9))] → W p l e ((headSpec wsX0_countOfCoefficients ({ frames := 0, cells := 0, slots := 0, locals := 0 } : Room)).room) s m (([.ref (x 0)] : List Value).toArray) below meth c s.heap [] 0 0 (MQ below (vp_Si (fun r => r = cntI f0 64)) ([.ref (x 0)] : List Value).toArray s 0 0 (fun _ => False)) (F0 m 4 ls []) := by
    intro n
    induction n with
    | zero =>
      intro i9 ls hn
      exact absurd hn (Nat.not_lt_zero _)
    | succ n ih4 =>
      intro i9 ls hn4 hi9 hl
      refine lv_iload_n hx hb dX0_countOfCoefficients_4 rfl (lv_at hl 2 rfl) ?_
      refine lv_bipush (v := (64 : Int32)) hx hb dX0_countOfCoefficients_5 (by decide +kernel) ?_
      refine cx_icmp_ge (i := ((i9 : Nat) : Int)) (j := 64) (tgt := 28) hx hb (nI_toInt (by omega)) (by decide +kernel) dX0_countOfCoefficients_7 (by decide) (fun c_1 => ?_) (fun c_1 => ?_)
      · refine lv_iload_n hx hb dX0_countOfCoefficients_28 rfl (lv_at hl 1 rfl) ?_
        exact W.iret (v := cntI f0 i9) hx hb hr (fun t ht hW => ⟨_, rfl, (by obtain rfl : i9 = 64 := (by omega); rfl), ht⟩) (fun _ h9 => by cases h9) dX0_countOfCoefficients_29
      · refine lv_aload_n hx hb dX0_countOfCoefficients_10 rfl (lv_at hl 0 rfl) ?_
        refine va_get (D := D) (ci := 0) (v := .ref (x 1)) (C := RX0) (T := TX0) (N := 5) hx hb hts hin0 hown hK hP 0 rfl rfl 0 (by decide) hf9 (fun _ h9 => h9) rfl dX0_countOfCoefficients_11 ?_
        refine lv_iload_n hx hb dX0_countOfCoefficients_14 rfl (lv_at hl 2 rfl) ?_
        refine cx_iald hx hb hK hP 1 0 rfl rfl i9 (by omega) (by decide) dX0_countOfCoefficients_15 ?_
        refine cx_if_eq (i := (f0 i9).toInt) (j := 0) (tgt := 22) hx hb rfl rfl dX0_countOfCoefficients_16 (by decide) (fun c_2 => ?_) (fun c_2 => ?_)
        · refine lv_iinc (v := nI (i9 + 1)) (lv' := [(2, .int (nI (i9 + 1))), (0, .ref (x 0)), (1, .int (cntI f0 i9))]) hx hb dX0_countOfCoefficients_22 hl (k := 2) rfl (by show nI i9 + 1 = nI (i9 + 1); exact nI_add i9 1) (by decide) rfl (fun ls hl => ?_)
          refine lv_goto (tgt := 4) hx hb dX0_countOfCoefficients_25 (by decide) ?_
          have e_3 : cntI f0 i9 = cntI f0 (i9 + 1) := cntI_z c_2
          rw [e_3] at hl
          exact ih4 (i9 + 1) _ (by omega) (by omega) (lv_sub hl [1, 2, 0] rfl)
        · refine lv_iinc (v := cntI f0 i9 + 1) (lv' := [(1, .int (cntI f0 i9 + 1)), (0, .ref (x 0)), (2, .int (nI i9))]) hx hb dX0_countOfCoefficients_19 hl (k := 1) rfl rfl (by decide) rfl (fun ls hl => ?_)
          refine lv_iinc (v := nI (i9 + 1)) (lv' := [(2, .int (nI (i9 + 1))), (1, .int (cntI f0 i9 + 1)), (0, .ref (x 0))]) hx hb dX0_countOfCoefficients_22 hl (k := 2) rfl (by show nI i9 + 1 = nI (i9 + 1); exact nI_add i9 1) (by decide) rfl (fun ls hl => ?_)
          refine lv_goto (tgt := 4) hx hb dX0_countOfCoefficients_25 (by decide) ?_
          have e_4 : cntI f0 i9 + 1 = cntI f0 (i9 + 1) := cntI_s c_2
          rw [e_4] at hl
          exact ih4 (i9 + 1) _ (by omega) (by omega) (lv_sub hl [2, 1, 0] rfl)
  exact L4 _ 0 _ (Nat.lt_succ_self _) (Nat.zero_le _) (lv_sub hl [2, 1, 0] rfl)
set_option maxHeartbeats 4000000 in
set_option maxRecDepth 100000 in
/-- the last place of a COEFFICIENT that is not 0 -/
theorem m_lastPlace (l : Launch) (D : va_G) (x : Nat → Nat) (cd : Nat → ClassId) (f0 f1 f2 f3 : Nat → Int32) (g : Nat → Int64) : Met l yX0_lastPlace wsX0_lastPlace ({ frames := 0, cells := 0, slots := 0, locals := 0 } : Room) (va_Pc [.ref (x 0)] (cro D (cw x cd f0 f1 f2 f3 g) (cty cd))) (vp_Si (fun r => r = lastI (fun j => f0 (cCn j)) 64)) 0 0 (fun _ => False) := by
  refine Met.ofW (cc := cX0_lastPlace) (maxL := 2) (ret := some .int) (by decide) rfl ?_
  intro p e s m args below meth c s₁ B hml hv
  obtain ⟨rfl, hP, hK, hTb⟩ := hv
  have hx := B.exec
  have hb := B.bytes
  have hr := B.returns
  have hts : ∀ w ∈ wA, w.before _ s = true := fun w h => atoms_spec (ws := wsX0_lastPlace) B.pre w (List.mem_cons_of_mem _ h)
  have hown : s.vm.findClass RX0 = some m.cls := findClass_of_methodNamed B.named
  have hlocks := B.notSynchronized
  have hS : va_S (fun _ => False) s.heap s.heap [] := va_S.rf
  have hin0 := inA0
  have hf9 := (hts _ wm_28)
  obtain ⟨⟨t0, hZ0, hT0⟩, ⟨t1, hZ1, hT1⟩, ⟨t2, hZ2, hT2⟩, -⟩ := id hTb
  have hl := lv_entry ([.ref (x 0)]) (n := 2) (Nat.le_of_ble_eq_true rfl)
  rw [lg_entry_eq]
  generalize (lg_sl ([.ref (x 0)]) ++ List.replicate (2 - (lg_sl ([.ref (x 0)])).length) Slot.unset).toArray = ls at hl ⊢
  have hl : lv_has ls 2 [(0, .ref (x 0))] := hl
  refine lv_bipush (v := (63 : Int32)) hx hb dX0_lastPlace_0 (by decide +kernel) ?_
  refine lv_istore_n (lv' := [(1, .int (63 : Int32)), (0, .ref (x 0))]) hx hb dX0_lastPlace_2 rfl hl (by decide) rfl (fun ls hl => ?_)
  have L3 : ∀ (n : Nat) (k9 : Nat) (ls : Array Slot), k9 < n → (k9 ≤ 64) → (lastI (fun j => f0 (cCn j)) 64 = lastI (fun j => f0 (cCn j)) k9) → lv_has ls 2 [(0, .ref (x 0)), (1, .int (dnI k9))] → W p l e ((headSpec wsX0_lastPlace ({ frames := 0, cells := 0, slots := 0, locals := 0 } : Room)).room) s m (([.ref (x 0)] : List Value).toArray) below meth c s.heap [] 0 0 (MQ below (vp_Si (fun r => r = lastI (fun j => f0 (cCn j)) 64)) ([.ref (x 0)] : List Value).toArray s 0 0 (fun _ => False)) (F0 m 3 ls []) := by
    intro n
    induction n with
    | zero =>
      intro k9 ls hn
      exact absurd hn (Nat.not_lt_zero _)
    | succ n ih3 =>
      intro k9 ls hn3 hk9 hp9 hl
      rcases k9 with _ | k9
      · have hl : lv_has ls 2 [(0, .ref (x 0)), (1, .int (-1 : Int32))] := hl
        refine lv_iload_n hx hb dX0_lastPlace_3 rfl (lv_at hl 1 rfl) ?_
        refine cx_if_lt (i := (-1)) (j := 0) (tgt := 28) hx hb (by decide +kernel) rfl dX0_lastPlace_4 (by decide) (fun c_1 => ?_) (fun c_1 => absurd c_1 (by decide))
        refine lv_iconst (v := (-1 : Int32)) hx hb dX0_lastPlace_28 (by decide +kernel) ?_
        exact W.iret (v := (-1 : Int32)) hx hb hr (fun t ht hW => ⟨_, rfl, hp9.symm, ht⟩) (fun _ h9 => by cases h9) dX0_lastPlace_29
      · have hl : lv_has ls 2 [(0, .ref (x 0)), (1, .int (nI k9))] := hl
        refine lv_iload_n hx hb dX0_lastPlace_3 rfl (lv_at hl 1 rfl) ?_
        refine cx_if_lt (i := ((k9 : Nat) : Int)) (j := 0) (tgt := 28) hx hb (nI_toInt (by omega)) rfl dX0_lastPlace_4 (by decide) (fun c_2 => absurd c_2 (by omega)) (fun c_2 => ?_)
        refine lv_aload_n hx hb dX0_lastPlace_7 rfl (lv_at hl 0 rfl) ?_
        refine va_get (D := D) (ci := 0) (v := .ref (x 1)) (C := RX0) (T := TX0) (N := 5) hx hb hts hin0 hown hK hP 0 rfl rfl 0 (by decide) hf9 (fun _ h9 => h9) rfl dX0_lastPlace_8 ?_
        refine va_gets (v := .ref t2) hx hb hZ2 hS hown (hts _ wm_108) (fun _ h9 => h9) dX0_lastPlace_11 ?_
        refine lv_iload_n hx hb dX0_lastPlace_14 rfl (lv_at hl 1 rfl) ?_
        refine cx_ti hx hb hT2 hS k9 (by omega) (by decide) dX0_lastPlace_15 ?_
        refine cx_iald hx hb hK hP 1 0 rfl rfl (cCn k9) (cCn_lt k9 (by omega)) (by decide) dX0_lastPlace_16 ?_
        refine cx_if_eq (i := (f0 (cCn k9)).toInt) (j := 0) (tgt := 22) hx hb rfl rfl dX0_lastPlace_17 (by decide) (fun c_3 => ?_) (fun c_3 => ?_)
        · refine lv_iinc (v := nI k9 + (-1)) (lv' := [(1, .int (nI k9 + (-1))), (0, .ref (x 0))]) hx hb dX0_lastPlace_22 hl (k := 1) rfl rfl (by decide) rfl (fun ls hl => ?_)
          refine lv_goto (tgt := 3) hx hb dX0_lastPlace_25 (by decide) ?_
          rw [dnI_pred] at hl
          exact ih3 k9 _ (by omega) (by omega) (by rw [← lastI_z (f := (fun j => f0 (cCn j))) c_3]; exact hp9) (lv_sub hl [1, 0] rfl)
        · refine lv_iload_n hx hb dX0_lastPlace_20 rfl (lv_at hl 1 rfl) ?_
          exact W.iret (v := nI k9) hx hb hr (fun t ht hW => ⟨_, rfl, (by rw [hp9, lastI_s (f := (fun j => f0 (cCn j))) c_3]), ht⟩) (fun _ h9 => by cases h9) dX0_lastPlace_21
  exact L3 _ 64 _ (Nat.lt_succ_self _) (Nat.le_refl _) rfl (lv_sub hl [1, 0] rfl)
set_option maxHeartbeats 4000000 in
set_option maxRecDepth 100000 in
/-- the sum of all |COEFFICIENTS| -/
theorem m_sumMag (l : Launch) (D : va_G) (x : Nat → Nat) (cd : Nat → ClassId) (f0 f1 f2 f3 : Nat → Int32) (g : Nat → Int64) : Met l yX0_sumOfMagnitudes wsX0_sumOfMagnitudes ({ frames := 1, cells := 0, slots := 0, locals := 23 } : Room) (va_Pc [.ref (x 0)] (cro D (cw x cd f0 f1 f2 f3 g) (cty cd))) (vp_Si (fun r => r = sumI (fun j => absI (f0 j)) 64)) 0 0 (fun _ => False) := by
  refine Met.ofW (cc := cX0_sumOfMagnitudes) (maxL := 3) (ret := some .int) (by decide) rfl ?_
  intro p e s m args below meth c s₁ B hml hv
  obtain ⟨rfl, hP, hK, hTb⟩ := hv
  have hx := B.exec
  have hb := B.bytes
  have hr := B.returns
  have hts : ∀ w ∈ wA, w.before _ s = true := fun w h => atoms_spec (ws := wsX0_sumOfMagnitudes) B.pre w (List.mem_cons_of_mem _ h)
  have hown : s.vm.findClass RX0 = some m.cls := findClass_of_methodNamed B.named
  have hlocks := B.notSynchronized
  have hS : va_S (fun _ => False) s.heap s.heap [] := va_S.rf
  have hin0 := inA0
  have hf9 := (hts _ wm_28)
  have hl := lv_entry ([.ref (x 0)]) (n := 3) (Nat.le_of_ble_eq_true rfl)
  rw [lg_entry_eq]
  generalize (lg_sl ([.ref (x 0)]) ++ List.replicate (3 - (lg_sl ([.ref (x 0)])).length) Slot.unset).toArray = ls at hl ⊢
  have hl : lv_has ls 3 [(0, .ref (x 0))] := hl
  refine lv_iconst (v := (0 : Int32)) hx hb dX0_sumOfMagnitudes_0 (by decide +kernel) ?_
  refine lv_istore_n (lv' := [(1, .int (0 : Int32)), (0, .ref (x 0))]) hx hb dX0_sumOfMagnitudes_1 rfl hl (by decide) rfl (fun ls hl => ?_)
  refine lv_iconst (v := (0 : Int32)) hx hb dX0_sumOfMagnitudes_2 (by decide +kernel) ?_
  refine lv_istore_n (lv' := [(2, .int (0 : Int32)), (1, .int (0 : Int32)), (0, .ref (x 0))]) hx hb dX0_sumOfMagnitudes_3 rfl hl (by decide) rfl (fun ls hl => ?_)
  have L4 : ∀ (n : Nat) (i9 : Nat) (ls : Array Slot), (64 - i9) < n → (i9 ≤ 64) → lv_has ls 3 [(0, .ref (x 0)), (1, .int (sumI (fun j => absI (f0 j)) i9)), (2, .int (nI i9))] → W p l e ((headSpec wsX0_sumOfMagnitudes ({ frames := 1, cells := 0, slots := 0, locals := 23 } : Room)).room) s m (([.ref (x 0)] : List Value).toArray) below meth c s.heap [] 0 0 (MQ below (vp_Si (fun r => r = sumI (fun j => absI (f0 j)) 64)) ([.ref (x 0)] : List Value).toArray s 0 0 (fun _ => False)) (F0 m 4 ls []) := by
    intro n
    induction n with
    | zero =>
      intro i9 ls hn
      exact absurd hn (Nat.not_lt_zero _)
    | succ n ih4 =>
      intro i9 ls hn4 hi9 hl
      refine lv_iload_n hx hb dX0_sumOfMagnitudes_4 rfl (lv_at hl 2 rfl) ?_
      refine lv_bipush (v := (64 : Int32)) hx hb dX0_sumOfMagnitudes_5 (by decide +kernel) ?_
      refine cx_icmp_ge (i := ((i9 : Nat) : Int)) (j := 64) (tgt := 28) hx hb (nI_toInt (by omega)) (by decide +kernel) dX0_sumOfMagnitudes_7 (by decide) (fun c_1 => ?_) (fun c_1 => ?_)
      · refine lv_iload_n hx hb dX0_sumOfMagnitudes_28 rfl (lv_at hl 1 rfl) ?_
        exact W.iret (v := sumI (fun j => absI (f0 j)) i9) hx hb hr (fun t ht hW => ⟨_, rfl, (by obtain rfl : i9 = 64 := (by omega); rfl), ht⟩) (fun _ h9 => by cases h9) dX0_sumOfMagnitudes_29
      · refine lv_iload_n hx hb dX0_sumOfMagnitudes_10 rfl (lv_at hl 1 rfl) ?_
        refine lv_aload_n hx hb dX0_sumOfMagnitudes_11 rfl (lv_at hl 0 rfl) ?_
        refine va_get (D := D) (ci := 0) (v := .ref (x 1)) (C := RX0) (T := TX0) (N := 5) hx hb hts hin0 hown hK hP 0 rfl rfl 0 (by decide) hf9 (fun _ h9 => h9) rfl dX0_sumOfMagnitudes_12 ?_
        refine lv_iload_n hx hb dX0_sumOfMagnitudes_15 rfl (lv_at hl 2 rfl) ?_
        refine cx_iald hx hb hK hP 1 0 rfl rfl i9 (by omega) (by decide) dX0_sumOfMagnitudes_16 ?_
        refine va_mabs hx hb (hml.trans hl.1.symm) hown (hts _ wm_72) (hts _ wm_73) (hts _ wm_19) (hts _ wm_74) (Nat.le_of_ble_eq_true rfl) (Nat.le_of_ble_eq_true rfl) (Nat.zero_le _) (Nat.zero_le _) dX0_sumOfMagnitudes_17 ?_
        refine lv_iadd hx hb dX0_sumOfMagnitudes_20 ?_
        refine lv_istore_n (lv' := [(1, .int ((sumI (fun j => absI (f0 j)) i9) + (absI (f0 i9)))), (0, .ref (x 0)), (2, .int (nI i9))]) hx hb dX0_sumOfMagnitudes_21 rfl hl (by decide) rfl (fun ls hl => ?_)
        refine lv_iinc (v := nI (i9 + 1)) (lv' := [(2, .int (nI (i9 + 1))), (1, .int ((sumI (fun j => absI (f0 j)) i9) + (absI (f0 i9)))), (0, .ref (x 0))]) hx hb dX0_sumOfMagnitudes_22 hl (k := 2) rfl (by show nI i9 + 1 = nI (i9 + 1); exact nI_add i9 1) (by decide) rfl (fun ls hl => ?_)
        refine lv_goto (tgt := 4) hx hb dX0_sumOfMagnitudes_25 (by decide) ?_
        exact ih4 (i9 + 1) _ (by omega) (by omega) (lv_sub hl [2, 1, 0] rfl)
  exact L4 _ 0 _ (Nat.lt_succ_self _) (Nat.zero_le _) (lv_sub hl [2, 1, 0] rfl)
set_option maxHeartbeats 4000000 in
set_option maxRecDepth 100000 in
/-- the sum of a grid -/
theorem m_sumOf (l : Launch) (D : va_G) (a9 : Nat) (ca : ClassId) (f9 : Nat → Int32) : Met l yX0_sumOf wsX0_sumOf ({ frames := 0, cells := 0, slots := 0, locals := 0 } : Room) (va_Pc [.ref a9] (cro D ([(a9, .inl (ca, 64, .inl f9))]) ([(ca, .int)]))) (vp_Si (fun r => r = sumI f9 64)) 0 0 (fun _ => False) := by
  refine Met.ofW (cc := cX0_sumOf) (maxL := 6) (ret := some .int) (by decide) rfl ?_
  intro p e s m args below meth c s₁ B hml hv
  obtain ⟨rfl, hP, hK, hTb⟩ := hv
  have hx := B.exec
  have hb := B.bytes
  have hr := B.returns
  have hts : ∀ w ∈ wA, w.before _ s = true := fun w h => atoms_spec (ws := wsX0_sumOf) B.pre w (List.mem_cons_of_mem _ h)
  have hown : s.vm.findClass RX0 = some m.cls := findClass_of_methodNamed B.named
  have hlocks := B.notSynchronized
  have hS : va_S (fun _ => False) s.heap s.heap [] := va_S.rf
  have hl := lv_entry ([.ref a9]) (n := 6) (Nat.le_of_ble_eq_true rfl)
  rw [lg_entry_eq]
  generalize (lg_sl ([.ref a9]) ++ List.replicate (6 - (lg_sl ([.ref a9])).length) Slot.unset).toArray = ls at hl ⊢
  have hl : lv_has ls 6 [(0, .ref a9)] := hl
  refine lv_iconst (v := (0 : Int32)) hx hb dX0_sumOf_0 (by decide +kernel) ?_
  refine lv_istore_n (lv' := [(1, .int (0 : Int32)), (0, .ref a9)]) hx hb dX0_sumOf_1 rfl hl (by decide) rfl (fun ls hl => ?_)
  refine lv_aload_n hx hb dX0_sumOf_2 rfl (lv_at hl 1 rfl) ?_
  refine lv_astore_n (lv' := [(2, .ref a9), (1, .int (0 : Int32)), (0, .ref a9)]) hx hb dX0_sumOf_3 rfl hl (by decide) rfl (fun ls hl => ?_)
  refine lv_aload_n hx hb dX0_sumOf_4 rfl (lv_at hl 0 rfl) ?_
  refine va_alen hx hb hK hP 0 0 rfl rfl (v := 64) rfl dX0_sumOf_5 ?_
  refine lv_istore_n (lv' := [(3, .int (64 : Int32)), (2, .ref a9), (1, .int (0 : Int32)), (0, .ref a9)]) hx hb dX0_sumOf_6 rfl hl (by decide) rfl (fun ls hl => ?_)
  refine lv_iconst (v := (0 : Int32)) hx hb dX0_sumOf_7 (by decide +kernel) ?_
  refine lv_istore (lv' := [(4, .int (0 : Int32)), (3, .int (64 : Int32)), (2, .ref a9), (1, .int (0 : Int32)), (0, .ref a9)]) hx hb dX0_sumOf_8 hl (by decide) rfl (fun ls hl => ?_)
  have L10 : ∀ (n : Nat) (i9 : Nat) (ls : Array Slot), (64 - i9) < n → (i9 ≤ 64) → lv_has ls 6 [(2, .ref a9), (3, .int (64 : Int32)), (1, .int (sumI f9 i9)), (4, .int (nI i9))] → W p l e ((headSpec wsX0_sumOf ({ frames := 0, cells := 0, slots := 0, locals := 0 } : Room)).room) s m (([.ref a9] : List Value).toArray) below meth c s.heap [] 0 0 (MQ below (vp_Si (fun r => r = sumI f9 64)) ([.ref a9] : List Value).toArray s 0 0 (fun _ => False)) (F0 m 10 ls []) := by
    intro n
    induction n with
    | zero =>
      intro i9 ls hn
      exact absurd hn (Nat.not_lt_zero _)
    | succ n ih10 =>
      intro i9 ls hn10 hi9 hl
      refine lv_iload hx hb dX0_sumOf_10 (lv_at hl 3 rfl) ?_
      refine lv_iload_n hx hb dX0_sumOf_12 rfl (lv_at hl 1 rfl) ?_
      refine cx_icmp_ge (i := ((i9 : Nat) : Int)) (j := 64) (tgt := 33) hx hb (nI_toInt (by omega)) (by decide +kernel) dX0_sumOf_13 (by decide) (fun c_1 => ?_) (fun c_1 => ?_)
      · refine lv_iload_n hx hb dX0_sumOf_33 rfl (lv_at hl 2 rfl) ?_
        exact W.iret (v := sumI f9 i9) hx hb hr (fun t ht hW => ⟨_, rfl, (by obtain rfl : i9 = 64 := (by omega); rfl), ht⟩) (fun _ h9 => by cases h9) dX0_sumOf_34
      · refine lv_aload_n hx hb dX0_sumOf_16 rfl (lv_at hl 0 rfl) ?_
        refine lv_iload hx hb dX0_sumOf_17 (lv_at hl 3 rfl) ?_
        refine cx_iald hx hb hK hP 0 0 rfl rfl i9 (by omega) (by decide) dX0_sumOf_19 ?_
        refine lv_istore (lv' := [(5, .int (f9 i9)), (2, .ref a9), (3, .int (64 : Int32)), (1, .int (sumI f9 i9)), (4, .int (nI i9))]) hx hb dX0_sumOf_20 hl (by decide) rfl (fun ls hl => ?_)
        refine lv_iload_n hx hb dX0_sumOf_22 rfl (lv_at hl 3 rfl) ?_
        refine lv_iload hx hb dX0_sumOf_23 (lv_at hl 0 rfl) ?_
        refine lv_iadd hx hb dX0_sumOf_25 ?_
        refine lv_istore_n (lv' := [(1, .int ((sumI f9 i9) + (f9 i9))), (5, .int (f9 i9)), (2, .ref a9), (3, .int (64 : Int32)), (4, .int (nI i9))]) hx hb dX0_sumOf_26 rfl hl (by decide) rfl (fun ls hl => ?_)
        refine lv_iinc (v := nI (i9 + 1)) (lv' := [(4, .int (nI (i9 + 1))), (1, .int ((sumI f9 i9) + (f9 i9))), (5, .int (f9 i9)), (2, .ref a9), (3, .int (64 : Int32))]) hx hb dX0_sumOf_27 hl (k := 4) rfl (by show nI i9 + 1 = nI (i9 + 1); exact nI_add i9 1) (by decide) rfl (fun ls hl => ?_)
        refine lv_goto (tgt := 10) hx hb dX0_sumOf_30 (by decide) ?_
        exact ih10 (i9 + 1) _ (by omega) (by omega) (lv_sub hl [3, 4, 1, 0] rfl)
  exact L10 _ 0 _ (Nat.lt_succ_self _) (Nat.zero_le _) (lv_sub hl [2, 1, 3, 0] rfl)
set_option maxHeartbeats 4000000 in
set_option maxRecDepth 100000 in
/-- look -/
theorem m_look (l : Launch) (D : va_G) (x : Nat → Nat) (cd : Nat → ClassId) (f0 f1 f2 f3 : Nat → Int32) (g : Nat → Int64) (q : Int32) : Met l yX0_look wsX0_look ({ frames := 2, cells := 0, slots := 0, locals := 45 } : Room) (va_Pc [.ref (x 0), .int q] (cro D (cw x cd f0 f1 f2 f3 g) (cty cd))) (vp_Si (fun r => r = lookV f0 f1 f2 q)) 0 0 (fun _ => False) := by
  refine Met.ofW (cc := cX0_look) (maxL := 2) (ret := some .int) (by decide) rfl ?_
  intro p e s m args below meth c s₁ B hml hv
  obtain ⟨rfl, hP, hK, hTb⟩ := hv
  have hx := B.exec
  have hb := B.bytes
  have hr := B.returns
  have hts : ∀ w ∈ wA, w.before _ s = true := fun w h => atoms_spec (ws := wsX0_look) B.pre w (List.mem_cons_of_mem _ h)
  have hown : s.vm.findClass RX0 = some m.cls := findClass_of_methodNamed B.named
  have hlocks := B.notSynchronized
  have hS : va_S (fun _ => False) s.heap s.heap [] := va_S.rf
  have hin0 := inA0
  have hf13 := (hts _ wm_29)
  have hf16 := (hts _ wm_30)
  have hl := lv_entry ([.ref (x 0), .int q]) (n := 2) (Nat.le_of_ble_eq_true rfl)
  rw [lg_entry_eq]
  generalize (lg_sl ([.ref (x 0), .int q]) ++ List.replicate (2 - (lg_sl ([.ref (x 0), .int q])).length) Slot.unset).toArray = ls at hl ⊢
  have hl : lv_has ls 2 [(0, .ref (x 0)), (1, .int q)] := hl
  refine lv_iload_n hx hb dX0_look_0 rfl (lv_at hl 1 rfl) ?_
  by_cases k_1 : q.toInt < 0 ∨ 4 < q.toInt
  · refine cx_tabO (i := q.toInt) (tgt := 67) hx hb rfl dX0_look_1 k_1 (by decide) ?_
    refine lv_iconst (v := (-1 : Int32)) hx hb dX0_look_67 (by decide +kernel) ?_
    exact W.iret (v := (-1 : Int32)) hx hb hr (fun t ht hW => ⟨_, rfl, (by unfold lookV; rw [if_neg (by omega), if_neg (by omega), if_neg (by omega), if_neg (by omega), if_neg (by omega)]), ht⟩) (fun _ h9 => by cases h9) dX0_look_68
  · have k_1 : q.toInt = 0 ∨ q.toInt = 1 ∨ q.toInt = 2 ∨ q.toInt = 3 ∨ q.toInt = 4 := by omega
    rcases k_1 with k_1 | k_1 | k_1 | k_1 | k_1
    · refine cx_tabI (i := q.toInt) (off := 35) (tgt := 36) hx hb rfl dX0_look_1 (by omega) (by omega) (by rw [k_1]; rfl) (by decide) ?_
      refine lv_aload_n hx hb dX0_look_36 rfl (lv_at hl 0 rfl) ?_
      refine vp_callSi (W.runV (As := []) (rest := []) ⟨hx, hb, hml, hown, hts⟩ (m_count l D x cd f0 f1 f2 f3 g) (cwV 0 hts (gw_V wm_75 wm_77 wm_2 wm_12 wm_78) rfl rfl rfl (by decide +kernel) ⟨Nat.le_of_ble_eq_true rfl, Nat.le_of_ble_eq_true rfl⟩) ⟨cro_blind, va_recv hK hP (ci := 0) (q0 := 0) rfl rfl, fun U hU hW => ⟨rfl, cro_at hP hK hTb hS hU hW⟩⟩ rfl rfl hl.1 rfl (lv_room (Nat.le_of_ble_eq_true rfl)) dX0_look_37 ⟨Nat.le_of_ble_eq_true rfl, Nat.le_of_ble_eq_true rfl⟩) (fun r_2 hr_2 => ?_)
      rw [hr_2]
      exact W.iret (v := cntI f0 64) hx hb hr (fun t ht hW => ⟨_, rfl, (by unfold lookV; rw [if_pos (by omega)]), ht⟩) (fun _ h9 => by cases h9) dX0_look_40
    · refine cx_tabI (i := q.toInt) (off := 40) (tgt := 41) hx hb rfl dX0_look_1 (by omega) (by omega) (by rw [k_1]; rfl) (by decide) ?_
      refine lv_aload_n hx hb dX0_look_41 rfl (lv_at hl 0 rfl) ?_
      refine vp_callSi (W.runV (As := []) (rest := []) ⟨hx, hb, hml, hown, hts⟩ (m_lastPlace l D x cd f0 f1 f2 f3 g) (cwV 0 hts (gw_V wm_104 wm_106 wm_3 wm_12 wm_107) rfl rfl rfl (by decide +kernel) ⟨Nat.le_of_ble_eq_true rfl, Nat.le_of_ble_eq_true rfl⟩) ⟨cro_blind, va_recv hK hP (ci := 0) (q0 := 0) rfl rfl, fun U hU hW => ⟨rfl, cro_at hP hK hTb hS hU hW⟩⟩ rfl rfl hl.1 rfl (lv_room (Nat.le_of_ble_eq_true rfl)) dX0_look_42 ⟨Nat.le_of_ble_eq_true rfl, Nat.le_of_ble_eq_true rfl⟩) (fun r_3 hr_3 => ?_)
      rw [hr_3]
      exact W.iret (v := lastI (fun j => f0 (cCn j)) 64) hx hb hr (fun t ht hW => ⟨_, rfl, (by unfold lookV; rw [if_neg (by omega), if_pos (by omega)]), ht⟩) (fun _ h9 => by cases h9) dX0_look_45
    · refine cx_tabI (i := q.toInt) (off := 45) (tgt := 46) hx hb rfl dX0_look_1 (by omega) (by omega) (by rw [k_1]; rfl) (by decide) ?_
      refine lv_aload_n hx hb dX0_look_46 rfl (lv_at hl 0 rfl) ?_
      refine va_get (D := D) (ci := 0) (v := .ref (x 2)) (C := RX0) (T := TX0) (N := 5) hx hb hts hin0 hown hK hP 0 rfl rfl 1 (by decide) hf13 (fun _ h9 => h9) rfl dX0_look_47 ?_
      refine vp_callSi (W.runS (As := [.ref (x 2)]) (rest := []) ⟨hx, hb, hml, hown, hts⟩ (m_sumOf l D (x 2) (cd 2) f1) (va_cwS 1 hts (gw_S wm_110 wm_111 wm_12 wm_112) rfl rfl rfl (by decide +kernel) ⟨Nat.le_of_ble_eq_true rfl, Nat.le_of_ble_eq_true rfl⟩) ⟨cro_blind, fun U hU hW => ⟨rfl, cro_at (hP.sub (ws' := [(x 2, .inl (cd 2, 64, .inl f1))]) [2] rfl) (hK.sub (tys' := [(cd 2, .int)]) [1] rfl) hTb hS hU hW⟩⟩ rfl rfl hl.1 rfl (lv_room (Nat.le_of_ble_eq_true rfl)) dX0_look_50 ⟨Nat.le_of_ble_eq_true rfl, Nat.le_of_ble_eq_true rfl⟩) (fun r_4 hr_4 => ?_)
      rw [hr_4]
      exact W.iret (v := sumI f1 64) hx hb hr (fun t ht hW => ⟨_, rfl, (by unfold lookV; rw [if_neg (by omega), if_neg (by omega), if_pos (by omega)]), ht⟩) (fun _ h9 => by cases h9) dX0_look_53
    · refine cx_tabI (i := q.toInt) (off := 53) (tgt := 54) hx hb rfl dX0_look_1 (by omega) (by omega) (by rw [k_1]; rfl) (by decide) ?_
      refine lv_aload_n hx hb dX0_look_54 rfl (lv_at hl 0 rfl) ?_
      refine va_get (D := D) (ci := 0) (v := .ref (x 3)) (C := RX0) (T := TX0) (N := 5) hx hb hts hin0 hown hK hP 0 rfl rfl 2 (by decide) hf16 (fun _ h9 => h9) rfl dX0_look_55 ?_
      refine vp_callSi (W.runS (As := [.ref (x 3)]) (rest := []) ⟨hx, hb, hml, hown, hts⟩ (m_sumOf l D (x 3) (cd 3) f2) (va_cwS 1 hts (gw_S wm_110 wm_111 wm_12 wm_112) rfl rfl rfl (by decide +kernel) ⟨Nat.le_of_ble_eq_true rfl, Nat.le_of_ble_eq_true rfl⟩) ⟨cro_blind, fun U hU hW => ⟨rfl, cro_at (hP.sub (ws' := [(x 3, .inl (cd 3, 64, .inl f2))]) [3] rfl) (hK.sub (tys' := [(cd 3, .int)]) [2] rfl) hTb hS hU hW⟩⟩ rfl rfl hl.1 rfl (lv_room (Nat.le_of_ble_eq_true rfl)) dX0_look_58 ⟨Nat.le_of_ble_eq_true rfl, Nat.le_of_ble_eq_true rfl⟩) (fun r_5 hr_5 => ?_)
      rw [hr_5]
      exact W.iret (v := sumI f2 64) hx hb hr (fun t ht hW => ⟨_, rfl, (by unfold lookV; rw [if_neg (by omega), if_neg (by omega), if_neg (by omega), if_pos (by omega)]), ht⟩) (fun _ h9 => by cases h9) dX0_look_61
    · refine cx_tabI (i := q.toInt) (off := 61) (tgt := 62) hx hb rfl dX0_look_1 (by omega) (by omega) (by rw [k_1]; rfl) (by decide) ?_
      refine lv_aload_n hx hb dX0_look_62 rfl (lv_at hl 0 rfl) ?_
      refine vp_callSi (W.runV (As := []) (rest := []) ⟨hx, hb, hml, hown, hts⟩ (m_sumMag l D x cd f0 f1 f2 f3 g) (cwV 0 hts (gw_V wm_113 wm_115 wm_4 wm_12 wm_116) rfl rfl rfl (by decide +kernel) ⟨Nat.le_of_ble_eq_true rfl, Nat.le_of_ble_eq_true rfl⟩) ⟨cro_blind, va_recv hK hP (ci := 0) (q0 := 0) rfl rfl, fun U hU hW => ⟨rfl, cro_at hP hK hTb hS hU hW⟩⟩ rfl rfl hl.1 rfl (lv_room (Nat.le_of_ble_eq_true rfl)) dX0_look_63 ⟨Nat.le_of_ble_eq_true rfl, Nat.le_of_ble_eq_true rfl⟩) (fun r_6 hr_6 => ?_)
      rw [hr_6]
      exact W.iret (v := sumI (fun j => absI (f0 j)) 64) hx hb hr (fun t ht hW => ⟨_, rfl, (by unfold lookV; rw [if_neg (by omega), if_neg (by omega), if_neg (by omega), if_neg (by omega), if_pos (by omega)]), ht⟩) (fun _ h9 => by cases h9) dX0_look_66
set_option maxHeartbeats 4000000 in
set_option maxRecDepth 100000 in
/-- order -/
theorem m_order (l : Launch) (D : va_G) (x : Nat → Nat) (cd : Nat → ClassId) (f0 f1 f2 f3 : Nat → Int32) (g : Nat → Int64) (a9 b9 : Int32) : Met l yX0_order wsX0_order ({ frames := 1, cells := 0, slots := 0, locals := 20 } : Room) (va_Pc [.ref (x 0), .int a9, .int b9] (cro D (cw x cd f0 f1 f2 f3 g) (cty cd))) (vp_Si (fun r => r = orderV a9 b9)) 0 0 (fun _ => False) := by
  refine Met.ofW (cc := cX0_order) (maxL := 3) (ret := some .int) (by decide) rfl ?_
  intro p e s m args below meth c s₁ B hml hv
  obtain ⟨rfl, hP, hK, hTb⟩ := hv
  have hx := B.exec
  have hb := B.bytes
  have hr := B.returns
  have hts : ∀ w ∈ wA, w.before _ s = true := fun w h => atoms_spec (ws := wsX0_order) B.pre w (List.mem_cons_of_mem _ h)
  have hown : s.vm.findClass RX0 = some m.cls := findClass_of_methodNamed B.named
  have hlocks := B.notSynchronized
  have hS : va_S (fun _ => False) s.heap s.heap [] := va_S.rf
  obtain ⟨⟨t0, hZ0, hT0⟩, ⟨t1, hZ1, hT1⟩, ⟨t2, hZ2, hT2⟩, -⟩ := id hTb
  have hl := lv_entry ([.ref (x 0), .int a9, .int b9]) (n := 3) (Nat.le_of_ble_eq_true rfl)
  rw [lg_entry_eq]
  generalize (lg_sl ([.ref (x 0), .int a9, .int b9]) ++ List.replicate (3 - (lg_sl ([.ref (x 0), .int a9, .int b9])).length) Slot.unset).toArray = ls at hl ⊢
  have hl : lv_has ls 3 [(0, .ref (x 0)), (1, .int a9), (2, .int b9)] := hl
  refine lv_iload_n hx hb dX0_order_0 rfl (lv_at hl 1 rfl) ?_
  refine vp_callSi (W.runS (As := [.int a9]) (rest := []) ⟨hx, hb, hml, hown, hts⟩ (m_isLine l D a9) (va_cwS 1 hts (gw_S wm_91 wm_92 wm_12 wm_93) rfl rfl rfl (by decide +kernel) ⟨Nat.le_of_ble_eq_true rfl, Nat.le_of_ble_eq_true rfl⟩) ⟨cro_blind, fun U hU hW => ⟨rfl, cro_at (hP.sub (ws' := []) [] rfl) (hK.sub (tys' := []) [] rfl) hTb hS hU hW⟩⟩ rfl rfl hl.1 rfl (lv_room (Nat.le_of_ble_eq_true rfl)) dX0_order_1 ⟨Nat.le_of_ble_eq_true rfl, Nat.le_of_ble_eq_true rfl⟩) (fun r_1 hr_1 => ?_)
  rcases hr_1 with ⟨rfl, ha9, hb9⟩ | ⟨rfl, ha9⟩
  · refine cx_if_eq (i := 1) (j := 0) (tgt := 14) hx hb (by decide +kernel) rfl dX0_order_4 (by decide) (fun c_2 => absurd c_2 (by decide)) (fun c_2 => ?_)
    refine lv_iload_n hx hb dX0_order_7 rfl (lv_at hl 2 rfl) ?_
    refine vp_callSi (W.runS (As := [.int b9]) (rest := []) ⟨hx, hb, hml, hown, hts⟩ (m_isLine l D b9) (va_cwS 1 hts (gw_S wm_91 wm_92 wm_12 wm_93) rfl rfl rfl (by decide +kernel) ⟨Nat.le_of_ble_eq_true rfl, Nat.le_of_ble_eq_true rfl⟩) ⟨cro_blind, fun U hU hW => ⟨rfl, cro_at (hP.sub (ws' := []) [] rfl) (hK.sub (tys' := []) [] rfl) hTb hS hU hW⟩⟩ rfl rfl hl.1 rfl (lv_room (Nat.le_of_ble_eq_true rfl)) dX0_order_8 ⟨Nat.le_of_ble_eq_true rfl, Nat.le_of_ble_eq_true rfl⟩) (fun r_3 hr_3 => ?_)
    rcases hr_3 with ⟨rfl, ha9, hb9⟩ | ⟨rfl, ha9⟩
    · refine cx_if_ne (i := 1) (j := 0) (tgt := 16) hx hb (by decide +kernel) rfl dX0_order_11 (by decide) (fun c_4 => ?_) (fun c_4 => absurd c_4 (by decide))
      obtain ⟨a8, hla, hea⟩ := cx_ofN (x := a9) (n := 8) (by omega) (by omega) (by decide)
      obtain ⟨b8, hlb, heb⟩ := cx_ofN (x := b9) (n := 8) (by omega) (by omega) (by decide)
      have e_5 : a9 = nI a8 := hea
      rw [e_5] at hl
      have e_6 : b9 = nI b8 := heb
      rw [e_6] at hl
      refine va_gets (v := .ref t1) hx hb hZ1 hS hown (hts _ wm_94) (fun _ h9 => h9) dX0_order_16 ?_
      refine lv_iload_n hx hb dX0_order_19 rfl (lv_at hl 1 rfl) ?_
      refine lv_bipush (v := (8 : Int32)) hx hb dX0_order_20 (by decide +kernel) ?_
      refine cx_imul hx hb a8 8 dX0_order_22 ?_
      refine lv_iload_n hx hb dX0_order_23 rfl (lv_at hl 2 rfl) ?_
      refine cx_iadd hx hb (a8 * 8) b8 dX0_order_24 ?_
      refine cx_ti hx hb hT1 hS (a8 * 8 + b8) (by omega) (by decide) dX0_order_25 ?_
      exact W.iret (v := cP (a8 * 8 + b8)) hx hb hr (fun t ht hW => ⟨_, rfl, (by unfold orderV; rw [if_pos (by omega), hea, heb, cx_toNat (by omega), cx_toNat (by omega)]), ht⟩) (fun _ h9 => by cases h9) dX0_order_26
    · refine cx_if_ne (i := 0) (j := 0) (tgt := 16) hx hb (by decide +kernel) rfl dX0_order_11 (by decide) (fun c_7 => absurd c_7 (by decide)) (fun c_7 => ?_)
      refine lv_iconst (v := (-1 : Int32)) hx hb dX0_order_14 (by decide +kernel) ?_
      exact W.iret (v := (-1 : Int32)) hx hb hr (fun t ht hW => ⟨_, rfl, (by unfold orderV; rw [if_neg (by omega)]), ht⟩) (fun _ h9 => by cases h9) dX0_order_15
  · refine cx_if_eq (i := 0) (j := 0) (tgt := 14) hx hb (by decide +kernel) rfl dX0_order_4 (by decide) (fun c_8 => ?_) (fun c_8 => absurd c_8 (by decide))
    refine lv_iconst (v := (-1 : Int32)) hx hb dX0_order_14 (by decide +kernel) ?_
    exact W.iret (v := (-1 : Int32)) hx hb hr (fun t ht hW => ⟨_, rfl, (by unfold orderV; rw [if_neg (by omega)]), ht⟩) (fun _ h9 => by cases h9) dX0_order_15
set_option maxHeartbeats 4000000 in
set_option maxRecDepth 100000 in
/-- samples -/
theorem m_samples (l : Launch) (D : va_G) (x : Nat → Nat) (cd : Nat → ClassId) (f0 f1 f2 f3 : Nat → Int32) (g : Nat → Int64) (y9 : Int32) : Met l yX0_samples wsX0_samples ({ frames := 1, cells := 0, slots := 0, locals := 20 } : Room) (va_Pc [.ref (x 0), .int y9] (cro D (cw x cd f0 f1 f2 f3 g) (cty cd))) (vp_Sl (fun r => r = samplesV f2 y9)) 0 0 (fun _ => False) := by
  refine Met.ofW (cc := cX0_samples) (maxL := 5) (ret := some .long) (by decide) rfl ?_
  intro p e s m args below meth c s₁ B hml hv
  obtain ⟨rfl, hP, hK, hTb⟩ := hv
  have hx := B.exec
  have hb := B.bytes
  have hr := B.returns
  have hts : ∀ w ∈ wA, w.before _ s = true := fun w h => atoms_spec (ws := wsX0_samples) B.pre w (List.mem_cons_of_mem _ h)
  have hown : s.vm.findClass RX0 = some m.cls := findClass_of_methodNamed B.named
  have hlocks := B.notSynchronized
  have hS : va_S (fun _ => False) s.heap s.heap [] := va_S.rf
  have hin0 := inA0
  have hf16 := (hts _ wm_30)
  have hl := lv_entry ([.ref (x 0), .int y9]) (n := 5) (Nat.le_of_ble_eq_true rfl)
  rw [lg_entry_eq]
  generalize (lg_sl ([.ref (x 0), .int y9]) ++ List.replicate (5 - (lg_sl ([.ref (x 0), .int y9])).length) Slot.unset).toArray = ls at hl ⊢
  have hl : lv_has ls 5 [(0, .ref (x 0)), (1, .int y9)] := hl
  refine lv_iload_n hx hb dX0_samples_0 rfl (lv_at hl 1 rfl) ?_
  refine vp_callSi (W.runS (As := [.int y9]) (rest := []) ⟨hx, hb, hml, hown, hts⟩ (m_isLine l D y9) (va_cwS 1 hts (gw_S wm_91 wm_92 wm_12 wm_93) rfl rfl rfl (by decide +kernel) ⟨Nat.le_of_ble_eq_true rfl, Nat.le_of_ble_eq_true rfl⟩) ⟨cro_blind, fun U hU hW => ⟨rfl, cro_at (hP.sub (ws' := []) [] rfl) (hK.sub (tys' := []) [] rfl) hTb hS hU hW⟩⟩ rfl rfl hl.1 rfl (lv_room (Nat.le_of_ble_eq_true rfl)) dX0_samples_1 ⟨Nat.le_of_ble_eq_true rfl, Nat.le_of_ble_eq_true rfl⟩) (fun r_1 hr_1 => ?_)
  rcases hr_1 with ⟨rfl, ha9, hb9⟩ | ⟨rfl, ha9⟩
  · refine cx_if_ne (i := 1) (j := 0) (tgt := 9) hx hb (by decide +kernel) rfl dX0_samples_4 (by decide) (fun c_2 => ?_) (fun c_2 => absurd c_2 (by decide))
    obtain ⟨a8, hla, hea⟩ := cx_ofN (x := y9) (n := 8) (by omega) (by omega) (by decide)
    have e_3 : y9 = nI a8 := hea
    rw [e_3] at hl
    refine lv_lconst (v := (0 : Int64)) hx hb dX0_samples_9 (by decide +kernel) ?_
    refine lv_lstore_n (lv' := [(2, .long (0 : Int64)), (0, .ref (x 0)), (1, .int (nI a8))]) hx hb dX0_samples_10 rfl hl (by decide) rfl (fun ls hl => ?_)
    refine lv_iconst (v := (0 : Int32)) hx hb dX0_samples_11 (by decide +kernel) ?_
    refine lv_istore (lv' := [(4, .int (0 : Int32)), (2, .long (0 : Int64)), (0, .ref (x 0)), (1, .int (nI a8))]) hx hb dX0_samples_12 hl (by decide) rfl (fun ls hl => ?_)
    have L14 : ∀ (n : Nat) (i9 : Nat) (ls : Array Slot), (8 - i9) < n → (i9 ≤ 8) → lv_has ls 5 [(0, .ref (x 0)), (1, .int (nI a8)), (2, .long (smp f2 a8 i9)), (4, .int (nI i9))] → W p l e ((headSpec wsX0_samples ({ frames := 1, cells := 0, slots := 0, locals := 20 } : Room)).room) s m (([.ref (x 0), .int y9] : List Value).toArray) below meth c s.heap [] 0 0 (MQ below (vp_Sl (fun r => r = samplesV f2 y9)) ([.ref (x 0), .int y9] : List Value).toArray s 0 0 (fun _ => False)) (F0 m 14 ls []) := by
      intro n
      induction n with
      | zero =>
        intro i9 ls hn
        exact absurd hn (Nat.not_lt_zero _)
      | succ n ih14 =>
        intro i9 ls hn14 hi9 hl
        refine lv_iload hx hb dX0_samples_14 (lv_at hl 3 rfl) ?_
        refine lv_bipush (v := (8 : Int32)) hx hb dX0_samples_16 (by decide +kernel) ?_
        refine cx_icmp_ge (i := ((i9 : Nat) : Int)) (j := 8) (tgt := 46) hx hb (nI_toInt (by omega)) (by decide +kernel) dX0_samples_18 (by decide) (fun c_4 => ?_) (fun c_4 => ?_)
        · refine lv_lload_n hx hb dX0_samples_46 rfl (lv_at hl 2 rfl) ?_
          exact W.lret (v := smp f2 a8 i9) hx hb hr (fun t ht hW => ⟨_, rfl, (by obtain rfl : i9 = 8 := (by omega); unfold samplesV; rw [if_pos (by omega), hea, cx_toNat (by omega)]), ht⟩) (fun _ h9 => by cases h9) dX0_samples_47
        · refine lv_lload_n hx hb dX0_samples_21 rfl (lv_at hl 2 rfl) ?_
          refine lv_bipush (v := (8 : Int32)) hx hb dX0_samples_22 (by decide +kernel) ?_
          refine lv_lshl hx hb dX0_samples_24 rfl ?_
          refine lv_aload_n hx hb dX0_samples_25 rfl (lv_at hl 0 rfl) ?_
          refine va_get (D := D) (ci := 0) (v := .ref (x 3)) (C := RX0) (T := TX0) (N := 5) hx hb hts hin0 hown hK hP 0 rfl rfl 2 (by decide) hf16 (fun _ h9 => h9) rfl dX0_samples_26 ?_
          refine lv_iload_n hx hb dX0_samples_29 rfl (lv_at hl 1 rfl) ?_
          refine lv_bipush (v := (8 : Int32)) hx hb dX0_samples_30 (by decide +kernel) ?_
          refine cx_imul hx hb a8 8 dX0_samples_32 ?_
          refine lv_iload hx hb dX0_samples_33 (lv_at hl 3 rfl) ?_
          refine cx_iadd hx hb (a8 * 8) i9 dX0_samples_35 ?_
          refine cx_iald hx hb hK hP 3 2 rfl rfl (a8 * 8 + i9) (by omega) (by decide) dX0_samples_36 ?_
          refine lv_i2l hx hb dX0_samples_37 rfl ?_
          refine lv_lor hx hb dX0_samples_38 ?_
          refine lv_lstore_n (lv' := [(2, .long (((smp f2 a8 i9) <<< ((8 : Int32).toInt64 &&& 63)) ||| ((f2 (a8 * 8 + i9)).toInt64))), (0, .ref (x 0)), (1, .int (nI a8)), (4, .int (nI i9))]) hx hb dX0_samples_39 rfl hl (by decide) rfl (fun ls hl => ?_)
          refine lv_iinc (v := nI (i9 + 1)) (lv' := [(4, .int (nI (i9 + 1))), (2, .long (((smp f2 a8 i9) <<< ((8 : Int32).toInt64 &&& 63)) ||| ((f2 (a8 * 8 + i9)).toInt64))), (0, .ref (x 0)), (1, .int (nI a8))]) hx hb dX0_samples_40 hl (k := 3) rfl (by show nI i9 + 1 = nI (i9 + 1); exact nI_add i9 1) (by decide) rfl (fun ls hl => ?_)
          refine lv_goto (tgt := 14) hx hb dX0_samples_43 (by decide) ?_
          exact ih14 (i9 + 1) _ (by omega) (by omega) (lv_sub hl [2, 3, 1, 0] rfl)
    exact L14 _ 0 _ (Nat.lt_succ_self _) (Nat.zero_le _) (lv_sub hl [2, 3, 1, 0] rfl)
  · refine cx_if_ne (i := 0) (j := 0) (tgt := 9) hx hb (by decide +kernel) rfl dX0_samples_4 (by decide) (fun c_5 => absurd c_5 (by decide)) (fun c_5 => ?_)
    refine lv_lconst (v := (0 : Int64)) hx hb dX0_samples_7 (by decide +kernel) ?_
    exact W.lret (v := (0 : Int64)) hx hb hr (fun t ht hW => ⟨_, rfl, (by unfold samplesV; rw [if_neg (by omega)]), ht⟩) (fun _ h9 => by cases h9) dX0_samples_8
