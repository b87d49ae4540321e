theorem dX0_put_0 : decode cX0_put 0 = .ok (.iload_n 1, 1) := by decide +kernel
theorem dX0_put_1 : decode cX0_put 1 = .ok (.invokestatic 26, 3) := by decide +kernel
theorem dX0_put_4 : decode cX0_put 4 = .ok (.ifCond .ne 13, 3) := by decide +kernel
theorem dX0_put_7 : decode cX0_put 7 = .ok (.new 30, 3) := by decide +kernel
theorem dX0_put_10 : decode cX0_put 10 = .ok (.dup, 1) := by decide +kernel
theorem dX0_put_11 : decode cX0_put 11 = .ok (.ldc 32, 2) := by decide +kernel
theorem dX0_put_13 : decode cX0_put 13 = .ok (.invokespecial 34, 3) := by decide +kernel
theorem dX0_put_16 : decode cX0_put 16 = .ok (.athrow, 1) := by decide +kernel
theorem dX0_put_17 : decode cX0_put 17 = .ok (.iload_n 2, 1) := by decide +kernel
theorem dX0_put_18 : decode cX0_put 18 = .ok (.sipush (-32768), 3) := by decide +kernel
theorem dX0_put_21 : decode cX0_put 21 = .ok (.if_icmp .lt 10, 3) := by decide +kernel
theorem dX0_put_24 : decode cX0_put 24 = .ok (.iload_n 2, 1) := by decide +kernel
theorem dX0_put_25 : decode cX0_put 25 = .ok (.sipush 32767, 3) := by decide +kernel
theorem dX0_put_28 : decode cX0_put 28 = .ok (.if_icmp .le 13, 3) := by decide +kernel
theorem dX0_put_31 : decode cX0_put 31 = .ok (.new 37, 3) := by decide +kernel
theorem dX0_put_34 : decode cX0_put 34 = .ok (.dup, 1) := by decide +kernel
theorem dX0_put_35 : decode cX0_put 35 = .ok (.ldc 39, 2) := by decide +kernel
theorem dX0_put_37 : decode cX0_put 37 = .ok (.invokespecial 41, 3) := by decide +kernel
theorem dX0_put_40 : decode cX0_put 40 = .ok (.athrow, 1) := by decide +kernel
theorem dX0_put_41 : decode cX0_put 41 = .ok (.aload_n 0, 1) := by decide +kernel
theorem dX0_put_42 : decode cX0_put 42 = .ok (.getfield 9, 3) := by decide +kernel
theorem dX0_put_45 : decode cX0_put 45 = .ok (.getstatic 42, 3) := by decide +kernel
theorem dX0_put_48 : decode cX0_put 48 = .ok (.iload_n 1, 1) := by decide +kernel
theorem dX0_put_49 : decode cX0_put 49 = .ok (.iaload, 1) := by decide +kernel
theorem dX0_put_50 : decode cX0_put 50 = .ok (.iload_n 2, 1) := by decide +kernel
theorem dX0_put_51 : decode cX0_put 51 = .ok (.iastore, 1) := by decide +kernel
theorem dX0_put_52 : decode cX0_put 52 = .ok (.return_, 1) := by decide +kernel
theorem dX0_step_0 : decode cX0_step 0 = .ok (.iload_n 1, 1) := by decide +kernel
theorem dX0_step_1 : decode cX0_step 1 = .ok (.invokestatic 26, 3) := by decide +kernel
theorem dX0_step_4 : decode cX0_step 4 = .ok (.ifCond .ne 13, 3) := by decide +kernel
theorem dX0_step_7 : decode cX0_step 7 = .ok (.new 30, 3) := by decide +kernel
theorem dX0_step_10 : decode cX0_step 10 = .ok (.dup, 1) := by decide +kernel
theorem dX0_step_11 : decode cX0_step 11 = .ok (.ldc 32, 2) := by decide +kernel
theorem dX0_step_13 : decode cX0_step 13 = .ok (.invokespecial 34, 3) := by decide +kernel
theorem dX0_step_16 : decode cX0_step 16 = .ok (.athrow, 1) := by decide +kernel
theorem dX0_step_17 : decode cX0_step 17 = .ok (.iload_n 2, 1) := by decide +kernel
theorem dX0_step_18 : decode cX0_step 18 = .ok (.iconst 1, 1) := by decide +kernel
theorem dX0_step_19 : decode cX0_step 19 = .ok (.if_icmp .lt 10, 3) := by decide +kernel
theorem dX0_step_22 : decode cX0_step 22 = .ok (.iload_n 2, 1) := by decide +kernel
theorem dX0_step_23 : decode cX0_step 23 = .ok (.sipush 255, 3) := by decide +kernel
theorem dX0_step_26 : decode cX0_step 26 = .ok (.if_icmp .le 13, 3) := by decide +kernel
theorem dX0_step_29 : decode cX0_step 29 = .ok (.new 37, 3) := by decide +kernel
theorem dX0_step_32 : decode cX0_step 32 = .ok (.dup, 1) := by decide +kernel
theorem dX0_step_33 : decode cX0_step 33 = .ok (.ldc 45, 2) := by decide +kernel
theorem dX0_step_35 : decode cX0_step 35 = .ok (.invokespecial 41, 3) := by decide +kernel
theorem dX0_step_38 : decode cX0_step 38 = .ok (.athrow, 1) := by decide +kernel
theorem dX0_step_39 : decode cX0_step 39 = .ok (.aload_n 0, 1) := by decide +kernel
theorem dX0_step_40 : decode cX0_step 40 = .ok (.getfield 13, 3) := by decide +kernel
theorem dX0_step_43 : decode cX0_step 43 = .ok (.getstatic 42, 3) := by decide +kernel
theorem dX0_step_46 : decode cX0_step 46 = .ok (.iload_n 1, 1) := by decide +kernel
theorem dX0_step_47 : decode cX0_step 47 = .ok (.iaload, 1) := by decide +kernel
theorem dX0_step_48 : decode cX0_step 48 = .ok (.iload_n 2, 1) := by decide +kernel
theorem dX0_step_49 : decode cX0_step 49 = .ok (.iastore, 1) := by decide +kernel
theorem dX0_step_50 : decode cX0_step 50 = .ok (.return_, 1) := by decide +kernel
theorem dX0_steps_0 : decode cX0_steps 0 = .ok (.iload_n 1, 1) := by decide +kernel
theorem dX0_steps_1 : decode cX0_steps 1 = .ok (.iconst 1, 1) := by decide +kernel
theorem dX0_steps_2 : decode cX0_steps 2 = .ok (.if_icmp .lt 32, 3) := by decide +kernel
theorem dX0_steps_5 : decode cX0_steps 5 = .ok (.iload_n 1, 1) := by decide +kernel
theorem dX0_steps_6 : decode cX0_steps 6 = .ok (.sipush 255, 3) := by decide +kernel
theorem dX0_steps_9 : decode cX0_steps 9 = .ok (.if_icmp .gt 25, 3) := by decide +kernel
theorem dX0_steps_12 : decode cX0_steps 12 = .ok (.iload_n 2, 1) := by decide +kernel
theorem dX0_steps_13 : decode cX0_steps 13 = .ok (.ifCond .lt 21, 3) := by decide +kernel
theorem dX0_steps_16 : decode cX0_steps 16 = .ok (.iload_n 2, 1) := by decide +kernel
theorem dX0_steps_17 : decode cX0_steps 17 = .ok (.bipush 32, 2) := by decide +kernel
theorem dX0_steps_19 : decode cX0_steps 19 = .ok (.if_icmp .gt 15, 3) := by decide +kernel
theorem dX0_steps_22 : decode cX0_steps 22 = .ok (.iload_n 3, 1) := by decide +kernel
theorem dX0_steps_23 : decode cX0_steps 23 = .ok (.iconst 1, 1) := by decide +kernel
theorem dX0_steps_24 : decode cX0_steps 24 = .ok (.if_icmp .lt 10, 3) := by decide +kernel
theorem dX0_steps_27 : decode cX0_steps 27 = .ok (.iload_n 3, 1) := by decide +kernel
theorem dX0_steps_28 : decode cX0_steps 28 = .ok (.sipush 5000, 3) := by decide +kernel
theorem dX0_steps_31 : decode cX0_steps 31 = .ok (.if_icmp .le 13, 3) := by decide +kernel
theorem dX0_steps_34 : decode cX0_steps 34 = .ok (.new 37, 3) := by decide +kernel
theorem dX0_steps_37 : decode cX0_steps 37 = .ok (.dup, 1) := by decide +kernel
theorem dX0_steps_38 : decode cX0_steps 38 = .ok (.ldc 47, 2) := by decide +kernel
theorem dX0_steps_40 : decode cX0_steps 40 = .ok (.invokespecial 41, 3) := by decide +kernel
theorem dX0_steps_43 : decode cX0_steps 43 = .ok (.athrow, 1) := by decide +kernel
theorem dX0_steps_44 : decode cX0_steps 44 = .ok (.iconst 0, 1) := by decide +kernel
theorem dX0_steps_45 : decode cX0_steps 45 = .ok (.istore 4, 2) := by decide +kernel
theorem dX0_steps_47 : decode cX0_steps 47 = .ok (.iload 4, 2) := by decide +kernel
theorem dX0_steps_49 : decode cX0_steps 49 = .ok (.bipush 8, 2) := by decide +kernel
theorem dX0_steps_51 : decode cX0_steps 51 = .ok (.if_icmp .ge 67, 3) := by decide +kernel
theorem dX0_steps_54 : decode cX0_steps 54 = .ok (.iconst 0, 1) := by decide +kernel
theorem dX0_steps_55 : decode cX0_steps 55 = .ok (.istore 5, 2) := by decide +kernel
theorem dX0_steps_57 : decode cX0_steps 57 = .ok (.iload 5, 2) := by decide +kernel
theorem dX0_steps_59 : decode cX0_steps 59 = .ok (.bipush 8, 2) := by decide +kernel
theorem dX0_steps_61 : decode cX0_steps 61 = .ok (.if_icmp .ge 51, 3) := by decide +kernel
theorem dX0_steps_64 : decode cX0_steps 64 = .ok (.iload_n 1, 1) := by decide +kernel
theorem dX0_steps_65 : decode cX0_steps 65 = .ok (.iload_n 2, 1) := by decide +kernel
theorem dX0_steps_66 : decode cX0_steps 66 = .ok (.iload 5, 2) := by decide +kernel
theorem dX0_steps_68 : decode cX0_steps 68 = .ok (.iload 4, 2) := by decide +kernel
theorem dX0_steps_70 : decode cX0_steps 70 = .ok (.iadd, 1) := by decide +kernel
theorem dX0_steps_71 : decode cX0_steps 71 = .ok (.imul, 1) := by decide +kernel
theorem dX0_steps_72 : decode cX0_steps 72 = .ok (.iadd, 1) := by decide +kernel
theorem dX0_steps_73 : decode cX0_steps 73 = .ok (.iload_n 3, 1) := by decide +kernel
theorem dX0_steps_74 : decode cX0_steps 74 = .ok (.imul, 1) := by decide +kernel
theorem dX0_steps_75 : decode cX0_steps 75 = .ok (.bipush 50, 2) := by decide +kernel
theorem dX0_steps_77 : decode cX0_steps 77 = .ok (.iadd, 1) := by decide +kernel
theorem dX0_steps_78 : decode cX0_steps 78 = .ok (.bipush 100, 2) := by decide +kernel
theorem dX0_steps_80 : decode cX0_steps 80 = .ok (.idiv, 1) := by decide +kernel
theorem dX0_steps_81 : decode cX0_steps 81 = .ok (.istore 6, 2) := by decide +kernel
theorem dX0_steps_83 : decode cX0_steps 83 = .ok (.aload_n 0, 1) := by decide +kernel
theorem dX0_steps_84 : decode cX0_steps 84 = .ok (.getfield 13, 3) := by decide +kernel
theorem dX0_steps_87 : decode cX0_steps 87 = .ok (.iload 4, 2) := by decide +kernel
theorem dX0_steps_89 : decode cX0_steps 89 = .ok (.bipush 8, 2) := by decide +kernel
theorem dX0_steps_91 : decode cX0_steps 91 = .ok (.imul, 1) := by decide +kernel
theorem dX0_steps_92 : decode cX0_steps 92 = .ok (.iload 5, 2) := by decide +kernel
theorem dX0_steps_94 : decode cX0_steps 94 = .ok (.iadd, 1) := by decide +kernel
theorem dX0_steps_95 : decode cX0_steps 95 = .ok (.iload 6, 2) := by decide +kernel
theorem dX0_steps_97 : decode cX0_steps 97 = .ok (.i2l, 1) := by decide +kernel
theorem dX0_steps_98 : decode cX0_steps 98 = .ok (.iconst 1, 1) := by decide +kernel
theorem dX0_steps_99 : decode cX0_steps 99 = .ok (.sipush 255, 3) := by decide +kernel
theorem dX0_steps_102 : decode cX0_steps 102 = .ok (.invokestatic 49, 3) := by decide +kernel
theorem dX0_steps_105 : decode cX0_steps 105 = .ok (.iastore, 1) := by decide +kernel
theorem dX0_steps_106 : decode cX0_steps 106 = .ok (.iinc 5 1, 3) := by decide +kernel
theorem dX0_steps_109 : decode cX0_steps 109 = .ok (.goto (-52), 3) := by decide +kernel
theorem dX0_steps_112 : decode cX0_steps 112 = .ok (.iinc 4 1, 3) := by decide +kernel
theorem dX0_steps_115 : decode cX0_steps 115 = .ok (.goto (-68), 3) := by decide +kernel
theorem dX0_steps_118 : decode cX0_steps 118 = .ok (.return_, 1) := by decide +kernel
theorem dX0_row_0 : decode cX0_row 0 = .ok (.iload_n 1, 1) := by decide +kernel
theorem dX0_row_1 : decode cX0_row 1 = .ok (.invokestatic 53, 3) := by decide +kernel
theorem dX0_row_4 : decode cX0_row 4 = .ok (.ifCond .ne 13, 3) := by decide +kernel
theorem dX0_row_7 : decode cX0_row 7 = .ok (.new 30, 3) := by decide +kernel
theorem dX0_row_10 : decode cX0_row 10 = .ok (.dup, 1) := by decide +kernel
theorem dX0_row_11 : decode cX0_row 11 = .ok (.ldc 56, 2) := by decide +kernel
theorem dX0_row_13 : decode cX0_row 13 = .ok (.invokespecial 34, 3) := by decide +kernel
theorem dX0_row_16 : decode cX0_row 16 = .ok (.athrow, 1) := by decide +kernel
theorem dX0_row_17 : decode cX0_row 17 = .ok (.iconst 0, 1) := by decide +kernel
theorem dX0_row_18 : decode cX0_row 18 = .ok (.istore 4, 2) := by decide +kernel
theorem dX0_row_20 : decode cX0_row 20 = .ok (.iload 4, 2) := by decide +kernel
theorem dX0_row_22 : decode cX0_row 22 = .ok (.bipush 8, 2) := by decide +kernel
theorem dX0_row_24 : decode cX0_row 24 = .ok (.if_icmp .ge 36, 3) := by decide +kernel
theorem dX0_row_27 : decode cX0_row 27 = .ok (.aload_n 0, 1) := by decide +kernel
theorem dX0_row_28 : decode cX0_row 28 = .ok (.getfield 16, 3) := by decide +kernel
theorem dX0_row_31 : decode cX0_row 31 = .ok (.iload_n 1, 1) := by decide +kernel
theorem dX0_row_32 : decode cX0_row 32 = .ok (.bipush 8, 2) := by decide +kernel
theorem dX0_row_34 : decode cX0_row 34 = .ok (.imul, 1) := by decide +kernel
theorem dX0_row_35 : decode cX0_row 35 = .ok (.iload 4, 2) := by decide +kernel
theorem dX0_row_37 : decode cX0_row 37 = .ok (.iadd, 1) := by decide +kernel
theorem dX0_row_38 : decode cX0_row 38 = .ok (.lload_n 2, 1) := by decide +kernel
theorem dX0_row_39 : decode cX0_row 39 = .ok (.bipush 56, 2) := by decide +kernel
theorem dX0_row_41 : decode cX0_row 41 = .ok (.bipush 8, 2) := by decide +kernel
theorem dX0_row_43 : decode cX0_row 43 = .ok (.iload 4, 2) := by decide +kernel
theorem dX0_row_45 : decode cX0_row 45 = .ok (.imul, 1) := by decide +kernel
theorem dX0_row_46 : decode cX0_row 46 = .ok (.isub, 1) := by decide +kernel
theorem dX0_row_47 : decode cX0_row 47 = .ok (.lushr, 1) := by decide +kernel
theorem dX0_row_48 : decode cX0_row 48 = .ok (.l2i, 1) := by decide +kernel
theorem dX0_row_49 : decode cX0_row 49 = .ok (.sipush 255, 3) := by decide +kernel
theorem dX0_row_52 : decode cX0_row 52 = .ok (.iand, 1) := by decide +kernel
theorem dX0_row_53 : decode cX0_row 53 = .ok (.iastore, 1) := by decide +kernel
theorem dX0_row_54 : decode cX0_row 54 = .ok (.iinc 4 1, 3) := by decide +kernel
theorem dX0_row_57 : decode cX0_row 57 = .ok (.goto (-37), 3) := by decide +kernel
theorem dX0_row_60 : decode cX0_row 60 = .ok (.return_, 1) := by decide +kernel
set_option maxHeartbeats 4000000 in
set_option maxRecDepth 100000 in
/-- put -/
theorem m_put (l : Launch) (hl9 : l.stackTraces = false) (D : va_G) (x : Nat → Nat) (cd : Nat → ClassId) (f0 f1 f2 f3 : Nat → Int32) (g : Nat → Int64) (q v9 : Int32) (sz : Nat) : vx_Met l yX0_put wsX0_put ({ frames := 6, cells := 1, slots := 6, locals := 82 } : Room) (va_Pc [.ref (x 0), .int q, .int v9] (crw D (cw x cd f0 f1 f2 f3 g) (cty cd) sz)) (va_Qv (fun (u : Nat → Int32) => (0 ≤ q.toInt ∧ q.toInt < 64) ∧ (-32768 ≤ v9.toInt ∧ v9.toInt ≤ 32767) ∧ u = upd f0 (cCn q.toInt.toNat) v9) (fun (u : Nat → Int32) (t : State) => crB D (cw x cd u f1 f2 f3 g) (cty cd) (va_A (cw x cd f0 f1 f2 f3 g) sz) t) (va_A (cw x cd f0 f1 f2 f3 g) sz)) (vx_X (fun (_ : Unit) => True) (fun (E : String) (_ : Unit) (_ : State) => (E = "java/lang/IndexOutOfBoundsException" ∧ ¬ (0 ≤ q.toInt ∧ q.toInt < 64)) ∨ (E = "java/lang/IllegalArgumentException" ∧ (0 ≤ q.toInt ∧ q.toInt < 64) ∧ ¬ (-32768 ≤ v9.toInt ∧ v9.toInt ≤ 32767))) (fun _ => False)) 1 6 (va_A (cw x cd f0 f1 f2 f3 g) sz) := by
  refine vx_ofW (cc := cX0_put) (maxL := 3) (ret := none) (by decide) rfl ?_
  intro p e s m args below meth c s₁ B hml htab hv
  obtain ⟨rfl, hsz, hP, hK, hD0, hTb⟩ := hv
  have hx := B.exec
  have hb := B.bytes
  have hr := B.returns
  have hts : ∀ w ∈ wA, w.before _ s = true := fun w h => atoms_spec (ws := wsX0_put) B.pre w (List.mem_cons_of_mem _ h)
  have hown : s.vm.findClass RX0 = some m.cls := findClass_of_methodNamed B.named
  have hlocks := B.notSynchronized
  subst hsz
  have hD := hD0.self (sz := s.heap.size)
  generalize hAe : va_A (cw x cd f0 f1 f2 f3 g) s.heap.size = A at hD hTb ⊢
  have hA : ∀ q : Nat, s.heap.size ≤ q → A q := fun q h => by rw [← hAe]; exact Or.inr h
  have hS : va_S A s.heap s.heap [] := va_S.rf
  have hin0 := inA0
  have hf9 := (hts _ wm_28)
  obtain ⟨⟨t0, hZ0, hT0⟩, ⟨t1, hZ1, hT1⟩, ⟨t2, hZ2, hT2⟩, hXU, hXN, ⟨hXc_i, hXc_a, hXd1, hXd2, hXd3⟩, hXstr, -⟩ := id hTb
  have hl := lv_entry ([.ref (x 0), .int q, .int v9]) (n := 3) (Nat.le_of_ble_eq_true rfl)
  rw [lg_entry_eq]
  generalize (lg_sl ([.ref (x 0), .int q, .int v9]) ++ List.replicate (3 - (lg_sl ([.ref (x 0), .int q, .int v9])).length) Slot.unset).toArray = ls at hl ⊢
  have hl : lv_has ls 3 [(0, .ref (x 0)), (1, .int q), (2, .int v9)] := hl
  refine lv_iload_n hx hb dX0_put_0 rfl (lv_at hl 1 rfl) ?_
  refine vp_callSi (W.runS (As := [.int q]) (rest := []) ⟨hx, hb, hml, hown, hts⟩ (m_isPlace l D q) (va_cwS 1 hts (gw_S wm_126 wm_127 wm_12 wm_128) rfl rfl rfl (by decide +kernel) ⟨Nat.le_of_ble_eq_true rfl, Nat.le_of_ble_eq_true rfl⟩) ⟨cro_blind, fun U hU hW => ⟨rfl, cro_at (hP.sub (ws' := []) [] rfl) (hK.sub (tys' := []) [] rfl) hTb hS hU hW⟩⟩ rfl rfl hl.1 rfl (lv_room (Nat.le_of_ble_eq_true rfl)) dX0_put_1 ⟨Nat.le_of_ble_eq_true rfl, Nat.le_of_ble_eq_true rfl⟩) (fun r_1 hr_1 => ?_)
  rcases hr_1 with ⟨rfl, ha9, hb9⟩ | ⟨rfl, ha9⟩
  · refine cx_if_ne (i := 1) (j := 0) (tgt := 17) hx hb (by decide +kernel) rfl dX0_put_4 (by decide) (fun c_2 => ?_) (fun c_2 => absurd c_2 (by decide))
    obtain ⟨j9, hj9, hej⟩ := cx_ofN (x := q) (n := 64) (by omega) (by omega) (by decide)
    have e_3 : q = nI j9 := hej
    rw [e_3] at hl
    refine lv_iload_n hx hb dX0_put_17 rfl (lv_at hl 2 rfl) ?_
    refine lv_sipush (v := (-32768 : Int32)) hx hb dX0_put_18 (by decide +kernel) ?_
    refine cx_icmp_lt (i := v9.toInt) (j := (-32768)) (tgt := 31) hx hb rfl (by decide +kernel) dX0_put_21 (by decide) (fun c_4 => ?_) (fun c_4 => ?_)
    · obtain ⟨sa9, hstr⟩ := hXstr.2.1
      exact vx_throwS (own := RX0) (cls := "java/lang/IllegalArgumentException") (names := ["java/lang/RuntimeException", "java/lang/Exception"]) hx hb hl9 hown (by decide +kernel) (by decide +kernel) (hts _ wm_196) (hts _ wm_18) hstr (vx_hat (L := vx_atS RX0 41 "java/lang/IllegalArgumentException" ["java/lang/RuntimeException", "java/lang/Exception"]) (B := [.castable "java/lang/IllegalArgumentException" "java/lang/IllegalArgumentException", .declares ⟨"java/lang/RuntimeException", "<init>", "(Ljava/lang/String;)V"⟩, .declares ⟨"java/lang/Exception", "<init>", "(Ljava/lang/String;)V"⟩, .declares ⟨"java/lang/Throwable", "<init>", "(Ljava/lang/String;)V"⟩]) (fun w hw => hts w (hat_a w hw)) hatB_a (vx_c (va_Nw.use rfl hXc_a) (vx_c (va_Nw.use rfl hXd1) (vx_c (va_Nw.use rfl hXd2) (vx_c (va_Nw.use rfl hXd3) (vx_n)))))) hatG_a hXU hXN hS (hl.1.trans hml.symm) dX0_put_31 dX0_put_34 dX0_put_35 dX0_put_37 dX0_put_40 (fun x9 h9 => (htab x9 h9).elim) (Nat.le_of_ble_eq_true rfl) (Nat.le_of_ble_eq_true rfl) (Nat.le_of_ble_eq_true rfl) (Nat.le_of_ble_eq_true rfl) hlocks (fun t ha hsz hk => ⟨(), trivial, Or.inr ⟨rfl, by omega⟩, hsz, fun q h1 _ => hk q h1⟩) hS.2.2 (Nat.le_of_ble_eq_true rfl) (Nat.le_of_ble_eq_true rfl)
    · refine lv_iload_n hx hb dX0_put_24 rfl (lv_at hl 2 rfl) ?_
      refine lv_sipush (v := (32767 : Int32)) hx hb dX0_put_25 (by decide +kernel) ?_
      refine cx_icmp_le (i := v9.toInt) (j := 32767) (tgt := 41) hx hb rfl (by decide +kernel) dX0_put_28 (by decide) (fun c_5 => ?_) (fun c_5 => ?_)
      · refine lv_aload_n hx hb dX0_put_41 rfl (lv_at hl 0 rfl) ?_
        refine va_get (D := D) (ci := 0) (v := .ref (x 1)) (C := RX0) (T := TX0) (N := 5) hx hb hts hin0 hown hK hP 0 rfl rfl 0 (by decide) hf9 (fun _ h9 => h9) rfl dX0_put_42 ?_
        refine va_gets (v := .ref t2) hx hb hZ2 hS hown (hts _ wm_108) (fun _ h9 => h9) dX0_put_45 ?_
        refine lv_iload_n hx hb dX0_put_48 rfl (lv_at hl 1 rfl) ?_
        refine cx_ti hx hb hT2 hS j9 (by omega) (by decide) dX0_put_49 ?_
        refine lv_iload_n hx hb dX0_put_50 rfl (lv_at hl 2 rfl) ?_
        refine cx_iast hx hb hK hP hD hS 1 0 rfl rfl (cCn j9) (cCn_lt j9 (by omega)) (by decide) dX0_put_51 (fun H locs hP hD hS => ?_)
        have hP : va_P D vwCl (cw x cd (upd f0 (cCn j9) v9) f1 f2 f3 g) H := hP
        have hD : va_D A (cw x cd (upd f0 (cCn j9) v9) f1 f2 f3 g) := hD
        refine W.widen (k := 1) (n := 6) (Nat.zero_le _) (Nat.zero_le _) (vx_ret ?_)
        exact W.vret hx hb hr (fun t ht hW => ⟨⟨upd f0 (cCn j9) v9, rfl, ⟨by omega, by omega, by rw [hej, cx_toNat (by omega)]⟩, by rw [ht]; exact hP, va_K.moved hW.alike hK, hD⟩, hS.F ht⟩) hS.2.2 dX0_put_52
      · obtain ⟨sa9, hstr⟩ := hXstr.2.1
        exact vx_throwS (own := RX0) (cls := "java/lang/IllegalArgumentException") (names := ["java/lang/RuntimeException", "java/lang/Exception"]) hx hb hl9 hown (by decide +kernel) (by decide +kernel) (hts _ wm_196) (hts _ wm_18) hstr (vx_hat (L := vx_atS RX0 41 "java/lang/IllegalArgumentException" ["java/lang/RuntimeException", "java/lang/Exception"]) (B := [.castable "java/lang/IllegalArgumentException" "java/lang/IllegalArgumentException", .declares ⟨"java/lang/RuntimeException", "<init>", "(Ljava/lang/String;)V"⟩, .declares ⟨"java/lang/Exception", "<init>", "(Ljava/lang/String;)V"⟩, .declares ⟨"java/lang/Throwable", "<init>", "(Ljava/lang/String;)V"⟩]) (fun w hw => hts w (hat_a w hw)) hatB_a (vx_c (va_Nw.use rfl hXc_a) (vx_c (va_Nw.use rfl hXd1) (vx_c (va_Nw.use rfl hXd2) (vx_c (va_Nw.use rfl hXd3) (vx_n)))))) hatG_a hXU hXN hS (hl.1.trans hml.symm) dX0_put_31 dX0_put_34 dX0_put_35 dX0_put_37 dX0_put_40 (fun x9 h9 => (htab x9 h9).elim) (Nat.le_of_ble_eq_true rfl) (Nat.le_of_ble_eq_true rfl) (Nat.le_of_ble_eq_true rfl) (Nat.le_of_ble_eq_true rfl) hlocks (fun t ha hsz hk => ⟨(), trivial, Or.inr ⟨rfl, by omega⟩, hsz, fun q h1 _ => hk q h1⟩) hS.2.2 (Nat.le_of_ble_eq_true rfl) (Nat.le_of_ble_eq_true rfl)
  · refine cx_if_ne (i := 0) (j := 0) (tgt := 17) hx hb (by decide +kernel) rfl dX0_put_4 (by decide) (fun c_6 => absurd c_6 (by decide)) (fun c_6 => ?_)
    obtain ⟨sa9, hstr⟩ := hXstr.1
    exact vx_throwS (own := RX0) (cls := "java/lang/IndexOutOfBoundsException") (names := ["java/lang/RuntimeException", "java/lang/Exception"]) hx hb hl9 hown (by decide +kernel) (by decide +kernel) (hts _ wm_129) (hts _ wm_17) hstr (vx_hat (L := vx_atS RX0 34 "java/lang/IndexOutOfBoundsException" ["java/lang/RuntimeException", "java/lang/Exception"]) (B := [.castable "java/lang/IndexOutOfBoundsException" "java/lang/IndexOutOfBoundsException", .declares ⟨"java/lang/RuntimeException", "<init>", "(Ljava/lang/String;)V"⟩, .declares ⟨"java/lang/Exception", "<init>", "(Ljava/lang/String;)V"⟩, .declares ⟨"java/lang/Throwable", "<init>", "(Ljava/lang/String;)V"⟩]) (fun w hw => hts w (hat_i w hw)) hatB_i (vx_c (va_Nw.use rfl hXc_i) (vx_c (va_Nw.use rfl hXd1) (vx_c (va_Nw.use rfl hXd2) (vx_c (va_Nw.use rfl hXd3) (vx_n)))))) hatG_i hXU hXN hS (hl.1.trans hml.symm) dX0_put_7 dX0_put_10 dX0_put_11 dX0_put_13 dX0_put_16 (fun x9 h9 => (htab x9 h9).elim) (Nat.le_of_ble_eq_true rfl) (Nat.le_of_ble_eq_true rfl) (Nat.le_of_ble_eq_true rfl) (Nat.le_of_ble_eq_true rfl) hlocks (fun t ha hsz hk => ⟨(), trivial, Or.inl ⟨rfl, by omega⟩, hsz, fun q h1 _ => hk q h1⟩) hS.2.2 (Nat.le_of_ble_eq_true rfl) (Nat.le_of_ble_eq_true rfl)
set_option maxHeartbeats 4000000 in
set_option maxRecDepth 100000 in
/-- step -/
theorem m_step (l : Launch) (hl9 : l.stackTraces = false) (D : va_G) (x : Nat → Nat) (cd : Nat → ClassId) (f0 f1 f2 f3 : Nat → Int32) (g : Nat → Int64) (q v9 : Int32) (sz : Nat) : vx_Met l yX0_step wsX0_step ({ frames := 6, cells := 1, slots := 6, locals := 82 } : Room) (va_Pc [.ref (x 0), .int q, .int v9] (crw D (cw x cd f0 f1 f2 f3 g) (cty cd) sz)) (va_Qv (fun (u : Nat → Int32) => (0 ≤ q.toInt ∧ q.toInt < 64) ∧ (1 ≤ v9.toInt ∧ v9.toInt ≤ 255) ∧ u = upd f1 (cCn q.toInt.toNat) v9) (fun (u : Nat → Int32) (t : State) => crB D (cw x cd f0 u f2 f3 g) (cty cd) (va_A (cw x cd f0 f1 f2 f3 g) sz) t) (va_A (cw x cd f0 f1 f2 f3 g) sz)) (vx_X (fun (_ : Unit) => True) (fun (E : String) (_ : Unit) (_ : State) => (E = "java/lang/IndexOutOfBoundsException" ∧ ¬ (0 ≤ q.toInt ∧ q.toInt < 64)) ∨ (E = "java/lang/IllegalArgumentException" ∧ (0 ≤ q.toInt ∧ q.toInt < 64) ∧ ¬ (1 ≤ v9.toInt ∧ v9.toInt ≤ 255))) (fun _ => False)) 1 6 (va_A (cw x cd f0 f1 f2 f3 g) sz) := by
  refine vx_ofW (cc := cX0_step) (maxL := 3) (ret := none) (by decide) rfl ?_
  intro p e s m args below meth c s₁ B hml htab hv
  obtain ⟨rfl, hsz, hP, hK, hD0, hTb⟩ := hv
  have hx := B.exec
  have hb := B.bytes
  have hr := B.returns
  have hts : ∀ w ∈ wA, w.before _ s = true := fun w h => atoms_spec (ws := wsX0_step) B.pre w (List.mem_cons_of_mem _ h)
  have hown : s.vm.findClass RX0 = some m.cls := findClass_of_methodNamed B.named
  have hlocks := B.notSynchronized
  subst hsz
  have hD := hD0.self (sz := s.heap.size)
  generalize hAe : va_A (cw x cd f0 f1 f2 f3 g) s.heap.size = A at hD hTb ⊢
  have hA : ∀ q : Nat, s.heap.size ≤ q → A q := fun q h => by rw [← hAe]; exact Or.inr h
  have hS : va_S A s.heap s.heap [] := va_S.rf
  have hin0 := inA0
  have hf13 := (hts _ wm_29)
  obtain ⟨⟨t0, hZ0, hT0⟩, ⟨t1, hZ1, hT1⟩, ⟨t2, hZ2, hT2⟩, hXU, hXN, ⟨hXc_i, hXc_a, hXd1, hXd2, hXd3⟩, hXstr, -⟩ := id hTb
  have hl := lv_entry ([.ref (x 0), .int q, .int v9]) (n := 3) (Nat.le_of_ble_eq_true rfl)
  rw [lg_entry_eq]
  generalize (lg_sl ([.ref (x 0), .int q, .int v9]) ++ List.replicate (3 - (lg_sl ([.ref (x 0), .int q, .int v9])).length) Slot.unset).toArray = ls at hl ⊢
  have hl : lv_has ls 3 [(0, .ref (x 0)), (1, .int q), (2, .int v9)] := hl
  refine lv_iload_n hx hb dX0_step_0 rfl (lv_at hl 1 rfl) ?_
  refine vp_callSi (W.runS (As := [.int q]) (rest := []) ⟨hx, hb, hml, hown, hts⟩ (m_isPlace l D q) (va_cwS 1 hts (gw_S wm_126 wm_127 wm_12 wm_128) rfl rfl rfl (by decide +kernel) ⟨Nat.le_of_ble_eq_true rfl, Nat.le_of_ble_eq_true rfl⟩) ⟨cro_blind, fun U hU hW => ⟨rfl, cro_at (hP.sub (ws' := []) [] rfl) (hK.sub (tys' := []) [] rfl) hTb hS hU hW⟩⟩ rfl rfl hl.1 rfl (lv_room (Nat.le_of_ble_eq_true rfl)) dX0_step_1 ⟨Nat.le_of_ble_eq_true rfl, Nat.le_of_ble_eq_true rfl⟩) (fun r_1 hr_1 => ?_)
  rcases hr_1 with ⟨rfl, ha9, hb9⟩ | ⟨rfl, ha9⟩
  · refine cx_if_ne (i := 1) (j := 0) (tgt := 17) hx hb (by decide +kernel) rfl dX0_step_4 (by decide) (fun c_2 => ?_) (fun c_2 => absurd c_2 (by decide))
    obtain ⟨j9, hj9, hej⟩ := cx_ofN (x := q) (n := 64) (by omega) (by omega) (by decide)
    have e_3 : q = nI j9 := hej
    rw [e_3] at hl
    refine lv_iload_n hx hb dX0_step_17 rfl (lv_at hl 2 rfl) ?_
    refine lv_iconst (v := (1 : Int32)) hx hb dX0_step_18 (by decide +kernel) ?_
    refine cx_icmp_lt (i := v9.toInt) (j := 1) (tgt := 29) hx hb rfl (by decide +kernel) dX0_step_19 (by decide) (fun c_4 => ?_) (fun c_4 => ?_)
    · obtain ⟨sa9, hstr⟩ := hXstr.2.2.1
      exact vx_throwS (own := RX0) (cls := "java/lang/IllegalArgumentException") (names := ["java/lang/RuntimeException", "java/lang/Exception"]) hx hb hl9 hown (by decide +kernel) (by decide +kernel) (hts _ wm_196) (hts _ wm_18) hstr (vx_hat (L := vx_atS RX0 41 "java/lang/IllegalArgumentException" ["java/lang/RuntimeException", "java/lang/Exception"]) (B := [.castable "java/lang/IllegalArgumentException" "java/lang/IllegalArgumentException", .declares ⟨"java/lang/RuntimeException", "<init>", "(Ljava/lang/String;)V"⟩, .declares ⟨"java/lang/Exception", "<init>", "(Ljava/lang/String;)V"⟩, .declares ⟨"java/lang/Throwable", "<init>", "(Ljava/lang/String;)V"⟩]) (fun w hw => hts w (hat_a w hw)) hatB_a (vx_c (va_Nw.use rfl hXc_a) (vx_c (va_Nw.use rfl hXd1) (vx_c (va_Nw.use rfl hXd2) (vx_c (va_Nw.use rfl hXd3) (vx_n)))))) hatG_a hXU hXN hS (hl.1.trans hml.symm) dX0_step_29 dX0_step_32 dX0_step_33 dX0_step_35 dX0_step_38 (fun x9 h9 => (htab x9 h9).elim) (Nat.le_of_ble_eq_true rfl) (Nat.le_of_ble_eq_true rfl) (Nat.le_of_ble_eq_true rfl) (Nat.le_of_ble_eq_true rfl) hlocks (fun t ha hsz hk => ⟨(), trivial, Or.inr ⟨rfl, by omega⟩, hsz, fun q h1 _ => hk q h1⟩) hS.2.2 (Nat.le_of_ble_eq_true rfl) (Nat.le_of_ble_eq_true rfl)
    · refine lv_iload_n hx hb dX0_step_22 rfl (lv_at hl 2 rfl) ?_
      refine lv_sipush (v := (255 : Int32)) hx hb dX0_step_23 (by decide +kernel) ?_
      refine cx_icmp_le (i := v9.toInt) (j := 255) (tgt := 39) hx hb rfl (by decide +kernel) dX0_step_26 (by decide) (fun c_5 => ?_) (fun c_5 => ?_)
      · refine lv_aload_n hx hb dX0_step_39 rfl (lv_at hl 0 rfl) ?_
        refine va_get (D := D) (ci := 0) (v := .ref (x 2)) (C := RX0) (T := TX0) (N := 5) hx hb hts hin0 hown hK hP 0 rfl rfl 1 (by decide) hf13 (fun _ h9 => h9) rfl dX0_step_40 ?_
        refine va_gets (v := .ref t2) hx hb hZ2 hS hown (hts _ wm_108) (fun _ h9 => h9) dX0_step_43 ?_
        refine lv_iload_n hx hb dX0_step_46 rfl (lv_at hl 1 rfl) ?_
        refine cx_ti hx hb hT2 hS j9 (by omega) (by decide) dX0_step_47 ?_
        refine lv_iload_n hx hb dX0_step_48 rfl (lv_at hl 2 rfl) ?_
        refine cx_iast hx hb hK hP hD hS 2 1 rfl rfl (cCn j9) (cCn_lt j9 (by omega)) (by decide) dX0_step_49 (fun H locs hP hD hS => ?_)
        have hP : va_P D vwCl (cw x cd f0 (upd f1 (cCn j9) v9) f2 f3 g) H := hP
        have hD : va_D A (cw x cd f0 (upd f1 (cCn j9) v9) f2 f3 g) := hD
        refine W.widen (k := 1) (n := 6) (Nat.zero_le _) (Nat.zero_le _) (vx_ret ?_)
        exact W.vret hx hb hr (fun t ht hW => ⟨⟨upd f1 (cCn j9) v9, rfl, ⟨by omega, by omega, by rw [hej, cx_toNat (by omega)]⟩, by rw [ht]; exact hP, va_K.moved hW.alike hK, hD⟩, hS.F ht⟩) hS.2.2 dX0_step_50
      · obtain ⟨sa9, hstr⟩ := hXstr.2.2.1
        exact vx_throwS (own := RX0) (cls := "java/lang/IllegalArgumentException") (names := ["java/lang/RuntimeException", "java/lang/Exception"]) hx hb hl9 hown (by decide +kernel) (by decide +kernel) (hts _ wm_196) (hts _ wm_18) hstr (vx_hat (L := vx_atS RX0 41 "java/lang/IllegalArgumentException" ["java/lang/RuntimeException", "java/lang/Exception"]) (B := [.castable "java/lang/IllegalArgumentException" "java/lang/IllegalArgumentException", .declares ⟨"java/lang/RuntimeException", "<init>", "(Ljava/lang/String;)V"⟩, .declares ⟨"java/lang/Exception", "<init>", "(Ljava/lang/String;)V"⟩, .declares ⟨"java/lang/Throwable", "<init>", "(Ljava/lang/String;)V"⟩]) (fun w hw => hts w (hat_a w hw)) hatB_a (vx_c (va_Nw.use rfl hXc_a) (vx_c (va_Nw.use rfl hXd1) (vx_c (va_Nw.use rfl hXd2) (vx_c (va_Nw.use rfl hXd3) (vx_n)))))) hatG_a hXU hXN hS (hl.1.trans hml.symm) dX0_step_29 dX0_step_32 dX0_step_33 dX0_step_35 dX0_step_38 (fun x9 h9 => (htab x9 h9).elim) (Nat.le_of_ble_eq_true rfl) (Nat.le_of_ble_eq_true rfl) (Nat.le_of_ble_eq_true rfl) (Nat.le_of_ble_eq_true rfl) hlocks (fun t ha hsz hk => ⟨(), trivial, Or.inr ⟨rfl, by omega⟩, hsz, fun q h1 _ => hk q h1⟩) hS.2.2 (Nat.le_of_ble_eq_true rfl) (Nat.le_of_ble_eq_true rfl)
  · refine cx_if_ne (i := 0) (j := 0) (tgt := 17) hx hb (by decide +kernel) rfl dX0_step_4 (by decide) (fun c_6 => absurd c_6 (by decide)) (fun c_6 => ?_)
    obtain ⟨sa9, hstr⟩ := hXstr.1
    exact vx_throwS (own := RX0) (cls := "java/lang/IndexOutOfBoundsException") (names := ["java/lang/RuntimeException", "java/lang/Exception"]) hx hb hl9 hown (by decide +kernel) (by decide +kernel) (hts _ wm_129) (hts _ wm_17) hstr (vx_hat (L := vx_atS RX0 34 "java/lang/IndexOutOfBoundsException" ["java/lang/RuntimeException", "java/lang/Exception"]) (B := [.castable "java/lang/IndexOutOfBoundsException" "java/lang/IndexOutOfBoundsException", .declares ⟨"java/lang/RuntimeException", "<init>", "(Ljava/lang/String;)V"⟩, .declares ⟨"java/lang/Exception", "<init>", "(Ljava/lang/String;)V"⟩, .declares ⟨"java/lang/Throwable", "<init>", "(Ljava/lang/String;)V"⟩]) (fun w hw => hts w (hat_i w hw)) hatB_i (vx_c (va_Nw.use rfl hXc_i) (vx_c (va_Nw.use rfl hXd1) (vx_c (va_Nw.use rfl hXd2) (vx_c (va_Nw.use rfl hXd3) (vx_n)))))) hatG_i hXU hXN hS (hl.1.trans hml.symm) dX0_step_7 dX0_step_10 dX0_step_11 dX0_step_13 dX0_step_16 (fun x9 h9 => (htab x9 h9).elim) (Nat.le_of_ble_eq_true rfl) (Nat.le_of_ble_eq_true rfl) (Nat.le_of_ble_eq_true rfl) (Nat.le_of_ble_eq_true rfl) hlocks (fun t ha hsz hk => ⟨(), trivial, Or.inl ⟨rfl, by omega⟩, hsz, fun q h1 _ => hk q h1⟩) hS.2.2 (Nat.le_of_ble_eq_true rfl) (Nat.le_of_ble_eq_true rfl)
set_option maxHeartbeats 4000000 in
set_option maxRecDepth 100000 in
/-- steps -/
theorem m_steps (l : Launch) (hl9 : l.stackTraces = false) (D : va_G) (x : Nat → Nat) (cd : Nat → ClassId) (f0 f1 f2 f3 : Nat → Int32) (g : Nat → Int64) (b9 s9 p9 : Int32) (sz : Nat) : vx_Met l yX0_steps wsX0_steps ({ frames := 6, cells := 1, slots := 6, locals := 82 } : Room) (va_Pc [.ref (x 0), .int b9, .int s9, .int p9] (crw D (cw x cd f0 f1 f2 f3 g) (cty cd) sz)) (va_Qv (fun (u : Nat → Int32) => ((1 ≤ b9.toInt ∧ b9.toInt ≤ 255) ∧ (0 ≤ s9.toInt ∧ s9.toInt ≤ 32) ∧ (1 ≤ p9.toInt ∧ p9.toInt ≤ 5000)) ∧ ∀ a b, a < 8 → b < 8 → u (a * 8 + b) = stV b9 s9 p9 a b) (fun (u : Nat → Int32) (t : State) => crB D (cw x cd f0 u f2 f3 g) (cty cd) (va_A (cw x cd f0 f1 f2 f3 g) sz) t) (va_A (cw x cd f0 f1 f2 f3 g) sz)) (vx_X (fun (_ : Unit) => True) (fun (E : String) (_ : Unit) (_ : State) => (E = "java/lang/IllegalArgumentException" ∧ ¬ ((1 ≤ b9.toInt ∧ b9.toInt ≤ 255) ∧ (0 ≤ s9.toInt ∧ s9.toInt ≤ 32) ∧ (1 ≤ p9.toInt ∧ p9.toInt ≤ 5000)))) (fun _ => False)) 1 6 (va_A (cw x cd f0 f1 f2 f3 g) sz) := by
  refine vx_ofW (cc := cX0_steps) (maxL := 7) (ret := none) (by decide) rfl ?_
  intro p e s m args below meth c s₁ B hml htab hv
  obtain ⟨rfl, hsz, hP, hK, hD0, hTb⟩ := hv
  have hx := B.exec
  have hb := B.bytes
  have hr := B.returns
  have hts : ∀ w ∈ wA, w.before _ s = true := fun w h => atoms_spec (ws := wsX0_steps) B.pre w (List.mem_cons_of_mem _ h)
  have hown : s.vm.findClass RX0 = some m.cls := findClass_of_methodNamed B.named
  have hlocks := B.notSynchronized
  subst hsz
  have hD := hD0.self (sz := s.heap.size)
  generalize hAe : va_A (cw x cd f0 f1 f2 f3 g) s.heap.size = A at hD hTb ⊢
  have hA : ∀ q : Nat, s.heap.size ≤ q → A q := fun q h => by rw [← hAe]; exact Or.inr h
  have hS : va_S A s.heap s.heap [] := va_S.rf
  have hin0 := inA0
  have hf13 := (hts _ wm_29)
  obtain ⟨⟨t0, hZ0, hT0⟩, ⟨t1, hZ1, hT1⟩, ⟨t2, hZ2, hT2⟩, hXU, hXN, ⟨hXc_i, hXc_a, hXd1, hXd2, hXd3⟩, hXstr, -⟩ := id hTb
  have hl := lv_entry ([.ref (x 0), .int b9, .int s9, .int p9]) (n := 7) (Nat.le_of_ble_eq_true rfl)
  rw [lg_entry_eq]
  generalize (lg_sl ([.ref (x 0), .int b9, .int s9, .int p9]) ++ List.replicate (7 - (lg_sl ([.ref (x 0), .int b9, .int s9, .int p9])).length) Slot.unset).toArray = ls at hl ⊢
  have hl : lv_has ls 7 [(0, .ref (x 0)), (1, .int b9), (2, .int s9), (3, .int p9)] := hl
  refine lv_iload_n hx hb dX0_steps_0 rfl (lv_at hl 1 rfl) ?_
  refine lv_iconst (v := (1 : Int32)) hx hb dX0_steps_1 (by decide +kernel) ?_
  refine cx_icmp_lt (i := b9.toInt) (j := 1) (tgt := 34) hx hb rfl (by decide +kernel) dX0_steps_2 (by decide) (fun c_1 => ?_) (fun c_1 => ?_)
  · obtain ⟨sa9, hstr⟩ := hXstr.2.2.2.1
    exact vx_throwS (own := RX0) (cls := "java/lang/IllegalArgumentException") (names := ["java/lang/RuntimeException", "java/lang/Exception"]) hx hb hl9 hown (by decide +kernel) (by decide +kernel) (hts _ wm_196) (hts _ wm_18) hstr (vx_hat (L := vx_atS RX0 41 "java/lang/IllegalArgumentException" ["java/lang/RuntimeException", "java/lang/Exception"]) (B := [.castable "java/lang/IllegalArgumentException" "java/lang/IllegalArgumentException", .declares ⟨"java/lang/RuntimeException", "<init>", "(Ljava/lang/String;)V"⟩, .declares ⟨"java/lang/Exception", "<init>", "(Ljava/lang/String;)V"⟩, .declares ⟨"java/lang/Throwable", "<init>", "(Ljava/lang/String;)V"⟩]) (fun w hw => hts w (hat_a w hw)) hatB_a (vx_c (va_Nw.use rfl hXc_a) (vx_c (va_Nw.use rfl hXd1) (vx_c (va_Nw.use rfl hXd2) (vx_c (va_Nw.use rfl hXd3) (vx_n)))))) hatG_a hXU hXN hS (hl.1.trans hml.symm) dX0_steps_34 dX0_steps_37 dX0_steps_38 dX0_steps_40 dX0_steps_43 (fun x9 h9 => (htab x9 h9).elim) (Nat.le_of_ble_eq_true rfl) (Nat.le_of_ble_eq_true rfl) (Nat.le_of_ble_eq_true rfl) (Nat.le_of_ble_eq_true rfl) hlocks (fun t ha hsz hk => ⟨(), trivial, ⟨rfl, by omega⟩, hsz, fun q h1 _ => hk q h1⟩) hS.2.2 (Nat.le_of_ble_eq_true rfl) (Nat.le_of_ble_eq_true rfl)
  · refine lv_iload_n hx hb dX0_steps_5 rfl (lv_at hl 1 rfl) ?_
    refine lv_sipush (v := (255 : Int32)) hx hb dX0_steps_6 (by decide +kernel) ?_
    refine cx_icmp_gt (i := b9.toInt) (j := 255) (tgt := 34) hx hb rfl (by decide +kernel) dX0_steps_9 (by decide) (fun c_2 => ?_) (fun c_2 => ?_)
    · obtain ⟨sa9, hstr⟩ := hXstr.2.2.2.1
      exact vx_throwS (own := RX0) (cls := "java/lang/IllegalArgumentException") (names := ["java/lang/RuntimeException", "java/lang/Exception"]) hx hb hl9 hown (by decide +kernel) (by decide +kernel) (hts _ wm_196) (hts _ wm_18) hstr (vx_hat (L := vx_atS RX0 41 "java/lang/IllegalArgumentException" ["java/lang/RuntimeException", "java/lang/Exception"]) (B := [.castable "java/lang/IllegalArgumentException" "java/lang/IllegalArgumentException", .declares ⟨"java/lang/RuntimeException", "<init>", "(Ljava/lang/String;)V"⟩, .declares ⟨"java/lang/Exception", "<init>", "(Ljava/lang/String;)V"⟩, .declares ⟨"java/lang/Throwable", "<init>", "(Ljava/lang/String;)V"⟩]) (fun w hw => hts w (hat_a w hw)) hatB_a (vx_c (va_Nw.use rfl hXc_a) (vx_c (va_Nw.use rfl hXd1) (vx_c (va_Nw.use rfl hXd2) (vx_c (va_Nw.use rfl hXd3) (vx_n)))))) hatG_a hXU hXN hS (hl.1.trans hml.symm) dX0_steps_34 dX0_steps_37 dX0_steps_38 dX0_steps_40 dX0_steps_43 (fun x9 h9 => (htab x9 h9).elim) (Nat.le_of_ble_eq_true rfl) (Nat.le_of_ble_eq_true rfl) (Nat.le_of_ble_eq_true rfl) (Nat.le_of_ble_eq_true rfl) hlocks (fun t ha hsz hk => ⟨(), trivial, ⟨rfl, by omega⟩, hsz, fun q h1 _ => hk q h1⟩) hS.2.2 (Nat.le_of_ble_eq_true rfl) (Nat.le_of_ble_eq_true rfl)
    · refine lv_iload_n hx hb dX0_steps_12 rfl (lv_at hl 2 rfl) ?_
      refine cx_if_lt (i := s9.toInt) (j := 0) (tgt := 34) hx hb rfl rfl dX0_steps_13 (by decide) (fun c_3 => ?_) (fun c_3 => ?_)
      · obtain ⟨sa9, hstr⟩ := hXstr.2.2.2.1
        exact vx_throwS (own := RX0) (cls := "java/lang/IllegalArgumentException") (names := ["java/lang/RuntimeException", "java/lang/Exception"]) hx hb hl9 hown (by decide +kernel) (by decide +kernel) (hts _ wm_196) (hts _ wm_18) hstr (vx_hat (L := vx_atS RX0 41 "java/lang/IllegalArgumentException" ["java/lang/RuntimeException", "java/lang/Exception"]) (B := [.castable "java/lang/IllegalArgumentException" "java/lang/IllegalArgumentException", .declares ⟨"java/lang/RuntimeException", "<init>", "(Ljava/lang/String;)V"⟩, .declares ⟨"java/lang/Exception", "<init>", "(Ljava/lang/String;)V"⟩, .declares ⟨"java/lang/Throwable", "<init>", "(Ljava/lang/String;)V"⟩]) (fun w hw => hts w (hat_a w hw)) hatB_a (vx_c (va_Nw.use rfl hXc_a) (vx_c (va_Nw.use rfl hXd1) (vx_c (va_Nw.use rfl hXd2) (vx_c (va_Nw.use rfl hXd3) (vx_n)))))) hatG_a hXU hXN hS (hl.1.trans hml.symm) dX0_steps_34 dX0_steps_37 dX0_steps_38 dX0_steps_40 dX0_steps_43 (fun x9 h9 => (htab x9 h9).elim) (Nat.le_of_ble_eq_true rfl) (Nat.le_of_ble_eq_true rfl) (Nat.le_of_ble_eq_true rfl) (Nat.le_of_ble_eq_true rfl) hlocks (fun t ha hsz hk => ⟨(), trivial, ⟨rfl, by omega⟩, hsz, fun q h1 _ => hk q h1⟩) hS.2.2 (Nat.le_of_ble_eq_true rfl) (Nat.le_of_ble_eq_true rfl)
      · refine lv_iload_n hx hb dX0_steps_16 rfl (lv_at hl 2 rfl) ?_
        refine lv_bipush (v := (32 : Int32)) hx hb dX0_steps_17 (by decide +kernel) ?_
        refine cx_icmp_gt (i := s9.toInt) (j := 32) (tgt := 34) hx hb rfl (by decide +kernel) dX0_steps_19 (by decide) (fun c_4 => ?_) (fun c_4 => ?_)
        · obtain ⟨sa9, hstr⟩ := hXstr.2.2.2.1
          exact vx_throwS (own := RX0) (cls := "java/lang/IllegalArgumentException") (names := ["java/lang/RuntimeException", "java/lang/Exception"]) hx hb hl9 hown (by decide +kernel) (by decide +kernel) (hts _ wm_196) (hts _ wm_18) hstr (vx_hat (L := vx_atS RX0 41 "java/lang/IllegalArgumentException" ["java/lang/RuntimeException", "java/lang/Exception"]) (B := [.castable "java/lang/IllegalArgumentException" "java/lang/IllegalArgumentException", .declares ⟨"java/lang/RuntimeException", "<init>", "(Ljava/lang/String;)V"⟩, .declares ⟨"java/lang/Exception", "<init>", "(Ljava/lang/String;)V"⟩, .declares ⟨"java/lang/Throwable", "<init>", "(Ljava/lang/String;)V"⟩]) (fun w hw => hts w (hat_a w hw)) hatB_a (vx_c (va_Nw.use rfl hXc_a) (vx_c (va_Nw.use rfl hXd1) (vx_c (va_Nw.use rfl hXd2) (vx_c (va_Nw.use rfl hXd3) (vx_n)))))) hatG_a hXU hXN hS (hl.1.trans hml.symm) dX0_steps_34 dX0_steps_37 dX0_steps_38 dX0_steps_40 dX0_steps_43 (fun x9 h9 => (htab x9 h9).elim) (Nat.le_of_ble_eq_true rfl) (Nat.le_of_ble_eq_true rfl) (Nat.le_of_ble_eq_true rfl) (Nat.le_of_ble_eq_true rfl) hlocks (fun t ha hsz hk => ⟨(), trivial, ⟨rfl, by omega⟩, hsz, fun q h1 _ => hk q h1⟩) hS.2.2 (Nat.le_of_ble_eq_true rfl) (Nat.le_of_ble_eq_true rfl)
        · refine lv_iload_n hx hb dX0_steps_22 rfl (lv_at hl 3 rfl) ?_
          refine lv_iconst (v := (1 : Int32)) hx hb dX0_steps_23 (by decide +kernel) ?_
          refine cx_icmp_lt (i := p9.toInt) (j := 1) (tgt := 34) hx hb rfl (by decide +kernel) dX0_steps_24 (by decide) (fun c_5 => ?_) (fun c_5 => ?_)
          · obtain ⟨sa9, hstr⟩ := hXstr.2.2.2.1
            exact vx_throwS (own := RX0) (cls := "java/lang/IllegalArgumentException") (names := ["java/lang/RuntimeException", "java/lang/Exception"]) hx hb hl9 hown (by decide +kernel) (by decide +kernel) (hts _ wm_196) (hts _ wm_18) hstr (vx_hat (L := vx_atS RX0 41 "java/lang/IllegalArgumentException" ["java/lang/RuntimeException", "java/lang/Exception"]) (B := [.castable "java/lang/IllegalArgumentException" "java/lang/IllegalArgumentException", .declares ⟨"java/lang/RuntimeException", "<init>", "(Ljava/lang/String;)V"⟩, .declares ⟨"java/lang/Exception", "<init>", "(Ljava/lang/String;)V"⟩, .declares ⟨"java/lang/Throwable", "<init>", "(Ljava/lang/String;)V"⟩]) (fun w hw => hts w (hat_a w hw)) hatB_a (vx_c (va_Nw.use rfl hXc_a) (vx_c (va_Nw.use rfl hXd1) (vx_c (va_Nw.use rfl hXd2) (vx_c (va_Nw.use rfl hXd3) (vx_n)))))) hatG_a hXU hXN hS (hl.1.trans hml.symm) dX0_steps_34 dX0_steps_37 dX0_steps_38 dX0_steps_40 dX0_steps_43 (fun x9 h9 => (htab x9 h9).elim) (Nat.le_of_ble_eq_true rfl) (Nat.le_of_ble_eq_true rfl) (Nat.le_of_ble_eq_true rfl) (Nat.le_of_ble_eq_true rfl) hlocks (fun t ha hsz hk => ⟨(), trivial, ⟨rfl, by omega⟩, hsz, fun q h1 _ => hk q h1⟩) hS.2.2 (Nat.le_of_ble_eq_true rfl) (Nat.le_of_ble_eq_true rfl)
          · refine lv_iload_n hx hb dX0_steps_27 rfl (lv_at hl 3 rfl) ?_
            refine lv_sipush (v := (5000 : Int32)) hx hb dX0_steps_28 (by decide +kernel) ?_
            refine cx_icmp_le (i := p9.toInt) (j := 5000) (tgt := 44) hx hb rfl (by decide +kernel) dX0_steps_31 (by decide) (fun c_6 => ?_) (fun c_6 => ?_)
            · refine lv_iconst (v := (0 : Int32)) hx hb dX0_steps_44 (by decide +kernel) ?_
              refine lv_istore (lv' := [(4, .int (0 : Int32)), (0, .ref (x 0)), (1, .int b9), (2, .int s9), (3, .int p9)]) hx hb dX0_steps_45 hl (by decide) rfl (fun ls hl => ?_)
              have L47 : ∀ (n : Nat) (y9 : Nat) (w9 : Nat → Int32) (H : Heap) (locs : List Loc) (ls : Array Slot), (8 - y9) < n → (y9 ≤ 8) → (∀ a b, a < y9 → b < 8 → w9 (a * 8 + b) = stV b9 s9 p9 a b) → va_P D vwCl (cw x cd f0 w9 f2 f3 g) H → va_D A (cw x cd f0 w9 f2 f3 g) → va_S A s.heap H locs → lv_has ls 7 [(0, .ref (x 0)), (1, .int b9), (2, .int s9), (3, .int p9), (4, .int (nI y9))] → W p l e ((headSpec wsX0_steps ({ frames := 6, cells := 1, slots := 6, locals := 82 } : Room)).room) s m (([.ref (x 0), .int b9, .int s9, .int p9] : List Value).toArray) below meth c H locs 0 0 (vx_MQ below (va_Qv (fun (u : Nat → Int32) => ((1 ≤ b9.toInt ∧ b9.toInt ≤ 255) ∧ (0 ≤ s9.toInt ∧ s9.toInt ≤ 32) ∧ (1 ≤ p9.toInt ∧ p9.toInt ≤ 5000)) ∧ ∀ a b, a < 8 → b < 8 → u (a * 8 + b) = stV b9 s9 p9 a b) (fun (u : Nat → Int32) (t : State) => crB D (cw x cd f0 u f2 f3 g) (cty cd) A t) A) (vx_X (fun (_ : Unit) => True) (fun (E : String) (_ : Unit) (_ : State) => (E = "java/lang/IllegalArgumentException" ∧ ¬ ((1 ≤ b9.toInt ∧ b9.toInt ≤ 255) ∧ (0 ≤ s9.toInt ∧ s9.toInt ≤ 32) ∧ (1 ≤ p9.toInt ∧ p9.toInt ≤ 5000)))) (fun _ => False)) ([.ref (x 0), .int b9, .int s9, .int p9] : List Value).toArray s 1 6 A) (F0 m 47 ls []) := by
                intro n
                induction n with
                | zero =>
                  intro y9 w9 H locs ls hn
                  exact absurd hn (Nat.not_lt_zero _)
                | succ n ih47 =>
                  intro y9 w9 H locs ls hn47 hy9 hw9 hP hD hS hl
                  refine lv_iload hx hb dX0_steps_47 (lv_at hl 4 rfl) ?_
                  refine lv_bipush (v := (8 : Int32)) hx hb dX0_steps_49 (by decide +kernel) ?_
                  refine cx_icmp_ge (i := ((y9 : Nat) : Int)) (j := 8) (tgt := 118) hx hb (nI_toInt (by omega)) (by decide +kernel) dX0_steps_51 (by decide) (fun c_7 => ?_) (fun c_7 => ?_)
                  · refine W.widen (k := 1) (n := 6) (Nat.zero_le _) (Nat.zero_le _) (vx_ret ?_)
                    exact W.vret hx hb hr (fun t ht hW => ⟨⟨w9, rfl, (by obtain rfl : y9 = 8 := (by omega); exact ⟨by omega, hw9⟩), by rw [ht]; exact hP, va_K.moved hW.alike hK, hD⟩, hS.F ht⟩) hS.2.2 dX0_steps_118
                  · refine lv_iconst (v := (0 : Int32)) hx hb dX0_steps_54 (by decide +kernel) ?_
                    refine lv_istore (lv' := [(5, .int (0 : Int32)), (0, .ref (x 0)), (1, .int b9), (2, .int s9), (3, .int p9), (4, .int (nI y9))]) hx hb dX0_steps_55 hl (by decide) rfl (fun ls hl => ?_)
                    have L57 : ∀ (n : Nat) (x9 : Nat) (w9 : Nat → Int32) (H : Heap) (locs : List Loc) (ls : Array Slot), (8 - x9) < n → (x9 ≤ 8) → (∀ a b, (a < y9 ∨ (a = y9 ∧ b < x9)) → b < 8 → w9 (a * 8 + b) = stV b9 s9 p9 a b) → va_P D vwCl (cw x cd f0 w9 f2 f3 g) H → va_D A (cw x cd f0 w9 f2 f3 g) → va_S A s.heap H locs → lv_has ls 7 [(0, .ref (x 0)), (1, .int b9), (2, .int s9), (3, .int p9), (4, .int (nI y9)), (5, .int (nI x9))] → W p l e ((headSpec wsX0_steps ({ frames := 6, cells := 1, slots := 6, locals := 82 } : Room)).room) s m (([.ref (x 0), .int b9, .int s9, .int p9] : List Value).toArray) below meth c H locs 0 0 (vx_MQ below (va_Qv (fun (u : Nat → Int32) => ((1 ≤ b9.toInt ∧ b9.toInt ≤ 255) ∧ (0 ≤ s9.toInt ∧ s9.toInt ≤ 32) ∧ (1 ≤ p9.toInt ∧ p9.toInt ≤ 5000)) ∧ ∀ a b, a < 8 → b < 8 → u (a * 8 + b) = stV b9 s9 p9 a b) (fun (u : Nat → Int32) (t : State) => crB D (cw x cd f0 u f2 f3 g) (cty cd) A t) A) (vx_X (fun (_ : Unit) => True) (fun (E : String) (_ : Unit) (_ : State) => (E = "java/lang/IllegalArgumentException" ∧ ¬ ((1 ≤ b9.toInt ∧ b9.toInt ≤ 255) ∧ (0 ≤ s9.toInt ∧ s9.toInt ≤ 32) ∧ (1 ≤ p9.toInt ∧ p9.toInt ≤ 5000)))) (fun _ => False)) ([.ref (x 0), .int b9, .int s9, .int p9] : List Value).toArray s 1 6 A) (F0 m 57 ls []) := by
                      intro n
                      induction n with
                      | zero =>
                        intro x9 w9 H locs ls hn
                        exact absurd hn (Nat.not_lt_zero _)
                      | succ n ih57 =>
                        intro x9 w9 H locs ls hn57 hx9 hv9 hP hD hS hl
                        refine lv_iload hx hb dX0_steps_57 (lv_at hl 5 rfl) ?_
                        refine lv_bipush (v := (8 : Int32)) hx hb dX0_steps_59 (by decide +kernel) ?_
                        refine cx_icmp_ge (i := ((x9 : Nat) : Int)) (j := 8) (tgt := 112) hx hb (nI_toInt (by omega)) (by decide +kernel) dX0_steps_61 (by decide) (fun c_8 => ?_) (fun c_8 => ?_)
                        · refine lv_iinc (v := nI (y9 + 1)) (lv' := [(4, .int (nI (y9 + 1))), (0, .ref (x 0)), (1, .int b9), (2, .int s9), (3, .int p9), (5, .int (nI x9))]) hx hb dX0_steps_112 hl (k := 4) rfl (by show nI y9 + 1 = nI (y9 + 1); exact nI_add y9 1) (by decide) rfl (fun ls hl => ?_)
                          refine lv_goto (tgt := 47) hx hb dX0_steps_115 (by decide) ?_
                          exact ih47 (y9 + 1) w9 _ _ _ (by omega) (by omega) (fun a b ha9 hb9 => hv9 a b (by omega) hb9) hP hD hS (lv_sub hl [1, 2, 3, 4, 0] rfl)
                        · refine lv_iload_n hx hb dX0_steps_64 rfl (lv_at hl 1 rfl) ?_
                          refine lv_iload_n hx hb dX0_steps_65 rfl (lv_at hl 2 rfl) ?_
                          refine lv_iload hx hb dX0_steps_66 (lv_at hl 5 rfl) ?_
                          refine lv_iload hx hb dX0_steps_68 (lv_at hl 4 rfl) ?_
                          refine cx_iadd hx hb x9 y9 dX0_steps_70 ?_
                          refine lv_imul hx hb dX0_steps_71 ?_
                          refine lv_iadd hx hb dX0_steps_72 ?_
                          refine lv_iload_n hx hb dX0_steps_73 rfl (lv_at hl 3 rfl) ?_
                          refine lv_imul hx hb dX0_steps_74 ?_
                          refine lv_bipush (v := (50 : Int32)) hx hb dX0_steps_75 (by decide +kernel) ?_
                          refine lv_iadd hx hb dX0_steps_77 ?_
                          refine lv_bipush (v := (100 : Int32)) hx hb dX0_steps_78 (by decide +kernel) ?_
                          refine lv_idiv hx hb dX0_steps_80 (by decide) ?_
                          refine lv_istore (lv' := [(6, .int ((((b9 + (s9 * (nI (x9 + y9)))) * p9) + (50 : Int32)) / (100 : Int32))), (0, .ref (x 0)), (1, .int b9), (2, .int s9), (3, .int p9), (4, .int (nI y9)), (5, .int (nI x9))]) hx hb dX0_steps_81 hl (by decide) rfl (fun ls hl => ?_)
                          refine lv_aload_n hx hb dX0_steps_83 rfl (lv_at hl 1 rfl) ?_
                          refine va_get (D := D) (ci := 0) (v := .ref (x 2)) (C := RX0) (T := TX0) (N := 5) hx hb hts hin0 hown hK hP 0 rfl rfl 1 (by decide) hf13 (fun _ h9 => h9) rfl dX0_steps_84 ?_
                          refine lv_iload hx hb dX0_steps_87 (lv_at hl 5 rfl) ?_
                          refine lv_bipush (v := (8 : Int32)) hx hb dX0_steps_89 (by decide +kernel) ?_
                          refine cx_imul hx hb y9 8 dX0_steps_91 ?_
                          refine lv_iload hx hb dX0_steps_92 (lv_at hl 6 rfl) ?_
                          refine cx_iadd hx hb (y9 * 8) x9 dX0_steps_94 ?_
                          refine lv_iload hx hb dX0_steps_95 (lv_at hl 0 rfl) ?_
                          refine lv_i2l hx hb dX0_steps_97 rfl ?_
                          refine lv_iconst (v := (1 : Int32)) hx hb dX0_steps_98 (by decide +kernel) ?_
                          refine lv_sipush (v := (255 : Int32)) hx hb dX0_steps_99 (by decide +kernel) ?_
                          refine vp_callSi (W.runS (As := [.long (((((b9 + (s9 * (nI (x9 + y9)))) * p9) + (50 : Int32)) / (100 : Int32)).toInt64), .int (1 : Int32), .int (255 : Int32)]) (rest := [.int (nI (y9 * 8 + x9)), .ref (x 2)]) ⟨hx, hb, hml, hown, hts⟩ (m_clamped l D (((((b9 + (s9 * (nI (x9 + y9)))) * p9) + (50 : Int32)) / (100 : Int32)).toInt64) (1 : Int32) (255 : Int32)) (va_cwS 3 hts (gw_S wm_228 wm_229 wm_12 wm_230) rfl rfl rfl (by decide +kernel) ⟨Nat.le_of_ble_eq_true rfl, Nat.le_of_ble_eq_true rfl⟩) ⟨cro_blind, fun U hU hW => ⟨rfl, cro_at (hP.sub (ws' := []) [] rfl) (hK.sub (tys' := []) [] rfl) hTb hS hU hW⟩⟩ rfl rfl hl.1 rfl (lv_room (Nat.le_of_ble_eq_true rfl)) dX0_steps_102 ⟨Nat.le_of_ble_eq_true rfl, Nat.le_of_ble_eq_true rfl⟩) (fun r_9 hr_9 => ?_)
                          rw [hr_9]
                          refine cx_iast hx hb hK hP hD hS 2 1 rfl rfl (y9 * 8 + x9) (by omega) (by decide) dX0_steps_105 (fun H locs hP hD hS => ?_)
                          have hP : va_P D vwCl (cw x cd f0 (upd w9 (y9 * 8 + x9) (clampV (((((b9 + (s9 * (nI (x9 + y9)))) * p9) + (50 : Int32)) / (100 : Int32)).toInt64) (1 : Int32) (255 : Int32))) f2 f3 g) H := hP
                          have hD : va_D A (cw x cd f0 (upd w9 (y9 * 8 + x9) (clampV (((((b9 + (s9 * (nI (x9 + y9)))) * p9) + (50 : Int32)) / (100 : Int32)).toInt64) (1 : Int32) (255 : Int32))) f2 f3 g) := hD
                          refine lv_iinc (v := nI (x9 + 1)) (lv' := [(5, .int (nI (x9 + 1))), (6, .int ((((b9 + (s9 * (nI (x9 + y9)))) * p9) + (50 : Int32)) / (100 : Int32))), (0, .ref (x 0)), (1, .int b9), (2, .int s9), (3, .int p9), (4, .int (nI y9))]) hx hb dX0_steps_106 hl (k := 6) rfl (by show nI x9 + 1 = nI (x9 + 1); exact nI_add x9 1) (by decide) rfl (fun ls hl => ?_)
                          refine lv_goto (tgt := 57) hx hb dX0_steps_109 (by decide) ?_
                          exact ih57 (x9 + 1) (upd w9 (y9 * 8 + x9) (clampV (((((b9 + (s9 * (nI (x9 + y9)))) * p9) + (50 : Int32)) / (100 : Int32)).toInt64) (1 : Int32) (255 : Int32))) _ _ _ (by omega) (by omega) (by
                              intro a b ha9 hb9
                              by_cases hq : a * 8 + b = y9 * 8 + x9
                              · obtain rfl : y9 = a := by omega
                                obtain rfl : x9 = b := by omega
                                exact pk_us
                              · rw [pk_un hq]; exact hv9 a b (by omega) hb9) hP hD hS (lv_sub hl [2, 3, 4, 5, 6, 0] rfl)
                    exact L57 _ 0 w9 _ _ _ (Nat.lt_succ_self _) (Nat.zero_le _) (fun a b ha9 hb9 => hw9 a b (by omega) hb9) hP hD hS (lv_sub hl [1, 2, 3, 4, 5, 0] rfl)
              exact L47 _ 0 f1 _ _ _ (Nat.lt_succ_self _) (Nat.zero_le _) (fun a b ha9 => absurd ha9 (Nat.not_lt_zero a)) hP hD hS (lv_sub hl [1, 2, 3, 4, 0] rfl)
            · obtain ⟨sa9, hstr⟩ := hXstr.2.2.2.1
              exact vx_throwS (own := RX0) (cls := "java/lang/IllegalArgumentException") (names := ["java/lang/RuntimeException", "java/lang/Exception"]) hx hb hl9 hown (by decide +kernel) (by decide +kernel) (hts _ wm_196) (hts _ wm_18) hstr (vx_hat (L := vx_atS RX0 41 "java/lang/IllegalArgumentException" ["java/lang/RuntimeException", "java/lang/Exception"]) (B := [.castable "java/lang/IllegalArgumentException" "java/lang/IllegalArgumentException", .declares ⟨"java/lang/RuntimeException", "<init>", "(Ljava/lang/String;)V"⟩, .declares ⟨"java/lang/Exception", "<init>", "(Ljava/lang/String;)V"⟩, .declares ⟨"java/lang/Throwable", "<init>", "(Ljava/lang/String;)V"⟩]) (fun w hw => hts w (hat_a w hw)) hatB_a (vx_c (va_Nw.use rfl hXc_a) (vx_c (va_Nw.use rfl hXd1) (vx_c (va_Nw.use rfl hXd2) (vx_c (va_Nw.use rfl hXd3) (vx_n)))))) hatG_a hXU hXN hS (hl.1.trans hml.symm) dX0_steps_34 dX0_steps_37 dX0_steps_38 dX0_steps_40 dX0_steps_43 (fun x9 h9 => (htab x9 h9).elim) (Nat.le_of_ble_eq_true rfl) (Nat.le_of_ble_eq_true rfl) (Nat.le_of_ble_eq_true rfl) (Nat.le_of_ble_eq_true rfl) hlocks (fun t ha hsz hk => ⟨(), trivial, ⟨rfl, by omega⟩, hsz, fun q h1 _ => hk q h1⟩) hS.2.2 (Nat.le_of_ble_eq_true rfl) (Nat.le_of_ble_eq_true rfl)
set_option maxHeartbeats 4000000 in
set_option maxRecDepth 100000 in
/-- row -/
theorem m_row (l : Launch) (hl9 : l.stackTraces = false) (D : va_G) (x : Nat → Nat) (cd : Nat → ClassId) (f0 f1 f2 f3 : Nat → Int32) (g : Nat → Int64) (q : Int32) (e9 : Int64) (sz : Nat) : vx_Met l yX0_row wsX0_row ({ frames := 6, cells := 1, slots := 6, locals := 82 } : Room) (va_Pc [.ref (x 0), .int q, .long e9] (crw D (cw x cd f0 f1 f2 f3 g) (cty cd) sz)) (va_Qv (fun (u : Nat → Int32) => (0 ≤ q.toInt ∧ q.toInt < 8) ∧ ∀ a b, a < 8 → b < 8 → u (a * 8 + b) = if a = q.toInt.toNat then rowV e9 b else f2 (a * 8 + b)) (fun (u : Nat → Int32) (t : State) => crB D (cw x cd f0 f1 u f3 g) (cty cd) (va_A (cw x cd f0 f1 f2 f3 g) sz) t) (va_A (cw x cd f0 f1 f2 f3 g) sz)) (vx_X (fun (_ : Unit) => True) (fun (E : String) (_ : Unit) (_ : State) => (E = "java/lang/IndexOutOfBoundsException" ∧ ¬ (0 ≤ q.toInt ∧ q.toInt < 8))) (fun _ => False)) 1 6 (va_A (cw x cd f0 f1 f2 f3 g) sz) := by
  refine vx_ofW (cc := cX0_row) (maxL := 5) (ret := none) (by decide) rfl ?_
  intro p e s m args below meth c s₁ B hml htab hv
  obtain ⟨rfl, hsz, hP, hK, hD0, hTb⟩ := hv
  have hx := B.exec
  have hb := B.bytes
  have hr := B.returns
  have hts : ∀ w ∈ wA, w.before _ s = true := fun w h => atoms_spec (ws := wsX0_row) B.pre w (List.mem_cons_of_mem _ h)
  have hown : s.vm.findClass RX0 = some m.cls := findClass_of_methodNamed B.named
  have hlocks := B.notSynchronized
  subst hsz
  have hD := hD0.self (sz := s.heap.size)
  generalize hAe : va_A (cw x cd f0 f1 f2 f3 g) s.heap.size = A at hD hTb ⊢
  have hA : ∀ q : Nat, s.heap.size ≤ q → A q := fun q h => by rw [← hAe]; exact Or.inr h
  have hS : va_S A s.heap s.heap [] := va_S.rf
  have hin0 := inA0
  have hf16 := (hts _ wm_30)
  obtain ⟨⟨t0, hZ0, hT0⟩, ⟨t1, hZ1, hT1⟩, ⟨t2, hZ2, hT2⟩, hXU, hXN, ⟨hXc_i, hXc_a, hXd1, hXd2, hXd3⟩, hXstr, -⟩ := id hTb
  have hl := lv_entry ([.ref (x 0), .int q, .long e9]) (n := 5) (Nat.le_of_ble_eq_true rfl)
  rw [lg_entry_eq]
  generalize (lg_sl ([.ref (x 0), .int q, .long e9]) ++ List.replicate (5 - (lg_sl ([.ref (x 0), .int q, .long e9])).length) Slot.unset).toArray = ls at hl ⊢
  have hl : lv_has ls 5 [(0, .ref (x 0)), (1, .int q), (2, .long e9)] := hl
  refine lv_iload_n hx hb dX0_row_0 rfl (lv_at hl 1 rfl) ?_
  refine vp_callSi (W.runS (As := [.int q]) (rest := []) ⟨hx, hb, hml, hown, hts⟩ (m_isLine l D q) (va_cwS 1 hts (gw_S wm_91 wm_92 wm_12 wm_93) rfl rfl rfl (by decide +kernel) ⟨Nat.le_of_ble_eq_true rfl, Nat.le_of_ble_eq_true rfl⟩) ⟨cro_blind, fun U hU hW => ⟨rfl, cro_at (hP.sub (ws' := []) [] rfl) (hK.sub (tys' := []) [] rfl) hTb hS hU hW⟩⟩ rfl rfl hl.1 rfl (lv_room (Nat.le_of_ble_eq_true rfl)) dX0_row_1 ⟨Nat.le_of_ble_eq_true rfl, Nat.le_of_ble_eq_true rfl⟩) (fun r_1 hr_1 => ?_)
  rcases hr_1 with ⟨rfl, ha9, hb9⟩ | ⟨rfl, ha9⟩
  · refine cx_if_ne (i := 1) (j := 0) (tgt := 17) hx hb (by decide +kernel) rfl dX0_row_4 (by decide) (fun c_2 => ?_) (fun c_2 => absurd c_2 (by decide))
    obtain ⟨j9, hj9, hej⟩ := cx_ofN (x := q) (n := 8) (by omega) (by omega) (by decide)
    have e_3 : q = nI j9 := hej
    rw [e_3] at hl
    refine lv_iconst (v := (0 : Int32)) hx hb dX0_row_17 (by decide +kernel) ?_
    refine lv_istore (lv' := [(4, .int (0 : Int32)), (0, .ref (x 0)), (1, .int (nI j9)), (2, .long e9)]) hx hb dX0_row_18 hl (by decide) rfl (fun ls hl => ?_)
    have L20 : ∀ (n : Nat) (x9 : Nat) (w9 : Nat → Int32) (H : Heap) (locs : List Loc) (ls : Array Slot), (8 - x9) < n → (x9 ≤ 8) → (∀ a b, a < 8 → b < 8 → w9 (a * 8 + b) = if a = j9 ∧ b < x9 then rowV e9 b else f2 (a * 8 + b)) → va_P D vwCl (cw x cd f0 f1 w9 f3 g) H → va_D A (cw x cd f0 f1 w9 f3 g) → va_S A s.heap H locs → lv_has ls 5 [(0, .ref (x 0)), (1, .int (nI j9)), (2, .long e9), (4, .int (nI x9))] → W p l e ((headSpec wsX0_row ({ frames := 6, cells := 1, slots := 6, locals := 82 } : Room)).room) s m (([.ref (x 0), .int q, .long e9] : List Value).toArray) below meth c H locs 0 0 (vx_MQ below (va_Qv (fun (u : Nat → Int32) => (0 ≤ q.toInt ∧ q.toInt < 8) ∧ ∀ a b, a < 8 → b < 8 → u (a * 8 + b) = if a = q.toInt.toNat then rowV e9 b else f2 (a * 8 + b)) (fun (u : Nat → Int32) (t : State) => crB D (cw x cd f0 f1 u f3 g) (cty cd) A t) A) (vx_X (fun (_ : Unit) => True) (fun (E : String) (_ : Unit) (_ : State) => (E = "java/lang/IndexOutOfBoundsException" ∧ ¬ (0 ≤ q.toInt ∧ q.toInt < 8))) (fun _ => False)) ([.ref (x 0), .int q, .long e9] : List Value).toArray s 1 6 A) (F0 m 20 ls []) := by
      intro n
      induction n with
      | zero =>
        intro x9 w9 H locs ls hn
        exact absurd hn (Nat.not_lt_zero _)
      | succ n ih20 =>
        intro x9 w9 H locs ls hn20 hx9 hw9 hP hD hS hl
        refine lv_iload hx hb dX0_row_20 (lv_at hl 3 rfl) ?_
        refine lv_bipush (v := (8 : Int32)) hx hb dX0_row_22 (by decide +kernel) ?_
        refine cx_icmp_ge (i := ((x9 : Nat) : Int)) (j := 8) (tgt := 60) hx hb (nI_toInt (by omega)) (by decide +kernel) dX0_row_24 (by decide) (fun c_4 => ?_) (fun c_4 => ?_)
        · refine W.widen (k := 1) (n := 6) (Nat.zero_le _) (Nat.zero_le _) (vx_ret ?_)
          exact W.vret hx hb hr (fun t ht hW => ⟨⟨w9, rfl, (by
                                           obtain rfl : x9 = 8 := by omega
                                           refine ⟨by omega, fun a b ha9 hb9 => ?_⟩
                                           rw [hw9 a b ha9 hb9, hej, cx_toNat (by omega)]
                                           by_cases hz : a = j9
                                           · rw [if_pos hz, if_pos (by omega)]
                                           · rw [if_neg hz, if_neg (by omega)]), by rw [ht]; exact hP, va_K.moved hW.alike hK, hD⟩, hS.F ht⟩) hS.2.2 dX0_row_60
        · refine lv_aload_n hx hb dX0_row_27 rfl (lv_at hl 0 rfl) ?_
          refine va_get (D := D) (ci := 0) (v := .ref (x 3)) (C := RX0) (T := TX0) (N := 5) hx hb hts hin0 hown hK hP 0 rfl rfl 2 (by decide) hf16 (fun _ h9 => h9) rfl dX0_row_28 ?_
          refine lv_iload_n hx hb dX0_row_31 rfl (lv_at hl 1 rfl) ?_
          refine lv_bipush (v := (8 : Int32)) hx hb dX0_row_32 (by decide +kernel) ?_
          refine cx_imul hx hb j9 8 dX0_row_34 ?_
          refine lv_iload hx hb dX0_row_35 (lv_at hl 3 rfl) ?_
          refine cx_iadd hx hb (j9 * 8) x9 dX0_row_37 ?_
          refine lv_lload_n hx hb dX0_row_38 rfl (lv_at hl 2 rfl) ?_
          refine lv_bipush (v := (56 : Int32)) hx hb dX0_row_39 (by decide +kernel) ?_
          refine lv_bipush (v := (8 : Int32)) hx hb dX0_row_41 (by decide +kernel) ?_
          refine lv_iload hx hb dX0_row_43 (lv_at hl 3 rfl) ?_
          refine cx_imul hx hb 8 x9 dX0_row_45 ?_
          refine cx_isub hx hb 56 (8 * x9) (by omega) dX0_row_46 ?_
          refine lv_lushr hx hb dX0_row_47 rfl ?_
          refine lv_l2i hx hb dX0_row_48 rfl ?_
          refine lv_sipush (v := (255 : Int32)) hx hb dX0_row_49 (by decide +kernel) ?_
          refine lv_iand hx hb dX0_row_52 ?_
          refine cx_iast hx hb hK hP hD hS 3 2 rfl rfl (j9 * 8 + x9) (by omega) (by decide) dX0_row_53 (fun H locs hP hD hS => ?_)
          have hP : va_P D vwCl (cw x cd f0 f1 (upd w9 (j9 * 8 + x9) ((((e9.toUInt64 >>> ((nI (56 - (8 * x9))).toInt64.toUInt64 &&& Int64.toUInt64 63)).toInt64).toInt32) &&& (255 : Int32))) f3 g) H := hP
          have hD : va_D A (cw x cd f0 f1 (upd w9 (j9 * 8 + x9) ((((e9.toUInt64 >>> ((nI (56 - (8 * x9))).toInt64.toUInt64 &&& Int64.toUInt64 63)).toInt64).toInt32) &&& (255 : Int32))) f3 g) := hD
          refine lv_iinc (v := nI (x9 + 1)) (lv' := [(4, .int (nI (x9 + 1))), (0, .ref (x 0)), (1, .int (nI j9)), (2, .long e9)]) hx hb dX0_row_54 hl (k := 3) rfl (by show nI x9 + 1 = nI (x9 + 1); exact nI_add x9 1) (by decide) rfl (fun ls hl => ?_)
          refine lv_goto (tgt := 20) hx hb dX0_row_57 (by decide) ?_
          exact ih20 (x9 + 1) (upd w9 (j9 * 8 + x9) ((((e9.toUInt64 >>> ((nI (56 - (8 * x9))).toInt64.toUInt64 &&& Int64.toUInt64 63)).toInt64).toInt32) &&& (255 : Int32))) _ _ _ (by omega) (by omega) (by
              intro a b ha9 hb9
              by_cases hq : a * 8 + b = j9 * 8 + x9
              · obtain rfl : j9 = a := by omega
                obtain rfl : x9 = b := by omega
                rw [if_pos (by omega)]; exact pk_us
              · rw [pk_un hq, hw9 a b ha9 hb9]
                by_cases hz : a = j9 ∧ b < x9
                · rw [if_pos hz, if_pos (by omega)]
                · rw [if_neg hz, if_neg (by omega)]) hP hD hS (lv_sub hl [1, 2, 3, 0] rfl)
    exact L20 _ 0 f2 _ _ _ (Nat.lt_succ_self _) (Nat.zero_le _) (fun a b _ _ => by rw [if_neg (by omega)]) hP hD hS (lv_sub hl [1, 2, 3, 0] rfl)
  · refine cx_if_ne (i := 0) (j := 0) (tgt := 17) hx hb (by decide +kernel) rfl dX0_row_4 (by decide) (fun c_5 => absurd c_5 (by decide)) (fun c_5 => ?_)
    obtain ⟨sa9, hstr⟩ := hXstr.2.2.2.2.1
    exact vx_throwS (own := RX0) (cls := "java/lang/IndexOutOfBoundsException") (names := ["java/lang/RuntimeException", "java/lang/Exception"]) hx hb hl9 hown (by decide +kernel) (by decide +kernel) (hts _ wm_129) (hts _ wm_17) hstr (vx_hat (L := vx_atS RX0 34 "java/lang/IndexOutOfBoundsException" ["java/lang/RuntimeException", "java/lang/Exception"]) (B := [.castable "java/lang/IndexOutOfBoundsException" "java/lang/IndexOutOfBoundsException", .declares ⟨"java/lang/RuntimeException", "<init>", "(Ljava/lang/String;)V"⟩, .declares ⟨"java/lang/Exception", "<init>", "(Ljava/lang/String;)V"⟩, .declares ⟨"java/lang/Throwable", "<init>", "(Ljava/lang/String;)V"⟩]) (fun w hw => hts w (hat_i w hw)) hatB_i (vx_c (va_Nw.use rfl hXc_i) (vx_c (va_Nw.use rfl hXd1) (vx_c (va_Nw.use rfl hXd2) (vx_c (va_Nw.use rfl hXd3) (vx_n)))))) hatG_i hXU hXN hS (hl.1.trans hml.symm) dX0_row_7 dX0_row_10 dX0_row_11 dX0_row_13 dX0_row_16 (fun x9 h9 => (htab x9 h9).elim) (Nat.le_of_ble_eq_true rfl) (Nat.le_of_ble_eq_true rfl) (Nat.le_of_ble_eq_true rfl) (Nat.le_of_ble_eq_true rfl) hlocks (fun t ha hsz hk => ⟨(), trivial, ⟨rfl, by omega⟩, hsz, fun q h1 _ => hk q h1⟩) hS.2.2 (Nat.le_of_ble_eq_true rfl) (Nat.le_of_ble_eq_true rfl)
