theorem dX0_back_0 : decode cX0_back 0 = .ok (.iload_n 1, 1) := by decide +kernel
theorem dX0_back_1 : decode cX0_back 1 = .ok (.invokestatic 58, 3) := by decide +kernel
theorem dX0_back_4 : decode cX0_back 4 = .ok (.istore_n 2, 1) := by decide +kernel
theorem dX0_back_5 : decode cX0_back 5 = .ok (.iload_n 2, 1) := by decide +kernel
theorem dX0_back_6 : decode cX0_back 6 = .ok (.ifCond .ne 13, 3) := by decide +kernel
theorem dX0_back_9 : decode cX0_back 9 = .ok (.new 37, 3) := by decide +kernel
theorem dX0_back_12 : decode cX0_back 12 = .ok (.dup, 1) := by decide +kernel
theorem dX0_back_13 : decode cX0_back 13 = .ok (.ldc 62, 2) := by decide +kernel
theorem dX0_back_15 : decode cX0_back 15 = .ok (.invokespecial 41, 3) := by decide +kernel
theorem dX0_back_18 : decode cX0_back 18 = .ok (.athrow, 1) := by decide +kernel
theorem dX0_back_19 : decode cX0_back 19 = .ok (.aload_n 0, 1) := by decide +kernel
theorem dX0_back_20 : decode cX0_back 20 = .ok (.iload_n 1, 1) := by decide +kernel
theorem dX0_back_21 : decode cX0_back 21 = .ok (.iload_n 2, 1) := by decide +kernel
theorem dX0_back_22 : decode cX0_back 22 = .ok (.invokevirtual 64, 3) := by decide +kernel
theorem dX0_back_25 : decode cX0_back 25 = .ok (.lstore_n 3, 1) := by decide +kernel
theorem dX0_back_26 : decode cX0_back 26 = .ok (.aload_n 0, 1) := by decide +kernel
theorem dX0_back_27 : decode cX0_back 27 = .ok (.iload_n 1, 1) := by decide +kernel
theorem dX0_back_28 : decode cX0_back 28 = .ok (.iload_n 2, 1) := by decide +kernel
theorem dX0_back_29 : decode cX0_back 29 = .ok (.invokevirtual 68, 3) := by decide +kernel
theorem dX0_back_32 : decode cX0_back 32 = .ok (.lload_n 3, 1) := by decide +kernel
theorem dX0_back_33 : decode cX0_back 33 = .ok (.lreturn, 1) := by decide +kernel
theorem dX0_error_0 : decode cX0_error 0 = .ok (.iload_n 1, 1) := by decide +kernel
theorem dX0_error_1 : decode cX0_error 1 = .ok (.iconst 1, 1) := by decide +kernel
theorem dX0_error_2 : decode cX0_error 2 = .ok (.if_icmp .lt 9, 3) := by decide +kernel
theorem dX0_error_5 : decode cX0_error 5 = .ok (.iload_n 1, 1) := by decide +kernel
theorem dX0_error_6 : decode cX0_error 6 = .ok (.bipush 8, 2) := by decide +kernel
theorem dX0_error_8 : decode cX0_error 8 = .ok (.if_icmp .le 13, 3) := by decide +kernel
theorem dX0_error_11 : decode cX0_error 11 = .ok (.new 37, 3) := by decide +kernel
theorem dX0_error_14 : decode cX0_error 14 = .ok (.dup, 1) := by decide +kernel
theorem dX0_error_15 : decode cX0_error 15 = .ok (.ldc 87, 2) := by decide +kernel
theorem dX0_error_17 : decode cX0_error 17 = .ok (.invokespecial 41, 3) := by decide +kernel
theorem dX0_error_20 : decode cX0_error 20 = .ok (.athrow, 1) := by decide +kernel
theorem dX0_error_21 : decode cX0_error 21 = .ok (.iconst 0, 1) := by decide +kernel
theorem dX0_error_22 : decode cX0_error 22 = .ok (.istore_n 2, 1) := by decide +kernel
theorem dX0_error_23 : decode cX0_error 23 = .ok (.iconst 0, 1) := by decide +kernel
theorem dX0_error_24 : decode cX0_error 24 = .ok (.istore_n 3, 1) := by decide +kernel
theorem dX0_error_25 : decode cX0_error 25 = .ok (.iload_n 3, 1) := by decide +kernel
theorem dX0_error_26 : decode cX0_error 26 = .ok (.iload_n 1, 1) := by decide +kernel
theorem dX0_error_27 : decode cX0_error 27 = .ok (.if_icmp .ge 59, 3) := by decide +kernel
theorem dX0_error_30 : decode cX0_error 30 = .ok (.iconst 0, 1) := by decide +kernel
theorem dX0_error_31 : decode cX0_error 31 = .ok (.istore 4, 2) := by decide +kernel
theorem dX0_error_33 : decode cX0_error 33 = .ok (.iload 4, 2) := by decide +kernel
theorem dX0_error_35 : decode cX0_error 35 = .ok (.iload_n 1, 1) := by decide +kernel
theorem dX0_error_36 : decode cX0_error 36 = .ok (.if_icmp .ge 44, 3) := by decide +kernel
theorem dX0_error_39 : decode cX0_error 39 = .ok (.aload_n 0, 1) := by decide +kernel
theorem dX0_error_40 : decode cX0_error 40 = .ok (.getfield 16, 3) := by decide +kernel
theorem dX0_error_43 : decode cX0_error 43 = .ok (.iload_n 3, 1) := by decide +kernel
theorem dX0_error_44 : decode cX0_error 44 = .ok (.bipush 8, 2) := by decide +kernel
theorem dX0_error_46 : decode cX0_error 46 = .ok (.imul, 1) := by decide +kernel
theorem dX0_error_47 : decode cX0_error 47 = .ok (.iload 4, 2) := by decide +kernel
theorem dX0_error_49 : decode cX0_error 49 = .ok (.iadd, 1) := by decide +kernel
theorem dX0_error_50 : decode cX0_error 50 = .ok (.iaload, 1) := by decide +kernel
theorem dX0_error_51 : decode cX0_error 51 = .ok (.aload_n 0, 1) := by decide +kernel
theorem dX0_error_52 : decode cX0_error 52 = .ok (.getfield 19, 3) := by decide +kernel
theorem dX0_error_55 : decode cX0_error 55 = .ok (.iload_n 3, 1) := by decide +kernel
theorem dX0_error_56 : decode cX0_error 56 = .ok (.bipush 8, 2) := by decide +kernel
theorem dX0_error_58 : decode cX0_error 58 = .ok (.imul, 1) := by decide +kernel
theorem dX0_error_59 : decode cX0_error 59 = .ok (.iload 4, 2) := by decide +kernel
theorem dX0_error_61 : decode cX0_error 61 = .ok (.iadd, 1) := by decide +kernel
theorem dX0_error_62 : decode cX0_error 62 = .ok (.iaload, 1) := by decide +kernel
theorem dX0_error_63 : decode cX0_error 63 = .ok (.isub, 1) := by decide +kernel
theorem dX0_error_64 : decode cX0_error 64 = .ok (.istore 5, 2) := by decide +kernel
theorem dX0_error_66 : decode cX0_error 66 = .ok (.iload_n 2, 1) := by decide +kernel
theorem dX0_error_67 : decode cX0_error 67 = .ok (.iload 5, 2) := by decide +kernel
theorem dX0_error_69 : decode cX0_error 69 = .ok (.iload 5, 2) := by decide +kernel
theorem dX0_error_71 : decode cX0_error 71 = .ok (.imul, 1) := by decide +kernel
theorem dX0_error_72 : decode cX0_error 72 = .ok (.iadd, 1) := by decide +kernel
theorem dX0_error_73 : decode cX0_error 73 = .ok (.istore_n 2, 1) := by decide +kernel
theorem dX0_error_74 : decode cX0_error 74 = .ok (.iinc 4 1, 3) := by decide +kernel
theorem dX0_error_77 : decode cX0_error 77 = .ok (.goto (-44), 3) := by decide +kernel
theorem dX0_error_80 : decode cX0_error 80 = .ok (.iinc 3 1, 3) := by decide +kernel
theorem dX0_error_83 : decode cX0_error 83 = .ok (.goto (-58), 3) := by decide +kernel
theorem dX0_error_86 : decode cX0_error 86 = .ok (.iload_n 2, 1) := by decide +kernel
theorem dX0_error_87 : decode cX0_error 87 = .ok (.ireturn, 1) := by decide +kernel
theorem dX0_at_0 : decode cX0_at 0 = .ok (.iload_n 1, 1) := by decide +kernel
theorem dX0_at_1 : decode cX0_at 1 = .ok (.invokestatic 26, 3) := by decide +kernel
theorem dX0_at_4 : decode cX0_at 4 = .ok (.ifCond .eq 12, 3) := by decide +kernel
theorem dX0_at_7 : decode cX0_at 7 = .ok (.iload_n 2, 1) := by decide +kernel
theorem dX0_at_8 : decode cX0_at 8 = .ok (.ifCond .lt 8, 3) := by decide +kernel
theorem dX0_at_11 : decode cX0_at 11 = .ok (.iload_n 2, 1) := by decide +kernel
theorem dX0_at_12 : decode cX0_at 12 = .ok (.iconst 3, 1) := by decide +kernel
theorem dX0_at_13 : decode cX0_at 13 = .ok (.if_icmp .le 13, 3) := by decide +kernel
theorem dX0_at_16 : decode cX0_at 16 = .ok (.new 30, 3) := by decide +kernel
theorem dX0_at_19 : decode cX0_at 19 = .ok (.dup, 1) := by decide +kernel
theorem dX0_at_20 : decode cX0_at 20 = .ok (.ldc 89, 2) := by decide +kernel
theorem dX0_at_22 : decode cX0_at 22 = .ok (.invokespecial 34, 3) := by decide +kernel
theorem dX0_at_25 : decode cX0_at 25 = .ok (.athrow, 1) := by decide +kernel
theorem dX0_at_26 : decode cX0_at 26 = .ok (.getstatic 42, 3) := by decide +kernel
theorem dX0_at_29 : decode cX0_at 29 = .ok (.iload_n 1, 1) := by decide +kernel
theorem dX0_at_30 : decode cX0_at 30 = .ok (.iaload, 1) := by decide +kernel
theorem dX0_at_31 : decode cX0_at 31 = .ok (.istore_n 3, 1) := by decide +kernel
theorem dX0_at_32 : decode cX0_at 32 = .ok (.iload_n 2, 1) := by decide +kernel
theorem dX0_at_33 : decode cX0_at 33 = .ok (.tableswitch 45 0 2 #[27, 34, 41], 27) := by decide +kernel
theorem dX0_at_60 : decode cX0_at 60 = .ok (.aload_n 0, 1) := by decide +kernel
theorem dX0_at_61 : decode cX0_at 61 = .ok (.getfield 9, 3) := by decide +kernel
theorem dX0_at_64 : decode cX0_at 64 = .ok (.iload_n 3, 1) := by decide +kernel
theorem dX0_at_65 : decode cX0_at 65 = .ok (.iaload, 1) := by decide +kernel
theorem dX0_at_66 : decode cX0_at 66 = .ok (.ireturn, 1) := by decide +kernel
theorem dX0_at_67 : decode cX0_at 67 = .ok (.aload_n 0, 1) := by decide +kernel
theorem dX0_at_68 : decode cX0_at 68 = .ok (.getfield 13, 3) := by decide +kernel
theorem dX0_at_71 : decode cX0_at 71 = .ok (.iload_n 3, 1) := by decide +kernel
theorem dX0_at_72 : decode cX0_at 72 = .ok (.iaload, 1) := by decide +kernel
theorem dX0_at_73 : decode cX0_at 73 = .ok (.ireturn, 1) := by decide +kernel
theorem dX0_at_74 : decode cX0_at 74 = .ok (.iload_n 3, 1) := by decide +kernel
theorem dX0_at_75 : decode cX0_at 75 = .ok (.iconst 3, 1) := by decide +kernel
theorem dX0_at_76 : decode cX0_at 76 = .ok (.ishr, 1) := by decide +kernel
theorem dX0_at_77 : decode cX0_at 77 = .ok (.ireturn, 1) := by decide +kernel
theorem dX0_at_78 : decode cX0_at 78 = .ok (.iload_n 3, 1) := by decide +kernel
theorem dX0_at_79 : decode cX0_at 79 = .ok (.bipush 7, 2) := by decide +kernel
theorem dX0_at_81 : decode cX0_at 81 = .ok (.iand, 1) := by decide +kernel
theorem dX0_at_82 : decode cX0_at 82 = .ok (.ireturn, 1) := by decide +kernel
theorem dX0_exact_0 : decode cX0_exact 0 = .ok (.iload_n 1, 1) := by decide +kernel
theorem dX0_exact_1 : decode cX0_exact 1 = .ok (.invokestatic 53, 3) := by decide +kernel
theorem dX0_exact_4 : decode cX0_exact 4 = .ok (.ifCond .eq 10, 3) := by decide +kernel
theorem dX0_exact_7 : decode cX0_exact 7 = .ok (.iload_n 2, 1) := by decide +kernel
theorem dX0_exact_8 : decode cX0_exact 8 = .ok (.invokestatic 53, 3) := by decide +kernel
theorem dX0_exact_11 : decode cX0_exact 11 = .ok (.ifCond .ne 13, 3) := by decide +kernel
theorem dX0_exact_14 : decode cX0_exact 14 = .ok (.new 30, 3) := by decide +kernel
theorem dX0_exact_17 : decode cX0_exact 17 = .ok (.dup, 1) := by decide +kernel
theorem dX0_exact_18 : decode cX0_exact 18 = .ok (.ldc 32, 2) := by decide +kernel
theorem dX0_exact_20 : decode cX0_exact 20 = .ok (.invokespecial 34, 3) := by decide +kernel
theorem dX0_exact_23 : decode cX0_exact 23 = .ok (.athrow, 1) := by decide +kernel
theorem dX0_exact_24 : decode cX0_exact 24 = .ok (.aload_n 0, 1) := by decide +kernel
theorem dX0_exact_25 : decode cX0_exact 25 = .ok (.iload_n 1, 1) := by decide +kernel
theorem dX0_exact_26 : decode cX0_exact 26 = .ok (.invokevirtual 72, 3) := by decide +kernel
theorem dX0_exact_29 : decode cX0_exact 29 = .ok (.aload_n 0, 1) := by decide +kernel
theorem dX0_exact_30 : decode cX0_exact 30 = .ok (.iload_n 1, 1) := by decide +kernel
theorem dX0_exact_31 : decode cX0_exact 31 = .ok (.iload_n 2, 1) := by decide +kernel
theorem dX0_exact_32 : decode cX0_exact 32 = .ok (.invokevirtual 76, 3) := by decide +kernel
theorem dX0_exact_35 : decode cX0_exact 35 = .ok (.ireturn, 1) := by decide +kernel
theorem dX0_wave_0 : decode cX0_wave 0 = .ok (.iload_n 1, 1) := by decide +kernel
theorem dX0_wave_1 : decode cX0_wave 1 = .ok (.invokestatic 58, 3) := by decide +kernel
theorem dX0_wave_4 : decode cX0_wave 4 = .ok (.istore 4, 2) := by decide +kernel
theorem dX0_wave_6 : decode cX0_wave 6 = .ok (.iload 4, 2) := by decide +kernel
theorem dX0_wave_8 : decode cX0_wave 8 = .ok (.ifCond .eq 21, 3) := by decide +kernel
theorem dX0_wave_11 : decode cX0_wave 11 = .ok (.iload_n 2, 1) := by decide +kernel
theorem dX0_wave_12 : decode cX0_wave 12 = .ok (.ifCond .lt 17, 3) := by decide +kernel
theorem dX0_wave_15 : decode cX0_wave 15 = .ok (.iload_n 2, 1) := by decide +kernel
theorem dX0_wave_16 : decode cX0_wave 16 = .ok (.iload_n 1, 1) := by decide +kernel
theorem dX0_wave_17 : decode cX0_wave 17 = .ok (.if_icmp .ge 12, 3) := by decide +kernel
theorem dX0_wave_20 : decode cX0_wave 20 = .ok (.iload_n 3, 1) := by decide +kernel
theorem dX0_wave_21 : decode cX0_wave 21 = .ok (.ifCond .lt 8, 3) := by decide +kernel
theorem dX0_wave_24 : decode cX0_wave 24 = .ok (.iload_n 3, 1) := by decide +kernel
theorem dX0_wave_25 : decode cX0_wave 25 = .ok (.iload_n 1, 1) := by decide +kernel
theorem dX0_wave_26 : decode cX0_wave 26 = .ok (.if_icmp .lt 13, 3) := by decide +kernel
theorem dX0_wave_29 : decode cX0_wave 29 = .ok (.new 37, 3) := by decide +kernel
theorem dX0_wave_32 : decode cX0_wave 32 = .ok (.dup, 1) := by decide +kernel
theorem dX0_wave_33 : decode cX0_wave 33 = .ok (.ldc 94, 2) := by decide +kernel
theorem dX0_wave_35 : decode cX0_wave 35 = .ok (.invokespecial 41, 3) := by decide +kernel
theorem dX0_wave_38 : decode cX0_wave 38 = .ok (.athrow, 1) := by decide +kernel
theorem dX0_wave_39 : decode cX0_wave 39 = .ok (.iload 4, 2) := by decide +kernel
theorem dX0_wave_41 : decode cX0_wave 41 = .ok (.iload_n 2, 1) := by decide +kernel
theorem dX0_wave_42 : decode cX0_wave 42 = .ok (.iload_n 3, 1) := by decide +kernel
theorem dX0_wave_43 : decode cX0_wave 43 = .ok (.invokestatic 96, 3) := by decide +kernel
theorem dX0_wave_46 : decode cX0_wave 46 = .ok (.ireturn, 1) := by decide +kernel
set_option maxHeartbeats 4000000 in
set_option maxRecDepth 100000 in
/-- back -/
theorem m_back (l : Launch) (hl9 : l.stackTraces = false) (D : va_G) (x : Nat → Nat) (cd : Nat → ClassId) (f0 f1 f2 f3 : Nat → Int32) (g : Nat → Int64) (q : Int32) (sz : Nat) : vx_Met l yX0_back wsX0_back ({ frames := 6, cells := 1, slots := 6, locals := 82 } : Room) (va_Pc [.ref (x 0), .int q] (crw D (cw x cd f0 f1 f2 f3 g) (cty cd) sz)) (va_Ql (fun (r : Int64) (u9 : (Nat → Int32) × (Nat → Int64)) => match u9 with | (u, g8) => szOk q ∧ r = bG (bP (8 / q.toInt.toNat) q.toInt.toNat f0 f1) q.toInt.toNat q.toInt.toNat ∧ ∀ a b, a < 8 → b < 8 → u (a * 8 + b) = if a < q.toInt.toNat ∧ b < q.toInt.toNat then bS (8 / q.toInt.toNat) q.toInt.toNat (bP (8 / q.toInt.toNat) q.toInt.toNat f0 f1) a b else f2 (a * 8 + b)) (fun (u9 : (Nat → Int32) × (Nat → Int64)) (t : State) => match u9 with | (u, g8) => crB D (cw x cd f0 f1 u f3 g8) (cty cd) (va_A (cw x cd f0 f1 f2 f3 g) sz) t) (va_A (cw x cd f0 f1 f2 f3 g) sz)) (vx_X (fun (_ : Unit) => True) (fun (E : String) (_ : Unit) (_ : State) => (E = "java/lang/IllegalArgumentException" ∧ ¬ szOk q)) (fun _ => False)) 1 6 (va_A (cw x cd f0 f1 f2 f3 g) sz) := by
  refine vx_ofW (cc := cX0_back) (maxL := 5) (ret := some .long) (by decide) rfl ?_
  intro p e s m args below meth c s₁ B hml htab hv
  obtain ⟨rfl, hsz, hP, hK, hD0, hTb⟩ := hv
  have hx := B.exec
  have hb := B.bytes
  have hr := B.returns
  have hts : ∀ w ∈ wA, w.before _ s = true := fun w h => atoms_spec (ws := wsX0_back) B.pre w (List.mem_cons_of_mem _ h)
  have hown : s.vm.findClass RX0 = some m.cls := findClass_of_methodNamed B.named
  have hlocks := B.notSynchronized
  subst hsz
  have hD := hD0.self (sz := s.heap.size)
  generalize hAe : va_A (cw x cd f0 f1 f2 f3 g) s.heap.size = A at hD hTb ⊢
  have hA : ∀ q : Nat, s.heap.size ≤ q → A q := fun q h => by rw [← hAe]; exact Or.inr h
  have hS : va_S A s.heap s.heap [] := va_S.rf
  obtain ⟨⟨t0, hZ0, hT0⟩, ⟨t1, hZ1, hT1⟩, ⟨t2, hZ2, hT2⟩, hXU, hXN, ⟨hXc_i, hXc_a, hXd1, hXd2, hXd3⟩, hXstr, -⟩ := id hTb
  have hl := lv_entry ([.ref (x 0), .int q]) (n := 5) (Nat.le_of_ble_eq_true rfl)
  rw [lg_entry_eq]
  generalize (lg_sl ([.ref (x 0), .int q]) ++ List.replicate (5 - (lg_sl ([.ref (x 0), .int q])).length) Slot.unset).toArray = ls at hl ⊢
  have hl : lv_has ls 5 [(0, .ref (x 0)), (1, .int q)] := hl
  refine lv_iload_n hx hb dX0_back_0 rfl (lv_at hl 1 rfl) ?_
  refine vp_callSi (W.runS (As := [.int q]) (rest := []) ⟨hx, hb, hml, hown, hts⟩ (m_spreadOf l D q) (va_cwS 1 hts (gw_S wm_246 wm_247 wm_12 wm_248) rfl rfl rfl (by decide +kernel) ⟨Nat.le_of_ble_eq_true rfl, Nat.le_of_ble_eq_true rfl⟩) ⟨cro_blind, fun U hU hW => ⟨rfl, cro_at (hP.sub (ws' := []) [] rfl) (hK.sub (tys' := []) [] rfl) hTb hS hU hW⟩⟩ rfl rfl hl.1 rfl (lv_room (Nat.le_of_ble_eq_true rfl)) dX0_back_1 ⟨Nat.le_of_ble_eq_true rfl, Nat.le_of_ble_eq_true rfl⟩) (fun r_1 hr_1 => ?_)
  rcases hr_1 with ⟨nn, sp, hsz9, rfl⟩ | ⟨rfl, hno9⟩
  · obtain ⟨hbn, hbs, hbp, hq1, hq2, hq3⟩ := isSz_facts hsz9
    obtain ⟨heq9, -⟩ := hsz9
    have e_2 : q = nI nn := heq9
    rw [e_2] at hl
    refine lv_istore_n (lv' := [(2, .int (nI sp)), (0, .ref (x 0)), (1, .int (nI nn))]) hx hb dX0_back_4 rfl hl (by decide) rfl (fun ls hl => ?_)
    refine lv_iload_n hx hb dX0_back_5 rfl (lv_at hl 0 rfl) ?_
    refine cx_if_ne (i := ((sp : Nat) : Int)) (j := 0) (tgt := 19) hx hb (nI_toInt (by omega)) rfl dX0_back_6 (by decide) (fun c_3 => ?_) (fun c_3 => ?_)
    · refine lv_aload_n hx hb dX0_back_19 rfl (lv_at hl 1 rfl) ?_
      refine lv_iload_n hx hb dX0_back_20 rfl (lv_at hl 2 rfl) ?_
      refine lv_iload_n hx hb dX0_back_21 rfl (lv_at hl 0 rfl) ?_
      have hFc := va_free (wc := cw x cd f0 f1 f2 f3 g) hD hS hA [0, 1, 2, 3, 4, 5] rfl
      refine va_calll (va_runV (As := [.int (nI nn), .int (nI sp)]) (rest := []) ⟨hx, hb, hml, hown, hts⟩ (m_backDown l D x cd f0 f1 f2 f3 g nn sp (by omega) (by omega) _) (cwV 2 hts (gw_V wm_250 wm_252 wm_6 wm_12 wm_253) rfl rfl rfl (by decide +kernel) ⟨Nat.le_of_ble_eq_true rfl, Nat.le_of_ble_eq_true rfl⟩) ⟨crw_blind, va_recv hK hP (ci := 0) (q0 := 0) rfl rfl, fun U hU hW => ⟨rfl, crw_at hP hK hD hTb hS hFc hU hW⟩⟩ rfl rfl hl.1 rfl (lv_room (Nat.le_of_ble_eq_true rfl)) dX0_back_22 ⟨Nat.le_of_ble_eq_true rfl, Nat.le_of_ble_eq_true rfl⟩) hS (fun q _ h => hFc q h) hFc (fun r_4 u9 t H1 locs ht hvm hw_5 hB hz1 hk1 hS => ?_)
      obtain ⟨g_6, rfl⟩ : ∃ z, z = u9 := ⟨_, rfl⟩
      obtain ⟨hP1, hK1, hD1⟩ := hB
      rw [ht] at hP1
      have hP : va_P D vwCl (cw x cd f0 f1 f2 f3 g_6) H1 := hP1
      have hD : va_D A (cw x cd f0 f1 f2 f3 g_6) := hD1.weaken (fun _ _ _ h => hFc _ h)
      try dsimp only at hw_5
      clear hFc hP1 hD1 hK1 hk1 hz1 ht hvm
      generalize H1 = H at hP hS ⊢
      refine lv_lstore_n (lv' := [(3, .long r_4), (2, .int (nI sp)), (0, .ref (x 0)), (1, .int (nI nn))]) hx hb dX0_back_25 rfl hl (by decide) rfl (fun ls hl => ?_)
      refine lv_aload_n hx hb dX0_back_26 rfl (lv_at hl 2 rfl) ?_
      refine lv_iload_n hx hb dX0_back_27 rfl (lv_at hl 3 rfl) ?_
      refine lv_iload_n hx hb dX0_back_28 rfl (lv_at hl 1 rfl) ?_
      have hFc := va_free (wc := cw x cd f0 f1 f2 f3 g_6) hD hS hA [0, 1, 2, 3, 4, 5] rfl
      refine va_callv (va_runV (As := [.int (nI nn), .int (nI sp)]) (rest := []) ⟨hx, hb, hml, hown, hts⟩ (m_backAcross l D x cd f0 f1 f2 f3 g_6 nn sp (by omega) (by omega) _) (cwV 2 hts (gw_V wm_260 wm_262 wm_7 wm_12 wm_263) rfl rfl rfl (by decide +kernel) ⟨Nat.le_of_ble_eq_true rfl, Nat.le_of_ble_eq_true rfl⟩) ⟨crw_blind, va_recv hK hP (ci := 0) (q0 := 0) rfl rfl, fun U hU hW => ⟨rfl, crw_at hP hK hD hTb hS hFc hU hW⟩⟩ rfl rfl hl.1 rfl (lv_room (Nat.le_of_ble_eq_true rfl)) dX0_back_29 ⟨Nat.le_of_ble_eq_true rfl, Nat.le_of_ble_eq_true rfl⟩) hS (fun q _ h => hFc q h) hFc (fun u9 t H1 locs ht hvm hw_8 hB hz1 hk1 hS => ?_)
      obtain ⟨f_9, rfl⟩ : ∃ z, z = u9 := ⟨_, rfl⟩
      obtain ⟨hP1, hK1, hD1⟩ := hB
      rw [ht] at hP1
      have hP : va_P D vwCl (cw x cd f0 f1 f_9 f3 g_6) H1 := hP1
      have hD : va_D A (cw x cd f0 f1 f_9 f3 g_6) := hD1.weaken (fun _ _ _ h => hFc _ h)
      try dsimp only at hw_8
      clear hFc hP1 hD1 hK1 hk1 hz1 ht hvm
      generalize H1 = H at hP hS ⊢
      refine lv_lload_n hx hb dX0_back_32 rfl (lv_at hl 0 rfl) ?_
      refine W.widen (k := 1) (n := 6) (Nat.zero_le _) (Nat.zero_le _) (vx_ret ?_)
      exact W.lret (v := r_4) hx hb hr (fun t ht hW => ⟨⟨r_4, (f_9, g_6), rfl, (by
                                           rw [hq1, hq2]
                                           refine ⟨hq3, hw_5.1, fun a b ha9 hb9 => ?_⟩
                                           rw [hw_8 a b ha9 hb9]
                                           by_cases hz : a < nn ∧ b < nn
                                           · rw [if_pos hz, if_pos hz]
                                             exact bS_congr (fun c9 hc9 => hw_5.2 a c9 hz.1 hc9)
                                           · rw [if_neg hz, if_neg hz]), by rw [ht]; exact hP, va_K.moved hW.alike hK, hD⟩, hS.F ht⟩) hS.2.2 dX0_back_33
    · obtain ⟨sa9, hstr⟩ := hXstr.2.2.2.2.2.1
      exact vx_throwS (own := RX0) (cls := "java/lang/IllegalArgumentException") (names := ["java/lang/RuntimeException", "java/lang/Exception"]) hx hb hl9 hown (by decide +kernel) (by decide +kernel) (hts _ wm_196) (hts _ wm_18) hstr (vx_hat (L := vx_atS RX0 41 "java/lang/IllegalArgumentException" ["java/lang/RuntimeException", "java/lang/Exception"]) (B := [.castable "java/lang/IllegalArgumentException" "java/lang/IllegalArgumentException", .declares ⟨"java/lang/RuntimeException", "<init>", "(Ljava/lang/String;)V"⟩, .declares ⟨"java/lang/Exception", "<init>", "(Ljava/lang/String;)V"⟩, .declares ⟨"java/lang/Throwable", "<init>", "(Ljava/lang/String;)V"⟩]) (fun w hw => hts w (hat_a w hw)) hatB_a (vx_c (va_Nw.use rfl hXc_a) (vx_c (va_Nw.use rfl hXd1) (vx_c (va_Nw.use rfl hXd2) (vx_c (va_Nw.use rfl hXd3) (vx_n)))))) hatG_a hXU hXN hS (hl.1.trans hml.symm) dX0_back_9 dX0_back_12 dX0_back_13 dX0_back_15 dX0_back_18 (fun x9 h9 => (htab x9 h9).elim) (Nat.le_of_ble_eq_true rfl) (Nat.le_of_ble_eq_true rfl) (Nat.le_of_ble_eq_true rfl) (Nat.le_of_ble_eq_true rfl) hlocks (fun t ha hsz hk => ⟨(), trivial, ⟨rfl, by unfold szOk; omega⟩, hsz, fun q h1 _ => hk q h1⟩) hS.2.2 (Nat.le_of_ble_eq_true rfl) (Nat.le_of_ble_eq_true rfl)
  · unfold noSz at hno9
    refine lv_istore_n (lv' := [(2, .int (0 : Int32)), (0, .ref (x 0)), (1, .int q)]) hx hb dX0_back_4 rfl hl (by decide) rfl (fun ls hl => ?_)
    refine lv_iload_n hx hb dX0_back_5 rfl (lv_at hl 0 rfl) ?_
    refine cx_if_ne (i := 0) (j := 0) (tgt := 19) hx hb (by decide +kernel) rfl dX0_back_6 (by decide) (fun c_10 => absurd c_10 (by decide)) (fun c_10 => ?_)
    obtain ⟨sa9, hstr⟩ := hXstr.2.2.2.2.2.1
    exact vx_throwS (own := RX0) (cls := "java/lang/IllegalArgumentException") (names := ["java/lang/RuntimeException", "java/lang/Exception"]) hx hb hl9 hown (by decide +kernel) (by decide +kernel) (hts _ wm_196) (hts _ wm_18) hstr (vx_hat (L := vx_atS RX0 41 "java/lang/IllegalArgumentException" ["java/lang/RuntimeException", "java/lang/Exception"]) (B := [.castable "java/lang/IllegalArgumentException" "java/lang/IllegalArgumentException", .declares ⟨"java/lang/RuntimeException", "<init>", "(Ljava/lang/String;)V"⟩, .declares ⟨"java/lang/Exception", "<init>", "(Ljava/lang/String;)V"⟩, .declares ⟨"java/lang/Throwable", "<init>", "(Ljava/lang/String;)V"⟩]) (fun w hw => hts w (hat_a w hw)) hatB_a (vx_c (va_Nw.use rfl hXc_a) (vx_c (va_Nw.use rfl hXd1) (vx_c (va_Nw.use rfl hXd2) (vx_c (va_Nw.use rfl hXd3) (vx_n)))))) hatG_a hXU hXN hS (hl.1.trans hml.symm) dX0_back_9 dX0_back_12 dX0_back_13 dX0_back_15 dX0_back_18 (fun x9 h9 => (htab x9 h9).elim) (Nat.le_of_ble_eq_true rfl) (Nat.le_of_ble_eq_true rfl) (Nat.le_of_ble_eq_true rfl) (Nat.le_of_ble_eq_true rfl) hlocks (fun t ha hsz hk => ⟨(), trivial, ⟨rfl, by unfold szOk; omega⟩, hsz, fun q h1 _ => hk q h1⟩) hS.2.2 (Nat.le_of_ble_eq_true rfl) (Nat.le_of_ble_eq_true rfl)
set_option maxHeartbeats 4000000 in
set_option maxRecDepth 100000 in
/-- error -/
theorem m_error (l : Launch) (hl9 : l.stackTraces = false) (D : va_G) (x : Nat → Nat) (cd : Nat → ClassId) (f0 f1 f2 f3 : Nat → Int32) (g : Nat → Int64) (q : Int32) : vx_Met l yX0_error wsX0_error ({ frames := 6, cells := 1, slots := 6, locals := 82 } : Room) (va_Pc [.ref (x 0), .int q] (cro D (cw x cd f0 f1 f2 f3 g) (cty cd))) (va_Qi (fun (r : Int32) (_ : Unit) => (1 ≤ q.toInt ∧ q.toInt ≤ 8) ∧ r = erY f2 f3 q.toInt.toNat q.toInt.toNat) (fun (_ : Unit) (_ : State) => True) (fun _ => False)) (vx_X (fun (_ : Unit) => True) (fun (E : String) (_ : Unit) (_ : State) => (E = "java/lang/IllegalArgumentException" ∧ ¬ (1 ≤ q.toInt ∧ q.toInt ≤ 8))) (fun _ => False)) 1 6 (fun _ => False) := by
  refine vx_ofW (cc := cX0_error) (maxL := 6) (ret := some .int) (by decide) rfl ?_
  intro p e s m args below meth c s₁ B hml htab hv
  obtain ⟨rfl, hP, hK, hTb⟩ := hv
  have hx := B.exec
  have hb := B.bytes
  have hr := B.returns
  have hts : ∀ w ∈ wA, w.before _ s = true := fun w h => atoms_spec (ws := wsX0_error) B.pre w (List.mem_cons_of_mem _ h)
  have hown : s.vm.findClass RX0 = some m.cls := findClass_of_methodNamed B.named
  have hlocks := B.notSynchronized
  have hS : va_S (fun _ => False) s.heap s.heap [] := va_S.rf
  have hin0 := inA0
  have hf16 := (hts _ wm_30)
  have hf19 := (hts _ wm_31)
  obtain ⟨⟨t0, hZ0, hT0⟩, ⟨t1, hZ1, hT1⟩, ⟨t2, hZ2, hT2⟩, hXU, hXN, ⟨hXc_i, hXc_a, hXd1, hXd2, hXd3⟩, hXstr, -⟩ := id hTb
  have hl := lv_entry ([.ref (x 0), .int q]) (n := 6) (Nat.le_of_ble_eq_true rfl)
  rw [lg_entry_eq]
  generalize (lg_sl ([.ref (x 0), .int q]) ++ List.replicate (6 - (lg_sl ([.ref (x 0), .int q])).length) Slot.unset).toArray = ls at hl ⊢
  have hl : lv_has ls 6 [(0, .ref (x 0)), (1, .int q)] := hl
  refine lv_iload_n hx hb dX0_error_0 rfl (lv_at hl 1 rfl) ?_
  refine lv_iconst (v := (1 : Int32)) hx hb dX0_error_1 (by decide +kernel) ?_
  refine cx_icmp_lt (i := q.toInt) (j := 1) (tgt := 11) hx hb rfl (by decide +kernel) dX0_error_2 (by decide) (fun c_1 => ?_) (fun c_1 => ?_)
  · obtain ⟨sa9, hstr⟩ := hXstr.2.2.2.2.2.2.1
    exact vx_throwS (own := RX0) (cls := "java/lang/IllegalArgumentException") (names := ["java/lang/RuntimeException", "java/lang/Exception"]) hx hb hl9 hown (by decide +kernel) (by decide +kernel) (hts _ wm_196) (hts _ wm_18) hstr (vx_hat (L := vx_atS RX0 41 "java/lang/IllegalArgumentException" ["java/lang/RuntimeException", "java/lang/Exception"]) (B := [.castable "java/lang/IllegalArgumentException" "java/lang/IllegalArgumentException", .declares ⟨"java/lang/RuntimeException", "<init>", "(Ljava/lang/String;)V"⟩, .declares ⟨"java/lang/Exception", "<init>", "(Ljava/lang/String;)V"⟩, .declares ⟨"java/lang/Throwable", "<init>", "(Ljava/lang/String;)V"⟩]) (fun w hw => hts w (hat_a w hw)) hatB_a (vx_c (va_Nw.use rfl hXc_a) (vx_c (va_Nw.use rfl hXd1) (vx_c (va_Nw.use rfl hXd2) (vx_c (va_Nw.use rfl hXd3) (vx_n)))))) hatG_a hXU hXN hS (hl.1.trans hml.symm) dX0_error_11 dX0_error_14 dX0_error_15 dX0_error_17 dX0_error_20 (fun x9 h9 => (htab x9 h9).elim) (Nat.le_of_ble_eq_true rfl) (Nat.le_of_ble_eq_true rfl) (Nat.le_of_ble_eq_true rfl) (Nat.le_of_ble_eq_true rfl) hlocks (fun t ha hsz hk => ⟨(), trivial, ⟨rfl, by omega⟩, hsz, fun q h1 _ => hk q h1⟩) hS.2.2 (Nat.le_of_ble_eq_true rfl) (Nat.le_of_ble_eq_true rfl)
  · refine lv_iload_n hx hb dX0_error_5 rfl (lv_at hl 1 rfl) ?_
    refine lv_bipush (v := (8 : Int32)) hx hb dX0_error_6 (by decide +kernel) ?_
    refine cx_icmp_le (i := q.toInt) (j := 8) (tgt := 21) hx hb rfl (by decide +kernel) dX0_error_8 (by decide) (fun c_2 => ?_) (fun c_2 => ?_)
    · obtain ⟨nn, hn9, hej⟩ := cx_ofN (x := q) (n := 9) (by omega) (by omega) (by decide)
      have e_3 : q = nI nn := hej
      rw [e_3] at hl
      refine lv_iconst (v := (0 : Int32)) hx hb dX0_error_21 (by decide +kernel) ?_
      refine lv_istore_n (lv' := [(2, .int (0 : Int32)), (0, .ref (x 0)), (1, .int (nI nn))]) hx hb dX0_error_22 rfl hl (by decide) rfl (fun ls hl => ?_)
      refine lv_iconst (v := (0 : Int32)) hx hb dX0_error_23 (by decide +kernel) ?_
      refine lv_istore_n (lv' := [(3, .int (0 : Int32)), (2, .int (0 : Int32)), (0, .ref (x 0)), (1, .int (nI nn))]) hx hb dX0_error_24 rfl hl (by decide) rfl (fun ls hl => ?_)
      have L25 : ∀ (n : Nat) (y9 : Nat) (ls : Array Slot), (nn - y9) < n → (y9 ≤ nn) → lv_has ls 6 [(0, .ref (x 0)), (1, .int (nI nn)), (2, .int (erY f2 f3 nn y9)), (3, .int (nI y9))] → W p l e ((headSpec wsX0_error ({ frames := 6, cells := 1, slots := 6, locals := 82 } : Room)).room) s m (([.ref (x 0), .int q] : List Value).toArray) below meth c s.heap [] 0 0 (vx_MQ below (va_Qi (fun (r : Int32) (_ : Unit) => (1 ≤ q.toInt ∧ q.toInt ≤ 8) ∧ r = erY f2 f3 q.toInt.toNat q.toInt.toNat) (fun (_ : Unit) (_ : State) => True) (fun _ => False)) (vx_X (fun (_ : Unit) => True) (fun (E : String) (_ : Unit) (_ : State) => (E = "java/lang/IllegalArgumentException" ∧ ¬ (1 ≤ q.toInt ∧ q.toInt ≤ 8))) (fun _ => False)) ([.ref (x 0), .int q] : List Value).toArray s 1 6 (fun _ => False)) (F0 m 25 ls []) := by
        intro n
        induction n with
        | zero =>
          intro y9 ls hn
          exact absurd hn (Nat.not_lt_zero _)
        | succ n ih25 =>
          intro y9 ls hn25 hy9 hl
          refine lv_iload_n hx hb dX0_error_25 rfl (lv_at hl 3 rfl) ?_
          refine lv_iload_n hx hb dX0_error_26 rfl (lv_at hl 1 rfl) ?_
          refine cx_icmp_ge (i := ((y9 : Nat) : Int)) (j := ((nn : Nat) : Int)) (tgt := 86) hx hb (nI_toInt (by omega)) (nI_toInt (by omega)) dX0_error_27 (by decide) (fun c_4 => ?_) (fun c_4 => ?_)
          · refine lv_iload_n hx hb dX0_error_86 rfl (lv_at hl 2 rfl) ?_
            refine W.widen (k := 1) (n := 6) (Nat.zero_le _) (Nat.zero_le _) (vx_ret ?_)
            exact W.iret (v := erY f2 f3 nn y9) hx hb hr (fun t ht hW => ⟨⟨erY f2 f3 nn y9, (), rfl, (by obtain rfl : nn = y9 := (by omega); exact ⟨by omega, by rw [hej, cx_toNat (by omega)]⟩), trivial⟩, hS.F ht⟩) hS.2.2 dX0_error_87
          · refine lv_iconst (v := (0 : Int32)) hx hb dX0_error_30 (by decide +kernel) ?_
            refine lv_istore (lv' := [(4, .int (0 : Int32)), (0, .ref (x 0)), (1, .int (nI nn)), (2, .int (erY f2 f3 nn y9)), (3, .int (nI y9))]) hx hb dX0_error_31 hl (by decide) rfl (fun ls hl => ?_)
            have L33 : ∀ (n : Nat) (x9 : Nat) (ls : Array Slot), (nn - x9) < n → (x9 ≤ nn) → lv_has ls 6 [(0, .ref (x 0)), (1, .int (nI nn)), (2, .int (erX f2 f3 y9 (erY f2 f3 nn y9) x9)), (3, .int (nI y9)), (4, .int (nI x9))] → W p l e ((headSpec wsX0_error ({ frames := 6, cells := 1, slots := 6, locals := 82 } : Room)).room) s m (([.ref (x 0), .int q] : List Value).toArray) below meth c s.heap [] 0 0 (vx_MQ below (va_Qi (fun (r : Int32) (_ : Unit) => (1 ≤ q.toInt ∧ q.toInt ≤ 8) ∧ r = erY f2 f3 q.toInt.toNat q.toInt.toNat) (fun (_ : Unit) (_ : State) => True) (fun _ => False)) (vx_X (fun (_ : Unit) => True) (fun (E : String) (_ : Unit) (_ : State) => (E = "java/lang/IllegalArgumentException" ∧ ¬ (1 ≤ q.toInt ∧ q.toInt ≤ 8))) (fun _ => False)) ([.ref (x 0), .int q] : List Value).toArray s 1 6 (fun _ => False)) (F0 m 33 ls []) := by
              intro n
              induction n with
              | zero =>
                intro x9 ls hn
                exact absurd hn (Nat.not_lt_zero _)
              | succ n ih33 =>
                intro x9 ls hn33 hx9 hl
                refine lv_iload hx hb dX0_error_33 (lv_at hl 4 rfl) ?_
                refine lv_iload_n hx hb dX0_error_35 rfl (lv_at hl 1 rfl) ?_
                refine cx_icmp_ge (i := ((x9 : Nat) : Int)) (j := ((nn : Nat) : Int)) (tgt := 80) hx hb (nI_toInt (by omega)) (nI_toInt (by omega)) dX0_error_36 (by decide) (fun c_5 => ?_) (fun c_5 => ?_)
                · refine lv_iinc (v := nI (y9 + 1)) (lv' := [(3, .int (nI (y9 + 1))), (0, .ref (x 0)), (1, .int (nI nn)), (2, .int (erX f2 f3 y9 (erY f2 f3 nn y9) x9)), (4, .int (nI x9))]) hx hb dX0_error_80 hl (k := 3) rfl (by show nI y9 + 1 = nI (y9 + 1); exact nI_add y9 1) (by decide) rfl (fun ls hl => ?_)
                  refine lv_goto (tgt := 25) hx hb dX0_error_83 (by decide) ?_
                  obtain rfl : nn = x9 := by omega
                  exact ih25 (y9 + 1) _ (by omega) (by omega) (lv_sub hl [1, 2, 3, 0] rfl)
                · refine lv_aload_n hx hb dX0_error_39 rfl (lv_at hl 0 rfl) ?_
                  refine va_get (D := D) (ci := 0) (v := .ref (x 3)) (C := RX0) (T := TX0) (N := 5) hx hb hts hin0 hown hK hP 0 rfl rfl 2 (by decide) hf16 (fun _ h9 => h9) rfl dX0_error_40 ?_
                  refine lv_iload_n hx hb dX0_error_43 rfl (lv_at hl 3 rfl) ?_
                  refine lv_bipush (v := (8 : Int32)) hx hb dX0_error_44 (by decide +kernel) ?_
                  refine cx_imul hx hb y9 8 dX0_error_46 ?_
                  refine lv_iload hx hb dX0_error_47 (lv_at hl 4 rfl) ?_
                  refine cx_iadd hx hb (y9 * 8) x9 dX0_error_49 ?_
                  refine cx_iald hx hb hK hP 3 2 rfl rfl (y9 * 8 + x9) (by omega) (by decide) dX0_error_50 ?_
                  refine lv_aload_n hx hb dX0_error_51 rfl (lv_at hl 0 rfl) ?_
                  refine va_get (D := D) (ci := 0) (v := .ref (x 4)) (C := RX0) (T := TX0) (N := 5) hx hb hts hin0 hown hK hP 0 rfl rfl 3 (by decide) hf19 (fun _ h9 => h9) rfl dX0_error_52 ?_
                  refine lv_iload_n hx hb dX0_error_55 rfl (lv_at hl 3 rfl) ?_
                  refine lv_bipush (v := (8 : Int32)) hx hb dX0_error_56 (by decide +kernel) ?_
                  refine cx_imul hx hb y9 8 dX0_error_58 ?_
                  refine lv_iload hx hb dX0_error_59 (lv_at hl 4 rfl) ?_
                  refine cx_iadd hx hb (y9 * 8) x9 dX0_error_61 ?_
                  refine cx_iald hx hb hK hP 4 3 rfl rfl (y9 * 8 + x9) (by omega) (by decide) dX0_error_62 ?_
                  refine lv_isub hx hb dX0_error_63 ?_
                  refine lv_istore (lv' := [(5, .int ((f2 (y9 * 8 + x9)) - (f3 (y9 * 8 + x9)))), (0, .ref (x 0)), (1, .int (nI nn)), (2, .int (erX f2 f3 y9 (erY f2 f3 nn y9) x9)), (3, .int (nI y9)), (4, .int (nI x9))]) hx hb dX0_error_64 hl (by decide) rfl (fun ls hl => ?_)
                  refine lv_iload_n hx hb dX0_error_66 rfl (lv_at hl 3 rfl) ?_
                  refine lv_iload hx hb dX0_error_67 (lv_at hl 0 rfl) ?_
                  refine lv_iload hx hb dX0_error_69 (lv_at hl 0 rfl) ?_
                  refine lv_imul hx hb dX0_error_71 ?_
                  refine lv_iadd hx hb dX0_error_72 ?_
                  refine lv_istore_n (lv' := [(2, .int ((erX f2 f3 y9 (erY f2 f3 nn y9) x9) + (((f2 (y9 * 8 + x9)) - (f3 (y9 * 8 + x9))) * ((f2 (y9 * 8 + x9)) - (f3 (y9 * 8 + x9)))))), (5, .int ((f2 (y9 * 8 + x9)) - (f3 (y9 * 8 + x9)))), (0, .ref (x 0)), (1, .int (nI nn)), (3, .int (nI y9)), (4, .int (nI x9))]) hx hb dX0_error_73 rfl hl (by decide) rfl (fun ls hl => ?_)
                  refine lv_iinc (v := nI (x9 + 1)) (lv' := [(4, .int (nI (x9 + 1))), (2, .int ((erX f2 f3 y9 (erY f2 f3 nn y9) x9) + (((f2 (y9 * 8 + x9)) - (f3 (y9 * 8 + x9))) * ((f2 (y9 * 8 + x9)) - (f3 (y9 * 8 + x9)))))), (5, .int ((f2 (y9 * 8 + x9)) - (f3 (y9 * 8 + x9)))), (0, .ref (x 0)), (1, .int (nI nn)), (3, .int (nI y9))]) hx hb dX0_error_74 hl (k := 5) rfl (by show nI x9 + 1 = nI (x9 + 1); exact nI_add x9 1) (by decide) rfl (fun ls hl => ?_)
                  refine lv_goto (tgt := 33) hx hb dX0_error_77 (by decide) ?_
                  exact ih33 (x9 + 1) _ (by omega) (by omega) (lv_sub hl [3, 4, 1, 5, 0] rfl)
            exact L33 _ 0 _ (Nat.lt_succ_self _) (Nat.zero_le _) (lv_sub hl [1, 2, 3, 4, 0] rfl)
      exact L25 _ 0 _ (Nat.lt_succ_self _) (Nat.zero_le _) (lv_sub hl [2, 3, 1, 0] rfl)
    · obtain ⟨sa9, hstr⟩ := hXstr.2.2.2.2.2.2.1
      exact vx_throwS (own := RX0) (cls := "java/lang/IllegalArgumentException") (names := ["java/lang/RuntimeException", "java/lang/Exception"]) hx hb hl9 hown (by decide +kernel) (by decide +kernel) (hts _ wm_196) (hts _ wm_18) hstr (vx_hat (L := vx_atS RX0 41 "java/lang/IllegalArgumentException" ["java/lang/RuntimeException", "java/lang/Exception"]) (B := [.castable "java/lang/IllegalArgumentException" "java/lang/IllegalArgumentException", .declares ⟨"java/lang/RuntimeException", "<init>", "(Ljava/lang/String;)V"⟩, .declares ⟨"java/lang/Exception", "<init>", "(Ljava/lang/String;)V"⟩, .declares ⟨"java/lang/Throwable", "<init>", "(Ljava/lang/String;)V"⟩]) (fun w hw => hts w (hat_a w hw)) hatB_a (vx_c (va_Nw.use rfl hXc_a) (vx_c (va_Nw.use rfl hXd1) (vx_c (va_Nw.use rfl hXd2) (vx_c (va_Nw.use rfl hXd3) (vx_n)))))) hatG_a hXU hXN hS (hl.1.trans hml.symm) dX0_error_11 dX0_error_14 dX0_error_15 dX0_error_17 dX0_error_20 (fun x9 h9 => (htab x9 h9).elim) (Nat.le_of_ble_eq_true rfl) (Nat.le_of_ble_eq_true rfl) (Nat.le_of_ble_eq_true rfl) (Nat.le_of_ble_eq_true rfl) hlocks (fun t ha hsz hk => ⟨(), trivial, ⟨rfl, by omega⟩, hsz, fun q h1 _ => hk q h1⟩) hS.2.2 (Nat.le_of_ble_eq_true rfl) (Nat.le_of_ble_eq_true rfl)
set_option maxHeartbeats 4000000 in
set_option maxRecDepth 100000 in
/-- at -/
theorem m_at (l : Launch) (hl9 : l.stackTraces = false) (D : va_G) (x : Nat → Nat) (cd : Nat → ClassId) (f0 f1 f2 f3 : Nat → Int32) (g : Nat → Int64) (q k9 : Int32) : vx_Met l yX0_at wsX0_at ({ frames := 6, cells := 1, slots := 6, locals := 82 } : Room) (va_Pc [.ref (x 0), .int q, .int k9] (cro D (cw x cd f0 f1 f2 f3 g) (cty cd))) (va_Qi (fun (r : Int32) (_ : Unit) => ((0 ≤ q.toInt ∧ q.toInt < 64) ∧ (0 ≤ k9.toInt ∧ k9.toInt ≤ 3)) ∧ r = atV f0 f1 q.toInt.toNat k9) (fun (_ : Unit) (_ : State) => True) (fun _ => False)) (vx_X (fun (_ : Unit) => True) (fun (E : String) (_ : Unit) (_ : State) => (E = "java/lang/IndexOutOfBoundsException" ∧ ¬ ((0 ≤ q.toInt ∧ q.toInt < 64) ∧ (0 ≤ k9.toInt ∧ k9.toInt ≤ 3)))) (fun _ => False)) 1 6 (fun _ => False) := by
  refine vx_ofW (cc := cX0_at) (maxL := 4) (ret := some .int) (by decide) rfl ?_
  intro p e s m args below meth c s₁ B hml htab hv
  obtain ⟨rfl, hP, hK, hTb⟩ := hv
  have hx := B.exec
  have hb := B.bytes
  have hr := B.returns
  have hts : ∀ w ∈ wA, w.before _ s = true := fun w h => atoms_spec (ws := wsX0_at) B.pre w (List.mem_cons_of_mem _ h)
  have hown : s.vm.findClass RX0 = some m.cls := findClass_of_methodNamed B.named
  have hlocks := B.notSynchronized
  have hS : va_S (fun _ => False) s.heap s.heap [] := va_S.rf
  have hin0 := inA0
  have hf9 := (hts _ wm_28)
  have hf13 := (hts _ wm_29)
  obtain ⟨⟨t0, hZ0, hT0⟩, ⟨t1, hZ1, hT1⟩, ⟨t2, hZ2, hT2⟩, hXU, hXN, ⟨hXc_i, hXc_a, hXd1, hXd2, hXd3⟩, hXstr, -⟩ := id hTb
  have hl := lv_entry ([.ref (x 0), .int q, .int k9]) (n := 4) (Nat.le_of_ble_eq_true rfl)
  rw [lg_entry_eq]
  generalize (lg_sl ([.ref (x 0), .int q, .int k9]) ++ List.replicate (4 - (lg_sl ([.ref (x 0), .int q, .int k9])).length) Slot.unset).toArray = ls at hl ⊢
  have hl : lv_has ls 4 [(0, .ref (x 0)), (1, .int q), (2, .int k9)] := hl
  refine lv_iload_n hx hb dX0_at_0 rfl (lv_at hl 1 rfl) ?_
  refine vp_callSi (W.runS (As := [.int q]) (rest := []) ⟨hx, hb, hml, hown, hts⟩ (m_isPlace l D q) (va_cwS 1 hts (gw_S wm_126 wm_127 wm_12 wm_128) rfl rfl rfl (by decide +kernel) ⟨Nat.le_of_ble_eq_true rfl, Nat.le_of_ble_eq_true rfl⟩) ⟨cro_blind, fun U hU hW => ⟨rfl, cro_at (hP.sub (ws' := []) [] rfl) (hK.sub (tys' := []) [] rfl) hTb hS hU hW⟩⟩ rfl rfl hl.1 rfl (lv_room (Nat.le_of_ble_eq_true rfl)) dX0_at_1 ⟨Nat.le_of_ble_eq_true rfl, Nat.le_of_ble_eq_true rfl⟩) (fun r_1 hr_1 => ?_)
  rcases hr_1 with ⟨rfl, ha9, hb9⟩ | ⟨rfl, ha9⟩
  · refine cx_if_eq (i := 1) (j := 0) (tgt := 16) hx hb (by decide +kernel) rfl dX0_at_4 (by decide) (fun c_2 => absurd c_2 (by decide)) (fun c_2 => ?_)
    refine lv_iload_n hx hb dX0_at_7 rfl (lv_at hl 2 rfl) ?_
    refine cx_if_lt (i := k9.toInt) (j := 0) (tgt := 16) hx hb rfl rfl dX0_at_8 (by decide) (fun c_3 => ?_) (fun c_3 => ?_)
    · obtain ⟨sa9, hstr⟩ := hXstr.2.2.2.2.2.2.2.1
      exact vx_throwS (own := RX0) (cls := "java/lang/IndexOutOfBoundsException") (names := ["java/lang/RuntimeException", "java/lang/Exception"]) hx hb hl9 hown (by decide +kernel) (by decide +kernel) (hts _ wm_129) (hts _ wm_17) hstr (vx_hat (L := vx_atS RX0 34 "java/lang/IndexOutOfBoundsException" ["java/lang/RuntimeException", "java/lang/Exception"]) (B := [.castable "java/lang/IndexOutOfBoundsException" "java/lang/IndexOutOfBoundsException", .declares ⟨"java/lang/RuntimeException", "<init>", "(Ljava/lang/String;)V"⟩, .declares ⟨"java/lang/Exception", "<init>", "(Ljava/lang/String;)V"⟩, .declares ⟨"java/lang/Throwable", "<init>", "(Ljava/lang/String;)V"⟩]) (fun w hw => hts w (hat_i w hw)) hatB_i (vx_c (va_Nw.use rfl hXc_i) (vx_c (va_Nw.use rfl hXd1) (vx_c (va_Nw.use rfl hXd2) (vx_c (va_Nw.use rfl hXd3) (vx_n)))))) hatG_i hXU hXN hS (hl.1.trans hml.symm) dX0_at_16 dX0_at_19 dX0_at_20 dX0_at_22 dX0_at_25 (fun x9 h9 => (htab x9 h9).elim) (Nat.le_of_ble_eq_true rfl) (Nat.le_of_ble_eq_true rfl) (Nat.le_of_ble_eq_true rfl) (Nat.le_of_ble_eq_true rfl) hlocks (fun t ha hsz hk => ⟨(), trivial, ⟨rfl, by omega⟩, hsz, fun q h1 _ => hk q h1⟩) hS.2.2 (Nat.le_of_ble_eq_true rfl) (Nat.le_of_ble_eq_true rfl)
    · refine lv_iload_n hx hb dX0_at_11 rfl (lv_at hl 2 rfl) ?_
      refine lv_iconst (v := (3 : Int32)) hx hb dX0_at_12 (by decide +kernel) ?_
      refine cx_icmp_le (i := k9.toInt) (j := 3) (tgt := 26) hx hb rfl (by decide +kernel) dX0_at_13 (by decide) (fun c_4 => ?_) (fun c_4 => ?_)
      · obtain ⟨j9, hj9, hej⟩ := cx_ofN (x := q) (n := 64) (by omega) (by omega) (by decide)
        have e_5 : q = nI j9 := hej
        rw [e_5] at hl
        refine va_gets (v := .ref t2) hx hb hZ2 hS hown (hts _ wm_108) (fun _ h9 => h9) dX0_at_26 ?_
        refine lv_iload_n hx hb dX0_at_29 rfl (lv_at hl 1 rfl) ?_
        refine cx_ti hx hb hT2 hS j9 (by omega) (by decide) dX0_at_30 ?_
        refine lv_istore_n (lv' := [(3, .int (nI (cCn j9))), (0, .ref (x 0)), (1, .int (nI j9)), (2, .int k9)]) hx hb dX0_at_31 rfl hl (by decide) rfl (fun ls hl => ?_)
        refine lv_iload_n hx hb dX0_at_32 rfl (lv_at hl 3 rfl) ?_
        by_cases k_6 : k9.toInt < 0 ∨ 2 < k9.toInt
        · refine cx_tabO (i := k9.toInt) (tgt := 78) hx hb rfl dX0_at_33 k_6 (by decide) ?_
          refine lv_iload_n hx hb dX0_at_78 rfl (lv_at hl 0 rfl) ?_
          refine lv_bipush (v := (7 : Int32)) hx hb dX0_at_79 (by decide +kernel) ?_
          refine lv_iand hx hb dX0_at_81 ?_
          refine W.widen (k := 1) (n := 6) (Nat.zero_le _) (Nat.zero_le _) (vx_ret ?_)
          exact W.iret (v := (nI (cCn j9)) &&& (7 : Int32)) hx hb hr (fun t ht hW => ⟨⟨(nI (cCn j9)) &&& (7 : Int32), (), rfl, ⟨by omega, by unfold atV; rw [hej, cx_toNat (by omega), if_neg (by omega), if_neg (by omega), if_neg (by omega)]⟩, trivial⟩, hS.F ht⟩) hS.2.2 dX0_at_82
        · have k_6 : k9.toInt = 0 ∨ k9.toInt = 1 ∨ k9.toInt = 2 := by omega
          rcases k_6 with k_6 | k_6 | k_6
          · refine cx_tabI (i := k9.toInt) (off := 27) (tgt := 60) hx hb rfl dX0_at_33 (by omega) (by omega) (by rw [k_6]; rfl) (by decide) ?_
            refine lv_aload_n hx hb dX0_at_60 rfl (lv_at hl 1 rfl) ?_
            refine va_get (D := D) (ci := 0) (v := .ref (x 1)) (C := RX0) (T := TX0) (N := 5) hx hb hts hin0 hown hK hP 0 rfl rfl 0 (by decide) hf9 (fun _ h9 => h9) rfl dX0_at_61 ?_
            refine lv_iload_n hx hb dX0_at_64 rfl (lv_at hl 0 rfl) ?_
            refine cx_iald hx hb hK hP 1 0 rfl rfl (cCn j9) (cCn_lt j9 (by omega)) (by decide) dX0_at_65 ?_
            refine W.widen (k := 1) (n := 6) (Nat.zero_le _) (Nat.zero_le _) (vx_ret ?_)
            exact W.iret (v := f0 (cCn j9)) hx hb hr (fun t ht hW => ⟨⟨f0 (cCn j9), (), rfl, ⟨by omega, by unfold atV; rw [hej, cx_toNat (by omega), if_pos (by omega)]⟩, trivial⟩, hS.F ht⟩) hS.2.2 dX0_at_66
          · refine cx_tabI (i := k9.toInt) (off := 34) (tgt := 67) hx hb rfl dX0_at_33 (by omega) (by omega) (by rw [k_6]; rfl) (by decide) ?_
            refine lv_aload_n hx hb dX0_at_67 rfl (lv_at hl 1 rfl) ?_
            refine va_get (D := D) (ci := 0) (v := .ref (x 2)) (C := RX0) (T := TX0) (N := 5) hx hb hts hin0 hown hK hP 0 rfl rfl 1 (by decide) hf13 (fun _ h9 => h9) rfl dX0_at_68 ?_
            refine lv_iload_n hx hb dX0_at_71 rfl (lv_at hl 0 rfl) ?_
            refine cx_iald hx hb hK hP 2 1 rfl rfl (cCn j9) (cCn_lt j9 (by omega)) (by decide) dX0_at_72 ?_
            refine W.widen (k := 1) (n := 6) (Nat.zero_le _) (Nat.zero_le _) (vx_ret ?_)
            exact W.iret (v := f1 (cCn j9)) hx hb hr (fun t ht hW => ⟨⟨f1 (cCn j9), (), rfl, ⟨by omega, by unfold atV; rw [hej, cx_toNat (by omega), if_neg (by omega), if_pos (by omega)]⟩, trivial⟩, hS.F ht⟩) hS.2.2 dX0_at_73
          · refine cx_tabI (i := k9.toInt) (off := 41) (tgt := 74) hx hb rfl dX0_at_33 (by omega) (by omega) (by rw [k_6]; rfl) (by decide) ?_
            refine lv_iload_n hx hb dX0_at_74 rfl (lv_at hl 0 rfl) ?_
            refine lv_iconst (v := (3 : Int32)) hx hb dX0_at_75 (by decide +kernel) ?_
            refine lv_ishr hx hb dX0_at_76 ?_
            refine W.widen (k := 1) (n := 6) (Nat.zero_le _) (Nat.zero_le _) (vx_ret ?_)
            exact W.iret (v := (nI (cCn j9)) >>> ((3 : Int32) &&& 31)) hx hb hr (fun t ht hW => ⟨⟨(nI (cCn j9)) >>> ((3 : Int32) &&& 31), (), rfl, ⟨by omega, by unfold atV; rw [hej, cx_toNat (by omega), if_neg (by omega), if_neg (by omega), if_pos (by omega)]⟩, trivial⟩, hS.F ht⟩) hS.2.2 dX0_at_77
      · obtain ⟨sa9, hstr⟩ := hXstr.2.2.2.2.2.2.2.1
        exact vx_throwS (own := RX0) (cls := "java/lang/IndexOutOfBoundsException") (names := ["java/lang/RuntimeException", "java/lang/Exception"]) hx hb hl9 hown (by decide +kernel) (by decide +kernel) (hts _ wm_129) (hts _ wm_17) hstr (vx_hat (L := vx_atS RX0 34 "java/lang/IndexOutOfBoundsException" ["java/lang/RuntimeException", "java/lang/Exception"]) (B := [.castable "java/lang/IndexOutOfBoundsException" "java/lang/IndexOutOfBoundsException", .declares ⟨"java/lang/RuntimeException", "<init>", "(Ljava/lang/String;)V"⟩, .declares ⟨"java/lang/Exception", "<init>", "(Ljava/lang/String;)V"⟩, .declares ⟨"java/lang/Throwable", "<init>", "(Ljava/lang/String;)V"⟩]) (fun w hw => hts w (hat_i w hw)) hatB_i (vx_c (va_Nw.use rfl hXc_i) (vx_c (va_Nw.use rfl hXd1) (vx_c (va_Nw.use rfl hXd2) (vx_c (va_Nw.use rfl hXd3) (vx_n)))))) hatG_i hXU hXN hS (hl.1.trans hml.symm) dX0_at_16 dX0_at_19 dX0_at_20 dX0_at_22 dX0_at_25 (fun x9 h9 => (htab x9 h9).elim) (Nat.le_of_ble_eq_true rfl) (Nat.le_of_ble_eq_true rfl) (Nat.le_of_ble_eq_true rfl) (Nat.le_of_ble_eq_true rfl) hlocks (fun t ha hsz hk => ⟨(), trivial, ⟨rfl, by omega⟩, hsz, fun q h1 _ => hk q h1⟩) hS.2.2 (Nat.le_of_ble_eq_true rfl) (Nat.le_of_ble_eq_true rfl)
  · refine cx_if_eq (i := 0) (j := 0) (tgt := 16) hx hb (by decide +kernel) rfl dX0_at_4 (by decide) (fun c_7 => ?_) (fun c_7 => absurd c_7 (by decide))
    obtain ⟨sa9, hstr⟩ := hXstr.2.2.2.2.2.2.2.1
    exact vx_throwS (own := RX0) (cls := "java/lang/IndexOutOfBoundsException") (names := ["java/lang/RuntimeException", "java/lang/Exception"]) hx hb hl9 hown (by decide +kernel) (by decide +kernel) (hts _ wm_129) (hts _ wm_17) hstr (vx_hat (L := vx_atS RX0 34 "java/lang/IndexOutOfBoundsException" ["java/lang/RuntimeException", "java/lang/Exception"]) (B := [.castable "java/lang/IndexOutOfBoundsException" "java/lang/IndexOutOfBoundsException", .declares ⟨"java/lang/RuntimeException", "<init>", "(Ljava/lang/String;)V"⟩, .declares ⟨"java/lang/Exception", "<init>", "(Ljava/lang/String;)V"⟩, .declares ⟨"java/lang/Throwable", "<init>", "(Ljava/lang/String;)V"⟩]) (fun w hw => hts w (hat_i w hw)) hatB_i (vx_c (va_Nw.use rfl hXc_i) (vx_c (va_Nw.use rfl hXd1) (vx_c (va_Nw.use rfl hXd2) (vx_c (va_Nw.use rfl hXd3) (vx_n)))))) hatG_i hXU hXN hS (hl.1.trans hml.symm) dX0_at_16 dX0_at_19 dX0_at_20 dX0_at_22 dX0_at_25 (fun x9 h9 => (htab x9 h9).elim) (Nat.le_of_ble_eq_true rfl) (Nat.le_of_ble_eq_true rfl) (Nat.le_of_ble_eq_true rfl) (Nat.le_of_ble_eq_true rfl) hlocks (fun t ha hsz hk => ⟨(), trivial, ⟨rfl, by omega⟩, hsz, fun q h1 _ => hk q h1⟩) hS.2.2 (Nat.le_of_ble_eq_true rfl) (Nat.le_of_ble_eq_true rfl)
set_option maxHeartbeats 4000000 in
set_option maxRecDepth 100000 in
/-- exact -/
theorem m_exact (l : Launch) (hl9 : l.stackTraces = false) (D : va_G) (x : Nat → Nat) (cd : Nat → ClassId) (f0 f1 f2 f3 : Nat → Int32) (g : Nat → Int64) (a9 b9 : Int32) (sz : Nat) : vx_Met l yX0_exact wsX0_exact ({ frames := 6, cells := 1, slots := 6, locals := 82 } : Room) (va_Pc [.ref (x 0), .int a9, .int b9] (crw D (cw x cd f0 f1 f2 f3 g) (cty cd) sz)) (va_Qi (fun (r : Int32) (u : Nat → Int64) => ((0 ≤ a9.toInt ∧ a9.toInt < 8) ∧ (0 ≤ b9.toInt ∧ b9.toInt < 8)) ∧ r = fE (fP f2) a9.toInt.toNat b9.toInt.toNat) (fun (u : Nat → Int64) (t : State) => crB D (cw x cd f0 f1 f2 f3 u) (cty cd) (va_A (cw x cd f0 f1 f2 f3 g) sz) t) (va_A (cw x cd f0 f1 f2 f3 g) sz)) (vx_X (fun (_ : Unit) => True) (fun (E : String) (_ : Unit) (_ : State) => (E = "java/lang/IndexOutOfBoundsException" ∧ ¬ ((0 ≤ a9.toInt ∧ a9.toInt < 8) ∧ (0 ≤ b9.toInt ∧ b9.toInt < 8)))) (fun _ => False)) 1 6 (va_A (cw x cd f0 f1 f2 f3 g) sz) := by
  refine vx_ofW (cc := cX0_exact) (maxL := 3) (ret := some .int) (by decide) rfl ?_
  intro p e s m args below meth c s₁ B hml htab hv
  obtain ⟨rfl, hsz, hP, hK, hD0, hTb⟩ := hv
  have hx := B.exec
  have hb := B.bytes
  have hr := B.returns
  have hts : ∀ w ∈ wA, w.before _ s = true := fun w h => atoms_spec (ws := wsX0_exact) B.pre w (List.mem_cons_of_mem _ h)
  have hown : s.vm.findClass RX0 = some m.cls := findClass_of_methodNamed B.named
  have hlocks := B.notSynchronized
  subst hsz
  have hD := hD0.self (sz := s.heap.size)
  generalize hAe : va_A (cw x cd f0 f1 f2 f3 g) s.heap.size = A at hD hTb ⊢
  have hA : ∀ q : Nat, s.heap.size ≤ q → A q := fun q h => by rw [← hAe]; exact Or.inr h
  have hS : va_S A s.heap s.heap [] := va_S.rf
  obtain ⟨⟨t0, hZ0, hT0⟩, ⟨t1, hZ1, hT1⟩, ⟨t2, hZ2, hT2⟩, hXU, hXN, ⟨hXc_i, hXc_a, hXd1, hXd2, hXd3⟩, hXstr, -⟩ := id hTb
  have hl := lv_entry ([.ref (x 0), .int a9, .int b9]) (n := 3) (Nat.le_of_ble_eq_true rfl)
  rw [lg_entry_eq]
  generalize (lg_sl ([.ref (x 0), .int a9, .int b9]) ++ List.replicate (3 - (lg_sl ([.ref (x 0), .int a9, .int b9])).length) Slot.unset).toArray = ls at hl ⊢
  have hl : lv_has ls 3 [(0, .ref (x 0)), (1, .int a9), (2, .int b9)] := hl
  refine lv_iload_n hx hb dX0_exact_0 rfl (lv_at hl 1 rfl) ?_
  refine vp_callSi (W.runS (As := [.int a9]) (rest := []) ⟨hx, hb, hml, hown, hts⟩ (m_isLine l D a9) (va_cwS 1 hts (gw_S wm_91 wm_92 wm_12 wm_93) rfl rfl rfl (by decide +kernel) ⟨Nat.le_of_ble_eq_true rfl, Nat.le_of_ble_eq_true rfl⟩) ⟨cro_blind, fun U hU hW => ⟨rfl, cro_at (hP.sub (ws' := []) [] rfl) (hK.sub (tys' := []) [] rfl) hTb hS hU hW⟩⟩ rfl rfl hl.1 rfl (lv_room (Nat.le_of_ble_eq_true rfl)) dX0_exact_1 ⟨Nat.le_of_ble_eq_true rfl, Nat.le_of_ble_eq_true rfl⟩) (fun r_1 hr_1 => ?_)
  rcases hr_1 with ⟨rfl, ha9, hb9⟩ | ⟨rfl, ha9⟩
  · refine cx_if_eq (i := 1) (j := 0) (tgt := 14) hx hb (by decide +kernel) rfl dX0_exact_4 (by decide) (fun c_2 => absurd c_2 (by decide)) (fun c_2 => ?_)
    refine lv_iload_n hx hb dX0_exact_7 rfl (lv_at hl 2 rfl) ?_
    refine vp_callSi (W.runS (As := [.int b9]) (rest := []) ⟨hx, hb, hml, hown, hts⟩ (m_isLine l D b9) (va_cwS 1 hts (gw_S wm_91 wm_92 wm_12 wm_93) rfl rfl rfl (by decide +kernel) ⟨Nat.le_of_ble_eq_true rfl, Nat.le_of_ble_eq_true rfl⟩) ⟨cro_blind, fun U hU hW => ⟨rfl, cro_at (hP.sub (ws' := []) [] rfl) (hK.sub (tys' := []) [] rfl) hTb hS hU hW⟩⟩ rfl rfl hl.1 rfl (lv_room (Nat.le_of_ble_eq_true rfl)) dX0_exact_8 ⟨Nat.le_of_ble_eq_true rfl, Nat.le_of_ble_eq_true rfl⟩) (fun r_3 hr_3 => ?_)
    rcases hr_3 with ⟨rfl, ha9, hb9⟩ | ⟨rfl, ha9⟩
    · refine cx_if_ne (i := 1) (j := 0) (tgt := 24) hx hb (by decide +kernel) rfl dX0_exact_11 (by decide) (fun c_4 => ?_) (fun c_4 => absurd c_4 (by decide))
      obtain ⟨a8, hla, hea⟩ := cx_ofN (x := a9) (n := 8) (by omega) (by omega) (by decide)
      obtain ⟨b8, hlb, heb⟩ := cx_ofN (x := b9) (n := 8) (by omega) (by omega) (by decide)
      have e_5 : a9 = nI a8 := hea
      rw [e_5] at hl
      have e_6 : b9 = nI b8 := heb
      rw [e_6] at hl
      refine lv_aload_n hx hb dX0_exact_24 rfl (lv_at hl 0 rfl) ?_
      refine lv_iload_n hx hb dX0_exact_25 rfl (lv_at hl 1 rfl) ?_
      have hFc := va_free (wc := cw x cd f0 f1 f2 f3 g) hD hS hA [0, 1, 2, 3, 4, 5] rfl
      refine va_callv (va_runV (As := [.int (nI a8)]) (rest := []) ⟨hx, hb, hml, hown, hts⟩ (m_forwardDown l D x cd f0 f1 f2 f3 g a8 (by omega) _) (cwV 1 hts (gw_V wm_50 wm_52 wm_0 wm_12 wm_53) rfl rfl rfl (by decide +kernel) ⟨Nat.le_of_ble_eq_true rfl, Nat.le_of_ble_eq_true rfl⟩) ⟨crw_blind, va_recv hK hP (ci := 0) (q0 := 0) rfl rfl, fun U hU hW => ⟨rfl, crw_at hP hK hD hTb hS hFc hU hW⟩⟩ rfl rfl hl.1 rfl (lv_room (Nat.le_of_ble_eq_true rfl)) dX0_exact_26 ⟨Nat.le_of_ble_eq_true rfl, Nat.le_of_ble_eq_true rfl⟩) hS (fun q _ h => hFc q h) hFc (fun u9 t H1 locs ht hvm hw_8 hB hz1 hk1 hS => ?_)
      obtain ⟨g_9, rfl⟩ : ∃ z, z = u9 := ⟨_, rfl⟩
      obtain ⟨hP1, hK1, hD1⟩ := hB
      rw [ht] at hP1
      have hP : va_P D vwCl (cw x cd f0 f1 f2 f3 g_9) H1 := hP1
      have hD : va_D A (cw x cd f0 f1 f2 f3 g_9) := hD1.weaken (fun _ _ _ h => hFc _ h)
      try dsimp only at hw_8
      clear hFc hP1 hD1 hK1 hk1 hz1 ht hvm
      generalize H1 = H at hP hS ⊢
      refine lv_aload_n hx hb dX0_exact_29 rfl (lv_at hl 0 rfl) ?_
      refine lv_iload_n hx hb dX0_exact_30 rfl (lv_at hl 1 rfl) ?_
      refine lv_iload_n hx hb dX0_exact_31 rfl (lv_at hl 2 rfl) ?_
      refine vp_callSi (W.runV (As := [.int (nI a8), .int (nI b8)]) (rest := []) ⟨hx, hb, hml, hown, hts⟩ (m_forwardAcross l D x cd f0 f1 f2 f3 g_9 a8 b8 (by omega) (by omega)) (cwV 2 hts (gw_V wm_65 wm_67 wm_1 wm_12 wm_68) rfl rfl rfl (by decide +kernel) ⟨Nat.le_of_ble_eq_true rfl, Nat.le_of_ble_eq_true rfl⟩) ⟨cro_blind, va_recv hK hP (ci := 0) (q0 := 0) rfl rfl, fun U hU hW => ⟨rfl, cro_at hP hK hTb hS hU hW⟩⟩ rfl rfl hl.1 rfl (lv_room (Nat.le_of_ble_eq_true rfl)) dX0_exact_32 ⟨Nat.le_of_ble_eq_true rfl, Nat.le_of_ble_eq_true rfl⟩) (fun r_10 hr_10 => ?_)
      rw [show fE (fun a9 b9 => g_9 (a9 * 8 + b9)) a8 b8 = fE (fP f2) a8 b8 from fE_congr (fun b hb9 => hw_8 b hb9)] at hr_10
      rw [hr_10]
      refine W.widen (k := 1) (n := 6) (Nat.zero_le _) (Nat.zero_le _) (vx_ret ?_)
      exact W.iret (v := fE (fP f2) a8 b8) hx hb hr (fun t ht hW => ⟨⟨fE (fP f2) a8 b8, g_9, rfl, ⟨by omega, by rw [hea, heb, cx_toNat (by omega), cx_toNat (by omega)]⟩, by rw [ht]; exact hP, va_K.moved hW.alike hK, hD⟩, hS.F ht⟩) hS.2.2 dX0_exact_35
    · refine cx_if_ne (i := 0) (j := 0) (tgt := 24) hx hb (by decide +kernel) rfl dX0_exact_11 (by decide) (fun c_11 => absurd c_11 (by decide)) (fun c_11 => ?_)
      obtain ⟨sa9, hstr⟩ := hXstr.1
      exact vx_throwS (own := RX0) (cls := "java/lang/IndexOutOfBoundsException") (names := ["java/lang/RuntimeException", "java/lang/Exception"]) hx hb hl9 hown (by decide +kernel) (by decide +kernel) (hts _ wm_129) (hts _ wm_17) hstr (vx_hat (L := vx_atS RX0 34 "java/lang/IndexOutOfBoundsException" ["java/lang/RuntimeException", "java/lang/Exception"]) (B := [.castable "java/lang/IndexOutOfBoundsException" "java/lang/IndexOutOfBoundsException", .declares ⟨"java/lang/RuntimeException", "<init>", "(Ljava/lang/String;)V"⟩, .declares ⟨"java/lang/Exception", "<init>", "(Ljava/lang/String;)V"⟩, .declares ⟨"java/lang/Throwable", "<init>", "(Ljava/lang/String;)V"⟩]) (fun w hw => hts w (hat_i w hw)) hatB_i (vx_c (va_Nw.use rfl hXc_i) (vx_c (va_Nw.use rfl hXd1) (vx_c (va_Nw.use rfl hXd2) (vx_c (va_Nw.use rfl hXd3) (vx_n)))))) hatG_i hXU hXN hS (hl.1.trans hml.symm) dX0_exact_14 dX0_exact_17 dX0_exact_18 dX0_exact_20 dX0_exact_23 (fun x9 h9 => (htab x9 h9).elim) (Nat.le_of_ble_eq_true rfl) (Nat.le_of_ble_eq_true rfl) (Nat.le_of_ble_eq_true rfl) (Nat.le_of_ble_eq_true rfl) hlocks (fun t ha hsz hk => ⟨(), trivial, ⟨rfl, by omega⟩, hsz, fun q h1 _ => hk q h1⟩) hS.2.2 (Nat.le_of_ble_eq_true rfl) (Nat.le_of_ble_eq_true rfl)
  · refine cx_if_eq (i := 0) (j := 0) (tgt := 14) hx hb (by decide +kernel) rfl dX0_exact_4 (by decide) (fun c_12 => ?_) (fun c_12 => absurd c_12 (by decide))
    obtain ⟨sa9, hstr⟩ := hXstr.1
    exact vx_throwS (own := RX0) (cls := "java/lang/IndexOutOfBoundsException") (names := ["java/lang/RuntimeException", "java/lang/Exception"]) hx hb hl9 hown (by decide +kernel) (by decide +kernel) (hts _ wm_129) (hts _ wm_17) hstr (vx_hat (L := vx_atS RX0 34 "java/lang/IndexOutOfBoundsException" ["java/lang/RuntimeException", "java/lang/Exception"]) (B := [.castable "java/lang/IndexOutOfBoundsException" "java/lang/IndexOutOfBoundsException", .declares ⟨"java/lang/RuntimeException", "<init>", "(Ljava/lang/String;)V"⟩, .declares ⟨"java/lang/Exception", "<init>", "(Ljava/lang/String;)V"⟩, .declares ⟨"java/lang/Throwable", "<init>", "(Ljava/lang/String;)V"⟩]) (fun w hw => hts w (hat_i w hw)) hatB_i (vx_c (va_Nw.use rfl hXc_i) (vx_c (va_Nw.use rfl hXd1) (vx_c (va_Nw.use rfl hXd2) (vx_c (va_Nw.use rfl hXd3) (vx_n)))))) hatG_i hXU hXN hS (hl.1.trans hml.symm) dX0_exact_14 dX0_exact_17 dX0_exact_18 dX0_exact_20 dX0_exact_23 (fun x9 h9 => (htab x9 h9).elim) (Nat.le_of_ble_eq_true rfl) (Nat.le_of_ble_eq_true rfl) (Nat.le_of_ble_eq_true rfl) (Nat.le_of_ble_eq_true rfl) hlocks (fun t ha hsz hk => ⟨(), trivial, ⟨rfl, by omega⟩, hsz, fun q h1 _ => hk q h1⟩) hS.2.2 (Nat.le_of_ble_eq_true rfl) (Nat.le_of_ble_eq_true rfl)
set_option maxHeartbeats 4000000 in
set_option maxRecDepth 100000 in
/-- wave -/
theorem m_wave (l : Launch) (hl9 : l.stackTraces = false) (D : va_G) (x : Nat → Nat) (cd : Nat → ClassId) (f0 f1 f2 f3 : Nat → Int32) (g : Nat → Int64) (q u8 x8 : Int32) : vx_Met l yX0_wave wsX0_wave ({ frames := 6, cells := 1, slots := 6, locals := 82 } : Room) (va_Pc [.ref (x 0), .int q, .int u8, .int x8] (cro D (cw x cd f0 f1 f2 f3 g) (cty cd))) (va_Qi (fun (r : Int32) (_ : Unit) => (szOk q ∧ (0 ≤ u8.toInt ∧ u8.toInt < q.toInt) ∧ (0 ≤ x8.toInt ∧ x8.toInt < q.toInt)) ∧ r = wvN (8 / q.toInt.toNat) u8.toInt.toNat x8.toInt.toNat) (fun (_ : Unit) (_ : State) => True) (fun _ => False)) (vx_X (fun (_ : Unit) => True) (fun (E : String) (_ : Unit) (_ : State) => (E = "java/lang/IllegalArgumentException" ∧ ¬ (szOk q ∧ (0 ≤ u8.toInt ∧ u8.toInt < q.toInt) ∧ (0 ≤ x8.toInt ∧ x8.toInt < q.toInt)))) (fun _ => False)) 1 6 (fun _ => False) := by
  refine vx_ofW (cc := cX0_wave) (maxL := 5) (ret := some .int) (by decide) rfl ?_
  intro p e s m args below meth c s₁ B hml htab hv
  obtain ⟨rfl, hP, hK, hTb⟩ := hv
  have hx := B.exec
  have hb := B.bytes
  have hr := B.returns
  have hts : ∀ w ∈ wA, w.before _ s = true := fun w h => atoms_spec (ws := wsX0_wave) B.pre w (List.mem_cons_of_mem _ h)
  have hown : s.vm.findClass RX0 = some m.cls := findClass_of_methodNamed B.named
  have hlocks := B.notSynchronized
  have hS : va_S (fun _ => False) s.heap s.heap [] := va_S.rf
  obtain ⟨⟨t0, hZ0, hT0⟩, ⟨t1, hZ1, hT1⟩, ⟨t2, hZ2, hT2⟩, hXU, hXN, ⟨hXc_i, hXc_a, hXd1, hXd2, hXd3⟩, hXstr, -⟩ := id hTb
  have hl := lv_entry ([.ref (x 0), .int q, .int u8, .int x8]) (n := 5) (Nat.le_of_ble_eq_true rfl)
  rw [lg_entry_eq]
  generalize (lg_sl ([.ref (x 0), .int q, .int u8, .int x8]) ++ List.replicate (5 - (lg_sl ([.ref (x 0), .int q, .int u8, .int x8])).length) Slot.unset).toArray = ls at hl ⊢
  have hl : lv_has ls 5 [(0, .ref (x 0)), (1, .int q), (2, .int u8), (3, .int x8)] := hl
  refine lv_iload_n hx hb dX0_wave_0 rfl (lv_at hl 1 rfl) ?_
  refine vp_callSi (W.runS (As := [.int q]) (rest := []) ⟨hx, hb, hml, hown, hts⟩ (m_spreadOf l D q) (va_cwS 1 hts (gw_S wm_246 wm_247 wm_12 wm_248) rfl rfl rfl (by decide +kernel) ⟨Nat.le_of_ble_eq_true rfl, Nat.le_of_ble_eq_true rfl⟩) ⟨cro_blind, fun U hU hW => ⟨rfl, cro_at (hP.sub (ws' := []) [] rfl) (hK.sub (tys' := []) [] rfl) hTb hS hU hW⟩⟩ rfl rfl hl.1 rfl (lv_room (Nat.le_of_ble_eq_true rfl)) dX0_wave_1 ⟨Nat.le_of_ble_eq_true rfl, Nat.le_of_ble_eq_true rfl⟩) (fun r_1 hr_1 => ?_)
  rcases hr_1 with ⟨nn, sp, hsz9, rfl⟩ | ⟨rfl, hno9⟩
  · obtain ⟨hbn, hbs, hbp, hq1, hq2, hq3⟩ := isSz_facts hsz9
    obtain ⟨heq9, -⟩ := hsz9
    have e_2 : q = nI nn := heq9
    rw [e_2] at hl
    refine lv_istore (lv' := [(4, .int (nI sp)), (0, .ref (x 0)), (1, .int (nI nn)), (2, .int u8), (3, .int x8)]) hx hb dX0_wave_4 hl (by decide) rfl (fun ls hl => ?_)
    refine lv_iload hx hb dX0_wave_6 (lv_at hl 0 rfl) ?_
    refine cx_if_eq (i := ((sp : Nat) : Int)) (j := 0) (tgt := 29) hx hb (nI_toInt (by omega)) rfl dX0_wave_8 (by decide) (fun c_3 => ?_) (fun c_3 => ?_)
    · obtain ⟨sa9, hstr⟩ := hXstr.2.2.2.2.2.2.2.2
      exact vx_throwS (own := RX0) (cls := "java/lang/IllegalArgumentException") (names := ["java/lang/RuntimeException", "java/lang/Exception"]) hx hb hl9 hown (by decide +kernel) (by decide +kernel) (hts _ wm_196) (hts _ wm_18) hstr (vx_hat (L := vx_atS RX0 41 "java/lang/IllegalArgumentException" ["java/lang/RuntimeException", "java/lang/Exception"]) (B := [.castable "java/lang/IllegalArgumentException" "java/lang/IllegalArgumentException", .declares ⟨"java/lang/RuntimeException", "<init>", "(Ljava/lang/String;)V"⟩, .declares ⟨"java/lang/Exception", "<init>", "(Ljava/lang/String;)V"⟩, .declares ⟨"java/lang/Throwable", "<init>", "(Ljava/lang/String;)V"⟩]) (fun w hw => hts w (hat_a w hw)) hatB_a (vx_c (va_Nw.use rfl hXc_a) (vx_c (va_Nw.use rfl hXd1) (vx_c (va_Nw.use rfl hXd2) (vx_c (va_Nw.use rfl hXd3) (vx_n)))))) hatG_a hXU hXN hS (hl.1.trans hml.symm) dX0_wave_29 dX0_wave_32 dX0_wave_33 dX0_wave_35 dX0_wave_38 (fun x9 h9 => (htab x9 h9).elim) (Nat.le_of_ble_eq_true rfl) (Nat.le_of_ble_eq_true rfl) (Nat.le_of_ble_eq_true rfl) (Nat.le_of_ble_eq_true rfl) hlocks (fun t ha hsz hk => ⟨(), trivial, ⟨rfl, by unfold szOk; omega⟩, hsz, fun q h1 _ => hk q h1⟩) hS.2.2 (Nat.le_of_ble_eq_true rfl) (Nat.le_of_ble_eq_true rfl)
    · refine lv_iload_n hx hb dX0_wave_11 rfl (lv_at hl 3 rfl) ?_
      refine cx_if_lt (i := u8.toInt) (j := 0) (tgt := 29) hx hb rfl rfl dX0_wave_12 (by decide) (fun c_4 => ?_) (fun c_4 => ?_)
      · obtain ⟨sa9, hstr⟩ := hXstr.2.2.2.2.2.2.2.2
        exact vx_throwS (own := RX0) (cls := "java/lang/IllegalArgumentException") (names := ["java/lang/RuntimeException", "java/lang/Exception"]) hx hb hl9 hown (by decide +kernel) (by decide +kernel) (hts _ wm_196) (hts _ wm_18) hstr (vx_hat (L := vx_atS RX0 41 "java/lang/IllegalArgumentException" ["java/lang/RuntimeException", "java/lang/Exception"]) (B := [.castable "java/lang/IllegalArgumentException" "java/lang/IllegalArgumentException", .declares ⟨"java/lang/RuntimeException", "<init>", "(Ljava/lang/String;)V"⟩, .declares ⟨"java/lang/Exception", "<init>", "(Ljava/lang/String;)V"⟩, .declares ⟨"java/lang/Throwable", "<init>", "(Ljava/lang/String;)V"⟩]) (fun w hw => hts w (hat_a w hw)) hatB_a (vx_c (va_Nw.use rfl hXc_a) (vx_c (va_Nw.use rfl hXd1) (vx_c (va_Nw.use rfl hXd2) (vx_c (va_Nw.use rfl hXd3) (vx_n)))))) hatG_a hXU hXN hS (hl.1.trans hml.symm) dX0_wave_29 dX0_wave_32 dX0_wave_33 dX0_wave_35 dX0_wave_38 (fun x9 h9 => (htab x9 h9).elim) (Nat.le_of_ble_eq_true rfl) (Nat.le_of_ble_eq_true rfl) (Nat.le_of_ble_eq_true rfl) (Nat.le_of_ble_eq_true rfl) hlocks (fun t ha hsz hk => ⟨(), trivial, ⟨rfl, by unfold szOk; omega⟩, hsz, fun q h1 _ => hk q h1⟩) hS.2.2 (Nat.le_of_ble_eq_true rfl) (Nat.le_of_ble_eq_true rfl)
      · refine lv_iload_n hx hb dX0_wave_15 rfl (lv_at hl 3 rfl) ?_
        refine lv_iload_n hx hb dX0_wave_16 rfl (lv_at hl 2 rfl) ?_
        refine cx_icmp_ge (i := u8.toInt) (j := ((nn : Nat) : Int)) (tgt := 29) hx hb rfl (nI_toInt (by omega)) dX0_wave_17 (by decide) (fun c_5 => ?_) (fun c_5 => ?_)
        · obtain ⟨sa9, hstr⟩ := hXstr.2.2.2.2.2.2.2.2
          exact vx_throwS (own := RX0) (cls := "java/lang/IllegalArgumentException") (names := ["java/lang/RuntimeException", "java/lang/Exception"]) hx hb hl9 hown (by decide +kernel) (by decide +kernel) (hts _ wm_196) (hts _ wm_18) hstr (vx_hat (L := vx_atS RX0 41 "java/lang/IllegalArgumentException" ["java/lang/RuntimeException", "java/lang/Exception"]) (B := [.castable "java/lang/IllegalArgumentException" "java/lang/IllegalArgumentException", .declares ⟨"java/lang/RuntimeException", "<init>", "(Ljava/lang/String;)V"⟩, .declares ⟨"java/lang/Exception", "<init>", "(Ljava/lang/String;)V"⟩, .declares ⟨"java/lang/Throwable", "<init>", "(Ljava/lang/String;)V"⟩]) (fun w hw => hts w (hat_a w hw)) hatB_a (vx_c (va_Nw.use rfl hXc_a) (vx_c (va_Nw.use rfl hXd1) (vx_c (va_Nw.use rfl hXd2) (vx_c (va_Nw.use rfl hXd3) (vx_n)))))) hatG_a hXU hXN hS (hl.1.trans hml.symm) dX0_wave_29 dX0_wave_32 dX0_wave_33 dX0_wave_35 dX0_wave_38 (fun x9 h9 => (htab x9 h9).elim) (Nat.le_of_ble_eq_true rfl) (Nat.le_of_ble_eq_true rfl) (Nat.le_of_ble_eq_true rfl) (Nat.le_of_ble_eq_true rfl) hlocks (fun t ha hsz hk => ⟨(), trivial, ⟨rfl, by unfold szOk; omega⟩, hsz, fun q h1 _ => hk q h1⟩) hS.2.2 (Nat.le_of_ble_eq_true rfl) (Nat.le_of_ble_eq_true rfl)
        · refine lv_iload_n hx hb dX0_wave_20 rfl (lv_at hl 4 rfl) ?_
          refine cx_if_lt (i := x8.toInt) (j := 0) (tgt := 29) hx hb rfl rfl dX0_wave_21 (by decide) (fun c_6 => ?_) (fun c_6 => ?_)
          · obtain ⟨sa9, hstr⟩ := hXstr.2.2.2.2.2.2.2.2
            exact vx_throwS (own := RX0) (cls := "java/lang/IllegalArgumentException") (names := ["java/lang/RuntimeException", "java/lang/Exception"]) hx hb hl9 hown (by decide +kernel) (by decide +kernel) (hts _ wm_196) (hts _ wm_18) hstr (vx_hat (L := vx_atS RX0 41 "java/lang/IllegalArgumentException" ["java/lang/RuntimeException", "java/lang/Exception"]) (B := [.castable "java/lang/IllegalArgumentException" "java/lang/IllegalArgumentException", .declares ⟨"java/lang/RuntimeException", "<init>", "(Ljava/lang/String;)V"⟩, .declares ⟨"java/lang/Exception", "<init>", "(Ljava/lang/String;)V"⟩, .declares ⟨"java/lang/Throwable", "<init>", "(Ljava/lang/String;)V"⟩]) (fun w hw => hts w (hat_a w hw)) hatB_a (vx_c (va_Nw.use rfl hXc_a) (vx_c (va_Nw.use rfl hXd1) (vx_c (va_Nw.use rfl hXd2) (vx_c (va_Nw.use rfl hXd3) (vx_n)))))) hatG_a hXU hXN hS (hl.1.trans hml.symm) dX0_wave_29 dX0_wave_32 dX0_wave_33 dX0_wave_35 dX0_wave_38 (fun x9 h9 => (htab x9 h9).elim) (Nat.le_of_ble_eq_true rfl) (Nat.le_of_ble_eq_true rfl) (Nat.le_of_ble_eq_true rfl) (Nat.le_of_ble_eq_true rfl) hlocks (fun t ha hsz hk => ⟨(), trivial, ⟨rfl, by unfold szOk; omega⟩, hsz, fun q h1 _ => hk q h1⟩) hS.2.2 (Nat.le_of_ble_eq_true rfl) (Nat.le_of_ble_eq_true rfl)
          · refine lv_iload_n hx hb dX0_wave_24 rfl (lv_at hl 4 rfl) ?_
            refine lv_iload_n hx hb dX0_wave_25 rfl (lv_at hl 2 rfl) ?_
            refine cx_icmp_lt (i := x8.toInt) (j := ((nn : Nat) : Int)) (tgt := 39) hx hb rfl (nI_toInt (by omega)) dX0_wave_26 (by decide) (fun c_7 => ?_) (fun c_7 => ?_)
            · obtain ⟨uu, hlu, heu⟩ := cx_ofN (x := u8) (n := 8) (by omega) (by omega) (by decide)
              obtain ⟨xx, hlx, hex⟩ := cx_ofN (x := x8) (n := 8) (by omega) (by omega) (by decide)
              have e_8 : u8 = nI uu := heu
              rw [e_8] at hl
              have e_9 : x8 = nI xx := hex
              rw [e_9] at hl
              refine lv_iload hx hb dX0_wave_39 (lv_at hl 0 rfl) ?_
              refine lv_iload_n hx hb dX0_wave_41 rfl (lv_at hl 3 rfl) ?_
              refine lv_iload_n hx hb dX0_wave_42 rfl (lv_at hl 4 rfl) ?_
              refine vp_callSi (W.runS (As := [.int (nI sp), .int (nI uu), .int (nI xx)]) (rest := []) ⟨hx, hb, hml, hown, hts⟩ (m_waveAt l D sp uu xx (by omega) (by omega) (by omega)) (va_cwS 3 hts (gw_S wm_54 wm_55 wm_12 wm_56) rfl rfl rfl (by decide +kernel) ⟨Nat.le_of_ble_eq_true rfl, Nat.le_of_ble_eq_true rfl⟩) ⟨cro_blind, fun U hU hW => ⟨rfl, cro_at (hP.sub (ws' := []) [] rfl) (hK.sub (tys' := []) [] rfl) hTb hS hU hW⟩⟩ rfl rfl hl.1 rfl (lv_room (Nat.le_of_ble_eq_true rfl)) dX0_wave_43 ⟨Nat.le_of_ble_eq_true rfl, Nat.le_of_ble_eq_true rfl⟩) (fun r_10 hr_10 => ?_)
              rw [hr_10]
              refine W.widen (k := 1) (n := 6) (Nat.zero_le _) (Nat.zero_le _) (vx_ret ?_)
              exact W.iret (v := wvN sp uu xx) hx hb hr (fun t ht hW => ⟨⟨wvN sp uu xx, (), rfl, ⟨⟨hq3, by omega, by omega⟩, by rw [hq1, hq2, heu, hex, cx_toNat (by omega), cx_toNat (by omega)]⟩, trivial⟩, hS.F ht⟩) hS.2.2 dX0_wave_46
            · obtain ⟨sa9, hstr⟩ := hXstr.2.2.2.2.2.2.2.2
              exact vx_throwS (own := RX0) (cls := "java/lang/IllegalArgumentException") (names := ["java/lang/RuntimeException", "java/lang/Exception"]) hx hb hl9 hown (by decide +kernel) (by decide +kernel) (hts _ wm_196) (hts _ wm_18) hstr (vx_hat (L := vx_atS RX0 41 "java/lang/IllegalArgumentException" ["java/lang/RuntimeException", "java/lang/Exception"]) (B := [.castable "java/lang/IllegalArgumentException" "java/lang/IllegalArgumentException", .declares ⟨"java/lang/RuntimeException", "<init>", "(Ljava/lang/String;)V"⟩, .declares ⟨"java/lang/Exception", "<init>", "(Ljava/lang/String;)V"⟩, .declares ⟨"java/lang/Throwable", "<init>", "(Ljava/lang/String;)V"⟩]) (fun w hw => hts w (hat_a w hw)) hatB_a (vx_c (va_Nw.use rfl hXc_a) (vx_c (va_Nw.use rfl hXd1) (vx_c (va_Nw.use rfl hXd2) (vx_c (va_Nw.use rfl hXd3) (vx_n)))))) hatG_a hXU hXN hS (hl.1.trans hml.symm) dX0_wave_29 dX0_wave_32 dX0_wave_33 dX0_wave_35 dX0_wave_38 (fun x9 h9 => (htab x9 h9).elim) (Nat.le_of_ble_eq_true rfl) (Nat.le_of_ble_eq_true rfl) (Nat.le_of_ble_eq_true rfl) (Nat.le_of_ble_eq_true rfl) hlocks (fun t ha hsz hk => ⟨(), trivial, ⟨rfl, by unfold szOk; omega⟩, hsz, fun q h1 _ => hk q h1⟩) hS.2.2 (Nat.le_of_ble_eq_true rfl) (Nat.le_of_ble_eq_true rfl)
  · unfold noSz at hno9
    refine lv_istore (lv' := [(4, .int (0 : Int32)), (0, .ref (x 0)), (1, .int q), (2, .int u8), (3, .int x8)]) hx hb dX0_wave_4 hl (by decide) rfl (fun ls hl => ?_)
    refine lv_iload hx hb dX0_wave_6 (lv_at hl 0 rfl) ?_
    refine cx_if_eq (i := 0) (j := 0) (tgt := 29) hx hb (by decide +kernel) rfl dX0_wave_8 (by decide) (fun c_11 => ?_) (fun c_11 => absurd c_11 (by decide))
    obtain ⟨sa9, hstr⟩ := hXstr.2.2.2.2.2.2.2.2
    exact vx_throwS (own := RX0) (cls := "java/lang/IllegalArgumentException") (names := ["java/lang/RuntimeException", "java/lang/Exception"]) hx hb hl9 hown (by decide +kernel) (by decide +kernel) (hts _ wm_196) (hts _ wm_18) hstr (vx_hat (L := vx_atS RX0 41 "java/lang/IllegalArgumentException" ["java/lang/RuntimeException", "java/lang/Exception"]) (B := [.castable "java/lang/IllegalArgumentException" "java/lang/IllegalArgumentException", .declares ⟨"java/lang/RuntimeException", "<init>", "(Ljava/lang/String;)V"⟩, .declares ⟨"java/lang/Exception", "<init>", "(Ljava/lang/String;)V"⟩, .declares ⟨"java/lang/Throwable", "<init>", "(Ljava/lang/String;)V"⟩]) (fun w hw => hts w (hat_a w hw)) hatB_a (vx_c (va_Nw.use rfl hXc_a) (vx_c (va_Nw.use rfl hXd1) (vx_c (va_Nw.use rfl hXd2) (vx_c (va_Nw.use rfl hXd3) (vx_n)))))) hatG_a hXU hXN hS (hl.1.trans hml.symm) dX0_wave_29 dX0_wave_32 dX0_wave_33 dX0_wave_35 dX0_wave_38 (fun x9 h9 => (htab x9 h9).elim) (Nat.le_of_ble_eq_true rfl) (Nat.le_of_ble_eq_true rfl) (Nat.le_of_ble_eq_true rfl) (Nat.le_of_ble_eq_true rfl) hlocks (fun t ha hsz hk => ⟨(), trivial, ⟨rfl, by unfold szOk; omega⟩, hsz, fun q h1 _ => hk q h1⟩) hS.2.2 (Nat.le_of_ble_eq_true rfl) (Nat.le_of_ble_eq_true rfl)
