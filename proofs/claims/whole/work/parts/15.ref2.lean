theorem bG1_pos (P : Nat → Nat → Int64) (y : Nat) (g : Int64) (hg : 0 ≤ g.toInt) : ∀ u, 0 ≤ (bG1 P y g u).toInt
  | 0 => hg
  | u + 1 => (maxL_most (v := P y u) (bG1_pos P y g hg u)).2
theorem bG_pos (P : Nat → Nat → Int64) (nn : Nat) : ∀ y, 0 ≤ (bG P nn y).toInt
  | 0 => show (0 : Int) ≤ (0 : Int64).toInt by decide
  | y + 1 => bG1_pos P y _ (bG_pos P nn y) nn
theorem cntI_z0 {f : Nat → Int32} {n : Nat} (h : (f n).toInt = 0) : cntI f n + 0 = cntI f (n + 1) := by
  rw [← cntI_z h]
  exact Int32.add_zero _
theorem cnt_upd {w : Nat → Int32} {k : Nat} {x : Int32} : cntI (upd w k x) k = cntI w k := cntI_congr (fun i hi => pk_un (by omega))
theorem cnt_upd_z {w : Nat → Int32} {k : Nat} {x : Int32} (h : (upd w k x k).toInt = 0) : cntI w k + 0 = cntI (upd w k x) (k + 1) := by
  rw [← cntI_z0 h, cnt_upd]
theorem cnt_upd_s {w : Nat → Int32} {k : Nat} {x : Int32} (h : (upd w k x k).toInt ≠ 0) : cntI w k + 1 = cntI (upd w k x) (k + 1) := by
  rw [← cntI_s h, cnt_upd]
theorem cx_2stL {st : Int32} (h1 : 1 ≤ st.toInt) (h2 : st.toInt ≤ 255) : ¬ (2 : Int64) * st.toInt64 = 0 := by
  intro h
  have h3 := congrArg Int64.toInt h
  have e : st.toInt64.toInt = st.toInt := Int32.toInt_toInt64 st
  rw [Int64.toInt_mul, e, show (2 : Int64).toInt = 2 from rfl, show (0 : Int64).toInt = 0 from rfl, Int.bmod_eq_of_le (by omega) (by omega)] at h3
  omega
theorem smp_i {f : Nat → Int32} {a i : Nat} : (smp f a i <<< ((8 : Int32).toInt64 &&& 63)) ||| (f (a * 8 + i)).toInt64 = smp f a (i + 1) := rfl
theorem cx_i0 : ((0 : Int32).toInt64).toInt = 0 := by decide +kernel
theorem cx_i255 : ((255 : Int32).toInt64).toInt = 255 := by decide +kernel
theorem dX1_clear_0 : decode cX1_clear 0 = .ok (.aload_n 0, 1) := by decide +kernel
theorem dX1_clear_1 : decode cX1_clear 1 = .ok (.iconst 0, 1) := by decide +kernel
theorem dX1_clear_2 : decode cX1_clear 2 = .ok (.putfield 32, 3) := by decide +kernel
theorem dX1_clear_5 : decode cX1_clear 5 = .ok (.iconst 0, 1) := by decide +kernel
theorem dX1_clear_6 : decode cX1_clear 6 = .ok (.istore_n 1, 1) := by decide +kernel
theorem dX1_clear_7 : decode cX1_clear 7 = .ok (.iload_n 1, 1) := by decide +kernel
theorem dX1_clear_8 : decode cX1_clear 8 = .ok (.bipush 64, 2) := by decide +kernel
theorem dX1_clear_10 : decode cX1_clear 10 = .ok (.if_icmp .ge 16, 3) := by decide +kernel
theorem dX1_clear_13 : decode cX1_clear 13 = .ok (.aload_n 0, 1) := by decide +kernel
theorem dX1_clear_14 : decode cX1_clear 14 = .ok (.getfield 7, 3) := by decide +kernel
theorem dX1_clear_17 : decode cX1_clear 17 = .ok (.iload_n 1, 1) := by decide +kernel
theorem dX1_clear_18 : decode cX1_clear 18 = .ok (.iconst 0, 1) := by decide +kernel
theorem dX1_clear_19 : decode cX1_clear 19 = .ok (.iastore, 1) := by decide +kernel
theorem dX1_clear_20 : decode cX1_clear 20 = .ok (.iinc 1 1, 3) := by decide +kernel
theorem dX1_clear_23 : decode cX1_clear 23 = .ok (.goto (-16), 3) := by decide +kernel
theorem dX1_clear_26 : decode cX1_clear 26 = .ok (.return_, 1) := by decide +kernel
theorem dX1_keep_0 : decode cX1_keep 0 = .ok (.aload_n 0, 1) := by decide +kernel
theorem dX1_keep_1 : decode cX1_keep 1 = .ok (.iconst 0, 1) := by decide +kernel
theorem dX1_keep_2 : decode cX1_keep 2 = .ok (.putfield 32, 3) := by decide +kernel
theorem dX1_keep_5 : decode cX1_keep 5 = .ok (.iconst 0, 1) := by decide +kernel
theorem dX1_keep_6 : decode cX1_keep 6 = .ok (.istore_n 1, 1) := by decide +kernel
theorem dX1_keep_7 : decode cX1_keep 7 = .ok (.iload_n 1, 1) := by decide +kernel
theorem dX1_keep_8 : decode cX1_keep 8 = .ok (.bipush 64, 2) := by decide +kernel
theorem dX1_keep_10 : decode cX1_keep 10 = .ok (.if_icmp .ge 21, 3) := by decide +kernel
theorem dX1_keep_13 : decode cX1_keep 13 = .ok (.aload_n 0, 1) := by decide +kernel
theorem dX1_keep_14 : decode cX1_keep 14 = .ok (.getfield 19, 3) := by decide +kernel
theorem dX1_keep_17 : decode cX1_keep 17 = .ok (.iload_n 1, 1) := by decide +kernel
theorem dX1_keep_18 : decode cX1_keep 18 = .ok (.aload_n 0, 1) := by decide +kernel
theorem dX1_keep_19 : decode cX1_keep 19 = .ok (.getfield 16, 3) := by decide +kernel
theorem dX1_keep_22 : decode cX1_keep 22 = .ok (.iload_n 1, 1) := by decide +kernel
theorem dX1_keep_23 : decode cX1_keep 23 = .ok (.iaload, 1) := by decide +kernel
theorem dX1_keep_24 : decode cX1_keep 24 = .ok (.iastore, 1) := by decide +kernel
theorem dX1_keep_25 : decode cX1_keep 25 = .ok (.iinc 1 1, 3) := by decide +kernel
theorem dX1_keep_28 : decode cX1_keep 28 = .ok (.goto (-21), 3) := by decide +kernel
theorem dX1_keep_31 : decode cX1_keep 31 = .ok (.return_, 1) := by decide +kernel
theorem dX1_put_0 : decode cX1_put 0 = .ok (.aload_n 0, 1) := by decide +kernel
theorem dX1_put_1 : decode cX1_put 1 = .ok (.iload_n 1, 1) := by decide +kernel
theorem dX1_put_2 : decode cX1_put 2 = .ok (.invokestatic 40, 3) := by decide +kernel
theorem dX1_put_5 : decode cX1_put 5 = .ok (.ifCond .ne 7, 3) := by decide +kernel
theorem dX1_put_8 : decode cX1_put 8 = .ok (.iconst 1, 1) := by decide +kernel
theorem dX1_put_9 : decode cX1_put 9 = .ok (.goto 22, 3) := by decide +kernel
theorem dX1_put_12 : decode cX1_put 12 = .ok (.iload_n 2, 1) := by decide +kernel
theorem dX1_put_13 : decode cX1_put 13 = .ok (.sipush (-32768), 3) := by decide +kernel
theorem dX1_put_16 : decode cX1_put 16 = .ok (.if_icmp .lt 10, 3) := by decide +kernel
theorem dX1_put_19 : decode cX1_put 19 = .ok (.iload_n 2, 1) := by decide +kernel
theorem dX1_put_20 : decode cX1_put 20 = .ok (.sipush 32767, 3) := by decide +kernel
theorem dX1_put_23 : decode cX1_put 23 = .ok (.if_icmp .le 7, 3) := by decide +kernel
theorem dX1_put_26 : decode cX1_put 26 = .ok (.iconst 2, 1) := by decide +kernel
theorem dX1_put_27 : decode cX1_put 27 = .ok (.goto 4, 3) := by decide +kernel
theorem dX1_put_30 : decode cX1_put 30 = .ok (.iconst 0, 1) := by decide +kernel
theorem dX1_put_31 : decode cX1_put 31 = .ok (.putfield 32, 3) := by decide +kernel
theorem dX1_put_34 : decode cX1_put 34 = .ok (.aload_n 0, 1) := by decide +kernel
theorem dX1_put_35 : decode cX1_put 35 = .ok (.getfield 32, 3) := by decide +kernel
theorem dX1_put_38 : decode cX1_put 38 = .ok (.ifCond .ne 10, 3) := by decide +kernel
theorem dX1_put_41 : decode cX1_put 41 = .ok (.aload_n 0, 1) := by decide +kernel
theorem dX1_put_42 : decode cX1_put 42 = .ok (.getfield 7, 3) := by decide +kernel
theorem dX1_put_45 : decode cX1_put 45 = .ok (.iload_n 1, 1) := by decide +kernel
theorem dX1_put_46 : decode cX1_put 46 = .ok (.iload_n 2, 1) := by decide +kernel
theorem dX1_put_47 : decode cX1_put 47 = .ok (.iastore, 1) := by decide +kernel
theorem dX1_put_48 : decode cX1_put 48 = .ok (.return_, 1) := by decide +kernel
theorem dX1_step_0 : decode cX1_step 0 = .ok (.aload_n 0, 1) := by decide +kernel
theorem dX1_step_1 : decode cX1_step 1 = .ok (.iload_n 1, 1) := by decide +kernel
theorem dX1_step_2 : decode cX1_step 2 = .ok (.invokestatic 40, 3) := by decide +kernel
theorem dX1_step_5 : decode cX1_step 5 = .ok (.ifCond .ne 7, 3) := by decide +kernel
theorem dX1_step_8 : decode cX1_step 8 = .ok (.iconst 1, 1) := by decide +kernel
theorem dX1_step_9 : decode cX1_step 9 = .ok (.goto 20, 3) := by decide +kernel
theorem dX1_step_12 : decode cX1_step 12 = .ok (.iload_n 2, 1) := by decide +kernel
theorem dX1_step_13 : decode cX1_step 13 = .ok (.iconst 1, 1) := by decide +kernel
theorem dX1_step_14 : decode cX1_step 14 = .ok (.if_icmp .lt 10, 3) := by decide +kernel
theorem dX1_step_17 : decode cX1_step 17 = .ok (.iload_n 2, 1) := by decide +kernel
theorem dX1_step_18 : decode cX1_step 18 = .ok (.sipush 255, 3) := by decide +kernel
theorem dX1_step_21 : decode cX1_step 21 = .ok (.if_icmp .le 7, 3) := by decide +kernel
theorem dX1_step_24 : decode cX1_step 24 = .ok (.iconst 2, 1) := by decide +kernel
theorem dX1_step_25 : decode cX1_step 25 = .ok (.goto 4, 3) := by decide +kernel
theorem dX1_step_28 : decode cX1_step 28 = .ok (.iconst 0, 1) := by decide +kernel
theorem dX1_step_29 : decode cX1_step 29 = .ok (.putfield 32, 3) := by decide +kernel
theorem dX1_step_32 : decode cX1_step 32 = .ok (.aload_n 0, 1) := by decide +kernel
theorem dX1_step_33 : decode cX1_step 33 = .ok (.getfield 32, 3) := by decide +kernel
theorem dX1_step_36 : decode cX1_step 36 = .ok (.ifCond .ne 10, 3) := by decide +kernel
theorem dX1_step_39 : decode cX1_step 39 = .ok (.aload_n 0, 1) := by decide +kernel
theorem dX1_step_40 : decode cX1_step 40 = .ok (.getfield 13, 3) := by decide +kernel
theorem dX1_step_43 : decode cX1_step 43 = .ok (.iload_n 1, 1) := by decide +kernel
theorem dX1_step_44 : decode cX1_step 44 = .ok (.iload_n 2, 1) := by decide +kernel
theorem dX1_step_45 : decode cX1_step 45 = .ok (.iastore, 1) := by decide +kernel
theorem dX1_step_46 : decode cX1_step 46 = .ok (.return_, 1) := by decide +kernel
theorem dX1_steps_0 : decode cX1_steps 0 = .ok (.aload_n 0, 1) := by decide +kernel
theorem dX1_steps_1 : decode cX1_steps 1 = .ok (.iload_n 1, 1) := by decide +kernel
theorem dX1_steps_2 : decode cX1_steps 2 = .ok (.iconst 1, 1) := by decide +kernel
theorem dX1_steps_3 : decode cX1_steps 3 = .ok (.if_icmp .lt 32, 3) := by decide +kernel
theorem dX1_steps_6 : decode cX1_steps 6 = .ok (.iload_n 1, 1) := by decide +kernel
theorem dX1_steps_7 : decode cX1_steps 7 = .ok (.sipush 255, 3) := by decide +kernel
theorem dX1_steps_10 : decode cX1_steps 10 = .ok (.if_icmp .gt 25, 3) := by decide +kernel
theorem dX1_steps_13 : decode cX1_steps 13 = .ok (.iload_n 2, 1) := by decide +kernel
theorem dX1_steps_14 : decode cX1_steps 14 = .ok (.ifCond .lt 21, 3) := by decide +kernel
theorem dX1_steps_17 : decode cX1_steps 17 = .ok (.iload_n 2, 1) := by decide +kernel
theorem dX1_steps_18 : decode cX1_steps 18 = .ok (.bipush 32, 2) := by decide +kernel
theorem dX1_steps_20 : decode cX1_steps 20 = .ok (.if_icmp .gt 15, 3) := by decide +kernel
theorem dX1_steps_23 : decode cX1_steps 23 = .ok (.iload_n 3, 1) := by decide +kernel
theorem dX1_steps_24 : decode cX1_steps 24 = .ok (.iconst 1, 1) := by decide +kernel
theorem dX1_steps_25 : decode cX1_steps 25 = .ok (.if_icmp .lt 10, 3) := by decide +kernel
theorem dX1_steps_28 : decode cX1_steps 28 = .ok (.iload_n 3, 1) := by decide +kernel
theorem dX1_steps_29 : decode cX1_steps 29 = .ok (.sipush 5000, 3) := by decide +kernel
theorem dX1_steps_32 : decode cX1_steps 32 = .ok (.if_icmp .le 7, 3) := by decide +kernel
theorem dX1_steps_35 : decode cX1_steps 35 = .ok (.iconst 1, 1) := by decide +kernel
theorem dX1_steps_36 : decode cX1_steps 36 = .ok (.goto 4, 3) := by decide +kernel
theorem dX1_steps_39 : decode cX1_steps 39 = .ok (.iconst 0, 1) := by decide +kernel
theorem dX1_steps_40 : decode cX1_steps 40 = .ok (.putfield 32, 3) := by decide +kernel
theorem dX1_steps_43 : decode cX1_steps 43 = .ok (.iconst 0, 1) := by decide +kernel
theorem dX1_steps_44 : decode cX1_steps 44 = .ok (.istore 4, 2) := by decide +kernel
theorem dX1_steps_46 : decode cX1_steps 46 = .ok (.iload 4, 2) := by decide +kernel
theorem dX1_steps_48 : decode cX1_steps 48 = .ok (.bipush 64, 2) := by decide +kernel
theorem dX1_steps_50 : decode cX1_steps 50 = .ok (.if_icmp .ge 78, 3) := by decide +kernel
theorem dX1_steps_53 : decode cX1_steps 53 = .ok (.aload_n 0, 1) := by decide +kernel
theorem dX1_steps_54 : decode cX1_steps 54 = .ok (.getfield 32, 3) := by decide +kernel
theorem dX1_steps_57 : decode cX1_steps 57 = .ok (.ifCond .ne 71, 3) := by decide +kernel
theorem dX1_steps_60 : decode cX1_steps 60 = .ok (.iload_n 1, 1) := by decide +kernel
theorem dX1_steps_61 : decode cX1_steps 61 = .ok (.iload_n 2, 1) := by decide +kernel
theorem dX1_steps_62 : decode cX1_steps 62 = .ok (.aload_n 0, 1) := by decide +kernel
theorem dX1_steps_63 : decode cX1_steps 63 = .ok (.getfield 22, 3) := by decide +kernel
theorem dX1_steps_66 : decode cX1_steps 66 = .ok (.iload 4, 2) := by decide +kernel
theorem dX1_steps_68 : decode cX1_steps 68 = .ok (.iaload, 1) := by decide +kernel
theorem dX1_steps_69 : decode cX1_steps 69 = .ok (.aload_n 0, 1) := by decide +kernel
theorem dX1_steps_70 : decode cX1_steps 70 = .ok (.getfield 25, 3) := by decide +kernel
theorem dX1_steps_73 : decode cX1_steps 73 = .ok (.iload 4, 2) := by decide +kernel
theorem dX1_steps_75 : decode cX1_steps 75 = .ok (.iaload, 1) := by decide +kernel
theorem dX1_steps_76 : decode cX1_steps 76 = .ok (.iadd, 1) := by decide +kernel
theorem dX1_steps_77 : decode cX1_steps 77 = .ok (.imul, 1) := by decide +kernel
theorem dX1_steps_78 : decode cX1_steps 78 = .ok (.iadd, 1) := by decide +kernel
theorem dX1_steps_79 : decode cX1_steps 79 = .ok (.iload_n 3, 1) := by decide +kernel
theorem dX1_steps_80 : decode cX1_steps 80 = .ok (.imul, 1) := by decide +kernel
theorem dX1_steps_81 : decode cX1_steps 81 = .ok (.bipush 50, 2) := by decide +kernel
theorem dX1_steps_83 : decode cX1_steps 83 = .ok (.iadd, 1) := by decide +kernel
theorem dX1_steps_84 : decode cX1_steps 84 = .ok (.bipush 100, 2) := by decide +kernel
theorem dX1_steps_86 : decode cX1_steps 86 = .ok (.idiv, 1) := by decide +kernel
theorem dX1_steps_87 : decode cX1_steps 87 = .ok (.istore 5, 2) := by decide +kernel
theorem dX1_steps_89 : decode cX1_steps 89 = .ok (.aload_n 0, 1) := by decide +kernel
theorem dX1_steps_90 : decode cX1_steps 90 = .ok (.getfield 13, 3) := by decide +kernel
theorem dX1_steps_93 : decode cX1_steps 93 = .ok (.iload 4, 2) := by decide +kernel
theorem dX1_steps_95 : decode cX1_steps 95 = .ok (.iload 5, 2) := by decide +kernel
theorem dX1_steps_97 : decode cX1_steps 97 = .ok (.iconst 1, 1) := by decide +kernel
theorem dX1_steps_98 : decode cX1_steps 98 = .ok (.if_icmp .ge 7, 3) := by decide +kernel
theorem dX1_steps_101 : decode cX1_steps 101 = .ok (.iconst 1, 1) := by decide +kernel
theorem dX1_steps_102 : decode cX1_steps 102 = .ok (.goto 19, 3) := by decide +kernel
theorem dX1_steps_105 : decode cX1_steps 105 = .ok (.iload 5, 2) := by decide +kernel
theorem dX1_steps_107 : decode cX1_steps 107 = .ok (.sipush 255, 3) := by decide +kernel
theorem dX1_steps_110 : decode cX1_steps 110 = .ok (.if_icmp .le 9, 3) := by decide +kernel
theorem dX1_steps_113 : decode cX1_steps 113 = .ok (.sipush 255, 3) := by decide +kernel
theorem dX1_steps_116 : decode cX1_steps 116 = .ok (.goto 5, 3) := by decide +kernel
theorem dX1_steps_119 : decode cX1_steps 119 = .ok (.iload 5, 2) := by decide +kernel
theorem dX1_steps_121 : decode cX1_steps 121 = .ok (.iastore, 1) := by decide +kernel
theorem dX1_steps_122 : decode cX1_steps 122 = .ok (.iinc 4 1, 3) := by decide +kernel
theorem dX1_steps_125 : decode cX1_steps 125 = .ok (.goto (-79), 3) := by decide +kernel
theorem dX1_steps_128 : decode cX1_steps 128 = .ok (.return_, 1) := by decide +kernel
theorem dX1_row_0 : decode cX1_row 0 = .ok (.aload_n 0, 1) := by decide +kernel
theorem dX1_row_1 : decode cX1_row 1 = .ok (.iload_n 1, 1) := by decide +kernel
theorem dX1_row_2 : decode cX1_row 2 = .ok (.ifCond .lt 9, 3) := by decide +kernel
theorem dX1_row_5 : decode cX1_row 5 = .ok (.iload_n 1, 1) := by decide +kernel
theorem dX1_row_6 : decode cX1_row 6 = .ok (.bipush 7, 2) := by decide +kernel
theorem dX1_row_8 : decode cX1_row 8 = .ok (.if_icmp .le 7, 3) := by decide +kernel
theorem dX1_row_11 : decode cX1_row 11 = .ok (.iconst 1, 1) := by decide +kernel
theorem dX1_row_12 : decode cX1_row 12 = .ok (.goto 4, 3) := by decide +kernel
theorem dX1_row_15 : decode cX1_row 15 = .ok (.iconst 0, 1) := by decide +kernel
theorem dX1_row_16 : decode cX1_row 16 = .ok (.putfield 32, 3) := by decide +kernel
theorem dX1_row_19 : decode cX1_row 19 = .ok (.iconst 0, 1) := by decide +kernel
theorem dX1_row_20 : decode cX1_row 20 = .ok (.istore 4, 2) := by decide +kernel
theorem dX1_row_22 : decode cX1_row 22 = .ok (.iload 4, 2) := by decide +kernel
theorem dX1_row_24 : decode cX1_row 24 = .ok (.bipush 8, 2) := by decide +kernel
theorem dX1_row_26 : decode cX1_row 26 = .ok (.if_icmp .ge 43, 3) := by decide +kernel
theorem dX1_row_29 : decode cX1_row 29 = .ok (.aload_n 0, 1) := by decide +kernel
theorem dX1_row_30 : decode cX1_row 30 = .ok (.getfield 32, 3) := by decide +kernel
theorem dX1_row_33 : decode cX1_row 33 = .ok (.ifCond .ne 36, 3) := by decide +kernel
theorem dX1_row_36 : decode cX1_row 36 = .ok (.aload_n 0, 1) := by decide +kernel
theorem dX1_row_37 : decode cX1_row 37 = .ok (.getfield 16, 3) := by decide +kernel
theorem dX1_row_40 : decode cX1_row 40 = .ok (.bipush 8, 2) := by decide +kernel
theorem dX1_row_42 : decode cX1_row 42 = .ok (.iload_n 1, 1) := by decide +kernel
theorem dX1_row_43 : decode cX1_row 43 = .ok (.imul, 1) := by decide +kernel
theorem dX1_row_44 : decode cX1_row 44 = .ok (.iload 4, 2) := by decide +kernel
theorem dX1_row_46 : decode cX1_row 46 = .ok (.iadd, 1) := by decide +kernel
theorem dX1_row_47 : decode cX1_row 47 = .ok (.lload_n 2, 1) := by decide +kernel
theorem dX1_row_48 : decode cX1_row 48 = .ok (.bipush 56, 2) := by decide +kernel
theorem dX1_row_50 : decode cX1_row 50 = .ok (.bipush 8, 2) := by decide +kernel
theorem dX1_row_52 : decode cX1_row 52 = .ok (.iload 4, 2) := by decide +kernel
theorem dX1_row_54 : decode cX1_row 54 = .ok (.imul, 1) := by decide +kernel
theorem dX1_row_55 : decode cX1_row 55 = .ok (.isub, 1) := by decide +kernel
theorem dX1_row_56 : decode cX1_row 56 = .ok (.lshr, 1) := by decide +kernel
theorem dX1_row_57 : decode cX1_row 57 = .ok (.ldc2_w 44, 3) := by decide +kernel
theorem dX1_row_60 : decode cX1_row 60 = .ok (.land, 1) := by decide +kernel
theorem dX1_row_61 : decode cX1_row 61 = .ok (.l2i, 1) := by decide +kernel
theorem dX1_row_62 : decode cX1_row 62 = .ok (.iastore, 1) := by decide +kernel
theorem dX1_row_63 : decode cX1_row 63 = .ok (.iinc 4 1, 3) := by decide +kernel
theorem dX1_row_66 : decode cX1_row 66 = .ok (.goto (-44), 3) := by decide +kernel
theorem dX1_row_69 : decode cX1_row 69 = .ok (.return_, 1) := by decide +kernel
set_option maxHeartbeats 4000000 in
set_option maxRecDepth 100000 in
/-- the reference: clear -/
theorem n_clear (l : Launch) (D : va_G) (y : Nat → Nat) (ce : Nat → ClassId) (th : Int32) (r0 r1 r2 r3 dn ac : Nat → Int32) (sm : Nat → Int64) (sz : Nat) : Met l yX1_clear wsX1_clear ({ frames := 0, cells := 0, slots := 0, locals := 0 } : Room) (va_Pc [.ref (y 0)] (crw D (mw y ce th r0 r1 r2 r3 dn ac sm) (mty ce) sz)) (va_Qv (fun (u9 : Int32 × (Nat → Int32)) => match u9 with | (t9, u) => t9 = 0 ∧ ∀ j, j < 64 → u j = 0) (fun (u9 : Int32 × (Nat → Int32)) (t : State) => match u9 with | (t9, u) => crB D (mw y ce t9 u r1 r2 r3 dn ac sm) (mty ce) (va_A (mw y ce th r0 r1 r2 r3 dn ac sm) sz) t) (va_A (mw y ce th r0 r1 r2 r3 dn ac sm) sz)) 0 0 (va_A (mw y ce th r0 r1 r2 r3 dn ac sm) sz) := by
  refine Met.ofW (cc := cX1_clear) (maxL := 2) (ret := none) (by decide) rfl ?_
  intro p e s m args below meth c s₁ B hml hv
  obtain ⟨rfl, hsz, hP, hK, hD0, hTb⟩ := hv
  have hx := B.exec
  have hb := B.bytes
  have hr := B.returns
  have hts : ∀ w ∈ wA, w.before _ s = true := fun w h => atoms_spec (ws := wsX1_clear) B.pre w (List.mem_cons_of_mem _ h)
  have hown : s.vm.findClass RX1 = some m.cls := findClass_of_methodNamed B.named
  have hlocks := B.notSynchronized
  subst hsz
  have hD := hD0.self (sz := s.heap.size)
  generalize hAe : va_A (mw y ce th r0 r1 r2 r3 dn ac sm) s.heap.size = A at hD hTb ⊢
  have hA : ∀ q : Nat, s.heap.size ≤ q → A q := fun q h => by rw [← hAe]; exact Or.inr h
  have hS : va_S A s.heap s.heap [] := va_S.rf
  have hin1 := inA1
  have hf32 := (hts _ wm_302)
  have hf7 := (hts _ wm_303)
  have hl := lv_entry ([.ref (y 0)]) (n := 2) (Nat.le_of_ble_eq_true rfl)
  rw [lg_entry_eq]
  generalize (lg_sl ([.ref (y 0)]) ++ List.replicate (2 - (lg_sl ([.ref (y 0)])).length) Slot.unset).toArray = ls at hl ⊢
  have hl : lv_has ls 2 [(0, .ref (y 0))] := hl
  refine lv_aload_n hx hb dX1_clear_0 rfl (lv_at hl 0 rfl) ?_
  refine lv_iconst (v := (0 : Int32)) hx hb dX1_clear_1 (by decide +kernel) ?_
  refine va_put (D := D) (ci := 1) (v := .int (0 : Int32)) (ty := .int) (C := RX1) (T := TX1) (N := 8) hx hb hts hin1 tyX1 tyX1_ok nmX1 hown hK hP hD hS 0 rfl rfl 0 (by decide) hf32 (fun _ h9 => h9) rfl (by decide +kernel) rfl rfl (Nat.le_of_ble_eq_true rfl) dX1_clear_2 (fun H locs hP hD hS => ?_)
  have hP : va_P D vwCl (mw y ce (0 : Int32) r0 r1 r2 r3 dn ac sm) H := hP
  have hD : va_D A (mw y ce (0 : Int32) r0 r1 r2 r3 dn ac sm) := hD
  refine lv_iconst (v := (0 : Int32)) hx hb dX1_clear_5 (by decide +kernel) ?_
  refine lv_istore_n (lv' := [(1, .int (0 : Int32)), (0, .ref (y 0))]) hx hb dX1_clear_6 rfl hl (by decide) rfl (fun ls hl => ?_)
  have L7 : ∀ (n : Nat) (i9 : Nat) (w9 : Nat → Int32) (H : Heap) (locs : List Loc) (ls : Array Slot), (64 - i9) < n → (i9 ≤ 64) → (∀ j, j < i9 → w9 j = 0) → va_P D vwCl (mw y ce (0 : Int32) w9 r1 r2 r3 dn ac sm) H → va_D A (mw y ce (0 : Int32) w9 r1 r2 r3 dn ac sm) → va_S A s.heap H locs → lv_has ls 2 [(0, .ref (y 0)), (1, .int (nI i9))] → W p l e ((headSpec wsX1_clear ({ frames := 0, cells := 0, slots := 0, locals := 0 } : Room)).room) s m (([.ref (y 0)] : List Value).toArray) below meth c H locs 0 0 (MQ below (va_Qv (fun (u9 : Int32 × (Nat → Int32)) => match u9 with | (t9, u) => t9 = 0 ∧ ∀ j, j < 64 → u j = 0) (fun (u9 : Int32 × (Nat → Int32)) (t : State) => match u9 with | (t9, u) => crB D (mw y ce t9 u r1 r2 r3 dn ac sm) (mty ce) A t) A) ([.ref (y 0)] : List Value).toArray s 0 0 A) (F0 m 7 ls []) := by
    intro n
    induction n with
    | zero =>
      intro i9 w9 H locs ls hn
      exact absurd hn (Nat.not_lt_zero _)
    | succ n ih7 =>
      intro i9 w9 H locs ls hn7 hi9 hw9 hP hD hS hl
      refine lv_iload_n hx hb dX1_clear_7 rfl (lv_at hl 1 rfl) ?_
      refine lv_bipush (v := (64 : Int32)) hx hb dX1_clear_8 (by decide +kernel) ?_
      refine cx_icmp_ge (i := ((i9 : Nat) : Int)) (j := 64) (tgt := 26) hx hb (nI_toInt (by omega)) (by decide +kernel) dX1_clear_10 (by decide) (fun c_1 => ?_) (fun c_1 => ?_)
      · exact W.vret hx hb hr (fun t ht hW => ⟨⟨((0 : Int32), w9), rfl, (by obtain rfl : i9 = 64 := (by omega); exact ⟨rfl, hw9⟩), by rw [ht]; exact hP, va_K.moved hW.alike hK, hD⟩, hS.F ht⟩) hS.2.2 dX1_clear_26
      · refine lv_aload_n hx hb dX1_clear_13 rfl (lv_at hl 0 rfl) ?_
        refine va_get (D := D) (ci := 1) (v := .ref (y 1)) (C := RX1) (T := TX1) (N := 8) hx hb hts hin1 hown hK hP 0 rfl rfl 1 (by decide) hf7 (fun _ h9 => h9) rfl dX1_clear_14 ?_
        refine lv_iload_n hx hb dX1_clear_17 rfl (lv_at hl 1 rfl) ?_
        refine lv_iconst (v := (0 : Int32)) hx hb dX1_clear_18 (by decide +kernel) ?_
        refine cx_iast hx hb hK hP hD hS 1 0 rfl rfl i9 (by omega) (by decide) dX1_clear_19 (fun H locs hP hD hS => ?_)
        have hP : va_P D vwCl (mw y ce (0 : Int32) (upd w9 i9 (0 : Int32)) r1 r2 r3 dn ac sm) H := hP
        have hD : va_D A (mw y ce (0 : Int32) (upd w9 i9 (0 : Int32)) r1 r2 r3 dn ac sm) := hD
        refine lv_iinc (v := nI (i9 + 1)) (lv' := [(1, .int (nI (i9 + 1))), (0, .ref (y 0))]) hx hb dX1_clear_20 hl (k := 1) rfl (by show nI i9 + 1 = nI (i9 + 1); exact nI_add i9 1) (by decide) rfl (fun ls hl => ?_)
        refine lv_goto (tgt := 7) hx hb dX1_clear_23 (by decide) ?_
        exact ih7 (i9 + 1) (upd w9 i9 (0 : Int32)) _ _ _ (by omega) (by omega) (upd_step (P := fun (j : Nat) (v : Int32) => v = 0) hw9 rfl) hP hD hS (lv_sub hl [1, 0] rfl)
  exact L7 _ 0 r0 _ _ _ (Nat.lt_succ_self _) (Nat.zero_le _) (fun j hj => absurd hj (Nat.not_lt_zero j)) hP hD hS (lv_sub hl [1, 0] rfl)
set_option maxHeartbeats 4000000 in
set_option maxRecDepth 100000 in
/-- the reference: keep -/
theorem n_keep (l : Launch) (D : va_G) (y : Nat → Nat) (ce : Nat → ClassId) (th : Int32) (r0 r1 r2 r3 dn ac : Nat → Int32) (sm : Nat → Int64) (sz : Nat) : Met l yX1_keep wsX1_keep ({ frames := 0, cells := 0, slots := 0, locals := 0 } : Room) (va_Pc [.ref (y 0)] (crw D (mw y ce th r0 r1 r2 r3 dn ac sm) (mty ce) sz)) (va_Qv (fun (u9 : Int32 × (Nat → Int32)) => match u9 with | (t9, u) => t9 = 0 ∧ ∀ j, j < 64 → u j = r2 j) (fun (u9 : Int32 × (Nat → Int32)) (t : State) => match u9 with | (t9, u) => crB D (mw y ce t9 r0 r1 r2 u dn ac sm) (mty ce) (va_A (mw y ce th r0 r1 r2 r3 dn ac sm) sz) t) (va_A (mw y ce th r0 r1 r2 r3 dn ac sm) sz)) 0 0 (va_A (mw y ce th r0 r1 r2 r3 dn ac sm) sz) := by
  refine Met.ofW (cc := cX1_keep) (maxL := 2) (ret := none) (by decide) rfl ?_
  intro p e s m args below meth c s₁ B hml hv
  obtain ⟨rfl, hsz, hP, hK, hD0, hTb⟩ := hv
  have hx := B.exec
  have hb := B.bytes
  have hr := B.returns
  have hts : ∀ w ∈ wA, w.before _ s = true := fun w h => atoms_spec (ws := wsX1_keep) B.pre w (List.mem_cons_of_mem _ h)
  have hown : s.vm.findClass RX1 = some m.cls := findClass_of_methodNamed B.named
  have hlocks := B.notSynchronized
  subst hsz
  have hD := hD0.self (sz := s.heap.size)
  generalize hAe : va_A (mw y ce th r0 r1 r2 r3 dn ac sm) s.heap.size = A at hD hTb ⊢
  have hA : ∀ q : Nat, s.heap.size ≤ q → A q := fun q h => by rw [← hAe]; exact Or.inr h
  have hS : va_S A s.heap s.heap [] := va_S.rf
  have hin1 := inA1
  have hf32 := (hts _ wm_302)
  have hf19 := (hts _ wm_306)
  have hf16 := (hts _ wm_305)
  have hl := lv_entry ([.ref (y 0)]) (n := 2) (Nat.le_of_ble_eq_true rfl)
  rw [lg_entry_eq]
  generalize (lg_sl ([.ref (y 0)]) ++ List.replicate (2 - (lg_sl ([.ref (y 0)])).length) Slot.unset).toArray = ls at hl ⊢
  have hl : lv_has ls 2 [(0, .ref (y 0))] := hl
  refine lv_aload_n hx hb dX1_keep_0 rfl (lv_at hl 0 rfl) ?_
  refine lv_iconst (v := (0 : Int32)) hx hb dX1_keep_1 (by decide +kernel) ?_
  refine va_put (D := D) (ci := 1) (v := .int (0 : Int32)) (ty := .int) (C := RX1) (T := TX1) (N := 8) hx hb hts hin1 tyX1 tyX1_ok nmX1 hown hK hP hD hS 0 rfl rfl 0 (by decide) hf32 (fun _ h9 => h9) rfl (by decide +kernel) rfl rfl (Nat.le_of_ble_eq_true rfl) dX1_keep_2 (fun H locs hP hD hS => ?_)
  have hP : va_P D vwCl (mw y ce (0 : Int32) r0 r1 r2 r3 dn ac sm) H := hP
  have hD : va_D A (mw y ce (0 : Int32) r0 r1 r2 r3 dn ac sm) := hD
  refine lv_iconst (v := (0 : Int32)) hx hb dX1_keep_5 (by decide +kernel) ?_
  refine lv_istore_n (lv' := [(1, .int (0 : Int32)), (0, .ref (y 0))]) hx hb dX1_keep_6 rfl hl (by decide) rfl (fun ls hl => ?_)
  have L7 : ∀ (n : Nat) (i9 : Nat) (w9 : Nat → Int32) (H : Heap) (locs : List Loc) (ls : Array Slot), (64 - i9) < n → (i9 ≤ 64) → (∀ j, j < i9 → w9 j = r2 j) → va_P D vwCl (mw y ce (0 : Int32) r0 r1 r2 w9 dn ac sm) H → va_D A (mw y ce (0 : Int32) r0 r1 r2 w9 dn ac sm) → va_S A s.heap H locs → lv_has ls 2 [(0, .ref (y 0)), (1, .int (nI i9))] → W p l e ((headSpec wsX1_keep ({ frames := 0, cells := 0, slots := 0, locals := 0 } : Room)).room) s m (([.ref (y 0)] : List Value).toArray) below meth c H locs 0 0 (MQ below (va_Qv (fun (u9 : Int32 × (Nat → Int32)) => match u9 with | (t9, u) => t9 = 0 ∧ ∀ j, j < 64 → u j = r2 j) (fun (u9 : Int32 × (Nat → Int32)) (t : State) => match u9 with | (t9, u) => crB D (mw y ce t9 r0 r1 r2 u dn ac sm) (mty ce) A t) A) ([.ref (y 0)] : List Value).toArray s 0 0 A) (F0 m 7 ls []) := by
    intro n
    induction n with
    | zero =>
      intro i9 w9 H locs ls hn
      exact absurd hn (Nat.not_lt_zero _)
    | succ n ih7 =>
      intro i9 w9 H locs ls hn7 hi9 hw9 hP hD hS hl
      refine lv_iload_n hx hb dX1_keep_7 rfl (lv_at hl 1 rfl) ?_
      refine lv_bipush (v := (64 : Int32)) hx hb dX1_keep_8 (by decide +kernel) ?_
      refine cx_icmp_ge (i := ((i9 : Nat) : Int)) (j := 64) (tgt := 31) hx hb (nI_toInt (by omega)) (by decide +kernel) dX1_keep_10 (by decide) (fun c_1 => ?_) (fun c_1 => ?_)
      · exact W.vret hx hb hr (fun t ht hW => ⟨⟨((0 : Int32), w9), rfl, (by obtain rfl : i9 = 64 := (by omega); exact ⟨rfl, hw9⟩), by rw [ht]; exact hP, va_K.moved hW.alike hK, hD⟩, hS.F ht⟩) hS.2.2 dX1_keep_31
      · refine lv_aload_n hx hb dX1_keep_13 rfl (lv_at hl 0 rfl) ?_
        refine va_get (D := D) (ci := 1) (v := .ref (y 4)) (C := RX1) (T := TX1) (N := 8) hx hb hts hin1 hown hK hP 0 rfl rfl 4 (by decide) hf19 (fun _ h9 => h9) rfl dX1_keep_14 ?_
        refine lv_iload_n hx hb dX1_keep_17 rfl (lv_at hl 1 rfl) ?_
        refine lv_aload_n hx hb dX1_keep_18 rfl (lv_at hl 0 rfl) ?_
        refine va_get (D := D) (ci := 1) (v := .ref (y 3)) (C := RX1) (T := TX1) (N := 8) hx hb hts hin1 hown hK hP 0 rfl rfl 3 (by decide) hf16 (fun _ h9 => h9) rfl dX1_keep_19 ?_
        refine lv_iload_n hx hb dX1_keep_22 rfl (lv_at hl 1 rfl) ?_
        refine cx_iald hx hb hK hP 3 2 rfl rfl i9 (by omega) (by decide) dX1_keep_23 ?_
        refine cx_iast hx hb hK hP hD hS 4 3 rfl rfl i9 (by omega) (by decide) dX1_keep_24 (fun H locs hP hD hS => ?_)
        have hP : va_P D vwCl (mw y ce (0 : Int32) r0 r1 r2 (upd w9 i9 (r2 i9)) dn ac sm) H := hP
        have hD : va_D A (mw y ce (0 : Int32) r0 r1 r2 (upd w9 i9 (r2 i9)) dn ac sm) := hD
        refine lv_iinc (v := nI (i9 + 1)) (lv' := [(1, .int (nI (i9 + 1))), (0, .ref (y 0))]) hx hb dX1_keep_25 hl (k := 1) rfl (by show nI i9 + 1 = nI (i9 + 1); exact nI_add i9 1) (by decide) rfl (fun ls hl => ?_)
        refine lv_goto (tgt := 7) hx hb dX1_keep_28 (by decide) ?_
        exact ih7 (i9 + 1) (upd w9 i9 (r2 i9)) _ _ _ (by omega) (by omega) (upd_step (P := fun (j : Nat) (v : Int32) => v = r2 j) hw9 rfl) hP hD hS (lv_sub hl [1, 0] rfl)
  exact L7 _ 0 r3 _ _ _ (Nat.lt_succ_self _) (Nat.zero_le _) (fun j hj => absurd hj (Nat.not_lt_zero j)) hP hD hS (lv_sub hl [1, 0] rfl)
set_option maxHeartbeats 4000000 in
set_option maxRecDepth 100000 in
/-- the reference: put -/
theorem n_put (l : Launch) (D : va_G) (y : Nat → Nat) (ce : Nat → ClassId) (th : Int32) (r0 r1 r2 r3 dn ac : Nat → Int32) (sm : Nat → Int64) (q v9 : Int32) (sz : Nat) : Met l yX1_put wsX1_put ({ frames := 1, cells := 0, slots := 0, locals := 20 } : Room) (va_Pc [.ref (y 0), .int q, .int v9] (crw D (mw y ce th r0 r1 r2 r3 dn ac sm) (mty ce) sz)) (va_Qv (fun (u9 : Int32 × (Nat → Int32)) => match u9 with | (t9, u) => (t9 = 0 ∧ (0 ≤ q.toInt ∧ q.toInt < 64) ∧ (-32768 ≤ v9.toInt ∧ v9.toInt ≤ 32767) ∧ u = upd r0 q.toInt.toNat v9) ∨ (t9 = 1 ∧ ¬ (0 ≤ q.toInt ∧ q.toInt < 64) ∧ u = r0) ∨ (t9 = 2 ∧ (0 ≤ q.toInt ∧ q.toInt < 64) ∧ ¬ (-32768 ≤ v9.toInt ∧ v9.toInt ≤ 32767) ∧ u = r0)) (fun (u9 : Int32 × (Nat → Int32)) (t : State) => match u9 with | (t9, u) => crB D (mw y ce t9 u r1 r2 r3 dn ac sm) (mty ce) (va_A (mw y ce th r0 r1 r2 r3 dn ac sm) sz) t) (va_A (mw y ce th r0 r1 r2 r3 dn ac sm) sz)) 0 0 (va_A (mw y ce th r0 r1 r2 r3 dn ac sm) sz) := by
  refine Met.ofW (cc := cX1_put) (maxL := 3) (ret := none) (by decide) rfl ?_
  intro p e s m args below meth c s₁ B hml hv
  obtain ⟨rfl, hsz, hP, hK, hD0, hTb⟩ := hv
  have hx := B.exec
  have hb := B.bytes
  have hr := B.returns
  have hts : ∀ w ∈ wA, w.before _ s = true := fun w h => atoms_spec (ws := wsX1_put) B.pre w (List.mem_cons_of_mem _ h)
  have hown : s.vm.findClass RX1 = some m.cls := findClass_of_methodNamed B.named
  have hlocks := B.notSynchronized
  subst hsz
  have hD := hD0.self (sz := s.heap.size)
  generalize hAe : va_A (mw y ce th r0 r1 r2 r3 dn ac sm) s.heap.size = A at hD hTb ⊢
  have hA : ∀ q : Nat, s.heap.size ≤ q → A q := fun q h => by rw [← hAe]; exact Or.inr h
  have hS : va_S A s.heap s.heap [] := va_S.rf
  have hin1 := inA1
  have hf32 := (hts _ wm_302)
  have hf7 := (hts _ wm_303)
  have hl := lv_entry ([.ref (y 0), .int q, .int v9]) (n := 3) (Nat.le_of_ble_eq_true rfl)
  rw [lg_entry_eq]
  generalize (lg_sl ([.ref (y 0), .int q, .int v9]) ++ List.replicate (3 - (lg_sl ([.ref (y 0), .int q, .int v9])).length) Slot.unset).toArray = ls at hl ⊢
  have hl : lv_has ls 3 [(0, .ref (y 0)), (1, .int q), (2, .int v9)] := hl
  refine lv_aload_n hx hb dX1_put_0 rfl (lv_at hl 0 rfl) ?_
  refine lv_iload_n hx hb dX1_put_1 rfl (lv_at hl 1 rfl) ?_
  refine vp_callSi (W.runS (As := [.int q]) (rest := [.ref (y 0)]) ⟨hx, hb, hml, hown, hts⟩ (n_isPlace l D q) (va_cwS 1 hts (gw_S wm_335 wm_336 wm_13 wm_337) rfl rfl rfl (by decide +kernel) ⟨Nat.le_of_ble_eq_true rfl, Nat.le_of_ble_eq_true rfl⟩) ⟨cro_blind, fun U hU hW => ⟨rfl, cro_at (hP.sub (ws' := []) [] rfl) (hK.sub (tys' := []) [] rfl) hTb hS hU hW⟩⟩ rfl rfl hl.1 rfl (lv_room (Nat.le_of_ble_eq_true rfl)) dX1_put_2 ⟨Nat.le_of_ble_eq_true rfl, Nat.le_of_ble_eq_true rfl⟩) (fun r_1 hr_1 => ?_)
  rcases hr_1 with ⟨rfl, ha9, hb9⟩ | ⟨rfl, ha9⟩
  · refine cx_if_ne (i := 1) (j := 0) (tgt := 12) hx hb (by decide +kernel) rfl dX1_put_5 (by decide) (fun c_2 => ?_) (fun c_2 => absurd c_2 (by decide))
    refine lv_iload_n hx hb dX1_put_12 rfl (lv_at hl 2 rfl) ?_
    refine lv_sipush (v := (-32768 : Int32)) hx hb dX1_put_13 (by decide +kernel) ?_
    refine cx_icmp_lt (i := v9.toInt) (j := (-32768)) (tgt := 26) hx hb rfl (by decide +kernel) dX1_put_16 (by decide) (fun c_3 => ?_) (fun c_3 => ?_)
    · refine lv_iconst (v := (2 : Int32)) hx hb dX1_put_26 (by decide +kernel) ?_
      refine lv_goto (tgt := 31) hx hb dX1_put_27 (by decide) ?_
      refine va_put (D := D) (ci := 1) (v := .int (2 : Int32)) (ty := .int) (C := RX1) (T := TX1) (N := 8) hx hb hts hin1 tyX1 tyX1_ok nmX1 hown hK hP hD hS 0 rfl rfl 0 (by decide) hf32 (fun _ h9 => h9) rfl (by decide +kernel) rfl rfl (Nat.le_of_ble_eq_true rfl) dX1_put_31 (fun H locs hP hD hS => ?_)
      have hP : va_P D vwCl (mw y ce (2 : Int32) r0 r1 r2 r3 dn ac sm) H := hP
      have hD : va_D A (mw y ce (2 : Int32) r0 r1 r2 r3 dn ac sm) := hD
      refine lv_aload_n hx hb dX1_put_34 rfl (lv_at hl 0 rfl) ?_
      refine va_get (D := D) (ci := 1) (v := .int (2 : Int32)) (C := RX1) (T := TX1) (N := 8) hx hb hts hin1 hown hK hP 0 rfl rfl 0 (by decide) hf32 (fun _ h9 => h9) rfl dX1_put_35 ?_
      refine cx_if_ne (i := 2) (j := 0) (tgt := 48) hx hb (by decide +kernel) rfl dX1_put_38 (by decide) (fun c_4 => ?_) (fun c_4 => absurd c_4 (by decide))
      exact W.vret hx hb hr (fun t ht hW => ⟨⟨((2 : Int32), r0), rfl, Or.inr (Or.inr ⟨rfl, by omega, by omega, rfl⟩), by rw [ht]; exact hP, va_K.moved hW.alike hK, hD⟩, hS.F ht⟩) hS.2.2 dX1_put_48
    · refine lv_iload_n hx hb dX1_put_19 rfl (lv_at hl 2 rfl) ?_
      refine lv_sipush (v := (32767 : Int32)) hx hb dX1_put_20 (by decide +kernel) ?_
      refine cx_icmp_le (i := v9.toInt) (j := 32767) (tgt := 30) hx hb rfl (by decide +kernel) dX1_put_23 (by decide) (fun c_5 => ?_) (fun c_5 => ?_)
      · refine lv_iconst (v := (0 : Int32)) hx hb dX1_put_30 (by decide +kernel) ?_
        refine va_put (D := D) (ci := 1) (v := .int (0 : Int32)) (ty := .int) (C := RX1) (T := TX1) (N := 8) hx hb hts hin1 tyX1 tyX1_ok nmX1 hown hK hP hD hS 0 rfl rfl 0 (by decide) hf32 (fun _ h9 => h9) rfl (by decide +kernel) rfl rfl (Nat.le_of_ble_eq_true rfl) dX1_put_31 (fun H locs hP hD hS => ?_)
        have hP : va_P D vwCl (mw y ce (0 : Int32) r0 r1 r2 r3 dn ac sm) H := hP
        have hD : va_D A (mw y ce (0 : Int32) r0 r1 r2 r3 dn ac sm) := hD
        refine lv_aload_n hx hb dX1_put_34 rfl (lv_at hl 0 rfl) ?_
        refine va_get (D := D) (ci := 1) (v := .int (0 : Int32)) (C := RX1) (T := TX1) (N := 8) hx hb hts hin1 hown hK hP 0 rfl rfl 0 (by decide) hf32 (fun _ h9 => h9) rfl dX1_put_35 ?_
        refine cx_if_ne (i := 0) (j := 0) (tgt := 48) hx hb (by decide +kernel) rfl dX1_put_38 (by decide) (fun c_6 => absurd c_6 (by decide)) (fun c_6 => ?_)
        obtain ⟨j9, hj9, hej⟩ := cx_ofN (x := q) (n := 64) (by omega) (by omega) (by decide)
        have e_7 : q = nI j9 := hej
        rw [e_7] at hl
        refine lv_aload_n hx hb dX1_put_41 rfl (lv_at hl 0 rfl) ?_
        refine va_get (D := D) (ci := 1) (v := .ref (y 1)) (C := RX1) (T := TX1) (N := 8) hx hb hts hin1 hown hK hP 0 rfl rfl 1 (by decide) hf7 (fun _ h9 => h9) rfl dX1_put_42 ?_
        refine lv_iload_n hx hb dX1_put_45 rfl (lv_at hl 1 rfl) ?_
        refine lv_iload_n hx hb dX1_put_46 rfl (lv_at hl 2 rfl) ?_
        refine cx_iast hx hb hK hP hD hS 1 0 rfl rfl j9 (by omega) (by decide) dX1_put_47 (fun H locs hP hD hS => ?_)
        have hP : va_P D vwCl (mw y ce (0 : Int32) (upd r0 j9 v9) r1 r2 r3 dn ac sm) H := hP
        have hD : va_D A (mw y ce (0 : Int32) (upd r0 j9 v9) r1 r2 r3 dn ac sm) := hD
        exact W.vret hx hb hr (fun t ht hW => ⟨⟨((0 : Int32), upd r0 j9 v9), rfl, Or.inl ⟨rfl, by omega, by omega, by rw [hej, cx_toNat (by omega)]⟩, by rw [ht]; exact hP, va_K.moved hW.alike hK, hD⟩, hS.F ht⟩) hS.2.2 dX1_put_48
      · refine lv_iconst (v := (2 : Int32)) hx hb dX1_put_26 (by decide +kernel) ?_
        refine lv_goto (tgt := 31) hx hb dX1_put_27 (by decide) ?_
        refine va_put (D := D) (ci := 1) (v := .int (2 : Int32)) (ty := .int) (C := RX1) (T := TX1) (N := 8) hx hb hts hin1 tyX1 tyX1_ok nmX1 hown hK hP hD hS 0 rfl rfl 0 (by decide) hf32 (fun _ h9 => h9) rfl (by decide +kernel) rfl rfl (Nat.le_of_ble_eq_true rfl) dX1_put_31 (fun H locs hP hD hS => ?_)
        have hP : va_P D vwCl (mw y ce (2 : Int32) r0 r1 r2 r3 dn ac sm) H := hP
        have hD : va_D A (mw y ce (2 : Int32) r0 r1 r2 r3 dn ac sm) := hD
        refine lv_aload_n hx hb dX1_put_34 rfl (lv_at hl 0 rfl) ?_
        refine va_get (D := D) (ci := 1) (v := .int (2 : Int32)) (C := RX1) (T := TX1) (N := 8) hx hb hts hin1 hown hK hP 0 rfl rfl 0 (by decide) hf32 (fun _ h9 => h9) rfl dX1_put_35 ?_
        refine cx_if_ne (i := 2) (j := 0) (tgt := 48) hx hb (by decide +kernel) rfl dX1_put_38 (by decide) (fun c_8 => ?_) (fun c_8 => absurd c_8 (by decide))
        exact W.vret hx hb hr (fun t ht hW => ⟨⟨((2 : Int32), r0), rfl, Or.inr (Or.inr ⟨rfl, by omega, by omega, rfl⟩), by rw [ht]; exact hP, va_K.moved hW.alike hK, hD⟩, hS.F ht⟩) hS.2.2 dX1_put_48
  · refine cx_if_ne (i := 0) (j := 0) (tgt := 12) hx hb (by decide +kernel) rfl dX1_put_5 (by decide) (fun c_9 => absurd c_9 (by decide)) (fun c_9 => ?_)
    refine lv_iconst (v := (1 : Int32)) hx hb dX1_put_8 (by decide +kernel) ?_
    refine lv_goto (tgt := 31) hx hb dX1_put_9 (by decide) ?_
    refine va_put (D := D) (ci := 1) (v := .int (1 : Int32)) (ty := .int) (C := RX1) (T := TX1) (N := 8) hx hb hts hin1 tyX1 tyX1_ok nmX1 hown hK hP hD hS 0 rfl rfl 0 (by decide) hf32 (fun _ h9 => h9) rfl (by decide +kernel) rfl rfl (Nat.le_of_ble_eq_true rfl) dX1_put_31 (fun H locs hP hD hS => ?_)
    have hP : va_P D vwCl (mw y ce (1 : Int32) r0 r1 r2 r3 dn ac sm) H := hP
    have hD : va_D A (mw y ce (1 : Int32) r0 r1 r2 r3 dn ac sm) := hD
    refine lv_aload_n hx hb dX1_put_34 rfl (lv_at hl 0 rfl) ?_
    refine va_get (D := D) (ci := 1) (v := .int (1 : Int32)) (C := RX1) (T := TX1) (N := 8) hx hb hts hin1 hown hK hP 0 rfl rfl 0 (by decide) hf32 (fun _ h9 => h9) rfl dX1_put_35 ?_
    refine cx_if_ne (i := 1) (j := 0) (tgt := 48) hx hb (by decide +kernel) rfl dX1_put_38 (by decide) (fun c_10 => ?_) (fun c_10 => absurd c_10 (by decide))
    exact W.vret hx hb hr (fun t ht hW => ⟨⟨((1 : Int32), r0), rfl, Or.inr (Or.inl ⟨rfl, by omega, rfl⟩), by rw [ht]; exact hP, va_K.moved hW.alike hK, hD⟩, hS.F ht⟩) hS.2.2 dX1_put_48
set_option maxHeartbeats 4000000 in
set_option maxRecDepth 100000 in
/-- the reference: step -/
theorem n_step (l : Launch) (D : va_G) (y : Nat → Nat) (ce : Nat → ClassId) (th : Int32) (r0 r1 r2 r3 dn ac : Nat → Int32) (sm : Nat → Int64) (q v9 : Int32) (sz : Nat) : Met l yX1_step wsX1_step ({ frames := 1, cells := 0, slots := 0, locals := 20 } : Room) (va_Pc [.ref (y 0), .int q, .int v9] (crw D (mw y ce th r0 r1 r2 r3 dn ac sm) (mty ce) sz)) (va_Qv (fun (u9 : Int32 × (Nat → Int32)) => match u9 with | (t9, u) => (t9 = 0 ∧ (0 ≤ q.toInt ∧ q.toInt < 64) ∧ (1 ≤ v9.toInt ∧ v9.toInt ≤ 255) ∧ u = upd r1 q.toInt.toNat v9) ∨ (t9 = 1 ∧ ¬ (0 ≤ q.toInt ∧ q.toInt < 64) ∧ u = r1) ∨ (t9 = 2 ∧ (0 ≤ q.toInt ∧ q.toInt < 64) ∧ ¬ (1 ≤ v9.toInt ∧ v9.toInt ≤ 255) ∧ u = r1)) (fun (u9 : Int32 × (Nat → Int32)) (t : State) => match u9 with | (t9, u) => crB D (mw y ce t9 r0 u r2 r3 dn ac sm) (mty ce) (va_A (mw y ce th r0 r1 r2 r3 dn ac sm) sz) t) (va_A (mw y ce th r0 r1 r2 r3 dn ac sm) sz)) 0 0 (va_A (mw y ce th r0 r1 r2 r3 dn ac sm) sz) := by
  refine Met.ofW (cc := cX1_step) (maxL := 3) (ret := none) (by decide) rfl ?_
  intro p e s m args below meth c s₁ B hml hv
  obtain ⟨rfl, hsz, hP, hK, hD0, hTb⟩ := hv
  have hx := B.exec
  have hb := B.bytes
  have hr := B.returns
  have hts : ∀ w ∈ wA, w.before _ s = true := fun w h => atoms_spec (ws := wsX1_step) B.pre w (List.mem_cons_of_mem _ h)
  have hown : s.vm.findClass RX1 = some m.cls := findClass_of_methodNamed B.named
  have hlocks := B.notSynchronized
  subst hsz
  have hD := hD0.self (sz := s.heap.size)
  generalize hAe : va_A (mw y ce th r0 r1 r2 r3 dn ac sm) s.heap.size = A at hD hTb ⊢
  have hA : ∀ q : Nat, s.heap.size ≤ q → A q := fun q h => by rw [← hAe]; exact Or.inr h
  have hS : va_S A s.heap s.heap [] := va_S.rf
  have hin1 := inA1
  have hf32 := (hts _ wm_302)
  have hf13 := (hts _ wm_304)
  have hl := lv_entry ([.ref (y 0), .int q, .int v9]) (n := 3) (Nat.le_of_ble_eq_true rfl)
  rw [lg_entry_eq]
  generalize (lg_sl ([.ref (y 0), .int q, .int v9]) ++ List.replicate (3 - (lg_sl ([.ref (y 0), .int q, .int v9])).length) Slot.unset).toArray = ls at hl ⊢
  have hl : lv_has ls 3 [(0, .ref (y 0)), (1, .int q), (2, .int v9)] := hl
  refine lv_aload_n hx hb dX1_step_0 rfl (lv_at hl 0 rfl) ?_
  refine lv_iload_n hx hb dX1_step_1 rfl (lv_at hl 1 rfl) ?_
  refine vp_callSi (W.runS (As := [.int q]) (rest := [.ref (y 0)]) ⟨hx, hb, hml, hown, hts⟩ (n_isPlace l D q) (va_cwS 1 hts (gw_S wm_335 wm_336 wm_13 wm_337) rfl rfl rfl (by decide +kernel) ⟨Nat.le_of_ble_eq_true rfl, Nat.le_of_ble_eq_true rfl⟩) ⟨cro_blind, fun U hU hW => ⟨rfl, cro_at (hP.sub (ws' := []) [] rfl) (hK.sub (tys' := []) [] rfl) hTb hS hU hW⟩⟩ rfl rfl hl.1 rfl (lv_room (Nat.le_of_ble_eq_true rfl)) dX1_step_2 ⟨Nat.le_of_ble_eq_true rfl, Nat.le_of_ble_eq_true rfl⟩) (fun r_1 hr_1 => ?_)
  rcases hr_1 with ⟨rfl, ha9, hb9⟩ | ⟨rfl, ha9⟩
  · refine cx_if_ne (i := 1) (j := 0) (tgt := 12) hx hb (by decide +kernel) rfl dX1_step_5 (by decide) (fun c_2 => ?_) (fun c_2 => absurd c_2 (by decide))
    refine lv_iload_n hx hb dX1_step_12 rfl (lv_at hl 2 rfl) ?_
    refine lv_iconst (v := (1 : Int32)) hx hb dX1_step_13 (by decide +kernel) ?_
    refine cx_icmp_lt (i := v9.toInt) (j := 1) (tgt := 24) hx hb rfl (by decide +kernel) dX1_step_14 (by decide) (fun c_3 => ?_) (fun c_3 => ?_)
    · refine lv_iconst (v := (2 : Int32)) hx hb dX1_step_24 (by decide +kernel) ?_
      refine lv_goto (tgt := 29) hx hb dX1_step_25 (by decide) ?_
      refine va_put (D := D) (ci := 1) (v := .int (2 : Int32)) (ty := .int) (C := RX1) (T := TX1) (N := 8) hx hb hts hin1 tyX1 tyX1_ok nmX1 hown hK hP hD hS 0 rfl rfl 0 (by decide) hf32 (fun _ h9 => h9) rfl (by decide +kernel) rfl rfl (Nat.le_of_ble_eq_true rfl) dX1_step_29 (fun H locs hP hD hS => ?_)
      have hP : va_P D vwCl (mw y ce (2 : Int32) r0 r1 r2 r3 dn ac sm) H := hP
      have hD : va_D A (mw y ce (2 : Int32) r0 r1 r2 r3 dn ac sm) := hD
      refine lv_aload_n hx hb dX1_step_32 rfl (lv_at hl 0 rfl) ?_
      refine va_get (D := D) (ci := 1) (v := .int (2 : Int32)) (C := RX1) (T := TX1) (N := 8) hx hb hts hin1 hown hK hP 0 rfl rfl 0 (by decide) hf32 (fun _ h9 => h9) rfl dX1_step_33 ?_
      refine cx_if_ne (i := 2) (j := 0) (tgt := 46) hx hb (by decide +kernel) rfl dX1_step_36 (by decide) (fun c_4 => ?_) (fun c_4 => absurd c_4 (by decide))
      exact W.vret hx hb hr (fun t ht hW => ⟨⟨((2 : Int32), r1), rfl, Or.inr (Or.inr ⟨rfl, by omega, by omega, rfl⟩), by rw [ht]; exact hP, va_K.moved hW.alike hK, hD⟩, hS.F ht⟩) hS.2.2 dX1_step_46
    · refine lv_iload_n hx hb dX1_step_17 rfl (lv_at hl 2 rfl) ?_
      refine lv_sipush (v := (255 : Int32)) hx hb dX1_step_18 (by decide +kernel) ?_
      refine cx_icmp_le (i := v9.toInt) (j := 255) (tgt := 28) hx hb rfl (by decide +kernel) dX1_step_21 (by decide) (fun c_5 => ?_) (fun c_5 => ?_)
      · refine lv_iconst (v := (0 : Int32)) hx hb dX1_step_28 (by decide +kernel) ?_
        refine va_put (D := D) (ci := 1) (v := .int (0 : Int32)) (ty := .int) (C := RX1) (T := TX1) (N := 8) hx hb hts hin1 tyX1 tyX1_ok nmX1 hown hK hP hD hS 0 rfl rfl 0 (by decide) hf32 (fun _ h9 => h9) rfl (by decide +kernel) rfl rfl (Nat.le_of_ble_eq_true rfl) dX1_step_29 (fun H locs hP hD hS => ?_)
        have hP : va_P D vwCl (mw y ce (0 : Int32) r0 r1 r2 r3 dn ac sm) H := hP
        have hD : va_D A (mw y ce (0 : Int32) r0 r1 r2 r3 dn ac sm) := hD
        refine lv_aload_n hx hb dX1_step_32 rfl (lv_at hl 0 rfl) ?_
        refine va_get (D := D) (ci := 1) (v := .int (0 : Int32)) (C := RX1) (T := TX1) (N := 8) hx hb hts hin1 hown hK hP 0 rfl rfl 0 (by decide) hf32 (fun _ h9 => h9) rfl dX1_step_33 ?_
        refine cx_if_ne (i := 0) (j := 0) (tgt := 46) hx hb (by decide +kernel) rfl dX1_step_36 (by decide) (fun c_6 => absurd c_6 (by decide)) (fun c_6 => ?_)
        obtain ⟨j9, hj9, hej⟩ := cx_ofN (x := q) (n := 64) (by omega) (by omega) (by decide)
        have e_7 : q = nI j9 := hej
        rw [e_7] at hl
        refine lv_aload_n hx hb dX1_step_39 rfl (lv_at hl 0 rfl) ?_
        refine va_get (D := D) (ci := 1) (v := .ref (y 2)) (C := RX1) (T := TX1) (N := 8) hx hb hts hin1 hown hK hP 0 rfl rfl 2 (by decide) hf13 (fun _ h9 => h9) rfl dX1_step_40 ?_
        refine lv_iload_n hx hb dX1_step_43 rfl (lv_at hl 1 rfl) ?_
        refine lv_iload_n hx hb dX1_step_44 rfl (lv_at hl 2 rfl) ?_
        refine cx_iast hx hb hK hP hD hS 2 1 rfl rfl j9 (by omega) (by decide) dX1_step_45 (fun H locs hP hD hS => ?_)
        have hP : va_P D vwCl (mw y ce (0 : Int32) r0 (upd r1 j9 v9) r2 r3 dn ac sm) H := hP
        have hD : va_D A (mw y ce (0 : Int32) r0 (upd r1 j9 v9) r2 r3 dn ac sm) := hD
        exact W.vret hx hb hr (fun t ht hW => ⟨⟨((0 : Int32), upd r1 j9 v9), rfl, Or.inl ⟨rfl, by omega, by omega, by rw [hej, cx_toNat (by omega)]⟩, by rw [ht]; exact hP, va_K.moved hW.alike hK, hD⟩, hS.F ht⟩) hS.2.2 dX1_step_46
      · refine lv_iconst (v := (2 : Int32)) hx hb dX1_step_24 (by decide +kernel) ?_
        refine lv_goto (tgt := 29) hx hb dX1_step_25 (by decide) ?_
        refine va_put (D := D) (ci := 1) (v := .int (2 : Int32)) (ty := .int) (C := RX1) (T := TX1) (N := 8) hx hb hts hin1 tyX1 tyX1_ok nmX1 hown hK hP hD hS 0 rfl rfl 0 (by decide) hf32 (fun _ h9 => h9) rfl (by decide +kernel) rfl rfl (Nat.le_of_ble_eq_true rfl) dX1_step_29 (fun H locs hP hD hS => ?_)
        have hP : va_P D vwCl (mw y ce (2 : Int32) r0 r1 r2 r3 dn ac sm) H := hP
        have hD : va_D A (mw y ce (2 : Int32) r0 r1 r2 r3 dn ac sm) := hD
        refine lv_aload_n hx hb dX1_step_32 rfl (lv_at hl 0 rfl) ?_
        refine va_get (D := D) (ci := 1) (v := .int (2 : Int32)) (C := RX1) (T := TX1) (N := 8) hx hb hts hin1 hown hK hP 0 rfl rfl 0 (by decide) hf32 (fun _ h9 => h9) rfl dX1_step_33 ?_
        refine cx_if_ne (i := 2) (j := 0) (tgt := 46) hx hb (by decide +kernel) rfl dX1_step_36 (by decide) (fun c_8 => ?_) (fun c_8 => absurd c_8 (by decide))
        exact W.vret hx hb hr (fun t ht hW => ⟨⟨((2 : Int32), r1), rfl, Or.inr (Or.inr ⟨rfl, by omega, by omega, rfl⟩), by rw [ht]; exact hP, va_K.moved hW.alike hK, hD⟩, hS.F ht⟩) hS.2.2 dX1_step_46
  · refine cx_if_ne (i := 0) (j := 0) (tgt := 12) hx hb (by decide +kernel) rfl dX1_step_5 (by decide) (fun c_9 => absurd c_9 (by decide)) (fun c_9 => ?_)
    refine lv_iconst (v := (1 : Int32)) hx hb dX1_step_8 (by decide +kernel) ?_
    refine lv_goto (tgt := 29) hx hb dX1_step_9 (by decide) ?_
    refine va_put (D := D) (ci := 1) (v := .int (1 : Int32)) (ty := .int) (C := RX1) (T := TX1) (N := 8) hx hb hts hin1 tyX1 tyX1_ok nmX1 hown hK hP hD hS 0 rfl rfl 0 (by decide) hf32 (fun _ h9 => h9) rfl (by decide +kernel) rfl rfl (Nat.le_of_ble_eq_true rfl) dX1_step_29 (fun H locs hP hD hS => ?_)
    have hP : va_P D vwCl (mw y ce (1 : Int32) r0 r1 r2 r3 dn ac sm) H := hP
    have hD : va_D A (mw y ce (1 : Int32) r0 r1 r2 r3 dn ac sm) := hD
    refine lv_aload_n hx hb dX1_step_32 rfl (lv_at hl 0 rfl) ?_
    refine va_get (D := D) (ci := 1) (v := .int (1 : Int32)) (C := RX1) (T := TX1) (N := 8) hx hb hts hin1 hown hK hP 0 rfl rfl 0 (by decide) hf32 (fun _ h9 => h9) rfl dX1_step_33 ?_
    refine cx_if_ne (i := 1) (j := 0) (tgt := 46) hx hb (by decide +kernel) rfl dX1_step_36 (by decide) (fun c_10 => ?_) (fun c_10 => absurd c_10 (by decide))
    exact W.vret hx hb hr (fun t ht hW => ⟨⟨((1 : Int32), r1), rfl, Or.inr (Or.inl ⟨rfl, by omega, rfl⟩), by rw [ht]; exact hP, va_K.moved hW.alike hK, hD⟩, hS.F ht⟩) hS.2.2 dX1_step_46
set_option maxHeartbeats 4000000 in
set_option maxRecDepth 100000 in
/-- the reference: steps -/
theorem n_steps (l : Launch) (D : va_G) (y : Nat → Nat) (ce : Nat → ClassId) (th : Int32) (r0 r1 r2 r3 dn ac : Nat → Int32) (sm : Nat → Int64) (hdn : dnOk dn ac) (b9 s9 p9 : Int32) (sz : Nat) : Met l yX1_steps wsX1_steps ({ frames := 0, cells := 0, slots := 0, locals := 0 } : Room) (va_Pc [.ref (y 0), .int b9, .int s9, .int p9] (crw D (mw y ce th r0 r1 r2 r3 dn ac sm) (mty ce) sz)) (va_Qv (fun (u9 : Int32 × (Nat → Int32)) => match u9 with | (t9, u) => (t9 = 0 ∧ ((1 ≤ b9.toInt ∧ b9.toInt ≤ 255) ∧ (0 ≤ s9.toInt ∧ s9.toInt ≤ 32) ∧ (1 ≤ p9.toInt ∧ p9.toInt ≤ 5000)) ∧ ∀ j, j < 64 → u j = stV b9 s9 p9 (cCn j / 8) (cCn j % 8)) ∨ (t9 = 1 ∧ ¬ ((1 ≤ b9.toInt ∧ b9.toInt ≤ 255) ∧ (0 ≤ s9.toInt ∧ s9.toInt ≤ 32) ∧ (1 ≤ p9.toInt ∧ p9.toInt ≤ 5000)) ∧ u = r1)) (fun (u9 : Int32 × (Nat → Int32)) (t : State) => match u9 with | (t9, u) => crB D (mw y ce t9 r0 u r2 r3 dn ac sm) (mty ce) (va_A (mw y ce th r0 r1 r2 r3 dn ac sm) sz) t) (va_A (mw y ce th r0 r1 r2 r3 dn ac sm) sz)) 0 0 (va_A (mw y ce th r0 r1 r2 r3 dn ac sm) sz) := by
  refine Met.ofW (cc := cX1_steps) (maxL := 6) (ret := none) (by decide) rfl ?_
  intro p e s m args below meth c s₁ B hml hv
  obtain ⟨rfl, hsz, hP, hK, hD0, hTb⟩ := hv
  have hx := B.exec
  have hb := B.bytes
  have hr := B.returns
  have hts : ∀ w ∈ wA, w.before _ s = true := fun w h => atoms_spec (ws := wsX1_steps) B.pre w (List.mem_cons_of_mem _ h)
  have hown : s.vm.findClass RX1 = some m.cls := findClass_of_methodNamed B.named
  have hlocks := B.notSynchronized
  subst hsz
  have hD := hD0.self (sz := s.heap.size)
  generalize hAe : va_A (mw y ce th r0 r1 r2 r3 dn ac sm) s.heap.size = A at hD hTb ⊢
  have hA : ∀ q : Nat, s.heap.size ≤ q → A q := fun q h => by rw [← hAe]; exact Or.inr h
  have hS : va_S A s.heap s.heap [] := va_S.rf
  have hin1 := inA1
  have hf32 := (hts _ wm_302)
  have hf22 := (hts _ wm_307)
  have hf25 := (hts _ wm_308)
  have hf13 := (hts _ wm_304)
  have hl := lv_entry ([.ref (y 0), .int b9, .int s9, .int p9]) (n := 6) (Nat.le_of_ble_eq_true rfl)
  rw [lg_entry_eq]
  generalize (lg_sl ([.ref (y 0), .int b9, .int s9, .int p9]) ++ List.replicate (6 - (lg_sl ([.ref (y 0), .int b9, .int s9, .int p9])).length) Slot.unset).toArray = ls at hl ⊢
  have hl : lv_has ls 6 [(0, .ref (y 0)), (1, .int b9), (2, .int s9), (3, .int p9)] := hl
  have J40 : ∀ (tv : Int32), ((tv = 0 ∧ (1 ≤ b9.toInt ∧ b9.toInt ≤ 255) ∧ (0 ≤ s9.toInt ∧ s9.toInt ≤ 32) ∧ (1 ≤ p9.toInt ∧ p9.toInt ≤ 5000)) ∨ (tv = 1 ∧ ¬ ((1 ≤ b9.toInt ∧ b9.toInt ≤ 255) ∧ (0 ≤ s9.toInt ∧ s9.toInt ≤ 32) ∧ (1 ≤ p9.toInt ∧ p9.toInt ≤ 5000)))) → W p l e ((headSpec wsX1_steps ({ frames := 0, cells := 0, slots := 0, locals := 0 } : Room)).room) s m (([.ref (y 0), .int b9, .int s9, .int p9] : List Value).toArray) below meth c s.heap [] 0 0 (MQ below (va_Qv (fun (u9 : Int32 × (Nat → Int32)) => match u9 with | (t9, u) => (t9 = 0 ∧ ((1 ≤ b9.toInt ∧ b9.toInt ≤ 255) ∧ (0 ≤ s9.toInt ∧ s9.toInt ≤ 32) ∧ (1 ≤ p9.toInt ∧ p9.toInt ≤ 5000)) ∧ ∀ j, j < 64 → u j = stV b9 s9 p9 (cCn j / 8) (cCn j % 8)) ∨ (t9 = 1 ∧ ¬ ((1 ≤ b9.toInt ∧ b9.toInt ≤ 255) ∧ (0 ≤ s9.toInt ∧ s9.toInt ≤ 32) ∧ (1 ≤ p9.toInt ∧ p9.toInt ≤ 5000)) ∧ u = r1)) (fun (u9 : Int32 × (Nat → Int32)) (t : State) => match u9 with | (t9, u) => crB D (mw y ce t9 r0 u r2 r3 dn ac sm) (mty ce) A t) A) ([.ref (y 0), .int b9, .int s9, .int p9] : List Value).toArray s 0 0 A) (F0 m 40 ls [.int tv, .ref (y 0)]) := by
    intro tv htv
    rcases htv with ⟨rfl, hok⟩ | ⟨rfl, hno⟩
    · skip
      refine va_put (D := D) (ci := 1) (v := .int (0 : Int32)) (ty := .int) (C := RX1) (T := TX1) (N := 8) hx hb hts hin1 tyX1 tyX1_ok nmX1 hown hK hP hD hS 0 rfl rfl 0 (by decide) hf32 (fun _ h9 => h9) rfl (by decide +kernel) rfl rfl (Nat.le_of_ble_eq_true rfl) dX1_steps_40 (fun H locs hP hD hS => ?_)
      have hP : va_P D vwCl (mw y ce (0 : Int32) r0 r1 r2 r3 dn ac sm) H := hP
      have hD : va_D A (mw y ce (0 : Int32) r0 r1 r2 r3 dn ac sm) := hD
      refine lv_iconst (v := (0 : Int32)) hx hb dX1_steps_43 (by decide +kernel) ?_
      refine lv_istore (lv' := [(4, .int (0 : Int32)), (0, .ref (y 0)), (1, .int b9), (2, .int s9), (3, .int p9)]) hx hb dX1_steps_44 hl (by decide) rfl (fun ls hl => ?_)
      have L46 : ∀ (n : Nat) (k9 : Nat) (w9 : Nat → Int32) (H : Heap) (locs : List Loc) (ls : Array Slot), (64 - k9) < n → (k9 ≤ 64) → (∀ j, j < k9 → w9 j = stV b9 s9 p9 (cCn j / 8) (cCn j % 8)) → va_P D vwCl (mw y ce (0 : Int32) r0 w9 r2 r3 dn ac sm) H → va_D A (mw y ce (0 : Int32) r0 w9 r2 r3 dn ac sm) → va_S A s.heap H locs → lv_has ls 6 [(0, .ref (y 0)), (1, .int b9), (2, .int s9), (3, .int p9), (4, .int (nI k9))] → W p l e ((headSpec wsX1_steps ({ frames := 0, cells := 0, slots := 0, locals := 0 } : Room)).room) s m (([.ref (y 0), .int b9, .int s9, .int p9] : List Value).toArray) below meth c H locs 0 0 (MQ below (va_Qv (fun (u9 : Int32 × (Nat → Int32)) => match u9 with | (t9, u) => (t9 = 0 ∧ ((1 ≤ b9.toInt ∧ b9.toInt ≤ 255) ∧ (0 ≤ s9.toInt ∧ s9.toInt ≤ 32) ∧ (1 ≤ p9.toInt ∧ p9.toInt ≤ 5000)) ∧ ∀ j, j < 64 → u j = stV b9 s9 p9 (cCn j / 8) (cCn j % 8)) ∨ (t9 = 1 ∧ ¬ ((1 ≤ b9.toInt ∧ b9.toInt ≤ 255) ∧ (0 ≤ s9.toInt ∧ s9.toInt ≤ 32) ∧ (1 ≤ p9.toInt ∧ p9.toInt ≤ 5000)) ∧ u = r1)) (fun (u9 : Int32 × (Nat → Int32)) (t : State) => match u9 with | (t9, u) => crB D (mw y ce t9 r0 u r2 r3 dn ac sm) (mty ce) A t) A) ([.ref (y 0), .int b9, .int s9, .int p9] : List Value).toArray s 0 0 A) (F0 m 46 ls []) := by
        intro n
        induction n with
        | zero =>
          intro k9 w9 H locs ls hn
          exact absurd hn (Nat.not_lt_zero _)
        | succ n ih46 =>
          intro k9 w9 H locs ls hn46 hk9 hw9 hP hD hS hl
          refine lv_iload hx hb dX1_steps_46 (lv_at hl 4 rfl) ?_
          refine lv_bipush (v := (64 : Int32)) hx hb dX1_steps_48 (by decide +kernel) ?_
          refine cx_icmp_ge (i := ((k9 : Nat) : Int)) (j := 64) (tgt := 128) hx hb (nI_toInt (by omega)) (by decide +kernel) dX1_steps_50 (by decide) (fun c_1 => ?_) (fun c_1 => ?_)
          · exact W.vret hx hb hr (fun t ht hW => ⟨⟨((0 : Int32), w9), rfl, (by obtain rfl : k9 = 64 := (by omega); exact Or.inl ⟨rfl, hok, hw9⟩), by rw [ht]; exact hP, va_K.moved hW.alike hK, hD⟩, hS.F ht⟩) hS.2.2 dX1_steps_128
          · refine lv_aload_n hx hb dX1_steps_53 rfl (lv_at hl 0 rfl) ?_
            refine va_get (D := D) (ci := 1) (v := .int (0 : Int32)) (C := RX1) (T := TX1) (N := 8) hx hb hts hin1 hown hK hP 0 rfl rfl 0 (by decide) hf32 (fun _ h9 => h9) rfl dX1_steps_54 ?_
            refine cx_if_ne (i := 0) (j := 0) (tgt := 128) hx hb (by decide +kernel) rfl dX1_steps_57 (by decide) (fun c_2 => absurd c_2 (by decide)) (fun c_2 => ?_)
            refine lv_iload_n hx hb dX1_steps_60 rfl (lv_at hl 1 rfl) ?_
            refine lv_iload_n hx hb dX1_steps_61 rfl (lv_at hl 2 rfl) ?_
            refine lv_aload_n hx hb dX1_steps_62 rfl (lv_at hl 0 rfl) ?_
            refine va_get (D := D) (ci := 1) (v := .ref (y 5)) (C := RX1) (T := TX1) (N := 8) hx hb hts hin1 hown hK hP 0 rfl rfl 5 (by decide) hf22 (fun _ h9 => h9) rfl dX1_steps_63 ?_
            refine lv_iload hx hb dX1_steps_66 (lv_at hl 4 rfl) ?_
            refine cx_iald hx hb hK hP 5 4 rfl rfl k9 (by omega) (by decide) dX1_steps_68 ?_
            have e_3 : dn k9 = nI (cCn k9 / 8) := (hdn k9 (by omega)).1
            rw [e_3]
            refine lv_aload_n hx hb dX1_steps_69 rfl (lv_at hl 0 rfl) ?_
            refine va_get (D := D) (ci := 1) (v := .ref (y 6)) (C := RX1) (T := TX1) (N := 8) hx hb hts hin1 hown hK hP 0 rfl rfl 6 (by decide) hf25 (fun _ h9 => h9) rfl dX1_steps_70 ?_
            refine lv_iload hx hb dX1_steps_73 (lv_at hl 4 rfl) ?_
            refine cx_iald hx hb hK hP 6 5 rfl rfl k9 (by omega) (by decide) dX1_steps_75 ?_
            have e_4 : ac k9 = nI (cCn k9 % 8) := (hdn k9 (by omega)).2
            rw [e_4]
            refine cx_iadd hx hb (cCn k9 / 8) (cCn k9 % 8) dX1_steps_76 ?_
            rw [show cCn k9 / 8 + (cCn k9 % 8) = cCn k9 % 8 + cCn k9 / 8 from by omega]
            refine lv_imul hx hb dX1_steps_77 ?_
            refine lv_iadd hx hb dX1_steps_78 ?_
            refine lv_iload_n hx hb dX1_steps_79 rfl (lv_at hl 3 rfl) ?_
            refine lv_imul hx hb dX1_steps_80 ?_
            refine lv_bipush (v := (50 : Int32)) hx hb dX1_steps_81 (by decide +kernel) ?_
            refine lv_iadd hx hb dX1_steps_83 ?_
            refine lv_bipush (v := (100 : Int32)) hx hb dX1_steps_84 (by decide +kernel) ?_
            refine lv_idiv hx hb dX1_steps_86 (by decide +kernel) ?_
            refine lv_istore (lv' := [(5, .int ((((b9 + (s9 * (nI (cCn k9 % 8 + cCn k9 / 8)))) * p9) + (50 : Int32)) / (100 : Int32))), (0, .ref (y 0)), (1, .int b9), (2, .int s9), (3, .int p9), (4, .int (nI k9))]) hx hb dX1_steps_87 hl (by decide) rfl (fun ls hl => ?_)
            refine lv_aload_n hx hb dX1_steps_89 rfl (lv_at hl 1 rfl) ?_
            refine va_get (D := D) (ci := 1) (v := .ref (y 2)) (C := RX1) (T := TX1) (N := 8) hx hb hts hin1 hown hK hP 0 rfl rfl 2 (by decide) hf13 (fun _ h9 => h9) rfl dX1_steps_90 ?_
            refine lv_iload hx hb dX1_steps_93 (lv_at hl 5 rfl) ?_
            have J121 : ∀ (tc : Int32), (tc = clampV (((((b9 + (s9 * (nI (cCn k9 % 8 + cCn k9 / 8)))) * p9) + (50 : Int32)) / (100 : Int32))).toInt64 1 255) → W p l e ((headSpec wsX1_steps ({ frames := 0, cells := 0, slots := 0, locals := 0 } : Room)).room) s m (([.ref (y 0), .int b9, .int s9, .int p9] : List Value).toArray) below meth c H locs 0 0 (MQ below (va_Qv (fun (u9 : Int32 × (Nat → Int32)) => match u9 with | (t9, u) => (t9 = 0 ∧ ((1 ≤ b9.toInt ∧ b9.toInt ≤ 255) ∧ (0 ≤ s9.toInt ∧ s9.toInt ≤ 32) ∧ (1 ≤ p9.toInt ∧ p9.toInt ≤ 5000)) ∧ ∀ j, j < 64 → u j = stV b9 s9 p9 (cCn j / 8) (cCn j % 8)) ∨ (t9 = 1 ∧ ¬ ((1 ≤ b9.toInt ∧ b9.toInt ≤ 255) ∧ (0 ≤ s9.toInt ∧ s9.toInt ≤ 32) ∧ (1 ≤ p9.toInt ∧ p9.toInt ≤ 5000)) ∧ u = r1)) (fun (u9 : Int32 × (Nat → Int32)) (t : State) => match u9 with | (t9, u) => crB D (mw y ce t9 r0 u r2 r3 dn ac sm) (mty ce) A t) A) ([.ref (y 0), .int b9, .int s9, .int p9] : List Value).toArray s 0 0 A) (F0 m 121 ls [.int tc, .int (nI k9), .ref (y 2)]) := by
              intro tc hcl
              refine cx_iast hx hb hK hP hD hS 2 1 rfl rfl k9 (by omega) (by decide) dX1_steps_121 (fun H locs hP hD hS => ?_)
              have hP : va_P D vwCl (mw y ce (0 : Int32) r0 (upd w9 k9 tc) r2 r3 dn ac sm) H := hP
              have hD : va_D A (mw y ce (0 : Int32) r0 (upd w9 k9 tc) r2 r3 dn ac sm) := hD
              refine lv_iinc (v := nI (k9 + 1)) (lv' := [(4, .int (nI (k9 + 1))), (5, .int ((((b9 + (s9 * (nI (cCn k9 % 8 + cCn k9 / 8)))) * p9) + (50 : Int32)) / (100 : Int32))), (0, .ref (y 0)), (1, .int b9), (2, .int s9), (3, .int p9)]) hx hb dX1_steps_122 hl (k := 5) rfl (by show nI k9 + 1 = nI (k9 + 1); exact nI_add k9 1) (by decide) rfl (fun ls hl => ?_)
              refine lv_goto (tgt := 46) hx hb dX1_steps_125 (by decide) ?_
              exact ih46 (k9 + 1) (upd w9 k9 tc) _ _ _ (by omega) (by omega) (upd_step (P := fun (j : Nat) (v : Int32) => v = stV b9 s9 p9 (cCn j / 8) (cCn j % 8)) hw9 (by rw [hcl]; rfl)) hP hD hS (lv_sub hl [2, 3, 4, 5, 0] rfl)
            refine lv_iload hx hb dX1_steps_95 (lv_at hl 0 rfl) ?_
            refine lv_iconst (v := (1 : Int32)) hx hb dX1_steps_97 (by decide +kernel) ?_
            refine cx_icmp_ge (i := ((((b9 + (s9 * (nI (cCn k9 % 8 + cCn k9 / 8)))) * p9) + (50 : Int32)) / (100 : Int32)).toInt) (j := 1) (tgt := 105) hx hb rfl (by decide +kernel) dX1_steps_98 (by decide) (fun c_5 => ?_) (fun c_5 => ?_)
            · refine lv_iload hx hb dX1_steps_105 (lv_at hl 0 rfl) ?_
              refine lv_sipush (v := (255 : Int32)) hx hb dX1_steps_107 (by decide +kernel) ?_
              refine cx_icmp_le (i := ((((b9 + (s9 * (nI (cCn k9 % 8 + cCn k9 / 8)))) * p9) + (50 : Int32)) / (100 : Int32)).toInt) (j := 255) (tgt := 119) hx hb rfl (by decide +kernel) dX1_steps_110 (by decide) (fun c_6 => ?_) (fun c_6 => ?_)
              · refine lv_iload hx hb dX1_steps_119 (lv_at hl 0 rfl) ?_
                exact J121 ((((b9 + (s9 * (nI (cCn k9 % 8 + cCn k9 / 8)))) * p9) + (50 : Int32)) / (100 : Int32)) (by rw [← clampI_eq, if_neg (by omega), if_neg (by omega)])
              · refine lv_sipush (v := (255 : Int32)) hx hb dX1_steps_113 (by decide +kernel) ?_
                refine lv_goto (tgt := 121) hx hb dX1_steps_116 (by decide) ?_
                exact J121 (255 : Int32) (by rw [← clampI_eq, if_neg (by omega), if_pos (by omega)])
            · refine lv_iconst (v := (1 : Int32)) hx hb dX1_steps_101 (by decide +kernel) ?_
              refine lv_goto (tgt := 121) hx hb dX1_steps_102 (by decide) ?_
              exact J121 (1 : Int32) (by rw [← clampI_eq, if_pos (by omega)])
      exact L46 _ 0 r1 _ _ _ (Nat.lt_succ_self _) (Nat.zero_le _) (fun j hj => absurd hj (Nat.not_lt_zero j)) hP hD hS (lv_sub hl [1, 2, 3, 4, 0] rfl)
    · skip
      refine va_put (D := D) (ci := 1) (v := .int (1 : Int32)) (ty := .int) (C := RX1) (T := TX1) (N := 8) hx hb hts hin1 tyX1 tyX1_ok nmX1 hown hK hP hD hS 0 rfl rfl 0 (by decide) hf32 (fun _ h9 => h9) rfl (by decide +kernel) rfl rfl (Nat.le_of_ble_eq_true rfl) dX1_steps_40 (fun H locs hP hD hS => ?_)
      have hP : va_P D vwCl (mw y ce (1 : Int32) r0 r1 r2 r3 dn ac sm) H := hP
      have hD : va_D A (mw y ce (1 : Int32) r0 r1 r2 r3 dn ac sm) := hD
      refine lv_iconst (v := (0 : Int32)) hx hb dX1_steps_43 (by decide +kernel) ?_
      refine lv_istore (lv' := [(4, .int (0 : Int32)), (0, .ref (y 0)), (1, .int b9), (2, .int s9), (3, .int p9)]) hx hb dX1_steps_44 hl (by decide) rfl (fun ls hl => ?_)
      refine lv_iload hx hb dX1_steps_46 (lv_at hl 0 rfl) ?_
      refine lv_bipush (v := (64 : Int32)) hx hb dX1_steps_48 (by decide +kernel) ?_
      refine cx_icmp_ge (i := 0) (j := 64) (tgt := 128) hx hb (by decide +kernel) (by decide +kernel) dX1_steps_50 (by decide) (fun c_7 => absurd c_7 (by decide)) (fun c_7 => ?_)
      refine lv_aload_n hx hb dX1_steps_53 rfl (lv_at hl 1 rfl) ?_
      refine va_get (D := D) (ci := 1) (v := .int (1 : Int32)) (C := RX1) (T := TX1) (N := 8) hx hb hts hin1 hown hK hP 0 rfl rfl 0 (by decide) hf32 (fun _ h9 => h9) rfl dX1_steps_54 ?_
      refine cx_if_ne (i := 1) (j := 0) (tgt := 128) hx hb (by decide +kernel) rfl dX1_steps_57 (by decide) (fun c_8 => ?_) (fun c_8 => absurd c_8 (by decide))
      exact W.vret hx hb hr (fun t ht hW => ⟨⟨((1 : Int32), r1), rfl, Or.inr ⟨rfl, hno, rfl⟩, by rw [ht]; exact hP, va_K.moved hW.alike hK, hD⟩, hS.F ht⟩) hS.2.2 dX1_steps_128
  refine lv_aload_n hx hb dX1_steps_0 rfl (lv_at hl 0 rfl) ?_
  refine lv_iload_n hx hb dX1_steps_1 rfl (lv_at hl 1 rfl) ?_
  refine lv_iconst (v := (1 : Int32)) hx hb dX1_steps_2 (by decide +kernel) ?_
  refine cx_icmp_lt (i := b9.toInt) (j := 1) (tgt := 35) hx hb rfl (by decide +kernel) dX1_steps_3 (by decide) (fun c_9 => ?_) (fun c_9 => ?_)
  · refine lv_iconst (v := (1 : Int32)) hx hb dX1_steps_35 (by decide +kernel) ?_
    refine lv_goto (tgt := 40) hx hb dX1_steps_36 (by decide) ?_
    exact J40 (1 : Int32) (Or.inr ⟨rfl, by omega⟩)
  · refine lv_iload_n hx hb dX1_steps_6 rfl (lv_at hl 1 rfl) ?_
    refine lv_sipush (v := (255 : Int32)) hx hb dX1_steps_7 (by decide +kernel) ?_
    refine cx_icmp_gt (i := b9.toInt) (j := 255) (tgt := 35) hx hb rfl (by decide +kernel) dX1_steps_10 (by decide) (fun c_10 => ?_) (fun c_10 => ?_)
    · refine lv_iconst (v := (1 : Int32)) hx hb dX1_steps_35 (by decide +kernel) ?_
      refine lv_goto (tgt := 40) hx hb dX1_steps_36 (by decide) ?_
      exact J40 (1 : Int32) (Or.inr ⟨rfl, by omega⟩)
    · refine lv_iload_n hx hb dX1_steps_13 rfl (lv_at hl 2 rfl) ?_
      refine cx_if_lt (i := s9.toInt) (j := 0) (tgt := 35) hx hb rfl rfl dX1_steps_14 (by decide) (fun c_11 => ?_) (fun c_11 => ?_)
      · refine lv_iconst (v := (1 : Int32)) hx hb dX1_steps_35 (by decide +kernel) ?_
        refine lv_goto (tgt := 40) hx hb dX1_steps_36 (by decide) ?_
        exact J40 (1 : Int32) (Or.inr ⟨rfl, by omega⟩)
      · refine lv_iload_n hx hb dX1_steps_17 rfl (lv_at hl 2 rfl) ?_
        refine lv_bipush (v := (32 : Int32)) hx hb dX1_steps_18 (by decide +kernel) ?_
        refine cx_icmp_gt (i := s9.toInt) (j := 32) (tgt := 35) hx hb rfl (by decide +kernel) dX1_steps_20 (by decide) (fun c_12 => ?_) (fun c_12 => ?_)
        · refine lv_iconst (v := (1 : Int32)) hx hb dX1_steps_35 (by decide +kernel) ?_
          refine lv_goto (tgt := 40) hx hb dX1_steps_36 (by decide) ?_
          exact J40 (1 : Int32) (Or.inr ⟨rfl, by omega⟩)
        · refine lv_iload_n hx hb dX1_steps_23 rfl (lv_at hl 3 rfl) ?_
          refine lv_iconst (v := (1 : Int32)) hx hb dX1_steps_24 (by decide +kernel) ?_
          refine cx_icmp_lt (i := p9.toInt) (j := 1) (tgt := 35) hx hb rfl (by decide +kernel) dX1_steps_25 (by decide) (fun c_13 => ?_) (fun c_13 => ?_)
          · refine lv_iconst (v := (1 : Int32)) hx hb dX1_steps_35 (by decide +kernel) ?_
            refine lv_goto (tgt := 40) hx hb dX1_steps_36 (by decide) ?_
            exact J40 (1 : Int32) (Or.inr ⟨rfl, by omega⟩)
          · refine lv_iload_n hx hb dX1_steps_28 rfl (lv_at hl 3 rfl) ?_
            refine lv_sipush (v := (5000 : Int32)) hx hb dX1_steps_29 (by decide +kernel) ?_
            refine cx_icmp_le (i := p9.toInt) (j := 5000) (tgt := 39) hx hb rfl (by decide +kernel) dX1_steps_32 (by decide) (fun c_14 => ?_) (fun c_14 => ?_)
            · refine lv_iconst (v := (0 : Int32)) hx hb dX1_steps_39 (by decide +kernel) ?_
              exact J40 (0 : Int32) (Or.inl ⟨rfl, by omega⟩)
            · refine lv_iconst (v := (1 : Int32)) hx hb dX1_steps_35 (by decide +kernel) ?_
              refine lv_goto (tgt := 40) hx hb dX1_steps_36 (by decide) ?_
              exact J40 (1 : Int32) (Or.inr ⟨rfl, by omega⟩)
set_option maxHeartbeats 4000000 in
set_option maxRecDepth 100000 in
/-- the reference: row -/
theorem n_row (l : Launch) (D : va_G) (y : Nat → Nat) (ce : Nat → ClassId) (th : Int32) (r0 r1 r2 r3 dn ac : Nat → Int32) (sm : Nat → Int64) (q : Int32) (e9 : Int64) (sz : Nat) : Met l yX1_row wsX1_row ({ frames := 0, cells := 0, slots := 0, locals := 0 } : Room) (va_Pc [.ref (y 0), .int q, .long e9] (crw D (mw y ce th r0 r1 r2 r3 dn ac sm) (mty ce) sz)) (va_Qv (fun (u9 : Int32 × (Nat → Int32)) => match u9 with | (t9, u) => (t9 = 0 ∧ (0 ≤ q.toInt ∧ q.toInt < 8) ∧ ∀ a b, a < 8 → b < 8 → u (a * 8 + b) = if a = q.toInt.toNat then rowR e9 b else r2 (a * 8 + b)) ∨ (t9 = 1 ∧ ¬ (0 ≤ q.toInt ∧ q.toInt < 8) ∧ u = r2)) (fun (u9 : Int32 × (Nat → Int32)) (t : State) => match u9 with | (t9, u) => crB D (mw y ce t9 r0 r1 u r3 dn ac sm) (mty ce) (va_A (mw y ce th r0 r1 r2 r3 dn ac sm) sz) t) (va_A (mw y ce th r0 r1 r2 r3 dn ac sm) sz)) 0 0 (va_A (mw y ce th r0 r1 r2 r3 dn ac sm) sz) := by
  refine Met.ofW (cc := cX1_row) (maxL := 5) (ret := none) (by decide) rfl ?_
  intro p e s m args below meth c s₁ B hml hv
  obtain ⟨rfl, hsz, hP, hK, hD0, hTb⟩ := hv
  have hx := B.exec
  have hb := B.bytes
  have hr := B.returns
  have hts : ∀ w ∈ wA, w.before _ s = true := fun w h => atoms_spec (ws := wsX1_row) B.pre w (List.mem_cons_of_mem _ h)
  have hown : s.vm.findClass RX1 = some m.cls := findClass_of_methodNamed B.named
  have hlocks := B.notSynchronized
  subst hsz
  have hD := hD0.self (sz := s.heap.size)
  generalize hAe : va_A (mw y ce th r0 r1 r2 r3 dn ac sm) s.heap.size = A at hD hTb ⊢
  have hA : ∀ q : Nat, s.heap.size ≤ q → A q := fun q h => by rw [← hAe]; exact Or.inr h
  have hS : va_S A s.heap s.heap [] := va_S.rf
  have hin1 := inA1
  have hf32 := (hts _ wm_302)
  have hf16 := (hts _ wm_305)
  have hl := lv_entry ([.ref (y 0), .int q, .long e9]) (n := 5) (Nat.le_of_ble_eq_true rfl)
  rw [lg_entry_eq]
  generalize (lg_sl ([.ref (y 0), .int q, .long e9]) ++ List.replicate (5 - (lg_sl ([.ref (y 0), .int q, .long e9])).length) Slot.unset).toArray = ls at hl ⊢
  have hl : lv_has ls 5 [(0, .ref (y 0)), (1, .int q), (2, .long e9)] := hl
  have J16 : ∀ (tv : Int32), ((tv = 0 ∧ (0 ≤ q.toInt ∧ q.toInt < 8)) ∨ (tv = 1 ∧ ¬ ((0 ≤ q.toInt ∧ q.toInt < 8)))) → W p l e ((headSpec wsX1_row ({ frames := 0, cells := 0, slots := 0, locals := 0 } : Room)).room) s m (([.ref (y 0), .int q, .long e9] : List Value).toArray) below meth c s.heap [] 0 0 (MQ below (va_Qv (fun (u9 : Int32 × (Nat → Int32)) => match u9 with | (t9, u) => (t9 = 0 ∧ (0 ≤ q.toInt ∧ q.toInt < 8) ∧ ∀ a b, a < 8 → b < 8 → u (a * 8 + b) = if a = q.toInt.toNat then rowR e9 b else r2 (a * 8 + b)) ∨ (t9 = 1 ∧ ¬ (0 ≤ q.toInt ∧ q.toInt < 8) ∧ u = r2)) (fun (u9 : Int32 × (Nat → Int32)) (t : State) => match u9 with | (t9, u) => crB D (mw y ce t9 r0 r1 u r3 dn ac sm) (mty ce) A t) A) ([.ref (y 0), .int q, .long e9] : List Value).toArray s 0 0 A) (F0 m 16 ls [.int tv, .ref (y 0)]) := by
    intro tv htv
    rcases htv with ⟨rfl, hok⟩ | ⟨rfl, hno⟩
    · skip
      obtain ⟨j9, hj9, hej⟩ := cx_ofN (x := q) (n := 8) (by omega) (by omega) (by decide)
      have e_1 : q = nI j9 := hej
      rw [e_1] at hl
      refine va_put (D := D) (ci := 1) (v := .int (0 : Int32)) (ty := .int) (C := RX1) (T := TX1) (N := 8) hx hb hts hin1 tyX1 tyX1_ok nmX1 hown hK hP hD hS 0 rfl rfl 0 (by decide) hf32 (fun _ h9 => h9) rfl (by decide +kernel) rfl rfl (Nat.le_of_ble_eq_true rfl) dX1_row_16 (fun H locs hP hD hS => ?_)
      have hP : va_P D vwCl (mw y ce (0 : Int32) r0 r1 r2 r3 dn ac sm) H := hP
      have hD : va_D A (mw y ce (0 : Int32) r0 r1 r2 r3 dn ac sm) := hD
      refine lv_iconst (v := (0 : Int32)) hx hb dX1_row_19 (by decide +kernel) ?_
      refine lv_istore (lv' := [(4, .int (0 : Int32)), (0, .ref (y 0)), (1, .int (nI j9)), (2, .long e9)]) hx hb dX1_row_20 hl (by decide) rfl (fun ls hl => ?_)
      have L22 : ∀ (n : Nat) (x9 : Nat) (w9 : Nat → Int32) (H : Heap) (locs : List Loc) (ls : Array Slot), (8 - x9) < n → (x9 ≤ 8) → (∀ a b, a < 8 → b < 8 → w9 (a * 8 + b) = if a = j9 ∧ b < x9 then rowR e9 b else r2 (a * 8 + b)) → va_P D vwCl (mw y ce (0 : Int32) r0 r1 w9 r3 dn ac sm) H → va_D A (mw y ce (0 : Int32) r0 r1 w9 r3 dn ac sm) → va_S A s.heap H locs → lv_has ls 5 [(0, .ref (y 0)), (1, .int (nI j9)), (2, .long e9), (4, .int (nI x9))] → W p l e ((headSpec wsX1_row ({ frames := 0, cells := 0, slots := 0, locals := 0 } : Room)).room) s m (([.ref (y 0), .int q, .long e9] : List Value).toArray) below meth c H locs 0 0 (MQ below (va_Qv (fun (u9 : Int32 × (Nat → Int32)) => match u9 with | (t9, u) => (t9 = 0 ∧ (0 ≤ q.toInt ∧ q.toInt < 8) ∧ ∀ a b, a < 8 → b < 8 → u (a * 8 + b) = if a = q.toInt.toNat then rowR e9 b else r2 (a * 8 + b)) ∨ (t9 = 1 ∧ ¬ (0 ≤ q.toInt ∧ q.toInt < 8) ∧ u = r2)) (fun (u9 : Int32 × (Nat → Int32)) (t : State) => match u9 with | (t9, u) => crB D (mw y ce t9 r0 r1 u r3 dn ac sm) (mty ce) A t) A) ([.ref (y 0), .int q, .long e9] : List Value).toArray s 0 0 A) (F0 m 22 ls []) := by
        intro n
        induction n with
        | zero =>
          intro x9 w9 H locs ls hn
          exact absurd hn (Nat.not_lt_zero _)
        | succ n ih22 =>
          intro x9 w9 H locs ls hn22 hx9 hw9 hP hD hS hl
          refine lv_iload hx hb dX1_row_22 (lv_at hl 3 rfl) ?_
          refine lv_bipush (v := (8 : Int32)) hx hb dX1_row_24 (by decide +kernel) ?_
          refine cx_icmp_ge (i := ((x9 : Nat) : Int)) (j := 8) (tgt := 69) hx hb (nI_toInt (by omega)) (by decide +kernel) dX1_row_26 (by decide) (fun c_2 => ?_) (fun c_2 => ?_)
          · exact W.vret hx hb hr (fun t ht hW => ⟨⟨((0 : Int32), w9), rfl, (by
                                           obtain rfl : x9 = 8 := by omega
                                           refine Or.inl ⟨rfl, hok, fun a b ha9 hb9 => ?_⟩
                                           rw [hw9 a b ha9 hb9, hej, cx_toNat (by omega)]
                                           by_cases hz : a = j9
                                           · rw [if_pos hz, if_pos (by omega)]
                                           · rw [if_neg hz, if_neg (by omega)]), by rw [ht]; exact hP, va_K.moved hW.alike hK, hD⟩, hS.F ht⟩) hS.2.2 dX1_row_69
          · refine lv_aload_n hx hb dX1_row_29 rfl (lv_at hl 0 rfl) ?_
            refine va_get (D := D) (ci := 1) (v := .int (0 : Int32)) (C := RX1) (T := TX1) (N := 8) hx hb hts hin1 hown hK hP 0 rfl rfl 0 (by decide) hf32 (fun _ h9 => h9) rfl dX1_row_30 ?_
            refine cx_if_ne (i := 0) (j := 0) (tgt := 69) hx hb (by decide +kernel) rfl dX1_row_33 (by decide) (fun c_3 => absurd c_3 (by decide)) (fun c_3 => ?_)
            refine lv_aload_n hx hb dX1_row_36 rfl (lv_at hl 0 rfl) ?_
            refine va_get (D := D) (ci := 1) (v := .ref (y 3)) (C := RX1) (T := TX1) (N := 8) hx hb hts hin1 hown hK hP 0 rfl rfl 3 (by decide) hf16 (fun _ h9 => h9) rfl dX1_row_37 ?_
            refine lv_bipush (v := (8 : Int32)) hx hb dX1_row_40 (by decide +kernel) ?_
            refine lv_iload_n hx hb dX1_row_42 rfl (lv_at hl 1 rfl) ?_
            refine cx_imul hx hb 8 j9 dX1_row_43 ?_
            refine lv_iload hx hb dX1_row_44 (lv_at hl 3 rfl) ?_
            refine cx_iadd hx hb (8 * j9) x9 dX1_row_46 ?_
            rw [show 8 * j9 + x9 = j9 * 8 + x9 from by omega]
            refine lv_lload_n hx hb dX1_row_47 rfl (lv_at hl 2 rfl) ?_
            refine lv_bipush (v := (56 : Int32)) hx hb dX1_row_48 (by decide +kernel) ?_
            refine lv_bipush (v := (8 : Int32)) hx hb dX1_row_50 (by decide +kernel) ?_
            refine lv_iload hx hb dX1_row_52 (lv_at hl 3 rfl) ?_
            refine cx_imul hx hb 8 x9 dX1_row_54 ?_
            refine cx_isub hx hb 56 (8 * x9) (by omega) dX1_row_55 ?_
            refine lv_lshr hx hb dX1_row_56 rfl ?_
            refine lv_ldc2 (v := (255 : Int64)) hx hb hown (hts _ wm_350) dX1_row_57 ?_
            refine lv_land hx hb dX1_row_60 ?_
            refine lv_l2i hx hb dX1_row_61 rfl ?_
            refine cx_iast hx hb hK hP hD hS 3 2 rfl rfl (j9 * 8 + x9) (by omega) (by decide) dX1_row_62 (fun H locs hP hD hS => ?_)
            have hP : va_P D vwCl (mw y ce (0 : Int32) r0 r1 (upd w9 (j9 * 8 + x9) (((e9 >>> ((nI (56 - (8 * x9))).toInt64 &&& 63)) &&& (255 : Int64)).toInt32)) r3 dn ac sm) H := hP
            have hD : va_D A (mw y ce (0 : Int32) r0 r1 (upd w9 (j9 * 8 + x9) (((e9 >>> ((nI (56 - (8 * x9))).toInt64 &&& 63)) &&& (255 : Int64)).toInt32)) r3 dn ac sm) := hD
            refine lv_iinc (v := nI (x9 + 1)) (lv' := [(4, .int (nI (x9 + 1))), (0, .ref (y 0)), (1, .int (nI j9)), (2, .long e9)]) hx hb dX1_row_63 hl (k := 3) rfl (by show nI x9 + 1 = nI (x9 + 1); exact nI_add x9 1) (by decide) rfl (fun ls hl => ?_)
            refine lv_goto (tgt := 22) hx hb dX1_row_66 (by decide) ?_
            exact ih22 (x9 + 1) (upd w9 (j9 * 8 + x9) (((e9 >>> ((nI (56 - (8 * x9))).toInt64 &&& 63)) &&& (255 : Int64)).toInt32)) _ _ _ (by omega) (by omega) (by
                intro a b ha9 hb9
                by_cases hq : a * 8 + b = j9 * 8 + x9
                · obtain rfl : j9 = a := by omega
                  obtain rfl : x9 = b := by omega
                  rw [if_pos (by omega)]; exact pk_us
                · rw [pk_un hq, hw9 a b ha9 hb9]
                  by_cases hz : a = j9 ∧ b < x9
                  · rw [if_pos hz, if_pos (by omega)]
                  · rw [if_neg hz, if_neg (by omega)]) hP hD hS (lv_sub hl [1, 2, 3, 0] rfl)
      exact L22 _ 0 r2 _ _ _ (Nat.lt_succ_self _) (Nat.zero_le _) (fun a b _ _ => by rw [if_neg (by omega)]) hP hD hS (lv_sub hl [1, 2, 3, 0] rfl)
    · skip
      refine va_put (D := D) (ci := 1) (v := .int (1 : Int32)) (ty := .int) (C := RX1) (T := TX1) (N := 8) hx hb hts hin1 tyX1 tyX1_ok nmX1 hown hK hP hD hS 0 rfl rfl 0 (by decide) hf32 (fun _ h9 => h9) rfl (by decide +kernel) rfl rfl (Nat.le_of_ble_eq_true rfl) dX1_row_16 (fun H locs hP hD hS => ?_)
      have hP : va_P D vwCl (mw y ce (1 : Int32) r0 r1 r2 r3 dn ac sm) H := hP
      have hD : va_D A (mw y ce (1 : Int32) r0 r1 r2 r3 dn ac sm) := hD
      refine lv_iconst (v := (0 : Int32)) hx hb dX1_row_19 (by decide +kernel) ?_
      refine lv_istore (lv' := [(4, .int (0 : Int32)), (0, .ref (y 0)), (1, .int q), (2, .long e9)]) hx hb dX1_row_20 hl (by decide) rfl (fun ls hl => ?_)
      refine lv_iload hx hb dX1_row_22 (lv_at hl 0 rfl) ?_
      refine lv_bipush (v := (8 : Int32)) hx hb dX1_row_24 (by decide +kernel) ?_
      refine cx_icmp_ge (i := 0) (j := 8) (tgt := 69) hx hb (by decide +kernel) (by decide +kernel) dX1_row_26 (by decide) (fun c_4 => absurd c_4 (by decide)) (fun c_4 => ?_)
      refine lv_aload_n hx hb dX1_row_29 rfl (lv_at hl 1 rfl) ?_
      refine va_get (D := D) (ci := 1) (v := .int (1 : Int32)) (C := RX1) (T := TX1) (N := 8) hx hb hts hin1 hown hK hP 0 rfl rfl 0 (by decide) hf32 (fun _ h9 => h9) rfl dX1_row_30 ?_
      refine cx_if_ne (i := 1) (j := 0) (tgt := 69) hx hb (by decide +kernel) rfl dX1_row_33 (by decide) (fun c_5 => ?_) (fun c_5 => absurd c_5 (by decide))
      exact W.vret hx hb hr (fun t ht hW => ⟨⟨((1 : Int32), r2), rfl, Or.inr ⟨rfl, hno, rfl⟩, by rw [ht]; exact hP, va_K.moved hW.alike hK, hD⟩, hS.F ht⟩) hS.2.2 dX1_row_69
  refine lv_aload_n hx hb dX1_row_0 rfl (lv_at hl 0 rfl) ?_
  refine lv_iload_n hx hb dX1_row_1 rfl (lv_at hl 1 rfl) ?_
  refine cx_if_lt (i := q.toInt) (j := 0) (tgt := 11) hx hb rfl rfl dX1_row_2 (by decide) (fun c_6 => ?_) (fun c_6 => ?_)
  · refine lv_iconst (v := (1 : Int32)) hx hb dX1_row_11 (by decide +kernel) ?_
    refine lv_goto (tgt := 16) hx hb dX1_row_12 (by decide) ?_
    exact J16 (1 : Int32) (Or.inr ⟨rfl, by omega⟩)
  · refine lv_iload_n hx hb dX1_row_5 rfl (lv_at hl 1 rfl) ?_
    refine lv_bipush (v := (7 : Int32)) hx hb dX1_row_6 (by decide +kernel) ?_
    refine cx_icmp_le (i := q.toInt) (j := 7) (tgt := 15) hx hb rfl (by decide +kernel) dX1_row_8 (by decide) (fun c_7 => ?_) (fun c_7 => ?_)
    · refine lv_iconst (v := (0 : Int32)) hx hb dX1_row_15 (by decide +kernel) ?_
      exact J16 (0 : Int32) (Or.inl ⟨rfl, by omega⟩)
    · refine lv_iconst (v := (1 : Int32)) hx hb dX1_row_11 (by decide +kernel) ?_
      refine lv_goto (tgt := 16) hx hb dX1_row_12 (by decide) ?_
      exact J16 (1 : Int32) (Or.inr ⟨rfl, by omega⟩)
