theorem dX0_isPlace_0 : decode cX0_isPlace 0 = .ok (.iload_n 0, 1) := by decide +kernel
theorem dX0_isPlace_1 : decode cX0_isPlace 1 = .ok (.ifCond .lt 13, 3) := by decide +kernel
theorem dX0_isPlace_4 : decode cX0_isPlace 4 = .ok (.iload_n 0, 1) := by decide +kernel
theorem dX0_isPlace_5 : decode cX0_isPlace 5 = .ok (.bipush 64, 2) := by decide +kernel
theorem dX0_isPlace_7 : decode cX0_isPlace 7 = .ok (.if_icmp .ge 7, 3) := by decide +kernel
theorem dX0_isPlace_10 : decode cX0_isPlace 10 = .ok (.iconst 1, 1) := by decide +kernel
theorem dX0_isPlace_11 : decode cX0_isPlace 11 = .ok (.goto 4, 3) := by decide +kernel
theorem dX0_isPlace_14 : decode cX0_isPlace 14 = .ok (.iconst 0, 1) := by decide +kernel
theorem dX0_isPlace_15 : decode cX0_isPlace 15 = .ok (.ireturn, 1) := by decide +kernel
theorem dX0_isLine_0 : decode cX0_isLine 0 = .ok (.iload_n 0, 1) := by decide +kernel
theorem dX0_isLine_1 : decode cX0_isLine 1 = .ok (.ifCond .lt 13, 3) := by decide +kernel
theorem dX0_isLine_4 : decode cX0_isLine 4 = .ok (.iload_n 0, 1) := by decide +kernel
theorem dX0_isLine_5 : decode cX0_isLine 5 = .ok (.bipush 8, 2) := by decide +kernel
theorem dX0_isLine_7 : decode cX0_isLine 7 = .ok (.if_icmp .ge 7, 3) := by decide +kernel
theorem dX0_isLine_10 : decode cX0_isLine 10 = .ok (.iconst 1, 1) := by decide +kernel
theorem dX0_isLine_11 : decode cX0_isLine 11 = .ok (.goto 4, 3) := by decide +kernel
theorem dX0_isLine_14 : decode cX0_isLine 14 = .ok (.iconst 0, 1) := by decide +kernel
theorem dX0_isLine_15 : decode cX0_isLine 15 = .ok (.ireturn, 1) := by decide +kernel
theorem dX0_spreadOf_0 : decode cX0_spreadOf 0 = .ok (.iload_n 0, 1) := by decide +kernel
theorem dX0_spreadOf_1 : decode cX0_spreadOf 1 = .ok (.tableswitch 56 1 8 #[47, 50, 56, 52, 56, 56, 56, 54], 47) := by decide +kernel
theorem dX0_spreadOf_48 : decode cX0_spreadOf 48 = .ok (.bipush 8, 2) := by decide +kernel
theorem dX0_spreadOf_50 : decode cX0_spreadOf 50 = .ok (.ireturn, 1) := by decide +kernel
theorem dX0_spreadOf_51 : decode cX0_spreadOf 51 = .ok (.iconst 4, 1) := by decide +kernel
theorem dX0_spreadOf_52 : decode cX0_spreadOf 52 = .ok (.ireturn, 1) := by decide +kernel
theorem dX0_spreadOf_53 : decode cX0_spreadOf 53 = .ok (.iconst 2, 1) := by decide +kernel
theorem dX0_spreadOf_54 : decode cX0_spreadOf 54 = .ok (.ireturn, 1) := by decide +kernel
theorem dX0_spreadOf_55 : decode cX0_spreadOf 55 = .ok (.iconst 1, 1) := by decide +kernel
theorem dX0_spreadOf_56 : decode cX0_spreadOf 56 = .ok (.ireturn, 1) := by decide +kernel
theorem dX0_spreadOf_57 : decode cX0_spreadOf 57 = .ok (.iconst 0, 1) := by decide +kernel
theorem dX0_spreadOf_58 : decode cX0_spreadOf 58 = .ok (.ireturn, 1) := by decide +kernel
theorem dX0_cosine_0 : decode cX0_cosine 0 = .ok (.iload_n 0, 1) := by decide +kernel
theorem dX0_cosine_1 : decode cX0_cosine 1 = .ok (.bipush 31, 2) := by decide +kernel
theorem dX0_cosine_3 : decode cX0_cosine 3 = .ok (.iand, 1) := by decide +kernel
theorem dX0_cosine_4 : decode cX0_cosine 4 = .ok (.istore_n 1, 1) := by decide +kernel
theorem dX0_cosine_5 : decode cX0_cosine 5 = .ok (.iload_n 1, 1) := by decide +kernel
theorem dX0_cosine_6 : decode cX0_cosine 6 = .ok (.bipush 8, 2) := by decide +kernel
theorem dX0_cosine_8 : decode cX0_cosine 8 = .ok (.if_icmp .gt 9, 3) := by decide +kernel
theorem dX0_cosine_11 : decode cX0_cosine 11 = .ok (.getstatic 110, 3) := by decide +kernel
theorem dX0_cosine_14 : decode cX0_cosine 14 = .ok (.iload_n 1, 1) := by decide +kernel
theorem dX0_cosine_15 : decode cX0_cosine 15 = .ok (.iaload, 1) := by decide +kernel
theorem dX0_cosine_16 : decode cX0_cosine 16 = .ok (.ireturn, 1) := by decide +kernel
theorem dX0_cosine_17 : decode cX0_cosine 17 = .ok (.iload_n 1, 1) := by decide +kernel
theorem dX0_cosine_18 : decode cX0_cosine 18 = .ok (.bipush 16, 2) := by decide +kernel
theorem dX0_cosine_20 : decode cX0_cosine 20 = .ok (.if_icmp .gt 13, 3) := by decide +kernel
theorem dX0_cosine_23 : decode cX0_cosine 23 = .ok (.getstatic 110, 3) := by decide +kernel
theorem dX0_cosine_26 : decode cX0_cosine 26 = .ok (.bipush 16, 2) := by decide +kernel
theorem dX0_cosine_28 : decode cX0_cosine 28 = .ok (.iload_n 1, 1) := by decide +kernel
theorem dX0_cosine_29 : decode cX0_cosine 29 = .ok (.isub, 1) := by decide +kernel
theorem dX0_cosine_30 : decode cX0_cosine 30 = .ok (.iaload, 1) := by decide +kernel
theorem dX0_cosine_31 : decode cX0_cosine 31 = .ok (.ineg, 1) := by decide +kernel
theorem dX0_cosine_32 : decode cX0_cosine 32 = .ok (.ireturn, 1) := by decide +kernel
theorem dX0_cosine_33 : decode cX0_cosine 33 = .ok (.iload_n 1, 1) := by decide +kernel
theorem dX0_cosine_34 : decode cX0_cosine 34 = .ok (.bipush 24, 2) := by decide +kernel
theorem dX0_cosine_36 : decode cX0_cosine 36 = .ok (.if_icmp .gt 13, 3) := by decide +kernel
theorem dX0_cosine_39 : decode cX0_cosine 39 = .ok (.getstatic 110, 3) := by decide +kernel
theorem dX0_cosine_42 : decode cX0_cosine 42 = .ok (.iload_n 1, 1) := by decide +kernel
theorem dX0_cosine_43 : decode cX0_cosine 43 = .ok (.bipush 16, 2) := by decide +kernel
theorem dX0_cosine_45 : decode cX0_cosine 45 = .ok (.isub, 1) := by decide +kernel
theorem dX0_cosine_46 : decode cX0_cosine 46 = .ok (.iaload, 1) := by decide +kernel
theorem dX0_cosine_47 : decode cX0_cosine 47 = .ok (.ineg, 1) := by decide +kernel
theorem dX0_cosine_48 : decode cX0_cosine 48 = .ok (.ireturn, 1) := by decide +kernel
theorem dX0_cosine_49 : decode cX0_cosine 49 = .ok (.getstatic 110, 3) := by decide +kernel
theorem dX0_cosine_52 : decode cX0_cosine 52 = .ok (.bipush 32, 2) := by decide +kernel
theorem dX0_cosine_54 : decode cX0_cosine 54 = .ok (.iload_n 1, 1) := by decide +kernel
theorem dX0_cosine_55 : decode cX0_cosine 55 = .ok (.isub, 1) := by decide +kernel
theorem dX0_cosine_56 : decode cX0_cosine 56 = .ok (.iaload, 1) := by decide +kernel
theorem dX0_cosine_57 : decode cX0_cosine 57 = .ok (.ireturn, 1) := by decide +kernel
theorem dX0_waveAt_0 : decode cX0_waveAt 0 = .ok (.iload_n 1, 1) := by decide +kernel
theorem dX0_waveAt_1 : decode cX0_waveAt 1 = .ok (.ifCond .ne 11, 3) := by decide +kernel
theorem dX0_waveAt_4 : decode cX0_waveAt 4 = .ok (.getstatic 110, 3) := by decide +kernel
theorem dX0_waveAt_7 : decode cX0_waveAt 7 = .ok (.iconst 4, 1) := by decide +kernel
theorem dX0_waveAt_8 : decode cX0_waveAt 8 = .ok (.iaload, 1) := by decide +kernel
theorem dX0_waveAt_9 : decode cX0_waveAt 9 = .ok (.goto 15, 3) := by decide +kernel
theorem dX0_waveAt_12 : decode cX0_waveAt 12 = .ok (.iconst 2, 1) := by decide +kernel
theorem dX0_waveAt_13 : decode cX0_waveAt 13 = .ok (.iload_n 2, 1) := by decide +kernel
theorem dX0_waveAt_14 : decode cX0_waveAt 14 = .ok (.imul, 1) := by decide +kernel
theorem dX0_waveAt_15 : decode cX0_waveAt 15 = .ok (.iconst 1, 1) := by decide +kernel
theorem dX0_waveAt_16 : decode cX0_waveAt 16 = .ok (.iadd, 1) := by decide +kernel
theorem dX0_waveAt_17 : decode cX0_waveAt 17 = .ok (.iload_n 1, 1) := by decide +kernel
theorem dX0_waveAt_18 : decode cX0_waveAt 18 = .ok (.imul, 1) := by decide +kernel
theorem dX0_waveAt_19 : decode cX0_waveAt 19 = .ok (.iload_n 0, 1) := by decide +kernel
theorem dX0_waveAt_20 : decode cX0_waveAt 20 = .ok (.imul, 1) := by decide +kernel
theorem dX0_waveAt_21 : decode cX0_waveAt 21 = .ok (.invokestatic 113, 3) := by decide +kernel
theorem dX0_waveAt_24 : decode cX0_waveAt 24 = .ok (.ireturn, 1) := by decide +kernel
theorem dX0_rounded_0 : decode cX0_rounded 0 = .ok (.lload_n 0, 1) := by decide +kernel
theorem dX0_rounded_1 : decode cX0_rounded 1 = .ok (.lconst 1, 1) := by decide +kernel
theorem dX0_rounded_2 : decode cX0_rounded 2 = .ok (.iload_n 2, 1) := by decide +kernel
theorem dX0_rounded_3 : decode cX0_rounded 3 = .ok (.iconst 1, 1) := by decide +kernel
theorem dX0_rounded_4 : decode cX0_rounded 4 = .ok (.isub, 1) := by decide +kernel
theorem dX0_rounded_5 : decode cX0_rounded 5 = .ok (.lshl, 1) := by decide +kernel
theorem dX0_rounded_6 : decode cX0_rounded 6 = .ok (.ladd, 1) := by decide +kernel
theorem dX0_rounded_7 : decode cX0_rounded 7 = .ok (.iload_n 2, 1) := by decide +kernel
theorem dX0_rounded_8 : decode cX0_rounded 8 = .ok (.lshr, 1) := by decide +kernel
theorem dX0_rounded_9 : decode cX0_rounded 9 = .ok (.lreturn, 1) := by decide +kernel
theorem dX0_clamped_0 : decode cX0_clamped 0 = .ok (.lload_n 0, 1) := by decide +kernel
theorem dX0_clamped_1 : decode cX0_clamped 1 = .ok (.iload_n 2, 1) := by decide +kernel
theorem dX0_clamped_2 : decode cX0_clamped 2 = .ok (.i2l, 1) := by decide +kernel
theorem dX0_clamped_3 : decode cX0_clamped 3 = .ok (.lcmp, 1) := by decide +kernel
theorem dX0_clamped_4 : decode cX0_clamped 4 = .ok (.ifCond .ge 5, 3) := by decide +kernel
theorem dX0_clamped_7 : decode cX0_clamped 7 = .ok (.iload_n 2, 1) := by decide +kernel
theorem dX0_clamped_8 : decode cX0_clamped 8 = .ok (.ireturn, 1) := by decide +kernel
theorem dX0_clamped_9 : decode cX0_clamped 9 = .ok (.lload_n 0, 1) := by decide +kernel
theorem dX0_clamped_10 : decode cX0_clamped 10 = .ok (.iload_n 3, 1) := by decide +kernel
theorem dX0_clamped_11 : decode cX0_clamped 11 = .ok (.i2l, 1) := by decide +kernel
theorem dX0_clamped_12 : decode cX0_clamped 12 = .ok (.lcmp, 1) := by decide +kernel
theorem dX0_clamped_13 : decode cX0_clamped 13 = .ok (.ifCond .le 7, 3) := by decide +kernel
theorem dX0_clamped_16 : decode cX0_clamped 16 = .ok (.iload_n 3, 1) := by decide +kernel
theorem dX0_clamped_17 : decode cX0_clamped 17 = .ok (.goto 5, 3) := by decide +kernel
theorem dX0_clamped_20 : decode cX0_clamped 20 = .ok (.lload_n 0, 1) := by decide +kernel
theorem dX0_clamped_21 : decode cX0_clamped 21 = .ok (.l2i, 1) := by decide +kernel
theorem dX0_clamped_22 : decode cX0_clamped 22 = .ok (.ireturn, 1) := by decide +kernel
theorem dX0_nearest_0 : decode cX0_nearest 0 = .ok (.iload_n 1, 1) := by decide +kernel
theorem dX0_nearest_1 : decode cX0_nearest 1 = .ok (.iconst 1, 1) := by decide +kernel
theorem dX0_nearest_2 : decode cX0_nearest 2 = .ok (.if_icmp .ge 5, 3) := by decide +kernel
theorem dX0_nearest_5 : decode cX0_nearest 5 = .ok (.iconst 0, 1) := by decide +kernel
theorem dX0_nearest_6 : decode cX0_nearest 6 = .ok (.ireturn, 1) := by decide +kernel
theorem dX0_nearest_7 : decode cX0_nearest 7 = .ok (.iconst 2, 1) := by decide +kernel
theorem dX0_nearest_8 : decode cX0_nearest 8 = .ok (.iload_n 0, 1) := by decide +kernel
theorem dX0_nearest_9 : decode cX0_nearest 9 = .ok (.invokestatic 116, 3) := by decide +kernel
theorem dX0_nearest_12 : decode cX0_nearest 12 = .ok (.imul, 1) := by decide +kernel
theorem dX0_nearest_13 : decode cX0_nearest 13 = .ok (.iload_n 1, 1) := by decide +kernel
theorem dX0_nearest_14 : decode cX0_nearest 14 = .ok (.iadd, 1) := by decide +kernel
theorem dX0_nearest_15 : decode cX0_nearest 15 = .ok (.iconst 2, 1) := by decide +kernel
theorem dX0_nearest_16 : decode cX0_nearest 16 = .ok (.iload_n 1, 1) := by decide +kernel
theorem dX0_nearest_17 : decode cX0_nearest 17 = .ok (.imul, 1) := by decide +kernel
theorem dX0_nearest_18 : decode cX0_nearest 18 = .ok (.idiv, 1) := by decide +kernel
theorem dX0_nearest_19 : decode cX0_nearest 19 = .ok (.istore_n 2, 1) := by decide +kernel
theorem dX0_nearest_20 : decode cX0_nearest 20 = .ok (.iload_n 0, 1) := by decide +kernel
theorem dX0_nearest_21 : decode cX0_nearest 21 = .ok (.ifCond .ge 8, 3) := by decide +kernel
theorem dX0_nearest_24 : decode cX0_nearest 24 = .ok (.iload_n 2, 1) := by decide +kernel
theorem dX0_nearest_25 : decode cX0_nearest 25 = .ok (.ineg, 1) := by decide +kernel
theorem dX0_nearest_26 : decode cX0_nearest 26 = .ok (.goto 4, 3) := by decide +kernel
theorem dX0_nearest_29 : decode cX0_nearest 29 = .ok (.iload_n 2, 1) := by decide +kernel
theorem dX0_nearest_30 : decode cX0_nearest 30 = .ok (.ireturn, 1) := by decide +kernel
set_option maxHeartbeats 4000000 in
set_option maxRecDepth 100000 in
/-- isPlace -/
theorem m_isPlace (l : Launch) (D : va_G) (q : Int32) : Met l yX0_isPlace wsX0_isPlace ({ frames := 0, cells := 0, slots := 0, locals := 0 } : Room) (va_Pc [.int q] (cro D ([]) ([]))) (vp_Si (fun r => (r = 1 ∧ 0 ≤ q.toInt ∧ q.toInt < 64) ∨ (r = 0 ∧ ¬ (0 ≤ q.toInt ∧ q.toInt < 64)))) 0 0 (fun _ => False) := by
  refine Met.ofW (cc := cX0_isPlace) (maxL := 1) (ret := some .boolean) (by decide) rfl ?_
  intro p e s m args below meth c s₁ B hml hv
  obtain ⟨rfl, hP, hK, hTb⟩ := hv
  have hx := B.exec
  have hb := B.bytes
  have hr := B.returns
  have hts : ∀ w ∈ wA, w.before _ s = true := fun w h => atoms_spec (ws := wsX0_isPlace) B.pre w (List.mem_cons_of_mem _ h)
  have hown : s.vm.findClass RX0 = some m.cls := findClass_of_methodNamed B.named
  have hlocks := B.notSynchronized
  have hS : va_S (fun _ => False) s.heap s.heap [] := va_S.rf
  have hl := lv_entry ([.int q]) (n := 1) (Nat.le_of_ble_eq_true rfl)
  rw [lg_entry_eq]
  generalize (lg_sl ([.int q]) ++ List.replicate (1 - (lg_sl ([.int q])).length) Slot.unset).toArray = ls at hl ⊢
  have hl : lv_has ls 1 [(0, .int q)] := hl
  refine lv_iload_n hx hb dX0_isPlace_0 rfl (lv_at hl 0 rfl) ?_
  refine cx_if_lt (i := q.toInt) (j := 0) (tgt := 14) hx hb rfl rfl dX0_isPlace_1 (by decide) (fun c_1 => ?_) (fun c_1 => ?_)
  · refine lv_iconst (v := (0 : Int32)) hx hb dX0_isPlace_14 (by decide +kernel) ?_
    exact W.zret (v := (0 : Int32)) (ty := .boolean) hx hb hr (by decide) (fun t ht hW => ⟨_, rfl, Or.inr ⟨rfl, by omega⟩, ht⟩) (fun _ h9 => by cases h9) dX0_isPlace_15
  · refine lv_iload_n hx hb dX0_isPlace_4 rfl (lv_at hl 0 rfl) ?_
    refine lv_bipush (v := (64 : Int32)) hx hb dX0_isPlace_5 (by decide +kernel) ?_
    refine cx_icmp_ge (i := q.toInt) (j := 64) (tgt := 14) hx hb rfl (by decide +kernel) dX0_isPlace_7 (by decide) (fun c_2 => ?_) (fun c_2 => ?_)
    · refine lv_iconst (v := (0 : Int32)) hx hb dX0_isPlace_14 (by decide +kernel) ?_
      exact W.zret (v := (0 : Int32)) (ty := .boolean) hx hb hr (by decide) (fun t ht hW => ⟨_, rfl, Or.inr ⟨rfl, by omega⟩, ht⟩) (fun _ h9 => by cases h9) dX0_isPlace_15
    · refine lv_iconst (v := (1 : Int32)) hx hb dX0_isPlace_10 (by decide +kernel) ?_
      refine lv_goto (tgt := 15) hx hb dX0_isPlace_11 (by decide) ?_
      exact W.zret (v := (1 : Int32)) (ty := .boolean) hx hb hr (by decide) (fun t ht hW => ⟨_, rfl, Or.inl ⟨rfl, by omega, by omega⟩, ht⟩) (fun _ h9 => by cases h9) dX0_isPlace_15
set_option maxHeartbeats 4000000 in
set_option maxRecDepth 100000 in
/-- isLine -/
theorem m_isLine (l : Launch) (D : va_G) (q : Int32) : Met l yX0_isLine wsX0_isLine ({ frames := 0, cells := 0, slots := 0, locals := 0 } : Room) (va_Pc [.int q] (cro D ([]) ([]))) (vp_Si (fun r => (r = 1 ∧ 0 ≤ q.toInt ∧ q.toInt < 8) ∨ (r = 0 ∧ ¬ (0 ≤ q.toInt ∧ q.toInt < 8)))) 0 0 (fun _ => False) := by
  refine Met.ofW (cc := cX0_isLine) (maxL := 1) (ret := some .boolean) (by decide) rfl ?_
  intro p e s m args below meth c s₁ B hml hv
  obtain ⟨rfl, hP, hK, hTb⟩ := hv
  have hx := B.exec
  have hb := B.bytes
  have hr := B.returns
  have hts : ∀ w ∈ wA, w.before _ s = true := fun w h => atoms_spec (ws := wsX0_isLine) B.pre w (List.mem_cons_of_mem _ h)
  have hown : s.vm.findClass RX0 = some m.cls := findClass_of_methodNamed B.named
  have hlocks := B.notSynchronized
  have hS : va_S (fun _ => False) s.heap s.heap [] := va_S.rf
  have hl := lv_entry ([.int q]) (n := 1) (Nat.le_of_ble_eq_true rfl)
  rw [lg_entry_eq]
  generalize (lg_sl ([.int q]) ++ List.replicate (1 - (lg_sl ([.int q])).length) Slot.unset).toArray = ls at hl ⊢
  have hl : lv_has ls 1 [(0, .int q)] := hl
  refine lv_iload_n hx hb dX0_isLine_0 rfl (lv_at hl 0 rfl) ?_
  refine cx_if_lt (i := q.toInt) (j := 0) (tgt := 14) hx hb rfl rfl dX0_isLine_1 (by decide) (fun c_1 => ?_) (fun c_1 => ?_)
  · refine lv_iconst (v := (0 : Int32)) hx hb dX0_isLine_14 (by decide +kernel) ?_
    exact W.zret (v := (0 : Int32)) (ty := .boolean) hx hb hr (by decide) (fun t ht hW => ⟨_, rfl, Or.inr ⟨rfl, by omega⟩, ht⟩) (fun _ h9 => by cases h9) dX0_isLine_15
  · refine lv_iload_n hx hb dX0_isLine_4 rfl (lv_at hl 0 rfl) ?_
    refine lv_bipush (v := (8 : Int32)) hx hb dX0_isLine_5 (by decide +kernel) ?_
    refine cx_icmp_ge (i := q.toInt) (j := 8) (tgt := 14) hx hb rfl (by decide +kernel) dX0_isLine_7 (by decide) (fun c_2 => ?_) (fun c_2 => ?_)
    · refine lv_iconst (v := (0 : Int32)) hx hb dX0_isLine_14 (by decide +kernel) ?_
      exact W.zret (v := (0 : Int32)) (ty := .boolean) hx hb hr (by decide) (fun t ht hW => ⟨_, rfl, Or.inr ⟨rfl, by omega⟩, ht⟩) (fun _ h9 => by cases h9) dX0_isLine_15
    · refine lv_iconst (v := (1 : Int32)) hx hb dX0_isLine_10 (by decide +kernel) ?_
      refine lv_goto (tgt := 15) hx hb dX0_isLine_11 (by decide) ?_
      exact W.zret (v := (1 : Int32)) (ty := .boolean) hx hb hr (by decide) (fun t ht hW => ⟨_, rfl, Or.inl ⟨rfl, by omega, by omega⟩, ht⟩) (fun _ h9 => by cases h9) dX0_isLine_15
set_option maxHeartbeats 4000000 in
set_option maxRecDepth 100000 in
/-- 8 / n, or 0 -/
theorem m_spreadOf (l : Launch) (D : va_G) (q : Int32) : Met l yX0_spreadOf wsX0_spreadOf ({ frames := 0, cells := 0, slots := 0, locals := 0 } : Room) (va_Pc [.int q] (cro D ([]) ([]))) (vp_Si (fun r => (∃ nn sp : Nat, isSz q nn sp ∧ r = nI sp) ∨ (r = 0 ∧ noSz q))) 0 0 (fun _ => False) := by
  refine Met.ofW (cc := cX0_spreadOf) (maxL := 1) (ret := some .int) (by decide) rfl ?_
  intro p e s m args below meth c s₁ B hml hv
  obtain ⟨rfl, hP, hK, hTb⟩ := hv
  have hx := B.exec
  have hb := B.bytes
  have hr := B.returns
  have hts : ∀ w ∈ wA, w.before _ s = true := fun w h => atoms_spec (ws := wsX0_spreadOf) B.pre w (List.mem_cons_of_mem _ h)
  have hown : s.vm.findClass RX0 = some m.cls := findClass_of_methodNamed B.named
  have hlocks := B.notSynchronized
  have hS : va_S (fun _ => False) s.heap s.heap [] := va_S.rf
  have hl := lv_entry ([.int q]) (n := 1) (Nat.le_of_ble_eq_true rfl)
  rw [lg_entry_eq]
  generalize (lg_sl ([.int q]) ++ List.replicate (1 - (lg_sl ([.int q])).length) Slot.unset).toArray = ls at hl ⊢
  have hl : lv_has ls 1 [(0, .int q)] := hl
  refine lv_iload_n hx hb dX0_spreadOf_0 rfl (lv_at hl 0 rfl) ?_
  by_cases k_1 : q.toInt < 1 ∨ 8 < q.toInt
  · refine cx_tabO (i := q.toInt) (tgt := 57) hx hb rfl dX0_spreadOf_1 k_1 (by decide) ?_
    refine lv_iconst (v := (0 : Int32)) hx hb dX0_spreadOf_57 (by decide +kernel) ?_
    exact W.iret (v := (0 : Int32)) hx hb hr (fun t ht hW => ⟨_, rfl, Or.inr ⟨rfl, by unfold noSz; omega⟩, ht⟩) (fun _ h9 => by cases h9) dX0_spreadOf_58
  · have k_1 : q.toInt = 1 ∨ q.toInt = 2 ∨ q.toInt = 3 ∨ q.toInt = 4 ∨ q.toInt = 5 ∨ q.toInt = 6 ∨ q.toInt = 7 ∨ q.toInt = 8 := by omega
    rcases k_1 with k_1 | k_1 | k_1 | k_1 | k_1 | k_1 | k_1 | k_1
    · refine cx_tabI (i := q.toInt) (off := 47) (tgt := 48) hx hb rfl dX0_spreadOf_1 (by omega) (by omega) (by rw [k_1]; rfl) (by decide) ?_
      refine lv_bipush (v := (8 : Int32)) hx hb dX0_spreadOf_48 (by decide +kernel) ?_
      exact W.iret (v := (8 : Int32)) hx hb hr (fun t ht hW => ⟨_, rfl, Or.inl ⟨1, 8, ⟨Int32.toInt_inj.mp (k_1.trans (by decide +kernel)), Or.inl ⟨rfl, rfl⟩⟩, rfl⟩, ht⟩) (fun _ h9 => by cases h9) dX0_spreadOf_50
    · refine cx_tabI (i := q.toInt) (off := 50) (tgt := 51) hx hb rfl dX0_spreadOf_1 (by omega) (by omega) (by rw [k_1]; rfl) (by decide) ?_
      refine lv_iconst (v := (4 : Int32)) hx hb dX0_spreadOf_51 (by decide +kernel) ?_
      exact W.iret (v := (4 : Int32)) hx hb hr (fun t ht hW => ⟨_, rfl, Or.inl ⟨2, 4, ⟨Int32.toInt_inj.mp (k_1.trans (by decide +kernel)), Or.inr (Or.inl ⟨rfl, rfl⟩)⟩, rfl⟩, ht⟩) (fun _ h9 => by cases h9) dX0_spreadOf_52
    · refine cx_tabI (i := q.toInt) (off := 56) (tgt := 57) hx hb rfl dX0_spreadOf_1 (by omega) (by omega) (by rw [k_1]; rfl) (by decide) ?_
      refine lv_iconst (v := (0 : Int32)) hx hb dX0_spreadOf_57 (by decide +kernel) ?_
      exact W.iret (v := (0 : Int32)) hx hb hr (fun t ht hW => ⟨_, rfl, Or.inr ⟨rfl, by unfold noSz; omega⟩, ht⟩) (fun _ h9 => by cases h9) dX0_spreadOf_58
    · refine cx_tabI (i := q.toInt) (off := 52) (tgt := 53) hx hb rfl dX0_spreadOf_1 (by omega) (by omega) (by rw [k_1]; rfl) (by decide) ?_
      refine lv_iconst (v := (2 : Int32)) hx hb dX0_spreadOf_53 (by decide +kernel) ?_
      exact W.iret (v := (2 : Int32)) hx hb hr (fun t ht hW => ⟨_, rfl, Or.inl ⟨4, 2, ⟨Int32.toInt_inj.mp (k_1.trans (by decide +kernel)), Or.inr (Or.inr (Or.inl ⟨rfl, rfl⟩))⟩, rfl⟩, ht⟩) (fun _ h9 => by cases h9) dX0_spreadOf_54
    · refine cx_tabI (i := q.toInt) (off := 56) (tgt := 57) hx hb rfl dX0_spreadOf_1 (by omega) (by omega) (by rw [k_1]; rfl) (by decide) ?_
      refine lv_iconst (v := (0 : Int32)) hx hb dX0_spreadOf_57 (by decide +kernel) ?_
      exact W.iret (v := (0 : Int32)) hx hb hr (fun t ht hW => ⟨_, rfl, Or.inr ⟨rfl, by unfold noSz; omega⟩, ht⟩) (fun _ h9 => by cases h9) dX0_spreadOf_58
    · refine cx_tabI (i := q.toInt) (off := 56) (tgt := 57) hx hb rfl dX0_spreadOf_1 (by omega) (by omega) (by rw [k_1]; rfl) (by decide) ?_
      refine lv_iconst (v := (0 : Int32)) hx hb dX0_spreadOf_57 (by decide +kernel) ?_
      exact W.iret (v := (0 : Int32)) hx hb hr (fun t ht hW => ⟨_, rfl, Or.inr ⟨rfl, by unfold noSz; omega⟩, ht⟩) (fun _ h9 => by cases h9) dX0_spreadOf_58
    · refine cx_tabI (i := q.toInt) (off := 56) (tgt := 57) hx hb rfl dX0_spreadOf_1 (by omega) (by omega) (by rw [k_1]; rfl) (by decide) ?_
      refine lv_iconst (v := (0 : Int32)) hx hb dX0_spreadOf_57 (by decide +kernel) ?_
      exact W.iret (v := (0 : Int32)) hx hb hr (fun t ht hW => ⟨_, rfl, Or.inr ⟨rfl, by unfold noSz; omega⟩, ht⟩) (fun _ h9 => by cases h9) dX0_spreadOf_58
    · refine cx_tabI (i := q.toInt) (off := 54) (tgt := 55) hx hb rfl dX0_spreadOf_1 (by omega) (by omega) (by rw [k_1]; rfl) (by decide) ?_
      refine lv_iconst (v := (1 : Int32)) hx hb dX0_spreadOf_55 (by decide +kernel) ?_
      exact W.iret (v := (1 : Int32)) hx hb hr (fun t ht hW => ⟨_, rfl, Or.inl ⟨8, 1, ⟨Int32.toInt_inj.mp (k_1.trans (by decide +kernel)), Or.inr (Or.inr (Or.inr ⟨rfl, rfl⟩))⟩, rfl⟩, ht⟩) (fun _ h9 => by cases h9) dX0_spreadOf_56
set_option maxHeartbeats 4000000 in
set_option maxRecDepth 100000 in
/-- COS -/
theorem m_cosine (l : Launch) (D : va_G) (k : Nat) (hk : k < 2 ^ 31) : Met l yX0_cosine wsX0_cosine ({ frames := 0, cells := 0, slots := 0, locals := 0 } : Room) (va_Pc [.int (nI k)] (cro D ([]) ([]))) (vp_Si (fun r => r = cosN (k % 32))) 0 0 (fun _ => False) := by
  refine Met.ofW (cc := cX0_cosine) (maxL := 2) (ret := some .int) (by decide) rfl ?_
  intro p e s m args below meth c s₁ B hml hv
  obtain ⟨rfl, hP, hK, hTb⟩ := hv
  have hx := B.exec
  have hb := B.bytes
  have hr := B.returns
  have hts : ∀ w ∈ wA, w.before _ s = true := fun w h => atoms_spec (ws := wsX0_cosine) B.pre w (List.mem_cons_of_mem _ h)
  have hown : s.vm.findClass RX0 = some m.cls := findClass_of_methodNamed B.named
  have hlocks := B.notSynchronized
  have hS : va_S (fun _ => False) s.heap s.heap [] := va_S.rf
  obtain ⟨⟨t0, hZ0, hT0⟩, ⟨t1, hZ1, hT1⟩, ⟨t2, hZ2, hT2⟩, -⟩ := id hTb
  have hl := lv_entry ([.int (nI k)]) (n := 2) (Nat.le_of_ble_eq_true rfl)
  rw [lg_entry_eq]
  generalize (lg_sl ([.int (nI k)]) ++ List.replicate (2 - (lg_sl ([.int (nI k)])).length) Slot.unset).toArray = ls at hl ⊢
  have hl : lv_has ls 2 [(0, .int (nI k))] := hl
  refine lv_iload_n hx hb dX0_cosine_0 rfl (lv_at hl 0 rfl) ?_
  refine lv_bipush (v := (31 : Int32)) hx hb dX0_cosine_1 (by decide +kernel) ?_
  refine lv_iand hx hb dX0_cosine_3 ?_
  have e_1 : (nI k) &&& (31 : Int32) = nI (k % 32) := pk_andN (by omega) 5 (by decide)
  rw [e_1]
  refine lv_istore_n (lv' := [(1, .int (nI (k % 32))), (0, .int (nI k))]) hx hb dX0_cosine_4 rfl hl (by decide) rfl (fun ls hl => ?_)
  refine lv_iload_n hx hb dX0_cosine_5 rfl (lv_at hl 0 rfl) ?_
  refine lv_bipush (v := (8 : Int32)) hx hb dX0_cosine_6 (by decide +kernel) ?_
  refine cx_icmp_gt (i := ((k % 32 : Nat) : Int)) (j := 8) (tgt := 17) hx hb (nI_toInt (by omega)) (by decide +kernel) dX0_cosine_8 (by decide) (fun c_2 => ?_) (fun c_2 => ?_)
  · refine lv_iload_n hx hb dX0_cosine_17 rfl (lv_at hl 0 rfl) ?_
    refine lv_bipush (v := (16 : Int32)) hx hb dX0_cosine_18 (by decide +kernel) ?_
    refine cx_icmp_gt (i := ((k % 32 : Nat) : Int)) (j := 16) (tgt := 33) hx hb (nI_toInt (by omega)) (by decide +kernel) dX0_cosine_20 (by decide) (fun c_3 => ?_) (fun c_3 => ?_)
    · refine lv_iload_n hx hb dX0_cosine_33 rfl (lv_at hl 0 rfl) ?_
      refine lv_bipush (v := (24 : Int32)) hx hb dX0_cosine_34 (by decide +kernel) ?_
      refine cx_icmp_gt (i := ((k % 32 : Nat) : Int)) (j := 24) (tgt := 49) hx hb (nI_toInt (by omega)) (by decide +kernel) dX0_cosine_36 (by decide) (fun c_4 => ?_) (fun c_4 => ?_)
      · refine va_gets (v := .ref t0) hx hb hZ0 hS hown (hts _ wm_57) (fun _ h9 => h9) dX0_cosine_49 ?_
        refine lv_bipush (v := (32 : Int32)) hx hb dX0_cosine_52 (by decide +kernel) ?_
        refine lv_iload_n hx hb dX0_cosine_54 rfl (lv_at hl 0 rfl) ?_
        refine cx_isub hx hb 32 (k % 32) (by omega) dX0_cosine_55 ?_
        refine cx_ti hx hb hT0 hS (32 - (k % 32)) (by omega) (by decide) dX0_cosine_56 ?_
        exact W.iret (v := cQ (32 - (k % 32))) hx hb hr (fun t ht hW => ⟨_, rfl, (by unfold cosN; rw [if_neg (by omega), if_neg (by omega), if_neg (by omega)]), ht⟩) (fun _ h9 => by cases h9) dX0_cosine_57
      · refine va_gets (v := .ref t0) hx hb hZ0 hS hown (hts _ wm_57) (fun _ h9 => h9) dX0_cosine_39 ?_
        refine lv_iload_n hx hb dX0_cosine_42 rfl (lv_at hl 0 rfl) ?_
        refine lv_bipush (v := (16 : Int32)) hx hb dX0_cosine_43 (by decide +kernel) ?_
        refine cx_isub hx hb (k % 32) 16 (by omega) dX0_cosine_45 ?_
        refine cx_ti hx hb hT0 hS ((k % 32) - 16) (by omega) (by decide) dX0_cosine_46 ?_
        refine lv_ineg hx hb dX0_cosine_47 ?_
        exact W.iret (v := -(cQ ((k % 32) - 16))) hx hb hr (fun t ht hW => ⟨_, rfl, (by unfold cosN; rw [if_neg (by omega), if_neg (by omega), if_pos (by omega)]), ht⟩) (fun _ h9 => by cases h9) dX0_cosine_48
    · refine va_gets (v := .ref t0) hx hb hZ0 hS hown (hts _ wm_57) (fun _ h9 => h9) dX0_cosine_23 ?_
      refine lv_bipush (v := (16 : Int32)) hx hb dX0_cosine_26 (by decide +kernel) ?_
      refine lv_iload_n hx hb dX0_cosine_28 rfl (lv_at hl 0 rfl) ?_
      refine cx_isub hx hb 16 (k % 32) (by omega) dX0_cosine_29 ?_
      refine cx_ti hx hb hT0 hS (16 - (k % 32)) (by omega) (by decide) dX0_cosine_30 ?_
      refine lv_ineg hx hb dX0_cosine_31 ?_
      exact W.iret (v := -(cQ (16 - (k % 32)))) hx hb hr (fun t ht hW => ⟨_, rfl, (by unfold cosN; rw [if_neg (by omega), if_pos (by omega)]), ht⟩) (fun _ h9 => by cases h9) dX0_cosine_32
  · refine va_gets (v := .ref t0) hx hb hZ0 hS hown (hts _ wm_57) (fun _ h9 => h9) dX0_cosine_11 ?_
    refine lv_iload_n hx hb dX0_cosine_14 rfl (lv_at hl 0 rfl) ?_
    refine cx_ti hx hb hT0 hS (k % 32) (by omega) (by decide) dX0_cosine_15 ?_
    exact W.iret (v := cQ (k % 32)) hx hb hr (fun t ht hW => ⟨_, rfl, (by unfold cosN; rw [if_pos (by omega)]), ht⟩) (fun _ h9 => by cases h9) dX0_cosine_16
set_option maxHeartbeats 4000000 in
set_option maxRecDepth 100000 in
/-- WAVE -/
theorem m_waveAt (l : Launch) (D : va_G) (sp u9 x9 : Nat) (h1 : sp ≤ 8) (h2 : u9 < 8) (h3 : x9 < 8) : Met l yX0_waveAt wsX0_waveAt ({ frames := 1, cells := 0, slots := 0, locals := 21 } : Room) (va_Pc [.int (nI sp), .int (nI u9), .int (nI x9)] (cro D ([]) ([]))) (vp_Si (fun r => r = wvN sp u9 x9)) 0 0 (fun _ => False) := by
  refine Met.ofW (cc := cX0_waveAt) (maxL := 3) (ret := some .int) (by decide) rfl ?_
  intro p e s m args below meth c s₁ B hml hv
  obtain ⟨rfl, hP, hK, hTb⟩ := hv
  have hx := B.exec
  have hb := B.bytes
  have hr := B.returns
  have hts : ∀ w ∈ wA, w.before _ s = true := fun w h => atoms_spec (ws := wsX0_waveAt) B.pre w (List.mem_cons_of_mem _ h)
  have hown : s.vm.findClass RX0 = some m.cls := findClass_of_methodNamed B.named
  have hlocks := B.notSynchronized
  have hS : va_S (fun _ => False) s.heap s.heap [] := va_S.rf
  obtain ⟨⟨t0, hZ0, hT0⟩, ⟨t1, hZ1, hT1⟩, ⟨t2, hZ2, hT2⟩, -⟩ := id hTb
  have hl := lv_entry ([.int (nI sp), .int (nI u9), .int (nI x9)]) (n := 3) (Nat.le_of_ble_eq_true rfl)
  rw [lg_entry_eq]
  generalize (lg_sl ([.int (nI sp), .int (nI u9), .int (nI x9)]) ++ List.replicate (3 - (lg_sl ([.int (nI sp), .int (nI u9), .int (nI x9)])).length) Slot.unset).toArray = ls at hl ⊢
  have hl : lv_has ls 3 [(0, .int (nI sp)), (1, .int (nI u9)), (2, .int (nI x9))] := hl
  refine lv_iload_n hx hb dX0_waveAt_0 rfl (lv_at hl 1 rfl) ?_
  refine cx_if_ne (i := ((u9 : Nat) : Int)) (j := 0) (tgt := 12) hx hb (nI_toInt (by omega)) rfl dX0_waveAt_1 (by decide) (fun c_1 => ?_) (fun c_1 => ?_)
  · refine lv_iconst (v := (2 : Int32)) hx hb dX0_waveAt_12 (by decide +kernel) ?_
    refine lv_iload_n hx hb dX0_waveAt_13 rfl (lv_at hl 2 rfl) ?_
    refine cx_imul hx hb 2 x9 dX0_waveAt_14 ?_
    refine lv_iconst (v := (1 : Int32)) hx hb dX0_waveAt_15 (by decide +kernel) ?_
    refine cx_iadd hx hb (2 * x9) 1 dX0_waveAt_16 ?_
    refine lv_iload_n hx hb dX0_waveAt_17 rfl (lv_at hl 1 rfl) ?_
    refine cx_imul hx hb (2 * x9 + 1) u9 dX0_waveAt_18 ?_
    refine lv_iload_n hx hb dX0_waveAt_19 rfl (lv_at hl 0 rfl) ?_
    refine cx_imul hx hb ((2 * x9 + 1) * u9) sp dX0_waveAt_20 ?_
    refine vp_callSi (W.runS (As := [.int (nI (((2 * x9 + 1) * u9) * sp))]) (rest := []) ⟨hx, hb, hml, hown, hts⟩ (m_cosine l D (((2 * x9 + 1) * u9) * sp) (by exact Nat.lt_of_le_of_lt (Nat.mul_le_mul (Nat.mul_le_mul (show 2 * x9 + 1 ≤ 15 by omega) (show u9 ≤ 7 by omega)) h1) (by decide))) (va_cwS 1 hts (gw_S wm_59 wm_60 wm_12 wm_61) rfl rfl rfl (by decide +kernel) ⟨Nat.le_of_ble_eq_true rfl, Nat.le_of_ble_eq_true rfl⟩) ⟨cro_blind, fun U hU hW => ⟨rfl, cro_at (hP.sub (ws' := []) [] rfl) (hK.sub (tys' := []) [] rfl) hTb hS hU hW⟩⟩ rfl rfl hl.1 rfl (lv_room (Nat.le_of_ble_eq_true rfl)) dX0_waveAt_21 ⟨Nat.le_of_ble_eq_true rfl, Nat.le_of_ble_eq_true rfl⟩) (fun r_2 hr_2 => ?_)
    rw [hr_2]
    exact W.iret (v := cosN ((((2 * x9 + 1) * u9) * sp) % 32)) hx hb hr (fun t ht hW => ⟨_, rfl, (by unfold wvN; rw [if_neg (by omega)]), ht⟩) (fun _ h9 => by cases h9) dX0_waveAt_24
  · refine va_gets (v := .ref t0) hx hb hZ0 hS hown (hts _ wm_57) (fun _ h9 => h9) dX0_waveAt_4 ?_
    refine lv_iconst (v := (4 : Int32)) hx hb dX0_waveAt_7 (by decide +kernel) ?_
    refine cx_ti hx hb hT0 hS 4 (by omega) (by decide) dX0_waveAt_8 ?_
    refine lv_goto (tgt := 24) hx hb dX0_waveAt_9 (by decide) ?_
    exact W.iret (v := cQ 4) hx hb hr (fun t ht hW => ⟨_, rfl, (by unfold wvN; rw [if_pos (by omega)]), ht⟩) (fun _ h9 => by cases h9) dX0_waveAt_24
set_option maxHeartbeats 4000000 in
set_option maxRecDepth 100000 in
/-- ROUND -/
theorem m_rounded (l : Launch) (D : va_G) (v9 : Int64) (sh : Int32) : Met l yX0_rounded wsX0_rounded ({ frames := 0, cells := 0, slots := 0, locals := 0 } : Room) (va_Pc [.long v9, .int sh] (cro D ([]) ([]))) (vp_Sl (fun r => r = rdL v9 sh)) 0 0 (fun _ => False) := by
  refine Met.ofW (cc := cX0_rounded) (maxL := 3) (ret := some .long) (by decide) rfl ?_
  intro p e s m args below meth c s₁ B hml hv
  obtain ⟨rfl, hP, hK, hTb⟩ := hv
  have hx := B.exec
  have hb := B.bytes
  have hr := B.returns
  have hts : ∀ w ∈ wA, w.before _ s = true := fun w h => atoms_spec (ws := wsX0_rounded) B.pre w (List.mem_cons_of_mem _ h)
  have hown : s.vm.findClass RX0 = some m.cls := findClass_of_methodNamed B.named
  have hlocks := B.notSynchronized
  have hS : va_S (fun _ => False) s.heap s.heap [] := va_S.rf
  have hl := lv_entry ([.long v9, .int sh]) (n := 3) (Nat.le_of_ble_eq_true rfl)
  rw [lg_entry_eq]
  generalize (lg_sl ([.long v9, .int sh]) ++ List.replicate (3 - (lg_sl ([.long v9, .int sh])).length) Slot.unset).toArray = ls at hl ⊢
  have hl : lv_has ls 3 [(0, .long v9), (2, .int sh)] := hl
  refine lv_lload_n hx hb dX0_rounded_0 rfl (lv_at hl 0 rfl) ?_
  refine lv_lconst (v := (1 : Int64)) hx hb dX0_rounded_1 (by decide +kernel) ?_
  refine lv_iload_n hx hb dX0_rounded_2 rfl (lv_at hl 1 rfl) ?_
  refine lv_iconst (v := (1 : Int32)) hx hb dX0_rounded_3 (by decide +kernel) ?_
  refine lv_isub hx hb dX0_rounded_4 ?_
  refine lv_lshl hx hb dX0_rounded_5 rfl ?_
  refine lv_ladd hx hb dX0_rounded_6 ?_
  refine lv_iload_n hx hb dX0_rounded_7 rfl (lv_at hl 1 rfl) ?_
  refine lv_lshr hx hb dX0_rounded_8 rfl ?_
  exact W.lret (v := (v9 + ((1 : Int64) <<< ((sh - (1 : Int32)).toInt64 &&& 63))) >>> (sh.toInt64 &&& 63)) hx hb hr (fun t ht hW => ⟨_, rfl, rfl, ht⟩) (fun _ h9 => by cases h9) dX0_rounded_9
set_option maxHeartbeats 4000000 in
set_option maxRecDepth 100000 in
/-- clamped -/
theorem m_clamped (l : Launch) (D : va_G) (v9 : Int64) (lo hi : Int32) : Met l yX0_clamped wsX0_clamped ({ frames := 0, cells := 0, slots := 0, locals := 0 } : Room) (va_Pc [.long v9, .int lo, .int hi] (cro D ([]) ([]))) (vp_Si (fun r => r = clampV v9 lo hi)) 0 0 (fun _ => False) := by
  refine Met.ofW (cc := cX0_clamped) (maxL := 4) (ret := some .int) (by decide) rfl ?_
  intro p e s m args below meth c s₁ B hml hv
  obtain ⟨rfl, hP, hK, hTb⟩ := hv
  have hx := B.exec
  have hb := B.bytes
  have hr := B.returns
  have hts : ∀ w ∈ wA, w.before _ s = true := fun w h => atoms_spec (ws := wsX0_clamped) B.pre w (List.mem_cons_of_mem _ h)
  have hown : s.vm.findClass RX0 = some m.cls := findClass_of_methodNamed B.named
  have hlocks := B.notSynchronized
  have hS : va_S (fun _ => False) s.heap s.heap [] := va_S.rf
  have hl := lv_entry ([.long v9, .int lo, .int hi]) (n := 4) (Nat.le_of_ble_eq_true rfl)
  rw [lg_entry_eq]
  generalize (lg_sl ([.long v9, .int lo, .int hi]) ++ List.replicate (4 - (lg_sl ([.long v9, .int lo, .int hi])).length) Slot.unset).toArray = ls at hl ⊢
  have hl : lv_has ls 4 [(0, .long v9), (2, .int lo), (3, .int hi)] := hl
  refine lv_lload_n hx hb dX0_clamped_0 rfl (lv_at hl 0 rfl) ?_
  refine lv_iload_n hx hb dX0_clamped_1 rfl (lv_at hl 1 rfl) ?_
  refine lv_i2l hx hb dX0_clamped_2 rfl ?_
  refine cx_lcmp_ge (i := v9.toInt) (j := (lo.toInt64).toInt) (tgt := 9) hx hb rfl rfl dX0_clamped_3 dX0_clamped_4 (by decide) (fun c_1 => ?_) (fun c_1 => ?_)
  · refine lv_lload_n hx hb dX0_clamped_9 rfl (lv_at hl 0 rfl) ?_
    refine lv_iload_n hx hb dX0_clamped_10 rfl (lv_at hl 2 rfl) ?_
    refine lv_i2l hx hb dX0_clamped_11 rfl ?_
    refine cx_lcmp_le (i := v9.toInt) (j := (hi.toInt64).toInt) (tgt := 20) hx hb rfl rfl dX0_clamped_12 dX0_clamped_13 (by decide) (fun c_2 => ?_) (fun c_2 => ?_)
    · refine lv_lload_n hx hb dX0_clamped_20 rfl (lv_at hl 0 rfl) ?_
      refine lv_l2i hx hb dX0_clamped_21 rfl ?_
      exact W.iret (v := v9.toInt32) hx hb hr (fun t ht hW => ⟨_, rfl, (by unfold clampV; rw [if_neg (by omega), if_neg (by omega)]), ht⟩) (fun _ h9 => by cases h9) dX0_clamped_22
    · refine lv_iload_n hx hb dX0_clamped_16 rfl (lv_at hl 2 rfl) ?_
      refine lv_goto (tgt := 22) hx hb dX0_clamped_17 (by decide) ?_
      exact W.iret (v := hi) hx hb hr (fun t ht hW => ⟨_, rfl, (by unfold clampV; rw [if_neg (by omega), if_pos (by omega)]), ht⟩) (fun _ h9 => by cases h9) dX0_clamped_22
  · refine lv_iload_n hx hb dX0_clamped_7 rfl (lv_at hl 1 rfl) ?_
    exact W.iret (v := lo) hx hb hr (fun t ht hW => ⟨_, rfl, (by unfold clampV; rw [if_pos (by omega)]), ht⟩) (fun _ h9 => by cases h9) dX0_clamped_8
set_option maxHeartbeats 4000000 in
set_option maxRecDepth 100000 in
/-- E / STEP -/
theorem m_nearest (l : Launch) (D : va_G) (v9 st : Int32) (h1 : 1 ≤ st.toInt) (h2 : st.toInt ≤ 255) : Met l yX0_nearest wsX0_nearest ({ frames := 1, cells := 0, slots := 0, locals := 23 } : Room) (va_Pc [.int v9, .int st] (cro D ([]) ([]))) (vp_Si (fun r => r = nearV v9 st)) 0 0 (fun _ => False) := by
  refine Met.ofW (cc := cX0_nearest) (maxL := 3) (ret := some .int) (by decide) rfl ?_
  intro p e s m args below meth c s₁ B hml hv
  obtain ⟨rfl, hP, hK, hTb⟩ := hv
  have hx := B.exec
  have hb := B.bytes
  have hr := B.returns
  have hts : ∀ w ∈ wA, w.before _ s = true := fun w h => atoms_spec (ws := wsX0_nearest) B.pre w (List.mem_cons_of_mem _ h)
  have hown : s.vm.findClass RX0 = some m.cls := findClass_of_methodNamed B.named
  have hlocks := B.notSynchronized
  have hS : va_S (fun _ => False) s.heap s.heap [] := va_S.rf
  have hl := lv_entry ([.int v9, .int st]) (n := 3) (Nat.le_of_ble_eq_true rfl)
  rw [lg_entry_eq]
  generalize (lg_sl ([.int v9, .int st]) ++ List.replicate (3 - (lg_sl ([.int v9, .int st])).length) Slot.unset).toArray = ls at hl ⊢
  have hl : lv_has ls 3 [(0, .int v9), (1, .int st)] := hl
  refine lv_iload_n hx hb dX0_nearest_0 rfl (lv_at hl 1 rfl) ?_
  refine lv_iconst (v := (1 : Int32)) hx hb dX0_nearest_1 (by decide +kernel) ?_
  refine cx_icmp_ge (i := st.toInt) (j := 1) (tgt := 7) hx hb rfl (by decide +kernel) dX0_nearest_2 (by decide) (fun c_1 => ?_) (fun c_1 => absurd c_1 (by omega))
  refine lv_iconst (v := (2 : Int32)) hx hb dX0_nearest_7 (by decide +kernel) ?_
  refine lv_iload_n hx hb dX0_nearest_8 rfl (lv_at hl 0 rfl) ?_
  refine va_mabs hx hb (hml.trans hl.1.symm) hown (hts _ wm_72) (hts _ wm_73) (hts _ wm_19) (hts _ wm_74) (Nat.le_of_ble_eq_true rfl) (Nat.le_of_ble_eq_true rfl) (Nat.zero_le _) (Nat.zero_le _) dX0_nearest_9 ?_
  refine lv_imul hx hb dX0_nearest_12 ?_
  refine lv_iload_n hx hb dX0_nearest_13 rfl (lv_at hl 1 rfl) ?_
  refine lv_iadd hx hb dX0_nearest_14 ?_
  refine lv_iconst (v := (2 : Int32)) hx hb dX0_nearest_15 (by decide +kernel) ?_
  refine lv_iload_n hx hb dX0_nearest_16 rfl (lv_at hl 1 rfl) ?_
  refine lv_imul hx hb dX0_nearest_17 ?_
  refine lv_idiv hx hb dX0_nearest_18 (cx_2st h1 h2) ?_
  refine lv_istore_n (lv' := [(2, .int ((((2 : Int32) * (absI v9)) + st) / ((2 : Int32) * st))), (0, .int v9), (1, .int st)]) hx hb dX0_nearest_19 rfl hl (by decide) rfl (fun ls hl => ?_)
  refine lv_iload_n hx hb dX0_nearest_20 rfl (lv_at hl 1 rfl) ?_
  refine cx_if_ge (i := v9.toInt) (j := 0) (tgt := 29) hx hb rfl rfl dX0_nearest_21 (by decide) (fun c_2 => ?_) (fun c_2 => ?_)
  · refine lv_iload_n hx hb dX0_nearest_29 rfl (lv_at hl 0 rfl) ?_
    exact W.iret (v := (((2 : Int32) * (absI v9)) + st) / ((2 : Int32) * st)) hx hb hr (fun t ht hW => ⟨_, rfl, (by unfold nearV magV; rw [if_neg (by omega)]), ht⟩) (fun _ h9 => by cases h9) dX0_nearest_30
  · refine lv_iload_n hx hb dX0_nearest_24 rfl (lv_at hl 0 rfl) ?_
    refine lv_ineg hx hb dX0_nearest_25 ?_
    refine lv_goto (tgt := 30) hx hb dX0_nearest_26 (by decide) ?_
    exact W.iret (v := -((((2 : Int32) * (absI v9)) + st) / ((2 : Int32) * st))) hx hb hr (fun t ht hW => ⟨_, rfl, (by unfold nearV magV; rw [if_pos (by omega)]), ht⟩) (fun _ h9 => by cases h9) dX0_nearest_30
