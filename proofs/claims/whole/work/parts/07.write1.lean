theorem dX0_clear_0 : decode cX0_clear 0 = .ok (.iconst 0, 1) := by decide +kernel
theorem dX0_clear_1 : decode cX0_clear 1 = .ok (.istore_n 1, 1) := by decide +kernel
theorem dX0_clear_2 : decode cX0_clear 2 = .ok (.iload_n 1, 1) := by decide +kernel
theorem dX0_clear_3 : decode cX0_clear 3 = .ok (.bipush 64, 2) := by decide +kernel
theorem dX0_clear_5 : decode cX0_clear 5 = .ok (.if_icmp .ge 16, 3) := by decide +kernel
theorem dX0_clear_8 : decode cX0_clear 8 = .ok (.aload_n 0, 1) := by decide +kernel
theorem dX0_clear_9 : decode cX0_clear 9 = .ok (.getfield 9, 3) := by decide +kernel
theorem dX0_clear_12 : decode cX0_clear 12 = .ok (.iload_n 1, 1) := by decide +kernel
theorem dX0_clear_13 : decode cX0_clear 13 = .ok (.iconst 0, 1) := by decide +kernel
theorem dX0_clear_14 : decode cX0_clear 14 = .ok (.iastore, 1) := by decide +kernel
theorem dX0_clear_15 : decode cX0_clear 15 = .ok (.iinc 1 1, 3) := by decide +kernel
theorem dX0_clear_18 : decode cX0_clear 18 = .ok (.goto (-16), 3) := by decide +kernel
theorem dX0_clear_21 : decode cX0_clear 21 = .ok (.return_, 1) := by decide +kernel
theorem dX0_keep_0 : decode cX0_keep 0 = .ok (.iconst 0, 1) := by decide +kernel
theorem dX0_keep_1 : decode cX0_keep 1 = .ok (.istore_n 1, 1) := by decide +kernel
theorem dX0_keep_2 : decode cX0_keep 2 = .ok (.iload_n 1, 1) := by decide +kernel
theorem dX0_keep_3 : decode cX0_keep 3 = .ok (.bipush 64, 2) := by decide +kernel
theorem dX0_keep_5 : decode cX0_keep 5 = .ok (.if_icmp .ge 21, 3) := by decide +kernel
theorem dX0_keep_8 : decode cX0_keep 8 = .ok (.aload_n 0, 1) := by decide +kernel
theorem dX0_keep_9 : decode cX0_keep 9 = .ok (.getfield 19, 3) := by decide +kernel
theorem dX0_keep_12 : decode cX0_keep 12 = .ok (.iload_n 1, 1) := by decide +kernel
theorem dX0_keep_13 : decode cX0_keep 13 = .ok (.aload_n 0, 1) := by decide +kernel
theorem dX0_keep_14 : decode cX0_keep 14 = .ok (.getfield 16, 3) := by decide +kernel
theorem dX0_keep_17 : decode cX0_keep 17 = .ok (.iload_n 1, 1) := by decide +kernel
theorem dX0_keep_18 : decode cX0_keep 18 = .ok (.iaload, 1) := by decide +kernel
theorem dX0_keep_19 : decode cX0_keep 19 = .ok (.iastore, 1) := by decide +kernel
theorem dX0_keep_20 : decode cX0_keep 20 = .ok (.iinc 1 1, 3) := by decide +kernel
theorem dX0_keep_23 : decode cX0_keep 23 = .ok (.goto (-21), 3) := by decide +kernel
theorem dX0_keep_26 : decode cX0_keep 26 = .ok (.return_, 1) := by decide +kernel
theorem dX0_forwardDown_0 : decode cX0_forwardDown 0 = .ok (.iconst 0, 1) := by decide +kernel
theorem dX0_forwardDown_1 : decode cX0_forwardDown 1 = .ok (.istore_n 2, 1) := by decide +kernel
theorem dX0_forwardDown_2 : decode cX0_forwardDown 2 = .ok (.iload_n 2, 1) := by decide +kernel
theorem dX0_forwardDown_3 : decode cX0_forwardDown 3 = .ok (.bipush 8, 2) := by decide +kernel
theorem dX0_forwardDown_5 : decode cX0_forwardDown 5 = .ok (.if_icmp .ge 72, 3) := by decide +kernel
theorem dX0_forwardDown_8 : decode cX0_forwardDown 8 = .ok (.lconst 0, 1) := by decide +kernel
theorem dX0_forwardDown_9 : decode cX0_forwardDown 9 = .ok (.lstore_n 3, 1) := by decide +kernel
theorem dX0_forwardDown_10 : decode cX0_forwardDown 10 = .ok (.iconst 0, 1) := by decide +kernel
theorem dX0_forwardDown_11 : decode cX0_forwardDown 11 = .ok (.istore 5, 2) := by decide +kernel
theorem dX0_forwardDown_13 : decode cX0_forwardDown 13 = .ok (.iload 5, 2) := by decide +kernel
theorem dX0_forwardDown_15 : decode cX0_forwardDown 15 = .ok (.bipush 8, 2) := by decide +kernel
theorem dX0_forwardDown_17 : decode cX0_forwardDown 17 = .ok (.if_icmp .ge 37, 3) := by decide +kernel
theorem dX0_forwardDown_20 : decode cX0_forwardDown 20 = .ok (.lload_n 3, 1) := by decide +kernel
theorem dX0_forwardDown_21 : decode cX0_forwardDown 21 = .ok (.iconst 1, 1) := by decide +kernel
theorem dX0_forwardDown_22 : decode cX0_forwardDown 22 = .ok (.iload_n 1, 1) := by decide +kernel
theorem dX0_forwardDown_23 : decode cX0_forwardDown 23 = .ok (.iload 5, 2) := by decide +kernel
theorem dX0_forwardDown_25 : decode cX0_forwardDown 25 = .ok (.invokestatic 96, 3) := by decide +kernel
theorem dX0_forwardDown_28 : decode cX0_forwardDown 28 = .ok (.aload_n 0, 1) := by decide +kernel
theorem dX0_forwardDown_29 : decode cX0_forwardDown 29 = .ok (.getfield 16, 3) := by decide +kernel
theorem dX0_forwardDown_32 : decode cX0_forwardDown 32 = .ok (.iload 5, 2) := by decide +kernel
theorem dX0_forwardDown_34 : decode cX0_forwardDown 34 = .ok (.bipush 8, 2) := by decide +kernel
theorem dX0_forwardDown_36 : decode cX0_forwardDown 36 = .ok (.imul, 1) := by decide +kernel
theorem dX0_forwardDown_37 : decode cX0_forwardDown 37 = .ok (.iload_n 2, 1) := by decide +kernel
theorem dX0_forwardDown_38 : decode cX0_forwardDown 38 = .ok (.iadd, 1) := by decide +kernel
theorem dX0_forwardDown_39 : decode cX0_forwardDown 39 = .ok (.iaload, 1) := by decide +kernel
theorem dX0_forwardDown_40 : decode cX0_forwardDown 40 = .ok (.sipush 128, 3) := by decide +kernel
theorem dX0_forwardDown_43 : decode cX0_forwardDown 43 = .ok (.isub, 1) := by decide +kernel
theorem dX0_forwardDown_44 : decode cX0_forwardDown 44 = .ok (.imul, 1) := by decide +kernel
theorem dX0_forwardDown_45 : decode cX0_forwardDown 45 = .ok (.i2l, 1) := by decide +kernel
theorem dX0_forwardDown_46 : decode cX0_forwardDown 46 = .ok (.ladd, 1) := by decide +kernel
theorem dX0_forwardDown_47 : decode cX0_forwardDown 47 = .ok (.lstore_n 3, 1) := by decide +kernel
theorem dX0_forwardDown_48 : decode cX0_forwardDown 48 = .ok (.iinc 5 1, 3) := by decide +kernel
theorem dX0_forwardDown_51 : decode cX0_forwardDown 51 = .ok (.goto (-38), 3) := by decide +kernel
theorem dX0_forwardDown_54 : decode cX0_forwardDown 54 = .ok (.aload_n 0, 1) := by decide +kernel
theorem dX0_forwardDown_55 : decode cX0_forwardDown 55 = .ok (.getfield 22, 3) := by decide +kernel
theorem dX0_forwardDown_58 : decode cX0_forwardDown 58 = .ok (.iload_n 1, 1) := by decide +kernel
theorem dX0_forwardDown_59 : decode cX0_forwardDown 59 = .ok (.bipush 8, 2) := by decide +kernel
theorem dX0_forwardDown_61 : decode cX0_forwardDown 61 = .ok (.imul, 1) := by decide +kernel
theorem dX0_forwardDown_62 : decode cX0_forwardDown 62 = .ok (.iload_n 2, 1) := by decide +kernel
theorem dX0_forwardDown_63 : decode cX0_forwardDown 63 = .ok (.iadd, 1) := by decide +kernel
theorem dX0_forwardDown_64 : decode cX0_forwardDown 64 = .ok (.lload_n 3, 1) := by decide +kernel
theorem dX0_forwardDown_65 : decode cX0_forwardDown 65 = .ok (.bipush 11, 2) := by decide +kernel
theorem dX0_forwardDown_67 : decode cX0_forwardDown 67 = .ok (.invokestatic 121, 3) := by decide +kernel
theorem dX0_forwardDown_70 : decode cX0_forwardDown 70 = .ok (.lastore, 1) := by decide +kernel
theorem dX0_forwardDown_71 : decode cX0_forwardDown 71 = .ok (.iinc 2 1, 3) := by decide +kernel
theorem dX0_forwardDown_74 : decode cX0_forwardDown 74 = .ok (.goto (-72), 3) := by decide +kernel
theorem dX0_forwardDown_77 : decode cX0_forwardDown 77 = .ok (.return_, 1) := by decide +kernel
theorem dX0_forward_0 : decode cX0_forward 0 = .ok (.iconst 0, 1) := by decide +kernel
theorem dX0_forward_1 : decode cX0_forward 1 = .ok (.istore_n 1, 1) := by decide +kernel
theorem dX0_forward_2 : decode cX0_forward 2 = .ok (.iload_n 1, 1) := by decide +kernel
theorem dX0_forward_3 : decode cX0_forward 3 = .ok (.bipush 8, 2) := by decide +kernel
theorem dX0_forward_5 : decode cX0_forward 5 = .ok (.if_icmp .ge 56, 3) := by decide +kernel
theorem dX0_forward_8 : decode cX0_forward 8 = .ok (.aload_n 0, 1) := by decide +kernel
theorem dX0_forward_9 : decode cX0_forward 9 = .ok (.iload_n 1, 1) := by decide +kernel
theorem dX0_forward_10 : decode cX0_forward 10 = .ok (.invokevirtual 72, 3) := by decide +kernel
theorem dX0_forward_13 : decode cX0_forward 13 = .ok (.iconst 0, 1) := by decide +kernel
theorem dX0_forward_14 : decode cX0_forward 14 = .ok (.istore_n 2, 1) := by decide +kernel
theorem dX0_forward_15 : decode cX0_forward 15 = .ok (.iload_n 2, 1) := by decide +kernel
theorem dX0_forward_16 : decode cX0_forward 16 = .ok (.bipush 8, 2) := by decide +kernel
theorem dX0_forward_18 : decode cX0_forward 18 = .ok (.if_icmp .ge 37, 3) := by decide +kernel
theorem dX0_forward_21 : decode cX0_forward 21 = .ok (.iload_n 1, 1) := by decide +kernel
theorem dX0_forward_22 : decode cX0_forward 22 = .ok (.bipush 8, 2) := by decide +kernel
theorem dX0_forward_24 : decode cX0_forward 24 = .ok (.imul, 1) := by decide +kernel
theorem dX0_forward_25 : decode cX0_forward 25 = .ok (.iload_n 2, 1) := by decide +kernel
theorem dX0_forward_26 : decode cX0_forward 26 = .ok (.iadd, 1) := by decide +kernel
theorem dX0_forward_27 : decode cX0_forward 27 = .ok (.istore_n 3, 1) := by decide +kernel
theorem dX0_forward_28 : decode cX0_forward 28 = .ok (.aload_n 0, 1) := by decide +kernel
theorem dX0_forward_29 : decode cX0_forward 29 = .ok (.getfield 9, 3) := by decide +kernel
theorem dX0_forward_32 : decode cX0_forward 32 = .ok (.iload_n 3, 1) := by decide +kernel
theorem dX0_forward_33 : decode cX0_forward 33 = .ok (.aload_n 0, 1) := by decide +kernel
theorem dX0_forward_34 : decode cX0_forward 34 = .ok (.iload_n 1, 1) := by decide +kernel
theorem dX0_forward_35 : decode cX0_forward 35 = .ok (.iload_n 2, 1) := by decide +kernel
theorem dX0_forward_36 : decode cX0_forward 36 = .ok (.invokevirtual 76, 3) := by decide +kernel
theorem dX0_forward_39 : decode cX0_forward 39 = .ok (.aload_n 0, 1) := by decide +kernel
theorem dX0_forward_40 : decode cX0_forward 40 = .ok (.getfield 13, 3) := by decide +kernel
theorem dX0_forward_43 : decode cX0_forward 43 = .ok (.iload_n 3, 1) := by decide +kernel
theorem dX0_forward_44 : decode cX0_forward 44 = .ok (.iaload, 1) := by decide +kernel
theorem dX0_forward_45 : decode cX0_forward 45 = .ok (.invokestatic 80, 3) := by decide +kernel
theorem dX0_forward_48 : decode cX0_forward 48 = .ok (.iastore, 1) := by decide +kernel
theorem dX0_forward_49 : decode cX0_forward 49 = .ok (.iinc 2 1, 3) := by decide +kernel
theorem dX0_forward_52 : decode cX0_forward 52 = .ok (.goto (-37), 3) := by decide +kernel
theorem dX0_forward_55 : decode cX0_forward 55 = .ok (.iinc 1 1, 3) := by decide +kernel
theorem dX0_forward_58 : decode cX0_forward 58 = .ok (.goto (-56), 3) := by decide +kernel
theorem dX0_forward_61 : decode cX0_forward 61 = .ok (.aload_n 0, 1) := by decide +kernel
theorem dX0_forward_62 : decode cX0_forward 62 = .ok (.invokevirtual 83, 3) := by decide +kernel
theorem dX0_forward_65 : decode cX0_forward 65 = .ok (.ireturn, 1) := by decide +kernel
set_option maxHeartbeats 4000000 in
set_option maxRecDepth 100000 in
/-- clear -/
theorem m_clear (l : Launch) (D : va_G) (x : Nat → Nat) (cd : Nat → ClassId) (f0 f1 f2 f3 : Nat → Int32) (g : Nat → Int64) (sz : Nat) : Met l yX0_clear wsX0_clear ({ frames := 0, cells := 0, slots := 0, locals := 0 } : Room) (va_Pc [.ref (x 0)] (crw D (cw x cd f0 f1 f2 f3 g) (cty cd) sz)) (va_Qv (fun (u : Nat → Int32) => ∀ j, j < 64 → u j = 0) (fun (u : Nat → Int32) (t : State) => crB D (cw x cd u f1 f2 f3 g) (cty cd) (va_A (cw x cd f0 f1 f2 f3 g) sz) t) (va_A (cw x cd f0 f1 f2 f3 g) sz)) 0 0 (va_A (cw x cd f0 f1 f2 f3 g) sz) := by
  refine Met.ofW (cc := cX0_clear) (maxL := 2) (ret := none) (by decide) rfl ?_
  intro p e s m args below meth c s₁ B hml hv
  obtain ⟨rfl, hsz, hP, hK, hD0, hTb⟩ := hv
  have hx := B.exec
  have hb := B.bytes
  have hr := B.returns
  have hts : ∀ w ∈ wA, w.before _ s = true := fun w h => atoms_spec (ws := wsX0_clear) B.pre w (List.mem_cons_of_mem _ h)
  have hown : s.vm.findClass RX0 = some m.cls := findClass_of_methodNamed B.named
  have hlocks := B.notSynchronized
  subst hsz
  have hD := hD0.self (sz := s.heap.size)
  generalize hAe : va_A (cw x cd f0 f1 f2 f3 g) s.heap.size = A at hD hTb ⊢
  have hA : ∀ q : Nat, s.heap.size ≤ q → A q := fun q h => by rw [← hAe]; exact Or.inr h
  have hS : va_S A s.heap s.heap [] := va_S.rf
  have hin0 := inA0
  have hf9 := (hts _ wm_28)
  have hl := lv_entry ([.ref (x 0)]) (n := 2) (Nat.le_of_ble_eq_true rfl)
  rw [lg_entry_eq]
  generalize (lg_sl ([.ref (x 0)]) ++ List.replicate (2 - (lg_sl ([.ref (x 0)])).length) Slot.unset).toArray = ls at hl ⊢
  have hl : lv_has ls 2 [(0, .ref (x 0))] := hl
  refine lv_iconst (v := (0 : Int32)) hx hb dX0_clear_0 (by decide +kernel) ?_
  refine lv_istore_n (lv' := [(1, .int (0 : Int32)), (0, .ref (x 0))]) hx hb dX0_clear_1 rfl hl (by decide) rfl (fun ls hl => ?_)
  have L2 : ∀ (n : Nat) (i9 : Nat) (w9 : Nat → Int32) (H : Heap) (locs : List Loc) (ls : Array Slot), (64 - i9) < n → (i9 ≤ 64) → (∀ j, j < i9 → w9 j = 0) → va_P D vwCl (cw x cd w9 f1 f2 f3 g) H → va_D A (cw x cd w9 f1 f2 f3 g) → va_S A s.heap H locs → lv_has ls 2 [(0, .ref (x 0)), (1, .int (nI i9))] → W p l e ((headSpec wsX0_clear ({ frames := 0, cells := 0, slots := 0, locals := 0 } : Room)).room) s m (([.ref (x 0)] : List Value).toArray) below meth c H locs 0 0 (MQ below (va_Qv (fun (u : Nat → Int32) => ∀ j, j < 64 → u j = 0) (fun (u : Nat → Int32) (t : State) => crB D (cw x cd u f1 f2 f3 g) (cty cd) A t) A) ([.ref (x 0)] : List Value).toArray s 0 0 A) (F0 m 2 ls []) := by
    intro n
    induction n with
    | zero =>
      intro i9 w9 H locs ls hn
      exact absurd hn (Nat.not_lt_zero _)
    | succ n ih2 =>
      intro i9 w9 H locs ls hn2 hi9 hw9 hP hD hS hl
      refine lv_iload_n hx hb dX0_clear_2 rfl (lv_at hl 1 rfl) ?_
      refine lv_bipush (v := (64 : Int32)) hx hb dX0_clear_3 (by decide +kernel) ?_
      refine cx_icmp_ge (i := ((i9 : Nat) : Int)) (j := 64) (tgt := 21) hx hb (nI_toInt (by omega)) (by decide +kernel) dX0_clear_5 (by decide) (fun c_1 => ?_) (fun c_1 => ?_)
      · exact W.vret hx hb hr (fun t ht hW => ⟨⟨w9, rfl, (by obtain rfl : i9 = 64 := (by omega); exact hw9), by rw [ht]; exact hP, va_K.moved hW.alike hK, hD⟩, hS.F ht⟩) hS.2.2 dX0_clear_21
      · refine lv_aload_n hx hb dX0_clear_8 rfl (lv_at hl 0 rfl) ?_
        refine va_get (D := D) (ci := 0) (v := .ref (x 1)) (C := RX0) (T := TX0) (N := 5) hx hb hts hin0 hown hK hP 0 rfl rfl 0 (by decide) hf9 (fun _ h9 => h9) rfl dX0_clear_9 ?_
        refine lv_iload_n hx hb dX0_clear_12 rfl (lv_at hl 1 rfl) ?_
        refine lv_iconst (v := (0 : Int32)) hx hb dX0_clear_13 (by decide +kernel) ?_
        refine cx_iast hx hb hK hP hD hS 1 0 rfl rfl i9 (by omega) (by decide) dX0_clear_14 (fun H locs hP hD hS => ?_)
        have hP : va_P D vwCl (cw x cd (upd w9 i9 (0 : Int32)) f1 f2 f3 g) H := hP
        have hD : va_D A (cw x cd (upd w9 i9 (0 : Int32)) f1 f2 f3 g) := hD
        refine lv_iinc (v := nI (i9 + 1)) (lv' := [(1, .int (nI (i9 + 1))), (0, .ref (x 0))]) hx hb dX0_clear_15 hl (k := 1) rfl (by show nI i9 + 1 = nI (i9 + 1); exact nI_add i9 1) (by decide) rfl (fun ls hl => ?_)
        refine lv_goto (tgt := 2) hx hb dX0_clear_18 (by decide) ?_
        exact ih2 (i9 + 1) (upd w9 i9 (0 : Int32)) _ _ _ (by omega) (by omega) (upd_step (P := fun (j : Nat) (v : Int32) => v = 0) hw9 rfl) hP hD hS (lv_sub hl [1, 0] rfl)
  exact L2 _ 0 f0 _ _ _ (Nat.lt_succ_self _) (Nat.zero_le _) (fun j hj => absurd hj (Nat.not_lt_zero j)) hP hD hS (lv_sub hl [1, 0] rfl)
set_option maxHeartbeats 4000000 in
set_option maxRecDepth 100000 in
/-- keep -/
theorem m_keep (l : Launch) (D : va_G) (x : Nat → Nat) (cd : Nat → ClassId) (f0 f1 f2 f3 : Nat → Int32) (g : Nat → Int64) (sz : Nat) : Met l yX0_keep wsX0_keep ({ frames := 0, cells := 0, slots := 0, locals := 0 } : Room) (va_Pc [.ref (x 0)] (crw D (cw x cd f0 f1 f2 f3 g) (cty cd) sz)) (va_Qv (fun (u : Nat → Int32) => ∀ j, j < 64 → u j = f2 j) (fun (u : Nat → Int32) (t : State) => crB D (cw x cd f0 f1 f2 u g) (cty cd) (va_A (cw x cd f0 f1 f2 f3 g) sz) t) (va_A (cw x cd f0 f1 f2 f3 g) sz)) 0 0 (va_A (cw x cd f0 f1 f2 f3 g) sz) := by
  refine Met.ofW (cc := cX0_keep) (maxL := 2) (ret := none) (by decide) rfl ?_
  intro p e s m args below meth c s₁ B hml hv
  obtain ⟨rfl, hsz, hP, hK, hD0, hTb⟩ := hv
  have hx := B.exec
  have hb := B.bytes
  have hr := B.returns
  have hts : ∀ w ∈ wA, w.before _ s = true := fun w h => atoms_spec (ws := wsX0_keep) B.pre w (List.mem_cons_of_mem _ h)
  have hown : s.vm.findClass RX0 = some m.cls := findClass_of_methodNamed B.named
  have hlocks := B.notSynchronized
  subst hsz
  have hD := hD0.self (sz := s.heap.size)
  generalize hAe : va_A (cw x cd f0 f1 f2 f3 g) s.heap.size = A at hD hTb ⊢
  have hA : ∀ q : Nat, s.heap.size ≤ q → A q := fun q h => by rw [← hAe]; exact Or.inr h
  have hS : va_S A s.heap s.heap [] := va_S.rf
  have hin0 := inA0
  have hf19 := (hts _ wm_31)
  have hf16 := (hts _ wm_30)
  have hl := lv_entry ([.ref (x 0)]) (n := 2) (Nat.le_of_ble_eq_true rfl)
  rw [lg_entry_eq]
  generalize (lg_sl ([.ref (x 0)]) ++ List.replicate (2 - (lg_sl ([.ref (x 0)])).length) Slot.unset).toArray = ls at hl ⊢
  have hl : lv_has ls 2 [(0, .ref (x 0))] := hl
  refine lv_iconst (v := (0 : Int32)) hx hb dX0_keep_0 (by decide +kernel) ?_
  refine lv_istore_n (lv' := [(1, .int (0 : Int32)), (0, .ref (x 0))]) hx hb dX0_keep_1 rfl hl (by decide) rfl (fun ls hl => ?_)
  have L2 : ∀ (n : Nat) (i9 : Nat) (w9 : Nat → Int32) (H : Heap) (locs : List Loc) (ls : Array Slot), (64 - i9) < n → (i9 ≤ 64) → (∀ j, j < i9 → w9 j = f2 j) → va_P D vwCl (cw x cd f0 f1 f2 w9 g) H → va_D A (cw x cd f0 f1 f2 w9 g) → va_S A s.heap H locs → lv_has ls 2 [(0, .ref (x 0)), (1, .int (nI i9))] → W p l e ((headSpec wsX0_keep ({ frames := 0, cells := 0, slots := 0, locals := 0 } : Room)).room) s m (([.ref (x 0)] : List Value).toArray) below meth c H locs 0 0 (MQ below (va_Qv (fun (u : Nat → Int32) => ∀ j, j < 64 → u j = f2 j) (fun (u : Nat → Int32) (t : State) => crB D (cw x cd f0 f1 f2 u g) (cty cd) A t) A) ([.ref (x 0)] : List Value).toArray s 0 0 A) (F0 m 2 ls []) := by
    intro n
    induction n with
    | zero =>
      intro i9 w9 H locs ls hn
      exact absurd hn (Nat.not_lt_zero _)
    | succ n ih2 =>
      intro i9 w9 H locs ls hn2 hi9 hw9 hP hD hS hl
      refine lv_iload_n hx hb dX0_keep_2 rfl (lv_at hl 1 rfl) ?_
      refine lv_bipush (v := (64 : Int32)) hx hb dX0_keep_3 (by decide +kernel) ?_
      refine cx_icmp_ge (i := ((i9 : Nat) : Int)) (j := 64) (tgt := 26) hx hb (nI_toInt (by omega)) (by decide +kernel) dX0_keep_5 (by decide) (fun c_1 => ?_) (fun c_1 => ?_)
      · exact W.vret hx hb hr (fun t ht hW => ⟨⟨w9, rfl, (by obtain rfl : i9 = 64 := (by omega); exact hw9), by rw [ht]; exact hP, va_K.moved hW.alike hK, hD⟩, hS.F ht⟩) hS.2.2 dX0_keep_26
      · refine lv_aload_n hx hb dX0_keep_8 rfl (lv_at hl 0 rfl) ?_
        refine va_get (D := D) (ci := 0) (v := .ref (x 4)) (C := RX0) (T := TX0) (N := 5) hx hb hts hin0 hown hK hP 0 rfl rfl 3 (by decide) hf19 (fun _ h9 => h9) rfl dX0_keep_9 ?_
        refine lv_iload_n hx hb dX0_keep_12 rfl (lv_at hl 1 rfl) ?_
        refine lv_aload_n hx hb dX0_keep_13 rfl (lv_at hl 0 rfl) ?_
        refine va_get (D := D) (ci := 0) (v := .ref (x 3)) (C := RX0) (T := TX0) (N := 5) hx hb hts hin0 hown hK hP 0 rfl rfl 2 (by decide) hf16 (fun _ h9 => h9) rfl dX0_keep_14 ?_
        refine lv_iload_n hx hb dX0_keep_17 rfl (lv_at hl 1 rfl) ?_
        refine cx_iald hx hb hK hP 3 2 rfl rfl i9 (by omega) (by decide) dX0_keep_18 ?_
        refine cx_iast hx hb hK hP hD hS 4 3 rfl rfl i9 (by omega) (by decide) dX0_keep_19 (fun H locs hP hD hS => ?_)
        have hP : va_P D vwCl (cw x cd f0 f1 f2 (upd w9 i9 (f2 i9)) g) H := hP
        have hD : va_D A (cw x cd f0 f1 f2 (upd w9 i9 (f2 i9)) g) := hD
        refine lv_iinc (v := nI (i9 + 1)) (lv' := [(1, .int (nI (i9 + 1))), (0, .ref (x 0))]) hx hb dX0_keep_20 hl (k := 1) rfl (by show nI i9 + 1 = nI (i9 + 1); exact nI_add i9 1) (by decide) rfl (fun ls hl => ?_)
        refine lv_goto (tgt := 2) hx hb dX0_keep_23 (by decide) ?_
        exact ih2 (i9 + 1) (upd w9 i9 (f2 i9)) _ _ _ (by omega) (by omega) (upd_step (P := fun (j : Nat) (v : Int32) => v = f2 j) hw9 rfl) hP hD hS (lv_sub hl [1, 0] rfl)
  exact L2 _ 0 f3 _ _ _ (Nat.lt_succ_self _) (Nat.zero_le _) (fun j hj => absurd hj (Nat.not_lt_zero j)) hP hD hS (lv_sub hl [1, 0] rfl)
set_option maxHeartbeats 4000000 in
set_option maxRecDepth 100000 in
/-- P(v, x) of FORWARD for one v -/
theorem m_forwardDown (l : Launch) (D : va_G) (x : Nat → Nat) (cd : Nat → ClassId) (f0 f1 f2 f3 : Nat → Int32) (g : Nat → Int64) (v9 : Nat) (h1 : v9 < 8) (sz : Nat) : Met l yX0_forwardDown wsX0_forwardDown ({ frames := 2, cells := 0, slots := 0, locals := 43 } : Room) (va_Pc [.ref (x 0), .int (nI v9)] (crw D (cw x cd f0 f1 f2 f3 g) (cty cd) sz)) (va_Qv (fun (u : Nat → Int64) => ∀ b, b < 8 → u (v9 * 8 + b) = fP f2 v9 b) (fun (u : Nat → Int64) (t : State) => crB D (cw x cd f0 f1 f2 f3 u) (cty cd) (va_A (cw x cd f0 f1 f2 f3 g) sz) t) (va_A (cw x cd f0 f1 f2 f3 g) sz)) 0 0 (va_A (cw x cd f0 f1 f2 f3 g) sz) := by
  refine Met.ofW (cc := cX0_forwardDown) (maxL := 6) (ret := none) (by decide) rfl ?_
  intro p e s m args below meth c s₁ B hml hv
  obtain ⟨rfl, hsz, hP, hK, hD0, hTb⟩ := hv
  have hx := B.exec
  have hb := B.bytes
  have hr := B.returns
  have hts : ∀ w ∈ wA, w.before _ s = true := fun w h => atoms_spec (ws := wsX0_forwardDown) B.pre w (List.mem_cons_of_mem _ h)
  have hown : s.vm.findClass RX0 = some m.cls := findClass_of_methodNamed B.named
  have hlocks := B.notSynchronized
  subst hsz
  have hD := hD0.self (sz := s.heap.size)
  generalize hAe : va_A (cw x cd f0 f1 f2 f3 g) s.heap.size = A at hD hTb ⊢
  have hA : ∀ q : Nat, s.heap.size ≤ q → A q := fun q h => by rw [← hAe]; exact Or.inr h
  have hS : va_S A s.heap s.heap [] := va_S.rf
  have hin0 := inA0
  have hf16 := (hts _ wm_30)
  have hf22 := (hts _ wm_32)
  have hl := lv_entry ([.ref (x 0), .int (nI v9)]) (n := 6) (Nat.le_of_ble_eq_true rfl)
  rw [lg_entry_eq]
  generalize (lg_sl ([.ref (x 0), .int (nI v9)]) ++ List.replicate (6 - (lg_sl ([.ref (x 0), .int (nI v9)])).length) Slot.unset).toArray = ls at hl ⊢
  have hl : lv_has ls 6 [(0, .ref (x 0)), (1, .int (nI v9))] := hl
  refine lv_iconst (v := (0 : Int32)) hx hb dX0_forwardDown_0 (by decide +kernel) ?_
  refine lv_istore_n (lv' := [(2, .int (0 : Int32)), (0, .ref (x 0)), (1, .int (nI v9))]) hx hb dX0_forwardDown_1 rfl hl (by decide) rfl (fun ls hl => ?_)
  have L2 : ∀ (n : Nat) (x9 : Nat) (w9 : Nat → Int64) (H : Heap) (locs : List Loc) (ls : Array Slot), (8 - x9) < n → (x9 ≤ 8) → (∀ b, b < x9 → w9 (v9 * 8 + b) = fP f2 v9 b) → va_P D vwCl (cw x cd f0 f1 f2 f3 w9) H → va_D A (cw x cd f0 f1 f2 f3 w9) → va_S A s.heap H locs → lv_has ls 6 [(0, .ref (x 0)), (1, .int (nI v9)), (2, .int (nI x9))] → W p l e ((headSpec wsX0_forwardDown ({ frames := 2, cells := 0, slots := 0, locals := 43 } : Room)).room) s m (([.ref (x 0), .int (nI v9)] : List Value).toArray) below meth c H locs 0 0 (MQ below (va_Qv (fun (u : Nat → Int64) => ∀ b, b < 8 → u (v9 * 8 + b) = fP f2 v9 b) (fun (u : Nat → Int64) (t : State) => crB D (cw x cd f0 f1 f2 f3 u) (cty cd) A t) A) ([.ref (x 0), .int (nI v9)] : List Value).toArray s 0 0 A) (F0 m 2 ls []) := by
    intro n
    induction n with
    | zero =>
      intro x9 w9 H locs ls hn
      exact absurd hn (Nat.not_lt_zero _)
    | succ n ih2 =>
      intro x9 w9 H locs ls hn2 hx9 hw9 hP hD hS hl
      refine lv_iload_n hx hb dX0_forwardDown_2 rfl (lv_at hl 2 rfl) ?_
      refine lv_bipush (v := (8 : Int32)) hx hb dX0_forwardDown_3 (by decide +kernel) ?_
      refine cx_icmp_ge (i := ((x9 : Nat) : Int)) (j := 8) (tgt := 77) hx hb (nI_toInt (by omega)) (by decide +kernel) dX0_forwardDown_5 (by decide) (fun c_1 => ?_) (fun c_1 => ?_)
      · exact W.vret hx hb hr (fun t ht hW => ⟨⟨w9, rfl, (by obtain rfl : x9 = 8 := (by omega); exact hw9), by rw [ht]; exact hP, va_K.moved hW.alike hK, hD⟩, hS.F ht⟩) hS.2.2 dX0_forwardDown_77
      · refine lv_lconst (v := (0 : Int64)) hx hb dX0_forwardDown_8 (by decide +kernel) ?_
        refine lv_lstore_n (lv' := [(3, .long (0 : Int64)), (0, .ref (x 0)), (1, .int (nI v9)), (2, .int (nI x9))]) hx hb dX0_forwardDown_9 rfl hl (by decide) rfl (fun ls hl => ?_)
        refine lv_iconst (v := (0 : Int32)) hx hb dX0_forwardDown_10 (by decide +kernel) ?_
        refine lv_istore (lv' := [(5, .int (0 : Int32)), (3, .long (0 : Int64)), (0, .ref (x 0)), (1, .int (nI v9)), (2, .int (nI x9))]) hx hb dX0_forwardDown_11 hl (by decide) rfl (fun ls hl => ?_)
        have L13 : ∀ (n : Nat) (y9 : Nat) (H : Heap) (locs : List Loc) (ls : Array Slot), (8 - y9) < n → (y9 ≤ 8) → va_P D vwCl (cw x cd f0 f1 f2 f3 w9) H → va_D A (cw x cd f0 f1 f2 f3 w9) → va_S A s.heap H locs → lv_has ls 6 [(0, .ref (x 0)), (1, .int (nI v9)), (2, .int (nI x9)), (3, .long (sumL (fun y9 => (wvN 1 v9 y9 * (f2 (y9 * 8 + x9) - 128)).toInt64) y9)), (5, .int (nI y9))] → W p l e ((headSpec wsX0_forwardDown ({ frames := 2, cells := 0, slots := 0, locals := 43 } : Room)).room) s m (([.ref (x 0), .int (nI v9)] : List Value).toArray) below meth c H locs 0 0 (MQ below (va_Qv (fun (u : Nat → Int64) => ∀ b, b < 8 → u (v9 * 8 + b) = fP f2 v9 b) (fun (u : Nat → Int64) (t : State) => crB D (cw x cd f0 f1 f2 f3 u) (cty cd) A t) A) ([.ref (x 0), .int (nI v9)] : List Value).toArray s 0 0 A) (F0 m 13 ls []) := by
          intro n
          induction n with
          | zero =>
            intro y9 H locs ls hn
            exact absurd hn (Nat.not_lt_zero _)
          | succ n ih13 =>
            intro y9 H locs ls hn13 hy9 hP hD hS hl
            refine lv_iload hx hb dX0_forwardDown_13 (lv_at hl 4 rfl) ?_
            refine lv_bipush (v := (8 : Int32)) hx hb dX0_forwardDown_15 (by decide +kernel) ?_
            refine cx_icmp_ge (i := ((y9 : Nat) : Int)) (j := 8) (tgt := 54) hx hb (nI_toInt (by omega)) (by decide +kernel) dX0_forwardDown_17 (by decide) (fun c_2 => ?_) (fun c_2 => ?_)
            · refine lv_aload_n hx hb dX0_forwardDown_54 rfl (lv_at hl 0 rfl) ?_
              refine va_get (D := D) (ci := 0) (v := .ref (x 5)) (C := RX0) (T := TX0) (N := 5) hx hb hts hin0 hown hK hP 0 rfl rfl 4 (by decide) hf22 (fun _ h9 => h9) rfl dX0_forwardDown_55 ?_
              refine lv_iload_n hx hb dX0_forwardDown_58 rfl (lv_at hl 1 rfl) ?_
              refine lv_bipush (v := (8 : Int32)) hx hb dX0_forwardDown_59 (by decide +kernel) ?_
              refine cx_imul hx hb v9 8 dX0_forwardDown_61 ?_
              refine lv_iload_n hx hb dX0_forwardDown_62 rfl (lv_at hl 2 rfl) ?_
              refine cx_iadd hx hb (v9 * 8) x9 dX0_forwardDown_63 ?_
              refine lv_lload_n hx hb dX0_forwardDown_64 rfl (lv_at hl 3 rfl) ?_
              refine lv_bipush (v := (11 : Int32)) hx hb dX0_forwardDown_65 (by decide +kernel) ?_
              refine vp_callSl (W.runS (As := [.long (sumL (fun y9 => (wvN 1 v9 y9 * (f2 (y9 * 8 + x9) - 128)).toInt64) y9), .int (11 : Int32)]) (rest := [.int (nI (v9 * 8 + x9)), .ref (x 5)]) ⟨hx, hb, hml, hown, hts⟩ (m_rounded l D (sumL (fun y9 => (wvN 1 v9 y9 * (f2 (y9 * 8 + x9) - 128)).toInt64) y9) (11 : Int32)) (va_cwS 2 hts (gw_S wm_62 wm_63 wm_12 wm_64) rfl rfl rfl (by decide +kernel) ⟨Nat.le_of_ble_eq_true rfl, Nat.le_of_ble_eq_true rfl⟩) ⟨cro_blind, fun U hU hW => ⟨rfl, cro_at (hP.sub (ws' := []) [] rfl) (hK.sub (tys' := []) [] rfl) hTb hS hU hW⟩⟩ rfl rfl hl.1 rfl (lv_room (Nat.le_of_ble_eq_true rfl)) dX0_forwardDown_67 ⟨Nat.le_of_ble_eq_true rfl, Nat.le_of_ble_eq_true rfl⟩) (fun r_3 hr_3 => ?_)
              rw [hr_3]
              refine cx_last hx hb hK hP hD hS 5 4 rfl rfl (v9 * 8 + x9) (by omega) (by decide) dX0_forwardDown_70 (fun H locs hP hD hS => ?_)
              have hP : va_P D vwCl (cw x cd f0 f1 f2 f3 (vp_updL w9 (v9 * 8 + x9) (rdL (sumL (fun y9 => (wvN 1 v9 y9 * (f2 (y9 * 8 + x9) - 128)).toInt64) y9) (11 : Int32)))) H := hP
              have hD : va_D A (cw x cd f0 f1 f2 f3 (vp_updL w9 (v9 * 8 + x9) (rdL (sumL (fun y9 => (wvN 1 v9 y9 * (f2 (y9 * 8 + x9) - 128)).toInt64) y9) (11 : Int32)))) := hD
              refine lv_iinc (v := nI (x9 + 1)) (lv' := [(2, .int (nI (x9 + 1))), (0, .ref (x 0)), (1, .int (nI v9)), (3, .long (sumL (fun y9 => (wvN 1 v9 y9 * (f2 (y9 * 8 + x9) - 128)).toInt64) y9)), (5, .int (nI y9))]) hx hb dX0_forwardDown_71 hl (k := 2) rfl (by show nI x9 + 1 = nI (x9 + 1); exact nI_add x9 1) (by decide) rfl (fun ls hl => ?_)
              refine lv_goto (tgt := 2) hx hb dX0_forwardDown_74 (by decide) ?_
              exact ih2 (x9 + 1) (vp_updL w9 (v9 * 8 + x9) (rdL (sumL (fun y9 => (wvN 1 v9 y9 * (f2 (y9 * 8 + x9) - 128)).toInt64) y9) (11 : Int32))) _ _ _ (by omega) (by omega) (by
                  intro b hb9
                  by_cases hq : x9 = b
                  · subst hq; obtain rfl : y9 = 8 := by omega
                    exact pk_uLs
                  · rw [pk_uLn (by omega)]; exact hw9 b (by omega)) hP hD hS (lv_sub hl [1, 2, 0] rfl)
            · refine lv_lload_n hx hb dX0_forwardDown_20 rfl (lv_at hl 3 rfl) ?_
              refine lv_iconst (v := (1 : Int32)) hx hb dX0_forwardDown_21 (by decide +kernel) ?_
              refine lv_iload_n hx hb dX0_forwardDown_22 rfl (lv_at hl 1 rfl) ?_
              refine lv_iload hx hb dX0_forwardDown_23 (lv_at hl 4 rfl) ?_
              refine vp_callSi (W.runS (As := [.int (1 : Int32), .int (nI v9), .int (nI y9)]) (rest := [.long (sumL (fun y9 => (wvN 1 v9 y9 * (f2 (y9 * 8 + x9) - 128)).toInt64) y9)]) ⟨hx, hb, hml, hown, hts⟩ (m_waveAt l D 1 v9 y9 (by omega) (by omega) (by omega)) (va_cwS 3 hts (gw_S wm_54 wm_55 wm_12 wm_56) rfl rfl rfl (by decide +kernel) ⟨Nat.le_of_ble_eq_true rfl, Nat.le_of_ble_eq_true rfl⟩) ⟨cro_blind, fun U hU hW => ⟨rfl, cro_at (hP.sub (ws' := []) [] rfl) (hK.sub (tys' := []) [] rfl) hTb hS hU hW⟩⟩ rfl rfl hl.1 rfl (lv_room (Nat.le_of_ble_eq_true rfl)) dX0_forwardDown_25 ⟨Nat.le_of_ble_eq_true rfl, Nat.le_of_ble_eq_true rfl⟩) (fun r_4 hr_4 => ?_)
              rw [hr_4]
              refine lv_aload_n hx hb dX0_forwardDown_28 rfl (lv_at hl 0 rfl) ?_
              refine va_get (D := D) (ci := 0) (v := .ref (x 3)) (C := RX0) (T := TX0) (N := 5) hx hb hts hin0 hown hK hP 0 rfl rfl 2 (by decide) hf16 (fun _ h9 => h9) rfl dX0_forwardDown_29 ?_
              refine lv_iload hx hb dX0_forwardDown_32 (lv_at hl 4 rfl) ?_
              refine lv_bipush (v := (8 : Int32)) hx hb dX0_forwardDown_34 (by decide +kernel) ?_
              refine cx_imul hx hb y9 8 dX0_forwardDown_36 ?_
              refine lv_iload_n hx hb dX0_forwardDown_37 rfl (lv_at hl 2 rfl) ?_
              refine cx_iadd hx hb (y9 * 8) x9 dX0_forwardDown_38 ?_
              refine cx_iald hx hb hK hP 3 2 rfl rfl (y9 * 8 + x9) (by omega) (by decide) dX0_forwardDown_39 ?_
              refine lv_sipush (v := (128 : Int32)) hx hb dX0_forwardDown_40 (by decide +kernel) ?_
              refine lv_isub hx hb dX0_forwardDown_43 ?_
              refine lv_imul hx hb dX0_forwardDown_44 ?_
              refine lv_i2l hx hb dX0_forwardDown_45 rfl ?_
              refine lv_ladd hx hb dX0_forwardDown_46 ?_
              refine lv_lstore_n (lv' := [(3, .long ((sumL (fun y9 => (wvN 1 v9 y9 * (f2 (y9 * 8 + x9) - 128)).toInt64) y9) + (((wvN 1 v9 y9) * ((f2 (y9 * 8 + x9)) - (128 : Int32))).toInt64))), (0, .ref (x 0)), (1, .int (nI v9)), (2, .int (nI x9)), (5, .int (nI y9))]) hx hb dX0_forwardDown_47 rfl hl (by decide) rfl (fun ls hl => ?_)
              refine lv_iinc (v := nI (y9 + 1)) (lv' := [(5, .int (nI (y9 + 1))), (3, .long ((sumL (fun y9 => (wvN 1 v9 y9 * (f2 (y9 * 8 + x9) - 128)).toInt64) y9) + (((wvN 1 v9 y9) * ((f2 (y9 * 8 + x9)) - (128 : Int32))).toInt64))), (0, .ref (x 0)), (1, .int (nI v9)), (2, .int (nI x9))]) hx hb dX0_forwardDown_48 hl (k := 4) rfl (by show nI y9 + 1 = nI (y9 + 1); exact nI_add y9 1) (by decide) rfl (fun ls hl => ?_)
              refine lv_goto (tgt := 13) hx hb dX0_forwardDown_51 (by decide) ?_
              exact ih13 (y9 + 1) _ _ _ (by omega) (by omega) hP hD hS (lv_sub hl [2, 3, 4, 1, 0] rfl)
        exact L13 _ 0 _ _ _ (Nat.lt_succ_self _) (Nat.zero_le _) hP hD hS (lv_sub hl [2, 3, 4, 1, 0] rfl)
  exact L2 _ 0 g _ _ _ (Nat.lt_succ_self _) (Nat.zero_le _) (fun b hb9 => absurd hb9 (Nat.not_lt_zero b)) hP hD hS (lv_sub hl [1, 2, 0] rfl)
set_option maxHeartbeats 4000000 in
set_option maxRecDepth 100000 in
/-- forward -/
theorem m_forward (l : Launch) (D : va_G) (x : Nat → Nat) (cd : Nat → ClassId) (f0 f1 f2 f3 : Nat → Int32) (g : Nat → Int64) (hst : ∀ j, j < 64 → 1 ≤ (f1 j).toInt ∧ (f1 j).toInt ≤ 255) (sz : Nat) : Met l yX0_forward wsX0_forward ({ frames := 3, cells := 0, slots := 0, locals := 68 } : Room) (va_Pc [.ref (x 0)] (crw D (cw x cd f0 f1 f2 f3 g) (cty cd) sz)) (va_Qi (fun (r : Int32) (u9 : (Nat → Int32) × (Nat → Int64)) => match u9 with | (u, g8) => r = cntI u 64 ∧ ∀ a b, a < 8 → b < 8 → u (a * 8 + b) = nearV (fE (fP f2) a b) (f1 (a * 8 + b))) (fun (u9 : (Nat → Int32) × (Nat → Int64)) (t : State) => match u9 with | (u, g8) => crB D (cw x cd u f1 f2 f3 g8) (cty cd) (va_A (cw x cd f0 f1 f2 f3 g) sz) t) (va_A (cw x cd f0 f1 f2 f3 g) sz)) 0 0 (va_A (cw x cd f0 f1 f2 f3 g) sz) := by
  refine Met.ofW (cc := cX0_forward) (maxL := 4) (ret := some .int) (by decide) rfl ?_
  intro p e s m args below meth c s₁ B hml hv
  obtain ⟨rfl, hsz, hP, hK, hD0, hTb⟩ := hv
  have hx := B.exec
  have hb := B.bytes
  have hr := B.returns
  have hts : ∀ w ∈ wA, w.before _ s = true := fun w h => atoms_spec (ws := wsX0_forward) B.pre w (List.mem_cons_of_mem _ h)
  have hown : s.vm.findClass RX0 = some m.cls := findClass_of_methodNamed B.named
  have hlocks := B.notSynchronized
  subst hsz
  have hD := hD0.self (sz := s.heap.size)
  generalize hAe : va_A (cw x cd f0 f1 f2 f3 g) s.heap.size = A at hD hTb ⊢
  have hA : ∀ q : Nat, s.heap.size ≤ q → A q := fun q h => by rw [← hAe]; exact Or.inr h
  have hS : va_S A s.heap s.heap [] := va_S.rf
  have hin0 := inA0
  have hf9 := (hts _ wm_28)
  have hf13 := (hts _ wm_29)
  have hl := lv_entry ([.ref (x 0)]) (n := 4) (Nat.le_of_ble_eq_true rfl)
  rw [lg_entry_eq]
  generalize (lg_sl ([.ref (x 0)]) ++ List.replicate (4 - (lg_sl ([.ref (x 0)])).length) Slot.unset).toArray = ls at hl ⊢
  have hl : lv_has ls 4 [(0, .ref (x 0))] := hl
  refine lv_iconst (v := (0 : Int32)) hx hb dX0_forward_0 (by decide +kernel) ?_
  refine lv_istore_n (lv' := [(1, .int (0 : Int32)), (0, .ref (x 0))]) hx hb dX0_forward_1 rfl hl (by decide) rfl (fun ls hl => ?_)
  have L2 : ∀ (n : Nat) (v9 : Nat) (w9 : Nat → Int32) (g9 : Nat → Int64) (H : Heap) (locs : List Loc) (ls : Array Slot), (8 - v9) < n → (v9 ≤ 8) → (∀ a b, a < v9 → b < 8 → w9 (a * 8 + b) = nearV (fE (fP f2) a b) (f1 (a * 8 + b))) → va_P D vwCl (cw x cd w9 f1 f2 f3 g9) H → va_D A (cw x cd w9 f1 f2 f3 g9) → va_S A s.heap H locs → lv_has ls 4 [(0, .ref (x 0)), (1, .int (nI v9))] → W p l e ((headSpec wsX0_forward ({ frames := 3, cells := 0, slots := 0, locals := 68 } : Room)).room) s m (([.ref (x 0)] : List Value).toArray) below meth c H locs 0 0 (MQ below (va_Qi (fun (r : Int32) (u9 : (Nat → Int32) × (Nat → Int64)) => match u9 with | (u, g8) => r = cntI u 64 ∧ ∀ a b, a < 8 → b < 8 → u (a * 8 + b) = nearV (fE (fP f2) a b) (f1 (a * 8 + b))) (fun (u9 : (Nat → Int32) × (Nat → Int64)) (t : State) => match u9 with | (u, g8) => crB D (cw x cd u f1 f2 f3 g8) (cty cd) A t) A) ([.ref (x 0)] : List Value).toArray s 0 0 A) (F0 m 2 ls []) := by
    intro n
    induction n with
    | zero =>
      intro v9 w9 g9 H locs ls hn
      exact absurd hn (Nat.not_lt_zero _)
    | succ n ih2 =>
      intro v9 w9 g9 H locs ls hn2 hv9 hw9 hP hD hS hl
      refine lv_iload_n hx hb dX0_forward_2 rfl (lv_at hl 1 rfl) ?_
      refine lv_bipush (v := (8 : Int32)) hx hb dX0_forward_3 (by decide +kernel) ?_
      refine cx_icmp_ge (i := ((v9 : Nat) : Int)) (j := 8) (tgt := 61) hx hb (nI_toInt (by omega)) (by decide +kernel) dX0_forward_5 (by decide) (fun c_1 => ?_) (fun c_1 => ?_)
      · refine lv_aload_n hx hb dX0_forward_61 rfl (lv_at hl 0 rfl) ?_
        refine vp_callSi (W.runV (As := []) (rest := []) ⟨hx, hb, hml, hown, hts⟩ (m_count l D x cd w9 f1 f2 f3 g9) (cwV 0 hts (gw_V wm_75 wm_77 wm_2 wm_12 wm_78) rfl rfl rfl (by decide +kernel) ⟨Nat.le_of_ble_eq_true rfl, Nat.le_of_ble_eq_true rfl⟩) ⟨cro_blind, va_recv hK hP (ci := 0) (q0 := 0) rfl rfl, fun U hU hW => ⟨rfl, cro_at hP hK hTb hS hU hW⟩⟩ rfl rfl hl.1 rfl (lv_room (Nat.le_of_ble_eq_true rfl)) dX0_forward_62 ⟨Nat.le_of_ble_eq_true rfl, Nat.le_of_ble_eq_true rfl⟩) (fun r_2 hr_2 => ?_)
        rw [hr_2]
        exact W.iret (v := cntI w9 64) hx hb hr (fun t ht hW => ⟨⟨cntI w9 64, (w9, g9), rfl, (by obtain rfl : v9 = 8 := (by omega); exact ⟨rfl, fun a b ha9 hb9 => hw9 a b ha9 hb9⟩), by rw [ht]; exact hP, va_K.moved hW.alike hK, hD⟩, hS.F ht⟩) hS.2.2 dX0_forward_65
      · refine lv_aload_n hx hb dX0_forward_8 rfl (lv_at hl 0 rfl) ?_
        refine lv_iload_n hx hb dX0_forward_9 rfl (lv_at hl 1 rfl) ?_
        have hFc := va_free (wc := cw x cd w9 f1 f2 f3 g9) hD hS hA [0, 1, 2, 3, 4, 5] rfl
        refine va_callv (va_runV (As := [.int (nI v9)]) (rest := []) ⟨hx, hb, hml, hown, hts⟩ (m_forwardDown l D x cd w9 f1 f2 f3 g9 v9 (by omega) _) (cwV 1 hts (gw_V wm_50 wm_52 wm_0 wm_12 wm_53) rfl rfl rfl (by decide +kernel) ⟨Nat.le_of_ble_eq_true rfl, Nat.le_of_ble_eq_true rfl⟩) ⟨crw_blind, va_recv hK hP (ci := 0) (q0 := 0) rfl rfl, fun U hU hW => ⟨rfl, crw_at hP hK hD hTb hS hFc hU hW⟩⟩ rfl rfl hl.1 rfl (lv_room (Nat.le_of_ble_eq_true rfl)) dX0_forward_10 ⟨Nat.le_of_ble_eq_true rfl, Nat.le_of_ble_eq_true rfl⟩) hS (fun q _ h => hFc q h) hFc (fun u9 t H1 locs ht hvm hw_4 hB hz1 hk1 hS => ?_)
        obtain ⟨g_5, rfl⟩ : ∃ z, z = u9 := ⟨_, rfl⟩
        obtain ⟨hP1, hK1, hD1⟩ := hB
        rw [ht] at hP1
        have hP : va_P D vwCl (cw x cd w9 f1 f2 f3 g_5) H1 := hP1
        have hD : va_D A (cw x cd w9 f1 f2 f3 g_5) := hD1.weaken (fun _ _ _ h => hFc _ h)
        try dsimp only at hw_4
        clear hFc hP1 hD1 hK1 hk1 hz1 ht hvm
        generalize H1 = H at hP hS ⊢
        refine lv_iconst (v := (0 : Int32)) hx hb dX0_forward_13 (by decide +kernel) ?_
        refine lv_istore_n (lv' := [(2, .int (0 : Int32)), (0, .ref (x 0)), (1, .int (nI v9))]) hx hb dX0_forward_14 rfl hl (by decide) rfl (fun ls hl => ?_)
        have L15 : ∀ (n : Nat) (u9 : Nat) (w9 : Nat → Int32) (H : Heap) (locs : List Loc) (ls : Array Slot), (8 - u9) < n → (u9 ≤ 8) → (∀ a b, (a < v9 ∨ (a = v9 ∧ b < u9)) → b < 8 → w9 (a * 8 + b) = nearV (fE (fP f2) a b) (f1 (a * 8 + b))) → va_P D vwCl (cw x cd w9 f1 f2 f3 g_5) H → va_D A (cw x cd w9 f1 f2 f3 g_5) → va_S A s.heap H locs → lv_has ls 4 [(0, .ref (x 0)), (1, .int (nI v9)), (2, .int (nI u9))] → W p l e ((headSpec wsX0_forward ({ frames := 3, cells := 0, slots := 0, locals := 68 } : Room)).room) s m (([.ref (x 0)] : List Value).toArray) below meth c H locs 0 0 (MQ below (va_Qi (fun (r : Int32) (u9 : (Nat → Int32) × (Nat → Int64)) => match u9 with | (u, g8) => r = cntI u 64 ∧ ∀ a b, a < 8 → b < 8 → u (a * 8 + b) = nearV (fE (fP f2) a b) (f1 (a * 8 + b))) (fun (u9 : (Nat → Int32) × (Nat → Int64)) (t : State) => match u9 with | (u, g8) => crB D (cw x cd u f1 f2 f3 g8) (cty cd) A t) A) ([.ref (x 0)] : List Value).toArray s 0 0 A) (F0 m 15 ls []) := by
          intro n
          induction n with
          | zero =>
            intro u9 w9 H locs ls hn
            exact absurd hn (Nat.not_lt_zero _)
          | succ n ih15 =>
            intro u9 w9 H locs ls hn15 hu9 hz9 hP hD hS hl
            refine lv_iload_n hx hb dX0_forward_15 rfl (lv_at hl 2 rfl) ?_
            refine lv_bipush (v := (8 : Int32)) hx hb dX0_forward_16 (by decide +kernel) ?_
            refine cx_icmp_ge (i := ((u9 : Nat) : Int)) (j := 8) (tgt := 55) hx hb (nI_toInt (by omega)) (by decide +kernel) dX0_forward_18 (by decide) (fun c_6 => ?_) (fun c_6 => ?_)
            · refine lv_iinc (v := nI (v9 + 1)) (lv' := [(1, .int (nI (v9 + 1))), (0, .ref (x 0)), (2, .int (nI u9))]) hx hb dX0_forward_55 hl (k := 1) rfl (by show nI v9 + 1 = nI (v9 + 1); exact nI_add v9 1) (by decide) rfl (fun ls hl => ?_)
              refine lv_goto (tgt := 2) hx hb dX0_forward_58 (by decide) ?_
              exact ih2 (v9 + 1) w9 g_5 _ _ _ (by omega) (by omega) (fun a b ha9 hb9 => hz9 a b (by omega) hb9) hP hD hS (lv_sub hl [1, 0] rfl)
            · refine lv_iload_n hx hb dX0_forward_21 rfl (lv_at hl 1 rfl) ?_
              refine lv_bipush (v := (8 : Int32)) hx hb dX0_forward_22 (by decide +kernel) ?_
              refine cx_imul hx hb v9 8 dX0_forward_24 ?_
              refine lv_iload_n hx hb dX0_forward_25 rfl (lv_at hl 2 rfl) ?_
              refine cx_iadd hx hb (v9 * 8) u9 dX0_forward_26 ?_
              refine lv_istore_n (lv' := [(3, .int (nI (v9 * 8 + u9))), (0, .ref (x 0)), (1, .int (nI v9)), (2, .int (nI u9))]) hx hb dX0_forward_27 rfl hl (by decide) rfl (fun ls hl => ?_)
              refine lv_aload_n hx hb dX0_forward_28 rfl (lv_at hl 1 rfl) ?_
              refine va_get (D := D) (ci := 0) (v := .ref (x 1)) (C := RX0) (T := TX0) (N := 5) hx hb hts hin0 hown hK hP 0 rfl rfl 0 (by decide) hf9 (fun _ h9 => h9) rfl dX0_forward_29 ?_
              refine lv_iload_n hx hb dX0_forward_32 rfl (lv_at hl 0 rfl) ?_
              refine lv_aload_n hx hb dX0_forward_33 rfl (lv_at hl 1 rfl) ?_
              refine lv_iload_n hx hb dX0_forward_34 rfl (lv_at hl 2 rfl) ?_
              refine lv_iload_n hx hb dX0_forward_35 rfl (lv_at hl 3 rfl) ?_
              refine vp_callSi (W.runV (As := [.int (nI v9), .int (nI u9)]) (rest := [.int (nI (v9 * 8 + u9)), .ref (x 1)]) ⟨hx, hb, hml, hown, hts⟩ (m_forwardAcross l D x cd w9 f1 f2 f3 g_5 v9 u9 (by omega) (by omega)) (cwV 2 hts (gw_V wm_65 wm_67 wm_1 wm_12 wm_68) rfl rfl rfl (by decide +kernel) ⟨Nat.le_of_ble_eq_true rfl, Nat.le_of_ble_eq_true rfl⟩) ⟨cro_blind, va_recv hK hP (ci := 0) (q0 := 0) rfl rfl, fun U hU hW => ⟨rfl, cro_at hP hK hTb hS hU hW⟩⟩ rfl rfl hl.1 rfl (lv_room (Nat.le_of_ble_eq_true rfl)) dX0_forward_36 ⟨Nat.le_of_ble_eq_true rfl, Nat.le_of_ble_eq_true rfl⟩) (fun r_7 hr_7 => ?_)
              rw [show fE (fun a9 b9 => g_5 (a9 * 8 + b9)) v9 u9 = fE (fP f2) v9 u9 from fE_congr (fun b hb9 => hw_4 b hb9)] at hr_7
              rw [hr_7]
              refine lv_aload_n hx hb dX0_forward_39 rfl (lv_at hl 1 rfl) ?_
              refine va_get (D := D) (ci := 0) (v := .ref (x 2)) (C := RX0) (T := TX0) (N := 5) hx hb hts hin0 hown hK hP 0 rfl rfl 1 (by decide) hf13 (fun _ h9 => h9) rfl dX0_forward_40 ?_
              refine lv_iload_n hx hb dX0_forward_43 rfl (lv_at hl 0 rfl) ?_
              refine cx_iald hx hb hK hP 2 1 rfl rfl (v9 * 8 + u9) (by omega) (by decide) dX0_forward_44 ?_
              refine vp_callSi (W.runS (As := [.int (fE (fP f2) v9 u9), .int (f1 (v9 * 8 + u9))]) (rest := [.int (nI (v9 * 8 + u9)), .ref (x 1)]) ⟨hx, hb, hml, hown, hts⟩ (m_nearest l D (fE (fP f2) v9 u9) (f1 (v9 * 8 + u9)) ((hst _ (by omega)).1) ((hst _ (by omega)).2)) (va_cwS 2 hts (gw_S wm_69 wm_70 wm_12 wm_71) rfl rfl rfl (by decide +kernel) ⟨Nat.le_of_ble_eq_true rfl, Nat.le_of_ble_eq_true rfl⟩) ⟨cro_blind, fun U hU hW => ⟨rfl, cro_at (hP.sub (ws' := []) [] rfl) (hK.sub (tys' := []) [] rfl) hTb hS hU hW⟩⟩ rfl rfl hl.1 rfl (lv_room (Nat.le_of_ble_eq_true rfl)) dX0_forward_45 ⟨Nat.le_of_ble_eq_true rfl, Nat.le_of_ble_eq_true rfl⟩) (fun r_8 hr_8 => ?_)
              rw [hr_8]
              refine cx_iast hx hb hK hP hD hS 1 0 rfl rfl (v9 * 8 + u9) (by omega) (by decide) dX0_forward_48 (fun H locs hP hD hS => ?_)
              have hP : va_P D vwCl (cw x cd (upd w9 (v9 * 8 + u9) (nearV (fE (fP f2) v9 u9) (f1 (v9 * 8 + u9)))) f1 f2 f3 g_5) H := hP
              have hD : va_D A (cw x cd (upd w9 (v9 * 8 + u9) (nearV (fE (fP f2) v9 u9) (f1 (v9 * 8 + u9)))) f1 f2 f3 g_5) := hD
              refine lv_iinc (v := nI (u9 + 1)) (lv' := [(2, .int (nI (u9 + 1))), (3, .int (nI (v9 * 8 + u9))), (0, .ref (x 0)), (1, .int (nI v9))]) hx hb dX0_forward_49 hl (k := 3) rfl (by show nI u9 + 1 = nI (u9 + 1); exact nI_add u9 1) (by decide) rfl (fun ls hl => ?_)
              refine lv_goto (tgt := 15) hx hb dX0_forward_52 (by decide) ?_
              exact ih15 (u9 + 1) (upd w9 (v9 * 8 + u9) (nearV (fE (fP f2) v9 u9) (f1 (v9 * 8 + u9)))) _ _ _ (by omega) (by omega) (by
                  intro a b ha9 hb9
                  by_cases hq : a * 8 + b = v9 * 8 + u9
                  · obtain rfl : v9 = a := by omega
                    obtain rfl : u9 = b := by omega
                    exact pk_us
                  · rw [pk_un hq]; exact hz9 a b (by omega) hb9) hP hD hS (lv_sub hl [2, 3, 0] rfl)
        exact L15 _ 0 w9 _ _ _ (Nat.lt_succ_self _) (Nat.zero_le _) (fun a b ha9 hb9 => hw9 a b (by omega) hb9) hP hD hS (lv_sub hl [1, 2, 0] rfl)
  exact L2 _ 0 f0 g _ _ _ (Nat.lt_succ_self _) (Nat.zero_le _) (fun a b ha9 => absurd ha9 (Nat.not_lt_zero a)) hP hD hS (lv_sub hl [1, 0] rfl)
