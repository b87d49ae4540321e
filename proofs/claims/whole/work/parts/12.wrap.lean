theorem dL_put_0 : decode cL_put 0 = .ok (.aload_n 0, 1) := by decide +kernel
theorem dL_put_1 : decode cL_put 1 = .ok (.iload_n 1, 1) := by decide +kernel
theorem dL_put_2 : decode cL_put 2 = .ok (.iload_n 2, 1) := by decide +kernel
theorem dL_put_3 : decode cL_put 3 = .ok (.invokevirtual 7, 3) := by decide +kernel
theorem dL_put_6 : decode cL_put 6 = .ok (.goto 9, 3) := by decide +kernel
theorem dL_put_9 : decode cL_put 9 = .ok (.astore_n 3, 1) := by decide +kernel
theorem dL_put_10 : decode cL_put 10 = .ok (.iconst 1, 1) := by decide +kernel
theorem dL_put_11 : decode cL_put 11 = .ok (.ireturn, 1) := by decide +kernel
theorem dL_put_12 : decode cL_put 12 = .ok (.astore_n 3, 1) := by decide +kernel
theorem dL_put_13 : decode cL_put 13 = .ok (.iconst 2, 1) := by decide +kernel
theorem dL_put_14 : decode cL_put 14 = .ok (.ireturn, 1) := by decide +kernel
theorem dL_put_15 : decode cL_put 15 = .ok (.iconst 0, 1) := by decide +kernel
theorem dL_put_16 : decode cL_put 16 = .ok (.ireturn, 1) := by decide +kernel
theorem dL_step_0 : decode cL_step 0 = .ok (.aload_n 0, 1) := by decide +kernel
theorem dL_step_1 : decode cL_step 1 = .ok (.iload_n 1, 1) := by decide +kernel
theorem dL_step_2 : decode cL_step 2 = .ok (.iload_n 2, 1) := by decide +kernel
theorem dL_step_3 : decode cL_step 3 = .ok (.invokevirtual 17, 3) := by decide +kernel
theorem dL_step_6 : decode cL_step 6 = .ok (.goto 9, 3) := by decide +kernel
theorem dL_step_9 : decode cL_step 9 = .ok (.astore_n 3, 1) := by decide +kernel
theorem dL_step_10 : decode cL_step 10 = .ok (.iconst 1, 1) := by decide +kernel
theorem dL_step_11 : decode cL_step 11 = .ok (.ireturn, 1) := by decide +kernel
theorem dL_step_12 : decode cL_step 12 = .ok (.astore_n 3, 1) := by decide +kernel
theorem dL_step_13 : decode cL_step 13 = .ok (.iconst 2, 1) := by decide +kernel
theorem dL_step_14 : decode cL_step 14 = .ok (.ireturn, 1) := by decide +kernel
theorem dL_step_15 : decode cL_step 15 = .ok (.iconst 0, 1) := by decide +kernel
theorem dL_step_16 : decode cL_step 16 = .ok (.ireturn, 1) := by decide +kernel
theorem dL_steps_0 : decode cL_steps 0 = .ok (.aload_n 0, 1) := by decide +kernel
theorem dL_steps_1 : decode cL_steps 1 = .ok (.iload_n 1, 1) := by decide +kernel
theorem dL_steps_2 : decode cL_steps 2 = .ok (.iload_n 2, 1) := by decide +kernel
theorem dL_steps_3 : decode cL_steps 3 = .ok (.iload_n 3, 1) := by decide +kernel
theorem dL_steps_4 : decode cL_steps 4 = .ok (.invokevirtual 20, 3) := by decide +kernel
theorem dL_steps_7 : decode cL_steps 7 = .ok (.goto 7, 3) := by decide +kernel
theorem dL_steps_10 : decode cL_steps 10 = .ok (.astore 4, 2) := by decide +kernel
theorem dL_steps_12 : decode cL_steps 12 = .ok (.iconst 1, 1) := by decide +kernel
theorem dL_steps_13 : decode cL_steps 13 = .ok (.ireturn, 1) := by decide +kernel
theorem dL_steps_14 : decode cL_steps 14 = .ok (.iconst 0, 1) := by decide +kernel
theorem dL_steps_15 : decode cL_steps 15 = .ok (.ireturn, 1) := by decide +kernel
theorem dL_row_0 : decode cL_row 0 = .ok (.aload_n 0, 1) := by decide +kernel
theorem dL_row_1 : decode cL_row 1 = .ok (.iload_n 1, 1) := by decide +kernel
theorem dL_row_2 : decode cL_row 2 = .ok (.lload_n 2, 1) := by decide +kernel
theorem dL_row_3 : decode cL_row 3 = .ok (.invokevirtual 24, 3) := by decide +kernel
theorem dL_row_6 : decode cL_row 6 = .ok (.goto 7, 3) := by decide +kernel
theorem dL_row_9 : decode cL_row 9 = .ok (.astore 4, 2) := by decide +kernel
theorem dL_row_11 : decode cL_row 11 = .ok (.iconst 1, 1) := by decide +kernel
theorem dL_row_12 : decode cL_row 12 = .ok (.ireturn, 1) := by decide +kernel
theorem dL_row_13 : decode cL_row 13 = .ok (.iconst 0, 1) := by decide +kernel
theorem dL_row_14 : decode cL_row 14 = .ok (.ireturn, 1) := by decide +kernel
theorem dL_back_0 : decode cL_back 0 = .ok (.aload_n 2, 1) := by decide +kernel
theorem dL_back_1 : decode cL_back 1 = .ok (.iconst 0, 1) := by decide +kernel
theorem dL_back_2 : decode cL_back 2 = .ok (.aload_n 0, 1) := by decide +kernel
theorem dL_back_3 : decode cL_back 3 = .ok (.iload_n 1, 1) := by decide +kernel
theorem dL_back_4 : decode cL_back 4 = .ok (.invokevirtual 28, 3) := by decide +kernel
theorem dL_back_7 : decode cL_back 7 = .ok (.lastore, 1) := by decide +kernel
theorem dL_back_8 : decode cL_back 8 = .ok (.goto 6, 3) := by decide +kernel
theorem dL_back_11 : decode cL_back 11 = .ok (.astore_n 3, 1) := by decide +kernel
theorem dL_back_12 : decode cL_back 12 = .ok (.iconst 1, 1) := by decide +kernel
theorem dL_back_13 : decode cL_back 13 = .ok (.ireturn, 1) := by decide +kernel
theorem dL_back_14 : decode cL_back 14 = .ok (.iconst 0, 1) := by decide +kernel
theorem dL_back_15 : decode cL_back 15 = .ok (.ireturn, 1) := by decide +kernel
theorem dL_error_0 : decode cL_error 0 = .ok (.aload_n 2, 1) := by decide +kernel
theorem dL_error_1 : decode cL_error 1 = .ok (.iconst 0, 1) := by decide +kernel
theorem dL_error_2 : decode cL_error 2 = .ok (.aload_n 0, 1) := by decide +kernel
theorem dL_error_3 : decode cL_error 3 = .ok (.iload_n 1, 1) := by decide +kernel
theorem dL_error_4 : decode cL_error 4 = .ok (.invokevirtual 32, 3) := by decide +kernel
theorem dL_error_7 : decode cL_error 7 = .ok (.i2l, 1) := by decide +kernel
theorem dL_error_8 : decode cL_error 8 = .ok (.lastore, 1) := by decide +kernel
theorem dL_error_9 : decode cL_error 9 = .ok (.goto 6, 3) := by decide +kernel
theorem dL_error_12 : decode cL_error 12 = .ok (.astore_n 3, 1) := by decide +kernel
theorem dL_error_13 : decode cL_error 13 = .ok (.iconst 1, 1) := by decide +kernel
theorem dL_error_14 : decode cL_error 14 = .ok (.ireturn, 1) := by decide +kernel
theorem dL_error_15 : decode cL_error 15 = .ok (.iconst 0, 1) := by decide +kernel
theorem dL_error_16 : decode cL_error 16 = .ok (.ireturn, 1) := by decide +kernel
theorem dL_at_0 : decode cL_at 0 = .ok (.aload_n 3, 1) := by decide +kernel
theorem dL_at_1 : decode cL_at 1 = .ok (.iconst 0, 1) := by decide +kernel
theorem dL_at_2 : decode cL_at 2 = .ok (.aload_n 0, 1) := by decide +kernel
theorem dL_at_3 : decode cL_at 3 = .ok (.iload_n 1, 1) := by decide +kernel
theorem dL_at_4 : decode cL_at 4 = .ok (.iload_n 2, 1) := by decide +kernel
theorem dL_at_5 : decode cL_at 5 = .ok (.invokevirtual 36, 3) := by decide +kernel
theorem dL_at_8 : decode cL_at 8 = .ok (.i2l, 1) := by decide +kernel
theorem dL_at_9 : decode cL_at 9 = .ok (.lastore, 1) := by decide +kernel
theorem dL_at_10 : decode cL_at 10 = .ok (.goto 7, 3) := by decide +kernel
theorem dL_at_13 : decode cL_at 13 = .ok (.astore 4, 2) := by decide +kernel
theorem dL_at_15 : decode cL_at 15 = .ok (.iconst 1, 1) := by decide +kernel
theorem dL_at_16 : decode cL_at 16 = .ok (.ireturn, 1) := by decide +kernel
theorem dL_at_17 : decode cL_at 17 = .ok (.iconst 0, 1) := by decide +kernel
theorem dL_at_18 : decode cL_at 18 = .ok (.ireturn, 1) := by decide +kernel
theorem dL_exact_0 : decode cL_exact 0 = .ok (.aload_n 3, 1) := by decide +kernel
theorem dL_exact_1 : decode cL_exact 1 = .ok (.iconst 0, 1) := by decide +kernel
theorem dL_exact_2 : decode cL_exact 2 = .ok (.aload_n 0, 1) := by decide +kernel
theorem dL_exact_3 : decode cL_exact 3 = .ok (.iload_n 1, 1) := by decide +kernel
theorem dL_exact_4 : decode cL_exact 4 = .ok (.iload_n 2, 1) := by decide +kernel
theorem dL_exact_5 : decode cL_exact 5 = .ok (.invokevirtual 40, 3) := by decide +kernel
theorem dL_exact_8 : decode cL_exact 8 = .ok (.i2l, 1) := by decide +kernel
theorem dL_exact_9 : decode cL_exact 9 = .ok (.lastore, 1) := by decide +kernel
theorem dL_exact_10 : decode cL_exact 10 = .ok (.goto 7, 3) := by decide +kernel
theorem dL_exact_13 : decode cL_exact 13 = .ok (.astore 4, 2) := by decide +kernel
theorem dL_exact_15 : decode cL_exact 15 = .ok (.iconst 1, 1) := by decide +kernel
theorem dL_exact_16 : decode cL_exact 16 = .ok (.ireturn, 1) := by decide +kernel
theorem dL_exact_17 : decode cL_exact 17 = .ok (.iconst 0, 1) := by decide +kernel
theorem dL_exact_18 : decode cL_exact 18 = .ok (.ireturn, 1) := by decide +kernel
theorem dL_wave_0 : decode cL_wave 0 = .ok (.aload 4, 2) := by decide +kernel
theorem dL_wave_2 : decode cL_wave 2 = .ok (.iconst 0, 1) := by decide +kernel
theorem dL_wave_3 : decode cL_wave 3 = .ok (.aload_n 0, 1) := by decide +kernel
theorem dL_wave_4 : decode cL_wave 4 = .ok (.iload_n 1, 1) := by decide +kernel
theorem dL_wave_5 : decode cL_wave 5 = .ok (.iload_n 2, 1) := by decide +kernel
theorem dL_wave_6 : decode cL_wave 6 = .ok (.iload_n 3, 1) := by decide +kernel
theorem dL_wave_7 : decode cL_wave 7 = .ok (.invokevirtual 43, 3) := by decide +kernel
theorem dL_wave_10 : decode cL_wave 10 = .ok (.i2l, 1) := by decide +kernel
theorem dL_wave_11 : decode cL_wave 11 = .ok (.lastore, 1) := by decide +kernel
theorem dL_wave_12 : decode cL_wave 12 = .ok (.goto 7, 3) := by decide +kernel
theorem dL_wave_15 : decode cL_wave 15 = .ok (.astore 5, 2) := by decide +kernel
theorem dL_wave_17 : decode cL_wave 17 = .ok (.iconst 1, 1) := by decide +kernel
theorem dL_wave_18 : decode cL_wave 18 = .ok (.ireturn, 1) := by decide +kernel
theorem dL_wave_19 : decode cL_wave 19 = .ok (.iconst 0, 1) := by decide +kernel
theorem dL_wave_20 : decode cL_wave 20 = .ok (.ireturn, 1) := by decide +kernel
set_option maxHeartbeats 4000000 in
set_option maxRecDepth 100000 in
/-- put, and what it throws -/
theorem k_put (l : Launch) (hl9 : l.stackTraces = false) (D : va_G) (x : Nat → Nat) (cd : Nat → ClassId) (f0 f1 f2 f3 : Nat → Int32) (g : Nat → Int64) (q v9 : Int32) (sz : Nat) : Met l yL_put wsL_put ({ frames := 7, cells := 1, slots := 6, locals := 104 } : Room) (va_Pc [.ref (x 0), .int q, .int v9] (crw D (cw x cd f0 f1 f2 f3 g) (cty cd) sz)) (va_Qi (fun (r : Int32) (u : Nat → Int32) => (r = 0 ∧ (0 ≤ q.toInt ∧ q.toInt < 64) ∧ (-32768 ≤ v9.toInt ∧ v9.toInt ≤ 32767) ∧ u = upd f0 (cCn q.toInt.toNat) v9) ∨ (r = 1 ∧ ¬ (0 ≤ q.toInt ∧ q.toInt < 64) ∧ u = f0) ∨ (r = 2 ∧ (0 ≤ q.toInt ∧ q.toInt < 64) ∧ ¬ (-32768 ≤ v9.toInt ∧ v9.toInt ≤ 32767) ∧ u = f0)) (fun (u : Nat → Int32) (t : State) => crB D (cw x cd u f1 f2 f3 g) (cty cd) (va_A (cw x cd f0 f1 f2 f3 g) sz) t) (va_A (cw x cd f0 f1 f2 f3 g) sz)) 1 6 (va_A (cw x cd f0 f1 f2 f3 g) sz) := by
  refine va_MetW (cc := cL_put) (maxL := 4) (ret := some .int) (by decide) rfl ?_
  intro p e s m args below meth c s₁ B hml hv
  obtain ⟨rfl, hsz, hP, hK, hD0, hTb⟩ := hv
  have hx := B.exec
  have hb := B.bytes
  have hr := B.returns
  have hts : ∀ w ∈ wA, w.before _ s = true := fun w h => atoms_spec (ws := wsL_put) B.pre w (List.mem_cons_of_mem _ h)
  have hown : s.vm.findClass RL = some m.cls := findClass_of_methodNamed B.named
  have hlocks := B.notSynchronized
  have hTab := vx_table (x := yL_put) B (hts _ wm_119)
  subst hsz
  have hD := hD0.self (sz := s.heap.size)
  generalize hAe : va_A (cw x cd f0 f1 f2 f3 g) s.heap.size = A at hD hTb ⊢
  have hA : ∀ q : Nat, s.heap.size ≤ q → A q := fun q h => by rw [← hAe]; exact Or.inr h
  have hS : va_S A s.heap s.heap [] := va_S.rf
  obtain ⟨-, -, -, -, -, ⟨hXc_i, hXc_a, -⟩, -, hNca⟩ := id hTb
  have hl := lv_entry ([.ref (x 0), .int q, .int v9]) (n := 4) (Nat.le_of_ble_eq_true rfl)
  rw [lg_entry_eq]
  generalize (lg_sl ([.ref (x 0), .int q, .int v9]) ++ List.replicate (4 - (lg_sl ([.ref (x 0), .int q, .int v9])).length) Slot.unset).toArray = ls at hl ⊢
  have hl : lv_has ls 4 [(0, .ref (x 0)), (1, .int q), (2, .int v9)] := hl
  refine lv_aload_n hx hb dL_put_0 rfl (lv_at hl 0 rfl) ?_
  refine lv_iload_n hx hb dL_put_1 rfl (lv_at hl 1 rfl) ?_
  refine lv_iload_n hx hb dL_put_2 rfl (lv_at hl 2 rfl) ?_
  have hFc := va_free (wc := cw x cd f0 f1 f2 f3 g) hD hS hA [0, 1, 2, 3, 4, 5] rfl
  refine vx_callv (vx_runV (As := [.int q, .int v9]) (rest := []) ⟨hx, hb, hml, hown, hts⟩ (m_put l hl9 D x cd f0 f1 f2 f3 g q v9 _) (cwV 2 hts (gw_V wm_122 wm_123 wm_124 wm_12 wm_125) rfl rfl rfl (by decide +kernel) ⟨Nat.le_of_ble_eq_true rfl, Nat.le_of_ble_eq_true rfl⟩) ⟨crw_blind, va_recv hK hP (ci := 0) (q0 := 0) rfl rfl, fun U hU hW => ⟨rfl, crw_at (hP.sub (ws' := cw x cd f0 f1 f2 f3 g) [0, 1, 2, 3, 4, 5] rfl) (hK.sub (tys' := cty cd) [0, 1, 2, 3, 4] rfl) (hD.sub (ws' := cw x cd f0 f1 f2 f3 g) [0, 1, 2, 3, 4, 5] (by decide) rfl) hTb hS hFc hU hW⟩⟩ rfl rfl hl.1 rfl (lv_room (Nat.le_of_ble_eq_true rfl)) dL_put_3 ⟨Nat.le_of_ble_eq_true rfl, Nat.le_of_ble_eq_true rfl⟩) hS (fun q _ h => hFc q h) hFc (fun q _ h => h.elim) (fun E9 ce9 q9 u9 t H1 locs ht hvm hpx hB hz1 hk1 hS hce hcv hcl => ?_) (fun u9 t H1 locs ht hvm hw hB hz1 hk1 hS => ?_)
  · have hP : va_P D vwCl (cw x cd f0 f1 f2 f3 g) H1 := hP.kept (fun k q hq => hk1 q.1 (hP k q hq).lt (fun h => h))
    rcases hB with ⟨rfl, hc9⟩ | ⟨rfl, hc9⟩
    · refine vx_catch (own := RL) (name := "java/lang/IndexOutOfBoundsException") (E := "java/lang/IndexOutOfBoundsException") hown [] ⟨0, 6, 9, 13⟩ [⟨0, 6, 12, 15⟩] (by rw [hTab]; rfl) (fun z hz => nomatch hz) (by decide) (by decide) (hts _ wm_120) (va_Nw.use rfl hXc_i) hce hcv hcl ?_
      refine lv_astore_n (lv' := [(3, .ref q9), (0, .ref (x 0)), (1, .int q), (2, .int v9)]) hx hb dL_put_9 rfl hl (by decide) rfl (fun ls hl => ?_)
      refine lv_iconst (v := (1 : Int32)) hx hb dL_put_10 (by decide +kernel) ?_
      exact W.iret (v := (1 : Int32)) hx hb hr (fun t ht hW => ⟨⟨(1 : Int32), f0, rfl, Or.inr (Or.inl ⟨rfl, hc9, rfl⟩), by rw [ht]; exact hP, va_K.moved hW.alike hK, hD⟩, hS.F ht⟩) hS.2.2 dL_put_11
    · refine vx_catch (own := RL) (name := "java/lang/IllegalArgumentException") (E := "java/lang/IllegalArgumentException") hown [⟨0, 6, 9, 13⟩] ⟨0, 6, 12, 15⟩ [] (by rw [hTab]; rfl) (fun z hz => by
          rw [List.mem_singleton] at hz
          subst hz
          exact Or.inr ⟨by decide, "java/lang/IndexOutOfBoundsException", (hts _ wm_120), hNca⟩) (by decide) (by decide) (hts _ wm_121) (va_Nw.use rfl hXc_a) hce hcv hcl ?_
      refine lv_astore_n (lv' := [(3, .ref q9), (0, .ref (x 0)), (1, .int q), (2, .int v9)]) hx hb dL_put_12 rfl hl (by decide) rfl (fun ls hl => ?_)
      refine lv_iconst (v := (2 : Int32)) hx hb dL_put_13 (by decide +kernel) ?_
      exact W.iret (v := (2 : Int32)) hx hb hr (fun t ht hW => ⟨⟨(2 : Int32), f0, rfl, Or.inr (Or.inr ⟨rfl, hc9.1, hc9.2, rfl⟩), by rw [ht]; exact hP, va_K.moved hW.alike hK, hD⟩, hS.F ht⟩) hS.2.2 dL_put_14
  · obtain ⟨uu, rfl⟩ : ∃ z, z = u9 := ⟨_, rfl⟩
    obtain ⟨hP1, hK1, hD1⟩ := hB
    rw [ht] at hP1
    obtain ⟨hP, hD⟩ := va_join (wr := []) (w1 := cw x cd uu f1 f2 f3 g) hP hD [0, 1, 2, 3, 4, 5] [] rfl rfl (by decide) (by decide) hk1 hFc hP1 hD1
    have hP : va_P D vwCl (cw x cd uu f1 f2 f3 g) H1 := hP
    have hD : va_D A (cw x cd uu f1 f2 f3 g) := hD
    try dsimp only at hw
    refine lv_goto (tgt := 15) hx hb dL_put_6 (by decide) ?_
    refine lv_iconst (v := (0 : Int32)) hx hb dL_put_15 (by decide +kernel) ?_
    exact W.iret (v := (0 : Int32)) hx hb hr (fun t ht hW => ⟨⟨(0 : Int32), uu, rfl, Or.inl ⟨rfl, hw⟩, by rw [ht]; exact hP, va_K.moved hW.alike hK, hD⟩, hS.F ht⟩) hS.2.2 dL_put_16
set_option maxHeartbeats 4000000 in
set_option maxRecDepth 100000 in
/-- step, and what it throws -/
theorem k_step (l : Launch) (hl9 : l.stackTraces = false) (D : va_G) (x : Nat → Nat) (cd : Nat → ClassId) (f0 f1 f2 f3 : Nat → Int32) (g : Nat → Int64) (q v9 : Int32) (sz : Nat) : Met l yL_step wsL_step ({ frames := 7, cells := 1, slots := 6, locals := 104 } : Room) (va_Pc [.ref (x 0), .int q, .int v9] (crw D (cw x cd f0 f1 f2 f3 g) (cty cd) sz)) (va_Qi (fun (r : Int32) (u : Nat → Int32) => (r = 0 ∧ (0 ≤ q.toInt ∧ q.toInt < 64) ∧ (1 ≤ v9.toInt ∧ v9.toInt ≤ 255) ∧ u = upd f1 (cCn q.toInt.toNat) v9) ∨ (r = 1 ∧ ¬ (0 ≤ q.toInt ∧ q.toInt < 64) ∧ u = f1) ∨ (r = 2 ∧ (0 ≤ q.toInt ∧ q.toInt < 64) ∧ ¬ (1 ≤ v9.toInt ∧ v9.toInt ≤ 255) ∧ u = f1)) (fun (u : Nat → Int32) (t : State) => crB D (cw x cd f0 u f2 f3 g) (cty cd) (va_A (cw x cd f0 f1 f2 f3 g) sz) t) (va_A (cw x cd f0 f1 f2 f3 g) sz)) 1 6 (va_A (cw x cd f0 f1 f2 f3 g) sz) := by
  refine va_MetW (cc := cL_step) (maxL := 4) (ret := some .int) (by decide) rfl ?_
  intro p e s m args below meth c s₁ B hml hv
  obtain ⟨rfl, hsz, hP, hK, hD0, hTb⟩ := hv
  have hx := B.exec
  have hb := B.bytes
  have hr := B.returns
  have hts : ∀ w ∈ wA, w.before _ s = true := fun w h => atoms_spec (ws := wsL_step) B.pre w (List.mem_cons_of_mem _ h)
  have hown : s.vm.findClass RL = some m.cls := findClass_of_methodNamed B.named
  have hlocks := B.notSynchronized
  have hTab := vx_table (x := yL_step) B (hts _ wm_214)
  subst hsz
  have hD := hD0.self (sz := s.heap.size)
  generalize hAe : va_A (cw x cd f0 f1 f2 f3 g) s.heap.size = A at hD hTb ⊢
  have hA : ∀ q : Nat, s.heap.size ≤ q → A q := fun q h => by rw [← hAe]; exact Or.inr h
  have hS : va_S A s.heap s.heap [] := va_S.rf
  obtain ⟨-, -, -, -, -, ⟨hXc_i, hXc_a, -⟩, -, hNca⟩ := id hTb
  have hl := lv_entry ([.ref (x 0), .int q, .int v9]) (n := 4) (Nat.le_of_ble_eq_true rfl)
  rw [lg_entry_eq]
  generalize (lg_sl ([.ref (x 0), .int q, .int v9]) ++ List.replicate (4 - (lg_sl ([.ref (x 0), .int q, .int v9])).length) Slot.unset).toArray = ls at hl ⊢
  have hl : lv_has ls 4 [(0, .ref (x 0)), (1, .int q), (2, .int v9)] := hl
  refine lv_aload_n hx hb dL_step_0 rfl (lv_at hl 0 rfl) ?_
  refine lv_iload_n hx hb dL_step_1 rfl (lv_at hl 1 rfl) ?_
  refine lv_iload_n hx hb dL_step_2 rfl (lv_at hl 2 rfl) ?_
  have hFc := va_free (wc := cw x cd f0 f1 f2 f3 g) hD hS hA [0, 1, 2, 3, 4, 5] rfl
  refine vx_callv (vx_runV (As := [.int q, .int v9]) (rest := []) ⟨hx, hb, hml, hown, hts⟩ (m_step l hl9 D x cd f0 f1 f2 f3 g q v9 _) (cwV 2 hts (gw_V wm_215 wm_216 wm_217 wm_12 wm_218) rfl rfl rfl (by decide +kernel) ⟨Nat.le_of_ble_eq_true rfl, Nat.le_of_ble_eq_true rfl⟩) ⟨crw_blind, va_recv hK hP (ci := 0) (q0 := 0) rfl rfl, fun U hU hW => ⟨rfl, crw_at (hP.sub (ws' := cw x cd f0 f1 f2 f3 g) [0, 1, 2, 3, 4, 5] rfl) (hK.sub (tys' := cty cd) [0, 1, 2, 3, 4] rfl) (hD.sub (ws' := cw x cd f0 f1 f2 f3 g) [0, 1, 2, 3, 4, 5] (by decide) rfl) hTb hS hFc hU hW⟩⟩ rfl rfl hl.1 rfl (lv_room (Nat.le_of_ble_eq_true rfl)) dL_step_3 ⟨Nat.le_of_ble_eq_true rfl, Nat.le_of_ble_eq_true rfl⟩) hS (fun q _ h => hFc q h) hFc (fun q _ h => h.elim) (fun E9 ce9 q9 u9 t H1 locs ht hvm hpx hB hz1 hk1 hS hce hcv hcl => ?_) (fun u9 t H1 locs ht hvm hw hB hz1 hk1 hS => ?_)
  · have hP : va_P D vwCl (cw x cd f0 f1 f2 f3 g) H1 := hP.kept (fun k q hq => hk1 q.1 (hP k q hq).lt (fun h => h))
    rcases hB with ⟨rfl, hc9⟩ | ⟨rfl, hc9⟩
    · refine vx_catch (own := RL) (name := "java/lang/IndexOutOfBoundsException") (E := "java/lang/IndexOutOfBoundsException") hown [] ⟨0, 6, 9, 13⟩ [⟨0, 6, 12, 15⟩] (by rw [hTab]; rfl) (fun z hz => nomatch hz) (by decide) (by decide) (hts _ wm_120) (va_Nw.use rfl hXc_i) hce hcv hcl ?_
      refine lv_astore_n (lv' := [(3, .ref q9), (0, .ref (x 0)), (1, .int q), (2, .int v9)]) hx hb dL_step_9 rfl hl (by decide) rfl (fun ls hl => ?_)
      refine lv_iconst (v := (1 : Int32)) hx hb dL_step_10 (by decide +kernel) ?_
      exact W.iret (v := (1 : Int32)) hx hb hr (fun t ht hW => ⟨⟨(1 : Int32), f1, rfl, Or.inr (Or.inl ⟨rfl, hc9, rfl⟩), by rw [ht]; exact hP, va_K.moved hW.alike hK, hD⟩, hS.F ht⟩) hS.2.2 dL_step_11
    · refine vx_catch (own := RL) (name := "java/lang/IllegalArgumentException") (E := "java/lang/IllegalArgumentException") hown [⟨0, 6, 9, 13⟩] ⟨0, 6, 12, 15⟩ [] (by rw [hTab]; rfl) (fun z hz => by
          rw [List.mem_singleton] at hz
          subst hz
          exact Or.inr ⟨by decide, "java/lang/IndexOutOfBoundsException", (hts _ wm_120), hNca⟩) (by decide) (by decide) (hts _ wm_121) (va_Nw.use rfl hXc_a) hce hcv hcl ?_
      refine lv_astore_n (lv' := [(3, .ref q9), (0, .ref (x 0)), (1, .int q), (2, .int v9)]) hx hb dL_step_12 rfl hl (by decide) rfl (fun ls hl => ?_)
      refine lv_iconst (v := (2 : Int32)) hx hb dL_step_13 (by decide +kernel) ?_
      exact W.iret (v := (2 : Int32)) hx hb hr (fun t ht hW => ⟨⟨(2 : Int32), f1, rfl, Or.inr (Or.inr ⟨rfl, hc9.1, hc9.2, rfl⟩), by rw [ht]; exact hP, va_K.moved hW.alike hK, hD⟩, hS.F ht⟩) hS.2.2 dL_step_14
  · obtain ⟨uu, rfl⟩ : ∃ z, z = u9 := ⟨_, rfl⟩
    obtain ⟨hP1, hK1, hD1⟩ := hB
    rw [ht] at hP1
    obtain ⟨hP, hD⟩ := va_join (wr := []) (w1 := cw x cd f0 uu f2 f3 g) hP hD [0, 1, 2, 3, 4, 5] [] rfl rfl (by decide) (by decide) hk1 hFc hP1 hD1
    have hP : va_P D vwCl (cw x cd f0 uu f2 f3 g) H1 := hP
    have hD : va_D A (cw x cd f0 uu f2 f3 g) := hD
    try dsimp only at hw
    refine lv_goto (tgt := 15) hx hb dL_step_6 (by decide) ?_
    refine lv_iconst (v := (0 : Int32)) hx hb dL_step_15 (by decide +kernel) ?_
    exact W.iret (v := (0 : Int32)) hx hb hr (fun t ht hW => ⟨⟨(0 : Int32), uu, rfl, Or.inl ⟨rfl, hw⟩, by rw [ht]; exact hP, va_K.moved hW.alike hK, hD⟩, hS.F ht⟩) hS.2.2 dL_step_16
set_option maxHeartbeats 4000000 in
set_option maxRecDepth 100000 in
/-- steps, and what it throws -/
theorem k_steps (l : Launch) (hl9 : l.stackTraces = false) (D : va_G) (x : Nat → Nat) (cd : Nat → ClassId) (f0 f1 f2 f3 : Nat → Int32) (g : Nat → Int64) (b9 s9 p9 : Int32) (sz : Nat) : Met l yL_steps wsL_steps ({ frames := 7, cells := 1, slots := 6, locals := 108 } : Room) (va_Pc [.ref (x 0), .int b9, .int s9, .int p9] (crw D (cw x cd f0 f1 f2 f3 g) (cty cd) sz)) (va_Qi (fun (r : Int32) (u : Nat → Int32) => (r = 0 ∧ ((1 ≤ b9.toInt ∧ b9.toInt ≤ 255) ∧ (0 ≤ s9.toInt ∧ s9.toInt ≤ 32) ∧ (1 ≤ p9.toInt ∧ p9.toInt ≤ 5000)) ∧ ∀ a b, a < 8 → b < 8 → u (a * 8 + b) = stV b9 s9 p9 a b) ∨ (r = 1 ∧ ¬ ((1 ≤ b9.toInt ∧ b9.toInt ≤ 255) ∧ (0 ≤ s9.toInt ∧ s9.toInt ≤ 32) ∧ (1 ≤ p9.toInt ∧ p9.toInt ≤ 5000)) ∧ u = f1)) (fun (u : Nat → Int32) (t : State) => crB D (cw x cd f0 u f2 f3 g) (cty cd) (va_A (cw x cd f0 f1 f2 f3 g) sz) t) (va_A (cw x cd f0 f1 f2 f3 g) sz)) 1 6 (va_A (cw x cd f0 f1 f2 f3 g) sz) := by
  refine va_MetW (cc := cL_steps) (maxL := 5) (ret := some .int) (by decide) rfl ?_
  intro p e s m args below meth c s₁ B hml hv
  obtain ⟨rfl, hsz, hP, hK, hD0, hTb⟩ := hv
  have hx := B.exec
  have hb := B.bytes
  have hr := B.returns
  have hts : ∀ w ∈ wA, w.before _ s = true := fun w h => atoms_spec (ws := wsL_steps) B.pre w (List.mem_cons_of_mem _ h)
  have hown : s.vm.findClass RL = some m.cls := findClass_of_methodNamed B.named
  have hlocks := B.notSynchronized
  have hTab := vx_table (x := yL_steps) B (hts _ wm_222)
  subst hsz
  have hD := hD0.self (sz := s.heap.size)
  generalize hAe : va_A (cw x cd f0 f1 f2 f3 g) s.heap.size = A at hD hTb ⊢
  have hA : ∀ q : Nat, s.heap.size ≤ q → A q := fun q h => by rw [← hAe]; exact Or.inr h
  have hS : va_S A s.heap s.heap [] := va_S.rf
  obtain ⟨-, -, -, -, -, ⟨hXc_i, hXc_a, -⟩, -, hNca⟩ := id hTb
  have hl := lv_entry ([.ref (x 0), .int b9, .int s9, .int p9]) (n := 5) (Nat.le_of_ble_eq_true rfl)
  rw [lg_entry_eq]
  generalize (lg_sl ([.ref (x 0), .int b9, .int s9, .int p9]) ++ List.replicate (5 - (lg_sl ([.ref (x 0), .int b9, .int s9, .int p9])).length) Slot.unset).toArray = ls at hl ⊢
  have hl : lv_has ls 5 [(0, .ref (x 0)), (1, .int b9), (2, .int s9), (3, .int p9)] := hl
  refine lv_aload_n hx hb dL_steps_0 rfl (lv_at hl 0 rfl) ?_
  refine lv_iload_n hx hb dL_steps_1 rfl (lv_at hl 1 rfl) ?_
  refine lv_iload_n hx hb dL_steps_2 rfl (lv_at hl 2 rfl) ?_
  refine lv_iload_n hx hb dL_steps_3 rfl (lv_at hl 3 rfl) ?_
  have hFc := va_free (wc := cw x cd f0 f1 f2 f3 g) hD hS hA [0, 1, 2, 3, 4, 5] rfl
  refine vx_callv (vx_runV (As := [.int b9, .int s9, .int p9]) (rest := []) ⟨hx, hb, hml, hown, hts⟩ (m_steps l hl9 D x cd f0 f1 f2 f3 g b9 s9 p9 _) (cwV 3 hts (gw_V wm_223 wm_224 wm_225 wm_12 wm_226) rfl rfl rfl (by decide +kernel) ⟨Nat.le_of_ble_eq_true rfl, Nat.le_of_ble_eq_true rfl⟩) ⟨crw_blind, va_recv hK hP (ci := 0) (q0 := 0) rfl rfl, fun U hU hW => ⟨rfl, crw_at (hP.sub (ws' := cw x cd f0 f1 f2 f3 g) [0, 1, 2, 3, 4, 5] rfl) (hK.sub (tys' := cty cd) [0, 1, 2, 3, 4] rfl) (hD.sub (ws' := cw x cd f0 f1 f2 f3 g) [0, 1, 2, 3, 4, 5] (by decide) rfl) hTb hS hFc hU hW⟩⟩ rfl rfl hl.1 rfl (lv_room (Nat.le_of_ble_eq_true rfl)) dL_steps_4 ⟨Nat.le_of_ble_eq_true rfl, Nat.le_of_ble_eq_true rfl⟩) hS (fun q _ h => hFc q h) hFc (fun q _ h => h.elim) (fun E9 ce9 q9 u9 t H1 locs ht hvm hpx hB hz1 hk1 hS hce hcv hcl => ?_) (fun u9 t H1 locs ht hvm hw hB hz1 hk1 hS => ?_)
  · have hP : va_P D vwCl (cw x cd f0 f1 f2 f3 g) H1 := hP.kept (fun k q hq => hk1 q.1 (hP k q hq).lt (fun h => h))
    obtain ⟨rfl, hc9⟩ := hB
    refine vx_catch (own := RL) (name := "java/lang/IllegalArgumentException") (E := "java/lang/IllegalArgumentException") hown [] ⟨0, 7, 10, 15⟩ [] (by rw [hTab]; rfl) (fun z hz => nomatch hz) (by decide) (by decide) (hts _ wm_121) (va_Nw.use rfl hXc_a) hce hcv hcl ?_
    refine lv_astore (lv' := [(4, .ref q9), (0, .ref (x 0)), (1, .int b9), (2, .int s9), (3, .int p9)]) hx hb dL_steps_10 hl (by decide) rfl (fun ls hl => ?_)
    refine lv_iconst (v := (1 : Int32)) hx hb dL_steps_12 (by decide +kernel) ?_
    exact W.iret (v := (1 : Int32)) hx hb hr (fun t ht hW => ⟨⟨(1 : Int32), f1, rfl, Or.inr ⟨rfl, hc9, rfl⟩, by rw [ht]; exact hP, va_K.moved hW.alike hK, hD⟩, hS.F ht⟩) hS.2.2 dL_steps_13
  · obtain ⟨uu, rfl⟩ : ∃ z, z = u9 := ⟨_, rfl⟩
    obtain ⟨hP1, hK1, hD1⟩ := hB
    rw [ht] at hP1
    obtain ⟨hP, hD⟩ := va_join (wr := []) (w1 := cw x cd f0 uu f2 f3 g) hP hD [0, 1, 2, 3, 4, 5] [] rfl rfl (by decide) (by decide) hk1 hFc hP1 hD1
    have hP : va_P D vwCl (cw x cd f0 uu f2 f3 g) H1 := hP
    have hD : va_D A (cw x cd f0 uu f2 f3 g) := hD
    try dsimp only at hw
    refine lv_goto (tgt := 14) hx hb dL_steps_7 (by decide) ?_
    refine lv_iconst (v := (0 : Int32)) hx hb dL_steps_14 (by decide +kernel) ?_
    exact W.iret (v := (0 : Int32)) hx hb hr (fun t ht hW => ⟨⟨(0 : Int32), uu, rfl, Or.inl ⟨rfl, hw.1, hw.2⟩, by rw [ht]; exact hP, va_K.moved hW.alike hK, hD⟩, hS.F ht⟩) hS.2.2 dL_steps_15
set_option maxHeartbeats 4000000 in
set_option maxRecDepth 100000 in
/-- row, and what it throws -/
theorem k_row (l : Launch) (hl9 : l.stackTraces = false) (D : va_G) (x : Nat → Nat) (cd : Nat → ClassId) (f0 f1 f2 f3 : Nat → Int32) (g : Nat → Int64) (q : Int32) (e9 : Int64) (sz : Nat) : Met l yL_row wsL_row ({ frames := 7, cells := 1, slots := 6, locals := 106 } : Room) (va_Pc [.ref (x 0), .int q, .long e9] (crw D (cw x cd f0 f1 f2 f3 g) (cty cd) sz)) (va_Qi (fun (r : Int32) (u : Nat → Int32) => (r = 0 ∧ (0 ≤ q.toInt ∧ q.toInt < 8) ∧ ∀ a b, a < 8 → b < 8 → u (a * 8 + b) = if a = q.toInt.toNat then rowV e9 b else f2 (a * 8 + b)) ∨ (r = 1 ∧ ¬ (0 ≤ q.toInt ∧ q.toInt < 8) ∧ u = f2)) (fun (u : Nat → Int32) (t : State) => crB D (cw x cd f0 f1 u f3 g) (cty cd) (va_A (cw x cd f0 f1 f2 f3 g) sz) t) (va_A (cw x cd f0 f1 f2 f3 g) sz)) 1 6 (va_A (cw x cd f0 f1 f2 f3 g) sz) := by
  refine va_MetW (cc := cL_row) (maxL := 5) (ret := some .int) (by decide) rfl ?_
  intro p e s m args below meth c s₁ B hml hv
  obtain ⟨rfl, hsz, hP, hK, hD0, hTb⟩ := hv
  have hx := B.exec
  have hb := B.bytes
  have hr := B.returns
  have hts : ∀ w ∈ wA, w.before _ s = true := fun w h => atoms_spec (ws := wsL_row) B.pre w (List.mem_cons_of_mem _ h)
  have hown : s.vm.findClass RL = some m.cls := findClass_of_methodNamed B.named
  have hlocks := B.notSynchronized
  have hTab := vx_table (x := yL_row) B (hts _ wm_233)
  subst hsz
  have hD := hD0.self (sz := s.heap.size)
  generalize hAe : va_A (cw x cd f0 f1 f2 f3 g) s.heap.size = A at hD hTb ⊢
  have hA : ∀ q : Nat, s.heap.size ≤ q → A q := fun q h => by rw [← hAe]; exact Or.inr h
  have hS : va_S A s.heap s.heap [] := va_S.rf
  obtain ⟨-, -, -, -, -, ⟨hXc_i, hXc_a, -⟩, -, hNca⟩ := id hTb
  have hl := lv_entry ([.ref (x 0), .int q, .long e9]) (n := 5) (Nat.le_of_ble_eq_true rfl)
  rw [lg_entry_eq]
  generalize (lg_sl ([.ref (x 0), .int q, .long e9]) ++ List.replicate (5 - (lg_sl ([.ref (x 0), .int q, .long e9])).length) Slot.unset).toArray = ls at hl ⊢
  have hl : lv_has ls 5 [(0, .ref (x 0)), (1, .int q), (2, .long e9)] := hl
  refine lv_aload_n hx hb dL_row_0 rfl (lv_at hl 0 rfl) ?_
  refine lv_iload_n hx hb dL_row_1 rfl (lv_at hl 1 rfl) ?_
  refine lv_lload_n hx hb dL_row_2 rfl (lv_at hl 2 rfl) ?_
  have hFc := va_free (wc := cw x cd f0 f1 f2 f3 g) hD hS hA [0, 1, 2, 3, 4, 5] rfl
  refine vx_callv (vx_runV (As := [.int q, .long e9]) (rest := []) ⟨hx, hb, hml, hown, hts⟩ (m_row l hl9 D x cd f0 f1 f2 f3 g q e9 _) (cwV 2 hts (gw_V wm_234 wm_235 wm_236 wm_12 wm_237) rfl rfl rfl (by decide +kernel) ⟨Nat.le_of_ble_eq_true rfl, Nat.le_of_ble_eq_true rfl⟩) ⟨crw_blind, va_recv hK hP (ci := 0) (q0 := 0) rfl rfl, fun U hU hW => ⟨rfl, crw_at (hP.sub (ws' := cw x cd f0 f1 f2 f3 g) [0, 1, 2, 3, 4, 5] rfl) (hK.sub (tys' := cty cd) [0, 1, 2, 3, 4] rfl) (hD.sub (ws' := cw x cd f0 f1 f2 f3 g) [0, 1, 2, 3, 4, 5] (by decide) rfl) hTb hS hFc hU hW⟩⟩ rfl rfl hl.1 rfl (lv_room (Nat.le_of_ble_eq_true rfl)) dL_row_3 ⟨Nat.le_of_ble_eq_true rfl, Nat.le_of_ble_eq_true rfl⟩) hS (fun q _ h => hFc q h) hFc (fun q _ h => h.elim) (fun E9 ce9 q9 u9 t H1 locs ht hvm hpx hB hz1 hk1 hS hce hcv hcl => ?_) (fun u9 t H1 locs ht hvm hw hB hz1 hk1 hS => ?_)
  · have hP : va_P D vwCl (cw x cd f0 f1 f2 f3 g) H1 := hP.kept (fun k q hq => hk1 q.1 (hP k q hq).lt (fun h => h))
    obtain ⟨rfl, hc9⟩ := hB
    refine vx_catch (own := RL) (name := "java/lang/IndexOutOfBoundsException") (E := "java/lang/IndexOutOfBoundsException") hown [] ⟨0, 6, 9, 13⟩ [] (by rw [hTab]; rfl) (fun z hz => nomatch hz) (by decide) (by decide) (hts _ wm_120) (va_Nw.use rfl hXc_i) hce hcv hcl ?_
    refine lv_astore (lv' := [(4, .ref q9), (0, .ref (x 0)), (1, .int q), (2, .long e9)]) hx hb dL_row_9 hl (by decide) rfl (fun ls hl => ?_)
    refine lv_iconst (v := (1 : Int32)) hx hb dL_row_11 (by decide +kernel) ?_
    exact W.iret (v := (1 : Int32)) hx hb hr (fun t ht hW => ⟨⟨(1 : Int32), f2, rfl, Or.inr ⟨rfl, hc9, rfl⟩, by rw [ht]; exact hP, va_K.moved hW.alike hK, hD⟩, hS.F ht⟩) hS.2.2 dL_row_12
  · obtain ⟨uu, rfl⟩ : ∃ z, z = u9 := ⟨_, rfl⟩
    obtain ⟨hP1, hK1, hD1⟩ := hB
    rw [ht] at hP1
    obtain ⟨hP, hD⟩ := va_join (wr := []) (w1 := cw x cd f0 f1 uu f3 g) hP hD [0, 1, 2, 3, 4, 5] [] rfl rfl (by decide) (by decide) hk1 hFc hP1 hD1
    have hP : va_P D vwCl (cw x cd f0 f1 uu f3 g) H1 := hP
    have hD : va_D A (cw x cd f0 f1 uu f3 g) := hD
    try dsimp only at hw
    refine lv_goto (tgt := 13) hx hb dL_row_6 (by decide) ?_
    refine lv_iconst (v := (0 : Int32)) hx hb dL_row_13 (by decide +kernel) ?_
    exact W.iret (v := (0 : Int32)) hx hb hr (fun t ht hW => ⟨⟨(0 : Int32), uu, rfl, Or.inl ⟨rfl, hw.1, hw.2⟩, by rw [ht]; exact hP, va_K.moved hW.alike hK, hD⟩, hS.F ht⟩) hS.2.2 dL_row_14
set_option maxHeartbeats 4000000 in
set_option maxRecDepth 100000 in
/-- back, and what it throws -/
theorem k_back (l : Launch) (hl9 : l.stackTraces = false) (D : va_G) (x : Nat → Nat) (cd : Nat → ClassId) (f0 f1 f2 f3 : Nat → Int32) (g : Nat → Int64) (ow : Nat) (co : ClassId) (o : Nat → Int64) (q : Int32) (sz : Nat) : Met l yL_back wsL_back ({ frames := 7, cells := 1, slots := 6, locals := 106 } : Room) (va_Pc [.ref (x 0), .int q, .ref ow] (crw D (cwo x cd f0 f1 f2 f3 g ow co o) (cty cd ++ [(co, .long)]) sz)) (va_Qi (fun (r : Int32) (u9 : (Nat → Int32) × (Nat → Int64) × (Nat → Int64)) => match u9 with | (u, g8, o9) => (r = 0 ∧ szOk q ∧ o9 0 = bG (bP (8 / q.toInt.toNat) q.toInt.toNat f0 f1) q.toInt.toNat q.toInt.toNat ∧ ∀ a b, a < 8 → b < 8 → u (a * 8 + b) = if a < q.toInt.toNat ∧ b < q.toInt.toNat then bS (8 / q.toInt.toNat) q.toInt.toNat (bP (8 / q.toInt.toNat) q.toInt.toNat f0 f1) a b else f2 (a * 8 + b)) ∨ (r = 1 ∧ ¬ szOk q ∧ u = f2)) (fun (u9 : (Nat → Int32) × (Nat → Int64) × (Nat → Int64)) (t : State) => match u9 with | (u, g8, o9) => crB D (cwo x cd f0 f1 u f3 g8 ow co o9) (cty cd ++ [(co, .long)]) (va_A (cwo x cd f0 f1 f2 f3 g ow co o) sz) t) (va_A (cwo x cd f0 f1 f2 f3 g ow co o) sz)) 1 6 (va_A (cwo x cd f0 f1 f2 f3 g ow co o) sz) := by
  refine va_MetW (cc := cL_back) (maxL := 4) (ret := some .int) (by decide) rfl ?_
  intro p e s m args below meth c s₁ B hml hv
  obtain ⟨rfl, hsz, hP, hK, hD0, hTb⟩ := hv
  have hx := B.exec
  have hb := B.bytes
  have hr := B.returns
  have hts : ∀ w ∈ wA, w.before _ s = true := fun w h => atoms_spec (ws := wsL_back) B.pre w (List.mem_cons_of_mem _ h)
  have hown : s.vm.findClass RL = some m.cls := findClass_of_methodNamed B.named
  have hlocks := B.notSynchronized
  have hTab := vx_table (x := yL_back) B (hts _ wm_241)
  subst hsz
  have hD := hD0.self (sz := s.heap.size)
  generalize hAe : va_A (cwo x cd f0 f1 f2 f3 g ow co o) s.heap.size = A at hD hTb ⊢
  have hA : ∀ q : Nat, s.heap.size ≤ q → A q := fun q h => by rw [← hAe]; exact Or.inr h
  have hS : va_S A s.heap s.heap [] := va_S.rf
  obtain ⟨-, -, -, -, -, ⟨hXc_i, hXc_a, -⟩, -, hNca⟩ := id hTb
  have hl := lv_entry ([.ref (x 0), .int q, .ref ow]) (n := 4) (Nat.le_of_ble_eq_true rfl)
  rw [lg_entry_eq]
  generalize (lg_sl ([.ref (x 0), .int q, .ref ow]) ++ List.replicate (4 - (lg_sl ([.ref (x 0), .int q, .ref ow])).length) Slot.unset).toArray = ls at hl ⊢
  have hl : lv_has ls 4 [(0, .ref (x 0)), (1, .int q), (2, .ref ow)] := hl
  refine lv_aload_n hx hb dL_back_0 rfl (lv_at hl 2 rfl) ?_
  refine lv_iconst (v := (0 : Int32)) hx hb dL_back_1 (by decide +kernel) ?_
  refine lv_aload_n hx hb dL_back_2 rfl (lv_at hl 0 rfl) ?_
  refine lv_iload_n hx hb dL_back_3 rfl (lv_at hl 1 rfl) ?_
  have hFc := va_free (wc := cw x cd f0 f1 f2 f3 g) hD hS hA [0, 1, 2, 3, 4, 5] rfl
  refine vx_calll (vx_runV (As := [.int q]) (rest := [.int (0 : Int32), .ref ow]) ⟨hx, hb, hml, hown, hts⟩ (m_back l hl9 D x cd f0 f1 f2 f3 g q _) (cwV 1 hts (gw_V wm_242 wm_243 wm_244 wm_12 wm_245) rfl rfl rfl (by decide +kernel) ⟨Nat.le_of_ble_eq_true rfl, Nat.le_of_ble_eq_true rfl⟩) ⟨crw_blind, va_recv hK hP (ci := 0) (q0 := 0) rfl rfl, fun U hU hW => ⟨rfl, crw_at (hP.sub (ws' := cw x cd f0 f1 f2 f3 g) [0, 1, 2, 3, 4, 5] rfl) (hK.sub (tys' := cty cd) [0, 1, 2, 3, 4] rfl) (hD.sub (ws' := cw x cd f0 f1 f2 f3 g) [0, 1, 2, 3, 4, 5] (by decide) rfl) hTb hS hFc hU hW⟩⟩ rfl rfl hl.1 rfl (lv_room (Nat.le_of_ble_eq_true rfl)) dL_back_4 ⟨Nat.le_of_ble_eq_true rfl, Nat.le_of_ble_eq_true rfl⟩) hS (fun q _ h => hFc q h) hFc (fun q _ h => h.elim) (fun E9 ce9 q9 u9 t H1 locs ht hvm hpx hB hz1 hk1 hS hce hcv hcl => ?_) (fun r9 u9 t H1 locs ht hvm hw hB hz1 hk1 hS => ?_)
  · have hP : va_P D vwCl (cwo x cd f0 f1 f2 f3 g ow co o) H1 := hP.kept (fun k q hq => hk1 q.1 (hP k q hq).lt (fun h => h))
    obtain ⟨rfl, hc9⟩ := hB
    refine vx_catch (own := RL) (name := "java/lang/IllegalArgumentException") (E := "java/lang/IllegalArgumentException") hown [] ⟨0, 8, 11, 15⟩ [] (by rw [hTab]; rfl) (fun z hz => nomatch hz) (by decide) (by decide) (hts _ wm_121) (va_Nw.use rfl hXc_a) hce hcv hcl ?_
    refine lv_astore_n (lv' := [(3, .ref q9), (0, .ref (x 0)), (1, .int q), (2, .ref ow)]) hx hb dL_back_11 rfl hl (by decide) rfl (fun ls hl => ?_)
    refine lv_iconst (v := (1 : Int32)) hx hb dL_back_12 (by decide +kernel) ?_
    exact W.iret (v := (1 : Int32)) hx hb hr (fun t ht hW => ⟨⟨(1 : Int32), (f2, g, o), rfl, Or.inr ⟨rfl, hc9, rfl⟩, by rw [ht]; exact hP, va_K.moved hW.alike hK, hD⟩, hS.F ht⟩) hS.2.2 dL_back_13
  · obtain ⟨uu, gg⟩ := u9
    obtain ⟨hP1, hK1, hD1⟩ := hB
    rw [ht] at hP1
    obtain ⟨hP, hD⟩ := va_join (wr := [(ow, .inl (co, 1, .inr (.inl o)))]) (w1 := cw x cd f0 f1 uu f3 gg) hP hD [0, 1, 2, 3, 4, 5] [6] rfl rfl (by decide) (by decide) hk1 hFc hP1 hD1
    have hP : va_P D vwCl (cwo x cd f0 f1 uu f3 gg ow co o) H1 := hP.sub (ws' := cwo x cd f0 f1 uu f3 gg ow co o) [1, 2, 3, 4, 5, 6, 0] rfl
    have hD : va_D A (cwo x cd f0 f1 uu f3 gg ow co o) := hD.sub (ws' := cwo x cd f0 f1 uu f3 gg ow co o) [1, 2, 3, 4, 5, 6, 0] (by decide) rfl
    try dsimp only at hw
    refine cx_last hx hb hK hP hD hS 6 5 rfl rfl 0 (by omega) (by decide) dL_back_7 (fun H locs hP hD hS => ?_)
    have hP : va_P D vwCl (cwo x cd f0 f1 uu f3 gg ow co (vp_updL o 0 r9)) H := hP
    have hD : va_D A (cwo x cd f0 f1 uu f3 gg ow co (vp_updL o 0 r9)) := hD
    refine lv_goto (tgt := 14) hx hb dL_back_8 (by decide) ?_
    refine lv_iconst (v := (0 : Int32)) hx hb dL_back_14 (by decide +kernel) ?_
    exact W.iret (v := (0 : Int32)) hx hb hr (fun t ht hW => ⟨⟨(0 : Int32), (uu, gg, vp_updL o 0 r9), rfl, Or.inl ⟨rfl, hw.1, hw.2.1, hw.2.2⟩, by rw [ht]; exact hP, va_K.moved hW.alike hK, hD⟩, hS.F ht⟩) hS.2.2 dL_back_15
set_option maxHeartbeats 4000000 in
set_option maxRecDepth 100000 in
/-- error, and what it throws -/
theorem k_error (l : Launch) (hl9 : l.stackTraces = false) (D : va_G) (x : Nat → Nat) (cd : Nat → ClassId) (f0 f1 f2 f3 : Nat → Int32) (g : Nat → Int64) (ow : Nat) (co : ClassId) (o : Nat → Int64) (q : Int32) (sz : Nat) : Met l yL_error wsL_error ({ frames := 7, cells := 1, slots := 6, locals := 107 } : Room) (va_Pc [.ref (x 0), .int q, .ref ow] (crw D (cwo x cd f0 f1 f2 f3 g ow co o) (cty cd ++ [(co, .long)]) sz)) (va_Qi (fun (r : Int32) (o9 : Nat → Int64) => (r = 0 ∧ ((1 ≤ q.toInt ∧ q.toInt ≤ 8)) ∧ o9 0 = (erY f2 f3 q.toInt.toNat q.toInt.toNat).toInt64) ∨ (r = 1 ∧ ¬ ((1 ≤ q.toInt ∧ q.toInt ≤ 8)))) (fun (o9 : Nat → Int64) (t : State) => crB D (cwo x cd f0 f1 f2 f3 g ow co o9) (cty cd ++ [(co, .long)]) (va_A (cwo x cd f0 f1 f2 f3 g ow co o) sz) t) (va_A (cwo x cd f0 f1 f2 f3 g ow co o) sz)) 1 6 (va_A (cwo x cd f0 f1 f2 f3 g ow co o) sz) := by
  refine va_MetW (cc := cL_error) (maxL := 4) (ret := some .int) (by decide) rfl ?_
  intro p e s m args below meth c s₁ B hml hv
  obtain ⟨rfl, hsz, hP, hK, hD0, hTb⟩ := hv
  have hx := B.exec
  have hb := B.bytes
  have hr := B.returns
  have hts : ∀ w ∈ wA, w.before _ s = true := fun w h => atoms_spec (ws := wsL_error) B.pre w (List.mem_cons_of_mem _ h)
  have hown : s.vm.findClass RL = some m.cls := findClass_of_methodNamed B.named
  have hlocks := B.notSynchronized
  have hTab := vx_table (x := yL_error) B (hts _ wm_267)
  subst hsz
  have hD := hD0.self (sz := s.heap.size)
  generalize hAe : va_A (cwo x cd f0 f1 f2 f3 g ow co o) s.heap.size = A at hD hTb ⊢
  have hA : ∀ q : Nat, s.heap.size ≤ q → A q := fun q h => by rw [← hAe]; exact Or.inr h
  have hS : va_S A s.heap s.heap [] := va_S.rf
  obtain ⟨-, -, -, -, -, ⟨hXc_i, hXc_a, -⟩, -, hNca⟩ := id hTb
  have hl := lv_entry ([.ref (x 0), .int q, .ref ow]) (n := 4) (Nat.le_of_ble_eq_true rfl)
  rw [lg_entry_eq]
  generalize (lg_sl ([.ref (x 0), .int q, .ref ow]) ++ List.replicate (4 - (lg_sl ([.ref (x 0), .int q, .ref ow])).length) Slot.unset).toArray = ls at hl ⊢
  have hl : lv_has ls 4 [(0, .ref (x 0)), (1, .int q), (2, .ref ow)] := hl
  refine lv_aload_n hx hb dL_error_0 rfl (lv_at hl 2 rfl) ?_
  refine lv_iconst (v := (0 : Int32)) hx hb dL_error_1 (by decide +kernel) ?_
  refine lv_aload_n hx hb dL_error_2 rfl (lv_at hl 0 rfl) ?_
  refine lv_iload_n hx hb dL_error_3 rfl (lv_at hl 1 rfl) ?_
  refine vx_calli (vx_runV (As := [.int q]) (rest := [.int (0 : Int32), .ref ow]) ⟨hx, hb, hml, hown, hts⟩ (m_error l hl9 D x cd f0 f1 f2 f3 g q) (cwV 1 hts (gw_V wm_268 wm_269 wm_270 wm_12 wm_271) rfl rfl rfl (by decide +kernel) ⟨Nat.le_of_ble_eq_true rfl, Nat.le_of_ble_eq_true rfl⟩) ⟨cro_blind, va_recv hK hP (ci := 0) (q0 := 0) rfl rfl, fun U hU hW => ⟨rfl, cro_at (hP.sub (ws' := cw x cd f0 f1 f2 f3 g) [0, 1, 2, 3, 4, 5] rfl) (hK.sub (tys' := cty cd) [0, 1, 2, 3, 4] rfl) hTb hS hU hW⟩⟩ rfl rfl hl.1 rfl (lv_room (Nat.le_of_ble_eq_true rfl)) dL_error_4 ⟨Nat.le_of_ble_eq_true rfl, Nat.le_of_ble_eq_true rfl⟩) hS (fun q _ h => h.elim) (fun q h => h.elim) (fun q _ h => h.elim) (fun E9 ce9 q9 u9 t H1 locs ht hvm hpx hB hz1 hk1 hS hce hcv hcl => ?_) (fun r9 u9 t H1 locs ht hvm hw hB hz1 hk1 hS => ?_)
  · have hP : va_P D vwCl (cwo x cd f0 f1 f2 f3 g ow co o) H1 := hP.kept (fun k q hq => hk1 q.1 (hP k q hq).lt (fun h => h))
    obtain ⟨rfl, hc9⟩ := hB
    refine vx_catch (own := RL) (name := "java/lang/IllegalArgumentException") (E := "java/lang/IllegalArgumentException") hown [] ⟨0, 9, 12, 15⟩ [] (by rw [hTab]; rfl) (fun z hz => nomatch hz) (by decide) (by decide) (hts _ wm_121) (va_Nw.use rfl hXc_a) hce hcv hcl ?_
    refine lv_astore_n (lv' := [(3, .ref q9), (0, .ref (x 0)), (1, .int q), (2, .ref ow)]) hx hb dL_error_12 rfl hl (by decide) rfl (fun ls hl => ?_)
    refine lv_iconst (v := (1 : Int32)) hx hb dL_error_13 (by decide +kernel) ?_
    exact W.iret (v := (1 : Int32)) hx hb hr (fun t ht hW => ⟨⟨(1 : Int32), o, rfl, Or.inr ⟨rfl, hc9⟩, by rw [ht]; exact hP, va_K.moved hW.alike hK, hD⟩, hS.F ht⟩) hS.2.2 dL_error_14
  · have hP : va_P D vwCl (cwo x cd f0 f1 f2 f3 g ow co o) H1 := hP.kept (fun k q hq => hk1 q.1 (hP k q hq).lt (fun h => h))
    refine lv_i2l hx hb dL_error_7 rfl ?_
    refine cx_last hx hb hK hP hD hS 6 5 rfl rfl 0 (by omega) (by decide) dL_error_8 (fun H locs hP hD hS => ?_)
    have hP : va_P D vwCl (cwo x cd f0 f1 f2 f3 g ow co (vp_updL o 0 r9.toInt64)) H := hP
    have hD : va_D A (cwo x cd f0 f1 f2 f3 g ow co (vp_updL o 0 r9.toInt64)) := hD
    refine lv_goto (tgt := 15) hx hb dL_error_9 (by decide) ?_
    refine lv_iconst (v := (0 : Int32)) hx hb dL_error_15 (by decide +kernel) ?_
    exact W.iret (v := (0 : Int32)) hx hb hr (fun t ht hW => ⟨⟨(0 : Int32), vp_updL o 0 r9.toInt64, rfl, Or.inl ⟨rfl, hw.1, by rw [← hw.2]; rfl⟩, by rw [ht]; exact hP, va_K.moved hW.alike hK, hD⟩, hS.F ht⟩) hS.2.2 dL_error_16
set_option maxHeartbeats 4000000 in
set_option maxRecDepth 100000 in
/-- at, and what it throws -/
theorem k_at (l : Launch) (hl9 : l.stackTraces = false) (D : va_G) (x : Nat → Nat) (cd : Nat → ClassId) (f0 f1 f2 f3 : Nat → Int32) (g : Nat → Int64) (ow : Nat) (co : ClassId) (o : Nat → Int64) (q k9 : Int32) (sz : Nat) : Met l yL_at wsL_at ({ frames := 7, cells := 1, slots := 6, locals := 105 } : Room) (va_Pc [.ref (x 0), .int q, .int k9, .ref ow] (crw D (cwo x cd f0 f1 f2 f3 g ow co o) (cty cd ++ [(co, .long)]) sz)) (va_Qi (fun (r : Int32) (o9 : Nat → Int64) => (r = 0 ∧ ((0 ≤ q.toInt ∧ q.toInt < 64) ∧ (0 ≤ k9.toInt ∧ k9.toInt ≤ 3)) ∧ o9 0 = (atV f0 f1 q.toInt.toNat k9).toInt64) ∨ (r = 1 ∧ ¬ ((0 ≤ q.toInt ∧ q.toInt < 64) ∧ (0 ≤ k9.toInt ∧ k9.toInt ≤ 3)))) (fun (o9 : Nat → Int64) (t : State) => crB D (cwo x cd f0 f1 f2 f3 g ow co o9) (cty cd ++ [(co, .long)]) (va_A (cwo x cd f0 f1 f2 f3 g ow co o) sz) t) (va_A (cwo x cd f0 f1 f2 f3 g ow co o) sz)) 1 6 (va_A (cwo x cd f0 f1 f2 f3 g ow co o) sz) := by
  refine va_MetW (cc := cL_at) (maxL := 5) (ret := some .int) (by decide) rfl ?_
  intro p e s m args below meth c s₁ B hml hv
  obtain ⟨rfl, hsz, hP, hK, hD0, hTb⟩ := hv
  have hx := B.exec
  have hb := B.bytes
  have hr := B.returns
  have hts : ∀ w ∈ wA, w.before _ s = true := fun w h => atoms_spec (ws := wsL_at) B.pre w (List.mem_cons_of_mem _ h)
  have hown : s.vm.findClass RL = some m.cls := findClass_of_methodNamed B.named
  have hlocks := B.notSynchronized
  have hTab := vx_table (x := yL_at) B (hts _ wm_275)
  subst hsz
  have hD := hD0.self (sz := s.heap.size)
  generalize hAe : va_A (cwo x cd f0 f1 f2 f3 g ow co o) s.heap.size = A at hD hTb ⊢
  have hA : ∀ q : Nat, s.heap.size ≤ q → A q := fun q h => by rw [← hAe]; exact Or.inr h
  have hS : va_S A s.heap s.heap [] := va_S.rf
  obtain ⟨-, -, -, -, -, ⟨hXc_i, hXc_a, -⟩, -, hNca⟩ := id hTb
  have hl := lv_entry ([.ref (x 0), .int q, .int k9, .ref ow]) (n := 5) (Nat.le_of_ble_eq_true rfl)
  rw [lg_entry_eq]
  generalize (lg_sl ([.ref (x 0), .int q, .int k9, .ref ow]) ++ List.replicate (5 - (lg_sl ([.ref (x 0), .int q, .int k9, .ref ow])).length) Slot.unset).toArray = ls at hl ⊢
  have hl : lv_has ls 5 [(0, .ref (x 0)), (1, .int q), (2, .int k9), (3, .ref ow)] := hl
  refine lv_aload_n hx hb dL_at_0 rfl (lv_at hl 3 rfl) ?_
  refine lv_iconst (v := (0 : Int32)) hx hb dL_at_1 (by decide +kernel) ?_
  refine lv_aload_n hx hb dL_at_2 rfl (lv_at hl 0 rfl) ?_
  refine lv_iload_n hx hb dL_at_3 rfl (lv_at hl 1 rfl) ?_
  refine lv_iload_n hx hb dL_at_4 rfl (lv_at hl 2 rfl) ?_
  refine vx_calli (vx_runV (As := [.int q, .int k9]) (rest := [.int (0 : Int32), .ref ow]) ⟨hx, hb, hml, hown, hts⟩ (m_at l hl9 D x cd f0 f1 f2 f3 g q k9) (cwV 2 hts (gw_V wm_276 wm_277 wm_278 wm_12 wm_279) rfl rfl rfl (by decide +kernel) ⟨Nat.le_of_ble_eq_true rfl, Nat.le_of_ble_eq_true rfl⟩) ⟨cro_blind, va_recv hK hP (ci := 0) (q0 := 0) rfl rfl, fun U hU hW => ⟨rfl, cro_at (hP.sub (ws' := cw x cd f0 f1 f2 f3 g) [0, 1, 2, 3, 4, 5] rfl) (hK.sub (tys' := cty cd) [0, 1, 2, 3, 4] rfl) hTb hS hU hW⟩⟩ rfl rfl hl.1 rfl (lv_room (Nat.le_of_ble_eq_true rfl)) dL_at_5 ⟨Nat.le_of_ble_eq_true rfl, Nat.le_of_ble_eq_true rfl⟩) hS (fun q _ h => h.elim) (fun q h => h.elim) (fun q _ h => h.elim) (fun E9 ce9 q9 u9 t H1 locs ht hvm hpx hB hz1 hk1 hS hce hcv hcl => ?_) (fun r9 u9 t H1 locs ht hvm hw hB hz1 hk1 hS => ?_)
  · have hP : va_P D vwCl (cwo x cd f0 f1 f2 f3 g ow co o) H1 := hP.kept (fun k q hq => hk1 q.1 (hP k q hq).lt (fun h => h))
    obtain ⟨rfl, hc9⟩ := hB
    refine vx_catch (own := RL) (name := "java/lang/IndexOutOfBoundsException") (E := "java/lang/IndexOutOfBoundsException") hown [] ⟨0, 10, 13, 13⟩ [] (by rw [hTab]; rfl) (fun z hz => nomatch hz) (by decide) (by decide) (hts _ wm_120) (va_Nw.use rfl hXc_i) hce hcv hcl ?_
    refine lv_astore (lv' := [(4, .ref q9), (0, .ref (x 0)), (1, .int q), (2, .int k9), (3, .ref ow)]) hx hb dL_at_13 hl (by decide) rfl (fun ls hl => ?_)
    refine lv_iconst (v := (1 : Int32)) hx hb dL_at_15 (by decide +kernel) ?_
    exact W.iret (v := (1 : Int32)) hx hb hr (fun t ht hW => ⟨⟨(1 : Int32), o, rfl, Or.inr ⟨rfl, hc9⟩, by rw [ht]; exact hP, va_K.moved hW.alike hK, hD⟩, hS.F ht⟩) hS.2.2 dL_at_16
  · have hP : va_P D vwCl (cwo x cd f0 f1 f2 f3 g ow co o) H1 := hP.kept (fun k q hq => hk1 q.1 (hP k q hq).lt (fun h => h))
    refine lv_i2l hx hb dL_at_8 rfl ?_
    refine cx_last hx hb hK hP hD hS 6 5 rfl rfl 0 (by omega) (by decide) dL_at_9 (fun H locs hP hD hS => ?_)
    have hP : va_P D vwCl (cwo x cd f0 f1 f2 f3 g ow co (vp_updL o 0 r9.toInt64)) H := hP
    have hD : va_D A (cwo x cd f0 f1 f2 f3 g ow co (vp_updL o 0 r9.toInt64)) := hD
    refine lv_goto (tgt := 17) hx hb dL_at_10 (by decide) ?_
    refine lv_iconst (v := (0 : Int32)) hx hb dL_at_17 (by decide +kernel) ?_
    exact W.iret (v := (0 : Int32)) hx hb hr (fun t ht hW => ⟨⟨(0 : Int32), vp_updL o 0 r9.toInt64, rfl, Or.inl ⟨rfl, hw.1, by rw [← hw.2]; rfl⟩, by rw [ht]; exact hP, va_K.moved hW.alike hK, hD⟩, hS.F ht⟩) hS.2.2 dL_at_18
set_option maxHeartbeats 4000000 in
set_option maxRecDepth 100000 in
/-- exact, and what it throws -/
theorem k_exact (l : Launch) (hl9 : l.stackTraces = false) (D : va_G) (x : Nat → Nat) (cd : Nat → ClassId) (f0 f1 f2 f3 : Nat → Int32) (g : Nat → Int64) (ow : Nat) (co : ClassId) (o : Nat → Int64) (a9 b9 : Int32) (sz : Nat) : Met l yL_exact wsL_exact ({ frames := 7, cells := 1, slots := 6, locals := 104 } : Room) (va_Pc [.ref (x 0), .int a9, .int b9, .ref ow] (crw D (cwo x cd f0 f1 f2 f3 g ow co o) (cty cd ++ [(co, .long)]) sz)) (va_Qi (fun (r : Int32) (u9 : (Nat → Int64) × (Nat → Int64)) => match u9 with | (g8, o9) => (r = 0 ∧ ((0 ≤ a9.toInt ∧ a9.toInt < 8) ∧ (0 ≤ b9.toInt ∧ b9.toInt < 8)) ∧ o9 0 = (fE (fP f2) a9.toInt.toNat b9.toInt.toNat).toInt64) ∨ (r = 1 ∧ ¬ ((0 ≤ a9.toInt ∧ a9.toInt < 8) ∧ (0 ≤ b9.toInt ∧ b9.toInt < 8)))) (fun (u9 : (Nat → Int64) × (Nat → Int64)) (t : State) => match u9 with | (g8, o9) => crB D (cwo x cd f0 f1 f2 f3 g8 ow co o9) (cty cd ++ [(co, .long)]) (va_A (cwo x cd f0 f1 f2 f3 g ow co o) sz) t) (va_A (cwo x cd f0 f1 f2 f3 g ow co o) sz)) 1 6 (va_A (cwo x cd f0 f1 f2 f3 g ow co o) sz) := by
  refine va_MetW (cc := cL_exact) (maxL := 5) (ret := some .int) (by decide) rfl ?_
  intro p e s m args below meth c s₁ B hml hv
  obtain ⟨rfl, hsz, hP, hK, hD0, hTb⟩ := hv
  have hx := B.exec
  have hb := B.bytes
  have hr := B.returns
  have hts : ∀ w ∈ wA, w.before _ s = true := fun w h => atoms_spec (ws := wsL_exact) B.pre w (List.mem_cons_of_mem _ h)
  have hown : s.vm.findClass RL = some m.cls := findClass_of_methodNamed B.named
  have hlocks := B.notSynchronized
  have hTab := vx_table (x := yL_exact) B (hts _ wm_283)
  subst hsz
  have hD := hD0.self (sz := s.heap.size)
  generalize hAe : va_A (cwo x cd f0 f1 f2 f3 g ow co o) s.heap.size = A at hD hTb ⊢
  have hA : ∀ q : Nat, s.heap.size ≤ q → A q := fun q h => by rw [← hAe]; exact Or.inr h
  have hS : va_S A s.heap s.heap [] := va_S.rf
  obtain ⟨-, -, -, -, -, ⟨hXc_i, hXc_a, -⟩, -, hNca⟩ := id hTb
  have hl := lv_entry ([.ref (x 0), .int a9, .int b9, .ref ow]) (n := 5) (Nat.le_of_ble_eq_true rfl)
  rw [lg_entry_eq]
  generalize (lg_sl ([.ref (x 0), .int a9, .int b9, .ref ow]) ++ List.replicate (5 - (lg_sl ([.ref (x 0), .int a9, .int b9, .ref ow])).length) Slot.unset).toArray = ls at hl ⊢
  have hl : lv_has ls 5 [(0, .ref (x 0)), (1, .int a9), (2, .int b9), (3, .ref ow)] := hl
  refine lv_aload_n hx hb dL_exact_0 rfl (lv_at hl 3 rfl) ?_
  refine lv_iconst (v := (0 : Int32)) hx hb dL_exact_1 (by decide +kernel) ?_
  refine lv_aload_n hx hb dL_exact_2 rfl (lv_at hl 0 rfl) ?_
  refine lv_iload_n hx hb dL_exact_3 rfl (lv_at hl 1 rfl) ?_
  refine lv_iload_n hx hb dL_exact_4 rfl (lv_at hl 2 rfl) ?_
  have hFc := va_free (wc := cw x cd f0 f1 f2 f3 g) hD hS hA [0, 1, 2, 3, 4, 5] rfl
  refine vx_calli (vx_runV (As := [.int a9, .int b9]) (rest := [.int (0 : Int32), .ref ow]) ⟨hx, hb, hml, hown, hts⟩ (m_exact l hl9 D x cd f0 f1 f2 f3 g a9 b9 _) (cwV 2 hts (gw_V wm_284 wm_285 wm_286 wm_12 wm_287) rfl rfl rfl (by decide +kernel) ⟨Nat.le_of_ble_eq_true rfl, Nat.le_of_ble_eq_true rfl⟩) ⟨crw_blind, va_recv hK hP (ci := 0) (q0 := 0) rfl rfl, fun U hU hW => ⟨rfl, crw_at (hP.sub (ws' := cw x cd f0 f1 f2 f3 g) [0, 1, 2, 3, 4, 5] rfl) (hK.sub (tys' := cty cd) [0, 1, 2, 3, 4] rfl) (hD.sub (ws' := cw x cd f0 f1 f2 f3 g) [0, 1, 2, 3, 4, 5] (by decide) rfl) hTb hS hFc hU hW⟩⟩ rfl rfl hl.1 rfl (lv_room (Nat.le_of_ble_eq_true rfl)) dL_exact_5 ⟨Nat.le_of_ble_eq_true rfl, Nat.le_of_ble_eq_true rfl⟩) hS (fun q _ h => hFc q h) hFc (fun q _ h => h.elim) (fun E9 ce9 q9 u9 t H1 locs ht hvm hpx hB hz1 hk1 hS hce hcv hcl => ?_) (fun r9 u9 t H1 locs ht hvm hw hB hz1 hk1 hS => ?_)
  · have hP : va_P D vwCl (cwo x cd f0 f1 f2 f3 g ow co o) H1 := hP.kept (fun k q hq => hk1 q.1 (hP k q hq).lt (fun h => h))
    obtain ⟨rfl, hc9⟩ := hB
    refine vx_catch (own := RL) (name := "java/lang/IndexOutOfBoundsException") (E := "java/lang/IndexOutOfBoundsException") hown [] ⟨0, 10, 13, 13⟩ [] (by rw [hTab]; rfl) (fun z hz => nomatch hz) (by decide) (by decide) (hts _ wm_120) (va_Nw.use rfl hXc_i) hce hcv hcl ?_
    refine lv_astore (lv' := [(4, .ref q9), (0, .ref (x 0)), (1, .int a9), (2, .int b9), (3, .ref ow)]) hx hb dL_exact_13 hl (by decide) rfl (fun ls hl => ?_)
    refine lv_iconst (v := (1 : Int32)) hx hb dL_exact_15 (by decide +kernel) ?_
    exact W.iret (v := (1 : Int32)) hx hb hr (fun t ht hW => ⟨⟨(1 : Int32), (g, o), rfl, Or.inr ⟨rfl, hc9⟩, by rw [ht]; exact hP, va_K.moved hW.alike hK, hD⟩, hS.F ht⟩) hS.2.2 dL_exact_16
  · obtain ⟨gg, rfl⟩ : ∃ z, z = u9 := ⟨_, rfl⟩
    obtain ⟨hP1, hK1, hD1⟩ := hB
    rw [ht] at hP1
    obtain ⟨hP, hD⟩ := va_join (wr := [(ow, .inl (co, 1, .inr (.inl o)))]) (w1 := cw x cd f0 f1 f2 f3 gg) hP hD [0, 1, 2, 3, 4, 5] [6] rfl rfl (by decide) (by decide) hk1 hFc hP1 hD1
    have hP : va_P D vwCl (cwo x cd f0 f1 f2 f3 gg ow co o) H1 := hP.sub (ws' := cwo x cd f0 f1 f2 f3 gg ow co o) [1, 2, 3, 4, 5, 6, 0] rfl
    have hD : va_D A (cwo x cd f0 f1 f2 f3 gg ow co o) := hD.sub (ws' := cwo x cd f0 f1 f2 f3 gg ow co o) [1, 2, 3, 4, 5, 6, 0] (by decide) rfl
    try dsimp only at hw
    refine lv_i2l hx hb dL_exact_8 rfl ?_
    refine cx_last hx hb hK hP hD hS 6 5 rfl rfl 0 (by omega) (by decide) dL_exact_9 (fun H locs hP hD hS => ?_)
    have hP : va_P D vwCl (cwo x cd f0 f1 f2 f3 gg ow co (vp_updL o 0 r9.toInt64)) H := hP
    have hD : va_D A (cwo x cd f0 f1 f2 f3 gg ow co (vp_updL o 0 r9.toInt64)) := hD
    refine lv_goto (tgt := 17) hx hb dL_exact_10 (by decide) ?_
    refine lv_iconst (v := (0 : Int32)) hx hb dL_exact_17 (by decide +kernel) ?_
    exact W.iret (v := (0 : Int32)) hx hb hr (fun t ht hW => ⟨⟨(0 : Int32), (gg, vp_updL o 0 r9.toInt64), rfl, Or.inl ⟨rfl, hw.1, by rw [← hw.2]; rfl⟩, by rw [ht]; exact hP, va_K.moved hW.alike hK, hD⟩, hS.F ht⟩) hS.2.2 dL_exact_18
set_option maxHeartbeats 4000000 in
set_option maxRecDepth 100000 in
/-- wave, and what it throws -/
theorem k_wave (l : Launch) (hl9 : l.stackTraces = false) (D : va_G) (x : Nat → Nat) (cd : Nat → ClassId) (f0 f1 f2 f3 : Nat → Int32) (g : Nat → Int64) (ow : Nat) (co : ClassId) (o : Nat → Int64) (q u8 x8 : Int32) (sz : Nat) : Met l yL_wave wsL_wave ({ frames := 7, cells := 1, slots := 6, locals := 106 } : Room) (va_Pc [.ref (x 0), .int q, .int u8, .int x8, .ref ow] (crw D (cwo x cd f0 f1 f2 f3 g ow co o) (cty cd ++ [(co, .long)]) sz)) (va_Qi (fun (r : Int32) (o9 : Nat → Int64) => (r = 0 ∧ (szOk q ∧ (0 ≤ u8.toInt ∧ u8.toInt < q.toInt) ∧ (0 ≤ x8.toInt ∧ x8.toInt < q.toInt)) ∧ o9 0 = (wvN (8 / q.toInt.toNat) u8.toInt.toNat x8.toInt.toNat).toInt64) ∨ (r = 1 ∧ ¬ (szOk q ∧ (0 ≤ u8.toInt ∧ u8.toInt < q.toInt) ∧ (0 ≤ x8.toInt ∧ x8.toInt < q.toInt)))) (fun (o9 : Nat → Int64) (t : State) => crB D (cwo x cd f0 f1 f2 f3 g ow co o9) (cty cd ++ [(co, .long)]) (va_A (cwo x cd f0 f1 f2 f3 g ow co o) sz) t) (va_A (cwo x cd f0 f1 f2 f3 g ow co o) sz)) 1 6 (va_A (cwo x cd f0 f1 f2 f3 g ow co o) sz) := by
  refine va_MetW (cc := cL_wave) (maxL := 6) (ret := some .int) (by decide) rfl ?_
  intro p e s m args below meth c s₁ B hml hv
  obtain ⟨rfl, hsz, hP, hK, hD0, hTb⟩ := hv
  have hx := B.exec
  have hb := B.bytes
  have hr := B.returns
  have hts : ∀ w ∈ wA, w.before _ s = true := fun w h => atoms_spec (ws := wsL_wave) B.pre w (List.mem_cons_of_mem _ h)
  have hown : s.vm.findClass RL = some m.cls := findClass_of_methodNamed B.named
  have hlocks := B.notSynchronized
  have hTab := vx_table (x := yL_wave) B (hts _ wm_290)
  subst hsz
  have hD := hD0.self (sz := s.heap.size)
  generalize hAe : va_A (cwo x cd f0 f1 f2 f3 g ow co o) s.heap.size = A at hD hTb ⊢
  have hA : ∀ q : Nat, s.heap.size ≤ q → A q := fun q h => by rw [← hAe]; exact Or.inr h
  have hS : va_S A s.heap s.heap [] := va_S.rf
  obtain ⟨-, -, -, -, -, ⟨hXc_i, hXc_a, -⟩, -, hNca⟩ := id hTb
  have hl := lv_entry ([.ref (x 0), .int q, .int u8, .int x8, .ref ow]) (n := 6) (Nat.le_of_ble_eq_true rfl)
  rw [lg_entry_eq]
  generalize (lg_sl ([.ref (x 0), .int q, .int u8, .int x8, .ref ow]) ++ List.replicate (6 - (lg_sl ([.ref (x 0), .int q, .int u8, .int x8, .ref ow])).length) Slot.unset).toArray = ls at hl ⊢
  have hl : lv_has ls 6 [(0, .ref (x 0)), (1, .int q), (2, .int u8), (3, .int x8), (4, .ref ow)] := hl
  refine lv_aload hx hb dL_wave_0 (lv_at hl 4 rfl) ?_
  refine lv_iconst (v := (0 : Int32)) hx hb dL_wave_2 (by decide +kernel) ?_
  refine lv_aload_n hx hb dL_wave_3 rfl (lv_at hl 0 rfl) ?_
  refine lv_iload_n hx hb dL_wave_4 rfl (lv_at hl 1 rfl) ?_
  refine lv_iload_n hx hb dL_wave_5 rfl (lv_at hl 2 rfl) ?_
  refine lv_iload_n hx hb dL_wave_6 rfl (lv_at hl 3 rfl) ?_
  refine vx_calli (vx_runV (As := [.int q, .int u8, .int x8]) (rest := [.int (0 : Int32), .ref ow]) ⟨hx, hb, hml, hown, hts⟩ (m_wave l hl9 D x cd f0 f1 f2 f3 g q u8 x8) (cwV 3 hts (gw_V wm_291 wm_292 wm_293 wm_12 wm_294) rfl rfl rfl (by decide +kernel) ⟨Nat.le_of_ble_eq_true rfl, Nat.le_of_ble_eq_true rfl⟩) ⟨cro_blind, va_recv hK hP (ci := 0) (q0 := 0) rfl rfl, fun U hU hW => ⟨rfl, cro_at (hP.sub (ws' := cw x cd f0 f1 f2 f3 g) [0, 1, 2, 3, 4, 5] rfl) (hK.sub (tys' := cty cd) [0, 1, 2, 3, 4] rfl) hTb hS hU hW⟩⟩ rfl rfl hl.1 rfl (lv_room (Nat.le_of_ble_eq_true rfl)) dL_wave_7 ⟨Nat.le_of_ble_eq_true rfl, Nat.le_of_ble_eq_true rfl⟩) hS (fun q _ h => h.elim) (fun q h => h.elim) (fun q _ h => h.elim) (fun E9 ce9 q9 u9 t H1 locs ht hvm hpx hB hz1 hk1 hS hce hcv hcl => ?_) (fun r9 u9 t H1 locs ht hvm hw hB hz1 hk1 hS => ?_)
  · have hP : va_P D vwCl (cwo x cd f0 f1 f2 f3 g ow co o) H1 := hP.kept (fun k q hq => hk1 q.1 (hP k q hq).lt (fun h => h))
    obtain ⟨rfl, hc9⟩ := hB
    refine vx_catch (own := RL) (name := "java/lang/IllegalArgumentException") (E := "java/lang/IllegalArgumentException") hown [] ⟨0, 12, 15, 15⟩ [] (by rw [hTab]; rfl) (fun z hz => nomatch hz) (by decide) (by decide) (hts _ wm_121) (va_Nw.use rfl hXc_a) hce hcv hcl ?_
    refine lv_astore (lv' := [(5, .ref q9), (0, .ref (x 0)), (1, .int q), (2, .int u8), (3, .int x8), (4, .ref ow)]) hx hb dL_wave_15 hl (by decide) rfl (fun ls hl => ?_)
    refine lv_iconst (v := (1 : Int32)) hx hb dL_wave_17 (by decide +kernel) ?_
    exact W.iret (v := (1 : Int32)) hx hb hr (fun t ht hW => ⟨⟨(1 : Int32), o, rfl, Or.inr ⟨rfl, hc9⟩, by rw [ht]; exact hP, va_K.moved hW.alike hK, hD⟩, hS.F ht⟩) hS.2.2 dL_wave_18
  · have hP : va_P D vwCl (cwo x cd f0 f1 f2 f3 g ow co o) H1 := hP.kept (fun k q hq => hk1 q.1 (hP k q hq).lt (fun h => h))
    refine lv_i2l hx hb dL_wave_10 rfl ?_
    refine cx_last hx hb hK hP hD hS 6 5 rfl rfl 0 (by omega) (by decide) dL_wave_11 (fun H locs hP hD hS => ?_)
    have hP : va_P D vwCl (cwo x cd f0 f1 f2 f3 g ow co (vp_updL o 0 r9.toInt64)) H := hP
    have hD : va_D A (cwo x cd f0 f1 f2 f3 g ow co (vp_updL o 0 r9.toInt64)) := hD
    refine lv_goto (tgt := 19) hx hb dL_wave_12 (by decide) ?_
    refine lv_iconst (v := (0 : Int32)) hx hb dL_wave_19 (by decide +kernel) ?_
    exact W.iret (v := (0 : Int32)) hx hb hr (fun t ht hW => ⟨⟨(0 : Int32), vp_updL o 0 r9.toInt64, rfl, Or.inl ⟨rfl, hw.1, by rw [← hw.2]; rfl⟩, by rw [ht]; exact hP, va_K.moved hW.alike hK, hD⟩, hS.F ht⟩) hS.2.2 dL_wave_20
