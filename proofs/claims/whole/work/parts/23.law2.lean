set_option maxHeartbeats 4000000 in
set_option maxRecDepth 100000 in
/-- case 4 of the law -/
theorem law_4 {p : Program} {l : Launch} {e : Env} {s : State} {m : MethodId} {below : List Frame} {meth : Method} {c : Code} {D : va_G} {b L : Nat} {xs : Nat → Int32} (hl9 : l.stackTraces = false) (hL : L ≤ 2048) (C0 : lw_At p s m meth c b L xs) (hTb : cT (fun q : Nat => s.heap.size ≤ q) s s.heap) (x : Nat → Nat) (cd : Nat → ClassId) (y : Nat → Nat) (ce : Nat → ClassId) (ow : Nat) (co : ClassId) (hK : va_K D vwCl (lty cd ce co) s) (t9 : Nat) (hlt : 4 * t9 + 4 ≤ L) (f0 f1 f2 f3 : Nat → Int32) (g : Nat → Int64) (th : Int32) (r0 r1 r2 r3 dn ac : Nat → Int32) (sm o : Nat → Int64) (H : Heap) (locs : List Loc) (ls : Array Slot) (hrel : Rel f0 f1 f2 f3 r0 r1 r2 r3 dn ac) (hP : va_P D vwCl (lww x cd f0 f1 f2 f3 g y ce th r0 r1 r2 r3 dn ac sm ow co o) H) (hD : va_D (fun q : Nat => s.heap.size ≤ q) (lww x cd f0 f1 f2 f3 g y ce th r0 r1 r2 r3 dn ac sm ow co o)) (hS : va_S (fun q : Nat => s.heap.size ≤ q) s.heap H locs) (hl : lv_has ls 8 [(0, .ref b), (1, .ref (x 0)), (2, .ref (y 0)), (3, .ref ow), (4, .int (nI (4 * t9)))]) (ik : lwK p l e s m below meth c D b x cd y ce ow co t9) : W p l e room_1 s m #[Value.ref b] below meth c H locs (15 + t9) (782 + 6 * t9) (lw_Z below #[Value.ref b] s) (F0 m 348 ls []) := by
  obtain ⟨hx, hb, hr, hml, hown, hts9, hX, hbl, hlocks, hgv⟩ := C0
  have hts : ∀ w ∈ wA, w.before _ s = true := fun w h => hts9 w (List.mem_filter.mp h).1
  have hA : ∀ q : Nat, s.heap.size ≤ q → (fun q : Nat => s.heap.size ≤ q) q := fun _ h => h
  have hbA : ¬ (fun q : Nat => s.heap.size ≤ q) b := Nat.not_le.mpr hbl
  refine lv_aload_n hx hb dL_law_348 rfl (lv_at hl 1 rfl) ?_
  refine lv_aload_n hx hb dL_law_349 rfl (lv_at hl 0 rfl) ?_
  refine lv_iload hx hb dL_law_350 (lv_at hl 4 rfl) ?_
  refine lv_iconst (v := (1 : Int32)) hx hb dL_law_352 (by decide +kernel) ?_
  refine cx_iadd hx hb (4 * t9) 1 dL_law_353 ?_
  refine cx_sld hx hb hX hbl hbA hS (4 * t9 + 1) (by omega) (by omega) dL_law_354 ?_
  refine lv_aload_n hx hb dL_law_355 rfl (lv_at hl 3 rfl) ?_
  have hFc := va_free (wc := cwo x cd f0 f1 f2 f3 g ow co o) hD hS hA [0, 1, 2, 3, 4, 5, 14] rfl
  have hPc := hP.sub (ws' := cwo x cd f0 f1 f2 f3 g ow co o) [0, 1, 2, 3, 4, 5, 14] rfl
  have hDc := hD.sub (ws' := cwo x cd f0 f1 f2 f3 g ow co o) [0, 1, 2, 3, 4, 5, 14] (by decide) rfl
  have hKc := hK.sub (tys' := cty cd ++ [(co, .long)]) [0, 1, 2, 3, 4, 12] rfl
  refine va_calli (vx_runSW (As := [.ref (x 0), .int (xs (4 * t9 + 1)), .ref ow]) (rest := []) ⟨hx, hb, hml, hown, hts⟩ (k_back l hl9 D x cd f0 f1 f2 f3 g ow co o (xs (4 * t9 + 1)) _) (vx_cwSW 3 hts (gw_S wm_239 wm_240 wm_11 wm_241) rfl rfl rfl (by decide +kernel) ⟨Nat.le_of_ble_eq_true rfl, Nat.le_of_ble_eq_true rfl⟩) ⟨crw_blind, fun U hU hW => ⟨rfl, crw_at hPc hKc hDc hTb hS hFc hU hW⟩⟩ rfl rfl hl.1 rfl (lv_room (Nat.le_of_ble_eq_true rfl)) dL_law_356 ⟨by have : room_1.cells = 1050 := rfl; omega, by have : room_1.slots = 9040 := rfl; omega⟩) hS (fun q _ h => hFc q h) hFc (fun r_1 u9 t H1 locs ht hvm hw_2 hB hz1 hk1 hS => ?_)
  obtain ⟨u_3, g_4, o_5⟩ := u9
  obtain ⟨hP1, -, hD1⟩ := hB
  rw [ht] at hP1
  obtain ⟨hP, hD⟩ := va_join (wr := mw y ce th r0 r1 r2 r3 dn ac sm) (w1 := cwo x cd f0 f1 u_3 f3 g_4 ow co o_5) hP hD [0, 1, 2, 3, 4, 5, 14] [6, 7, 8, 9, 10, 11, 12, 13] rfl rfl (by decide) (by decide) hk1 hFc hP1 hD1
  have hP : va_P D vwCl (lww x cd f0 f1 u_3 f3 g_4 y ce th r0 r1 r2 r3 dn ac sm ow co o_5) H1 := hP.sub (ws' := lww x cd f0 f1 u_3 f3 g_4 y ce th r0 r1 r2 r3 dn ac sm ow co o_5) [8, 9, 10, 11, 12, 13, 0, 1, 2, 3, 4, 5, 6, 7, 14] rfl
  have hD : va_D (fun q : Nat => s.heap.size ≤ q) (lww x cd f0 f1 u_3 f3 g_4 y ce th r0 r1 r2 r3 dn ac sm ow co o_5) := hD.sub (ws' := lww x cd f0 f1 u_3 f3 g_4 y ce th r0 r1 r2 r3 dn ac sm ow co o_5) [8, 9, 10, 11, 12, 13, 0, 1, 2, 3, 4, 5, 6, 7, 14] (by decide) rfl
  try dsimp only at hw_2
  clear hFc hPc hDc hKc hP1 hD1 hk1 hz1 ht hvm
  generalize H1 = H at hP hS ⊢
  refine lv_istore (lv' := [(5, .int r_1), (0, .ref b), (1, .ref (x 0)), (2, .ref (y 0)), (3, .ref ow), (4, .int (nI (4 * t9)))]) hx hb dL_law_359 hl (by decide) rfl (fun ls hl => ?_)
  refine lv_aload_n hx hb dL_law_361 rfl (lv_at hl 3 rfl) ?_
  refine lv_aload_n hx hb dL_law_362 rfl (lv_at hl 1 rfl) ?_
  refine lv_iload hx hb dL_law_363 (lv_at hl 5 rfl) ?_
  refine lv_iconst (v := (1 : Int32)) hx hb dL_law_365 (by decide +kernel) ?_
  refine cx_iadd hx hb (4 * t9) 1 dL_law_366 ?_
  refine cx_sld hx hb hX hbl hbA hS (4 * t9 + 1) (by omega) (by omega) dL_law_367 ?_
  have hFc := va_free (wc := mw y ce th r0 r1 r2 r3 dn ac sm) hD hS hA [6, 7, 8, 9, 10, 11, 12, 13] rfl
  have hPc := hP.sub (ws' := mw y ce th r0 r1 r2 r3 dn ac sm) [6, 7, 8, 9, 10, 11, 12, 13] rfl
  have hDc := hD.sub (ws' := mw y ce th r0 r1 r2 r3 dn ac sm) [6, 7, 8, 9, 10, 11, 12, 13] (by decide) rfl
  have hKc := hK.sub (tys' := mty ce) [5, 6, 7, 8, 9, 10, 11] rfl
  refine va_calll (va_runV (As := [.int (xs (4 * t9 + 1))]) (rest := []) ⟨hx, hb, hml, hown, hts⟩ (n_back l D y ce th r0 r1 r2 r3 dn ac sm hrel.2.2.2.2.2.2.2 (xs (4 * t9 + 1)) _) (cwV 1 hts (gw_V wm_351 wm_352 wm_353 wm_13 wm_354) rfl rfl rfl (by decide +kernel) ⟨Nat.le_of_ble_eq_true rfl, Nat.le_of_ble_eq_true rfl⟩) ⟨crw_blind, va_recv hK hP (ci := 1) (q0 := 6) rfl rfl, fun U hU hW => ⟨rfl, crw_at hPc hKc hDc hTb hS hFc hU hW⟩⟩ rfl rfl hl.1 rfl (lv_room (Nat.le_of_ble_eq_true rfl)) dL_law_368 ⟨by have : room_1.cells = 1050 := rfl; omega, by have : room_1.slots = 9040 := rfl; omega⟩) hS (fun q _ h => hFc q h) hFc (fun r_6 u9 t H1 locs ht hvm hw_7 hB hz1 hk1 hS => ?_)
  obtain ⟨t_8, w_9, s_10⟩ := u9
  obtain ⟨hP1, -, hD1⟩ := hB
  rw [ht] at hP1
  obtain ⟨hP, hD⟩ := va_join (wr := cw x cd f0 f1 u_3 f3 g_4 ++ [(ow, .inl (co, 1, .inr (.inl o_5)))]) (w1 := mw y ce t_8 r0 r1 w_9 r3 dn ac s_10) hP hD [6, 7, 8, 9, 10, 11, 12, 13] [0, 1, 2, 3, 4, 5, 14] rfl rfl (by decide) (by decide) hk1 hFc hP1 hD1
  have hP : va_P D vwCl (lww x cd f0 f1 u_3 f3 g_4 y ce t_8 r0 r1 w_9 r3 dn ac s_10 ow co o_5) H1 := hP.sub (ws' := lww x cd f0 f1 u_3 f3 g_4 y ce t_8 r0 r1 w_9 r3 dn ac s_10 ow co o_5) [0, 1, 2, 3, 4, 5, 7, 8, 9, 10, 11, 12, 13, 14, 6] rfl
  have hD : va_D (fun q : Nat => s.heap.size ≤ q) (lww x cd f0 f1 u_3 f3 g_4 y ce t_8 r0 r1 w_9 r3 dn ac s_10 ow co o_5) := hD.sub (ws' := lww x cd f0 f1 u_3 f3 g_4 y ce t_8 r0 r1 w_9 r3 dn ac s_10 ow co o_5) [0, 1, 2, 3, 4, 5, 7, 8, 9, 10, 11, 12, 13, 14, 6] (by decide) rfl
  try dsimp only at hw_7
  clear hFc hPc hDc hKc hP1 hD1 hk1 hz1 ht hvm
  generalize H1 = H at hP hS ⊢
  obtain ⟨heq, hval, hrel2⟩ := step_back hrel hw_2 hw_7
  refine lv_lstore (lv' := [(6, .long r_6), (5, .int r_1), (0, .ref b), (1, .ref (x 0)), (2, .ref (y 0)), (3, .ref ow), (4, .int (nI (4 * t9)))]) hx hb dL_law_371 hl (by decide) rfl (fun ls hl => ?_)
  refine lv_aload_n hx hb dL_law_373 rfl (lv_at hl 4 rfl) ?_
  refine vp_callSi (W.runV (As := []) (rest := []) ⟨hx, hb, hml, hown, hts⟩ (n_thrown l D y ce t_8 r0 r1 w_9 r3 dn ac s_10) (cwV 0 hts (gw_V wm_327 wm_328 wm_329 wm_13 wm_330) rfl rfl rfl (by decide +kernel) ⟨Nat.le_of_ble_eq_true rfl, Nat.le_of_ble_eq_true rfl⟩) ⟨cro_blind, va_recv hK hP (ci := 1) (q0 := 6) rfl rfl, fun U hU hW => ⟨rfl, cro_at (hP.sub (ws' := mw y ce t_8 r0 r1 w_9 r3 dn ac s_10) [6, 7, 8, 9, 10, 11, 12, 13] rfl) (hK.sub (tys' := mty ce) [5, 6, 7, 8, 9, 10, 11] rfl) hTb hS hU hW⟩⟩ rfl rfl hl.1 rfl (lv_room (Nat.le_of_ble_eq_true rfl)) dL_law_374 ⟨by have : room_1.cells = 1050 := rfl; omega, by have : room_1.slots = 9040 := rfl; omega⟩) (fun r_11 hr_11 => ?_)
  rw [hr_11]
  refine lv_iload hx hb dL_law_377 (lv_at hl 1 rfl) ?_
  refine cx_icmp_eq (i := t_8.toInt) (j := r_1.toInt) (tgt := 384) hx hb rfl rfl dL_law_379 (by decide) (fun c_12 => ?_) (fun c_12 => absurd c_12 (fun h9 => h9 (by rw [heq])))
  refine lv_iload hx hb dL_law_384 (lv_at hl 1 rfl) ?_
  refine cx_if_ne (i := r_1.toInt) (j := 0) (tgt := 400) hx hb rfl rfl dL_law_386 (by decide) (fun c_13 => ?_) (fun c_13 => ?_)
  · refine lv_goto (tgt := 798) hx hb dL_law_400 (by decide) ?_
    refine W.widen (k := 15 + (t9 + 1)) (n := 782 + 6 * (t9 + 1)) (by omega) (by omega) ?_
    exact ik f0 f1 u_3 f3 g_4 t_8 r0 r1 w_9 r3 dn ac s_10 o_5 _ _ _ hrel2 hP hD hS (lv_sub hl [2, 3, 4, 5, 6] rfl)
  · refine lv_aload_n hx hb dL_law_389 rfl (lv_at hl 5 rfl) ?_
    refine lv_iconst (v := (0 : Int32)) hx hb dL_law_390 (by decide +kernel) ?_
    refine cx_lald hx hb hK hP 14 12 rfl rfl 0 (by omega) (by decide) dL_law_391 ?_
    refine lv_lload hx hb dL_law_392 (lv_at hl 0 rfl) ?_
    refine cx_lcmp_eq (i := (o_5 0).toInt) (j := r_6.toInt) (tgt := 400) hx hb rfl rfl dL_law_394 dL_law_395 (by decide) (fun c_14 => ?_) (fun c_14 => absurd c_14 (fun h9 => h9 (by rw [hval (cx_eq0 c_13)])))
    refine lv_goto (tgt := 798) hx hb dL_law_400 (by decide) ?_
    refine W.widen (k := 15 + (t9 + 1)) (n := 782 + 6 * (t9 + 1)) (by omega) (by omega) ?_
    exact ik f0 f1 u_3 f3 g_4 t_8 r0 r1 w_9 r3 dn ac s_10 o_5 _ _ _ hrel2 hP hD hS (lv_sub hl [2, 3, 4, 5, 6] rfl)
set_option maxHeartbeats 4000000 in
set_option maxRecDepth 100000 in
/-- case 5 of the law -/
theorem law_5 {p : Program} {l : Launch} {e : Env} {s : State} {m : MethodId} {below : List Frame} {meth : Method} {c : Code} {D : va_G} {b L : Nat} {xs : Nat → Int32} (hl9 : l.stackTraces = false) (hL : L ≤ 2048) (C0 : lw_At p s m meth c b L xs) (hTb : cT (fun q : Nat => s.heap.size ≤ q) s s.heap) (x : Nat → Nat) (cd : Nat → ClassId) (y : Nat → Nat) (ce : Nat → ClassId) (ow : Nat) (co : ClassId) (hK : va_K D vwCl (lty cd ce co) s) (t9 : Nat) (hlt : 4 * t9 + 4 ≤ L) (f0 f1 f2 f3 : Nat → Int32) (g : Nat → Int64) (th : Int32) (r0 r1 r2 r3 dn ac : Nat → Int32) (sm o : Nat → Int64) (H : Heap) (locs : List Loc) (ls : Array Slot) (hrel : Rel f0 f1 f2 f3 r0 r1 r2 r3 dn ac) (hP : va_P D vwCl (lww x cd f0 f1 f2 f3 g y ce th r0 r1 r2 r3 dn ac sm ow co o) H) (hD : va_D (fun q : Nat => s.heap.size ≤ q) (lww x cd f0 f1 f2 f3 g y ce th r0 r1 r2 r3 dn ac sm ow co o)) (hS : va_S (fun q : Nat => s.heap.size ≤ q) s.heap H locs) (hl : lv_has ls 8 [(0, .ref b), (1, .ref (x 0)), (2, .ref (y 0)), (3, .ref ow), (4, .int (nI (4 * t9)))]) (ik : lwK p l e s m below meth c D b x cd y ce ow co t9) : W p l e room_1 s m #[Value.ref b] below meth c H locs (15 + t9) (782 + 6 * t9) (lw_Z below #[Value.ref b] s) (F0 m 403 ls []) := by
  obtain ⟨hx, hb, hr, hml, hown, hts9, hX, hbl, hlocks, hgv⟩ := C0
  have hts : ∀ w ∈ wA, w.before _ s = true := fun w h => hts9 w (List.mem_filter.mp h).1
  have hA : ∀ q : Nat, s.heap.size ≤ q → (fun q : Nat => s.heap.size ≤ q) q := fun _ h => h
  have hbA : ¬ (fun q : Nat => s.heap.size ≤ q) b := Nat.not_le.mpr hbl
  refine lv_aload_n hx hb dL_law_403 rfl (lv_at hl 1 rfl) ?_
  have hFc := va_free (wc := cw x cd f0 f1 f2 f3 g) hD hS hA [0, 1, 2, 3, 4, 5] rfl
  have hPc := hP.sub (ws' := cw x cd f0 f1 f2 f3 g) [0, 1, 2, 3, 4, 5] rfl
  have hDc := hD.sub (ws' := cw x cd f0 f1 f2 f3 g) [0, 1, 2, 3, 4, 5] (by decide) rfl
  have hKc := hK.sub (tys' := cty cd) [0, 1, 2, 3, 4] rfl
  refine va_calli (va_runV (As := []) (rest := []) ⟨hx, hb, hml, hown, hts⟩ (m_forward l D x cd f0 f1 f2 f3 g hrel.2.2.2.2.2.1 _) (cwV 0 hts (gw_V wm_46 wm_47 wm_48 wm_12 wm_49) rfl rfl rfl (by decide +kernel) ⟨Nat.le_of_ble_eq_true rfl, Nat.le_of_ble_eq_true rfl⟩) ⟨crw_blind, va_recv hK hP (ci := 0) (q0 := 0) rfl rfl, fun U hU hW => ⟨rfl, crw_at hPc hKc hDc hTb hS hFc hU hW⟩⟩ rfl rfl hl.1 rfl (lv_room (Nat.le_of_ble_eq_true rfl)) dL_law_404 ⟨by have : room_1.cells = 1050 := rfl; omega, by have : room_1.slots = 9040 := rfl; omega⟩) hS (fun q _ h => hFc q h) hFc (fun r_1 u9 t H1 locs ht hvm hw_2 hB hz1 hk1 hS => ?_)
  obtain ⟨u_3, g_4⟩ := u9
  obtain ⟨hP1, -, hD1⟩ := hB
  rw [ht] at hP1
  obtain ⟨hP, hD⟩ := va_join (wr := mw y ce th r0 r1 r2 r3 dn ac sm ++ [(ow, .inl (co, 1, .inr (.inl o)))]) (w1 := cw x cd u_3 f1 f2 f3 g_4) hP hD [0, 1, 2, 3, 4, 5] [6, 7, 8, 9, 10, 11, 12, 13, 14] rfl rfl (by decide) (by decide) hk1 hFc hP1 hD1
  have hP : va_P D vwCl (lww x cd u_3 f1 f2 f3 g_4 y ce th r0 r1 r2 r3 dn ac sm ow co o) H1 := hP.sub (ws' := lww x cd u_3 f1 f2 f3 g_4 y ce th r0 r1 r2 r3 dn ac sm ow co o) [9, 10, 11, 12, 13, 14, 0, 1, 2, 3, 4, 5, 6, 7, 8] rfl
  have hD : va_D (fun q : Nat => s.heap.size ≤ q) (lww x cd u_3 f1 f2 f3 g_4 y ce th r0 r1 r2 r3 dn ac sm ow co o) := hD.sub (ws' := lww x cd u_3 f1 f2 f3 g_4 y ce th r0 r1 r2 r3 dn ac sm ow co o) [9, 10, 11, 12, 13, 14, 0, 1, 2, 3, 4, 5, 6, 7, 8] (by decide) rfl
  try dsimp only at hw_2
  clear hFc hPc hDc hKc hP1 hD1 hk1 hz1 ht hvm
  generalize H1 = H at hP hS ⊢
  refine lv_aload_n hx hb dL_law_407 rfl (lv_at hl 2 rfl) ?_
  have hFc := va_free (wc := mw y ce th r0 r1 r2 r3 dn ac sm) hD hS hA [6, 7, 8, 9, 10, 11, 12, 13] rfl
  have hPc := hP.sub (ws' := mw y ce th r0 r1 r2 r3 dn ac sm) [6, 7, 8, 9, 10, 11, 12, 13] rfl
  have hDc := hD.sub (ws' := mw y ce th r0 r1 r2 r3 dn ac sm) [6, 7, 8, 9, 10, 11, 12, 13] (by decide) rfl
  have hKc := hK.sub (tys' := mty ce) [5, 6, 7, 8, 9, 10, 11] rfl
  refine va_calli (va_runV (As := []) (rest := [.int r_1]) ⟨hx, hb, hml, hown, hts⟩ (n_forward l D y ce th r0 r1 r2 r3 dn ac sm hrel.2.2.2.2.2.2.2 (rel_r1 hrel) _) (cwV 0 hts (gw_V wm_376 wm_377 wm_378 wm_13 wm_379) rfl rfl rfl (by decide +kernel) ⟨Nat.le_of_ble_eq_true rfl, Nat.le_of_ble_eq_true rfl⟩) ⟨crw_blind, va_recv hK hP (ci := 1) (q0 := 6) rfl rfl, fun U hU hW => ⟨rfl, crw_at hPc hKc hDc hTb hS hFc hU hW⟩⟩ rfl rfl hl.1 rfl (lv_room (Nat.le_of_ble_eq_true rfl)) dL_law_408 ⟨by have : room_1.cells = 1050 := rfl; omega, by have : room_1.slots = 9040 := rfl; omega⟩) hS (fun q _ h => hFc q h) hFc (fun r_5 u9 t H1 locs ht hvm hw_6 hB hz1 hk1 hS => ?_)
  obtain ⟨t_7, w_8⟩ := u9
  obtain ⟨hP1, -, hD1⟩ := hB
  rw [ht] at hP1
  obtain ⟨hP, hD⟩ := va_join (wr := cw x cd u_3 f1 f2 f3 g_4 ++ [(ow, .inl (co, 1, .inr (.inl o)))]) (w1 := mw y ce t_7 w_8 r1 r2 r3 dn ac sm) hP hD [6, 7, 8, 9, 10, 11, 12, 13] [0, 1, 2, 3, 4, 5, 14] rfl rfl (by decide) (by decide) hk1 hFc hP1 hD1
  have hP : va_P D vwCl (lww x cd u_3 f1 f2 f3 g_4 y ce t_7 w_8 r1 r2 r3 dn ac sm ow co o) H1 := hP.sub (ws' := lww x cd u_3 f1 f2 f3 g_4 y ce t_7 w_8 r1 r2 r3 dn ac sm ow co o) [0, 1, 2, 3, 4, 5, 7, 8, 9, 10, 11, 12, 13, 14, 6] rfl
  have hD : va_D (fun q : Nat => s.heap.size ≤ q) (lww x cd u_3 f1 f2 f3 g_4 y ce t_7 w_8 r1 r2 r3 dn ac sm ow co o) := hD.sub (ws' := lww x cd u_3 f1 f2 f3 g_4 y ce t_7 w_8 r1 r2 r3 dn ac sm ow co o) [0, 1, 2, 3, 4, 5, 7, 8, 9, 10, 11, 12, 13, 14, 6] (by decide) rfl
  try dsimp only at hw_6
  clear hFc hPc hDc hKc hP1 hD1 hk1 hz1 ht hvm
  generalize H1 = H at hP hS ⊢
  obtain ⟨heq, hrel2⟩ := step_fwd hrel hw_2 hw_6
  refine cx_icmp_eq (i := r_1.toInt) (j := r_5.toInt) (tgt := 798) hx hb rfl rfl dL_law_411 (by decide) (fun c_9 => ?_) (fun c_9 => absurd c_9 (fun h9 => h9 (by rw [heq])))
  refine W.widen (k := 15 + (t9 + 1)) (n := 782 + 6 * (t9 + 1)) (by omega) (by omega) ?_
  exact ik u_3 f1 f2 f3 g_4 t_7 w_8 r1 r2 r3 dn ac sm o _ _ _ hrel2 hP hD hS (lv_sub hl [0, 1, 2, 3, 4] rfl)
set_option maxHeartbeats 4000000 in
set_option maxRecDepth 100000 in
/-- case 6 of the law -/
theorem law_6 {p : Program} {l : Launch} {e : Env} {s : State} {m : MethodId} {below : List Frame} {meth : Method} {c : Code} {D : va_G} {b L : Nat} {xs : Nat → Int32} (hl9 : l.stackTraces = false) (hL : L ≤ 2048) (C0 : lw_At p s m meth c b L xs) (hTb : cT (fun q : Nat => s.heap.size ≤ q) s s.heap) (x : Nat → Nat) (cd : Nat → ClassId) (y : Nat → Nat) (ce : Nat → ClassId) (ow : Nat) (co : ClassId) (hK : va_K D vwCl (lty cd ce co) s) (t9 : Nat) (hlt : 4 * t9 + 4 ≤ L) (f0 f1 f2 f3 : Nat → Int32) (g : Nat → Int64) (th : Int32) (r0 r1 r2 r3 dn ac : Nat → Int32) (sm o : Nat → Int64) (H : Heap) (locs : List Loc) (ls : Array Slot) (hrel : Rel f0 f1 f2 f3 r0 r1 r2 r3 dn ac) (hP : va_P D vwCl (lww x cd f0 f1 f2 f3 g y ce th r0 r1 r2 r3 dn ac sm ow co o) H) (hD : va_D (fun q : Nat => s.heap.size ≤ q) (lww x cd f0 f1 f2 f3 g y ce th r0 r1 r2 r3 dn ac sm ow co o)) (hS : va_S (fun q : Nat => s.heap.size ≤ q) s.heap H locs) (hl : lv_has ls 8 [(0, .ref b), (1, .ref (x 0)), (2, .ref (y 0)), (3, .ref ow), (4, .int (nI (4 * t9)))]) (ik : lwK p l e s m below meth c D b x cd y ce ow co t9) : W p l e room_1 s m #[Value.ref b] below meth c H locs (15 + t9) (782 + 6 * t9) (lw_Z below #[Value.ref b] s) (F0 m 416 ls []) := by
  obtain ⟨hx, hb, hr, hml, hown, hts9, hX, hbl, hlocks, hgv⟩ := C0
  have hts : ∀ w ∈ wA, w.before _ s = true := fun w h => hts9 w (List.mem_filter.mp h).1
  have hA : ∀ q : Nat, s.heap.size ≤ q → (fun q : Nat => s.heap.size ≤ q) q := fun _ h => h
  have hbA : ¬ (fun q : Nat => s.heap.size ≤ q) b := Nat.not_le.mpr hbl
  refine lv_aload_n hx hb dL_law_416 rfl (lv_at hl 1 rfl) ?_
  have hFc := va_free (wc := cw x cd f0 f1 f2 f3 g) hD hS hA [0, 1, 2, 3, 4, 5] rfl
  have hPc := hP.sub (ws' := cw x cd f0 f1 f2 f3 g) [0, 1, 2, 3, 4, 5] rfl
  have hDc := hD.sub (ws' := cw x cd f0 f1 f2 f3 g) [0, 1, 2, 3, 4, 5] (by decide) rfl
  have hKc := hK.sub (tys' := cty cd) [0, 1, 2, 3, 4] rfl
  refine va_callv (va_runV (As := []) (rest := []) ⟨hx, hb, hml, hown, hts⟩ (m_keep l D x cd f0 f1 f2 f3 g _) (cwV 0 hts (gw_V wm_79 wm_80 wm_81 wm_12 wm_82) rfl rfl rfl (by decide +kernel) ⟨Nat.le_of_ble_eq_true rfl, Nat.le_of_ble_eq_true rfl⟩) ⟨crw_blind, va_recv hK hP (ci := 0) (q0 := 0) rfl rfl, fun U hU hW => ⟨rfl, crw_at hPc hKc hDc hTb hS hFc hU hW⟩⟩ rfl rfl hl.1 rfl (lv_room (Nat.le_of_ble_eq_true rfl)) dL_law_417 ⟨by have : room_1.cells = 1050 := rfl; omega, by have : room_1.slots = 9040 := rfl; omega⟩) hS (fun q _ h => hFc q h) hFc (fun u9 t H1 locs ht hvm hw_2 hB hz1 hk1 hS => ?_)
  obtain ⟨u_3, rfl⟩ : ∃ z, z = u9 := ⟨_, rfl⟩
  obtain ⟨hP1, -, hD1⟩ := hB
  rw [ht] at hP1
  obtain ⟨hP, hD⟩ := va_join (wr := mw y ce th r0 r1 r2 r3 dn ac sm ++ [(ow, .inl (co, 1, .inr (.inl o)))]) (w1 := cw x cd f0 f1 f2 u_3 g) hP hD [0, 1, 2, 3, 4, 5] [6, 7, 8, 9, 10, 11, 12, 13, 14] rfl rfl (by decide) (by decide) hk1 hFc hP1 hD1
  have hP : va_P D vwCl (lww x cd f0 f1 f2 u_3 g y ce th r0 r1 r2 r3 dn ac sm ow co o) H1 := hP.sub (ws' := lww x cd f0 f1 f2 u_3 g y ce th r0 r1 r2 r3 dn ac sm ow co o) [9, 10, 11, 12, 13, 14, 0, 1, 2, 3, 4, 5, 6, 7, 8] rfl
  have hD : va_D (fun q : Nat => s.heap.size ≤ q) (lww x cd f0 f1 f2 u_3 g y ce th r0 r1 r2 r3 dn ac sm ow co o) := hD.sub (ws' := lww x cd f0 f1 f2 u_3 g y ce th r0 r1 r2 r3 dn ac sm ow co o) [9, 10, 11, 12, 13, 14, 0, 1, 2, 3, 4, 5, 6, 7, 8] (by decide) rfl
  try dsimp only at hw_2
  clear hFc hPc hDc hKc hP1 hD1 hk1 hz1 ht hvm
  generalize H1 = H at hP hS ⊢
  refine lv_aload_n hx hb dL_law_420 rfl (lv_at hl 2 rfl) ?_
  have hFc := va_free (wc := mw y ce th r0 r1 r2 r3 dn ac sm) hD hS hA [6, 7, 8, 9, 10, 11, 12, 13] rfl
  have hPc := hP.sub (ws' := mw y ce th r0 r1 r2 r3 dn ac sm) [6, 7, 8, 9, 10, 11, 12, 13] rfl
  have hDc := hD.sub (ws' := mw y ce th r0 r1 r2 r3 dn ac sm) [6, 7, 8, 9, 10, 11, 12, 13] (by decide) rfl
  have hKc := hK.sub (tys' := mty ce) [5, 6, 7, 8, 9, 10, 11] rfl
  refine va_callv (va_runV (As := []) (rest := []) ⟨hx, hb, hml, hown, hts⟩ (n_keep l D y ce th r0 r1 r2 r3 dn ac sm _) (cwV 0 hts (gw_V wm_385 wm_386 wm_387 wm_13 wm_388) rfl rfl rfl (by decide +kernel) ⟨Nat.le_of_ble_eq_true rfl, Nat.le_of_ble_eq_true rfl⟩) ⟨crw_blind, va_recv hK hP (ci := 1) (q0 := 6) rfl rfl, fun U hU hW => ⟨rfl, crw_at hPc hKc hDc hTb hS hFc hU hW⟩⟩ rfl rfl hl.1 rfl (lv_room (Nat.le_of_ble_eq_true rfl)) dL_law_421 ⟨by have : room_1.cells = 1050 := rfl; omega, by have : room_1.slots = 9040 := rfl; omega⟩) hS (fun q _ h => hFc q h) hFc (fun u9 t H1 locs ht hvm hw_5 hB hz1 hk1 hS => ?_)
  obtain ⟨t_6, w_7⟩ := u9
  obtain ⟨hP1, -, hD1⟩ := hB
  rw [ht] at hP1
  obtain ⟨hP, hD⟩ := va_join (wr := cw x cd f0 f1 f2 u_3 g ++ [(ow, .inl (co, 1, .inr (.inl o)))]) (w1 := mw y ce t_6 r0 r1 r2 w_7 dn ac sm) hP hD [6, 7, 8, 9, 10, 11, 12, 13] [0, 1, 2, 3, 4, 5, 14] rfl rfl (by decide) (by decide) hk1 hFc hP1 hD1
  have hP : va_P D vwCl (lww x cd f0 f1 f2 u_3 g y ce t_6 r0 r1 r2 w_7 dn ac sm ow co o) H1 := hP.sub (ws' := lww x cd f0 f1 f2 u_3 g y ce t_6 r0 r1 r2 w_7 dn ac sm ow co o) [0, 1, 2, 3, 4, 5, 7, 8, 9, 10, 11, 12, 13, 14, 6] rfl
  have hD : va_D (fun q : Nat => s.heap.size ≤ q) (lww x cd f0 f1 f2 u_3 g y ce t_6 r0 r1 r2 w_7 dn ac sm ow co o) := hD.sub (ws' := lww x cd f0 f1 f2 u_3 g y ce t_6 r0 r1 r2 w_7 dn ac sm ow co o) [0, 1, 2, 3, 4, 5, 7, 8, 9, 10, 11, 12, 13, 14, 6] (by decide) rfl
  try dsimp only at hw_5
  clear hFc hPc hDc hKc hP1 hD1 hk1 hz1 ht hvm
  generalize H1 = H at hP hS ⊢
  have hrel2 := step_keep hrel hw_2 hw_5
  refine lv_goto (tgt := 798) hx hb dL_law_424 (by decide) ?_
  refine W.widen (k := 15 + (t9 + 1)) (n := 782 + 6 * (t9 + 1)) (by omega) (by omega) ?_
  exact ik f0 f1 f2 u_3 g t_6 r0 r1 r2 w_7 dn ac sm o _ _ _ hrel2 hP hD hS (lv_sub hl [0, 1, 2, 3, 4] rfl)
set_option maxHeartbeats 4000000 in
set_option maxRecDepth 100000 in
/-- case 7 of the law -/
theorem law_7 {p : Program} {l : Launch} {e : Env} {s : State} {m : MethodId} {below : List Frame} {meth : Method} {c : Code} {D : va_G} {b L : Nat} {xs : Nat → Int32} (hl9 : l.stackTraces = false) (hL : L ≤ 2048) (C0 : lw_At p s m meth c b L xs) (hTb : cT (fun q : Nat => s.heap.size ≤ q) s s.heap) (x : Nat → Nat) (cd : Nat → ClassId) (y : Nat → Nat) (ce : Nat → ClassId) (ow : Nat) (co : ClassId) (hK : va_K D vwCl (lty cd ce co) s) (t9 : Nat) (hlt : 4 * t9 + 4 ≤ L) (f0 f1 f2 f3 : Nat → Int32) (g : Nat → Int64) (th : Int32) (r0 r1 r2 r3 dn ac : Nat → Int32) (sm o : Nat → Int64) (H : Heap) (locs : List Loc) (ls : Array Slot) (hrel : Rel f0 f1 f2 f3 r0 r1 r2 r3 dn ac) (hP : va_P D vwCl (lww x cd f0 f1 f2 f3 g y ce th r0 r1 r2 r3 dn ac sm ow co o) H) (hD : va_D (fun q : Nat => s.heap.size ≤ q) (lww x cd f0 f1 f2 f3 g y ce th r0 r1 r2 r3 dn ac sm ow co o)) (hS : va_S (fun q : Nat => s.heap.size ≤ q) s.heap H locs) (hl : lv_has ls 8 [(0, .ref b), (1, .ref (x 0)), (2, .ref (y 0)), (3, .ref ow), (4, .int (nI (4 * t9)))]) (ik : lwK p l e s m below meth c D b x cd y ce ow co t9) : W p l e room_1 s m #[Value.ref b] below meth c H locs (15 + t9) (782 + 6 * t9) (lw_Z below #[Value.ref b] s) (F0 m 427 ls []) := by
  obtain ⟨hx, hb, hr, hml, hown, hts9, hX, hbl, hlocks, hgv⟩ := C0
  have hts : ∀ w ∈ wA, w.before _ s = true := fun w h => hts9 w (List.mem_filter.mp h).1
  have hA : ∀ q : Nat, s.heap.size ≤ q → (fun q : Nat => s.heap.size ≤ q) q := fun _ h => h
  have hbA : ¬ (fun q : Nat => s.heap.size ≤ q) b := Nat.not_le.mpr hbl
  refine lv_aload_n hx hb dL_law_427 rfl (lv_at hl 1 rfl) ?_
  refine lv_aload_n hx hb dL_law_428 rfl (lv_at hl 0 rfl) ?_
  refine lv_iload hx hb dL_law_429 (lv_at hl 4 rfl) ?_
  refine lv_iconst (v := (1 : Int32)) hx hb dL_law_431 (by decide +kernel) ?_
  refine cx_iadd hx hb (4 * t9) 1 dL_law_432 ?_
  refine cx_sld hx hb hX hbl hbA hS (4 * t9 + 1) (by omega) (by omega) dL_law_433 ?_
  refine lv_aload_n hx hb dL_law_434 rfl (lv_at hl 3 rfl) ?_
  have hFc := va_free (wc := cwo x cd f0 f1 f2 f3 g ow co o) hD hS hA [0, 1, 2, 3, 4, 5, 14] rfl
  have hPc := hP.sub (ws' := cwo x cd f0 f1 f2 f3 g ow co o) [0, 1, 2, 3, 4, 5, 14] rfl
  have hDc := hD.sub (ws' := cwo x cd f0 f1 f2 f3 g ow co o) [0, 1, 2, 3, 4, 5, 14] (by decide) rfl
  have hKc := hK.sub (tys' := cty cd ++ [(co, .long)]) [0, 1, 2, 3, 4, 12] rfl
  refine va_calli (vx_runSW (As := [.ref (x 0), .int (xs (4 * t9 + 1)), .ref ow]) (rest := []) ⟨hx, hb, hml, hown, hts⟩ (k_error l hl9 D x cd f0 f1 f2 f3 g ow co o (xs (4 * t9 + 1)) _) (vx_cwSW 3 hts (gw_S wm_265 wm_266 wm_11 wm_267) rfl rfl rfl (by decide +kernel) ⟨Nat.le_of_ble_eq_true rfl, Nat.le_of_ble_eq_true rfl⟩) ⟨crw_blind, fun U hU hW => ⟨rfl, crw_at hPc hKc hDc hTb hS hFc hU hW⟩⟩ rfl rfl hl.1 rfl (lv_room (Nat.le_of_ble_eq_true rfl)) dL_law_435 ⟨by have : room_1.cells = 1050 := rfl; omega, by have : room_1.slots = 9040 := rfl; omega⟩) hS (fun q _ h => hFc q h) hFc (fun r_1 u9 t H1 locs ht hvm hw_2 hB hz1 hk1 hS => ?_)
  obtain ⟨o_3, rfl⟩ : ∃ z, z = u9 := ⟨_, rfl⟩
  obtain ⟨hP1, -, hD1⟩ := hB
  rw [ht] at hP1
  obtain ⟨hP, hD⟩ := va_join (wr := mw y ce th r0 r1 r2 r3 dn ac sm) (w1 := cwo x cd f0 f1 f2 f3 g ow co o_3) hP hD [0, 1, 2, 3, 4, 5, 14] [6, 7, 8, 9, 10, 11, 12, 13] rfl rfl (by decide) (by decide) hk1 hFc hP1 hD1
  have hP : va_P D vwCl (lww x cd f0 f1 f2 f3 g y ce th r0 r1 r2 r3 dn ac sm ow co o_3) H1 := hP.sub (ws' := lww x cd f0 f1 f2 f3 g y ce th r0 r1 r2 r3 dn ac sm ow co o_3) [8, 9, 10, 11, 12, 13, 0, 1, 2, 3, 4, 5, 6, 7, 14] rfl
  have hD : va_D (fun q : Nat => s.heap.size ≤ q) (lww x cd f0 f1 f2 f3 g y ce th r0 r1 r2 r3 dn ac sm ow co o_3) := hD.sub (ws' := lww x cd f0 f1 f2 f3 g y ce th r0 r1 r2 r3 dn ac sm ow co o_3) [8, 9, 10, 11, 12, 13, 0, 1, 2, 3, 4, 5, 6, 7, 14] (by decide) rfl
  try dsimp only at hw_2
  clear hFc hPc hDc hKc hP1 hD1 hk1 hz1 ht hvm
  generalize H1 = H at hP hS ⊢
  refine lv_istore (lv' := [(5, .int r_1), (0, .ref b), (1, .ref (x 0)), (2, .ref (y 0)), (3, .ref ow), (4, .int (nI (4 * t9)))]) hx hb dL_law_438 hl (by decide) rfl (fun ls hl => ?_)
  refine lv_aload_n hx hb dL_law_440 rfl (lv_at hl 3 rfl) ?_
  refine lv_aload_n hx hb dL_law_441 rfl (lv_at hl 1 rfl) ?_
  refine lv_iload hx hb dL_law_442 (lv_at hl 5 rfl) ?_
  refine lv_iconst (v := (1 : Int32)) hx hb dL_law_444 (by decide +kernel) ?_
  refine cx_iadd hx hb (4 * t9) 1 dL_law_445 ?_
  refine cx_sld hx hb hX hbl hbA hS (4 * t9 + 1) (by omega) (by omega) dL_law_446 ?_
  have hFc := va_free (wc := mw y ce th r0 r1 r2 r3 dn ac sm) hD hS hA [6, 7, 8, 9, 10, 11, 12, 13] rfl
  have hPc := hP.sub (ws' := mw y ce th r0 r1 r2 r3 dn ac sm) [6, 7, 8, 9, 10, 11, 12, 13] rfl
  have hDc := hD.sub (ws' := mw y ce th r0 r1 r2 r3 dn ac sm) [6, 7, 8, 9, 10, 11, 12, 13] (by decide) rfl
  have hKc := hK.sub (tys' := mty ce) [5, 6, 7, 8, 9, 10, 11] rfl
  refine va_calli (va_runV (As := [.int (xs (4 * t9 + 1))]) (rest := []) ⟨hx, hb, hml, hown, hts⟩ (n_error l D y ce th r0 r1 r2 r3 dn ac sm (xs (4 * t9 + 1)) _) (cwV 1 hts (gw_V wm_389 wm_390 wm_391 wm_13 wm_392) rfl rfl rfl (by decide +kernel) ⟨Nat.le_of_ble_eq_true rfl, Nat.le_of_ble_eq_true rfl⟩) ⟨crw_blind, va_recv hK hP (ci := 1) (q0 := 6) rfl rfl, fun U hU hW => ⟨rfl, crw_at hPc hKc hDc hTb hS hFc hU hW⟩⟩ rfl rfl hl.1 rfl (lv_room (Nat.le_of_ble_eq_true rfl)) dL_law_447 ⟨by have : room_1.cells = 1050 := rfl; omega, by have : room_1.slots = 9040 := rfl; omega⟩) hS (fun q _ h => hFc q h) hFc (fun r_4 u9 t H1 locs ht hvm hw_5 hB hz1 hk1 hS => ?_)
  obtain ⟨t_6, rfl⟩ : ∃ z, z = u9 := ⟨_, rfl⟩
  obtain ⟨hP1, -, hD1⟩ := hB
  rw [ht] at hP1
  obtain ⟨hP, hD⟩ := va_join (wr := cw x cd f0 f1 f2 f3 g ++ [(ow, .inl (co, 1, .inr (.inl o_3)))]) (w1 := mw y ce t_6 r0 r1 r2 r3 dn ac sm) hP hD [6, 7, 8, 9, 10, 11, 12, 13] [0, 1, 2, 3, 4, 5, 14] rfl rfl (by decide) (by decide) hk1 hFc hP1 hD1
  have hP : va_P D vwCl (lww x cd f0 f1 f2 f3 g y ce t_6 r0 r1 r2 r3 dn ac sm ow co o_3) H1 := hP.sub (ws' := lww x cd f0 f1 f2 f3 g y ce t_6 r0 r1 r2 r3 dn ac sm ow co o_3) [0, 1, 2, 3, 4, 5, 7, 8, 9, 10, 11, 12, 13, 14, 6] rfl
  have hD : va_D (fun q : Nat => s.heap.size ≤ q) (lww x cd f0 f1 f2 f3 g y ce t_6 r0 r1 r2 r3 dn ac sm ow co o_3) := hD.sub (ws' := lww x cd f0 f1 f2 f3 g y ce t_6 r0 r1 r2 r3 dn ac sm ow co o_3) [0, 1, 2, 3, 4, 5, 7, 8, 9, 10, 11, 12, 13, 14, 6] (by decide) rfl
  try dsimp only at hw_5
  clear hFc hPc hDc hKc hP1 hD1 hk1 hz1 ht hvm
  generalize H1 = H at hP hS ⊢
  obtain ⟨heq, hval⟩ := step_ans (fun h9 => (er_eq hrel.2.2.1 hrel.2.2.2.1 (by omega)).symm) hw_2 hw_5
  refine lv_istore (lv' := [(6, .int r_4), (5, .int r_1), (0, .ref b), (1, .ref (x 0)), (2, .ref (y 0)), (3, .ref ow), (4, .int (nI (4 * t9)))]) hx hb dL_law_450 hl (by decide) rfl (fun ls hl => ?_)
  refine lv_aload_n hx hb dL_law_452 rfl (lv_at hl 4 rfl) ?_
  refine vp_callSi (W.runV (As := []) (rest := []) ⟨hx, hb, hml, hown, hts⟩ (n_thrown l D y ce t_6 r0 r1 r2 r3 dn ac sm) (cwV 0 hts (gw_V wm_327 wm_328 wm_329 wm_13 wm_330) rfl rfl rfl (by decide +kernel) ⟨Nat.le_of_ble_eq_true rfl, Nat.le_of_ble_eq_true rfl⟩) ⟨cro_blind, va_recv hK hP (ci := 1) (q0 := 6) rfl rfl, fun U hU hW => ⟨rfl, cro_at (hP.sub (ws' := mw y ce t_6 r0 r1 r2 r3 dn ac sm) [6, 7, 8, 9, 10, 11, 12, 13] rfl) (hK.sub (tys' := mty ce) [5, 6, 7, 8, 9, 10, 11] rfl) hTb hS hU hW⟩⟩ rfl rfl hl.1 rfl (lv_room (Nat.le_of_ble_eq_true rfl)) dL_law_453 ⟨by have : room_1.cells = 1050 := rfl; omega, by have : room_1.slots = 9040 := rfl; omega⟩) (fun r_7 hr_7 => ?_)
  rw [hr_7]
  refine lv_iload hx hb dL_law_456 (lv_at hl 1 rfl) ?_
  refine cx_icmp_eq (i := t_6.toInt) (j := r_1.toInt) (tgt := 463) hx hb rfl rfl dL_law_458 (by decide) (fun c_8 => ?_) (fun c_8 => absurd c_8 (fun h9 => h9 (by rw [heq])))
  refine lv_iload hx hb dL_law_463 (lv_at hl 1 rfl) ?_
  refine cx_if_ne (i := r_1.toInt) (j := 0) (tgt := 480) hx hb rfl rfl dL_law_465 (by decide) (fun c_9 => ?_) (fun c_9 => ?_)
  · refine lv_goto (tgt := 798) hx hb dL_law_480 (by decide) ?_
    refine W.widen (k := 15 + (t9 + 1)) (n := 782 + 6 * (t9 + 1)) (by omega) (by omega) ?_
    exact ik f0 f1 f2 f3 g t_6 r0 r1 r2 r3 dn ac sm o_3 _ _ _ hrel hP hD hS (lv_sub hl [2, 3, 4, 5, 6] rfl)
  · refine lv_aload_n hx hb dL_law_468 rfl (lv_at hl 5 rfl) ?_
    refine lv_iconst (v := (0 : Int32)) hx hb dL_law_469 (by decide +kernel) ?_
    refine cx_lald hx hb hK hP 14 12 rfl rfl 0 (by omega) (by decide) dL_law_470 ?_
    refine lv_iload hx hb dL_law_471 (lv_at hl 0 rfl) ?_
    refine lv_i2l hx hb dL_law_473 rfl ?_
    refine cx_lcmp_eq (i := (o_3 0).toInt) (j := (r_4.toInt64).toInt) (tgt := 480) hx hb rfl rfl dL_law_474 dL_law_475 (by decide) (fun c_10 => ?_) (fun c_10 => absurd c_10 (fun h9 => h9 (by rw [hval (cx_eq0 c_9)])))
    refine lv_goto (tgt := 798) hx hb dL_law_480 (by decide) ?_
    refine W.widen (k := 15 + (t9 + 1)) (n := 782 + 6 * (t9 + 1)) (by omega) (by omega) ?_
    exact ik f0 f1 f2 f3 g t_6 r0 r1 r2 r3 dn ac sm o_3 _ _ _ hrel hP hD hS (lv_sub hl [2, 3, 4, 5, 6] rfl)
set_option maxHeartbeats 4000000 in
set_option maxRecDepth 100000 in
/-- case 8 of the law -/
theorem law_8 {p : Program} {l : Launch} {e : Env} {s : State} {m : MethodId} {below : List Frame} {meth : Method} {c : Code} {D : va_G} {b L : Nat} {xs : Nat → Int32} (hl9 : l.stackTraces = false) (hL : L ≤ 2048) (C0 : lw_At p s m meth c b L xs) (hTb : cT (fun q : Nat => s.heap.size ≤ q) s s.heap) (x : Nat → Nat) (cd : Nat → ClassId) (y : Nat → Nat) (ce : Nat → ClassId) (ow : Nat) (co : ClassId) (hK : va_K D vwCl (lty cd ce co) s) (t9 : Nat) (hlt : 4 * t9 + 4 ≤ L) (f0 f1 f2 f3 : Nat → Int32) (g : Nat → Int64) (th : Int32) (r0 r1 r2 r3 dn ac : Nat → Int32) (sm o : Nat → Int64) (H : Heap) (locs : List Loc) (ls : Array Slot) (hrel : Rel f0 f1 f2 f3 r0 r1 r2 r3 dn ac) (hP : va_P D vwCl (lww x cd f0 f1 f2 f3 g y ce th r0 r1 r2 r3 dn ac sm ow co o) H) (hD : va_D (fun q : Nat => s.heap.size ≤ q) (lww x cd f0 f1 f2 f3 g y ce th r0 r1 r2 r3 dn ac sm ow co o)) (hS : va_S (fun q : Nat => s.heap.size ≤ q) s.heap H locs) (hl : lv_has ls 8 [(0, .ref b), (1, .ref (x 0)), (2, .ref (y 0)), (3, .ref ow), (4, .int (nI (4 * t9)))]) (ik : lwK p l e s m below meth c D b x cd y ce ow co t9) : W p l e room_1 s m #[Value.ref b] below meth c H locs (15 + t9) (782 + 6 * t9) (lw_Z below #[Value.ref b] s) (F0 m 483 ls []) := by
  obtain ⟨hx, hb, hr, hml, hown, hts9, hX, hbl, hlocks, hgv⟩ := C0
  have hts : ∀ w ∈ wA, w.before _ s = true := fun w h => hts9 w (List.mem_filter.mp h).1
  have hA : ∀ q : Nat, s.heap.size ≤ q → (fun q : Nat => s.heap.size ≤ q) q := fun _ h => h
  have hbA : ¬ (fun q : Nat => s.heap.size ≤ q) b := Nat.not_le.mpr hbl
  refine lv_aload_n hx hb dL_law_483 rfl (lv_at hl 1 rfl) ?_
  have hFc := va_free (wc := cw x cd f0 f1 f2 f3 g) hD hS hA [0, 1, 2, 3, 4, 5] rfl
  have hPc := hP.sub (ws' := cw x cd f0 f1 f2 f3 g) [0, 1, 2, 3, 4, 5] rfl
  have hDc := hD.sub (ws' := cw x cd f0 f1 f2 f3 g) [0, 1, 2, 3, 4, 5] (by decide) rfl
  have hKc := hK.sub (tys' := cty cd) [0, 1, 2, 3, 4] rfl
  refine va_callv (va_runV (As := []) (rest := []) ⟨hx, hb, hml, hown, hts⟩ (m_clear l D x cd f0 f1 f2 f3 g _) (cwV 0 hts (gw_V wm_83 wm_84 wm_85 wm_12 wm_86) rfl rfl rfl (by decide +kernel) ⟨Nat.le_of_ble_eq_true rfl, Nat.le_of_ble_eq_true rfl⟩) ⟨crw_blind, va_recv hK hP (ci := 0) (q0 := 0) rfl rfl, fun U hU hW => ⟨rfl, crw_at hPc hKc hDc hTb hS hFc hU hW⟩⟩ rfl rfl hl.1 rfl (lv_room (Nat.le_of_ble_eq_true rfl)) dL_law_484 ⟨by have : room_1.cells = 1050 := rfl; omega, by have : room_1.slots = 9040 := rfl; omega⟩) hS (fun q _ h => hFc q h) hFc (fun u9 t H1 locs ht hvm hw_2 hB hz1 hk1 hS => ?_)
  obtain ⟨u_3, rfl⟩ : ∃ z, z = u9 := ⟨_, rfl⟩
  obtain ⟨hP1, -, hD1⟩ := hB
  rw [ht] at hP1
  obtain ⟨hP, hD⟩ := va_join (wr := mw y ce th r0 r1 r2 r3 dn ac sm ++ [(ow, .inl (co, 1, .inr (.inl o)))]) (w1 := cw x cd u_3 f1 f2 f3 g) hP hD [0, 1, 2, 3, 4, 5] [6, 7, 8, 9, 10, 11, 12, 13, 14] rfl rfl (by decide) (by decide) hk1 hFc hP1 hD1
  have hP : va_P D vwCl (lww x cd u_3 f1 f2 f3 g y ce th r0 r1 r2 r3 dn ac sm ow co o) H1 := hP.sub (ws' := lww x cd u_3 f1 f2 f3 g y ce th r0 r1 r2 r3 dn ac sm ow co o) [9, 10, 11, 12, 13, 14, 0, 1, 2, 3, 4, 5, 6, 7, 8] rfl
  have hD : va_D (fun q : Nat => s.heap.size ≤ q) (lww x cd u_3 f1 f2 f3 g y ce th r0 r1 r2 r3 dn ac sm ow co o) := hD.sub (ws' := lww x cd u_3 f1 f2 f3 g y ce th r0 r1 r2 r3 dn ac sm ow co o) [9, 10, 11, 12, 13, 14, 0, 1, 2, 3, 4, 5, 6, 7, 8] (by decide) rfl
  try dsimp only at hw_2
  clear hFc hPc hDc hKc hP1 hD1 hk1 hz1 ht hvm
  generalize H1 = H at hP hS ⊢
  refine lv_aload_n hx hb dL_law_487 rfl (lv_at hl 2 rfl) ?_
  have hFc := va_free (wc := mw y ce th r0 r1 r2 r3 dn ac sm) hD hS hA [6, 7, 8, 9, 10, 11, 12, 13] rfl
  have hPc := hP.sub (ws' := mw y ce th r0 r1 r2 r3 dn ac sm) [6, 7, 8, 9, 10, 11, 12, 13] rfl
  have hDc := hD.sub (ws' := mw y ce th r0 r1 r2 r3 dn ac sm) [6, 7, 8, 9, 10, 11, 12, 13] (by decide) rfl
  have hKc := hK.sub (tys' := mty ce) [5, 6, 7, 8, 9, 10, 11] rfl
  refine va_callv (va_runV (As := []) (rest := []) ⟨hx, hb, hml, hown, hts⟩ (n_clear l D y ce th r0 r1 r2 r3 dn ac sm _) (cwV 0 hts (gw_V wm_393 wm_394 wm_395 wm_13 wm_396) rfl rfl rfl (by decide +kernel) ⟨Nat.le_of_ble_eq_true rfl, Nat.le_of_ble_eq_true rfl⟩) ⟨crw_blind, va_recv hK hP (ci := 1) (q0 := 6) rfl rfl, fun U hU hW => ⟨rfl, crw_at hPc hKc hDc hTb hS hFc hU hW⟩⟩ rfl rfl hl.1 rfl (lv_room (Nat.le_of_ble_eq_true rfl)) dL_law_488 ⟨by have : room_1.cells = 1050 := rfl; omega, by have : room_1.slots = 9040 := rfl; omega⟩) hS (fun q _ h => hFc q h) hFc (fun u9 t H1 locs ht hvm hw_5 hB hz1 hk1 hS => ?_)
  obtain ⟨t_6, w_7⟩ := u9
  obtain ⟨hP1, -, hD1⟩ := hB
  rw [ht] at hP1
  obtain ⟨hP, hD⟩ := va_join (wr := cw x cd u_3 f1 f2 f3 g ++ [(ow, .inl (co, 1, .inr (.inl o)))]) (w1 := mw y ce t_6 w_7 r1 r2 r3 dn ac sm) hP hD [6, 7, 8, 9, 10, 11, 12, 13] [0, 1, 2, 3, 4, 5, 14] rfl rfl (by decide) (by decide) hk1 hFc hP1 hD1
  have hP : va_P D vwCl (lww x cd u_3 f1 f2 f3 g y ce t_6 w_7 r1 r2 r3 dn ac sm ow co o) H1 := hP.sub (ws' := lww x cd u_3 f1 f2 f3 g y ce t_6 w_7 r1 r2 r3 dn ac sm ow co o) [0, 1, 2, 3, 4, 5, 7, 8, 9, 10, 11, 12, 13, 14, 6] rfl
  have hD : va_D (fun q : Nat => s.heap.size ≤ q) (lww x cd u_3 f1 f2 f3 g y ce t_6 w_7 r1 r2 r3 dn ac sm ow co o) := hD.sub (ws' := lww x cd u_3 f1 f2 f3 g y ce t_6 w_7 r1 r2 r3 dn ac sm ow co o) [0, 1, 2, 3, 4, 5, 7, 8, 9, 10, 11, 12, 13, 14, 6] (by decide) rfl
  try dsimp only at hw_5
  clear hFc hPc hDc hKc hP1 hD1 hk1 hz1 ht hvm
  generalize H1 = H at hP hS ⊢
  have hrel2 := step_clear hrel hw_2 hw_5
  refine lv_goto (tgt := 798) hx hb dL_law_491 (by decide) ?_
  refine W.widen (k := 15 + (t9 + 1)) (n := 782 + 6 * (t9 + 1)) (by omega) (by omega) ?_
  exact ik u_3 f1 f2 f3 g t_6 w_7 r1 r2 r3 dn ac sm o _ _ _ hrel2 hP hD hS (lv_sub hl [0, 1, 2, 3, 4] rfl)
