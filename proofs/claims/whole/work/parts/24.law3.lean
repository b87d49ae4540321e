set_option maxHeartbeats 4000000 in
set_option maxRecDepth 100000 in
/-- case 9 of the law -/
theorem law_9 {p : Program} {l : Launch} {e : Env} {s : State} {m : MethodId} {below : List Frame} {meth : Method} {c : Code} {D : va_G} {b L : Nat} {xs : Nat → Int32} (hl9 : l.stackTraces = false) (hL : L ≤ 2048) (C0 : lw_At p s m meth c b L xs) (hTb : cT (fun q : Nat => s.heap.size ≤ q) s s.heap) (x : Nat → Nat) (cd : Nat → ClassId) (y : Nat → Nat) (ce : Nat → ClassId) (ow : Nat) (co : ClassId) (hK : va_K D vwCl (lty cd ce co) s) (t9 : Nat) (hlt : 4 * t9 + 4 ≤ L) (f0 f1 f2 f3 : Nat → Int32) (g : Nat → Int64) (th : Int32) (r0 r1 r2 r3 dn ac : Nat → Int32) (sm o : Nat → Int64) (H : Heap) (locs : List Loc) (ls : Array Slot) (hrel : Rel f0 f1 f2 f3 r0 r1 r2 r3 dn ac) (hP : va_P D vwCl (lww x cd f0 f1 f2 f3 g y ce th r0 r1 r2 r3 dn ac sm ow co o) H) (hD : va_D (fun q : Nat => s.heap.size ≤ q) (lww x cd f0 f1 f2 f3 g y ce th r0 r1 r2 r3 dn ac sm ow co o)) (hS : va_S (fun q : Nat => s.heap.size ≤ q) s.heap H locs) (hl : lv_has ls 8 [(0, .ref b), (1, .ref (x 0)), (2, .ref (y 0)), (3, .ref ow), (4, .int (nI (4 * t9)))]) (ik : lwK p l e s m below meth c D b x cd y ce ow co t9) : W p l e room_1 s m #[Value.ref b] below meth c H locs (15 + t9) (782 + 6 * t9) (lw_Z below #[Value.ref b] s) (F0 m 494 ls []) := by
  obtain ⟨hx, hb, hr, hml, hown, hts9, hX, hbl, hlocks, hgv⟩ := C0
  have hts : ∀ w ∈ wA, w.before _ s = true := fun w h => hts9 w (List.mem_filter.mp h).1
  have hA : ∀ q : Nat, s.heap.size ≤ q → (fun q : Nat => s.heap.size ≤ q) q := fun _ h => h
  have hbA : ¬ (fun q : Nat => s.heap.size ≤ q) b := Nat.not_le.mpr hbl
  refine lv_aload_n hx hb dL_law_494 rfl (lv_at hl 1 rfl) ?_
  refine lv_aload_n hx hb dL_law_495 rfl (lv_at hl 0 rfl) ?_
  refine lv_iload hx hb dL_law_496 (lv_at hl 4 rfl) ?_
  refine lv_iconst (v := (1 : Int32)) hx hb dL_law_498 (by decide +kernel) ?_
  refine cx_iadd hx hb (4 * t9) 1 dL_law_499 ?_
  refine cx_sld hx hb hX hbl hbA hS (4 * t9 + 1) (by omega) (by omega) dL_law_500 ?_
  refine lv_aload_n hx hb dL_law_501 rfl (lv_at hl 0 rfl) ?_
  refine lv_iload hx hb dL_law_502 (lv_at hl 4 rfl) ?_
  refine lv_iconst (v := (2 : Int32)) hx hb dL_law_504 (by decide +kernel) ?_
  refine cx_iadd hx hb (4 * t9) 2 dL_law_505 ?_
  refine cx_sld hx hb hX hbl hbA hS (4 * t9 + 2) (by omega) (by omega) dL_law_506 ?_
  refine lv_aload_n hx hb dL_law_507 rfl (lv_at hl 3 rfl) ?_
  have hFc := va_free (wc := cwo x cd f0 f1 f2 f3 g ow co o) hD hS hA [0, 1, 2, 3, 4, 5, 14] rfl
  have hPc := hP.sub (ws' := cwo x cd f0 f1 f2 f3 g ow co o) [0, 1, 2, 3, 4, 5, 14] rfl
  have hDc := hD.sub (ws' := cwo x cd f0 f1 f2 f3 g ow co o) [0, 1, 2, 3, 4, 5, 14] (by decide) rfl
  have hKc := hK.sub (tys' := cty cd ++ [(co, .long)]) [0, 1, 2, 3, 4, 12] rfl
  refine va_calli (vx_runSW (As := [.ref (x 0), .int (xs (4 * t9 + 1)), .int (xs (4 * t9 + 2)), .ref ow]) (rest := []) ⟨hx, hb, hml, hown, hts⟩ (k_at l hl9 D x cd f0 f1 f2 f3 g ow co o (xs (4 * t9 + 1)) (xs (4 * t9 + 2)) _) (vx_cwSW 4 hts (gw_S wm_273 wm_274 wm_11 wm_275) rfl rfl rfl (by decide +kernel) ⟨Nat.le_of_ble_eq_true rfl, Nat.le_of_ble_eq_true rfl⟩) ⟨crw_blind, fun U hU hW => ⟨rfl, crw_at hPc hKc hDc hTb hS hFc hU hW⟩⟩ rfl rfl hl.1 rfl (lv_room (Nat.le_of_ble_eq_true rfl)) dL_law_508 ⟨by have : room_1.cells = 1050 := rfl; omega, by have : room_1.slots = 9040 := rfl; omega⟩) hS (fun q _ h => hFc q h) hFc (fun r_1 u9 t H1 locs ht hvm hw_2 hB hz1 hk1 hS => ?_)
  obtain ⟨o_3, rfl⟩ : ∃ z, z = u9 := ⟨_, rfl⟩
  obtain ⟨hP1, -, hD1⟩ := hB
  rw [ht] at hP1
  obtain ⟨hP, hD⟩ := va_join (wr := mw y ce th r0 r1 r2 r3 dn ac sm) (w1 := cwo x cd f0 f1 f2 f3 g ow co o_3) hP hD [0, 1, 2, 3, 4, 5, 14] [6, 7, 8, 9, 10, 11, 12, 13] rfl rfl (by decide) (by decide) hk1 hFc hP1 hD1
  have hP : va_P D vwCl (lww x cd f0 f1 f2 f3 g y ce th r0 r1 r2 r3 dn ac sm ow co o_3) H1 := hP.sub (ws' := lww x cd f0 f1 f2 f3 g y ce th r0 r1 r2 r3 dn ac sm ow co o_3) [8, 9, 10, 11, 12, 13, 0, 1, 2, 3, 4, 5, 6, 7, 14] rfl
  have hD : va_D (fun q : Nat => s.heap.size ≤ q) (lww x cd f0 f1 f2 f3 g y ce th r0 r1 r2 r3 dn ac sm ow co o_3) := hD.sub (ws' := lww x cd f0 f1 f2 f3 g y ce th r0 r1 r2 r3 dn ac sm ow co o_3) [8, 9, 10, 11, 12, 13, 0, 1, 2, 3, 4, 5, 6, 7, 14] (by decide) rfl
  try dsimp only at hw_2
  clear hFc hPc hDc hKc hP1 hD1 hk1 hz1 ht hvm
  generalize H1 = H at hP hS ⊢
  refine lv_istore (lv' := [(5, .int r_1), (0, .ref b), (1, .ref (x 0)), (2, .ref (y 0)), (3, .ref ow), (4, .int (nI (4 * t9)))]) hx hb dL_law_511 hl (by decide) rfl (fun ls hl => ?_)
  refine lv_aload_n hx hb dL_law_513 rfl (lv_at hl 3 rfl) ?_
  refine lv_aload_n hx hb dL_law_514 rfl (lv_at hl 1 rfl) ?_
  refine lv_iload hx hb dL_law_515 (lv_at hl 5 rfl) ?_
  refine lv_iconst (v := (1 : Int32)) hx hb dL_law_517 (by decide +kernel) ?_
  refine cx_iadd hx hb (4 * t9) 1 dL_law_518 ?_
  refine cx_sld hx hb hX hbl hbA hS (4 * t9 + 1) (by omega) (by omega) dL_law_519 ?_
  refine lv_aload_n hx hb dL_law_520 rfl (lv_at hl 1 rfl) ?_
  refine lv_iload hx hb dL_law_521 (lv_at hl 5 rfl) ?_
  refine lv_iconst (v := (2 : Int32)) hx hb dL_law_523 (by decide +kernel) ?_
  refine cx_iadd hx hb (4 * t9) 2 dL_law_524 ?_
  refine cx_sld hx hb hX hbl hbA hS (4 * t9 + 2) (by omega) (by omega) dL_law_525 ?_
  have hFc := va_free (wc := mw y ce th r0 r1 r2 r3 dn ac sm) hD hS hA [6, 7, 8, 9, 10, 11, 12, 13] rfl
  have hPc := hP.sub (ws' := mw y ce th r0 r1 r2 r3 dn ac sm) [6, 7, 8, 9, 10, 11, 12, 13] rfl
  have hDc := hD.sub (ws' := mw y ce th r0 r1 r2 r3 dn ac sm) [6, 7, 8, 9, 10, 11, 12, 13] (by decide) rfl
  have hKc := hK.sub (tys' := mty ce) [5, 6, 7, 8, 9, 10, 11] rfl
  refine va_calli (va_runV (As := [.int (xs (4 * t9 + 1)), .int (xs (4 * t9 + 2))]) (rest := []) ⟨hx, hb, hml, hown, hts⟩ (n_at l D y ce th r0 r1 r2 r3 dn ac sm hrel.2.2.2.2.2.2.2 (xs (4 * t9 + 1)) (xs (4 * t9 + 2)) _) (cwV 2 hts (gw_V wm_397 wm_398 wm_399 wm_13 wm_400) rfl rfl rfl (by decide +kernel) ⟨Nat.le_of_ble_eq_true rfl, Nat.le_of_ble_eq_true rfl⟩) ⟨crw_blind, va_recv hK hP (ci := 1) (q0 := 6) rfl rfl, fun U hU hW => ⟨rfl, crw_at hPc hKc hDc hTb hS hFc hU hW⟩⟩ rfl rfl hl.1 rfl (lv_room (Nat.le_of_ble_eq_true rfl)) dL_law_526 ⟨by have : room_1.cells = 1050 := rfl; omega, by have : room_1.slots = 9040 := rfl; omega⟩) hS (fun q _ h => hFc q h) hFc (fun r_4 u9 t H1 locs ht hvm hw_5 hB hz1 hk1 hS => ?_)
  obtain ⟨t_6, rfl⟩ : ∃ z, z = u9 := ⟨_, rfl⟩
  obtain ⟨hP1, -, hD1⟩ := hB
  rw [ht] at hP1
  obtain ⟨hP, hD⟩ := va_join (wr := cw x cd f0 f1 f2 f3 g ++ [(ow, .inl (co, 1, .inr (.inl o_3)))]) (w1 := mw y ce t_6 r0 r1 r2 r3 dn ac sm) hP hD [6, 7, 8, 9, 10, 11, 12, 13] [0, 1, 2, 3, 4, 5, 14] rfl rfl (by decide) (by decide) hk1 hFc hP1 hD1
  have hP : va_P D vwCl (lww x cd f0 f1 f2 f3 g y ce t_6 r0 r1 r2 r3 dn ac sm ow co o_3) H1 := hP.sub (ws' := lww x cd f0 f1 f2 f3 g y ce t_6 r0 r1 r2 r3 dn ac sm ow co o_3) [0, 1, 2, 3, 4, 5, 7, 8, 9, 10, 11, 12, 13, 14, 6] rfl
  have hD : va_D (fun q : Nat => s.heap.size ≤ q) (lww x cd f0 f1 f2 f3 g y ce t_6 r0 r1 r2 r3 dn ac sm ow co o_3) := hD.sub (ws' := lww x cd f0 f1 f2 f3 g y ce t_6 r0 r1 r2 r3 dn ac sm ow co o_3) [0, 1, 2, 3, 4, 5, 7, 8, 9, 10, 11, 12, 13, 14, 6] (by decide) rfl
  try dsimp only at hw_5
  clear hFc hPc hDc hKc hP1 hD1 hk1 hz1 ht hvm
  generalize H1 = H at hP hS ⊢
  obtain ⟨heq, hval⟩ := step_ans (fun h9 => at_eq hrel.1 hrel.2.1 (by omega) _) hw_2 hw_5
  refine lv_istore (lv' := [(6, .int r_4), (5, .int r_1), (0, .ref b), (1, .ref (x 0)), (2, .ref (y 0)), (3, .ref ow), (4, .int (nI (4 * t9)))]) hx hb dL_law_529 hl (by decide) rfl (fun ls hl => ?_)
  refine lv_aload_n hx hb dL_law_531 rfl (lv_at hl 4 rfl) ?_
  refine vp_callSi (W.runV (As := []) (rest := []) ⟨hx, hb, hml, hown, hts⟩ (n_thrown l D y ce t_6 r0 r1 r2 r3 dn ac sm) (cwV 0 hts (gw_V wm_327 wm_328 wm_329 wm_13 wm_330) rfl rfl rfl (by decide +kernel) ⟨Nat.le_of_ble_eq_true rfl, Nat.le_of_ble_eq_true rfl⟩) ⟨cro_blind, va_recv hK hP (ci := 1) (q0 := 6) rfl rfl, fun U hU hW => ⟨rfl, cro_at (hP.sub (ws' := mw y ce t_6 r0 r1 r2 r3 dn ac sm) [6, 7, 8, 9, 10, 11, 12, 13] rfl) (hK.sub (tys' := mty ce) [5, 6, 7, 8, 9, 10, 11] rfl) hTb hS hU hW⟩⟩ rfl rfl hl.1 rfl (lv_room (Nat.le_of_ble_eq_true rfl)) dL_law_532 ⟨by have : room_1.cells = 1050 := rfl; omega, by have : room_1.slots = 9040 := rfl; omega⟩) (fun r_7 hr_7 => ?_)
  rw [hr_7]
  refine lv_iload hx hb dL_law_535 (lv_at hl 1 rfl) ?_
  refine cx_icmp_eq (i := t_6.toInt) (j := r_1.toInt) (tgt := 542) hx hb rfl rfl dL_law_537 (by decide) (fun c_8 => ?_) (fun c_8 => absurd c_8 (fun h9 => h9 (by rw [heq])))
  refine lv_iload hx hb dL_law_542 (lv_at hl 1 rfl) ?_
  refine cx_if_ne (i := r_1.toInt) (j := 0) (tgt := 559) hx hb rfl rfl dL_law_544 (by decide) (fun c_9 => ?_) (fun c_9 => ?_)
  · refine lv_goto (tgt := 798) hx hb dL_law_559 (by decide) ?_
    refine W.widen (k := 15 + (t9 + 1)) (n := 782 + 6 * (t9 + 1)) (by omega) (by omega) ?_
    exact ik f0 f1 f2 f3 g t_6 r0 r1 r2 r3 dn ac sm o_3 _ _ _ hrel hP hD hS (lv_sub hl [2, 3, 4, 5, 6] rfl)
  · refine lv_aload_n hx hb dL_law_547 rfl (lv_at hl 5 rfl) ?_
    refine lv_iconst (v := (0 : Int32)) hx hb dL_law_548 (by decide +kernel) ?_
    refine cx_lald hx hb hK hP 14 12 rfl rfl 0 (by omega) (by decide) dL_law_549 ?_
    refine lv_iload hx hb dL_law_550 (lv_at hl 0 rfl) ?_
    refine lv_i2l hx hb dL_law_552 rfl ?_
    refine cx_lcmp_eq (i := (o_3 0).toInt) (j := (r_4.toInt64).toInt) (tgt := 559) hx hb rfl rfl dL_law_553 dL_law_554 (by decide) (fun c_10 => ?_) (fun c_10 => absurd c_10 (fun h9 => h9 (by rw [hval (cx_eq0 c_9)])))
    refine lv_goto (tgt := 798) hx hb dL_law_559 (by decide) ?_
    refine W.widen (k := 15 + (t9 + 1)) (n := 782 + 6 * (t9 + 1)) (by omega) (by omega) ?_
    exact ik f0 f1 f2 f3 g t_6 r0 r1 r2 r3 dn ac sm o_3 _ _ _ hrel hP hD hS (lv_sub hl [2, 3, 4, 5, 6] rfl)
set_option maxHeartbeats 4000000 in
set_option maxRecDepth 100000 in
/-- case 10 of the law -/
theorem law_10 {p : Program} {l : Launch} {e : Env} {s : State} {m : MethodId} {below : List Frame} {meth : Method} {c : Code} {D : va_G} {b L : Nat} {xs : Nat → Int32} (hl9 : l.stackTraces = false) (hL : L ≤ 2048) (C0 : lw_At p s m meth c b L xs) (hTb : cT (fun q : Nat => s.heap.size ≤ q) s s.heap) (x : Nat → Nat) (cd : Nat → ClassId) (y : Nat → Nat) (ce : Nat → ClassId) (ow : Nat) (co : ClassId) (hK : va_K D vwCl (lty cd ce co) s) (t9 : Nat) (hlt : 4 * t9 + 4 ≤ L) (f0 f1 f2 f3 : Nat → Int32) (g : Nat → Int64) (th : Int32) (r0 r1 r2 r3 dn ac : Nat → Int32) (sm o : Nat → Int64) (H : Heap) (locs : List Loc) (ls : Array Slot) (hrel : Rel f0 f1 f2 f3 r0 r1 r2 r3 dn ac) (hP : va_P D vwCl (lww x cd f0 f1 f2 f3 g y ce th r0 r1 r2 r3 dn ac sm ow co o) H) (hD : va_D (fun q : Nat => s.heap.size ≤ q) (lww x cd f0 f1 f2 f3 g y ce th r0 r1 r2 r3 dn ac sm ow co o)) (hS : va_S (fun q : Nat => s.heap.size ≤ q) s.heap H locs) (hl : lv_has ls 8 [(0, .ref b), (1, .ref (x 0)), (2, .ref (y 0)), (3, .ref ow), (4, .int (nI (4 * t9)))]) (ik : lwK p l e s m below meth c D b x cd y ce ow co t9) : W p l e room_1 s m #[Value.ref b] below meth c H locs (15 + t9) (782 + 6 * t9) (lw_Z below #[Value.ref b] s) (F0 m 562 ls []) := by
  obtain ⟨hx, hb, hr, hml, hown, hts9, hX, hbl, hlocks, hgv⟩ := C0
  have hts : ∀ w ∈ wA, w.before _ s = true := fun w h => hts9 w (List.mem_filter.mp h).1
  have hA : ∀ q : Nat, s.heap.size ≤ q → (fun q : Nat => s.heap.size ≤ q) q := fun _ h => h
  have hbA : ¬ (fun q : Nat => s.heap.size ≤ q) b := Nat.not_le.mpr hbl
  refine lv_aload_n hx hb dL_law_562 rfl (lv_at hl 1 rfl) ?_
  refine lv_aload_n hx hb dL_law_563 rfl (lv_at hl 0 rfl) ?_
  refine lv_iload hx hb dL_law_564 (lv_at hl 4 rfl) ?_
  refine lv_iconst (v := (1 : Int32)) hx hb dL_law_566 (by decide +kernel) ?_
  refine cx_iadd hx hb (4 * t9) 1 dL_law_567 ?_
  refine cx_sld hx hb hX hbl hbA hS (4 * t9 + 1) (by omega) (by omega) dL_law_568 ?_
  refine lv_aload_n hx hb dL_law_569 rfl (lv_at hl 0 rfl) ?_
  refine lv_iload hx hb dL_law_570 (lv_at hl 4 rfl) ?_
  refine lv_iconst (v := (2 : Int32)) hx hb dL_law_572 (by decide +kernel) ?_
  refine cx_iadd hx hb (4 * t9) 2 dL_law_573 ?_
  refine cx_sld hx hb hX hbl hbA hS (4 * t9 + 2) (by omega) (by omega) dL_law_574 ?_
  refine vp_callSi (W.runV (As := [.int (xs (4 * t9 + 1)), .int (xs (4 * t9 + 2))]) (rest := []) ⟨hx, hb, hml, hown, hts⟩ (m_order l D x cd f0 f1 f2 f3 g (xs (4 * t9 + 1)) (xs (4 * t9 + 2))) (cwV 2 hts (gw_V wm_87 wm_88 wm_89 wm_12 wm_90) rfl rfl rfl (by decide +kernel) ⟨Nat.le_of_ble_eq_true rfl, Nat.le_of_ble_eq_true rfl⟩) ⟨cro_blind, va_recv hK hP (ci := 0) (q0 := 0) rfl rfl, fun U hU hW => ⟨rfl, cro_at (hP.sub (ws' := cw x cd f0 f1 f2 f3 g) [0, 1, 2, 3, 4, 5] rfl) (hK.sub (tys' := cty cd) [0, 1, 2, 3, 4] rfl) hTb hS hU hW⟩⟩ rfl rfl hl.1 rfl (lv_room (Nat.le_of_ble_eq_true rfl)) dL_law_575 ⟨by have : room_1.cells = 1050 := rfl; omega, by have : room_1.slots = 9040 := rfl; omega⟩) (fun r_1 hr_1 => ?_)
  refine lv_aload_n hx hb dL_law_578 rfl (lv_at hl 2 rfl) ?_
  refine lv_aload_n hx hb dL_law_579 rfl (lv_at hl 0 rfl) ?_
  refine lv_iload hx hb dL_law_580 (lv_at hl 4 rfl) ?_
  refine lv_iconst (v := (1 : Int32)) hx hb dL_law_582 (by decide +kernel) ?_
  refine cx_iadd hx hb (4 * t9) 1 dL_law_583 ?_
  refine cx_sld hx hb hX hbl hbA hS (4 * t9 + 1) (by omega) (by omega) dL_law_584 ?_
  refine lv_aload_n hx hb dL_law_585 rfl (lv_at hl 0 rfl) ?_
  refine lv_iload hx hb dL_law_586 (lv_at hl 4 rfl) ?_
  refine lv_iconst (v := (2 : Int32)) hx hb dL_law_588 (by decide +kernel) ?_
  refine cx_iadd hx hb (4 * t9) 2 dL_law_589 ?_
  refine cx_sld hx hb hX hbl hbA hS (4 * t9 + 2) (by omega) (by omega) dL_law_590 ?_
  have hFc := va_free (wc := mw y ce th r0 r1 r2 r3 dn ac sm) hD hS hA [6, 7, 8, 9, 10, 11, 12, 13] rfl
  have hPc := hP.sub (ws' := mw y ce th r0 r1 r2 r3 dn ac sm) [6, 7, 8, 9, 10, 11, 12, 13] rfl
  have hDc := hD.sub (ws' := mw y ce th r0 r1 r2 r3 dn ac sm) [6, 7, 8, 9, 10, 11, 12, 13] (by decide) rfl
  have hKc := hK.sub (tys' := mty ce) [5, 6, 7, 8, 9, 10, 11] rfl
  refine va_calli (va_runV (As := [.int (xs (4 * t9 + 1)), .int (xs (4 * t9 + 2))]) (rest := [.int r_1]) ⟨hx, hb, hml, hown, hts⟩ (n_order l D y ce th r0 r1 r2 r3 dn ac sm hrel.2.2.2.2.2.2.2 (xs (4 * t9 + 1)) (xs (4 * t9 + 2)) _) (cwV 2 hts (gw_V wm_401 wm_402 wm_403 wm_13 wm_404) rfl rfl rfl (by decide +kernel) ⟨Nat.le_of_ble_eq_true rfl, Nat.le_of_ble_eq_true rfl⟩) ⟨crw_blind, va_recv hK hP (ci := 1) (q0 := 6) rfl rfl, fun U hU hW => ⟨rfl, crw_at hPc hKc hDc hTb hS hFc hU hW⟩⟩ rfl rfl hl.1 rfl (lv_room (Nat.le_of_ble_eq_true rfl)) dL_law_591 ⟨by have : room_1.cells = 1050 := rfl; omega, by have : room_1.slots = 9040 := rfl; omega⟩) hS (fun q _ h => hFc q h) hFc (fun r_2 u9 t H1 locs ht hvm hw_3 hB hz1 hk1 hS => ?_)
  obtain ⟨t_4, rfl⟩ : ∃ z, z = u9 := ⟨_, rfl⟩
  obtain ⟨hP1, -, hD1⟩ := hB
  rw [ht] at hP1
  obtain ⟨hP, hD⟩ := va_join (wr := cw x cd f0 f1 f2 f3 g ++ [(ow, .inl (co, 1, .inr (.inl o)))]) (w1 := mw y ce t_4 r0 r1 r2 r3 dn ac sm) hP hD [6, 7, 8, 9, 10, 11, 12, 13] [0, 1, 2, 3, 4, 5, 14] rfl rfl (by decide) (by decide) hk1 hFc hP1 hD1
  have hP : va_P D vwCl (lww x cd f0 f1 f2 f3 g y ce t_4 r0 r1 r2 r3 dn ac sm ow co o) H1 := hP.sub (ws' := lww x cd f0 f1 f2 f3 g y ce t_4 r0 r1 r2 r3 dn ac sm ow co o) [0, 1, 2, 3, 4, 5, 7, 8, 9, 10, 11, 12, 13, 14, 6] rfl
  have hD : va_D (fun q : Nat => s.heap.size ≤ q) (lww x cd f0 f1 f2 f3 g y ce t_4 r0 r1 r2 r3 dn ac sm ow co o) := hD.sub (ws' := lww x cd f0 f1 f2 f3 g y ce t_4 r0 r1 r2 r3 dn ac sm ow co o) [0, 1, 2, 3, 4, 5, 7, 8, 9, 10, 11, 12, 13, 14, 6] (by decide) rfl
  try dsimp only at hw_3
  clear hFc hPc hDc hKc hP1 hD1 hk1 hz1 ht hvm
  generalize H1 = H at hP hS ⊢
  have heq : r_1 = r_2 := hr_1.trans hw_3.2.symm
  refine cx_icmp_eq (i := r_1.toInt) (j := r_2.toInt) (tgt := 798) hx hb rfl rfl dL_law_594 (by decide) (fun c_5 => ?_) (fun c_5 => absurd c_5 (fun h9 => h9 (by rw [heq])))
  refine W.widen (k := 15 + (t9 + 1)) (n := 782 + 6 * (t9 + 1)) (by omega) (by omega) ?_
  exact ik f0 f1 f2 f3 g t_4 r0 r1 r2 r3 dn ac sm o _ _ _ hrel hP hD hS (lv_sub hl [0, 1, 2, 3, 4] rfl)
set_option maxHeartbeats 4000000 in
set_option maxRecDepth 100000 in
/-- case 11 of the law -/
theorem law_11 {p : Program} {l : Launch} {e : Env} {s : State} {m : MethodId} {below : List Frame} {meth : Method} {c : Code} {D : va_G} {b L : Nat} {xs : Nat → Int32} (hl9 : l.stackTraces = false) (hL : L ≤ 2048) (C0 : lw_At p s m meth c b L xs) (hTb : cT (fun q : Nat => s.heap.size ≤ q) s s.heap) (x : Nat → Nat) (cd : Nat → ClassId) (y : Nat → Nat) (ce : Nat → ClassId) (ow : Nat) (co : ClassId) (hK : va_K D vwCl (lty cd ce co) s) (t9 : Nat) (hlt : 4 * t9 + 4 ≤ L) (f0 f1 f2 f3 : Nat → Int32) (g : Nat → Int64) (th : Int32) (r0 r1 r2 r3 dn ac : Nat → Int32) (sm o : Nat → Int64) (H : Heap) (locs : List Loc) (ls : Array Slot) (hrel : Rel f0 f1 f2 f3 r0 r1 r2 r3 dn ac) (hP : va_P D vwCl (lww x cd f0 f1 f2 f3 g y ce th r0 r1 r2 r3 dn ac sm ow co o) H) (hD : va_D (fun q : Nat => s.heap.size ≤ q) (lww x cd f0 f1 f2 f3 g y ce th r0 r1 r2 r3 dn ac sm ow co o)) (hS : va_S (fun q : Nat => s.heap.size ≤ q) s.heap H locs) (hl : lv_has ls 8 [(0, .ref b), (1, .ref (x 0)), (2, .ref (y 0)), (3, .ref ow), (4, .int (nI (4 * t9)))]) (ik : lwK p l e s m below meth c D b x cd y ce ow co t9) : W p l e room_1 s m #[Value.ref b] below meth c H locs (15 + t9) (782 + 6 * t9) (lw_Z below #[Value.ref b] s) (F0 m 599 ls []) := by
  obtain ⟨hx, hb, hr, hml, hown, hts9, hX, hbl, hlocks, hgv⟩ := C0
  have hts : ∀ w ∈ wA, w.before _ s = true := fun w h => hts9 w (List.mem_filter.mp h).1
  have hA : ∀ q : Nat, s.heap.size ≤ q → (fun q : Nat => s.heap.size ≤ q) q := fun _ h => h
  have hbA : ¬ (fun q : Nat => s.heap.size ≤ q) b := Nat.not_le.mpr hbl
  refine lv_aload_n hx hb dL_law_599 rfl (lv_at hl 1 rfl) ?_
  refine lv_aload_n hx hb dL_law_600 rfl (lv_at hl 0 rfl) ?_
  refine lv_iload hx hb dL_law_601 (lv_at hl 4 rfl) ?_
  refine lv_iconst (v := (1 : Int32)) hx hb dL_law_603 (by decide +kernel) ?_
  refine cx_iadd hx hb (4 * t9) 1 dL_law_604 ?_
  refine cx_sld hx hb hX hbl hbA hS (4 * t9 + 1) (by omega) (by omega) dL_law_605 ?_
  refine vp_callSl (W.runV (As := [.int (xs (4 * t9 + 1))]) (rest := []) ⟨hx, hb, hml, hown, hts⟩ (m_samples l D x cd f0 f1 f2 f3 g (xs (4 * t9 + 1))) (cwV 1 hts (gw_V wm_96 wm_97 wm_98 wm_12 wm_99) rfl rfl rfl (by decide +kernel) ⟨Nat.le_of_ble_eq_true rfl, Nat.le_of_ble_eq_true rfl⟩) ⟨cro_blind, va_recv hK hP (ci := 0) (q0 := 0) rfl rfl, fun U hU hW => ⟨rfl, cro_at (hP.sub (ws' := cw x cd f0 f1 f2 f3 g) [0, 1, 2, 3, 4, 5] rfl) (hK.sub (tys' := cty cd) [0, 1, 2, 3, 4] rfl) hTb hS hU hW⟩⟩ rfl rfl hl.1 rfl (lv_room (Nat.le_of_ble_eq_true rfl)) dL_law_606 ⟨by have : room_1.cells = 1050 := rfl; omega, by have : room_1.slots = 9040 := rfl; omega⟩) (fun r_1 hr_1 => ?_)
  refine lv_aload_n hx hb dL_law_609 rfl (lv_at hl 2 rfl) ?_
  refine lv_aload_n hx hb dL_law_610 rfl (lv_at hl 0 rfl) ?_
  refine lv_iload hx hb dL_law_611 (lv_at hl 4 rfl) ?_
  refine lv_iconst (v := (1 : Int32)) hx hb dL_law_613 (by decide +kernel) ?_
  refine cx_iadd hx hb (4 * t9) 1 dL_law_614 ?_
  refine cx_sld hx hb hX hbl hbA hS (4 * t9 + 1) (by omega) (by omega) dL_law_615 ?_
  have hFc := va_free (wc := mw y ce th r0 r1 r2 r3 dn ac sm) hD hS hA [6, 7, 8, 9, 10, 11, 12, 13] rfl
  have hPc := hP.sub (ws' := mw y ce th r0 r1 r2 r3 dn ac sm) [6, 7, 8, 9, 10, 11, 12, 13] rfl
  have hDc := hD.sub (ws' := mw y ce th r0 r1 r2 r3 dn ac sm) [6, 7, 8, 9, 10, 11, 12, 13] (by decide) rfl
  have hKc := hK.sub (tys' := mty ce) [5, 6, 7, 8, 9, 10, 11] rfl
  refine va_calll (va_runV (As := [.int (xs (4 * t9 + 1))]) (rest := [.long r_1]) ⟨hx, hb, hml, hown, hts⟩ (n_samples l D y ce th r0 r1 r2 r3 dn ac sm (xs (4 * t9 + 1)) _) (cwV 1 hts (gw_V wm_405 wm_406 wm_407 wm_13 wm_408) rfl rfl rfl (by decide +kernel) ⟨Nat.le_of_ble_eq_true rfl, Nat.le_of_ble_eq_true rfl⟩) ⟨crw_blind, va_recv hK hP (ci := 1) (q0 := 6) rfl rfl, fun U hU hW => ⟨rfl, crw_at hPc hKc hDc hTb hS hFc hU hW⟩⟩ rfl rfl hl.1 rfl (lv_room (Nat.le_of_ble_eq_true rfl)) dL_law_616 ⟨by have : room_1.cells = 1050 := rfl; omega, by have : room_1.slots = 9040 := rfl; omega⟩) hS (fun q _ h => hFc q h) hFc (fun r_2 u9 t H1 locs ht hvm hw_3 hB hz1 hk1 hS => ?_)
  obtain ⟨t_4, rfl⟩ : ∃ z, z = u9 := ⟨_, rfl⟩
  obtain ⟨hP1, -, hD1⟩ := hB
  rw [ht] at hP1
  obtain ⟨hP, hD⟩ := va_join (wr := cw x cd f0 f1 f2 f3 g ++ [(ow, .inl (co, 1, .inr (.inl o)))]) (w1 := mw y ce t_4 r0 r1 r2 r3 dn ac sm) hP hD [6, 7, 8, 9, 10, 11, 12, 13] [0, 1, 2, 3, 4, 5, 14] rfl rfl (by decide) (by decide) hk1 hFc hP1 hD1
  have hP : va_P D vwCl (lww x cd f0 f1 f2 f3 g y ce t_4 r0 r1 r2 r3 dn ac sm ow co o) H1 := hP.sub (ws' := lww x cd f0 f1 f2 f3 g y ce t_4 r0 r1 r2 r3 dn ac sm ow co o) [0, 1, 2, 3, 4, 5, 7, 8, 9, 10, 11, 12, 13, 14, 6] rfl
  have hD : va_D (fun q : Nat => s.heap.size ≤ q) (lww x cd f0 f1 f2 f3 g y ce t_4 r0 r1 r2 r3 dn ac sm ow co o) := hD.sub (ws' := lww x cd f0 f1 f2 f3 g y ce t_4 r0 r1 r2 r3 dn ac sm ow co o) [0, 1, 2, 3, 4, 5, 7, 8, 9, 10, 11, 12, 13, 14, 6] (by decide) rfl
  try dsimp only at hw_3
  clear hFc hPc hDc hKc hP1 hD1 hk1 hz1 ht hvm
  generalize H1 = H at hP hS ⊢
  have heq : r_1 = r_2 := hr_1.trans ((samples_eq (fun j hj => (hrel.2.2.1 j hj).symm) _).trans hw_3.2.symm)
  refine cx_lcmp_eq (i := r_1.toInt) (j := r_2.toInt) (tgt := 798) hx hb rfl rfl dL_law_619 dL_law_620 (by decide) (fun c_5 => ?_) (fun c_5 => absurd c_5 (fun h9 => h9 (by rw [heq])))
  refine W.widen (k := 15 + (t9 + 1)) (n := 782 + 6 * (t9 + 1)) (by omega) (by omega) ?_
  exact ik f0 f1 f2 f3 g t_4 r0 r1 r2 r3 dn ac sm o _ _ _ hrel hP hD hS (lv_sub hl [0, 1, 2, 3, 4] rfl)
set_option maxHeartbeats 4000000 in
set_option maxRecDepth 100000 in
/-- case 12 of the law -/
theorem law_12 {p : Program} {l : Launch} {e : Env} {s : State} {m : MethodId} {below : List Frame} {meth : Method} {c : Code} {D : va_G} {b L : Nat} {xs : Nat → Int32} (hl9 : l.stackTraces = false) (hL : L ≤ 2048) (C0 : lw_At p s m meth c b L xs) (hTb : cT (fun q : Nat => s.heap.size ≤ q) s s.heap) (x : Nat → Nat) (cd : Nat → ClassId) (y : Nat → Nat) (ce : Nat → ClassId) (ow : Nat) (co : ClassId) (hK : va_K D vwCl (lty cd ce co) s) (t9 : Nat) (hlt : 4 * t9 + 4 ≤ L) (f0 f1 f2 f3 : Nat → Int32) (g : Nat → Int64) (th : Int32) (r0 r1 r2 r3 dn ac : Nat → Int32) (sm o : Nat → Int64) (H : Heap) (locs : List Loc) (ls : Array Slot) (hrel : Rel f0 f1 f2 f3 r0 r1 r2 r3 dn ac) (hP : va_P D vwCl (lww x cd f0 f1 f2 f3 g y ce th r0 r1 r2 r3 dn ac sm ow co o) H) (hD : va_D (fun q : Nat => s.heap.size ≤ q) (lww x cd f0 f1 f2 f3 g y ce th r0 r1 r2 r3 dn ac sm ow co o)) (hS : va_S (fun q : Nat => s.heap.size ≤ q) s.heap H locs) (hl : lv_has ls 8 [(0, .ref b), (1, .ref (x 0)), (2, .ref (y 0)), (3, .ref ow), (4, .int (nI (4 * t9)))]) (ik : lwK p l e s m below meth c D b x cd y ce ow co t9) : W p l e room_1 s m #[Value.ref b] below meth c H locs (15 + t9) (782 + 6 * t9) (lw_Z below #[Value.ref b] s) (F0 m 625 ls []) := by
  obtain ⟨hx, hb, hr, hml, hown, hts9, hX, hbl, hlocks, hgv⟩ := C0
  have hts : ∀ w ∈ wA, w.before _ s = true := fun w h => hts9 w (List.mem_filter.mp h).1
  have hA : ∀ q : Nat, s.heap.size ≤ q → (fun q : Nat => s.heap.size ≤ q) q := fun _ h => h
  have hbA : ¬ (fun q : Nat => s.heap.size ≤ q) b := Nat.not_le.mpr hbl
  refine lv_aload_n hx hb dL_law_625 rfl (lv_at hl 1 rfl) ?_
  refine lv_aload_n hx hb dL_law_626 rfl (lv_at hl 0 rfl) ?_
  refine lv_iload hx hb dL_law_627 (lv_at hl 4 rfl) ?_
  refine lv_iconst (v := (1 : Int32)) hx hb dL_law_629 (by decide +kernel) ?_
  refine cx_iadd hx hb (4 * t9) 1 dL_law_630 ?_
  refine cx_sld hx hb hX hbl hbA hS (4 * t9 + 1) (by omega) (by omega) dL_law_631 ?_
  refine lv_aload_n hx hb dL_law_632 rfl (lv_at hl 0 rfl) ?_
  refine lv_iload hx hb dL_law_633 (lv_at hl 4 rfl) ?_
  refine lv_iconst (v := (2 : Int32)) hx hb dL_law_635 (by decide +kernel) ?_
  refine cx_iadd hx hb (4 * t9) 2 dL_law_636 ?_
  refine cx_sld hx hb hX hbl hbA hS (4 * t9 + 2) (by omega) (by omega) dL_law_637 ?_
  refine lv_aload_n hx hb dL_law_638 rfl (lv_at hl 3 rfl) ?_
  have hFc := va_free (wc := cwo x cd f0 f1 f2 f3 g ow co o) hD hS hA [0, 1, 2, 3, 4, 5, 14] rfl
  have hPc := hP.sub (ws' := cwo x cd f0 f1 f2 f3 g ow co o) [0, 1, 2, 3, 4, 5, 14] rfl
  have hDc := hD.sub (ws' := cwo x cd f0 f1 f2 f3 g ow co o) [0, 1, 2, 3, 4, 5, 14] (by decide) rfl
  have hKc := hK.sub (tys' := cty cd ++ [(co, .long)]) [0, 1, 2, 3, 4, 12] rfl
  refine va_calli (vx_runSW (As := [.ref (x 0), .int (xs (4 * t9 + 1)), .int (xs (4 * t9 + 2)), .ref ow]) (rest := []) ⟨hx, hb, hml, hown, hts⟩ (k_exact l hl9 D x cd f0 f1 f2 f3 g ow co o (xs (4 * t9 + 1)) (xs (4 * t9 + 2)) _) (vx_cwSW 4 hts (gw_S wm_281 wm_282 wm_11 wm_283) rfl rfl rfl (by decide +kernel) ⟨Nat.le_of_ble_eq_true rfl, Nat.le_of_ble_eq_true rfl⟩) ⟨crw_blind, fun U hU hW => ⟨rfl, crw_at hPc hKc hDc hTb hS hFc hU hW⟩⟩ rfl rfl hl.1 rfl (lv_room (Nat.le_of_ble_eq_true rfl)) dL_law_639 ⟨by have : room_1.cells = 1050 := rfl; omega, by have : room_1.slots = 9040 := rfl; omega⟩) hS (fun q _ h => hFc q h) hFc (fun r_1 u9 t H1 locs ht hvm hw_2 hB hz1 hk1 hS => ?_)
  obtain ⟨g_3, o_4⟩ := u9
  obtain ⟨hP1, -, hD1⟩ := hB
  rw [ht] at hP1
  obtain ⟨hP, hD⟩ := va_join (wr := mw y ce th r0 r1 r2 r3 dn ac sm) (w1 := cwo x cd f0 f1 f2 f3 g_3 ow co o_4) hP hD [0, 1, 2, 3, 4, 5, 14] [6, 7, 8, 9, 10, 11, 12, 13] rfl rfl (by decide) (by decide) hk1 hFc hP1 hD1
  have hP : va_P D vwCl (lww x cd f0 f1 f2 f3 g_3 y ce th r0 r1 r2 r3 dn ac sm ow co o_4) H1 := hP.sub (ws' := lww x cd f0 f1 f2 f3 g_3 y ce th r0 r1 r2 r3 dn ac sm ow co o_4) [8, 9, 10, 11, 12, 13, 0, 1, 2, 3, 4, 5, 6, 7, 14] rfl
  have hD : va_D (fun q : Nat => s.heap.size ≤ q) (lww x cd f0 f1 f2 f3 g_3 y ce th r0 r1 r2 r3 dn ac sm ow co o_4) := hD.sub (ws' := lww x cd f0 f1 f2 f3 g_3 y ce th r0 r1 r2 r3 dn ac sm ow co o_4) [8, 9, 10, 11, 12, 13, 0, 1, 2, 3, 4, 5, 6, 7, 14] (by decide) rfl
  try dsimp only at hw_2
  clear hFc hPc hDc hKc hP1 hD1 hk1 hz1 ht hvm
  generalize H1 = H at hP hS ⊢
  refine lv_istore (lv' := [(5, .int r_1), (0, .ref b), (1, .ref (x 0)), (2, .ref (y 0)), (3, .ref ow), (4, .int (nI (4 * t9)))]) hx hb dL_law_642 hl (by decide) rfl (fun ls hl => ?_)
  refine lv_aload_n hx hb dL_law_644 rfl (lv_at hl 3 rfl) ?_
  refine lv_aload_n hx hb dL_law_645 rfl (lv_at hl 1 rfl) ?_
  refine lv_iload hx hb dL_law_646 (lv_at hl 5 rfl) ?_
  refine lv_iconst (v := (1 : Int32)) hx hb dL_law_648 (by decide +kernel) ?_
  refine cx_iadd hx hb (4 * t9) 1 dL_law_649 ?_
  refine cx_sld hx hb hX hbl hbA hS (4 * t9 + 1) (by omega) (by omega) dL_law_650 ?_
  refine lv_aload_n hx hb dL_law_651 rfl (lv_at hl 1 rfl) ?_
  refine lv_iload hx hb dL_law_652 (lv_at hl 5 rfl) ?_
  refine lv_iconst (v := (2 : Int32)) hx hb dL_law_654 (by decide +kernel) ?_
  refine cx_iadd hx hb (4 * t9) 2 dL_law_655 ?_
  refine cx_sld hx hb hX hbl hbA hS (4 * t9 + 2) (by omega) (by omega) dL_law_656 ?_
  have hFc := va_free (wc := mw y ce th r0 r1 r2 r3 dn ac sm) hD hS hA [6, 7, 8, 9, 10, 11, 12, 13] rfl
  have hPc := hP.sub (ws' := mw y ce th r0 r1 r2 r3 dn ac sm) [6, 7, 8, 9, 10, 11, 12, 13] rfl
  have hDc := hD.sub (ws' := mw y ce th r0 r1 r2 r3 dn ac sm) [6, 7, 8, 9, 10, 11, 12, 13] (by decide) rfl
  have hKc := hK.sub (tys' := mty ce) [5, 6, 7, 8, 9, 10, 11] rfl
  refine va_calli (va_runV (As := [.int (xs (4 * t9 + 1)), .int (xs (4 * t9 + 2))]) (rest := []) ⟨hx, hb, hml, hown, hts⟩ (n_exact l D y ce th r0 r1 r2 r3 dn ac sm (xs (4 * t9 + 1)) (xs (4 * t9 + 2)) _) (cwV 2 hts (gw_V wm_409 wm_410 wm_411 wm_13 wm_412) rfl rfl rfl (by decide +kernel) ⟨Nat.le_of_ble_eq_true rfl, Nat.le_of_ble_eq_true rfl⟩) ⟨crw_blind, va_recv hK hP (ci := 1) (q0 := 6) rfl rfl, fun U hU hW => ⟨rfl, crw_at hPc hKc hDc hTb hS hFc hU hW⟩⟩ rfl rfl hl.1 rfl (lv_room (Nat.le_of_ble_eq_true rfl)) dL_law_657 ⟨by have : room_1.cells = 1050 := rfl; omega, by have : room_1.slots = 9040 := rfl; omega⟩) hS (fun q _ h => hFc q h) hFc (fun r_5 u9 t H1 locs ht hvm hw_6 hB hz1 hk1 hS => ?_)
  obtain ⟨t_7, rfl⟩ : ∃ z, z = u9 := ⟨_, rfl⟩
  obtain ⟨hP1, -, hD1⟩ := hB
  rw [ht] at hP1
  obtain ⟨hP, hD⟩ := va_join (wr := cw x cd f0 f1 f2 f3 g_3 ++ [(ow, .inl (co, 1, .inr (.inl o_4)))]) (w1 := mw y ce t_7 r0 r1 r2 r3 dn ac sm) hP hD [6, 7, 8, 9, 10, 11, 12, 13] [0, 1, 2, 3, 4, 5, 14] rfl rfl (by decide) (by decide) hk1 hFc hP1 hD1
  have hP : va_P D vwCl (lww x cd f0 f1 f2 f3 g_3 y ce t_7 r0 r1 r2 r3 dn ac sm ow co o_4) H1 := hP.sub (ws' := lww x cd f0 f1 f2 f3 g_3 y ce t_7 r0 r1 r2 r3 dn ac sm ow co o_4) [0, 1, 2, 3, 4, 5, 7, 8, 9, 10, 11, 12, 13, 14, 6] rfl
  have hD : va_D (fun q : Nat => s.heap.size ≤ q) (lww x cd f0 f1 f2 f3 g_3 y ce t_7 r0 r1 r2 r3 dn ac sm ow co o_4) := hD.sub (ws' := lww x cd f0 f1 f2 f3 g_3 y ce t_7 r0 r1 r2 r3 dn ac sm ow co o_4) [0, 1, 2, 3, 4, 5, 7, 8, 9, 10, 11, 12, 13, 14, 6] (by decide) rfl
  try dsimp only at hw_6
  clear hFc hPc hDc hKc hP1 hD1 hk1 hz1 ht hvm
  generalize H1 = H at hP hS ⊢
  obtain ⟨heq, hval⟩ := step_ans (fun h9 => fE_eN hrel.2.2.2.2.2.2.1 hrel.2.2.1 _ _) hw_2 hw_6
  refine lv_istore (lv' := [(6, .int r_5), (5, .int r_1), (0, .ref b), (1, .ref (x 0)), (2, .ref (y 0)), (3, .ref ow), (4, .int (nI (4 * t9)))]) hx hb dL_law_660 hl (by decide) rfl (fun ls hl => ?_)
  refine lv_aload_n hx hb dL_law_662 rfl (lv_at hl 4 rfl) ?_
  refine vp_callSi (W.runV (As := []) (rest := []) ⟨hx, hb, hml, hown, hts⟩ (n_thrown l D y ce t_7 r0 r1 r2 r3 dn ac sm) (cwV 0 hts (gw_V wm_327 wm_328 wm_329 wm_13 wm_330) rfl rfl rfl (by decide +kernel) ⟨Nat.le_of_ble_eq_true rfl, Nat.le_of_ble_eq_true rfl⟩) ⟨cro_blind, va_recv hK hP (ci := 1) (q0 := 6) rfl rfl, fun U hU hW => ⟨rfl, cro_at (hP.sub (ws' := mw y ce t_7 r0 r1 r2 r3 dn ac sm) [6, 7, 8, 9, 10, 11, 12, 13] rfl) (hK.sub (tys' := mty ce) [5, 6, 7, 8, 9, 10, 11] rfl) hTb hS hU hW⟩⟩ rfl rfl hl.1 rfl (lv_room (Nat.le_of_ble_eq_true rfl)) dL_law_663 ⟨by have : room_1.cells = 1050 := rfl; omega, by have : room_1.slots = 9040 := rfl; omega⟩) (fun r_8 hr_8 => ?_)
  rw [hr_8]
  refine lv_iload hx hb dL_law_666 (lv_at hl 1 rfl) ?_
  refine cx_icmp_eq (i := t_7.toInt) (j := r_1.toInt) (tgt := 673) hx hb rfl rfl dL_law_668 (by decide) (fun c_9 => ?_) (fun c_9 => absurd c_9 (fun h9 => h9 (by rw [heq])))
  refine lv_iload hx hb dL_law_673 (lv_at hl 1 rfl) ?_
  refine cx_if_ne (i := r_1.toInt) (j := 0) (tgt := 690) hx hb rfl rfl dL_law_675 (by decide) (fun c_10 => ?_) (fun c_10 => ?_)
  · refine lv_goto (tgt := 798) hx hb dL_law_690 (by decide) ?_
    refine W.widen (k := 15 + (t9 + 1)) (n := 782 + 6 * (t9 + 1)) (by omega) (by omega) ?_
    exact ik f0 f1 f2 f3 g_3 t_7 r0 r1 r2 r3 dn ac sm o_4 _ _ _ hrel hP hD hS (lv_sub hl [2, 3, 4, 5, 6] rfl)
  · refine lv_aload_n hx hb dL_law_678 rfl (lv_at hl 5 rfl) ?_
    refine lv_iconst (v := (0 : Int32)) hx hb dL_law_679 (by decide +kernel) ?_
    refine cx_lald hx hb hK hP 14 12 rfl rfl 0 (by omega) (by decide) dL_law_680 ?_
    refine lv_iload hx hb dL_law_681 (lv_at hl 0 rfl) ?_
    refine lv_i2l hx hb dL_law_683 rfl ?_
    refine cx_lcmp_eq (i := (o_4 0).toInt) (j := (r_5.toInt64).toInt) (tgt := 690) hx hb rfl rfl dL_law_684 dL_law_685 (by decide) (fun c_11 => ?_) (fun c_11 => absurd c_11 (fun h9 => h9 (by rw [hval (cx_eq0 c_10)])))
    refine lv_goto (tgt := 798) hx hb dL_law_690 (by decide) ?_
    refine W.widen (k := 15 + (t9 + 1)) (n := 782 + 6 * (t9 + 1)) (by omega) (by omega) ?_
    exact ik f0 f1 f2 f3 g_3 t_7 r0 r1 r2 r3 dn ac sm o_4 _ _ _ hrel hP hD hS (lv_sub hl [2, 3, 4, 5, 6] rfl)
set_option maxHeartbeats 4000000 in
set_option maxRecDepth 100000 in
/-- case 13 of the law -/
theorem law_13 {p : Program} {l : Launch} {e : Env} {s : State} {m : MethodId} {below : List Frame} {meth : Method} {c : Code} {D : va_G} {b L : Nat} {xs : Nat → Int32} (hl9 : l.stackTraces = false) (hL : L ≤ 2048) (C0 : lw_At p s m meth c b L xs) (hTb : cT (fun q : Nat => s.heap.size ≤ q) s s.heap) (x : Nat → Nat) (cd : Nat → ClassId) (y : Nat → Nat) (ce : Nat → ClassId) (ow : Nat) (co : ClassId) (hK : va_K D vwCl (lty cd ce co) s) (t9 : Nat) (hlt : 4 * t9 + 4 ≤ L) (f0 f1 f2 f3 : Nat → Int32) (g : Nat → Int64) (th : Int32) (r0 r1 r2 r3 dn ac : Nat → Int32) (sm o : Nat → Int64) (H : Heap) (locs : List Loc) (ls : Array Slot) (hrel : Rel f0 f1 f2 f3 r0 r1 r2 r3 dn ac) (hP : va_P D vwCl (lww x cd f0 f1 f2 f3 g y ce th r0 r1 r2 r3 dn ac sm ow co o) H) (hD : va_D (fun q : Nat => s.heap.size ≤ q) (lww x cd f0 f1 f2 f3 g y ce th r0 r1 r2 r3 dn ac sm ow co o)) (hS : va_S (fun q : Nat => s.heap.size ≤ q) s.heap H locs) (hl : lv_has ls 8 [(0, .ref b), (1, .ref (x 0)), (2, .ref (y 0)), (3, .ref ow), (4, .int (nI (4 * t9)))]) (ik : lwK p l e s m below meth c D b x cd y ce ow co t9) : W p l e room_1 s m #[Value.ref b] below meth c H locs (15 + t9) (782 + 6 * t9) (lw_Z below #[Value.ref b] s) (F0 m 693 ls []) := by
  obtain ⟨hx, hb, hr, hml, hown, hts9, hX, hbl, hlocks, hgv⟩ := C0
  have hts : ∀ w ∈ wA, w.before _ s = true := fun w h => hts9 w (List.mem_filter.mp h).1
  have hA : ∀ q : Nat, s.heap.size ≤ q → (fun q : Nat => s.heap.size ≤ q) q := fun _ h => h
  have hbA : ¬ (fun q : Nat => s.heap.size ≤ q) b := Nat.not_le.mpr hbl
  refine lv_aload_n hx hb dL_law_693 rfl (lv_at hl 1 rfl) ?_
  refine lv_aload_n hx hb dL_law_694 rfl (lv_at hl 0 rfl) ?_
  refine lv_iload hx hb dL_law_695 (lv_at hl 4 rfl) ?_
  refine lv_iconst (v := (1 : Int32)) hx hb dL_law_697 (by decide +kernel) ?_
  refine cx_iadd hx hb (4 * t9) 1 dL_law_698 ?_
  refine cx_sld hx hb hX hbl hbA hS (4 * t9 + 1) (by omega) (by omega) dL_law_699 ?_
  refine lv_aload_n hx hb dL_law_700 rfl (lv_at hl 0 rfl) ?_
  refine lv_iload hx hb dL_law_701 (lv_at hl 4 rfl) ?_
  refine lv_iconst (v := (2 : Int32)) hx hb dL_law_703 (by decide +kernel) ?_
  refine cx_iadd hx hb (4 * t9) 2 dL_law_704 ?_
  refine cx_sld hx hb hX hbl hbA hS (4 * t9 + 2) (by omega) (by omega) dL_law_705 ?_
  refine lv_aload_n hx hb dL_law_706 rfl (lv_at hl 0 rfl) ?_
  refine lv_iload hx hb dL_law_707 (lv_at hl 4 rfl) ?_
  refine lv_iconst (v := (3 : Int32)) hx hb dL_law_709 (by decide +kernel) ?_
  refine cx_iadd hx hb (4 * t9) 3 dL_law_710 ?_
  refine cx_sld hx hb hX hbl hbA hS (4 * t9 + 3) (by omega) (by omega) dL_law_711 ?_
  refine lv_aload_n hx hb dL_law_712 rfl (lv_at hl 3 rfl) ?_
  have hFc := va_free (wc := cwo x cd f0 f1 f2 f3 g ow co o) hD hS hA [0, 1, 2, 3, 4, 5, 14] rfl
  have hPc := hP.sub (ws' := cwo x cd f0 f1 f2 f3 g ow co o) [0, 1, 2, 3, 4, 5, 14] rfl
  have hDc := hD.sub (ws' := cwo x cd f0 f1 f2 f3 g ow co o) [0, 1, 2, 3, 4, 5, 14] (by decide) rfl
  have hKc := hK.sub (tys' := cty cd ++ [(co, .long)]) [0, 1, 2, 3, 4, 12] rfl
  refine va_calli (vx_runSW (As := [.ref (x 0), .int (xs (4 * t9 + 1)), .int (xs (4 * t9 + 2)), .int (xs (4 * t9 + 3)), .ref ow]) (rest := []) ⟨hx, hb, hml, hown, hts⟩ (k_wave l hl9 D x cd f0 f1 f2 f3 g ow co o (xs (4 * t9 + 1)) (xs (4 * t9 + 2)) (xs (4 * t9 + 3)) _) (vx_cwSW 5 hts (gw_S wm_288 wm_289 wm_11 wm_290) rfl rfl rfl (by decide +kernel) ⟨Nat.le_of_ble_eq_true rfl, Nat.le_of_ble_eq_true rfl⟩) ⟨crw_blind, fun U hU hW => ⟨rfl, crw_at hPc hKc hDc hTb hS hFc hU hW⟩⟩ rfl rfl hl.1 rfl (lv_room (Nat.le_of_ble_eq_true rfl)) dL_law_713 ⟨by have : room_1.cells = 1050 := rfl; omega, by have : room_1.slots = 9040 := rfl; omega⟩) hS (fun q _ h => hFc q h) hFc (fun r_1 u9 t H1 locs ht hvm hw_2 hB hz1 hk1 hS => ?_)
  obtain ⟨o_3, rfl⟩ : ∃ z, z = u9 := ⟨_, rfl⟩
  obtain ⟨hP1, -, hD1⟩ := hB
  rw [ht] at hP1
  obtain ⟨hP, hD⟩ := va_join (wr := mw y ce th r0 r1 r2 r3 dn ac sm) (w1 := cwo x cd f0 f1 f2 f3 g ow co o_3) hP hD [0, 1, 2, 3, 4, 5, 14] [6, 7, 8, 9, 10, 11, 12, 13] rfl rfl (by decide) (by decide) hk1 hFc hP1 hD1
  have hP : va_P D vwCl (lww x cd f0 f1 f2 f3 g y ce th r0 r1 r2 r3 dn ac sm ow co o_3) H1 := hP.sub (ws' := lww x cd f0 f1 f2 f3 g y ce th r0 r1 r2 r3 dn ac sm ow co o_3) [8, 9, 10, 11, 12, 13, 0, 1, 2, 3, 4, 5, 6, 7, 14] rfl
  have hD : va_D (fun q : Nat => s.heap.size ≤ q) (lww x cd f0 f1 f2 f3 g y ce th r0 r1 r2 r3 dn ac sm ow co o_3) := hD.sub (ws' := lww x cd f0 f1 f2 f3 g y ce th r0 r1 r2 r3 dn ac sm ow co o_3) [8, 9, 10, 11, 12, 13, 0, 1, 2, 3, 4, 5, 6, 7, 14] (by decide) rfl
  try dsimp only at hw_2
  clear hFc hPc hDc hKc hP1 hD1 hk1 hz1 ht hvm
  generalize H1 = H at hP hS ⊢
  refine lv_istore (lv' := [(5, .int r_1), (0, .ref b), (1, .ref (x 0)), (2, .ref (y 0)), (3, .ref ow), (4, .int (nI (4 * t9)))]) hx hb dL_law_716 hl (by decide) rfl (fun ls hl => ?_)
  refine lv_aload_n hx hb dL_law_718 rfl (lv_at hl 3 rfl) ?_
  refine lv_aload_n hx hb dL_law_719 rfl (lv_at hl 1 rfl) ?_
  refine lv_iload hx hb dL_law_720 (lv_at hl 5 rfl) ?_
  refine lv_iconst (v := (1 : Int32)) hx hb dL_law_722 (by decide +kernel) ?_
  refine cx_iadd hx hb (4 * t9) 1 dL_law_723 ?_
  refine cx_sld hx hb hX hbl hbA hS (4 * t9 + 1) (by omega) (by omega) dL_law_724 ?_
  refine lv_aload_n hx hb dL_law_725 rfl (lv_at hl 1 rfl) ?_
  refine lv_iload hx hb dL_law_726 (lv_at hl 5 rfl) ?_
  refine lv_iconst (v := (2 : Int32)) hx hb dL_law_728 (by decide +kernel) ?_
  refine cx_iadd hx hb (4 * t9) 2 dL_law_729 ?_
  refine cx_sld hx hb hX hbl hbA hS (4 * t9 + 2) (by omega) (by omega) dL_law_730 ?_
  refine lv_aload_n hx hb dL_law_731 rfl (lv_at hl 1 rfl) ?_
  refine lv_iload hx hb dL_law_732 (lv_at hl 5 rfl) ?_
  refine lv_iconst (v := (3 : Int32)) hx hb dL_law_734 (by decide +kernel) ?_
  refine cx_iadd hx hb (4 * t9) 3 dL_law_735 ?_
  refine cx_sld hx hb hX hbl hbA hS (4 * t9 + 3) (by omega) (by omega) dL_law_736 ?_
  have hFc := va_free (wc := mw y ce th r0 r1 r2 r3 dn ac sm) hD hS hA [6, 7, 8, 9, 10, 11, 12, 13] rfl
  have hPc := hP.sub (ws' := mw y ce th r0 r1 r2 r3 dn ac sm) [6, 7, 8, 9, 10, 11, 12, 13] rfl
  have hDc := hD.sub (ws' := mw y ce th r0 r1 r2 r3 dn ac sm) [6, 7, 8, 9, 10, 11, 12, 13] (by decide) rfl
  have hKc := hK.sub (tys' := mty ce) [5, 6, 7, 8, 9, 10, 11] rfl
  refine va_calli (va_runV (As := [.int (xs (4 * t9 + 1)), .int (xs (4 * t9 + 2)), .int (xs (4 * t9 + 3))]) (rest := []) ⟨hx, hb, hml, hown, hts⟩ (n_wave l D y ce th r0 r1 r2 r3 dn ac sm (xs (4 * t9 + 1)) (xs (4 * t9 + 2)) (xs (4 * t9 + 3)) _) (cwV 3 hts (gw_V wm_413 wm_414 wm_415 wm_13 wm_416) rfl rfl rfl (by decide +kernel) ⟨Nat.le_of_ble_eq_true rfl, Nat.le_of_ble_eq_true rfl⟩) ⟨crw_blind, va_recv hK hP (ci := 1) (q0 := 6) rfl rfl, fun U hU hW => ⟨rfl, crw_at hPc hKc hDc hTb hS hFc hU hW⟩⟩ rfl rfl hl.1 rfl (lv_room (Nat.le_of_ble_eq_true rfl)) dL_law_737 ⟨by have : room_1.cells = 1050 := rfl; omega, by have : room_1.slots = 9040 := rfl; omega⟩) hS (fun q _ h => hFc q h) hFc (fun r_4 u9 t H1 locs ht hvm hw_5 hB hz1 hk1 hS => ?_)
  obtain ⟨t_6, rfl⟩ : ∃ z, z = u9 := ⟨_, rfl⟩
  obtain ⟨hP1, -, hD1⟩ := hB
  rw [ht] at hP1
  obtain ⟨hP, hD⟩ := va_join (wr := cw x cd f0 f1 f2 f3 g ++ [(ow, .inl (co, 1, .inr (.inl o_3)))]) (w1 := mw y ce t_6 r0 r1 r2 r3 dn ac sm) hP hD [6, 7, 8, 9, 10, 11, 12, 13] [0, 1, 2, 3, 4, 5, 14] rfl rfl (by decide) (by decide) hk1 hFc hP1 hD1
  have hP : va_P D vwCl (lww x cd f0 f1 f2 f3 g y ce t_6 r0 r1 r2 r3 dn ac sm ow co o_3) H1 := hP.sub (ws' := lww x cd f0 f1 f2 f3 g y ce t_6 r0 r1 r2 r3 dn ac sm ow co o_3) [0, 1, 2, 3, 4, 5, 7, 8, 9, 10, 11, 12, 13, 14, 6] rfl
  have hD : va_D (fun q : Nat => s.heap.size ≤ q) (lww x cd f0 f1 f2 f3 g y ce t_6 r0 r1 r2 r3 dn ac sm ow co o_3) := hD.sub (ws' := lww x cd f0 f1 f2 f3 g y ce t_6 r0 r1 r2 r3 dn ac sm ow co o_3) [0, 1, 2, 3, 4, 5, 7, 8, 9, 10, 11, 12, 13, 14, 6] (by decide) rfl
  try dsimp only at hw_5
  clear hFc hPc hDc hKc hP1 hD1 hk1 hz1 ht hvm
  generalize H1 = H at hP hS ⊢
  obtain ⟨heq, hval⟩ := step_ans (fun _ => rfl) hw_2 hw_5
  refine lv_istore (lv' := [(6, .int r_4), (5, .int r_1), (0, .ref b), (1, .ref (x 0)), (2, .ref (y 0)), (3, .ref ow), (4, .int (nI (4 * t9)))]) hx hb dL_law_740 hl (by decide) rfl (fun ls hl => ?_)
  refine lv_aload_n hx hb dL_law_742 rfl (lv_at hl 4 rfl) ?_
  refine vp_callSi (W.runV (As := []) (rest := []) ⟨hx, hb, hml, hown, hts⟩ (n_thrown l D y ce t_6 r0 r1 r2 r3 dn ac sm) (cwV 0 hts (gw_V wm_327 wm_328 wm_329 wm_13 wm_330) rfl rfl rfl (by decide +kernel) ⟨Nat.le_of_ble_eq_true rfl, Nat.le_of_ble_eq_true rfl⟩) ⟨cro_blind, va_recv hK hP (ci := 1) (q0 := 6) rfl rfl, fun U hU hW => ⟨rfl, cro_at (hP.sub (ws' := mw y ce t_6 r0 r1 r2 r3 dn ac sm) [6, 7, 8, 9, 10, 11, 12, 13] rfl) (hK.sub (tys' := mty ce) [5, 6, 7, 8, 9, 10, 11] rfl) hTb hS hU hW⟩⟩ rfl rfl hl.1 rfl (lv_room (Nat.le_of_ble_eq_true rfl)) dL_law_743 ⟨by have : room_1.cells = 1050 := rfl; omega, by have : room_1.slots = 9040 := rfl; omega⟩) (fun r_7 hr_7 => ?_)
  rw [hr_7]
  refine lv_iload hx hb dL_law_746 (lv_at hl 1 rfl) ?_
  refine cx_icmp_eq (i := t_6.toInt) (j := r_1.toInt) (tgt := 753) hx hb rfl rfl dL_law_748 (by decide) (fun c_8 => ?_) (fun c_8 => absurd c_8 (fun h9 => h9 (by rw [heq])))
  refine lv_iload hx hb dL_law_753 (lv_at hl 1 rfl) ?_
  refine cx_if_ne (i := r_1.toInt) (j := 0) (tgt := 770) hx hb rfl rfl dL_law_755 (by decide) (fun c_9 => ?_) (fun c_9 => ?_)
  · refine lv_goto (tgt := 798) hx hb dL_law_770 (by decide) ?_
    refine W.widen (k := 15 + (t9 + 1)) (n := 782 + 6 * (t9 + 1)) (by omega) (by omega) ?_
    exact ik f0 f1 f2 f3 g t_6 r0 r1 r2 r3 dn ac sm o_3 _ _ _ hrel hP hD hS (lv_sub hl [2, 3, 4, 5, 6] rfl)
  · refine lv_aload_n hx hb dL_law_758 rfl (lv_at hl 5 rfl) ?_
    refine lv_iconst (v := (0 : Int32)) hx hb dL_law_759 (by decide +kernel) ?_
    refine cx_lald hx hb hK hP 14 12 rfl rfl 0 (by omega) (by decide) dL_law_760 ?_
    refine lv_iload hx hb dL_law_761 (lv_at hl 0 rfl) ?_
    refine lv_i2l hx hb dL_law_763 rfl ?_
    refine cx_lcmp_eq (i := (o_3 0).toInt) (j := (r_4.toInt64).toInt) (tgt := 770) hx hb rfl rfl dL_law_764 dL_law_765 (by decide) (fun c_10 => ?_) (fun c_10 => absurd c_10 (fun h9 => h9 (by rw [hval (cx_eq0 c_9)])))
    refine lv_goto (tgt := 798) hx hb dL_law_770 (by decide) ?_
    refine W.widen (k := 15 + (t9 + 1)) (n := 782 + 6 * (t9 + 1)) (by omega) (by omega) ?_
    exact ik f0 f1 f2 f3 g t_6 r0 r1 r2 r3 dn ac sm o_3 _ _ _ hrel hP hD hS (lv_sub hl [2, 3, 4, 5, 6] rfl)
set_option maxHeartbeats 4000000 in
set_option maxRecDepth 100000 in
/-- case 14 of the law -/
theorem law_14 {p : Program} {l : Launch} {e : Env} {s : State} {m : MethodId} {below : List Frame} {meth : Method} {c : Code} {D : va_G} {b L : Nat} {xs : Nat → Int32} (hl9 : l.stackTraces = false) (hL : L ≤ 2048) (C0 : lw_At p s m meth c b L xs) (hTb : cT (fun q : Nat => s.heap.size ≤ q) s s.heap) (x : Nat → Nat) (cd : Nat → ClassId) (y : Nat → Nat) (ce : Nat → ClassId) (ow : Nat) (co : ClassId) (hK : va_K D vwCl (lty cd ce co) s) (t9 : Nat) (hlt : 4 * t9 + 4 ≤ L) (f0 f1 f2 f3 : Nat → Int32) (g : Nat → Int64) (th : Int32) (r0 r1 r2 r3 dn ac : Nat → Int32) (sm o : Nat → Int64) (H : Heap) (locs : List Loc) (ls : Array Slot) (hrel : Rel f0 f1 f2 f3 r0 r1 r2 r3 dn ac) (hP : va_P D vwCl (lww x cd f0 f1 f2 f3 g y ce th r0 r1 r2 r3 dn ac sm ow co o) H) (hD : va_D (fun q : Nat => s.heap.size ≤ q) (lww x cd f0 f1 f2 f3 g y ce th r0 r1 r2 r3 dn ac sm ow co o)) (hS : va_S (fun q : Nat => s.heap.size ≤ q) s.heap H locs) (hl : lv_has ls 8 [(0, .ref b), (1, .ref (x 0)), (2, .ref (y 0)), (3, .ref ow), (4, .int (nI (4 * t9)))]) (ik : lwK p l e s m below meth c D b x cd y ce ow co t9) : W p l e room_1 s m #[Value.ref b] below meth c H locs (15 + t9) (782 + 6 * t9) (lw_Z below #[Value.ref b] s) (F0 m 773 ls []) := by
  obtain ⟨hx, hb, hr, hml, hown, hts9, hX, hbl, hlocks, hgv⟩ := C0
  have hts : ∀ w ∈ wA, w.before _ s = true := fun w h => hts9 w (List.mem_filter.mp h).1
  have hA : ∀ q : Nat, s.heap.size ≤ q → (fun q : Nat => s.heap.size ≤ q) q := fun _ h => h
  have hbA : ¬ (fun q : Nat => s.heap.size ≤ q) b := Nat.not_le.mpr hbl
  refine lv_aload_n hx hb dL_law_773 rfl (lv_at hl 1 rfl) ?_
  refine lv_aload_n hx hb dL_law_774 rfl (lv_at hl 0 rfl) ?_
  refine lv_iload hx hb dL_law_775 (lv_at hl 4 rfl) ?_
  refine lv_iconst (v := (1 : Int32)) hx hb dL_law_777 (by decide +kernel) ?_
  refine cx_iadd hx hb (4 * t9) 1 dL_law_778 ?_
  refine cx_sld hx hb hX hbl hbA hS (4 * t9 + 1) (by omega) (by omega) dL_law_779 ?_
  refine vp_callSi (W.runV (As := [.int (xs (4 * t9 + 1))]) (rest := []) ⟨hx, hb, hml, hown, hts⟩ (m_look l D x cd f0 f1 f2 f3 g (xs (4 * t9 + 1))) (cwV 1 hts (gw_V wm_100 wm_101 wm_102 wm_12 wm_103) rfl rfl rfl (by decide +kernel) ⟨Nat.le_of_ble_eq_true rfl, Nat.le_of_ble_eq_true rfl⟩) ⟨cro_blind, va_recv hK hP (ci := 0) (q0 := 0) rfl rfl, fun U hU hW => ⟨rfl, cro_at (hP.sub (ws' := cw x cd f0 f1 f2 f3 g) [0, 1, 2, 3, 4, 5] rfl) (hK.sub (tys' := cty cd) [0, 1, 2, 3, 4] rfl) hTb hS hU hW⟩⟩ rfl rfl hl.1 rfl (lv_room (Nat.le_of_ble_eq_true rfl)) dL_law_780 ⟨by have : room_1.cells = 1050 := rfl; omega, by have : room_1.slots = 9040 := rfl; omega⟩) (fun r_1 hr_1 => ?_)
  refine lv_aload_n hx hb dL_law_783 rfl (lv_at hl 2 rfl) ?_
  refine lv_aload_n hx hb dL_law_784 rfl (lv_at hl 0 rfl) ?_
  refine lv_iload hx hb dL_law_785 (lv_at hl 4 rfl) ?_
  refine lv_iconst (v := (1 : Int32)) hx hb dL_law_787 (by decide +kernel) ?_
  refine cx_iadd hx hb (4 * t9) 1 dL_law_788 ?_
  refine cx_sld hx hb hX hbl hbA hS (4 * t9 + 1) (by omega) (by omega) dL_law_789 ?_
  have hFc := va_free (wc := mw y ce th r0 r1 r2 r3 dn ac sm) hD hS hA [6, 7, 8, 9, 10, 11, 12, 13] rfl
  have hPc := hP.sub (ws' := mw y ce th r0 r1 r2 r3 dn ac sm) [6, 7, 8, 9, 10, 11, 12, 13] rfl
  have hDc := hD.sub (ws' := mw y ce th r0 r1 r2 r3 dn ac sm) [6, 7, 8, 9, 10, 11, 12, 13] (by decide) rfl
  have hKc := hK.sub (tys' := mty ce) [5, 6, 7, 8, 9, 10, 11] rfl
  refine va_calli (va_runV (As := [.int (xs (4 * t9 + 1))]) (rest := [.int r_1]) ⟨hx, hb, hml, hown, hts⟩ (n_look l D y ce th r0 r1 r2 r3 dn ac sm (xs (4 * t9 + 1)) _) (cwV 1 hts (gw_V wm_417 wm_418 wm_419 wm_13 wm_420) rfl rfl rfl (by decide +kernel) ⟨Nat.le_of_ble_eq_true rfl, Nat.le_of_ble_eq_true rfl⟩) ⟨crw_blind, va_recv hK hP (ci := 1) (q0 := 6) rfl rfl, fun U hU hW => ⟨rfl, crw_at hPc hKc hDc hTb hS hFc hU hW⟩⟩ rfl rfl hl.1 rfl (lv_room (Nat.le_of_ble_eq_true rfl)) dL_law_790 ⟨by have : room_1.cells = 1050 := rfl; omega, by have : room_1.slots = 9040 := rfl; omega⟩) hS (fun q _ h => hFc q h) hFc (fun r_2 u9 t H1 locs ht hvm hw_3 hB hz1 hk1 hS => ?_)
  obtain ⟨t_4, rfl⟩ : ∃ z, z = u9 := ⟨_, rfl⟩
  obtain ⟨hP1, -, hD1⟩ := hB
  rw [ht] at hP1
  obtain ⟨hP, hD⟩ := va_join (wr := cw x cd f0 f1 f2 f3 g ++ [(ow, .inl (co, 1, .inr (.inl o)))]) (w1 := mw y ce t_4 r0 r1 r2 r3 dn ac sm) hP hD [6, 7, 8, 9, 10, 11, 12, 13] [0, 1, 2, 3, 4, 5, 14] rfl rfl (by decide) (by decide) hk1 hFc hP1 hD1
  have hP : va_P D vwCl (lww x cd f0 f1 f2 f3 g y ce t_4 r0 r1 r2 r3 dn ac sm ow co o) H1 := hP.sub (ws' := lww x cd f0 f1 f2 f3 g y ce t_4 r0 r1 r2 r3 dn ac sm ow co o) [0, 1, 2, 3, 4, 5, 7, 8, 9, 10, 11, 12, 13, 14, 6] rfl
  have hD : va_D (fun q : Nat => s.heap.size ≤ q) (lww x cd f0 f1 f2 f3 g y ce t_4 r0 r1 r2 r3 dn ac sm ow co o) := hD.sub (ws' := lww x cd f0 f1 f2 f3 g y ce t_4 r0 r1 r2 r3 dn ac sm ow co o) [0, 1, 2, 3, 4, 5, 7, 8, 9, 10, 11, 12, 13, 14, 6] (by decide) rfl
  try dsimp only at hw_3
  clear hFc hPc hDc hKc hP1 hD1 hk1 hz1 ht hvm
  generalize H1 = H at hP hS ⊢
  have heq : r_1 = r_2 := hr_1.trans ((look_eq hrel.1 hrel.2.1 hrel.2.2.1 _).trans hw_3.2.symm)
  refine cx_icmp_eq (i := r_1.toInt) (j := r_2.toInt) (tgt := 798) hx hb rfl rfl dL_law_793 (by decide) (fun c_5 => ?_) (fun c_5 => absurd c_5 (fun h9 => h9 (by rw [heq])))
  refine W.widen (k := 15 + (t9 + 1)) (n := 782 + 6 * (t9 + 1)) (by omega) (by omega) ?_
  exact ik f0 f1 f2 f3 g t_4 r0 r1 r2 r3 dn ac sm o _ _ _ hrel hP hD hS (lv_sub hl [0, 1, 2, 3, 4] rfl)
