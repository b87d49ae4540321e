/-! the law's world, and what its cases go on to -/
abbrev lww (x : Nat → Nat) (cd : Nat → ClassId) (f0 f1 f2 f3 : Nat → Int32) (g : Nat → Int64) (y : Nat → Nat) (ce : Nat → ClassId) (th : Int32) (r0 r1 r2 r3 dn ac : Nat → Int32) (sm : Nat → Int64) (ow : Nat) (co : ClassId) (o : Nat → Int64) : va_W := cw x cd f0 f1 f2 f3 g ++ (mw y ce th r0 r1 r2 r3 dn ac sm ++ [(ow, .inl (co, 1, .inr (.inl o)))])
abbrev lty (cd ce : Nat → ClassId) (co : ClassId) : List (ClassId × FieldType) := cty cd ++ (mty ce ++ [(co, .long)])
theorem cx_sld {p : Program} {l : Launch} {e : Env} {R : Room} {s : State} {m : MethodId} {args : Array Value} {below : List Frame} {meth : Method} {c : Code} {H : Heap} {locs : List Loc} {cells slots : Nat} {Q : State → Prop} {cc : ByteArray} {pc : Nat} {ls : Array Slot} {rest : List Value} {A : Nat → Prop} {H0 : Heap} (hx : p.tables.exec = Jvm.exec) (hb : c.code = cc) {b L : Nat} {xs : Nat → Int32} (hX : va_X b L xs s H0) (hbl : b < H0.size) (hbA : ¬ A b) (hS : va_S A H0 H locs) (j : Nat) (hj : j < L) (hL : L < 2 ^ 31) (hdg : decode cc pc = .ok (.iaload, 1))
    (kk : W p l e R s m args below meth c H locs cells slots Q (F0 m (pc + 1) ls (.int (xs j) :: rest))) : W p l e R s m args below meth c H locs cells slots Q (F0 m pc ls (.int (nI j) :: .ref b :: rest)) :=
  va_sld hx hb hX hbl hbA hS (vp_in_nI hj hL) hdg (by rw [nI_clamp (Nat.lt_trans hj hL)]; exact kk)
theorem rel_r1 {f0 f1 f2 f3 r0 r1 r2 r3 dn ac : Nat → Int32} (h : Rel f0 f1 f2 f3 r0 r1 r2 r3 dn ac) : ∀ j, j < 64 → 1 ≤ (r1 j).toInt ∧ (r1 j).toInt ≤ 255 := fun j hj => by rw [h.2.1 j hj]; exact h.2.2.2.2.2.1 _ (cCn_lt j hj)
def lwK (p : Program) (l : Launch) (e : Env) (s : State) (m : MethodId) (below : List Frame) (meth : Method) (c : Code) (D : va_G) (b : Nat) (x : Nat → Nat) (cd : Nat → ClassId) (y : Nat → Nat) (ce : Nat → ClassId) (ow : Nat) (co : ClassId) (t9 : Nat) : Prop :=
  ∀ (f0 f1 f2 f3 : Nat → Int32) (g : Nat → Int64) (th : Int32) (r0 r1 r2 r3 dn ac : Nat → Int32) (sm o : Nat → Int64) (H : Heap) (locs : List Loc) (ls : Array Slot), Rel f0 f1 f2 f3 r0 r1 r2 r3 dn ac → va_P D vwCl (lww x cd f0 f1 f2 f3 g y ce th r0 r1 r2 r3 dn ac sm ow co o) H → va_D (fun q : Nat => s.heap.size ≤ q) (lww x cd f0 f1 f2 f3 g y ce th r0 r1 r2 r3 dn ac sm ow co o) → va_S (fun q : Nat => s.heap.size ≤ q) s.heap H locs → lv_has ls 8 [(0, .ref b), (1, .ref (x 0)), (2, .ref (y 0)), (3, .ref ow), (4, .int (nI (4 * t9)))] → W p l e room_1 s m #[Value.ref b] below meth c H locs (15 + (t9 + 1)) (782 + 6 * (t9 + 1)) (lw_Z below #[Value.ref b] s) (F0 m 798 ls [])
set_option maxHeartbeats 4000000 in
set_option maxRecDepth 100000 in
/-- case 0 of the law -/
theorem law_0 {p : Program} {l : Launch} {e : Env} {s : State} {m : MethodId} {below : List Frame} {meth : Method} {c : Code} {D : va_G} {b L : Nat} {xs : Nat → Int32} (hl9 : l.stackTraces = false) (hL : L ≤ 2048) (C0 : lw_At p s m meth c b L xs) (hTb : cT (fun q : Nat => s.heap.size ≤ q) s s.heap) (x : Nat → Nat) (cd : Nat → ClassId) (y : Nat → Nat) (ce : Nat → ClassId) (ow : Nat) (co : ClassId) (hK : va_K D vwCl (lty cd ce co) s) (t9 : Nat) (hlt : 4 * t9 + 4 ≤ L) (f0 f1 f2 f3 : Nat → Int32) (g : Nat → Int64) (th : Int32) (r0 r1 r2 r3 dn ac : Nat → Int32) (sm o : Nat → Int64) (H : Heap) (locs : List Loc) (ls : Array Slot) (hrel : Rel f0 f1 f2 f3 r0 r1 r2 r3 dn ac) (hP : va_P D vwCl (lww x cd f0 f1 f2 f3 g y ce th r0 r1 r2 r3 dn ac sm ow co o) H) (hD : va_D (fun q : Nat => s.heap.size ≤ q) (lww x cd f0 f1 f2 f3 g y ce th r0 r1 r2 r3 dn ac sm ow co o)) (hS : va_S (fun q : Nat => s.heap.size ≤ q) s.heap H locs) (hl : lv_has ls 8 [(0, .ref b), (1, .ref (x 0)), (2, .ref (y 0)), (3, .ref ow), (4, .int (nI (4 * t9)))]) (ik : lwK p l e s m below meth c D b x cd y ce ow co t9) : W p l e room_1 s m #[Value.ref b] below meth c H locs (15 + t9) (782 + 6 * t9) (lw_Z below #[Value.ref b] s) (F0 m 112 ls []) := by
  obtain ⟨hx, hb, hr, hml, hown, hts9, hX, hbl, hlocks, hgv⟩ := C0
  have hts : ∀ w ∈ wA, w.before _ s = true := fun w h => hts9 w (List.mem_filter.mp h).1
  have hA : ∀ q : Nat, s.heap.size ≤ q → (fun q : Nat => s.heap.size ≤ q) q := fun _ h => h
  have hbA : ¬ (fun q : Nat => s.heap.size ≤ q) b := Nat.not_le.mpr hbl
  refine lv_aload_n hx hb dL_law_112 rfl (lv_at hl 1 rfl) ?_
  refine lv_aload_n hx hb dL_law_113 rfl (lv_at hl 0 rfl) ?_
  refine lv_iload hx hb dL_law_114 (lv_at hl 4 rfl) ?_
  refine lv_iconst (v := (1 : Int32)) hx hb dL_law_116 (by decide +kernel) ?_
  refine cx_iadd hx hb (4 * t9) 1 dL_law_117 ?_
  refine cx_sld hx hb hX hbl hbA hS (4 * t9 + 1) (by omega) (by omega) dL_law_118 ?_
  refine lv_aload_n hx hb dL_law_119 rfl (lv_at hl 0 rfl) ?_
  refine lv_iload hx hb dL_law_120 (lv_at hl 4 rfl) ?_
  refine lv_iconst (v := (2 : Int32)) hx hb dL_law_122 (by decide +kernel) ?_
  refine cx_iadd hx hb (4 * t9) 2 dL_law_123 ?_
  refine cx_sld hx hb hX hbl hbA hS (4 * t9 + 2) (by omega) (by omega) dL_law_124 ?_
  have hFc := va_free (wc := cw x cd f0 f1 f2 f3 g) hD hS hA [0, 1, 2, 3, 4, 5] rfl
  have hPc := hP.sub (ws' := cw x cd f0 f1 f2 f3 g) [0, 1, 2, 3, 4, 5] rfl
  have hDc := hD.sub (ws' := cw x cd f0 f1 f2 f3 g) [0, 1, 2, 3, 4, 5] (by decide) rfl
  have hKc := hK.sub (tys' := cty cd) [0, 1, 2, 3, 4] rfl
  refine va_calli (vx_runSW (As := [.ref (x 0), .int (xs (4 * t9 + 1)), .int (xs (4 * t9 + 2))]) (rest := []) ⟨hx, hb, hml, hown, hts⟩ (k_put l hl9 D x cd f0 f1 f2 f3 g (xs (4 * t9 + 1)) (xs (4 * t9 + 2)) _) (vx_cwSW 3 hts (gw_S wm_117 wm_118 wm_11 wm_119) rfl rfl rfl (by decide +kernel) ⟨Nat.le_of_ble_eq_true rfl, Nat.le_of_ble_eq_true rfl⟩) ⟨crw_blind, fun U hU hW => ⟨rfl, crw_at hPc hKc hDc hTb hS hFc hU hW⟩⟩ rfl rfl hl.1 rfl (lv_room (Nat.le_of_ble_eq_true rfl)) dL_law_125 ⟨by have : room_1.cells = 1050 := rfl; omega, by have : room_1.slots = 9040 := rfl; omega⟩) hS (fun q _ h => hFc q h) hFc (fun r_1 u9 t H1 locs ht hvm hw_2 hB hz1 hk1 hS => ?_)
  obtain ⟨u_3, rfl⟩ : ∃ z, z = u9 := ⟨_, rfl⟩
  obtain ⟨hP1, -, hD1⟩ := hB
  rw [ht] at hP1
  obtain ⟨hP, hD⟩ := va_join (wr := mw y ce th r0 r1 r2 r3 dn ac sm ++ [(ow, .inl (co, 1, .inr (.inl o)))]) (w1 := cw x cd u_3 f1 f2 f3 g) hP hD [0, 1, 2, 3, 4, 5] [6, 7, 8, 9, 10, 11, 12, 13, 14] rfl rfl (by decide) (by decide) hk1 hFc hP1 hD1
  have hP : va_P D vwCl (lww x cd u_3 f1 f2 f3 g y ce th r0 r1 r2 r3 dn ac sm ow co o) H1 := hP.sub (ws' := lww x cd u_3 f1 f2 f3 g y ce th r0 r1 r2 r3 dn ac sm ow co o) [9, 10, 11, 12, 13, 14, 0, 1, 2, 3, 4, 5, 6, 7, 8] rfl
  have hD : va_D (fun q : Nat => s.heap.size ≤ q) (lww x cd u_3 f1 f2 f3 g y ce th r0 r1 r2 r3 dn ac sm ow co o) := hD.sub (ws' := lww x cd u_3 f1 f2 f3 g y ce th r0 r1 r2 r3 dn ac sm ow co o) [9, 10, 11, 12, 13, 14, 0, 1, 2, 3, 4, 5, 6, 7, 8] (by decide) rfl
  try dsimp only at hw_2
  clear hFc hPc hDc hKc hP1 hD1 hk1 hz1 ht hvm
  generalize H1 = H at hP hS ⊢
  refine lv_istore (lv' := [(5, .int r_1), (0, .ref b), (1, .ref (x 0)), (2, .ref (y 0)), (3, .ref ow), (4, .int (nI (4 * t9)))]) hx hb dL_law_128 hl (by decide) rfl (fun ls hl => ?_)
  refine lv_aload_n hx hb dL_law_130 rfl (lv_at hl 3 rfl) ?_
  refine lv_aload_n hx hb dL_law_131 rfl (lv_at hl 1 rfl) ?_
  refine lv_iload hx hb dL_law_132 (lv_at hl 5 rfl) ?_
  refine lv_iconst (v := (1 : Int32)) hx hb dL_law_134 (by decide +kernel) ?_
  refine cx_iadd hx hb (4 * t9) 1 dL_law_135 ?_
  refine cx_sld hx hb hX hbl hbA hS (4 * t9 + 1) (by omega) (by omega) dL_law_136 ?_
  refine lv_aload_n hx hb dL_law_137 rfl (lv_at hl 1 rfl) ?_
  refine lv_iload hx hb dL_law_138 (lv_at hl 5 rfl) ?_
  refine lv_iconst (v := (2 : Int32)) hx hb dL_law_140 (by decide +kernel) ?_
  refine cx_iadd hx hb (4 * t9) 2 dL_law_141 ?_
  refine cx_sld hx hb hX hbl hbA hS (4 * t9 + 2) (by omega) (by omega) dL_law_142 ?_
  have hFc := va_free (wc := mw y ce th r0 r1 r2 r3 dn ac sm) hD hS hA [6, 7, 8, 9, 10, 11, 12, 13] rfl
  have hPc := hP.sub (ws' := mw y ce th r0 r1 r2 r3 dn ac sm) [6, 7, 8, 9, 10, 11, 12, 13] rfl
  have hDc := hD.sub (ws' := mw y ce th r0 r1 r2 r3 dn ac sm) [6, 7, 8, 9, 10, 11, 12, 13] (by decide) rfl
  have hKc := hK.sub (tys' := mty ce) [5, 6, 7, 8, 9, 10, 11] rfl
  refine va_callv (va_runV (As := [.int (xs (4 * t9 + 1)), .int (xs (4 * t9 + 2))]) (rest := []) ⟨hx, hb, hml, hown, hts⟩ (n_put l D y ce th r0 r1 r2 r3 dn ac sm (xs (4 * t9 + 1)) (xs (4 * t9 + 2)) _) (cwV 2 hts (gw_V wm_331 wm_332 wm_333 wm_13 wm_334) rfl rfl rfl (by decide +kernel) ⟨Nat.le_of_ble_eq_true rfl, Nat.le_of_ble_eq_true rfl⟩) ⟨crw_blind, va_recv hK hP (ci := 1) (q0 := 6) rfl rfl, fun U hU hW => ⟨rfl, crw_at hPc hKc hDc hTb hS hFc hU hW⟩⟩ rfl rfl hl.1 rfl (lv_room (Nat.le_of_ble_eq_true rfl)) dL_law_143 ⟨by have : room_1.cells = 1050 := rfl; omega, by have : room_1.slots = 9040 := rfl; omega⟩) hS (fun q _ h => hFc q h) hFc (fun u9 t H1 locs ht hvm hw_5 hB hz1 hk1 hS => ?_)
  obtain ⟨t_6, w_7⟩ := u9
  obtain ⟨hP1, -, hD1⟩ := hB
  rw [ht] at hP1
  obtain ⟨hP, hD⟩ := va_join (wr := cw x cd u_3 f1 f2 f3 g ++ [(ow, .inl (co, 1, .inr (.inl o)))]) (w1 := mw y ce t_6 w_7 r1 r2 r3 dn ac sm) hP hD [6, 7, 8, 9, 10, 11, 12, 13] [0, 1, 2, 3, 4, 5, 14] rfl rfl (by decide) (by decide) hk1 hFc hP1 hD1
  have hP : va_P D vwCl (lww x cd u_3 f1 f2 f3 g y ce t_6 w_7 r1 r2 r3 dn ac sm ow co o) H1 := hP.sub (ws' := lww x cd u_3 f1 f2 f3 g y ce t_6 w_7 r1 r2 r3 dn ac sm ow co o) [0, 1, 2, 3, 4, 5, 7, 8, 9, 10, 11, 12, 13, 14, 6] rfl
  have hD : va_D (fun q : Nat => s.heap.size ≤ q) (lww x cd u_3 f1 f2 f3 g y ce t_6 w_7 r1 r2 r3 dn ac sm ow co o) := hD.sub (ws' := lww x cd u_3 f1 f2 f3 g y ce t_6 w_7 r1 r2 r3 dn ac sm ow co o) [0, 1, 2, 3, 4, 5, 7, 8, 9, 10, 11, 12, 13, 14, 6] (by decide) rfl
  try dsimp only at hw_5
  clear hFc hPc hDc hKc hP1 hD1 hk1 hz1 ht hvm
  generalize H1 = H at hP hS ⊢
  obtain ⟨heq, hrel2⟩ := step_put hrel hw_2 hw_5
  refine lv_aload_n hx hb dL_law_146 rfl (lv_at hl 3 rfl) ?_
  refine vp_callSi (W.runV (As := []) (rest := []) ⟨hx, hb, hml, hown, hts⟩ (n_thrown l D y ce t_6 w_7 r1 r2 r3 dn ac sm) (cwV 0 hts (gw_V wm_327 wm_328 wm_329 wm_13 wm_330) rfl rfl rfl (by decide +kernel) ⟨Nat.le_of_ble_eq_true rfl, Nat.le_of_ble_eq_true rfl⟩) ⟨cro_blind, va_recv hK hP (ci := 1) (q0 := 6) rfl rfl, fun U hU hW => ⟨rfl, cro_at (hP.sub (ws' := mw y ce t_6 w_7 r1 r2 r3 dn ac sm) [6, 7, 8, 9, 10, 11, 12, 13] rfl) (hK.sub (tys' := mty ce) [5, 6, 7, 8, 9, 10, 11] rfl) hTb hS hU hW⟩⟩ rfl rfl hl.1 rfl (lv_room (Nat.le_of_ble_eq_true rfl)) dL_law_147 ⟨by have : room_1.cells = 1050 := rfl; omega, by have : room_1.slots = 9040 := rfl; omega⟩) (fun r_8 hr_8 => ?_)
  rw [hr_8]
  refine lv_iload hx hb dL_law_150 (lv_at hl 0 rfl) ?_
  refine cx_icmp_eq (i := t_6.toInt) (j := r_1.toInt) (tgt := 157) hx hb rfl rfl dL_law_152 (by decide) (fun c_9 => ?_) (fun c_9 => absurd c_9 (fun h9 => h9 (by rw [heq])))
  refine lv_goto (tgt := 798) hx hb dL_law_157 (by decide) ?_
  refine W.widen (k := 15 + (t9 + 1)) (n := 782 + 6 * (t9 + 1)) (by omega) (by omega) ?_
  exact ik u_3 f1 f2 f3 g t_6 w_7 r1 r2 r3 dn ac sm o _ _ _ hrel2 hP hD hS (lv_sub hl [1, 2, 3, 4, 5] rfl)
set_option maxHeartbeats 4000000 in
set_option maxRecDepth 100000 in
/-- case 1 of the law -/
theorem law_1 {p : Program} {l : Launch} {e : Env} {s : State} {m : MethodId} {below : List Frame} {meth : Method} {c : Code} {D : va_G} {b L : Nat} {xs : Nat → Int32} (hl9 : l.stackTraces = false) (hL : L ≤ 2048) (C0 : lw_At p s m meth c b L xs) (hTb : cT (fun q : Nat => s.heap.size ≤ q) s s.heap) (x : Nat → Nat) (cd : Nat → ClassId) (y : Nat → Nat) (ce : Nat → ClassId) (ow : Nat) (co : ClassId) (hK : va_K D vwCl (lty cd ce co) s) (t9 : Nat) (hlt : 4 * t9 + 4 ≤ L) (f0 f1 f2 f3 : Nat → Int32) (g : Nat → Int64) (th : Int32) (r0 r1 r2 r3 dn ac : Nat → Int32) (sm o : Nat → Int64) (H : Heap) (locs : List Loc) (ls : Array Slot) (hrel : Rel f0 f1 f2 f3 r0 r1 r2 r3 dn ac) (hP : va_P D vwCl (lww x cd f0 f1 f2 f3 g y ce th r0 r1 r2 r3 dn ac sm ow co o) H) (hD : va_D (fun q : Nat => s.heap.size ≤ q) (lww x cd f0 f1 f2 f3 g y ce th r0 r1 r2 r3 dn ac sm ow co o)) (hS : va_S (fun q : Nat => s.heap.size ≤ q) s.heap H locs) (hl : lv_has ls 8 [(0, .ref b), (1, .ref (x 0)), (2, .ref (y 0)), (3, .ref ow), (4, .int (nI (4 * t9)))]) (ik : lwK p l e s m below meth c D b x cd y ce ow co t9) : W p l e room_1 s m #[Value.ref b] below meth c H locs (15 + t9) (782 + 6 * t9) (lw_Z below #[Value.ref b] s) (F0 m 160 ls []) := by
  obtain ⟨hx, hb, hr, hml, hown, hts9, hX, hbl, hlocks, hgv⟩ := C0
  have hts : ∀ w ∈ wA, w.before _ s = true := fun w h => hts9 w (List.mem_filter.mp h).1
  have hA : ∀ q : Nat, s.heap.size ≤ q → (fun q : Nat => s.heap.size ≤ q) q := fun _ h => h
  have hbA : ¬ (fun q : Nat => s.heap.size ≤ q) b := Nat.not_le.mpr hbl
  refine lv_aload_n hx hb dL_law_160 rfl (lv_at hl 1 rfl) ?_
  refine lv_aload_n hx hb dL_law_161 rfl (lv_at hl 0 rfl) ?_
  refine lv_iload hx hb dL_law_162 (lv_at hl 4 rfl) ?_
  refine lv_iconst (v := (1 : Int32)) hx hb dL_law_164 (by decide +kernel) ?_
  refine cx_iadd hx hb (4 * t9) 1 dL_law_165 ?_
  refine cx_sld hx hb hX hbl hbA hS (4 * t9 + 1) (by omega) (by omega) dL_law_166 ?_
  refine lv_aload_n hx hb dL_law_167 rfl (lv_at hl 0 rfl) ?_
  refine lv_iload hx hb dL_law_168 (lv_at hl 4 rfl) ?_
  refine lv_iconst (v := (2 : Int32)) hx hb dL_law_170 (by decide +kernel) ?_
  refine cx_iadd hx hb (4 * t9) 2 dL_law_171 ?_
  refine cx_sld hx hb hX hbl hbA hS (4 * t9 + 2) (by omega) (by omega) dL_law_172 ?_
  have hFc := va_free (wc := cw x cd f0 f1 f2 f3 g) hD hS hA [0, 1, 2, 3, 4, 5] rfl
  have hPc := hP.sub (ws' := cw x cd f0 f1 f2 f3 g) [0, 1, 2, 3, 4, 5] rfl
  have hDc := hD.sub (ws' := cw x cd f0 f1 f2 f3 g) [0, 1, 2, 3, 4, 5] (by decide) rfl
  have hKc := hK.sub (tys' := cty cd) [0, 1, 2, 3, 4] rfl
  refine va_calli (vx_runSW (As := [.ref (x 0), .int (xs (4 * t9 + 1)), .int (xs (4 * t9 + 2))]) (rest := []) ⟨hx, hb, hml, hown, hts⟩ (k_step l hl9 D x cd f0 f1 f2 f3 g (xs (4 * t9 + 1)) (xs (4 * t9 + 2)) _) (vx_cwSW 3 hts (gw_S wm_212 wm_213 wm_11 wm_214) rfl rfl rfl (by decide +kernel) ⟨Nat.le_of_ble_eq_true rfl, Nat.le_of_ble_eq_true rfl⟩) ⟨crw_blind, fun U hU hW => ⟨rfl, crw_at hPc hKc hDc hTb hS hFc hU hW⟩⟩ rfl rfl hl.1 rfl (lv_room (Nat.le_of_ble_eq_true rfl)) dL_law_173 ⟨by have : room_1.cells = 1050 := rfl; omega, by have : room_1.slots = 9040 := rfl; omega⟩) hS (fun q _ h => hFc q h) hFc (fun r_1 u9 t H1 locs ht hvm hw_2 hB hz1 hk1 hS => ?_)
  obtain ⟨u_3, rfl⟩ : ∃ z, z = u9 := ⟨_, rfl⟩
  obtain ⟨hP1, -, hD1⟩ := hB
  rw [ht] at hP1
  obtain ⟨hP, hD⟩ := va_join (wr := mw y ce th r0 r1 r2 r3 dn ac sm ++ [(ow, .inl (co, 1, .inr (.inl o)))]) (w1 := cw x cd f0 u_3 f2 f3 g) hP hD [0, 1, 2, 3, 4, 5] [6, 7, 8, 9, 10, 11, 12, 13, 14] rfl rfl (by decide) (by decide) hk1 hFc hP1 hD1
  have hP : va_P D vwCl (lww x cd f0 u_3 f2 f3 g y ce th r0 r1 r2 r3 dn ac sm ow co o) H1 := hP.sub (ws' := lww x cd f0 u_3 f2 f3 g y ce th r0 r1 r2 r3 dn ac sm ow co o) [9, 10, 11, 12, 13, 14, 0, 1, 2, 3, 4, 5, 6, 7, 8] rfl
  have hD : va_D (fun q : Nat => s.heap.size ≤ q) (lww x cd f0 u_3 f2 f3 g y ce th r0 r1 r2 r3 dn ac sm ow co o) := hD.sub (ws' := lww x cd f0 u_3 f2 f3 g y ce th r0 r1 r2 r3 dn ac sm ow co o) [9, 10, 11, 12, 13, 14, 0, 1, 2, 3, 4, 5, 6, 7, 8] (by decide) rfl
  try dsimp only at hw_2
  clear hFc hPc hDc hKc hP1 hD1 hk1 hz1 ht hvm
  generalize H1 = H at hP hS ⊢
  refine lv_istore (lv' := [(5, .int r_1), (0, .ref b), (1, .ref (x 0)), (2, .ref (y 0)), (3, .ref ow), (4, .int (nI (4 * t9)))]) hx hb dL_law_176 hl (by decide) rfl (fun ls hl => ?_)
  refine lv_aload_n hx hb dL_law_178 rfl (lv_at hl 3 rfl) ?_
  refine lv_aload_n hx hb dL_law_179 rfl (lv_at hl 1 rfl) ?_
  refine lv_iload hx hb dL_law_180 (lv_at hl 5 rfl) ?_
  refine lv_iconst (v := (1 : Int32)) hx hb dL_law_182 (by decide +kernel) ?_
  refine cx_iadd hx hb (4 * t9) 1 dL_law_183 ?_
  refine cx_sld hx hb hX hbl hbA hS (4 * t9 + 1) (by omega) (by omega) dL_law_184 ?_
  refine lv_aload_n hx hb dL_law_185 rfl (lv_at hl 1 rfl) ?_
  refine lv_iload hx hb dL_law_186 (lv_at hl 5 rfl) ?_
  refine lv_iconst (v := (2 : Int32)) hx hb dL_law_188 (by decide +kernel) ?_
  refine cx_iadd hx hb (4 * t9) 2 dL_law_189 ?_
  refine cx_sld hx hb hX hbl hbA hS (4 * t9 + 2) (by omega) (by omega) dL_law_190 ?_
  have hFc := va_free (wc := mw y ce th r0 r1 r2 r3 dn ac sm) hD hS hA [6, 7, 8, 9, 10, 11, 12, 13] rfl
  have hPc := hP.sub (ws' := mw y ce th r0 r1 r2 r3 dn ac sm) [6, 7, 8, 9, 10, 11, 12, 13] rfl
  have hDc := hD.sub (ws' := mw y ce th r0 r1 r2 r3 dn ac sm) [6, 7, 8, 9, 10, 11, 12, 13] (by decide) rfl
  have hKc := hK.sub (tys' := mty ce) [5, 6, 7, 8, 9, 10, 11] rfl
  refine va_callv (va_runV (As := [.int (xs (4 * t9 + 1)), .int (xs (4 * t9 + 2))]) (rest := []) ⟨hx, hb, hml, hown, hts⟩ (n_step l D y ce th r0 r1 r2 r3 dn ac sm (xs (4 * t9 + 1)) (xs (4 * t9 + 2)) _) (cwV 2 hts (gw_V wm_338 wm_339 wm_340 wm_13 wm_341) rfl rfl rfl (by decide +kernel) ⟨Nat.le_of_ble_eq_true rfl, Nat.le_of_ble_eq_true rfl⟩) ⟨crw_blind, va_recv hK hP (ci := 1) (q0 := 6) rfl rfl, fun U hU hW => ⟨rfl, crw_at hPc hKc hDc hTb hS hFc hU hW⟩⟩ rfl rfl hl.1 rfl (lv_room (Nat.le_of_ble_eq_true rfl)) dL_law_191 ⟨by have : room_1.cells = 1050 := rfl; omega, by have : room_1.slots = 9040 := rfl; omega⟩) hS (fun q _ h => hFc q h) hFc (fun u9 t H1 locs ht hvm hw_5 hB hz1 hk1 hS => ?_)
  obtain ⟨t_6, w_7⟩ := u9
  obtain ⟨hP1, -, hD1⟩ := hB
  rw [ht] at hP1
  obtain ⟨hP, hD⟩ := va_join (wr := cw x cd f0 u_3 f2 f3 g ++ [(ow, .inl (co, 1, .inr (.inl o)))]) (w1 := mw y ce t_6 r0 w_7 r2 r3 dn ac sm) hP hD [6, 7, 8, 9, 10, 11, 12, 13] [0, 1, 2, 3, 4, 5, 14] rfl rfl (by decide) (by decide) hk1 hFc hP1 hD1
  have hP : va_P D vwCl (lww x cd f0 u_3 f2 f3 g y ce t_6 r0 w_7 r2 r3 dn ac sm ow co o) H1 := hP.sub (ws' := lww x cd f0 u_3 f2 f3 g y ce t_6 r0 w_7 r2 r3 dn ac sm ow co o) [0, 1, 2, 3, 4, 5, 7, 8, 9, 10, 11, 12, 13, 14, 6] rfl
  have hD : va_D (fun q : Nat => s.heap.size ≤ q) (lww x cd f0 u_3 f2 f3 g y ce t_6 r0 w_7 r2 r3 dn ac sm ow co o) := hD.sub (ws' := lww x cd f0 u_3 f2 f3 g y ce t_6 r0 w_7 r2 r3 dn ac sm ow co o) [0, 1, 2, 3, 4, 5, 7, 8, 9, 10, 11, 12, 13, 14, 6] (by decide) rfl
  try dsimp only at hw_5
  clear hFc hPc hDc hKc hP1 hD1 hk1 hz1 ht hvm
  generalize H1 = H at hP hS ⊢
  obtain ⟨heq, hrel2⟩ := step_step hrel hw_2 hw_5
  refine lv_aload_n hx hb dL_law_194 rfl (lv_at hl 3 rfl) ?_
  refine vp_callSi (W.runV (As := []) (rest := []) ⟨hx, hb, hml, hown, hts⟩ (n_thrown l D y ce t_6 r0 w_7 r2 r3 dn ac sm) (cwV 0 hts (gw_V wm_327 wm_328 wm_329 wm_13 wm_330) rfl rfl rfl (by decide +kernel) ⟨Nat.le_of_ble_eq_true rfl, Nat.le_of_ble_eq_true rfl⟩) ⟨cro_blind, va_recv hK hP (ci := 1) (q0 := 6) rfl rfl, fun U hU hW => ⟨rfl, cro_at (hP.sub (ws' := mw y ce t_6 r0 w_7 r2 r3 dn ac sm) [6, 7, 8, 9, 10, 11, 12, 13] rfl) (hK.sub (tys' := mty ce) [5, 6, 7, 8, 9, 10, 11] rfl) hTb hS hU hW⟩⟩ rfl rfl hl.1 rfl (lv_room (Nat.le_of_ble_eq_true rfl)) dL_law_195 ⟨by have : room_1.cells = 1050 := rfl; omega, by have : room_1.slots = 9040 := rfl; omega⟩) (fun r_8 hr_8 => ?_)
  rw [hr_8]
  refine lv_iload hx hb dL_law_198 (lv_at hl 0 rfl) ?_
  refine cx_icmp_eq (i := t_6.toInt) (j := r_1.toInt) (tgt := 205) hx hb rfl rfl dL_law_200 (by decide) (fun c_9 => ?_) (fun c_9 => absurd c_9 (fun h9 => h9 (by rw [heq])))
  refine lv_goto (tgt := 798) hx hb dL_law_205 (by decide) ?_
  refine W.widen (k := 15 + (t9 + 1)) (n := 782 + 6 * (t9 + 1)) (by omega) (by omega) ?_
  exact ik f0 u_3 f2 f3 g t_6 r0 w_7 r2 r3 dn ac sm o _ _ _ hrel2 hP hD hS (lv_sub hl [1, 2, 3, 4, 5] rfl)
set_option maxHeartbeats 4000000 in
set_option maxRecDepth 100000 in
/-- case 2 of the law -/
theorem law_2 {p : Program} {l : Launch} {e : Env} {s : State} {m : MethodId} {below : List Frame} {meth : Method} {c : Code} {D : va_G} {b L : Nat} {xs : Nat → Int32} (hl9 : l.stackTraces = false) (hL : L ≤ 2048) (C0 : lw_At p s m meth c b L xs) (hTb : cT (fun q : Nat => s.heap.size ≤ q) s s.heap) (x : Nat → Nat) (cd : Nat → ClassId) (y : Nat → Nat) (ce : Nat → ClassId) (ow : Nat) (co : ClassId) (hK : va_K D vwCl (lty cd ce co) s) (t9 : Nat) (hlt : 4 * t9 + 4 ≤ L) (f0 f1 f2 f3 : Nat → Int32) (g : Nat → Int64) (th : Int32) (r0 r1 r2 r3 dn ac : Nat → Int32) (sm o : Nat → Int64) (H : Heap) (locs : List Loc) (ls : Array Slot) (hrel : Rel f0 f1 f2 f3 r0 r1 r2 r3 dn ac) (hP : va_P D vwCl (lww x cd f0 f1 f2 f3 g y ce th r0 r1 r2 r3 dn ac sm ow co o) H) (hD : va_D (fun q : Nat => s.heap.size ≤ q) (lww x cd f0 f1 f2 f3 g y ce th r0 r1 r2 r3 dn ac sm ow co o)) (hS : va_S (fun q : Nat => s.heap.size ≤ q) s.heap H locs) (hl : lv_has ls 8 [(0, .ref b), (1, .ref (x 0)), (2, .ref (y 0)), (3, .ref ow), (4, .int (nI (4 * t9)))]) (ik : lwK p l e s m below meth c D b x cd y ce ow co t9) : W p l e room_1 s m #[Value.ref b] below meth c H locs (15 + t9) (782 + 6 * t9) (lw_Z below #[Value.ref b] s) (F0 m 208 ls []) := by
  obtain ⟨hx, hb, hr, hml, hown, hts9, hX, hbl, hlocks, hgv⟩ := C0
  have hts : ∀ w ∈ wA, w.before _ s = true := fun w h => hts9 w (List.mem_filter.mp h).1
  have hA : ∀ q : Nat, s.heap.size ≤ q → (fun q : Nat => s.heap.size ≤ q) q := fun _ h => h
  have hbA : ¬ (fun q : Nat => s.heap.size ≤ q) b := Nat.not_le.mpr hbl
  refine lv_aload_n hx hb dL_law_208 rfl (lv_at hl 1 rfl) ?_
  refine lv_aload_n hx hb dL_law_209 rfl (lv_at hl 0 rfl) ?_
  refine lv_iload hx hb dL_law_210 (lv_at hl 4 rfl) ?_
  refine lv_iconst (v := (1 : Int32)) hx hb dL_law_212 (by decide +kernel) ?_
  refine cx_iadd hx hb (4 * t9) 1 dL_law_213 ?_
  refine cx_sld hx hb hX hbl hbA hS (4 * t9 + 1) (by omega) (by omega) dL_law_214 ?_
  refine lv_aload_n hx hb dL_law_215 rfl (lv_at hl 0 rfl) ?_
  refine lv_iload hx hb dL_law_216 (lv_at hl 4 rfl) ?_
  refine lv_iconst (v := (2 : Int32)) hx hb dL_law_218 (by decide +kernel) ?_
  refine cx_iadd hx hb (4 * t9) 2 dL_law_219 ?_
  refine cx_sld hx hb hX hbl hbA hS (4 * t9 + 2) (by omega) (by omega) dL_law_220 ?_
  refine lv_aload_n hx hb dL_law_221 rfl (lv_at hl 0 rfl) ?_
  refine lv_iload hx hb dL_law_222 (lv_at hl 4 rfl) ?_
  refine lv_iconst (v := (3 : Int32)) hx hb dL_law_224 (by decide +kernel) ?_
  refine cx_iadd hx hb (4 * t9) 3 dL_law_225 ?_
  refine cx_sld hx hb hX hbl hbA hS (4 * t9 + 3) (by omega) (by omega) dL_law_226 ?_
  have hFc := va_free (wc := cw x cd f0 f1 f2 f3 g) hD hS hA [0, 1, 2, 3, 4, 5] rfl
  have hPc := hP.sub (ws' := cw x cd f0 f1 f2 f3 g) [0, 1, 2, 3, 4, 5] rfl
  have hDc := hD.sub (ws' := cw x cd f0 f1 f2 f3 g) [0, 1, 2, 3, 4, 5] (by decide) rfl
  have hKc := hK.sub (tys' := cty cd) [0, 1, 2, 3, 4] rfl
  refine va_calli (vx_runSW (As := [.ref (x 0), .int (xs (4 * t9 + 1)), .int (xs (4 * t9 + 2)), .int (xs (4 * t9 + 3))]) (rest := []) ⟨hx, hb, hml, hown, hts⟩ (k_steps l hl9 D x cd f0 f1 f2 f3 g (xs (4 * t9 + 1)) (xs (4 * t9 + 2)) (xs (4 * t9 + 3)) _) (vx_cwSW 4 hts (gw_S wm_220 wm_221 wm_11 wm_222) rfl rfl rfl (by decide +kernel) ⟨Nat.le_of_ble_eq_true rfl, Nat.le_of_ble_eq_true rfl⟩) ⟨crw_blind, fun U hU hW => ⟨rfl, crw_at hPc hKc hDc hTb hS hFc hU hW⟩⟩ rfl rfl hl.1 rfl (lv_room (Nat.le_of_ble_eq_true rfl)) dL_law_227 ⟨by have : room_1.cells = 1050 := rfl; omega, by have : room_1.slots = 9040 := rfl; omega⟩) hS (fun q _ h => hFc q h) hFc (fun r_1 u9 t H1 locs ht hvm hw_2 hB hz1 hk1 hS => ?_)
  obtain ⟨u_3, rfl⟩ : ∃ z, z = u9 := ⟨_, rfl⟩
  obtain ⟨hP1, -, hD1⟩ := hB
  rw [ht] at hP1
  obtain ⟨hP, hD⟩ := va_join (wr := mw y ce th r0 r1 r2 r3 dn ac sm ++ [(ow, .inl (co, 1, .inr (.inl o)))]) (w1 := cw x cd f0 u_3 f2 f3 g) hP hD [0, 1, 2, 3, 4, 5] [6, 7, 8, 9, 10, 11, 12, 13, 14] rfl rfl (by decide) (by decide) hk1 hFc hP1 hD1
  have hP : va_P D vwCl (lww x cd f0 u_3 f2 f3 g y ce th r0 r1 r2 r3 dn ac sm ow co o) H1 := hP.sub (ws' := lww x cd f0 u_3 f2 f3 g y ce th r0 r1 r2 r3 dn ac sm ow co o) [9, 10, 11, 12, 13, 14, 0, 1, 2, 3, 4, 5, 6, 7, 8] rfl
  have hD : va_D (fun q : Nat => s.heap.size ≤ q) (lww x cd f0 u_3 f2 f3 g y ce th r0 r1 r2 r3 dn ac sm ow co o) := hD.sub (ws' := lww x cd f0 u_3 f2 f3 g y ce th r0 r1 r2 r3 dn ac sm ow co o) [9, 10, 11, 12, 13, 14, 0, 1, 2, 3, 4, 5, 6, 7, 8] (by decide) rfl
  try dsimp only at hw_2
  clear hFc hPc hDc hKc hP1 hD1 hk1 hz1 ht hvm
  generalize H1 = H at hP hS ⊢
  refine lv_istore (lv' := [(5, .int r_1), (0, .ref b), (1, .ref (x 0)), (2, .ref (y 0)), (3, .ref ow), (4, .int (nI (4 * t9)))]) hx hb dL_law_230 hl (by decide) rfl (fun ls hl => ?_)
  refine lv_aload_n hx hb dL_law_232 rfl (lv_at hl 3 rfl) ?_
  refine lv_aload_n hx hb dL_law_233 rfl (lv_at hl 1 rfl) ?_
  refine lv_iload hx hb dL_law_234 (lv_at hl 5 rfl) ?_
  refine lv_iconst (v := (1 : Int32)) hx hb dL_law_236 (by decide +kernel) ?_
  refine cx_iadd hx hb (4 * t9) 1 dL_law_237 ?_
  refine cx_sld hx hb hX hbl hbA hS (4 * t9 + 1) (by omega) (by omega) dL_law_238 ?_
  refine lv_aload_n hx hb dL_law_239 rfl (lv_at hl 1 rfl) ?_
  refine lv_iload hx hb dL_law_240 (lv_at hl 5 rfl) ?_
  refine lv_iconst (v := (2 : Int32)) hx hb dL_law_242 (by decide +kernel) ?_
  refine cx_iadd hx hb (4 * t9) 2 dL_law_243 ?_
  refine cx_sld hx hb hX hbl hbA hS (4 * t9 + 2) (by omega) (by omega) dL_law_244 ?_
  refine lv_aload_n hx hb dL_law_245 rfl (lv_at hl 1 rfl) ?_
  refine lv_iload hx hb dL_law_246 (lv_at hl 5 rfl) ?_
  refine lv_iconst (v := (3 : Int32)) hx hb dL_law_248 (by decide +kernel) ?_
  refine cx_iadd hx hb (4 * t9) 3 dL_law_249 ?_
  refine cx_sld hx hb hX hbl hbA hS (4 * t9 + 3) (by omega) (by omega) dL_law_250 ?_
  have hFc := va_free (wc := mw y ce th r0 r1 r2 r3 dn ac sm) hD hS hA [6, 7, 8, 9, 10, 11, 12, 13] rfl
  have hPc := hP.sub (ws' := mw y ce th r0 r1 r2 r3 dn ac sm) [6, 7, 8, 9, 10, 11, 12, 13] rfl
  have hDc := hD.sub (ws' := mw y ce th r0 r1 r2 r3 dn ac sm) [6, 7, 8, 9, 10, 11, 12, 13] (by decide) rfl
  have hKc := hK.sub (tys' := mty ce) [5, 6, 7, 8, 9, 10, 11] rfl
  refine va_callv (va_runV (As := [.int (xs (4 * t9 + 1)), .int (xs (4 * t9 + 2)), .int (xs (4 * t9 + 3))]) (rest := []) ⟨hx, hb, hml, hown, hts⟩ (n_steps l D y ce th r0 r1 r2 r3 dn ac sm hrel.2.2.2.2.2.2.2 (xs (4 * t9 + 1)) (xs (4 * t9 + 2)) (xs (4 * t9 + 3)) _) (cwV 3 hts (gw_V wm_342 wm_343 wm_344 wm_13 wm_345) rfl rfl rfl (by decide +kernel) ⟨Nat.le_of_ble_eq_true rfl, Nat.le_of_ble_eq_true rfl⟩) ⟨crw_blind, va_recv hK hP (ci := 1) (q0 := 6) rfl rfl, fun U hU hW => ⟨rfl, crw_at hPc hKc hDc hTb hS hFc hU hW⟩⟩ rfl rfl hl.1 rfl (lv_room (Nat.le_of_ble_eq_true rfl)) dL_law_251 ⟨by have : room_1.cells = 1050 := rfl; omega, by have : room_1.slots = 9040 := rfl; omega⟩) hS (fun q _ h => hFc q h) hFc (fun u9 t H1 locs ht hvm hw_5 hB hz1 hk1 hS => ?_)
  obtain ⟨t_6, w_7⟩ := u9
  obtain ⟨hP1, -, hD1⟩ := hB
  rw [ht] at hP1
  obtain ⟨hP, hD⟩ := va_join (wr := cw x cd f0 u_3 f2 f3 g ++ [(ow, .inl (co, 1, .inr (.inl o)))]) (w1 := mw y ce t_6 r0 w_7 r2 r3 dn ac sm) hP hD [6, 7, 8, 9, 10, 11, 12, 13] [0, 1, 2, 3, 4, 5, 14] rfl rfl (by decide) (by decide) hk1 hFc hP1 hD1
  have hP : va_P D vwCl (lww x cd f0 u_3 f2 f3 g y ce t_6 r0 w_7 r2 r3 dn ac sm ow co o) H1 := hP.sub (ws' := lww x cd f0 u_3 f2 f3 g y ce t_6 r0 w_7 r2 r3 dn ac sm ow co o) [0, 1, 2, 3, 4, 5, 7, 8, 9, 10, 11, 12, 13, 14, 6] rfl
  have hD : va_D (fun q : Nat => s.heap.size ≤ q) (lww x cd f0 u_3 f2 f3 g y ce t_6 r0 w_7 r2 r3 dn ac sm ow co o) := hD.sub (ws' := lww x cd f0 u_3 f2 f3 g y ce t_6 r0 w_7 r2 r3 dn ac sm ow co o) [0, 1, 2, 3, 4, 5, 7, 8, 9, 10, 11, 12, 13, 14, 6] (by decide) rfl
  try dsimp only at hw_5
  clear hFc hPc hDc hKc hP1 hD1 hk1 hz1 ht hvm
  generalize H1 = H at hP hS ⊢
  obtain ⟨heq, hrel2⟩ := step_steps hrel hw_2 hw_5
  refine lv_aload_n hx hb dL_law_254 rfl (lv_at hl 3 rfl) ?_
  refine vp_callSi (W.runV (As := []) (rest := []) ⟨hx, hb, hml, hown, hts⟩ (n_thrown l D y ce t_6 r0 w_7 r2 r3 dn ac sm) (cwV 0 hts (gw_V wm_327 wm_328 wm_329 wm_13 wm_330) rfl rfl rfl (by decide +kernel) ⟨Nat.le_of_ble_eq_true rfl, Nat.le_of_ble_eq_true rfl⟩) ⟨cro_blind, va_recv hK hP (ci := 1) (q0 := 6) rfl rfl, fun U hU hW => ⟨rfl, cro_at (hP.sub (ws' := mw y ce t_6 r0 w_7 r2 r3 dn ac sm) [6, 7, 8, 9, 10, 11, 12, 13] rfl) (hK.sub (tys' := mty ce) [5, 6, 7, 8, 9, 10, 11] rfl) hTb hS hU hW⟩⟩ rfl rfl hl.1 rfl (lv_room (Nat.le_of_ble_eq_true rfl)) dL_law_255 ⟨by have : room_1.cells = 1050 := rfl; omega, by have : room_1.slots = 9040 := rfl; omega⟩) (fun r_8 hr_8 => ?_)
  rw [hr_8]
  refine lv_iload hx hb dL_law_258 (lv_at hl 0 rfl) ?_
  refine cx_icmp_eq (i := t_6.toInt) (j := r_1.toInt) (tgt := 265) hx hb rfl rfl dL_law_260 (by decide) (fun c_9 => ?_) (fun c_9 => absurd c_9 (fun h9 => h9 (by rw [heq])))
  refine lv_goto (tgt := 798) hx hb dL_law_265 (by decide) ?_
  refine W.widen (k := 15 + (t9 + 1)) (n := 782 + 6 * (t9 + 1)) (by omega) (by omega) ?_
  exact ik f0 u_3 f2 f3 g t_6 r0 w_7 r2 r3 dn ac sm o _ _ _ hrel2 hP hD hS (lv_sub hl [1, 2, 3, 4, 5] rfl)
set_option maxHeartbeats 4000000 in
set_option maxRecDepth 100000 in
/-- case 3 of the law -/
theorem law_3 {p : Program} {l : Launch} {e : Env} {s : State} {m : MethodId} {below : List Frame} {meth : Method} {c : Code} {D : va_G} {b L : Nat} {xs : Nat → Int32} (hl9 : l.stackTraces = false) (hL : L ≤ 2048) (C0 : lw_At p s m meth c b L xs) (hTb : cT (fun q : Nat => s.heap.size ≤ q) s s.heap) (x : Nat → Nat) (cd : Nat → ClassId) (y : Nat → Nat) (ce : Nat → ClassId) (ow : Nat) (co : ClassId) (hK : va_K D vwCl (lty cd ce co) s) (t9 : Nat) (hlt : 4 * t9 + 4 ≤ L) (f0 f1 f2 f3 : Nat → Int32) (g : Nat → Int64) (th : Int32) (r0 r1 r2 r3 dn ac : Nat → Int32) (sm o : Nat → Int64) (H : Heap) (locs : List Loc) (ls : Array Slot) (hrel : Rel f0 f1 f2 f3 r0 r1 r2 r3 dn ac) (hP : va_P D vwCl (lww x cd f0 f1 f2 f3 g y ce th r0 r1 r2 r3 dn ac sm ow co o) H) (hD : va_D (fun q : Nat => s.heap.size ≤ q) (lww x cd f0 f1 f2 f3 g y ce th r0 r1 r2 r3 dn ac sm ow co o)) (hS : va_S (fun q : Nat => s.heap.size ≤ q) s.heap H locs) (hl : lv_has ls 8 [(0, .ref b), (1, .ref (x 0)), (2, .ref (y 0)), (3, .ref ow), (4, .int (nI (4 * t9)))]) (ik : lwK p l e s m below meth c D b x cd y ce ow co t9) : W p l e room_1 s m #[Value.ref b] below meth c H locs (15 + t9) (782 + 6 * t9) (lw_Z below #[Value.ref b] s) (F0 m 268 ls []) := by
  obtain ⟨hx, hb, hr, hml, hown, hts9, hX, hbl, hlocks, hgv⟩ := C0
  have hts : ∀ w ∈ wA, w.before _ s = true := fun w h => hts9 w (List.mem_filter.mp h).1
  have hA : ∀ q : Nat, s.heap.size ≤ q → (fun q : Nat => s.heap.size ≤ q) q := fun _ h => h
  have hbA : ¬ (fun q : Nat => s.heap.size ≤ q) b := Nat.not_le.mpr hbl
  refine lv_aload_n hx hb dL_law_268 rfl (lv_at hl 1 rfl) ?_
  refine lv_aload_n hx hb dL_law_269 rfl (lv_at hl 0 rfl) ?_
  refine lv_iload hx hb dL_law_270 (lv_at hl 4 rfl) ?_
  refine lv_iconst (v := (1 : Int32)) hx hb dL_law_272 (by decide +kernel) ?_
  refine cx_iadd hx hb (4 * t9) 1 dL_law_273 ?_
  refine cx_sld hx hb hX hbl hbA hS (4 * t9 + 1) (by omega) (by omega) dL_law_274 ?_
  refine lv_aload_n hx hb dL_law_275 rfl (lv_at hl 0 rfl) ?_
  refine lv_iload hx hb dL_law_276 (lv_at hl 4 rfl) ?_
  refine lv_iconst (v := (2 : Int32)) hx hb dL_law_278 (by decide +kernel) ?_
  refine cx_iadd hx hb (4 * t9) 2 dL_law_279 ?_
  refine cx_sld hx hb hX hbl hbA hS (4 * t9 + 2) (by omega) (by omega) dL_law_280 ?_
  refine lv_i2l hx hb dL_law_281 rfl ?_
  refine lv_bipush (v := (32 : Int32)) hx hb dL_law_282 (by decide +kernel) ?_
  refine lv_lshl hx hb dL_law_284 rfl ?_
  refine lv_aload_n hx hb dL_law_285 rfl (lv_at hl 0 rfl) ?_
  refine lv_iload hx hb dL_law_286 (lv_at hl 4 rfl) ?_
  refine lv_iconst (v := (3 : Int32)) hx hb dL_law_288 (by decide +kernel) ?_
  refine cx_iadd hx hb (4 * t9) 3 dL_law_289 ?_
  refine cx_sld hx hb hX hbl hbA hS (4 * t9 + 3) (by omega) (by omega) dL_law_290 ?_
  refine lv_i2l hx hb dL_law_291 rfl ?_
  refine lv_ldc2 (v := (4294967295 : Int64)) hx hb hown (hts _ wm_421) dL_law_292 ?_
  refine lv_land hx hb dL_law_295 ?_
  refine lv_lor hx hb dL_law_296 ?_
  have hFc := va_free (wc := cw x cd f0 f1 f2 f3 g) hD hS hA [0, 1, 2, 3, 4, 5] rfl
  have hPc := hP.sub (ws' := cw x cd f0 f1 f2 f3 g) [0, 1, 2, 3, 4, 5] rfl
  have hDc := hD.sub (ws' := cw x cd f0 f1 f2 f3 g) [0, 1, 2, 3, 4, 5] (by decide) rfl
  have hKc := hK.sub (tys' := cty cd) [0, 1, 2, 3, 4] rfl
  refine va_calli (vx_runSW (As := [.ref (x 0), .int (xs (4 * t9 + 1)), .long ((((xs (4 * t9 + 2)).toInt64) <<< ((32 : Int32).toInt64 &&& 63)) ||| (((xs (4 * t9 + 3)).toInt64) &&& (4294967295 : Int64)))]) (rest := []) ⟨hx, hb, hml, hown, hts⟩ (k_row l hl9 D x cd f0 f1 f2 f3 g (xs (4 * t9 + 1)) ((((xs (4 * t9 + 2)).toInt64) <<< ((32 : Int32).toInt64 &&& 63)) ||| (((xs (4 * t9 + 3)).toInt64) &&& (4294967295 : Int64))) _) (vx_cwSW 3 hts (gw_S wm_231 wm_232 wm_11 wm_233) rfl rfl rfl (by decide +kernel) ⟨Nat.le_of_ble_eq_true rfl, Nat.le_of_ble_eq_true rfl⟩) ⟨crw_blind, fun U hU hW => ⟨rfl, crw_at hPc hKc hDc hTb hS hFc hU hW⟩⟩ rfl rfl hl.1 rfl (lv_room (Nat.le_of_ble_eq_true rfl)) dL_law_297 ⟨by have : room_1.cells = 1050 := rfl; omega, by have : room_1.slots = 9040 := rfl; omega⟩) hS (fun q _ h => hFc q h) hFc (fun r_1 u9 t H1 locs ht hvm hw_2 hB hz1 hk1 hS => ?_)
  obtain ⟨u_3, rfl⟩ : ∃ z, z = u9 := ⟨_, rfl⟩
  obtain ⟨hP1, -, hD1⟩ := hB
  rw [ht] at hP1
  obtain ⟨hP, hD⟩ := va_join (wr := mw y ce th r0 r1 r2 r3 dn ac sm ++ [(ow, .inl (co, 1, .inr (.inl o)))]) (w1 := cw x cd f0 f1 u_3 f3 g) hP hD [0, 1, 2, 3, 4, 5] [6, 7, 8, 9, 10, 11, 12, 13, 14] rfl rfl (by decide) (by decide) hk1 hFc hP1 hD1
  have hP : va_P D vwCl (lww x cd f0 f1 u_3 f3 g y ce th r0 r1 r2 r3 dn ac sm ow co o) H1 := hP.sub (ws' := lww x cd f0 f1 u_3 f3 g y ce th r0 r1 r2 r3 dn ac sm ow co o) [9, 10, 11, 12, 13, 14, 0, 1, 2, 3, 4, 5, 6, 7, 8] rfl
  have hD : va_D (fun q : Nat => s.heap.size ≤ q) (lww x cd f0 f1 u_3 f3 g y ce th r0 r1 r2 r3 dn ac sm ow co o) := hD.sub (ws' := lww x cd f0 f1 u_3 f3 g y ce th r0 r1 r2 r3 dn ac sm ow co o) [9, 10, 11, 12, 13, 14, 0, 1, 2, 3, 4, 5, 6, 7, 8] (by decide) rfl
  try dsimp only at hw_2
  clear hFc hPc hDc hKc hP1 hD1 hk1 hz1 ht hvm
  generalize H1 = H at hP hS ⊢
  refine lv_istore (lv' := [(5, .int r_1), (0, .ref b), (1, .ref (x 0)), (2, .ref (y 0)), (3, .ref ow), (4, .int (nI (4 * t9)))]) hx hb dL_law_300 hl (by decide) rfl (fun ls hl => ?_)
  refine lv_aload_n hx hb dL_law_302 rfl (lv_at hl 3 rfl) ?_
  refine lv_aload_n hx hb dL_law_303 rfl (lv_at hl 1 rfl) ?_
  refine lv_iload hx hb dL_law_304 (lv_at hl 5 rfl) ?_
  refine lv_iconst (v := (1 : Int32)) hx hb dL_law_306 (by decide +kernel) ?_
  refine cx_iadd hx hb (4 * t9) 1 dL_law_307 ?_
  refine cx_sld hx hb hX hbl hbA hS (4 * t9 + 1) (by omega) (by omega) dL_law_308 ?_
  refine lv_aload_n hx hb dL_law_309 rfl (lv_at hl 1 rfl) ?_
  refine lv_iload hx hb dL_law_310 (lv_at hl 5 rfl) ?_
  refine lv_iconst (v := (2 : Int32)) hx hb dL_law_312 (by decide +kernel) ?_
  refine cx_iadd hx hb (4 * t9) 2 dL_law_313 ?_
  refine cx_sld hx hb hX hbl hbA hS (4 * t9 + 2) (by omega) (by omega) dL_law_314 ?_
  refine lv_i2l hx hb dL_law_315 rfl ?_
  refine lv_bipush (v := (32 : Int32)) hx hb dL_law_316 (by decide +kernel) ?_
  refine lv_lshl hx hb dL_law_318 rfl ?_
  refine lv_aload_n hx hb dL_law_319 rfl (lv_at hl 1 rfl) ?_
  refine lv_iload hx hb dL_law_320 (lv_at hl 5 rfl) ?_
  refine lv_iconst (v := (3 : Int32)) hx hb dL_law_322 (by decide +kernel) ?_
  refine cx_iadd hx hb (4 * t9) 3 dL_law_323 ?_
  refine cx_sld hx hb hX hbl hbA hS (4 * t9 + 3) (by omega) (by omega) dL_law_324 ?_
  refine lv_i2l hx hb dL_law_325 rfl ?_
  refine lv_ldc2 (v := (4294967295 : Int64)) hx hb hown (hts _ wm_421) dL_law_326 ?_
  refine lv_land hx hb dL_law_329 ?_
  refine lv_lor hx hb dL_law_330 ?_
  have hFc := va_free (wc := mw y ce th r0 r1 r2 r3 dn ac sm) hD hS hA [6, 7, 8, 9, 10, 11, 12, 13] rfl
  have hPc := hP.sub (ws' := mw y ce th r0 r1 r2 r3 dn ac sm) [6, 7, 8, 9, 10, 11, 12, 13] rfl
  have hDc := hD.sub (ws' := mw y ce th r0 r1 r2 r3 dn ac sm) [6, 7, 8, 9, 10, 11, 12, 13] (by decide) rfl
  have hKc := hK.sub (tys' := mty ce) [5, 6, 7, 8, 9, 10, 11] rfl
  refine va_callv (va_runV (As := [.int (xs (4 * t9 + 1)), .long ((((xs (4 * t9 + 2)).toInt64) <<< ((32 : Int32).toInt64 &&& 63)) ||| (((xs (4 * t9 + 3)).toInt64) &&& (4294967295 : Int64)))]) (rest := []) ⟨hx, hb, hml, hown, hts⟩ (n_row l D y ce th r0 r1 r2 r3 dn ac sm (xs (4 * t9 + 1)) ((((xs (4 * t9 + 2)).toInt64) <<< ((32 : Int32).toInt64 &&& 63)) ||| (((xs (4 * t9 + 3)).toInt64) &&& (4294967295 : Int64))) _) (cwV 2 hts (gw_V wm_346 wm_347 wm_348 wm_13 wm_349) rfl rfl rfl (by decide +kernel) ⟨Nat.le_of_ble_eq_true rfl, Nat.le_of_ble_eq_true rfl⟩) ⟨crw_blind, va_recv hK hP (ci := 1) (q0 := 6) rfl rfl, fun U hU hW => ⟨rfl, crw_at hPc hKc hDc hTb hS hFc hU hW⟩⟩ rfl rfl hl.1 rfl (lv_room (Nat.le_of_ble_eq_true rfl)) dL_law_331 ⟨by have : room_1.cells = 1050 := rfl; omega, by have : room_1.slots = 9040 := rfl; omega⟩) hS (fun q _ h => hFc q h) hFc (fun u9 t H1 locs ht hvm hw_5 hB hz1 hk1 hS => ?_)
  obtain ⟨t_6, w_7⟩ := u9
  obtain ⟨hP1, -, hD1⟩ := hB
  rw [ht] at hP1
  obtain ⟨hP, hD⟩ := va_join (wr := cw x cd f0 f1 u_3 f3 g ++ [(ow, .inl (co, 1, .inr (.inl o)))]) (w1 := mw y ce t_6 r0 r1 w_7 r3 dn ac sm) hP hD [6, 7, 8, 9, 10, 11, 12, 13] [0, 1, 2, 3, 4, 5, 14] rfl rfl (by decide) (by decide) hk1 hFc hP1 hD1
  have hP : va_P D vwCl (lww x cd f0 f1 u_3 f3 g y ce t_6 r0 r1 w_7 r3 dn ac sm ow co o) H1 := hP.sub (ws' := lww x cd f0 f1 u_3 f3 g y ce t_6 r0 r1 w_7 r3 dn ac sm ow co o) [0, 1, 2, 3, 4, 5, 7, 8, 9, 10, 11, 12, 13, 14, 6] rfl
  have hD : va_D (fun q : Nat => s.heap.size ≤ q) (lww x cd f0 f1 u_3 f3 g y ce t_6 r0 r1 w_7 r3 dn ac sm ow co o) := hD.sub (ws' := lww x cd f0 f1 u_3 f3 g y ce t_6 r0 r1 w_7 r3 dn ac sm ow co o) [0, 1, 2, 3, 4, 5, 7, 8, 9, 10, 11, 12, 13, 14, 6] (by decide) rfl
  try dsimp only at hw_5
  clear hFc hPc hDc hKc hP1 hD1 hk1 hz1 ht hvm
  generalize H1 = H at hP hS ⊢
  obtain ⟨heq, hrel2⟩ := step_row hrel hw_2 hw_5
  refine lv_aload_n hx hb dL_law_334 rfl (lv_at hl 3 rfl) ?_
  refine vp_callSi (W.runV (As := []) (rest := []) ⟨hx, hb, hml, hown, hts⟩ (n_thrown l D y ce t_6 r0 r1 w_7 r3 dn ac sm) (cwV 0 hts (gw_V wm_327 wm_328 wm_329 wm_13 wm_330) rfl rfl rfl (by decide +kernel) ⟨Nat.le_of_ble_eq_true rfl, Nat.le_of_ble_eq_true rfl⟩) ⟨cro_blind, va_recv hK hP (ci := 1) (q0 := 6) rfl rfl, fun U hU hW => ⟨rfl, cro_at (hP.sub (ws' := mw y ce t_6 r0 r1 w_7 r3 dn ac sm) [6, 7, 8, 9, 10, 11, 12, 13] rfl) (hK.sub (tys' := mty ce) [5, 6, 7, 8, 9, 10, 11] rfl) hTb hS hU hW⟩⟩ rfl rfl hl.1 rfl (lv_room (Nat.le_of_ble_eq_true rfl)) dL_law_335 ⟨by have : room_1.cells = 1050 := rfl; omega, by have : room_1.slots = 9040 := rfl; omega⟩) (fun r_8 hr_8 => ?_)
  rw [hr_8]
  refine lv_iload hx hb dL_law_338 (lv_at hl 0 rfl) ?_
  refine cx_icmp_eq (i := t_6.toInt) (j := r_1.toInt) (tgt := 345) hx hb rfl rfl dL_law_340 (by decide) (fun c_9 => ?_) (fun c_9 => absurd c_9 (fun h9 => h9 (by rw [heq])))
  refine lv_goto (tgt := 798) hx hb dL_law_345 (by decide) ?_
  refine W.widen (k := 15 + (t9 + 1)) (n := 782 + 6 * (t9 + 1)) (by omega) (by omega) ?_
  exact ik f0 f1 u_3 f3 g t_6 r0 r1 w_7 r3 dn ac sm o _ _ _ hrel2 hP hD hS (lv_sub hl [1, 2, 3, 4, 5] rfl)
