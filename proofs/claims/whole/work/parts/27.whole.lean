theorem rel_new {f1 r1 dn ac : Nat → Int32} (hf : ∀ j, j < 64 → f1 j = 1) (hr : ∀ j, j < 64 → r1 j = 1) (hd : dnOk dn ac) : Rel (fun _ => 0) f1 (fun _ => 0) (fun _ => 0) (fun _ => 0) r1 (fun _ => 0) (fun _ => 0) dn ac := ⟨fun _ _ => rfl, fun j hj => by rw [hr j hj, hf _ (cCn_lt j hj)], fun _ _ => rfl, fun _ _ => rfl, fun _ _ => ⟨show (-32768 : Int) ≤ (0 : Int32).toInt by decide, show (0 : Int32).toInt ≤ 32767 by decide⟩, fun j hj => by rw [hf j hj]; decide, fun _ _ => ⟨show (0 : Int) ≤ (0 : Int32).toInt by decide, show (0 : Int32).toInt ≤ 255 by decide⟩, hd⟩
theorem gw_I {c : Cond} (h : c ∈ wA) : GoodIn wA (c :: wA) := wA_good (fun w hw => (List.mem_cons.mp hw).elim (fun e => by rw [e]; exact h) (fun q => q))
set_option maxHeartbeats 4000000 in
set_option maxRecDepth 100000 in
/-- the law, from its entry -/
theorem whole_start {p : Program} {e : Env} {s : State} {m : MethodId} {below : List Frame} {meth : Method} {c : Code} (l : Launch) (hl9 : l.stackTraces = false) {b L : Nat} {xs : Nat → Int32} (hL : L ≤ 2048) (C0 : lw_At p s m meth c b L xs) : W p l e room_1 s m #[Value.ref b] below meth c s.heap [] 0 0 (lw_Z below #[Value.ref b] s) (entryFrame m ([Value.ref b] : List Value).toArray 8) := by
  have hTb := cT_start C0
  obtain ⟨hx, hb, hr, hml, hown, hts9, hX, hbl, hlocks, hgv⟩ := id C0
  have hts : ∀ w ∈ wA, w.before _ s = true := fun w h => hts9 w (List.mem_filter.mp h).1
  have hA : ∀ q : Nat, s.heap.size ≤ q → (fun q : Nat => s.heap.size ≤ q) q := fun _ h => h
  obtain ⟨c0, iS0, hKn0⟩ := u_known (C := RX0) (T := TX0) (N := 5) (n := 5) hts inA0 (hts _ wm_21)
  obtain ⟨c1, iS1, hKn1⟩ := u_known (C := RX1) (T := TX1) (N := 8) (n := 8) hts inA1 (hts _ wm_297)
  obtain ⟨dC, dI, hKc⟩ : ∃ (dC : Nat → ClassId) (dI : Nat → Nat → Nat), ∀ (k : Nat) (q : vw_C), vwCl[k]? = some q → u_Kn s q.1 q.2.1 q.2.2 (dC k) (dI k) := by
    refine ⟨fun k => if k = 0 then c0 else c1, fun k => if k = 0 then iS0 else iS1, ?_⟩
    intro k q hq
    match k, hq with
    | 0, hq => cases hq; exact hKn0
    | 1, hq => cases hq; exact hKn1
    | k + 2, hq => simp [vwCl] at hq
  obtain ⟨D, hDe⟩ : ∃ D : va_G, D = (dC, dI) := ⟨_, rfl⟩
  have hS : va_S (fun q : Nat => s.heap.size ≤ q) s.heap s.heap [] := va_S.rf
  have hK : va_K D vwCl [] s := by rw [hDe]; exact ⟨hKc, fun k q h => by simp at h⟩
  have hP : va_P D vwCl [] s.heap := fun k q h => by simp at h
  have hD : va_D (fun q : Nat => s.heap.size ≤ q) [] := ⟨fun i j p q h => by simp at h, fun k q h => by simp at h⟩
  have hl := lv_entry ([.ref b]) (n := 8) (Nat.le_of_ble_eq_true rfl)
  rw [lg_entry_eq]
  generalize (lg_sl ([.ref b]) ++ List.replicate (8 - (lg_sl ([.ref b])).length) Slot.unset).toArray = ls at hl ⊢
  have hl : lv_has ls 8 [(0, .ref b)] := hl
  refine va_new (ci := 0) (fs := [.null, .null, .null, .null, .null]) (C := RX0) (T := TX0) (N := 5) hx hb hts inA0 tyX0 tyX0_ok hown (hts _ wm_20) (hts _ wm_21) (hts _ wm_12) hK hP hD hS hA rfl (fun j hj => by rcases (show j = 0 ∨ j = 1 ∨ j = 2 ∨ j = 3 ∨ j = 4 by omega) with rfl | rfl | rfl | rfl | rfl <;> rfl) (by have : room_1.cells = 1050 := rfl; omega) (by have : room_1.slots = 9040 := rfl; omega) dL_law_0 (fun q0 H hP hD hS => ?_)
  have hP : va_P D vwCl ([(q0, .inr (0, [.null, .null, .null, .null, .null]))]) H := hP
  have hD : va_D (fun q : Nat => s.heap.size ≤ q) ([(q0, .inr (0, [.null, .null, .null, .null, .null]))]) := hD
  refine lv_dup hx hb dL_law_3 rfl ?_
  have hFc := va_free (wc := [(q0, .inr (0, [.null, .null, .null, .null, .null]))]) hD hS hA [0] rfl
  have hPc := hP.sub (ws' := [(q0, .inr (0, [.null, .null, .null, .null, .null]))]) [0] rfl
  have hDc := hD.sub (ws' := [(q0, .inr (0, [.null, .null, .null, .null, .null]))]) [0] (by decide) rfl
  have hKc2 := hK.sub (tys' := []) [] rfl
  refine va_callv (va_runI (As := []) (rest := [.ref q0]) ⟨hx, hb, hml, hown, hts⟩ (m_init l D q0 H.size) (cwI 0 hts (gw_I wm_24) rfl rfl rfl (hts _ wm_12) (hts _ wm_22) (hts _ wm_23) rfl (by decide +kernel) ⟨Nat.le_of_ble_eq_true rfl, Nat.le_of_ble_eq_true rfl⟩) ⟨crw_blind, fun U hU hW => ⟨rfl, crw_at hPc hKc2 hDc hTb hS hFc hU hW⟩⟩ rfl rfl hl.1 rfl (lv_room (Nat.le_of_ble_eq_true rfl)) dL_law_4 ⟨Nat.le_of_ble_eq_true rfl, Nat.le_of_ble_eq_true rfl⟩) hS (fun q _ h => hFc q h) hFc (fun u9 t H1 locs ht hvm hw hB hz1 hk1 hS => ?_)
  obtain ⟨hP1, hK1, hD1⟩ := hB
  rw [ht] at hP1
  have hK1 := va_K.moved hvm.symm hK1
  try dsimp only at hw hP1 hK1 hD1
  obtain ⟨x, cd, f1⟩ := u9
  obtain ⟨hx0, hf1⟩ := hw
  obtain ⟨hP, hD⟩ := va_join (wr := []) (w1 := cw x cd (fun _ => 0) f1 (fun _ => 0) (fun _ => 0) (fun _ => 0)) hP hD [0] [] rfl rfl (by decide) (by decide) hk1 hFc hP1 hD1
  have hP : va_P D vwCl (cw x cd (fun _ => 0) f1 (fun _ => 0) (fun _ => 0) (fun _ => 0)) H1 := hP
  have hD : va_D (fun q : Nat => s.heap.size ≤ q) (cw x cd (fun _ => 0) f1 (fun _ => 0) (fun _ => 0) (fun _ => 0)) := hD
  have hK : va_K D vwCl (cty cd) s := hK1
  rw [← show x 0 = q0 from hx0]
  clear hFc hPc hDc hKc2 hP1 hD1 hK1 hk1 hz1 ht hvm hx0
  generalize H1 = H at hP hS ⊢
  refine lv_astore_n (lv' := [(1, .ref (x 0)), (0, .ref b)]) hx hb dL_law_7 rfl hl (by decide) rfl (fun ls hl => ?_)
  refine va_new (ci := 1) (fs := [.int 0, .null, .null, .null, .null, .null, .null, .null]) (C := RX1) (T := TX1) (N := 8) hx hb hts inA1 tyX1 tyX1_ok hown (hts _ wm_296) (hts _ wm_297) (hts _ wm_13) hK hP hD hS hA rfl (fun j hj => by rcases (show j = 0 ∨ j = 1 ∨ j = 2 ∨ j = 3 ∨ j = 4 ∨ j = 5 ∨ j = 6 ∨ j = 7 by omega) with rfl | rfl | rfl | rfl | rfl | rfl | rfl | rfl <;> rfl) (by have : room_1.cells = 1050 := rfl; omega) (by have : room_1.slots = 9040 := rfl; omega) dL_law_8 (fun q1 H hP hD hS => ?_)
  have hP : va_P D vwCl (cw x cd (fun _ => 0) f1 (fun _ => 0) (fun _ => 0) (fun _ => 0) ++ [(q1, .inr (1, [.int 0, .null, .null, .null, .null, .null, .null, .null]))]) H := hP
  have hD : va_D (fun q : Nat => s.heap.size ≤ q) (cw x cd (fun _ => 0) f1 (fun _ => 0) (fun _ => 0) (fun _ => 0) ++ [(q1, .inr (1, [.int 0, .null, .null, .null, .null, .null, .null, .null]))]) := hD
  refine lv_dup hx hb dL_law_11 rfl ?_
  have hFc := va_free (wc := [(q1, .inr (1, [.int (0 : Int32), .null, .null, .null, .null, .null, .null, .null]))]) hD hS hA [6] rfl
  have hPc := hP.sub (ws' := [(q1, .inr (1, [.int (0 : Int32), .null, .null, .null, .null, .null, .null, .null]))]) [6] rfl
  have hDc := hD.sub (ws' := [(q1, .inr (1, [.int (0 : Int32), .null, .null, .null, .null, .null, .null, .null]))]) [6] (by decide) rfl
  have hKc2 := hK.sub (tys' := []) [] rfl
  refine va_callv (va_runI (As := []) (rest := [.ref q1]) ⟨hx, hb, hml, hown, hts⟩ (n_init l D q1 H.size) (cwI 0 hts (gw_I wm_300) rfl rfl rfl (hts _ wm_13) (hts _ wm_298) (hts _ wm_299) rfl (by decide +kernel) ⟨Nat.le_of_ble_eq_true rfl, Nat.le_of_ble_eq_true rfl⟩) ⟨crw_blind, fun U hU hW => ⟨rfl, crw_at hPc hKc2 hDc hTb hS hFc hU hW⟩⟩ rfl rfl hl.1 rfl (lv_room (Nat.le_of_ble_eq_true rfl)) dL_law_12 ⟨Nat.le_of_ble_eq_true rfl, Nat.le_of_ble_eq_true rfl⟩) hS (fun q _ h => hFc q h) hFc (fun u9 t H1 locs ht hvm hw hB hz1 hk1 hS => ?_)
  obtain ⟨hP1, hK1, hD1⟩ := hB
  rw [ht] at hP1
  have hK1 := va_K.moved hvm.symm hK1
  try dsimp only at hw hP1 hK1 hD1
  obtain ⟨y, ce, r1, dn, ac⟩ := u9
  obtain ⟨hy0, hr1, hdn⟩ := hw
  obtain ⟨hP, hD⟩ := va_join (wr := cw x cd (fun _ => 0) f1 (fun _ => 0) (fun _ => 0) (fun _ => 0)) (w1 := mw y ce 0 (fun _ => 0) r1 (fun _ => 0) (fun _ => 0) dn ac (fun _ => 0)) hP hD [6] [0, 1, 2, 3, 4, 5] rfl rfl (by decide) (by decide) hk1 hFc hP1 hD1
  have hP : va_P D vwCl (cw x cd (fun _ => 0) f1 (fun _ => 0) (fun _ => 0) (fun _ => 0) ++ mw y ce 0 (fun _ => 0) r1 (fun _ => 0) (fun _ => 0) dn ac (fun _ => 0)) H1 := hP
  have hD : va_D (fun q : Nat => s.heap.size ≤ q) (cw x cd (fun _ => 0) f1 (fun _ => 0) (fun _ => 0) (fun _ => 0) ++ mw y ce 0 (fun _ => 0) r1 (fun _ => 0) (fun _ => 0) dn ac (fun _ => 0)) := hD
  have hK : va_K D vwCl (cty cd ++ mty ce) s := hK.app hK1
  rw [← show y 0 = q1 from hy0]
  clear hFc hPc hDc hKc2 hP1 hD1 hK1 hk1 hz1 ht hvm hy0
  generalize H1 = H at hP hS ⊢
  refine lv_astore_n (lv' := [(2, .ref (y 0)), (1, .ref (x 0)), (0, .ref b)]) hx hb dL_law_15 rfl hl (by decide) rfl (fun ls hl => ?_)
  refine lv_iconst (v := (1 : Int32)) hx hb dL_law_16 (by decide +kernel) ?_
  refine va_newa (atype := .long) (ty := .long) (N' := 1) (a0 := (1, .inr (.inl (fun _ => 0)))) hx hb (hts _ wm_45) rfl hK hP hD hS hA (fun cA => rfl) (by decide) (by decide) (by decide) (by have : room_1.cells = 1050 := rfl; omega) (by have : room_1.slots = 9040 := rfl; omega) dL_law_17 (fun ow co H hK hP hD hS => ?_)
  have hP : va_P D vwCl (lww x cd (fun _ => 0) f1 (fun _ => 0) (fun _ => 0) (fun _ => 0) y ce 0 (fun _ => 0) r1 (fun _ => 0) (fun _ => 0) dn ac (fun _ => 0) ow co (fun _ => 0)) H := hP
  have hD : va_D (fun q : Nat => s.heap.size ≤ q) (lww x cd (fun _ => 0) f1 (fun _ => 0) (fun _ => 0) (fun _ => 0) y ce 0 (fun _ => 0) r1 (fun _ => 0) (fun _ => 0) dn ac (fun _ => 0) ow co (fun _ => 0)) := hD
  have hK : va_K D vwCl (lty cd ce co) s := hK
  refine lv_astore_n (lv' := [(3, .ref ow), (2, .ref (y 0)), (1, .ref (x 0)), (0, .ref b)]) hx hb dL_law_19 rfl hl (by decide) rfl (fun ls hl => ?_)
  refine lv_iconst (v := (0 : Int32)) hx hb dL_law_20 (by decide +kernel) ?_
  refine lv_istore (lv' := [(4, .int (0 : Int32)), (3, .ref ow), (2, .ref (y 0)), (1, .ref (x 0)), (0, .ref b)]) hx hb dL_law_21 hl (by decide) rfl (fun ls hl => ?_)
  have hrel := rel_new (f1 := f1) (r1 := r1) hf1 hr1 hdn
  exact law_loop hl9 hL C0 hTb x cd y ce ow co hK (L + 1) 0 _ _ _ _ _ _ _ _ _ _ _ _ _ _ _ _ ls (by omega) (by omega) hrel hP hD hS (lv_sub hl [4, 3, 2, 1, 0] rfl)
