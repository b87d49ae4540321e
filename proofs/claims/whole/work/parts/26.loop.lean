set_option maxHeartbeats 4000000 in
set_option maxRecDepth 100000 in
/-- the law's loop -/
theorem law_loop {p : Program} {l : Launch} {e : Env} {s : State} {m : MethodId} {below : List Frame} {meth : Method} {c : Code} {D : va_G} {b L : Nat} {xs : Nat → Int32} (hl9 : l.stackTraces = false) (hL : L ≤ 2048) (C0 : lw_At p s m meth c b L xs) (hTb : cT (fun q : Nat => s.heap.size ≤ q) s s.heap) (x : Nat → Nat) (cd : Nat → ClassId) (y : Nat → Nat) (ce : Nat → ClassId) (ow : Nat) (co : ClassId) (hK : va_K D vwCl (lty cd ce co) s) : ∀ (n t9 : Nat) (f0 f1 f2 f3 : Nat → Int32) (g : Nat → Int64) (th : Int32) (r0 r1 r2 r3 dn ac : Nat → Int32) (sm o : Nat → Int64) (H : Heap) (locs : List Loc) (ls : Array Slot), L - 4 * t9 < n → 4 * t9 ≤ L → Rel f0 f1 f2 f3 r0 r1 r2 r3 dn ac → va_P D vwCl (lww x cd f0 f1 f2 f3 g y ce th r0 r1 r2 r3 dn ac sm ow co o) H → va_D (fun q : Nat => s.heap.size ≤ q) (lww x cd f0 f1 f2 f3 g y ce th r0 r1 r2 r3 dn ac sm ow co o) → va_S (fun q : Nat => s.heap.size ≤ q) s.heap H locs → lv_has ls 8 [(0, .ref b), (1, .ref (x 0)), (2, .ref (y 0)), (3, .ref ow), (4, .int (nI (4 * t9)))] → W p l e room_1 s m #[Value.ref b] below meth c H locs (15 + t9) (782 + 6 * t9) (lw_Z below #[Value.ref b] s) (F0 m 23 ls []) := by
  obtain ⟨hx, hb, hr, hml, hown, hts9, hX, hbl, hlocks, hgv⟩ := id C0
  have hbA : ¬ (fun q : Nat => s.heap.size ≤ q) b := Nat.not_le.mpr hbl
  intro n
  induction n with
  | zero =>
    intro t9 f0 f1 f2 f3 g th r0 r1 r2 r3 dn ac sm o H locs ls hn
    exact absurd hn (Nat.not_lt_zero _)
  | succ n ih =>
    intro t9 f0 f1 f2 f3 g th r0 r1 r2 r3 dn ac sm o H locs ls hn h4 hrel hP hD hS hl
    refine lv_iload hx hb dL_law_23 (lv_at hl 4 rfl) ?_
    refine lv_aload_n hx hb dL_law_25 rfl (lv_at hl 0 rfl) ?_
    refine va_slen hx hb hX hbl hbA hS dL_law_26 ?_
    refine lv_iconst (v := (4 : Int32)) hx hb dL_law_27 (by decide +kernel) ?_
    refine lv_isub hx hb dL_law_28 ?_
    refine cx_icmp_gt (i := ((4 * t9 : Nat) : Int)) (j := ((L : Int) - 4)) (tgt := 804) hx hb (nI_toInt (by omega)) (pk_sub_toInt (b := 4) (by omega) (by omega)) dL_law_29 (by decide) (fun c_1 => ?_) (fun c_1 => ?_)
    · refine lv_iconst (v := (1 : Int32)) hx hb dL_law_804 (by decide +kernel) ?_
      refine va_forget (fun q hq => hS.2.2 q hq) ?_
      refine W.widen (k := 1050) (n := 9040) (by omega) (by omega) ?_
      exact lw_ret hx hb hr hlocks dL_law_805
    · have hlt : 4 * t9 + 4 ≤ L := by omega
      have ik : lwK p l e s m below meth c D b x cd y ce ow co t9 := by
        intro f0 f1 f2 f3 g th r0 r1 r2 r3 dn ac sm o H locs ls hrel hP hD hS hl
        refine lv_iinc (v := nI (4 * (t9 + 1))) (lv' := [(4, .int (nI (4 * (t9 + 1)))), (0, .ref b), (1, .ref (x 0)), (2, .ref (y 0)), (3, .ref ow)]) hx hb dL_law_798 hl (k := 4) rfl (by show nI (4 * t9) + 4 = nI (4 * (t9 + 1)); exact nI_add (4 * t9) 4) (by decide) rfl (fun ls hl => ?_)
        refine lv_goto (tgt := 23) hx hb dL_law_801 (by decide) ?_
        exact ih (t9 + 1) f0 f1 f2 f3 g th r0 r1 r2 r3 dn ac sm o _ _ _ (by omega) (by omega) hrel hP hD hS (lv_sub hl [1, 2, 3, 4, 0] rfl)
      refine lv_aload_n hx hb dL_law_32 rfl (lv_at hl 0 rfl) ?_
      refine lv_iload hx hb dL_law_33 (lv_at hl 4 rfl) ?_
      refine cx_sld hx hb hX hbl hbA hS (4 * t9) (by omega) (by omega) dL_law_35 ?_
      refine lv_bipush (v := (15 : Int32)) hx hb dL_law_36 (by decide +kernel) ?_
      refine lv_iand hx hb dL_law_38 ?_
      obtain ⟨c9, hc9, hce⟩ := pk_andE (xs (4 * t9)) (m := 15) 4 (by decide +kernel)
      rw [hce]
      by_cases k_2 : ((c9 : Nat) : Int) < 0 ∨ 14 < ((c9 : Nat) : Int)
      · refine cx_tabO (i := ((c9 : Nat) : Int)) (tgt := 798) hx hb (nI_toInt (by omega)) dL_law_39 k_2 (by decide) ?_
        refine W.widen (k := 15 + (t9 + 1)) (n := 782 + 6 * (t9 + 1)) (by omega) (by omega) ?_
        exact ik f0 f1 f2 f3 g th r0 r1 r2 r3 dn ac sm o H locs ls hrel hP hD hS hl
      · have k_2 : ((c9 : Nat) : Int) = 0 ∨ ((c9 : Nat) : Int) = 1 ∨ ((c9 : Nat) : Int) = 2 ∨ ((c9 : Nat) : Int) = 3 ∨ ((c9 : Nat) : Int) = 4 ∨ ((c9 : Nat) : Int) = 5 ∨ ((c9 : Nat) : Int) = 6 ∨ ((c9 : Nat) : Int) = 7 ∨ ((c9 : Nat) : Int) = 8 ∨ ((c9 : Nat) : Int) = 9 ∨ ((c9 : Nat) : Int) = 10 ∨ ((c9 : Nat) : Int) = 11 ∨ ((c9 : Nat) : Int) = 12 ∨ ((c9 : Nat) : Int) = 13 ∨ ((c9 : Nat) : Int) = 14 := by omega
        rcases k_2 with k_2 | k_2 | k_2 | k_2 | k_2 | k_2 | k_2 | k_2 | k_2 | k_2 | k_2 | k_2 | k_2 | k_2 | k_2
        · refine cx_tabI (i := ((c9 : Nat) : Int)) (off := 73) (tgt := 112) hx hb (nI_toInt (by omega)) dL_law_39 (by omega) (by omega) (by rw [k_2]; rfl) (by decide) ?_
          exact law_0 hl9 hL C0 hTb x cd y ce ow co hK t9 hlt f0 f1 f2 f3 g th r0 r1 r2 r3 dn ac sm o H locs ls hrel hP hD hS hl ik
        · refine cx_tabI (i := ((c9 : Nat) : Int)) (off := 121) (tgt := 160) hx hb (nI_toInt (by omega)) dL_law_39 (by omega) (by omega) (by rw [k_2]; rfl) (by decide) ?_
          exact law_1 hl9 hL C0 hTb x cd y ce ow co hK t9 hlt f0 f1 f2 f3 g th r0 r1 r2 r3 dn ac sm o H locs ls hrel hP hD hS hl ik
        · refine cx_tabI (i := ((c9 : Nat) : Int)) (off := 169) (tgt := 208) hx hb (nI_toInt (by omega)) dL_law_39 (by omega) (by omega) (by rw [k_2]; rfl) (by decide) ?_
          exact law_2 hl9 hL C0 hTb x cd y ce ow co hK t9 hlt f0 f1 f2 f3 g th r0 r1 r2 r3 dn ac sm o H locs ls hrel hP hD hS hl ik
        · refine cx_tabI (i := ((c9 : Nat) : Int)) (off := 229) (tgt := 268) hx hb (nI_toInt (by omega)) dL_law_39 (by omega) (by omega) (by rw [k_2]; rfl) (by decide) ?_
          exact law_3 hl9 hL C0 hTb x cd y ce ow co hK t9 hlt f0 f1 f2 f3 g th r0 r1 r2 r3 dn ac sm o H locs ls hrel hP hD hS hl ik
        · refine cx_tabI (i := ((c9 : Nat) : Int)) (off := 309) (tgt := 348) hx hb (nI_toInt (by omega)) dL_law_39 (by omega) (by omega) (by rw [k_2]; rfl) (by decide) ?_
          exact law_4 hl9 hL C0 hTb x cd y ce ow co hK t9 hlt f0 f1 f2 f3 g th r0 r1 r2 r3 dn ac sm o H locs ls hrel hP hD hS hl ik
        · refine cx_tabI (i := ((c9 : Nat) : Int)) (off := 364) (tgt := 403) hx hb (nI_toInt (by omega)) dL_law_39 (by omega) (by omega) (by rw [k_2]; rfl) (by decide) ?_
          exact law_5 hl9 hL C0 hTb x cd y ce ow co hK t9 hlt f0 f1 f2 f3 g th r0 r1 r2 r3 dn ac sm o H locs ls hrel hP hD hS hl ik
        · refine cx_tabI (i := ((c9 : Nat) : Int)) (off := 377) (tgt := 416) hx hb (nI_toInt (by omega)) dL_law_39 (by omega) (by omega) (by rw [k_2]; rfl) (by decide) ?_
          exact law_6 hl9 hL C0 hTb x cd y ce ow co hK t9 hlt f0 f1 f2 f3 g th r0 r1 r2 r3 dn ac sm o H locs ls hrel hP hD hS hl ik
        · refine cx_tabI (i := ((c9 : Nat) : Int)) (off := 388) (tgt := 427) hx hb (nI_toInt (by omega)) dL_law_39 (by omega) (by omega) (by rw [k_2]; rfl) (by decide) ?_
          exact law_7 hl9 hL C0 hTb x cd y ce ow co hK t9 hlt f0 f1 f2 f3 g th r0 r1 r2 r3 dn ac sm o H locs ls hrel hP hD hS hl ik
        · refine cx_tabI (i := ((c9 : Nat) : Int)) (off := 444) (tgt := 483) hx hb (nI_toInt (by omega)) dL_law_39 (by omega) (by omega) (by rw [k_2]; rfl) (by decide) ?_
          exact law_8 hl9 hL C0 hTb x cd y ce ow co hK t9 hlt f0 f1 f2 f3 g th r0 r1 r2 r3 dn ac sm o H locs ls hrel hP hD hS hl ik
        · refine cx_tabI (i := ((c9 : Nat) : Int)) (off := 455) (tgt := 494) hx hb (nI_toInt (by omega)) dL_law_39 (by omega) (by omega) (by rw [k_2]; rfl) (by decide) ?_
          exact law_9 hl9 hL C0 hTb x cd y ce ow co hK t9 hlt f0 f1 f2 f3 g th r0 r1 r2 r3 dn ac sm o H locs ls hrel hP hD hS hl ik
        · refine cx_tabI (i := ((c9 : Nat) : Int)) (off := 523) (tgt := 562) hx hb (nI_toInt (by omega)) dL_law_39 (by omega) (by omega) (by rw [k_2]; rfl) (by decide) ?_
          exact law_10 hl9 hL C0 hTb x cd y ce ow co hK t9 hlt f0 f1 f2 f3 g th r0 r1 r2 r3 dn ac sm o H locs ls hrel hP hD hS hl ik
        · refine cx_tabI (i := ((c9 : Nat) : Int)) (off := 560) (tgt := 599) hx hb (nI_toInt (by omega)) dL_law_39 (by omega) (by omega) (by rw [k_2]; rfl) (by decide) ?_
          exact law_11 hl9 hL C0 hTb x cd y ce ow co hK t9 hlt f0 f1 f2 f3 g th r0 r1 r2 r3 dn ac sm o H locs ls hrel hP hD hS hl ik
        · refine cx_tabI (i := ((c9 : Nat) : Int)) (off := 586) (tgt := 625) hx hb (nI_toInt (by omega)) dL_law_39 (by omega) (by omega) (by rw [k_2]; rfl) (by decide) ?_
          exact law_12 hl9 hL C0 hTb x cd y ce ow co hK t9 hlt f0 f1 f2 f3 g th r0 r1 r2 r3 dn ac sm o H locs ls hrel hP hD hS hl ik
        · refine cx_tabI (i := ((c9 : Nat) : Int)) (off := 654) (tgt := 693) hx hb (nI_toInt (by omega)) dL_law_39 (by omega) (by omega) (by rw [k_2]; rfl) (by decide) ?_
          exact law_13 hl9 hL C0 hTb x cd y ce ow co hK t9 hlt f0 f1 f2 f3 g th r0 r1 r2 r3 dn ac sm o H locs ls hrel hP hD hS hl ik
        · refine cx_tabI (i := ((c9 : Nat) : Int)) (off := 734) (tgt := 773) hx hb (nI_toInt (by omega)) dL_law_39 (by omega) (by omega) (by rw [k_2]; rfl) (by decide) ?_
          exact law_14 hl9 hL C0 hTb x cd y ce ow co hK t9 hlt f0 f1 f2 f3 g th r0 r1 r2 r3 dn ac sm o H locs ls hrel hP hD hS hl ik
