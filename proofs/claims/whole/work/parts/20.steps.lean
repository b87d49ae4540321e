/-! one call of the law: class and reference go on together -/
def Rel (f0 f1 f2 f3 r0 r1 r2 r3 dn ac : Nat → Int32) : Prop := (∀ j, j < 64 → r0 j = f0 (cCn j)) ∧ (∀ j, j < 64 → r1 j = f1 (cCn j)) ∧ (∀ j, j < 64 → r2 j = f2 j) ∧ (∀ j, j < 64 → r3 j = f3 j) ∧ b0 f0 ∧ b1 f1 ∧ b2 f2 ∧ dnOk dn ac
theorem upd_place {f r : Nat → Int32} (h : ∀ j, j < 64 → r j = f (cCn j)) {n : Nat} (hn : n < 64) (v : Int32) : ∀ j, j < 64 → upd r n v j = upd f (cCn n) v (cCn j) := by
  intro j hj
  by_cases hq : j = n
  · subst hq
    rw [pk_us, pk_us]
  · rw [pk_un hq, pk_un (fun q => hq (cCn_inj j hj n hn q))]
    exact h j hj
theorem upd_bd {f : Nat → Int32} {P : Int → Prop} (h : ∀ j, j < 64 → P (f j).toInt) {n : Nat} {v : Int32} (hv : P v.toInt) : ∀ j, j < 64 → P (upd f n v j).toInt := by
  intro j hj
  by_cases hq : j = n
  · subst hq
    rw [pk_us]; exact hv
  · rw [pk_un hq]; exact h j hj
/-- a grid by rows and columns -/
theorem grid {P : Nat → Prop} (h : ∀ a b, a < 8 → b < 8 → P (a * 8 + b)) : ∀ j, j < 64 → P j := by
  intro j hj
  have := h (j / 8) (j % 8) (by omega) (by omega)
  rw [show j / 8 * 8 + j % 8 = j from by omega] at this
  exact this
section ST
variable {f0 f1 f2 f3 r0 r1 r2 r3 dn ac : Nat → Int32}
theorem step_put {q v9 k t : Int32} {u w : Nat → Int32} (h : Rel f0 f1 f2 f3 r0 r1 r2 r3 dn ac)
    (hc : (k = 0 ∧ (0 ≤ q.toInt ∧ q.toInt < 64) ∧ (-32768 ≤ v9.toInt ∧ v9.toInt ≤ 32767) ∧ u = upd f0 (cCn q.toInt.toNat) v9) ∨ (k = 1 ∧ ¬ (0 ≤ q.toInt ∧ q.toInt < 64) ∧ u = f0) ∨ (k = 2 ∧ (0 ≤ q.toInt ∧ q.toInt < 64) ∧ ¬ (-32768 ≤ v9.toInt ∧ v9.toInt ≤ 32767) ∧ u = f0))
    (hm : (t = 0 ∧ (0 ≤ q.toInt ∧ q.toInt < 64) ∧ (-32768 ≤ v9.toInt ∧ v9.toInt ≤ 32767) ∧ w = upd r0 q.toInt.toNat v9) ∨ (t = 1 ∧ ¬ (0 ≤ q.toInt ∧ q.toInt < 64) ∧ w = r0) ∨ (t = 2 ∧ (0 ≤ q.toInt ∧ q.toInt < 64) ∧ ¬ (-32768 ≤ v9.toInt ∧ v9.toInt ≤ 32767) ∧ w = r0)) :
    t = k ∧ Rel u f1 f2 f3 w r1 r2 r3 dn ac := by
  obtain ⟨h0, h1, h2, h3, g0, g1, g2, hd⟩ := h
  rcases hc with ⟨rfl, a, b, rfl⟩ | ⟨rfl, a, rfl⟩ | ⟨rfl, a, b, rfl⟩
  · rcases hm with ⟨rfl, a2, b2, rfl⟩ | ⟨rfl, a2, rfl⟩ | ⟨rfl, a2, b2, rfl⟩
    · exact ⟨rfl, upd_place h0 (by omega) v9, h1, h2, h3, upd_bd (P := fun z => -32768 ≤ z ∧ z ≤ 32767) g0 b, g1, g2, hd⟩
    · exact absurd a a2
    · exact absurd b b2
  · rcases hm with ⟨rfl, a2, b2, rfl⟩ | ⟨rfl, a2, rfl⟩ | ⟨rfl, a2, b2, rfl⟩
    · exact absurd a2 a
    · exact ⟨rfl, h0, h1, h2, h3, g0, g1, g2, hd⟩
    · exact absurd a2 a
  · rcases hm with ⟨rfl, a2, b2, rfl⟩ | ⟨rfl, a2, rfl⟩ | ⟨rfl, a2, b2, rfl⟩
    · exact absurd b2 b
    · exact absurd a a2
    · exact ⟨rfl, h0, h1, h2, h3, g0, g1, g2, hd⟩
theorem step_step {q v9 k t : Int32} {u w : Nat → Int32} (h : Rel f0 f1 f2 f3 r0 r1 r2 r3 dn ac)
    (hc : (k = 0 ∧ (0 ≤ q.toInt ∧ q.toInt < 64) ∧ (1 ≤ v9.toInt ∧ v9.toInt ≤ 255) ∧ u = upd f1 (cCn q.toInt.toNat) v9) ∨ (k = 1 ∧ ¬ (0 ≤ q.toInt ∧ q.toInt < 64) ∧ u = f1) ∨ (k = 2 ∧ (0 ≤ q.toInt ∧ q.toInt < 64) ∧ ¬ (1 ≤ v9.toInt ∧ v9.toInt ≤ 255) ∧ u = f1))
    (hm : (t = 0 ∧ (0 ≤ q.toInt ∧ q.toInt < 64) ∧ (1 ≤ v9.toInt ∧ v9.toInt ≤ 255) ∧ w = upd r1 q.toInt.toNat v9) ∨ (t = 1 ∧ ¬ (0 ≤ q.toInt ∧ q.toInt < 64) ∧ w = r1) ∨ (t = 2 ∧ (0 ≤ q.toInt ∧ q.toInt < 64) ∧ ¬ (1 ≤ v9.toInt ∧ v9.toInt ≤ 255) ∧ w = r1)) :
    t = k ∧ Rel f0 u f2 f3 r0 w r2 r3 dn ac := by
  obtain ⟨h0, h1, h2, h3, g0, g1, g2, hd⟩ := h
  rcases hc with ⟨rfl, a, b, rfl⟩ | ⟨rfl, a, rfl⟩ | ⟨rfl, a, b, rfl⟩
  · rcases hm with ⟨rfl, a2, b2, rfl⟩ | ⟨rfl, a2, rfl⟩ | ⟨rfl, a2, b2, rfl⟩
    · exact ⟨rfl, h0, upd_place h1 (by omega) v9, h2, h3, g0, upd_bd (P := fun z => 1 ≤ z ∧ z ≤ 255) g1 b, g2, hd⟩
    · exact absurd a a2
    · exact absurd b b2
  · rcases hm with ⟨rfl, a2, b2, rfl⟩ | ⟨rfl, a2, rfl⟩ | ⟨rfl, a2, b2, rfl⟩
    · exact absurd a2 a
    · exact ⟨rfl, h0, h1, h2, h3, g0, g1, g2, hd⟩
    · exact absurd a2 a
  · rcases hm with ⟨rfl, a2, b2, rfl⟩ | ⟨rfl, a2, rfl⟩ | ⟨rfl, a2, b2, rfl⟩
    · exact absurd b2 b
    · exact absurd a a2
    · exact ⟨rfl, h0, h1, h2, h3, g0, g1, g2, hd⟩
theorem step_steps {b9 s9 p9 k t : Int32} {u w : Nat → Int32} {ok : Prop} (h : Rel f0 f1 f2 f3 r0 r1 r2 r3 dn ac)
    (hc : (k = 0 ∧ ok ∧ ∀ a b, a < 8 → b < 8 → u (a * 8 + b) = stV b9 s9 p9 a b) ∨ (k = 1 ∧ ¬ ok ∧ u = f1))
    (hm : (t = 0 ∧ ok ∧ ∀ j, j < 64 → w j = stV b9 s9 p9 (cCn j / 8) (cCn j % 8)) ∨ (t = 1 ∧ ¬ ok ∧ w = r1)) : t = k ∧ Rel f0 u f2 f3 r0 w r2 r3 dn ac := by
  obtain ⟨h0, h1, h2, h3, g0, g1, g2, hd⟩ := h
  rcases hc with ⟨rfl, a, b⟩ | ⟨rfl, a, rfl⟩
  · rcases hm with ⟨rfl, a2, b2⟩ | ⟨rfl, a2, rfl⟩
    · refine ⟨rfl, h0, fun j hj => ?_, h2, h3, g0, grid (fun x y hx hy => ?_), g2, hd⟩
      · have hc := cCn_lt j hj
        rw [b2 j hj, ← b (cCn j / 8) (cCn j % 8) (by omega) (by omega), show cCn j / 8 * 8 + cCn j % 8 = cCn j from by omega]
      · rw [b x y hx hy]
        exact clamp_bd (by decide) (by decide) (by decide)
    · exact absurd a a2
  · rcases hm with ⟨rfl, a2, b2⟩ | ⟨rfl, a2, rfl⟩
    · exact absurd a2 a
    · exact ⟨rfl, h0, h1, h2, h3, g0, g1, g2, hd⟩
theorem step_row {q k t : Int32} {e9 : Int64} {u w : Nat → Int32} {ok : Prop} (h : Rel f0 f1 f2 f3 r0 r1 r2 r3 dn ac)
    (hc : (k = 0 ∧ ok ∧ ∀ a b, a < 8 → b < 8 → u (a * 8 + b) = if a = q.toInt.toNat then rowV e9 b else f2 (a * 8 + b)) ∨ (k = 1 ∧ ¬ ok ∧ u = f2))
    (hm : (t = 0 ∧ ok ∧ ∀ a b, a < 8 → b < 8 → w (a * 8 + b) = if a = q.toInt.toNat then rowR e9 b else r2 (a * 8 + b)) ∨ (t = 1 ∧ ¬ ok ∧ w = r2)) : t = k ∧ Rel f0 f1 u f3 r0 r1 w r3 dn ac := by
  obtain ⟨h0, h1, h2, h3, g0, g1, g2, hd⟩ := h
  rcases hc with ⟨rfl, a, b⟩ | ⟨rfl, a, rfl⟩
  · rcases hm with ⟨rfl, a2, b2⟩ | ⟨rfl, a2, rfl⟩
    · refine ⟨rfl, h0, h1, grid (fun x y hx hy => ?_), h3, g0, g1, grid (fun x y hx hy => ?_), hd⟩
      · rw [b x y hx hy, b2 x y hx hy]
        by_cases hq : x = q.toInt.toNat
        · rw [if_pos hq, if_pos hq, row_eq e9 hy]
        · rw [if_neg hq, if_neg hq, h2 _ (by omega)]
      · rw [b x y hx hy]
        by_cases hq : x = q.toInt.toNat
        · rw [if_pos hq]; exact row_bd e9 y
        · rw [if_neg hq]; exact g2 _ (by omega)
    · exact absurd a a2
  · rcases hm with ⟨rfl, a2, b2⟩ | ⟨rfl, a2, rfl⟩
    · exact absurd a2 a
    · exact ⟨rfl, h0, h1, h2, h3, g0, g1, g2, hd⟩
theorem step_back {q k t : Int32} {rv : Int64} {u w : Nat → Int32} {o9 : Nat → Int64} (h : Rel f0 f1 f2 f3 r0 r1 r2 r3 dn ac)
    (hc : (k = 0 ∧ szOk q ∧ o9 0 = bG (bP (8 / q.toInt.toNat) q.toInt.toNat f0 f1) q.toInt.toNat q.toInt.toNat ∧ ∀ a b, a < 8 → b < 8 → u (a * 8 + b) = if a < q.toInt.toNat ∧ b < q.toInt.toNat then bS (8 / q.toInt.toNat) q.toInt.toNat (bP (8 / q.toInt.toNat) q.toInt.toNat f0 f1) a b else f2 (a * 8 + b)) ∨ (k = 1 ∧ ¬ szOk q ∧ u = f2))
    (hm : (t = 0 ∧ szOk q ∧ rv = bG (cN (8 / q.toInt.toNat) q.toInt.toNat r0 r1) q.toInt.toNat q.toInt.toNat ∧ ∀ a b, a < 8 → b < 8 → w (a * 8 + b) = if a < q.toInt.toNat ∧ b < q.toInt.toNat then bS (8 / q.toInt.toNat) q.toInt.toNat (cN (8 / q.toInt.toNat) q.toInt.toNat r0 r1) a b else r2 (a * 8 + b)) ∨ (t = 1 ∧ ¬ szOk q ∧ w = r2)) :
    t = k ∧ (k = 0 → o9 0 = rv) ∧ Rel f0 f1 u f3 r0 r1 w r3 dn ac := by
  obtain ⟨h0, h1, h2, h3, g0, g1, g2, hd⟩ := h
  rcases hc with ⟨rfl, a, c, b⟩ | ⟨rfl, a, rfl⟩
  · rcases hm with ⟨rfl, a2, c2, b2⟩ | ⟨rfl, a2, rfl⟩
    · have hn : q.toInt.toNat ≤ 8 := by unfold szOk at a; omega
      have hP : ∀ x y, x < q.toInt.toNat → y < q.toInt.toNat → bP (8 / q.toInt.toNat) q.toInt.toNat f0 f1 x y = cN (8 / q.toInt.toNat) q.toInt.toNat r0 r1 x y := fun x y _ hy => bP_cN h0 h1 g0 g1 hn (by omega)
      refine ⟨rfl, fun _ => ?_, h0, h1, grid (fun x y hx hy => ?_), h3, g0, g1, grid (fun x y hx hy => ?_), hd⟩
      · rw [c, c2]
        exact bG_congr hP
      · rw [b x y hx hy, b2 x y hx hy]
        by_cases hq : x < q.toInt.toNat ∧ y < q.toInt.toNat
        · rw [if_pos hq, if_pos hq]
          exact (bS_congr (fun z hz => hP x z hq.1 hz)).symm
        · rw [if_neg hq, if_neg hq, h2 _ (by omega)]
      · rw [b x y hx hy]
        by_cases hq : x < q.toInt.toNat ∧ y < q.toInt.toNat
        · rw [if_pos hq]
          exact clamp_bd (by decide) (by decide) (by decide)
        · rw [if_neg hq]; exact g2 _ (by omega)
    · exact absurd a a2
  · rcases hm with ⟨rfl, a2, c2, b2⟩ | ⟨rfl, a2, rfl⟩
    · exact absurd a2 a
    · exact ⟨rfl, fun q9 => absurd q9 (by decide), h0, h1, h2, h3, g0, g1, g2, hd⟩
theorem step_fwd {ra rb t : Int32} {u w : Nat → Int32} (h : Rel f0 f1 f2 f3 r0 r1 r2 r3 dn ac)
    (hc : ra = cntI u 64 ∧ ∀ a b, a < 8 → b < 8 → u (a * 8 + b) = nearV (fE (fP f2) a b) (f1 (a * 8 + b)))
    (hm : t = 0 ∧ rb = cntI w 64 ∧ ∀ j, j < 64 → w j = nearR (eN r2 (cCn j / 8) (cCn j % 8)) (r1 j)) : ra = rb ∧ Rel u f1 f2 f3 w r1 r2 r3 dn ac := by
  obtain ⟨h0, h1, h2, h3, g0, g1, g2, hd⟩ := h
  obtain ⟨rfl, hu⟩ := hc
  obtain ⟨-, rfl, hw⟩ := hm
  have hR : ∀ j, j < 64 → w j = u (cCn j) := fun j hj => by
    have hc := cCn_lt j hj
    have hs := g1 (cCn j) hc
    have he := hu (cCn j / 8) (cCn j % 8) (by omega) (by omega)
    rw [show cCn j / 8 * 8 + cCn j % 8 = cCn j from by omega] at he
    rw [hw j hj, he, h1 j hj, fE_eN g2 h2]
    exact (near_eq (eN_bd (b2_of g2 h2) _ _) hs.1 hs.2).1
  refine ⟨?_, hR, h1, h2, h3, grid (fun x y hx hy => ?_), g1, g2, hd⟩
  · rw [cntI_congr hR, cntI_perm]
  · have hs := g1 (x * 8 + y) (by omega)
    have := (near_eq (eN_bd (b2_of g2 h2) x y) hs.1 hs.2).2
    rw [hu x y hx hy, fE_eN g2 h2]
    omega
theorem step_keep {t : Int32} {u w : Nat → Int32} (h : Rel f0 f1 f2 f3 r0 r1 r2 r3 dn ac) (hc : ∀ j, j < 64 → u j = f2 j) (hm : t = 0 ∧ ∀ j, j < 64 → w j = r2 j) : Rel f0 f1 f2 u r0 r1 r2 w dn ac := by
  obtain ⟨h0, h1, h2, h3, g0, g1, g2, hd⟩ := h
  exact ⟨h0, h1, h2, fun j hj => by rw [hc j hj, hm.2 j hj, h2 j hj], g0, g1, g2, hd⟩
theorem step_clear {t : Int32} {u w : Nat → Int32} (h : Rel f0 f1 f2 f3 r0 r1 r2 r3 dn ac) (hc : ∀ j, j < 64 → u j = 0) (hm : t = 0 ∧ ∀ j, j < 64 → w j = 0) : Rel u f1 f2 f3 w r1 r2 r3 dn ac := by
  obtain ⟨h0, h1, h2, h3, g0, g1, g2, hd⟩ := h
  exact ⟨fun j hj => by rw [hm.2 j hj, hc _ (cCn_lt j hj)], h1, h2, h3, fun j hj => by rw [hc j hj]; decide, g1, g2, hd⟩
/-- an answer or a throw, on both sides -/
theorem step_ans {k t rv : Int32} {va vb : Int32} {ok : Prop} {o9 : Nat → Int64} (hv : ok → va = vb) (hc : (k = 0 ∧ ok ∧ o9 0 = va.toInt64) ∨ (k = 1 ∧ ¬ ok)) (hm : (t = 0 ∧ ok ∧ rv = vb) ∨ (t = 1 ∧ ¬ ok)) : t = k ∧ (k = 0 → o9 0 = rv.toInt64) := by
  rcases hc with ⟨rfl, a, b⟩ | ⟨rfl, a⟩
  · rcases hm with ⟨rfl, a2, rfl⟩ | ⟨rfl, a2⟩
    · exact ⟨rfl, fun _ => by rw [b, hv a]⟩
    · exact absurd a a2
  · rcases hm with ⟨rfl, a2, rfl⟩ | ⟨rfl, a2⟩
    · exact absurd a2 a
    · exact ⟨rfl, fun q9 => absurd q9 (by decide)⟩
end ST
