abbrev mw (y : Nat → Nat) (ce : Nat → ClassId) (th : Int32) (r0 r1 r2 r3 dn ac : Nat → Int32) (sm : Nat → Int64) : va_W := [(y 0, .inr (1, [.int th, .ref (y 1), .ref (y 2), .ref (y 3), .ref (y 4), .ref (y 5), .ref (y 6), .ref (y 7)])), (y 1, .inl (ce 1, 64, .inl r0)), (y 2, .inl (ce 2, 64, .inl r1)), (y 3, .inl (ce 3, 64, .inl r2)), (y 4, .inl (ce 4, 64, .inl r3)), (y 5, .inl (ce 5, 64, .inl dn)), (y 6, .inl (ce 6, 64, .inl ac)), (y 7, .inl (ce 7, 64, .inr (.inl sm)))]
abbrev mty (ce : Nat → ClassId) : List (ClassId × FieldType) := [(ce 1, .int), (ce 2, .int), (ce 3, .int), (ce 4, .int), (ce 5, .int), (ce 6, .int), (ce 7, .long)]
/-- what the reference computes in an order of its own -/
def ordR (dn ac : Nat → Int32) (a b : Int32) : Nat → Int32
  | 0 => -1
  | k + 1 => if (dn k).toInt = a.toInt ∧ (ac k).toInt = b.toInt then nI k else ordR dn ac a b k
def dnOk (dn ac : Nat → Int32) : Prop := ∀ j, j < 64 → dn j = nI (cCn j / 8) ∧ ac j = nI (cCn j % 8)
def cN (sp nn : Nat) (r0 r1 : Nat → Int32) (y u : Nat) : Int64 := rdL (sumL (fun v => (wvN sp v y).toInt64 * (r0 (cPn (v * 8 + u))).toInt64 * (r1 (cPn (v * 8 + u))).toInt64) nn) 11
def eP (r2 : Nat → Int32) (v x : Nat) : Int64 := rdL (sumL (fun y => (wvN 1 v y).toInt64 * (r2 (y * 8 + x) - 128).toInt64) 8) 11
def eN (r2 : Nat → Int32) (v u : Nat) : Int64 := rdL (sumL (fun x => (wvN 1 u x).toInt64 * eP r2 v x) 8) 17
def mostV (v m : Int64) : Int64 := if m.toInt < v.toInt then v else if m.toInt < (-v).toInt then -v else m
def abR (e : Int64) : Int64 := if e.toInt < 0 then -e else e
def amtR (e : Int64) (st : Int32) : Int64 := (abR e * 2 + st.toInt64) / (2 * st.toInt64)
def nearR (e : Int64) (st : Int32) : Int32 := (if e.toInt < 0 then -amtR e st else amtR e st).toInt32
def erR (r2 r3 : Nat → Int32) (n : Nat) : Nat → Int32
  | 0 => 0
  | k + 1 => erR r2 r3 n k + (if k / 8 < n ∧ k % 8 < n then (r2 k - r3 k) * (r2 k - r3 k) else 0)
def absR (x : Int32) : Int32 := if x.toInt < 0 then -x else x
def lookR (r0 r1 r2 : Nat → Int32) (q : Int32) : Int32 := if q.toInt = 0 then cntI r0 64 else if q.toInt = 1 then lastI r0 64 else if q.toInt = 2 then sumI r1 64 else if q.toInt = 3 then sumI r2 64 else if q.toInt = 4 then sumI (fun j => absR (r0 j)) 64 else -1
def rowR (e : Int64) (x : Nat) : Int32 := ((e >>> ((nI (56 - 8 * x)).toInt64 &&& 63)) &&& 255).toInt32
def atR (r0 r1 : Nat → Int32) (j : Nat) (k : Int32) : Int32 := if k.toInt = 0 then r0 j else if k.toInt = 1 then r1 j else if k.toInt = 2 then nI (cCn j / 8) else nI (cCn j % 8)
theorem orderV_nat {a b : Nat} (ha : a < 8) (hb : b < 8) : orderV (nI a) (nI b) = nI (cPn (a * 8 + b)) := by
  have h1 : (nI a).toInt = (a : Int) := nI_toInt (by omega)
  have h2 : (nI b).toInt = (b : Int) := nI_toInt (by omega)
  unfold orderV
  rw [if_pos (by omega), h1, h2]
  rfl
theorem ordR_z {dn ac : Nat → Int32} {a b : Int32} {k : Nat} (h : ¬ ((dn k).toInt = a.toInt ∧ (ac k).toInt = b.toInt)) : ordR dn ac a b k = ordR dn ac a b (k + 1) := by
  show _ = (if (dn k).toInt = a.toInt ∧ (ac k).toInt = b.toInt then nI k else ordR dn ac a b k)
  rw [if_neg h]
theorem ordR_s {dn ac : Nat → Int32} {a b : Int32} {k : Nat} (h : (dn k).toInt = a.toInt ∧ (ac k).toInt = b.toInt) : nI k = ordR dn ac a b (k + 1) := by
  show _ = (if (dn k).toInt = a.toInt ∧ (ac k).toInt = b.toInt then nI k else ordR dn ac a b k)
  rw [if_pos h]
theorem ordR_none {dn ac : Nat → Int32} {a b : Int32} : ∀ {k : Nat}, (∀ j, j < k → ¬ ((dn j).toInt = a.toInt ∧ (ac j).toInt = b.toInt)) → ordR dn ac a b k = -1
  | 0, _ => rfl
  | k + 1, h => by
    rw [← ordR_z (h k (Nat.lt_succ_self k))]
    exact ordR_none (fun j hj => h j (Nat.lt_succ_of_lt hj))
theorem ordR_at {dn ac : Nat → Int32} {a b : Int32} {i : Nat} (hi : (dn i).toInt = a.toInt ∧ (ac i).toInt = b.toInt) : ∀ {k : Nat}, i < k → (∀ j, i < j → j < k → ¬ ((dn j).toInt = a.toInt ∧ (ac j).toInt = b.toInt)) → ordR dn ac a b k = nI i
  | 0, h, _ => absurd h (Nat.not_lt_zero i)
  | k + 1, h, hn => by
    by_cases hq : i = k
    · subst hq
      exact (ordR_s hi).symm
    · rw [← ordR_z (hn k (by omega) (Nat.lt_succ_self k))]
      exact ordR_at hi (by omega) (fun j h1 h2 => hn j h1 (Nat.lt_succ_of_lt h2))
theorem cCn_inj : ∀ i, i < 64 → ∀ j, j < 64 → cCn i = cCn j → i = j := by decide +kernel
theorem ordR_eq {dn ac : Nat → Int32} (h : dnOk dn ac) (a b : Int32) : ordR dn ac a b 64 = orderV a b := by
  have hd : ∀ j, j < 64 → (dn j).toInt = ((cCn j / 8 : Nat) : Int) ∧ (ac j).toInt = ((cCn j % 8 : Nat) : Int) := fun j hj => by
    have hc := cCn_lt j hj
    rw [(h j hj).1, (h j hj).2]
    exact ⟨nI_toInt (by omega), nI_toInt (by omega)⟩
  by_cases hr : (0 ≤ a.toInt ∧ a.toInt < 8) ∧ (0 ≤ b.toInt ∧ b.toInt < 8)
  · obtain ⟨a8, ha8, rfl⟩ := cx_ofN (x := a) (n := 8) (by omega) (by omega) (by decide)
    obtain ⟨b8, hb8, rfl⟩ := cx_ofN (x := b) (n := 8) (by omega) (by omega) (by decide)
    rw [orderV_nat ha8 hb8]
    have e1 : (nI a8).toInt = (a8 : Int) := nI_toInt (by omega)
    have e2 : (nI b8).toInt = (b8 : Int) := nI_toInt (by omega)
    have hp : cPn (a8 * 8 + b8) < 64 := cPn_lt _ (by omega)
    have hc : cCn (cPn (a8 * 8 + b8)) = a8 * 8 + b8 := cPC _ (by omega)
    refine ordR_at ?_ hp (fun j h1 h2 hj => ?_)
    · rw [(hd _ hp).1, (hd _ hp).2, hc, e1, e2]
      omega
    · rw [(hd _ h2).1, (hd _ h2).2, e1, e2] at hj
      have : cCn j = cCn (cPn (a8 * 8 + b8)) := by rw [hc]; omega
      have := cCn_inj j h2 _ hp this
      omega
  · unfold orderV
    rw [if_neg hr]
    refine ordR_none (fun j hj hm => hr ?_)
    have hc := cCn_lt j hj
    rw [(hd _ hj).1, (hd _ hj).2] at hm
    omega
theorem maxL_most {v m : Int64} (hm : 0 ≤ m.toInt) : mostV v m = maxL m (absL v) ∧ 0 ≤ (maxL m (absL v)).toInt := by
  unfold mostV maxL absL
  simp only [Int64.lt_iff_toInt_lt]
  have h0 : (0 : Int64).toInt = 0 := rfl
  have hn : 0 ≤ v.toInt → (-v).toInt = -v.toInt := fun h => by
    rw [Int64.toInt_neg, Int.bmod_eq_of_le] <;> (have := v.toInt_lt; omega)
  have hn2 : v.toInt < 0 → ((-v).toInt = -v.toInt ∨ (-v).toInt = v.toInt) := fun h => by
    rw [Int64.toInt_neg]
    by_cases q : v.toInt = -2 ^ 63
    · right; rw [q]; decide
    · left; rw [Int.bmod_eq_of_le] <;> (have := v.le_toInt; omega)
  rw [h0]
  by_cases h1 : 0 < v.toInt
  · have e := hn (by omega)
    rw [if_pos h1]
    by_cases h2 : m.toInt < v.toInt
    · rw [if_pos h2, if_neg (by omega)]; exact ⟨rfl, by omega⟩
    · rw [if_neg h2, e, if_neg (by omega)]
      by_cases h3 : v.toInt < m.toInt
      · rw [if_pos h3]; exact ⟨rfl, by omega⟩
      · rw [if_neg h3]
        have : m = v := Int64.toInt_inj.mp (by omega)
        exact ⟨this, by omega⟩
  · rw [if_neg h1]
    rw [if_neg (show ¬ m.toInt < v.toInt by omega)]
    by_cases h2 : m.toInt < (-v).toInt
    · rw [if_pos h2, if_neg (by omega)]; exact ⟨rfl, by omega⟩
    · rw [if_neg h2]
      by_cases h3 : (-v).toInt < m.toInt
      · rw [if_pos h3]; exact ⟨rfl, by omega⟩
      · rw [if_neg h3]
        have : m = -v := Int64.toInt_inj.mp (by omega)
        exact ⟨this, by omega⟩
theorem clampI_eq (x : Int32) : (if x.toInt < 1 then (1 : Int32) else if 255 < x.toInt then 255 else x) = clampV x.toInt64 1 255 := by
  unfold clampV
  have h1 : x.toInt64.toInt = x.toInt := Int32.toInt_toInt64 x
  have h2 : ((1 : Int32).toInt64).toInt = 1 := by decide +kernel
  have h3 : ((255 : Int32).toInt64).toInt = 255 := by decide +kernel
  rw [h1, h2, h3, Int32.toInt32_toInt64]
