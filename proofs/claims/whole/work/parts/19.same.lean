/-! the class's numbers are the reference's -/
theorem ab_mul {a b : Int} {A B : Nat} (ha : a.natAbs ≤ A) (hb : b.natAbs ≤ B) : (a * b).natAbs ≤ A * B := by
  rw [Int.natAbs_mul]
  exact Nat.mul_le_mul ha hb
theorem mul32 {a b : Int32} (h : (a.toInt * b.toInt).natAbs < 2 ^ 31) : (a * b).toInt64 = a.toInt64 * b.toInt64 := by
  apply Int64.toInt_inj.mp
  rw [Int32.toInt_toInt64, Int32.toInt_mul, Int64.toInt_mul, Int32.toInt_toInt64, Int32.toInt_toInt64, Int.bmod_eq_of_le (by omega) (by omega), Int.bmod_eq_of_le (by omega) (by omega)]
theorem cosN_bd : ∀ m, m < 32 → (cosN m).toInt.natAbs ≤ 8192 := by decide +kernel
theorem wvN_bd (sp u x : Nat) : (wvN sp u x).toInt.natAbs ≤ 8192 := by
  unfold wvN
  by_cases h : u = 0
  · rw [if_pos h]; decide +kernel
  · rw [if_neg h]; exact cosN_bd _ (Nat.mod_lt _ (by decide))
theorem sumL_bd {f : Nat → Int64} {B : Nat} (hB : B < 2 ^ 58) : ∀ n, n ≤ 8 → (∀ i, i < n → (f i).toInt.natAbs ≤ B) → (sumL f n).toInt.natAbs ≤ n * B
  | 0, _, _ => Nat.zero_le _
  | n + 1, hn, h => by
    have h1 := sumL_bd hB n (by omega) (fun i hi => h i (Nat.lt_succ_of_lt hi))
    have h2 := h n (Nat.lt_succ_self n)
    have h3 : n * B ≤ 8 * B := Nat.mul_le_mul_right B (by omega)
    show (sumL f n + f n).toInt.natAbs ≤ (n + 1) * B
    rw [Nat.succ_mul, Int64.toInt_add, Int.bmod_eq_of_le (by omega) (by omega)]
    omega
theorem mul64_bd {a : Int32} {b : Int64} {A B : Nat} (ha : a.toInt.natAbs ≤ A) (hb : b.toInt.natAbs ≤ B) (hAB : A * B < 2 ^ 62) : (a.toInt64 * b).toInt.natAbs ≤ A * B := by
  have h := ab_mul ha hb
  rw [Int64.toInt_mul, Int32.toInt_toInt64, Int.bmod_eq_of_le (by omega) (by omega)]
  exact h
theorem rd11 {v : Int64} (h : v.toInt.natAbs ≤ 2 ^ 60) : (rdL v 11).toInt = (v.toInt + 1024) / 2048 := by
  unfold rdL
  rw [show (1 : Int64) <<< (((11 : Int32) - 1).toInt64 &&& 63) = 1024 from by decide +kernel]
  show ((v + 1024).toBitVec.sshiftRight ((((11 : Int32).toInt64 &&& 63).toBitVec.smod 64).toNat)).toInt = _
  rw [show (((11 : Int32).toInt64 &&& 63).toBitVec.smod 64).toNat = 11 from by decide +kernel, BitVec.toInt_sshiftRight]
  show (v + 1024).toInt >>> 11 = _
  rw [Int64.toInt_add, show (1024 : Int64).toInt = 1024 from by decide +kernel, Int.bmod_eq_of_le (by omega) (by omega), Int.shiftRight_eq_div_pow]
  rfl
theorem rd17 {v : Int64} (h : v.toInt.natAbs ≤ 2 ^ 60) : (rdL v 17).toInt = (v.toInt + 65536) / 131072 := by
  unfold rdL
  rw [show (1 : Int64) <<< (((17 : Int32) - 1).toInt64 &&& 63) = 65536 from by decide +kernel]
  show ((v + 65536).toBitVec.sshiftRight ((((17 : Int32).toInt64 &&& 63).toBitVec.smod 64).toNat)).toInt = _
  rw [show (((17 : Int32).toInt64 &&& 63).toBitVec.smod 64).toNat = 17 from by decide +kernel, BitVec.toInt_sshiftRight]
  show (v + 65536).toInt >>> 17 = _
  rw [Int64.toInt_add, show (65536 : Int64).toInt = 65536 from by decide +kernel, Int.bmod_eq_of_le (by omega) (by omega), Int.shiftRight_eq_div_pow]
  rfl
/-- a sample less 128 -/
theorem smp_bd {x : Int32} (h1 : 0 ≤ x.toInt) (h2 : x.toInt ≤ 255) : (x - 128).toInt.natAbs ≤ 128 := by
  rw [Int32.toInt_sub, show (128 : Int32).toInt = 128 from by decide +kernel, Int.bmod_eq_of_le (by omega) (by omega)]
  omega
def b2 (f : Nat → Int32) : Prop := ∀ j, j < 64 → 0 ≤ (f j).toInt ∧ (f j).toInt ≤ 255
def b1 (f : Nat → Int32) : Prop := ∀ j, j < 64 → 1 ≤ (f j).toInt ∧ (f j).toInt ≤ 255
def b0 (f : Nat → Int32) : Prop := ∀ j, j < 64 → -32768 ≤ (f j).toInt ∧ (f j).toInt ≤ 32767
theorem eP_bd {f : Nat → Int32} (h : b2 f) {v x : Nat} (hx : x < 8) : (eP f v x).toInt.natAbs ≤ 4097 := by
  unfold eP
  have hs := sumL_bd (f := fun y => (wvN 1 v y).toInt64 * (f (y * 8 + x) - 128).toInt64) (B := 8192 * 128) (by decide) 8 (Nat.le_refl 8) (fun i hi => by
    have hb := h (i * 8 + x) (by omega)
    exact mul64_bd (wvN_bd 1 v i) (by rw [Int32.toInt_toInt64]; exact smp_bd hb.1 hb.2) (by decide))
  rw [rd11 (by omega)]
  omega
theorem eN_bd {f : Nat → Int32} (h : b2 f) (v u : Nat) : (eN f v u).toInt.natAbs ≤ 2050 := by
  unfold eN
  have hs := sumL_bd (f := fun x => (wvN 1 u x).toInt64 * eP f v x) (B := 8192 * 4097) (by decide) 8 (Nat.le_refl 8) (fun i hi => mul64_bd (wvN_bd 1 u i) (eP_bd h hi) (by decide))
  rw [rd17 (by omega)]
  omega
theorem fP_eP {f r : Nat → Int32} (h : b2 f) (hr : ∀ j, j < 64 → r j = f j) {v x : Nat} (hx : x < 8) : fP f v x = eP r v x := by
  unfold fP eP
  refine congrArg (fun z => rdL z 11) (sumL_congr fun i hi => ?_)
  have hb := h (i * 8 + x) (by omega)
  rw [hr (i * 8 + x) (by omega)]
  refine mul32 ?_
  have := ab_mul (wvN_bd 1 v i) (smp_bd hb.1 hb.2)
  omega
theorem fE_eN {f r : Nat → Int32} (h : b2 f) (hr : ∀ j, j < 64 → r j = f j) (v u : Nat) : fE (fP f) v u = (eN r v u).toInt32 := by
  unfold fE eN
  refine congrArg (fun z => (rdL z 17).toInt32) (sumL_congr fun i hi => ?_)
  rw [fP_eP h hr hi]
theorem b2_of {f r : Nat → Int32} (h : b2 f) (hr : ∀ j, j < 64 → r j = f j) : b2 r := fun j hj => by rw [hr j hj]; exact h j hj
/-- E / STEP: in ints, and in longs -/
theorem near_eq {e : Int64} {st : Int32} (he : e.toInt.natAbs ≤ 2050) (h1 : 1 ≤ st.toInt) (h2 : st.toInt ≤ 255) : nearR e st = nearV e.toInt32 st ∧ (nearV e.toInt32 st).toInt.natAbs ≤ 2051 := by
  obtain ⟨k, hk, rfl⟩ := cx_ofN (x := st) (n := 256) (by omega) (by omega) (by decide)
  rw [nI_toInt (by omega)] at h1
  have hv : e.toInt32.toInt = e.toInt := by rw [Int64.toInt_toInt32, Int.bmod_eq_of_le (by omega) (by omega)]
  obtain ⟨n, hn⟩ : ∃ n : Nat, n = e.toInt.natAbs := ⟨_, rfl⟩
  have hab : abR e = lN n := by
    apply Int64.toInt_inj.mp
    unfold abR
    rw [pk_lT (by omega)]
    by_cases h : e.toInt < 0
    · rw [if_pos h, Int64.toInt_neg, Int.bmod_eq_of_le (by omega) (by omega)]; omega
    · rw [if_neg h]; omega
  have hai : absI e.toInt32 = nI n := by
    apply Int32.toInt_inj.mp
    unfold absI
    rw [nI_toInt (by omega)]
    by_cases h : 0 ≤ e.toInt32
    · rw [if_pos h]
      have := Int32.le_iff_toInt_le.mp h
      rw [hv] at this ⊢
      have h0 : (0 : Int32).toInt = 0 := rfl
      omega
    · rw [if_neg h]
      have h3 : ¬ (0 : Int32).toInt ≤ e.toInt32.toInt := fun q => h (Int32.le_iff_toInt_le.mpr q)
      have h0 : (0 : Int32).toInt = 0 := rfl
      rw [hv, h0] at h3
      rw [Int32.toInt_sub, hv, h0, Int.bmod_eq_of_le (by omega) (by omega)]
      omega
  have hq : (n * 2 + k) / (2 * k) ≤ n + 1 := by
    apply Nat.div_le_of_le_mul
    have : n * 1 ≤ n * k := Nat.mul_le_mul_left n (by omega)
    have e1 : 2 * k * (n + 1) = 2 * (n * k) + 2 * k := by rw [Nat.mul_add, Nat.mul_one, Nat.mul_assoc, Nat.mul_comm k n]
    omega
  have ham : amtR e (nI k) = lN ((n * 2 + k) / (2 * k)) := by
    unfold amtR
    rw [hab, nI_l (by omega), show (2 : Int64) = lN 2 from rfl, lN_mul, lN_mul, lN_add, pk_lDiv (by omega) (by omega) (by omega)]
  have hmg : magV e.toInt32 (nI k) = nI ((n * 2 + k) / (2 * k)) := by
    unfold magV
    rw [hai, show (2 : Int32) = nI 2 from rfl, pk_mul, pk_mul, nI_add, pk_div (by omega) (by omega) (by omega), Nat.mul_comm 2 n]
  generalize (n * 2 + k) / (2 * k) = w at hq ham hmg
  have hng : (-nI w).toInt = -(w : Int) := sb_negT (by omega)
  have hnl : (-lN w).toInt = -(w : Int) := by rw [Int64.toInt_neg, pk_lT (by omega), Int.bmod_eq_of_le (by omega) (by omega)]
  unfold nearR nearV
  rw [ham, hmg, hv]
  by_cases h : e.toInt < 0
  · rw [if_pos h, if_pos h]
    refine ⟨?_, by rw [hng]; omega⟩
    apply Int32.toInt_inj.mp
    rw [hng, Int64.toInt_toInt32, hnl, Int.bmod_eq_of_le (by omega) (by omega)]
  · rw [if_neg h, if_neg h]
    refine ⟨lN_i _, by rw [nI_toInt (by omega)]; omega⟩
/-- BACK: P -/
theorem bP_cN {f0 f1 r0 r1 : Nat → Int32} (h0 : ∀ j, j < 64 → r0 j = f0 (cCn j)) (h1 : ∀ j, j < 64 → r1 j = f1 (cCn j)) (hb0 : b0 f0) (hb1 : b1 f1) {sp nn y u : Nat} (hn : nn ≤ 8) (hu : u < 8) : bP sp nn f0 f1 y u = cN sp nn r0 r1 y u := by
  unfold bP cN
  refine congrArg (fun z => rdL z 11) (sumL_congr fun v hv => ?_)
  have hc : v * 8 + u < 64 := by omega
  rw [h0 _ (cPn_lt _ hc), h1 _ (cPn_lt _ hc), cPC _ hc, mul32 (by
    have q0 := hb0 _ hc
    have q1 := hb1 _ hc
    have := ab_mul (a := (f0 (v * 8 + u)).toInt) (b := (f1 (v * 8 + u)).toInt) (A := 32768) (B := 255) (by omega) (by omega)
    omega), Int64.mul_assoc]
theorem bG1_congr {P Q : Nat → Nat → Int64} {y : Nat} {g : Int64} : ∀ {u : Nat}, (∀ i, i < u → P y i = Q y i) → bG1 P y g u = bG1 Q y g u
  | 0, _ => rfl
  | u + 1, h => by
    show maxL (bG1 P y g u) (absL (P y u)) = maxL (bG1 Q y g u) (absL (Q y u))
    rw [bG1_congr (fun i hi => h i (Nat.lt_succ_of_lt hi)), h u (Nat.lt_succ_self u)]
theorem bG_congr {P Q : Nat → Nat → Int64} {nn : Nat} : ∀ {y : Nat}, (∀ a b, a < y → b < nn → P a b = Q a b) → bG P nn y = bG Q nn y
  | 0, _ => rfl
  | y + 1, h => by
    show bG1 P y (bG P nn y) nn = bG1 Q y (bG Q nn y) nn
    rw [bG_congr (fun a b ha hb => h a b (Nat.lt_succ_of_lt ha) hb), bG1_congr (fun i hi => h y i (Nat.lt_succ_self y) hi)]
/-- sums do not care for the order -/
def sumJ (F : Nat → Int32) : List Nat → Int32
  | [] => 0
  | j :: l => F j + sumJ F l
theorem sumJ_perm {F : Nat → Int32} {l1 l2 : List Nat} (h : l1.Perm l2) : sumJ F l1 = sumJ F l2 := by
  induction h with
  | nil => rfl
  | cons x _ ih => show F x + _ = F x + _; rw [ih]
  | swap x y l => show F y + (F x + sumJ F l) = F x + (F y + sumJ F l); rw [← Int32.add_assoc, Int32.add_comm (F y), Int32.add_assoc]
  | trans _ _ ih1 ih2 => rw [ih1, ih2]
theorem sumJ_app {F : Nat → Int32} : ∀ {l1 l2 : List Nat}, sumJ F (l1 ++ l2) = sumJ F l1 + sumJ F l2
  | [], l2 => (Int32.zero_add _).symm
  | j :: l1, l2 => by
    show F j + sumJ F (l1 ++ l2) = F j + sumJ F l1 + sumJ F l2
    rw [sumJ_app, Int32.add_assoc]
theorem sumI_J {F : Nat → Int32} : ∀ n, sumI F n = sumJ F (List.range n)
  | 0 => rfl
  | n + 1 => by
    rw [List.range_succ, sumJ_app]
    show sumI F n + F n = _ + (F n + 0)
    rw [sumI_J n, Int32.add_zero]
theorem sumJ_map {F : Nat → Int32} {g : Nat → Nat} : ∀ l : List Nat, sumJ (fun j => F (g j)) l = sumJ F (l.map g)
  | [] => rfl
  | j :: l => by
    show F (g j) + sumJ (fun j => F (g j)) l = F (g j) + sumJ F (l.map g)
    rw [sumJ_map l]
theorem cC_perm : ((List.range 64).map cCn).Perm (List.range 64) := by decide +kernel
theorem sumI_perm (F : Nat → Int32) : sumI (fun j => F (cCn j)) 64 = sumI F 64 := by
  rw [sumI_J, sumI_J, sumJ_map, sumJ_perm cC_perm]
theorem cntI_sum {f : Nat → Int32} : ∀ n, cntI f n = sumI (fun j => if f j = 0 then 0 else 1) n
  | 0 => rfl
  | n + 1 => by
    show (if f n = 0 then cntI f n else cntI f n + 1) = sumI (fun j => if f j = 0 then 0 else 1) n + (if f n = 0 then 0 else 1)
    rw [← cntI_sum n]
    by_cases h : f n = 0
    · rw [if_pos h, if_pos h, Int32.add_zero]
    · rw [if_neg h, if_neg h]
theorem cntI_perm (f : Nat → Int32) : cntI (fun j => f (cCn j)) 64 = cntI f 64 := by
  rw [cntI_sum, cntI_sum]
  exact sumI_perm (fun j => if f j = 0 then 0 else 1)
theorem absR_I (x : Int32) : absR x = absI x := by
  unfold absR absI
  have h0 : (0 : Int32).toInt = 0 := rfl
  by_cases h : 0 ≤ x
  · have := Int32.le_iff_toInt_le.mp h
    rw [if_pos h, if_neg (by omega)]
  · have h3 : ¬ (0 : Int32).toInt ≤ x.toInt := fun q => h (Int32.le_iff_toInt_le.mpr q)
    rw [if_neg h, if_pos (by omega), Int32.zero_sub]
theorem look_eq {f0 f1 f2 r0 r1 r2 : Nat → Int32} (h0 : ∀ j, j < 64 → r0 j = f0 (cCn j)) (h1 : ∀ j, j < 64 → r1 j = f1 (cCn j)) (h2 : ∀ j, j < 64 → r2 j = f2 j) (q : Int32) : lookV f0 f1 f2 q = lookR r0 r1 r2 q := by
  unfold lookV lookR
  rw [cntI_congr h0, cntI_perm, lastI_congr h0, sumI_congr h1, sumI_perm, sumI_congr h2, sumI_congr (f := fun j => absR (r0 j)) (g := fun j => absI (f0 (cCn j))) (fun j hj => by rw [h0 j hj, absR_I]), sumI_perm (fun j => absI (f0 j))]
/-- the ERROR, row by row or all in one -/
theorem erX_R {f2 f3 r2 r3 : Nat → Int32} (h2 : ∀ j, j < 64 → r2 j = f2 j) (h3 : ∀ j, j < 64 → r3 j = f3 j) {n y : Nat} (hy : y < n) (hn : n ≤ 8) : ∀ x, x ≤ n → erR r2 r3 n (y * 8 + x) = erX f2 f3 y (erR r2 r3 n (y * 8)) x
  | 0, _ => rfl
  | x + 1, hx => by
    show erR r2 r3 n (y * 8 + x) + (if (y * 8 + x) / 8 < n ∧ (y * 8 + x) % 8 < n then (r2 (y * 8 + x) - r3 (y * 8 + x)) * (r2 (y * 8 + x) - r3 (y * 8 + x)) else 0) = erX f2 f3 y (erR r2 r3 n (y * 8)) x + (f2 (y * 8 + x) - f3 (y * 8 + x)) * (f2 (y * 8 + x) - f3 (y * 8 + x))
    rw [if_pos (by omega), h2 _ (by omega), h3 _ (by omega), erX_R h2 h3 hy hn x (by omega)]
theorem erR_skip {r2 r3 : Nat → Int32} {n k : Nat} : ∀ d, (∀ i, k ≤ i → i < k + d → ¬ (i / 8 < n ∧ i % 8 < n)) → erR r2 r3 n (k + d) = erR r2 r3 n k
  | 0, _ => rfl
  | d + 1, h => by
    show erR r2 r3 n (k + d) + (if (k + d) / 8 < n ∧ (k + d) % 8 < n then _ else 0) = _
    rw [if_neg (h (k + d) (by omega) (by omega)), Int32.add_zero, erR_skip d (fun i h1 h2 => h i h1 (by omega))]
theorem erY_R {f2 f3 r2 r3 : Nat → Int32} (h2 : ∀ j, j < 64 → r2 j = f2 j) (h3 : ∀ j, j < 64 → r3 j = f3 j) {n : Nat} (hn : n ≤ 8) : ∀ y, y ≤ n → erR r2 r3 n (y * 8) = erY f2 f3 n y
  | 0, _ => rfl
  | y + 1, hy => by
    have e1 : (y + 1) * 8 = (y * 8 + n) + (8 - n) := by omega
    rw [e1, erR_skip (8 - n) (fun i q1 q2 => by omega), erX_R h2 h3 (by omega) hn n (Nat.le_refl n), erY_R h2 h3 hn y (by omega)]
    rfl
theorem er_eq {f2 f3 r2 r3 : Nat → Int32} (h2 : ∀ j, j < 64 → r2 j = f2 j) (h3 : ∀ j, j < 64 → r3 j = f3 j) {n : Nat} (hn : n ≤ 8) : erR r2 r3 n 64 = erY f2 f3 n n := by
  have e1 : 64 = n * 8 + (64 - n * 8) := by omega
  rw [e1, erR_skip (64 - n * 8) (fun i q1 q2 => by omega), erY_R h2 h3 hn n (Nat.le_refl n)]
theorem at_eq {f0 f1 r0 r1 : Nat → Int32} (h0 : ∀ j, j < 64 → r0 j = f0 (cCn j)) (h1 : ∀ j, j < 64 → r1 j = f1 (cCn j)) {j : Nat} (hj : j < 64) (k : Int32) : atV f0 f1 j k = atR r0 r1 j k := by
  unfold atV atR
  have hc := cCn_lt j hj
  rw [h0 j hj, h1 j hj, pk_shrN (by omega) (3 &&& 31) 3 (by decide +kernel), pk_andN (by omega) 3 (by decide +kernel)]
theorem smp_congr {f g : Nat → Int32} (h : ∀ j, j < 64 → f j = g j) {y : Nat} (hy : y < 8) : ∀ x, x ≤ 8 → smp f y x = smp g y x
  | 0, _ => rfl
  | x + 1, hx => by
    show (smp f y x <<< ((8 : Int32).toInt64 &&& 63)) ||| (f (y * 8 + x)).toInt64 = (smp g y x <<< ((8 : Int32).toInt64 &&& 63)) ||| (g (y * 8 + x)).toInt64
    rw [smp_congr h hy x (by omega), h _ (by omega)]
theorem samples_eq {f g : Nat → Int32} (h : ∀ j, j < 64 → f j = g j) (q : Int32) : samplesV f q = samplesV g q := by
  unfold samplesV
  by_cases hq : 0 ≤ q.toInt ∧ q.toInt < 8
  · rw [if_pos hq, if_pos hq, smp_congr h (by omega) 8 (Nat.le_refl 8)]
  · rw [if_neg hq, if_neg hq]
theorem clamp_bd {v : Int64} {lo hi : Int32} (h1 : 0 ≤ lo.toInt) (h2 : lo.toInt ≤ hi.toInt) (h3 : hi.toInt ≤ 255) : lo.toInt ≤ (clampV v lo hi).toInt ∧ (clampV v lo hi).toInt ≤ hi.toInt := by
  unfold clampV
  rw [Int32.toInt_toInt64, Int32.toInt_toInt64]
  by_cases q : v.toInt < lo.toInt
  · rw [if_pos q]; omega
  · rw [if_neg q]
    by_cases q2 : hi.toInt < v.toInt
    · rw [if_pos q2]; omega
    · rw [if_neg q2, Int64.toInt_toInt32, Int.bmod_eq_of_le (by omega) (by omega)]; omega
/-- a byte of a long: by the shift that brings zeros, by the one that brings signs -/
theorem byte_eq (e : Int64) {c : Nat} (hc : c ≤ 56) {su : UInt64} {ss : Int64} (hu : su.toBitVec % 64 = BitVec.ofNat 64 c) (hs : ss.toBitVec.smod 64 = BitVec.ofNat 64 c) : ((e.toUInt64 >>> su).toInt64).toInt32 &&& 255 = ((e >>> ss) &&& 255).toInt32 := by
  apply Int32.toBitVec_inj.mp
  show (BitVec.signExtend 32 (e.toBitVec >>> (su.toBitVec % 64))) &&& 255#32 = BitVec.signExtend 32 ((e.toBitVec.sshiftRight' (ss.toBitVec.smod 64)) &&& 255#64)
  rw [hu, hs]
  apply BitVec.eq_of_getLsbD_eq
  intro i hi
  have ht : (BitVec.ofNat 64 c).toNat = c := by rw [BitVec.toNat_ofNat]; omega
  have h255 : ∀ w : Nat, (255 : Nat).testBit w = decide (w < 8) := fun w => by
    rw [show (255 : Nat) = 2 ^ 8 - 1 from rfl, Nat.testBit_two_pow_sub_one]
  simp only [BitVec.getLsbD_and, BitVec.getLsbD_signExtend, BitVec.getLsbD_ushiftRight, BitVec.ushiftRight_eq', BitVec.sshiftRight_eq', BitVec.getLsbD_sshiftRight, BitVec.getLsbD_ofNat, ht, h255]
  by_cases h8 : i < 8
  · have a1 : c + i < 64 := by omega
    have a2 : i < 64 := by omega
    simp [h8, hi, a1, a2, show ¬ 64 ≤ i by omega]
  · simp [h8]
    intro _ h9
    omega
theorem row_eq (e : Int64) {x : Nat} (hx : x < 8) : rowV e x = rowR e x := by
  unfold rowV rowR
  refine byte_eq e (c := 56 - 8 * x) (by omega) ?_ ?_
  · revert x hx; decide +kernel
  · revert x hx; decide +kernel
theorem row_bd (e : Int64) (x : Nat) : 0 ≤ (rowV e x).toInt ∧ (rowV e x).toInt ≤ 255 := by
  unfold rowV
  obtain ⟨j, hj, h⟩ := pk_andE (((e.toUInt64 >>> ((nI (56 - 8 * x)).toInt64.toUInt64 &&& Int64.toUInt64 63)).toInt64).toInt32) (m := 255) 8 (by decide +kernel)
  rw [h, nI_toInt (by omega)]
  omega
