/-! the numbers of the class: pure functions in the order in which its code computes them -/
def cQn (j : Nat) : Nat := ([8192, 8035, 7568, 6811, 5793, 4551, 3135, 1598, 0] : List Nat).getD j 0
def cPn (j : Nat) : Nat := ([0, 1, 5, 6, 14, 15, 27, 28, 2, 4, 7, 13, 16, 26, 29, 42, 3, 8, 12, 17, 25, 30, 41, 43, 9, 11, 18, 24, 31, 40, 44, 53, 10, 19, 23, 32, 39, 45, 52, 54, 20, 22, 33, 38, 46, 51, 55, 60, 21, 34, 37, 47, 50, 56, 59, 61, 35, 36, 48, 49, 57, 58, 62, 63] : List Nat).getD j 0
def cCn (j : Nat) : Nat := ([0, 1, 8, 16, 9, 2, 3, 10, 17, 24, 32, 25, 18, 11, 4, 5, 12, 19, 26, 33, 40, 48, 41, 34, 27, 20, 13, 6, 7, 14, 21, 28, 35, 42, 49, 56, 57, 50, 43, 36, 29, 22, 15, 23, 30, 37, 44, 51, 58, 59, 52, 45, 38, 31, 39, 46, 53, 60, 61, 54, 47, 55, 62, 63] : List Nat).getD j 0
def cQ (j : Nat) : Int32 := nI (cQn j)
def cP (j : Nat) : Int32 := nI (cPn j)
def cC (j : Nat) : Int32 := nI (cCn j)
theorem cCn_lt : ∀ j, j < 64 → cCn j < 64 := by decide +kernel
theorem cPn_lt : ∀ j, j < 64 → cPn j < 64 := by decide +kernel
theorem cCP : ∀ j, j < 64 → cPn (cCn j) = j := by decide +kernel
theorem cPC : ∀ j, j < 64 → cCn (cPn j) = j := by decide +kernel
def cosN (m : Nat) : Int32 := if m ≤ 8 then cQ m else if m ≤ 16 then -cQ (16 - m) else if m ≤ 24 then -cQ (m - 16) else cQ (32 - m)
def wvN (sp u x : Nat) : Int32 := if u = 0 then cQ 4 else cosN ((2 * x + 1) * u * sp % 32)
def sumL (f : Nat → Int64) : Nat → Int64
  | 0 => 0
  | n + 1 => sumL f n + f n
def sumI (f : Nat → Int32) : Nat → Int32
  | 0 => 0
  | n + 1 => sumI f n + f n
def cntI (f : Nat → Int32) : Nat → Int32
  | 0 => 0
  | n + 1 => if f n = 0 then cntI f n else cntI f n + 1
def lastI (f : Nat → Int32) : Nat → Int32
  | 0 => -1
  | n + 1 => if f n = 0 then lastI f n else nI n
def dnI : Nat → Int32
  | 0 => -1
  | n + 1 => nI n
theorem dnI_pred (n : Nat) : nI n + (-1) = dnI n := by
  cases n with
  | zero => decide +kernel
  | succ n => exact pk_m1 n
def absI (x : Int32) : Int32 := if 0 ≤ x then x else 0 - x
def absL (x : Int64) : Int64 := if 0 < x then x else -x
def maxL (x y : Int64) : Int64 := if y < x then x else y
def rdL (v : Int64) (sh : Int32) : Int64 := (v + (1 <<< ((sh - 1).toInt64 &&& 63))) >>> (sh.toInt64 &&& 63)
def clampV (v : Int64) (lo hi : Int32) : Int32 := if v.toInt < lo.toInt64.toInt then lo else if hi.toInt64.toInt < v.toInt then hi else v.toInt32
def magV (v st : Int32) : Int32 := (2 * absI v + st) / (2 * st)
def nearV (v st : Int32) : Int32 := if v.toInt < 0 then -magV v st else magV v st
/-- n is a size, sp is 8 / n -/
def isSz (n : Int32) (nn sp : Nat) : Prop := n = nI nn ∧ ((nn = 1 ∧ sp = 8) ∨ (nn = 2 ∧ sp = 4) ∨ (nn = 4 ∧ sp = 2) ∨ (nn = 8 ∧ sp = 1))
def noSz (n : Int32) : Prop := n.toInt ≠ 1 ∧ n.toInt ≠ 2 ∧ n.toInt ≠ 4 ∧ n.toInt ≠ 8
theorem cx_ofN {x : Int32} {n : Nat} (h1 : 0 ≤ x.toInt) (h2 : x.toInt < (n : Int)) (hn : n < 2 ^ 31) : ∃ j : Nat, j < n ∧ x = nI j := by
  refine ⟨x.toInt.toNat, by omega, ?_⟩
  apply Int32.toInt_inj.mp
  rw [nI_toInt (by omega)]
  omega
theorem cx_nI_inj {a b : Nat} (ha : a < 2 ^ 31) (hb : b < 2 ^ 31) (h : nI a = nI b) : a = b := (nI_eq ha hb).mp h
/-- P of BACK, the greatest of them, S -/
def bP (sp nn : Nat) (f0 f1 : Nat → Int32) (y u : Nat) : Int64 := rdL (sumL (fun v => (wvN sp v y).toInt64 * (f0 (v * 8 + u) * f1 (v * 8 + u)).toInt64) nn) 11
def bG1 (P : Nat → Nat → Int64) (y : Nat) (g : Int64) : Nat → Int64
  | 0 => g
  | u + 1 => maxL (bG1 P y g u) (absL (P y u))
def bG (P : Nat → Nat → Int64) (nn : Nat) : Nat → Int64
  | 0 => 0
  | y + 1 => bG1 P y (bG P nn y) nn
def bS (sp nn : Nat) (P : Nat → Nat → Int64) (y x : Nat) : Int32 := clampV (rdL (sumL (fun u => (wvN sp u x).toInt64 * P y u) nn) 17 + 128) 0 255
/-- P and E of FORWARD -/
def fP (f2 : Nat → Int32) (v x : Nat) : Int64 := rdL (sumL (fun y => (wvN 1 v y * (f2 (y * 8 + x) - 128)).toInt64) 8) 11
def fE (P : Nat → Nat → Int64) (v u : Nat) : Int32 := (rdL (sumL (fun x => (wvN 1 u x).toInt64 * P v x) 8) 17).toInt32
def smp (f : Nat → Int32) (y : Nat) : Nat → Int64
  | 0 => 0
  | x + 1 => (smp f y x <<< ((8 : Int32).toInt64 &&& 63)) ||| (f (y * 8 + x)).toInt64
def rowV (e : Int64) (x : Nat) : Int32 := ((e.toUInt64 >>> ((nI (56 - 8 * x)).toInt64.toUInt64 &&& Int64.toUInt64 63)).toInt64).toInt32 &&& 255
def erX (f2 f3 : Nat → Int32) (y : Nat) (a : Int32) : Nat → Int32
  | 0 => a
  | x + 1 => erX f2 f3 y a x + (f2 (y * 8 + x) - f3 (y * 8 + x)) * (f2 (y * 8 + x) - f3 (y * 8 + x))
def erY (f2 f3 : Nat → Int32) (n : Nat) : Nat → Int32
  | 0 => 0
  | y + 1 => erX f2 f3 y (erY f2 f3 n y) n
def stV (base slope percent : Int32) (v u : Nat) : Int32 := clampV ((((base + slope * nI (u + v)) * percent + 50) / 100).toInt64) 1 255
theorem sumL_congr {f g : Nat → Int64} : ∀ {n : Nat}, (∀ i, i < n → f i = g i) → sumL f n = sumL g n
  | 0, _ => rfl
  | n + 1, h => by
    show sumL f n + f n = sumL g n + g n
    rw [sumL_congr (fun i hi => h i (Nat.lt_succ_of_lt hi)), h n (Nat.lt_succ_self n)]
theorem sumI_congr {f g : Nat → Int32} : ∀ {n : Nat}, (∀ i, i < n → f i = g i) → sumI f n = sumI g n
  | 0, _ => rfl
  | n + 1, h => by
    show sumI f n + f n = sumI g n + g n
    rw [sumI_congr (fun i hi => h i (Nat.lt_succ_of_lt hi)), h n (Nat.lt_succ_self n)]
theorem cntI_congr {f g : Nat → Int32} : ∀ {n : Nat}, (∀ i, i < n → f i = g i) → cntI f n = cntI g n
  | 0, _ => rfl
  | n + 1, h => by
    show (if f n = 0 then cntI f n else cntI f n + 1) = (if g n = 0 then cntI g n else cntI g n + 1)
    rw [cntI_congr (fun i hi => h i (Nat.lt_succ_of_lt hi)), h n (Nat.lt_succ_self n)]
theorem lastI_congr {f g : Nat → Int32} : ∀ {n : Nat}, (∀ i, i < n → f i = g i) → lastI f n = lastI g n
  | 0, _ => rfl
  | n + 1, h => by
    show (if f n = 0 then lastI f n else nI n) = (if g n = 0 then lastI g n else nI n)
    rw [lastI_congr (fun i hi => h i (Nat.lt_succ_of_lt hi)), h n (Nat.lt_succ_self n)]
theorem cx_eq0 {x : Int32} (h : x.toInt = 0) : x = 0 := Int32.toInt_inj.mp h
theorem cx_ne0 {x : Int32} (h : x.toInt ≠ 0) : ¬ x = 0 := fun q => h (by rw [q]; rfl)
theorem cntI_z {f : Nat → Int32} {n : Nat} (h : (f n).toInt = 0) : cntI f n = cntI f (n + 1) := by
  show _ = (if f n = 0 then cntI f n else cntI f n + 1)
  rw [if_pos (cx_eq0 h)]
theorem cntI_s {f : Nat → Int32} {n : Nat} (h : (f n).toInt ≠ 0) : cntI f n + 1 = cntI f (n + 1) := by
  show _ = (if f n = 0 then cntI f n else cntI f n + 1)
  rw [if_neg (cx_ne0 h)]
theorem lastI_z {f : Nat → Int32} {n : Nat} (h : (f n).toInt = 0) : lastI f (n + 1) = lastI f n := by
  show (if f n = 0 then lastI f n else nI n) = _
  rw [if_pos (cx_eq0 h)]
theorem lastI_s {f : Nat → Int32} {n : Nat} (h : (f n).toInt ≠ 0) : lastI f (n + 1) = nI n := by
  show (if f n = 0 then lastI f n else nI n) = _
  rw [if_neg (cx_ne0 h)]
theorem cx_2st {st : Int32} (h1 : 1 ≤ st.toInt) (h2 : st.toInt ≤ 255) : ¬ (2 : Int32) * st = 0 := by
  obtain ⟨k, hk, rfl⟩ := cx_ofN (x := st) (n := 256) (by omega) (by omega) (by decide)
  rw [nI_toInt (by omega)] at h1
  intro h
  exact nI_ne0 (n := 2 * k) (by omega) (by omega) ((pk_mul 2 k).symm.trans h)
def lookV (f0 f1 f2 : Nat → Int32) (q : Int32) : Int32 := if q.toInt = 0 then cntI f0 64 else if q.toInt = 1 then lastI (fun j => f0 (cCn j)) 64 else if q.toInt = 2 then sumI f1 64 else if q.toInt = 3 then sumI f2 64 else if q.toInt = 4 then sumI (fun j => absI (f0 j)) 64 else -1
def orderV (a b : Int32) : Int32 := if (0 ≤ a.toInt ∧ a.toInt < 8) ∧ (0 ≤ b.toInt ∧ b.toInt < 8) then cP (a.toInt.toNat * 8 + b.toInt.toNat) else -1
def samplesV (f2 : Nat → Int32) (y : Int32) : Int64 := if 0 ≤ y.toInt ∧ y.toInt < 8 then smp f2 y.toInt.toNat 8 else 0
theorem cx_toNat {j : Nat} (h : j < 2 ^ 31) : (nI j).toInt.toNat = j := by rw [nI_toInt h]; rfl
theorem fE_congr {P Q : Nat → Nat → Int64} {v u : Nat} (h : ∀ b, b < 8 → P v b = Q v b) : fE P v u = fE Q v u := by
  unfold fE
  rw [sumL_congr (fun i hi => by rw [h i hi])]
theorem bS_congr {P Q : Nat → Nat → Int64} {sp nn y x : Nat} (h : ∀ b, b < nn → P y b = Q y b) : bS sp nn P y x = bS sp nn Q y x := by
  unfold bS
  rw [sumL_congr (fun i hi => by rw [h i hi])]
theorem upd_step {f : Nat → Int32} {i : Nat} {x : Int32} {P : Nat → Int32 → Prop} (h : ∀ j, j < i → P j (f j)) (hx : P i x) : ∀ j, j < i + 1 → P j (upd f i x j) := by
  intro j hj
  by_cases hq : i = j
  · subst hq
    rw [pk_us]
    exact hx
  · rw [pk_un (fun q => hq q.symm)]
    exact h j (by omega)
def szOk (q : Int32) : Prop := q.toInt = 1 ∨ q.toInt = 2 ∨ q.toInt = 4 ∨ q.toInt = 8
theorem isSz_facts {q : Int32} {nn sp : Nat} (h : isSz q nn sp) : nn ≤ 8 ∧ sp ≤ 8 ∧ (sp ≠ 0 ∧ q.toInt = (nn : Int)) ∧ q.toInt.toNat = nn ∧ 8 / nn = sp ∧ szOk q := by
  obtain ⟨rfl, h⟩ := h
  rcases h with ⟨rfl, rfl⟩ | ⟨rfl, rfl⟩ | ⟨rfl, rfl⟩ | ⟨rfl, rfl⟩ <;> (unfold szOk; decide +kernel)
def atV (f0 f1 : Nat → Int32) (j : Nat) (k : Int32) : Int32 := if k.toInt = 0 then f0 (cCn j) else if k.toInt = 1 then f1 (cCn j) else if k.toInt = 2 then nI (cCn j) >>> (3 &&& 31) else nI (cCn j) &&& 7
