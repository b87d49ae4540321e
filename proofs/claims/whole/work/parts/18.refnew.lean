def plV (t : Nat) : Int := if t / 8 % 2 = 1 then ((t % 8 : Nat) : Int) else ((t / 8 : Nat) : Int) - ((t % 8 : Nat) : Int)
def plOk (t : Nat) : Prop := (0 ≤ plV t ∧ plV t < 8) ∧ (0 ≤ ((t / 8 : Nat) : Int) - plV t ∧ ((t / 8 : Nat) : Int) - plV t < 8)
def plD (t : Nat) : Bool := decide (0 ≤ plV t ∧ plV t < 8) && decide (0 ≤ ((t / 8 : Nat) : Int) - plV t ∧ ((t / 8 : Nat) : Int) - plV t < 8)
/-- how many places lie ahead of the step t = 8 * s + j -/
def plN : Nat → Nat
  | 0 => 0
  | t + 1 => if plD t = true then plN t + 1 else plN t
theorem plD_iff (t : Nat) : plD t = true ↔ plOk t := by
  unfold plD plOk
  rw [Bool.and_eq_true, decide_eq_true_eq, decide_eq_true_eq]
theorem plN_s {t : Nat} (h : plOk t) : plN (t + 1) = plN t + 1 := if_pos ((plD_iff t).mpr h)
theorem plN_z {t : Nat} (h : ¬ plOk t) : plN (t + 1) = plN t := if_neg (fun q => h ((plD_iff t).mp q))
theorem plN_at : ∀ t, t < 120 → plD t = true → plN t < 64 ∧ ((cCn (plN t) / 8 : Nat) : Int) = plV t ∧ ((cCn (plN t) % 8 : Nat) : Int) = ((t / 8 : Nat) : Int) - plV t := by decide +kernel
theorem plN_end : plN 120 = 64 := by decide +kernel
theorem pl_a {s j : Nat} (hs : s < 15) (hj : j < 8) (h : ((s % 2 : Nat) : Int) = 1) : (nI j).toInt = plV (8 * s + j) := by
  unfold plV
  rw [if_pos (by omega), nI_toInt (by omega)]
  omega
theorem pl_b {s j : Nat} (hs : s < 15) (hj : j < 8) (h : ((s % 2 : Nat) : Int) ≠ 1) : (nI s - nI j).toInt = plV (8 * s + j) := by
  unfold plV
  rw [if_neg (by omega), pk_sub_toInt (by omega) (by omega)]
  omega
theorem plV_bd {s j : Nat} (hs : s < 15) (hj : j < 8) : -8 ≤ plV (8 * s + j) ∧ plV (8 * s + j) < 15 := by
  unfold plV
  by_cases h : (8 * s + j) / 8 % 2 = 1
  · rw [if_pos h]; omega
  · rw [if_neg h]; omega
theorem pl_u {s : Nat} {v : Int32} (hs : s < 15) (h1 : -8 ≤ v.toInt) (h2 : v.toInt < 15) : (nI s - v).toInt = (s : Int) - v.toInt := by
  rw [Int32.toInt_sub, nI_toInt (by omega), Int.bmod_eq_of_le (by omega) (by omega)]
theorem pl_eq {v : Int32} {n : Nat} (hn : n < 64) (h : v.toInt = (n : Int)) : v = nI n := Int32.toInt_inj.mp (by rw [h, nI_toInt (by omega)])
theorem dX1_init_0 : decode cX1_init 0 = .ok (.aload_n 0, 1) := by decide +kernel
theorem dX1_init_1 : decode cX1_init 1 = .ok (.invokespecial 1, 3) := by decide +kernel
theorem dX1_init_4 : decode cX1_init 4 = .ok (.aload_n 0, 1) := by decide +kernel
theorem dX1_init_5 : decode cX1_init 5 = .ok (.bipush 64, 2) := by decide +kernel
theorem dX1_init_7 : decode cX1_init 7 = .ok (.newarray .int, 2) := by decide +kernel
theorem dX1_init_9 : decode cX1_init 9 = .ok (.putfield 7, 3) := by decide +kernel
theorem dX1_init_12 : decode cX1_init 12 = .ok (.aload_n 0, 1) := by decide +kernel
theorem dX1_init_13 : decode cX1_init 13 = .ok (.bipush 64, 2) := by decide +kernel
theorem dX1_init_15 : decode cX1_init 15 = .ok (.newarray .int, 2) := by decide +kernel
theorem dX1_init_17 : decode cX1_init 17 = .ok (.putfield 13, 3) := by decide +kernel
theorem dX1_init_20 : decode cX1_init 20 = .ok (.aload_n 0, 1) := by decide +kernel
theorem dX1_init_21 : decode cX1_init 21 = .ok (.bipush 64, 2) := by decide +kernel
theorem dX1_init_23 : decode cX1_init 23 = .ok (.newarray .int, 2) := by decide +kernel
theorem dX1_init_25 : decode cX1_init 25 = .ok (.putfield 16, 3) := by decide +kernel
theorem dX1_init_28 : decode cX1_init 28 = .ok (.aload_n 0, 1) := by decide +kernel
theorem dX1_init_29 : decode cX1_init 29 = .ok (.bipush 64, 2) := by decide +kernel
theorem dX1_init_31 : decode cX1_init 31 = .ok (.newarray .int, 2) := by decide +kernel
theorem dX1_init_33 : decode cX1_init 33 = .ok (.putfield 19, 3) := by decide +kernel
theorem dX1_init_36 : decode cX1_init 36 = .ok (.aload_n 0, 1) := by decide +kernel
theorem dX1_init_37 : decode cX1_init 37 = .ok (.bipush 64, 2) := by decide +kernel
theorem dX1_init_39 : decode cX1_init 39 = .ok (.newarray .int, 2) := by decide +kernel
theorem dX1_init_41 : decode cX1_init 41 = .ok (.putfield 22, 3) := by decide +kernel
theorem dX1_init_44 : decode cX1_init 44 = .ok (.aload_n 0, 1) := by decide +kernel
theorem dX1_init_45 : decode cX1_init 45 = .ok (.bipush 64, 2) := by decide +kernel
theorem dX1_init_47 : decode cX1_init 47 = .ok (.newarray .int, 2) := by decide +kernel
theorem dX1_init_49 : decode cX1_init 49 = .ok (.putfield 25, 3) := by decide +kernel
theorem dX1_init_52 : decode cX1_init 52 = .ok (.aload_n 0, 1) := by decide +kernel
theorem dX1_init_53 : decode cX1_init 53 = .ok (.bipush 64, 2) := by decide +kernel
theorem dX1_init_55 : decode cX1_init 55 = .ok (.newarray .long, 2) := by decide +kernel
theorem dX1_init_57 : decode cX1_init 57 = .ok (.putfield 28, 3) := by decide +kernel
theorem dX1_init_60 : decode cX1_init 60 = .ok (.iconst 0, 1) := by decide +kernel
theorem dX1_init_61 : decode cX1_init 61 = .ok (.istore_n 1, 1) := by decide +kernel
theorem dX1_init_62 : decode cX1_init 62 = .ok (.iconst 0, 1) := by decide +kernel
theorem dX1_init_63 : decode cX1_init 63 = .ok (.istore_n 2, 1) := by decide +kernel
theorem dX1_init_64 : decode cX1_init 64 = .ok (.iload_n 2, 1) := by decide +kernel
theorem dX1_init_65 : decode cX1_init 65 = .ok (.bipush 15, 2) := by decide +kernel
theorem dX1_init_67 : decode cX1_init 67 = .ok (.if_icmp .ge 88, 3) := by decide +kernel
theorem dX1_init_70 : decode cX1_init 70 = .ok (.iconst 0, 1) := by decide +kernel
theorem dX1_init_71 : decode cX1_init 71 = .ok (.istore_n 3, 1) := by decide +kernel
theorem dX1_init_72 : decode cX1_init 72 = .ok (.iload_n 3, 1) := by decide +kernel
theorem dX1_init_73 : decode cX1_init 73 = .ok (.bipush 8, 2) := by decide +kernel
theorem dX1_init_75 : decode cX1_init 75 = .ok (.if_icmp .ge 74, 3) := by decide +kernel
theorem dX1_init_78 : decode cX1_init 78 = .ok (.iload_n 2, 1) := by decide +kernel
theorem dX1_init_79 : decode cX1_init 79 = .ok (.iconst 2, 1) := by decide +kernel
theorem dX1_init_80 : decode cX1_init 80 = .ok (.irem, 1) := by decide +kernel
theorem dX1_init_81 : decode cX1_init 81 = .ok (.iconst 1, 1) := by decide +kernel
theorem dX1_init_82 : decode cX1_init 82 = .ok (.if_icmp .ne 7, 3) := by decide +kernel
theorem dX1_init_85 : decode cX1_init 85 = .ok (.iload_n 3, 1) := by decide +kernel
theorem dX1_init_86 : decode cX1_init 86 = .ok (.goto 6, 3) := by decide +kernel
theorem dX1_init_89 : decode cX1_init 89 = .ok (.iload_n 2, 1) := by decide +kernel
theorem dX1_init_90 : decode cX1_init 90 = .ok (.iload_n 3, 1) := by decide +kernel
theorem dX1_init_91 : decode cX1_init 91 = .ok (.isub, 1) := by decide +kernel
theorem dX1_init_92 : decode cX1_init 92 = .ok (.istore 4, 2) := by decide +kernel
theorem dX1_init_94 : decode cX1_init 94 = .ok (.iload_n 2, 1) := by decide +kernel
theorem dX1_init_95 : decode cX1_init 95 = .ok (.iload 4, 2) := by decide +kernel
theorem dX1_init_97 : decode cX1_init 97 = .ok (.isub, 1) := by decide +kernel
theorem dX1_init_98 : decode cX1_init 98 = .ok (.istore 5, 2) := by decide +kernel
theorem dX1_init_100 : decode cX1_init 100 = .ok (.iload 4, 2) := by decide +kernel
theorem dX1_init_102 : decode cX1_init 102 = .ok (.ifCond .lt 41, 3) := by decide +kernel
theorem dX1_init_105 : decode cX1_init 105 = .ok (.iload 4, 2) := by decide +kernel
theorem dX1_init_107 : decode cX1_init 107 = .ok (.bipush 8, 2) := by decide +kernel
theorem dX1_init_109 : decode cX1_init 109 = .ok (.if_icmp .ge 34, 3) := by decide +kernel
theorem dX1_init_112 : decode cX1_init 112 = .ok (.iload 5, 2) := by decide +kernel
theorem dX1_init_114 : decode cX1_init 114 = .ok (.ifCond .lt 29, 3) := by decide +kernel
theorem dX1_init_117 : decode cX1_init 117 = .ok (.iload 5, 2) := by decide +kernel
theorem dX1_init_119 : decode cX1_init 119 = .ok (.bipush 8, 2) := by decide +kernel
theorem dX1_init_121 : decode cX1_init 121 = .ok (.if_icmp .ge 22, 3) := by decide +kernel
theorem dX1_init_124 : decode cX1_init 124 = .ok (.aload_n 0, 1) := by decide +kernel
theorem dX1_init_125 : decode cX1_init 125 = .ok (.getfield 22, 3) := by decide +kernel
theorem dX1_init_128 : decode cX1_init 128 = .ok (.iload_n 1, 1) := by decide +kernel
theorem dX1_init_129 : decode cX1_init 129 = .ok (.iload 4, 2) := by decide +kernel
theorem dX1_init_131 : decode cX1_init 131 = .ok (.iastore, 1) := by decide +kernel
theorem dX1_init_132 : decode cX1_init 132 = .ok (.aload_n 0, 1) := by decide +kernel
theorem dX1_init_133 : decode cX1_init 133 = .ok (.getfield 25, 3) := by decide +kernel
theorem dX1_init_136 : decode cX1_init 136 = .ok (.iload_n 1, 1) := by decide +kernel
theorem dX1_init_137 : decode cX1_init 137 = .ok (.iload 5, 2) := by decide +kernel
theorem dX1_init_139 : decode cX1_init 139 = .ok (.iastore, 1) := by decide +kernel
theorem dX1_init_140 : decode cX1_init 140 = .ok (.iinc 1 1, 3) := by decide +kernel
theorem dX1_init_143 : decode cX1_init 143 = .ok (.iinc 3 1, 3) := by decide +kernel
theorem dX1_init_146 : decode cX1_init 146 = .ok (.goto (-74), 3) := by decide +kernel
theorem dX1_init_149 : decode cX1_init 149 = .ok (.iinc 2 1, 3) := by decide +kernel
theorem dX1_init_152 : decode cX1_init 152 = .ok (.goto (-88), 3) := by decide +kernel
theorem dX1_init_155 : decode cX1_init 155 = .ok (.iconst 0, 1) := by decide +kernel
theorem dX1_init_156 : decode cX1_init 156 = .ok (.istore_n 2, 1) := by decide +kernel
theorem dX1_init_157 : decode cX1_init 157 = .ok (.iload_n 2, 1) := by decide +kernel
theorem dX1_init_158 : decode cX1_init 158 = .ok (.bipush 64, 2) := by decide +kernel
theorem dX1_init_160 : decode cX1_init 160 = .ok (.if_icmp .ge 16, 3) := by decide +kernel
theorem dX1_init_163 : decode cX1_init 163 = .ok (.aload_n 0, 1) := by decide +kernel
theorem dX1_init_164 : decode cX1_init 164 = .ok (.getfield 13, 3) := by decide +kernel
theorem dX1_init_167 : decode cX1_init 167 = .ok (.iload_n 2, 1) := by decide +kernel
theorem dX1_init_168 : decode cX1_init 168 = .ok (.iconst 1, 1) := by decide +kernel
theorem dX1_init_169 : decode cX1_init 169 = .ok (.iastore, 1) := by decide +kernel
theorem dX1_init_170 : decode cX1_init 170 = .ok (.iinc 2 1, 3) := by decide +kernel
theorem dX1_init_173 : decode cX1_init 173 = .ok (.goto (-16), 3) := by decide +kernel
theorem dX1_init_176 : decode cX1_init 176 = .ok (.return_, 1) := by decide +kernel
set_option maxHeartbeats 4000000 in
set_option maxRecDepth 100000 in
/-- the reference: a new object -/
theorem n_init (l : Launch) (D : va_G) (h0 sz : Nat) : Met l yX1_init wsX1_init ({ frames := 1, cells := 7, slots := 448, locals := 12 } : Room) (va_Pc [.ref h0] (crw D ([(h0, .inr (1, [.int (0 : Int32), .null, .null, .null, .null, .null, .null, .null]))]) [] sz)) (va_Qv (fun (u : (Nat → Nat) × (Nat → ClassId) × (Nat → Int32) × (Nat → Int32) × (Nat → Int32)) => u.1 0 = h0 ∧ (∀ j, j < 64 → u.2.2.1 j = 1) ∧ dnOk u.2.2.2.1 u.2.2.2.2) (fun (u : (Nat → Nat) × (Nat → ClassId) × (Nat → Int32) × (Nat → Int32) × (Nat → Int32)) (t : State) => crB D (mw u.1 u.2.1 0 (fun _ => 0) u.2.2.1 (fun _ => 0) (fun _ => 0) u.2.2.2.1 u.2.2.2.2 (fun _ => 0)) (mty u.2.1) (va_A ([(h0, .inr (1, [.int (0 : Int32), .null, .null, .null, .null, .null, .null, .null]))]) sz) t) (va_A ([(h0, .inr (1, [.int (0 : Int32), .null, .null, .null, .null, .null, .null, .null]))]) sz)) 7 448 (va_A ([(h0, .inr (1, [.int (0 : Int32), .null, .null, .null, .null, .null, .null, .null]))]) sz) := by
  refine Met.ofW (cc := cX1_init) (maxL := 6) (ret := none) (by decide) rfl ?_
  intro p e s m args below meth c s₁ B hml hv
  obtain ⟨rfl, hsz, hP, hK, hD0, hTb⟩ := hv
  have hx := B.exec
  have hb := B.bytes
  have hr := B.returns
  have hts : ∀ w ∈ wA, w.before _ s = true := fun w h => atoms_spec (ws := wsX1_init) B.pre w (List.mem_cons_of_mem _ h)
  have hown : s.vm.findClass RX1 = some m.cls := findClass_of_methodNamed B.named
  have hlocks := B.notSynchronized
  have hin : meth.name = "<init>" := (name_of_methodNamed B.named B.method).1
  subst hsz
  have hD := hD0.self (sz := s.heap.size)
  generalize hAe : va_A ([(h0, .inr (1, [.int (0 : Int32), .null, .null, .null, .null, .null, .null, .null]))]) s.heap.size = A at hD hTb ⊢
  have hA : ∀ q : Nat, s.heap.size ≤ q → A q := fun q h => by rw [← hAe]; exact Or.inr h
  have hS : va_S A s.heap s.heap [] := va_S.rf
  have hin1 := inA1
  have hf7 := (hts _ wm_303)
  have hf13 := (hts _ wm_304)
  have hf16 := (hts _ wm_305)
  have hf19 := (hts _ wm_306)
  have hf22 := (hts _ wm_307)
  have hf25 := (hts _ wm_308)
  have hf28 := (hts _ wm_309)
  have hl := lv_entry ([.ref h0]) (n := 6) (Nat.le_of_ble_eq_true rfl)
  rw [lg_entry_eq]
  generalize (lg_sl ([.ref h0]) ++ List.replicate (6 - (lg_sl ([.ref h0])).length) Slot.unset).toArray = ls at hl ⊢
  have hl : lv_has ls 6 [(0, .ref h0)] := hl
  refine lv_aload_n hx hb dX1_init_0 rfl (lv_at hl 0 rfl) ?_
  refine W.objInit hx hb hown (hts _ wm_301) (hts _ wm_26) (hts _ wm_27) rfl (by rw [hml]; exact hl.1) rfl dX1_init_1 (Nat.le_of_ble_eq_true rfl) (Nat.le_of_ble_eq_true rfl) ?_
  refine W.eq (g2 := F0 m 4 ls []) rfl ?_
  refine lv_aload_n hx hb dX1_init_4 rfl (lv_at hl 0 rfl) ?_
  refine lv_bipush (v := (64 : Int32)) hx hb dX1_init_5 (by decide +kernel) ?_
  refine va_newa (atype := .int) (ty := .int) (N' := 64) (a0 := (64, .inl (fun _ => 0))) hx hb (hts _ wm_44) rfl hK hP hD hS hA (fun cA => rfl) (by decide) (by decide) (by decide) (Nat.le_of_ble_eq_true rfl) (Nat.le_of_ble_eq_true rfl) dX1_init_7 (fun q1 c1 H hK hP hD hS => ?_)
  have hP : va_P D vwCl ([(h0, .inr (1, [.int (0 : Int32), .null, .null, .null, .null, .null, .null, .null])), (q1, .inl (c1, 64, .inl (fun _ => 0)))]) H := hP
  have hD : va_D A ([(h0, .inr (1, [.int (0 : Int32), .null, .null, .null, .null, .null, .null, .null])), (q1, .inl (c1, 64, .inl (fun _ => 0)))]) := hD
  have hK : va_K D vwCl [(c1, .int)] s := hK
  refine va_putF (D := D) (ci := 1) (v := .ref q1) (ty := .array .int) (C := RX1) (T := TX1) (N := 8) hx hb hts hin1 tyX1 tyX1_ok nmX1 hown hK hP hD hS 0 rfl rfl 1 (by decide) hf7 (fun _ h9 => h9) rfl hin rfl (by decide +kernel) rfl rfl (Nat.le_of_ble_eq_true rfl) dX1_init_9 (fun H locs hP hD hS => ?_)
  have hP : va_P D vwCl ([(h0, .inr (1, [.int (0 : Int32), .ref q1, .null, .null, .null, .null, .null, .null])), (q1, .inl (c1, 64, .inl (fun _ => 0)))]) H := hP
  have hD : va_D A ([(h0, .inr (1, [.int (0 : Int32), .ref q1, .null, .null, .null, .null, .null, .null])), (q1, .inl (c1, 64, .inl (fun _ => 0)))]) := hD
  refine lv_aload_n hx hb dX1_init_12 rfl (lv_at hl 0 rfl) ?_
  refine lv_bipush (v := (64 : Int32)) hx hb dX1_init_13 (by decide +kernel) ?_
  refine va_newa (atype := .int) (ty := .int) (N' := 64) (a0 := (64, .inl (fun _ => 0))) hx hb (hts _ wm_44) rfl hK hP hD hS hA (fun cA => rfl) (by decide) (by decide) (by decide) (Nat.le_of_ble_eq_true rfl) (Nat.le_of_ble_eq_true rfl) dX1_init_15 (fun q2 c2 H hK hP hD hS => ?_)
  have hP : va_P D vwCl ([(h0, .inr (1, [.int (0 : Int32), .ref q1, .null, .null, .null, .null, .null, .null])), (q1, .inl (c1, 64, .inl (fun _ => 0))), (q2, .inl (c2, 64, .inl (fun _ => 0)))]) H := hP
  have hD : va_D A ([(h0, .inr (1, [.int (0 : Int32), .ref q1, .null, .null, .null, .null, .null, .null])), (q1, .inl (c1, 64, .inl (fun _ => 0))), (q2, .inl (c2, 64, .inl (fun _ => 0)))]) := hD
  have hK : va_K D vwCl [(c1, .int), (c2, .int)] s := hK
  refine va_putF (D := D) (ci := 1) (v := .ref q2) (ty := .array .int) (C := RX1) (T := TX1) (N := 8) hx hb hts hin1 tyX1 tyX1_ok nmX1 hown hK hP hD hS 0 rfl rfl 2 (by decide) hf13 (fun _ h9 => h9) rfl hin rfl (by decide +kernel) rfl rfl (Nat.le_of_ble_eq_true rfl) dX1_init_17 (fun H locs hP hD hS => ?_)
  have hP : va_P D vwCl ([(h0, .inr (1, [.int (0 : Int32), .ref q1, .ref q2, .null, .null, .null, .null, .null])), (q1, .inl (c1, 64, .inl (fun _ => 0))), (q2, .inl (c2, 64, .inl (fun _ => 0)))]) H := hP
  have hD : va_D A ([(h0, .inr (1, [.int (0 : Int32), .ref q1, .ref q2, .null, .null, .null, .null, .null])), (q1, .inl (c1, 64, .inl (fun _ => 0))), (q2, .inl (c2, 64, .inl (fun _ => 0)))]) := hD
  refine lv_aload_n hx hb dX1_init_20 rfl (lv_at hl 0 rfl) ?_
  refine lv_bipush (v := (64 : Int32)) hx hb dX1_init_21 (by decide +kernel) ?_
  refine va_newa (atype := .int) (ty := .int) (N' := 64) (a0 := (64, .inl (fun _ => 0))) hx hb (hts _ wm_44) rfl hK hP hD hS hA (fun cA => rfl) (by decide) (by decide) (by decide) (Nat.le_of_ble_eq_true rfl) (Nat.le_of_ble_eq_true rfl) dX1_init_23 (fun q3 c3 H hK hP hD hS => ?_)
  have hP : va_P D vwCl ([(h0, .inr (1, [.int (0 : Int32), .ref q1, .ref q2, .null, .null, .null, .null, .null])), (q1, .inl (c1, 64, .inl (fun _ => 0))), (q2, .inl (c2, 64, .inl (fun _ => 0))), (q3, .inl (c3, 64, .inl (fun _ => 0)))]) H := hP
  have hD : va_D A ([(h0, .inr (1, [.int (0 : Int32), .ref q1, .ref q2, .null, .null, .null, .null, .null])), (q1, .inl (c1, 64, .inl (fun _ => 0))), (q2, .inl (c2, 64, .inl (fun _ => 0))), (q3, .inl (c3, 64, .inl (fun _ => 0)))]) := hD
  have hK : va_K D vwCl [(c1, .int), (c2, .int), (c3, .int)] s := hK
  refine va_putF (D := D) (ci := 1) (v := .ref q3) (ty := .array .int) (C := RX1) (T := TX1) (N := 8) hx hb hts hin1 tyX1 tyX1_ok nmX1 hown hK hP hD hS 0 rfl rfl 3 (by decide) hf16 (fun _ h9 => h9) rfl hin rfl (by decide +kernel) rfl rfl (Nat.le_of_ble_eq_true rfl) dX1_init_25 (fun H locs hP hD hS => ?_)
  have hP : va_P D vwCl ([(h0, .inr (1, [.int (0 : Int32), .ref q1, .ref q2, .ref q3, .null, .null, .null, .null])), (q1, .inl (c1, 64, .inl (fun _ => 0))), (q2, .inl (c2, 64, .inl (fun _ => 0))), (q3, .inl (c3, 64, .inl (fun _ => 0)))]) H := hP
  have hD : va_D A ([(h0, .inr (1, [.int (0 : Int32), .ref q1, .ref q2, .ref q3, .null, .null, .null, .null])), (q1, .inl (c1, 64, .inl (fun _ => 0))), (q2, .inl (c2, 64, .inl (fun _ => 0))), (q3, .inl (c3, 64, .inl (fun _ => 0)))]) := hD
  refine lv_aload_n hx hb dX1_init_28 rfl (lv_at hl 0 rfl) ?_
  refine lv_bipush (v := (64 : Int32)) hx hb dX1_init_29 (by decide +kernel) ?_
  refine va_newa (atype := .int) (ty := .int) (N' := 64) (a0 := (64, .inl (fun _ => 0))) hx hb (hts _ wm_44) rfl hK hP hD hS hA (fun cA => rfl) (by decide) (by decide) (by decide) (Nat.le_of_ble_eq_true rfl) (Nat.le_of_ble_eq_true rfl) dX1_init_31 (fun q4 c4 H hK hP hD hS => ?_)
  have hP : va_P D vwCl ([(h0, .inr (1, [.int (0 : Int32), .ref q1, .ref q2, .ref q3, .null, .null, .null, .null])), (q1, .inl (c1, 64, .inl (fun _ => 0))), (q2, .inl (c2, 64, .inl (fun _ => 0))), (q3, .inl (c3, 64, .inl (fun _ => 0))), (q4, .inl (c4, 64, .inl (fun _ => 0)))]) H := hP
  have hD : va_D A ([(h0, .inr (1, [.int (0 : Int32), .ref q1, .ref q2, .ref q3, .null, .null, .null, .null])), (q1, .inl (c1, 64, .inl (fun _ => 0))), (q2, .inl (c2, 64, .inl (fun _ => 0))), (q3, .inl (c3, 64, .inl (fun _ => 0))), (q4, .inl (c4, 64, .inl (fun _ => 0)))]) := hD
  have hK : va_K D vwCl [(c1, .int), (c2, .int), (c3, .int), (c4, .int)] s := hK
  refine va_putF (D := D) (ci := 1) (v := .ref q4) (ty := .array .int) (C := RX1) (T := TX1) (N := 8) hx hb hts hin1 tyX1 tyX1_ok nmX1 hown hK hP hD hS 0 rfl rfl 4 (by decide) hf19 (fun _ h9 => h9) rfl hin rfl (by decide +kernel) rfl rfl (Nat.le_of_ble_eq_true rfl) dX1_init_33 (fun H locs hP hD hS => ?_)
  have hP : va_P D vwCl ([(h0, .inr (1, [.int (0 : Int32), .ref q1, .ref q2, .ref q3, .ref q4, .null, .null, .null])), (q1, .inl (c1, 64, .inl (fun _ => 0))), (q2, .inl (c2, 64, .inl (fun _ => 0))), (q3, .inl (c3, 64, .inl (fun _ => 0))), (q4, .inl (c4, 64, .inl (fun _ => 0)))]) H := hP
  have hD : va_D A ([(h0, .inr (1, [.int (0 : Int32), .ref q1, .ref q2, .ref q3, .ref q4, .null, .null, .null])), (q1, .inl (c1, 64, .inl (fun _ => 0))), (q2, .inl (c2, 64, .inl (fun _ => 0))), (q3, .inl (c3, 64, .inl (fun _ => 0))), (q4, .inl (c4, 64, .inl (fun _ => 0)))]) := hD
  refine lv_aload_n hx hb dX1_init_36 rfl (lv_at hl 0 rfl) ?_
  refine lv_bipush (v := (64 : Int32)) hx hb dX1_init_37 (by decide +kernel) ?_
  refine va_newa (atype := .int) (ty := .int) (N' := 64) (a0 := (64, .inl (fun _ => 0))) hx hb (hts _ wm_44) rfl hK hP hD hS hA (fun cA => rfl) (by decide) (by decide) (by decide) (Nat.le_of_ble_eq_true rfl) (Nat.le_of_ble_eq_true rfl) dX1_init_39 (fun q5 c5 H hK hP hD hS => ?_)
  have hP : va_P D vwCl ([(h0, .inr (1, [.int (0 : Int32), .ref q1, .ref q2, .ref q3, .ref q4, .null, .null, .null])), (q1, .inl (c1, 64, .inl (fun _ => 0))), (q2, .inl (c2, 64, .inl (fun _ => 0))), (q3, .inl (c3, 64, .inl (fun _ => 0))), (q4, .inl (c4, 64, .inl (fun _ => 0))), (q5, .inl (c5, 64, .inl (fun _ => 0)))]) H := hP
  have hD : va_D A ([(h0, .inr (1, [.int (0 : Int32), .ref q1, .ref q2, .ref q3, .ref q4, .null, .null, .null])), (q1, .inl (c1, 64, .inl (fun _ => 0))), (q2, .inl (c2, 64, .inl (fun _ => 0))), (q3, .inl (c3, 64, .inl (fun _ => 0))), (q4, .inl (c4, 64, .inl (fun _ => 0))), (q5, .inl (c5, 64, .inl (fun _ => 0)))]) := hD
  have hK : va_K D vwCl [(c1, .int), (c2, .int), (c3, .int), (c4, .int), (c5, .int)] s := hK
  refine va_putF (D := D) (ci := 1) (v := .ref q5) (ty := .array .int) (C := RX1) (T := TX1) (N := 8) hx hb hts hin1 tyX1 tyX1_ok nmX1 hown hK hP hD hS 0 rfl rfl 5 (by decide) hf22 (fun _ h9 => h9) rfl hin rfl (by decide +kernel) rfl rfl (Nat.le_of_ble_eq_true rfl) dX1_init_41 (fun H locs hP hD hS => ?_)
  have hP : va_P D vwCl ([(h0, .inr (1, [.int (0 : Int32), .ref q1, .ref q2, .ref q3, .ref q4, .ref q5, .null, .null])), (q1, .inl (c1, 64, .inl (fun _ => 0))), (q2, .inl (c2, 64, .inl (fun _ => 0))), (q3, .inl (c3, 64, .inl (fun _ => 0))), (q4, .inl (c4, 64, .inl (fun _ => 0))), (q5, .inl (c5, 64, .inl (fun _ => 0)))]) H := hP
  have hD : va_D A ([(h0, .inr (1, [.int (0 : Int32), .ref q1, .ref q2, .ref q3, .ref q4, .ref q5, .null, .null])), (q1, .inl (c1, 64, .inl (fun _ => 0))), (q2, .inl (c2, 64, .inl (fun _ => 0))), (q3, .inl (c3, 64, .inl (fun _ => 0))), (q4, .inl (c4, 64, .inl (fun _ => 0))), (q5, .inl (c5, 64, .inl (fun _ => 0)))]) := hD
  refine lv_aload_n hx hb dX1_init_44 rfl (lv_at hl 0 rfl) ?_
  refine lv_bipush (v := (64 : Int32)) hx hb dX1_init_45 (by decide +kernel) ?_
  refine va_newa (atype := .int) (ty := .int) (N' := 64) (a0 := (64, .inl (fun _ => 0))) hx hb (hts _ wm_44) rfl hK hP hD hS hA (fun cA => rfl) (by decide) (by decide) (by decide) (Nat.le_of_ble_eq_true rfl) (Nat.le_of_ble_eq_true rfl) dX1_init_47 (fun q6 c6 H hK hP hD hS => ?_)
  have hP : va_P D vwCl ([(h0, .inr (1, [.int (0 : Int32), .ref q1, .ref q2, .ref q3, .ref q4, .ref q5, .null, .null])), (q1, .inl (c1, 64, .inl (fun _ => 0))), (q2, .inl (c2, 64, .inl (fun _ => 0))), (q3, .inl (c3, 64, .inl (fun _ => 0))), (q4, .inl (c4, 64, .inl (fun _ => 0))), (q5, .inl (c5, 64, .inl (fun _ => 0))), (q6, .inl (c6, 64, .inl (fun _ => 0)))]) H := hP
  have hD : va_D A ([(h0, .inr (1, [.int (0 : Int32), .ref q1, .ref q2, .ref q3, .ref q4, .ref q5, .null, .null])), (q1, .inl (c1, 64, .inl (fun _ => 0))), (q2, .inl (c2, 64, .inl (fun _ => 0))), (q3, .inl (c3, 64, .inl (fun _ => 0))), (q4, .inl (c4, 64, .inl (fun _ => 0))), (q5, .inl (c5, 64, .inl (fun _ => 0))), (q6, .inl (c6, 64, .inl (fun _ => 0)))]) := hD
  have hK : va_K D vwCl [(c1, .int), (c2, .int), (c3, .int), (c4, .int), (c5, .int), (c6, .int)] s := hK
  refine va_putF (D := D) (ci := 1) (v := .ref q6) (ty := .array .int) (C := RX1) (T := TX1) (N := 8) hx hb hts hin1 tyX1 tyX1_ok nmX1 hown hK hP hD hS 0 rfl rfl 6 (by decide) hf25 (fun _ h9 => h9) rfl hin rfl (by decide +kernel) rfl rfl (Nat.le_of_ble_eq_true rfl) dX1_init_49 (fun H locs hP hD hS => ?_)
  have hP : va_P D vwCl ([(h0, .inr (1, [.int (0 : Int32), .ref q1, .ref q2, .ref q3, .ref q4, .ref q5, .ref q6, .null])), (q1, .inl (c1, 64, .inl (fun _ => 0))), (q2, .inl (c2, 64, .inl (fun _ => 0))), (q3, .inl (c3, 64, .inl (fun _ => 0))), (q4, .inl (c4, 64, .inl (fun _ => 0))), (q5, .inl (c5, 64, .inl (fun _ => 0))), (q6, .inl (c6, 64, .inl (fun _ => 0)))]) H := hP
  have hD : va_D A ([(h0, .inr (1, [.int (0 : Int32), .ref q1, .ref q2, .ref q3, .ref q4, .ref q5, .ref q6, .null])), (q1, .inl (c1, 64, .inl (fun _ => 0))), (q2, .inl (c2, 64, .inl (fun _ => 0))), (q3, .inl (c3, 64, .inl (fun _ => 0))), (q4, .inl (c4, 64, .inl (fun _ => 0))), (q5, .inl (c5, 64, .inl (fun _ => 0))), (q6, .inl (c6, 64, .inl (fun _ => 0)))]) := hD
  refine lv_aload_n hx hb dX1_init_52 rfl (lv_at hl 0 rfl) ?_
  refine lv_bipush (v := (64 : Int32)) hx hb dX1_init_53 (by decide +kernel) ?_
  refine va_newa (atype := .long) (ty := .long) (N' := 64) (a0 := (64, .inr (.inl (fun _ => 0)))) hx hb (hts _ wm_45) rfl hK hP hD hS hA (fun cA => rfl) (by decide) (by decide) (by decide) (Nat.le_of_ble_eq_true rfl) (Nat.le_of_ble_eq_true rfl) dX1_init_55 (fun q7 c7 H hK hP hD hS => ?_)
  have hP : va_P D vwCl ([(h0, .inr (1, [.int (0 : Int32), .ref q1, .ref q2, .ref q3, .ref q4, .ref q5, .ref q6, .null])), (q1, .inl (c1, 64, .inl (fun _ => 0))), (q2, .inl (c2, 64, .inl (fun _ => 0))), (q3, .inl (c3, 64, .inl (fun _ => 0))), (q4, .inl (c4, 64, .inl (fun _ => 0))), (q5, .inl (c5, 64, .inl (fun _ => 0))), (q6, .inl (c6, 64, .inl (fun _ => 0))), (q7, .inl (c7, 64, .inr (.inl (fun _ => 0))))]) H := hP
  have hD : va_D A ([(h0, .inr (1, [.int (0 : Int32), .ref q1, .ref q2, .ref q3, .ref q4, .ref q5, .ref q6, .null])), (q1, .inl (c1, 64, .inl (fun _ => 0))), (q2, .inl (c2, 64, .inl (fun _ => 0))), (q3, .inl (c3, 64, .inl (fun _ => 0))), (q4, .inl (c4, 64, .inl (fun _ => 0))), (q5, .inl (c5, 64, .inl (fun _ => 0))), (q6, .inl (c6, 64, .inl (fun _ => 0))), (q7, .inl (c7, 64, .inr (.inl (fun _ => 0))))]) := hD
  have hK : va_K D vwCl [(c1, .int), (c2, .int), (c3, .int), (c4, .int), (c5, .int), (c6, .int), (c7, .long)] s := hK
  refine va_putF (D := D) (ci := 1) (v := .ref q7) (ty := .array .long) (C := RX1) (T := TX1) (N := 8) hx hb hts hin1 tyX1 tyX1_ok nmX1 hown hK hP hD hS 0 rfl rfl 7 (by decide) hf28 (fun _ h9 => h9) rfl hin rfl (by decide +kernel) rfl rfl (Nat.le_of_ble_eq_true rfl) dX1_init_57 (fun H locs hP hD hS => ?_)
  have hP : va_P D vwCl ([(h0, .inr (1, [.int (0 : Int32), .ref q1, .ref q2, .ref q3, .ref q4, .ref q5, .ref q6, .ref q7])), (q1, .inl (c1, 64, .inl (fun _ => 0))), (q2, .inl (c2, 64, .inl (fun _ => 0))), (q3, .inl (c3, 64, .inl (fun _ => 0))), (q4, .inl (c4, 64, .inl (fun _ => 0))), (q5, .inl (c5, 64, .inl (fun _ => 0))), (q6, .inl (c6, 64, .inl (fun _ => 0))), (q7, .inl (c7, 64, .inr (.inl (fun _ => 0))))]) H := hP
  have hD : va_D A ([(h0, .inr (1, [.int (0 : Int32), .ref q1, .ref q2, .ref q3, .ref q4, .ref q5, .ref q6, .ref q7])), (q1, .inl (c1, 64, .inl (fun _ => 0))), (q2, .inl (c2, 64, .inl (fun _ => 0))), (q3, .inl (c3, 64, .inl (fun _ => 0))), (q4, .inl (c4, 64, .inl (fun _ => 0))), (q5, .inl (c5, 64, .inl (fun _ => 0))), (q6, .inl (c6, 64, .inl (fun _ => 0))), (q7, .inl (c7, 64, .inr (.inl (fun _ => 0))))]) := hD
  refine lv_iconst (v := (0 : Int32)) hx hb dX1_init_60 (by decide +kernel) ?_
  refine lv_istore_n (lv' := [(1, .int (0 : Int32)), (0, .ref h0)]) hx hb dX1_init_61 rfl hl (by decide) rfl (fun ls hl => ?_)
  refine lv_iconst (v := (0 : Int32)) hx hb dX1_init_62 (by decide +kernel) ?_
  refine lv_istore_n (lv' := [(2, .int (0 : Int32)), (1, .int (0 : Int32)), (0, .ref h0)]) hx hb dX1_init_63 rfl hl (by decide) rfl (fun ls hl => ?_)
  have L64 : ∀ (n : Nat) (s9 : Nat) (w5 : Nat → Int32) (w6 : Nat → Int32) (H : Heap) (locs : List Loc) (ls : Array Slot), (15 - s9) < n → (s9 ≤ 15) → (∀ i, i < plN (8 * s9) → w5 i = nI (cCn i / 8) ∧ w6 i = nI (cCn i % 8)) → va_P D vwCl ([(h0, .inr (1, [.int (0 : Int32), .ref q1, .ref q2, .ref q3, .ref q4, .ref q5, .ref q6, .ref q7])), (q1, .inl (c1, 64, .inl (fun _ => 0))), (q2, .inl (c2, 64, .inl (fun _ => 0))), (q3, .inl (c3, 64, .inl (fun _ => 0))), (q4, .inl (c4, 64, .inl (fun _ => 0))), (q5, .inl (c5, 64, .inl w5)), (q6, .inl (c6, 64, .inl w6)), (q7, .inl (c7, 64, .inr (.inl (fun _ => 0))))]) H → va_D A ([(h0, .inr (1, [.int (0 : Int32), .ref q1, .ref q2, .ref q3, .ref q4, .ref q5, .ref q6, .ref q7])), (q1, .inl (c1, 64, .inl (fun _ => 0))), (q2, .inl (c2, 64, .inl (fun _ => 0))), (q3, .inl (c3, 64, .inl (fun _ => 0))), (q4, .inl (c4, 64, .inl (fun _ => 0))), (q5, .inl (c5, 64, .inl w5)), (q6, .inl (c6, 64, .inl w6)), (q7, .inl (c7, 64, .inr (.inl (fun _ => 0))))]) → va_S A s.heap H locs → lv_has ls 6 [(0, .ref h0), (1, .int (nI (plN (8 * s9)))), (2, .int (nI s9))] → W p l e ((headSpec wsX1_init ({ frames := 1, cells := 7, slots := 448, locals := 12 } : Room)).room) s m (([.ref h0] : List Value).toArray) below meth c H locs 7 448 (MQ below (va_Qv (fun (u : (Nat → Nat) × (Nat → ClassId) × (Nat → Int32) × (Nat → Int32) × (Nat → Int32)) => u.1 0 = h0 ∧ (∀ j, j < 64 → u.2.2.1 j = 1) ∧ dnOk u.2.2.2.1 u.2.2.2.2) (fun (u : (Nat → Nat) × (Nat → ClassId) × (Nat → Int32) × (Nat → Int32) × (Nat → Int32)) (t : State) => crB D (mw u.1 u.2.1 0 (fun _ => 0) u.2.2.1 (fun _ => 0) (fun _ => 0) u.2.2.2.1 u.2.2.2.2 (fun _ => 0)) (mty u.2.1) A t) A) ([.ref h0] : List Value).toArray s 7 448 A) (F0 m 64 ls []) := by
    intro n
    induction n with
    | zero =>
      intro s9 w5 w6 H locs ls hn
      exact absurd hn (Nat.not_lt_zero _)
    | succ n ih64 =>
      intro s9 w5 w6 H locs ls hn64 hs9 hw9 hP hD hS hl
      refine lv_iload_n hx hb dX1_init_64 rfl (lv_at hl 2 rfl) ?_
      refine lv_bipush (v := (15 : Int32)) hx hb dX1_init_65 (by decide +kernel) ?_
      refine cx_icmp_ge (i := ((s9 : Nat) : Int)) (j := 15) (tgt := 155) hx hb (nI_toInt (by omega)) (by decide +kernel) dX1_init_67 (by decide) (fun c_1 => ?_) (fun c_1 => ?_)
      · have hs15 : 8 * s9 = 120 := by omega
        have hdn : dnOk w5 w6 := fun i hi => hw9 i (by rw [hs15, plN_end]; exact hi)
        refine lv_iconst (v := (0 : Int32)) hx hb dX1_init_155 (by decide +kernel) ?_
        refine lv_istore_n (lv' := [(2, .int (0 : Int32)), (0, .ref h0), (1, .int (nI (plN (8 * s9))))]) hx hb dX1_init_156 rfl hl (by decide) rfl (fun ls hl => ?_)
        have L157 : ∀ (n : Nat) (i9 : Nat) (w9 : Nat → Int32) (H : Heap) (locs : List Loc) (ls : Array Slot), (64 - i9) < n → (i9 ≤ 64) → (∀ j, j < i9 → w9 j = 1) → va_P D vwCl ([(h0, .inr (1, [.int (0 : Int32), .ref q1, .ref q2, .ref q3, .ref q4, .ref q5, .ref q6, .ref q7])), (q1, .inl (c1, 64, .inl (fun _ => 0))), (q2, .inl (c2, 64, .inl w9)), (q3, .inl (c3, 64, .inl (fun _ => 0))), (q4, .inl (c4, 64, .inl (fun _ => 0))), (q5, .inl (c5, 64, .inl w5)), (q6, .inl (c6, 64, .inl w6)), (q7, .inl (c7, 64, .inr (.inl (fun _ => 0))))]) H → va_D A ([(h0, .inr (1, [.int (0 : Int32), .ref q1, .ref q2, .ref q3, .ref q4, .ref q5, .ref q6, .ref q7])), (q1, .inl (c1, 64, .inl (fun _ => 0))), (q2, .inl (c2, 64, .inl w9)), (q3, .inl (c3, 64, .inl (fun _ => 0))), (q4, .inl (c4, 64, .inl (fun _ => 0))), (q5, .inl (c5, 64, .inl w5)), (q6, .inl (c6, 64, .inl w6)), (q7, .inl (c7, 64, .inr (.inl (fun _ => 0))))]) → va_S A s.heap H locs → lv_has ls 6 [(0, .ref h0), (2, .int (nI i9))] → W p l e ((headSpec wsX1_init ({ frames := 1, cells := 7, slots := 448, locals := 12 } : Room)).room) s m (([.ref h0] : List Value).toArray) below meth c H locs 7 448 (MQ below (va_Qv (fun (u : (Nat → Nat) × (Nat → ClassId) × (Nat → Int32) × (Nat → Int32) × (Nat → Int32)) => u.1 0 = h0 ∧ (∀ j, j < 64 → u.2.2.1 j = 1) ∧ dnOk u.2.2.2.1 u.2.2.2.2) (fun (u : (Nat → Nat) × (Nat → ClassId) × (Nat → Int32) × (Nat → Int32) × (Nat → Int32)) (t : State) => crB D (mw u.1 u.2.1 0 (fun _ => 0) u.2.2.1 (fun _ => 0) (fun _ => 0) u.2.2.2.1 u.2.2.2.2 (fun _ => 0)) (mty u.2.1) A t) A) ([.ref h0] : List Value).toArray s 7 448 A) (F0 m 157 ls []) := by
          intro n
          induction n with
          | zero =>
            intro i9 w9 H locs ls hn
            exact absurd hn (Nat.not_lt_zero _)
          | succ n ih157 =>
            intro i9 w9 H locs ls hn157 hi9 hx9 hP hD hS hl
            refine lv_iload_n hx hb dX1_init_157 rfl (lv_at hl 1 rfl) ?_
            refine lv_bipush (v := (64 : Int32)) hx hb dX1_init_158 (by decide +kernel) ?_
            refine cx_icmp_ge (i := ((i9 : Nat) : Int)) (j := 64) (tgt := 176) hx hb (nI_toInt (by omega)) (by decide +kernel) dX1_init_160 (by decide) (fun c_2 => ?_) (fun c_2 => ?_)
            · exact W.vret hx hb hr (fun t ht hW => ⟨⟨((fun k => match k with | 0 => h0 | 1 => q1 | 2 => q2 | 3 => q3 | 4 => q4 | 5 => q5 | 6 => q6 | _ => q7), (fun k => match k with | 1 => c1 | 2 => c2 | 3 => c3 | 4 => c4 | 5 => c5 | 6 => c6 | _ => c7), w9, w5, w6), rfl, ⟨rfl, (by obtain rfl : i9 = 64 := (by omega); exact hx9), hdn⟩, by rw [ht]; exact hP, va_K.moved hW.alike hK, hD⟩, hS.F ht⟩) hS.2.2 dX1_init_176
            · refine lv_aload_n hx hb dX1_init_163 rfl (lv_at hl 0 rfl) ?_
              refine va_get (D := D) (ci := 1) (v := .ref q2) (C := RX1) (T := TX1) (N := 8) hx hb hts hin1 hown hK hP 0 rfl rfl 2 (by decide) hf13 (fun _ h9 => h9) rfl dX1_init_164 ?_
              refine lv_iload_n hx hb dX1_init_167 rfl (lv_at hl 1 rfl) ?_
              refine lv_iconst (v := (1 : Int32)) hx hb dX1_init_168 (by decide +kernel) ?_
              refine cx_iast hx hb hK hP hD hS 2 1 rfl rfl i9 (by omega) (by decide) dX1_init_169 (fun H locs hP hD hS => ?_)
              have hP : va_P D vwCl ([(h0, .inr (1, [.int (0 : Int32), .ref q1, .ref q2, .ref q3, .ref q4, .ref q5, .ref q6, .ref q7])), (q1, .inl (c1, 64, .inl (fun _ => 0))), (q2, .inl (c2, 64, .inl (upd w9 i9 (1 : Int32)))), (q3, .inl (c3, 64, .inl (fun _ => 0))), (q4, .inl (c4, 64, .inl (fun _ => 0))), (q5, .inl (c5, 64, .inl w5)), (q6, .inl (c6, 64, .inl w6)), (q7, .inl (c7, 64, .inr (.inl (fun _ => 0))))]) H := hP
              have hD : va_D A ([(h0, .inr (1, [.int (0 : Int32), .ref q1, .ref q2, .ref q3, .ref q4, .ref q5, .ref q6, .ref q7])), (q1, .inl (c1, 64, .inl (fun _ => 0))), (q2, .inl (c2, 64, .inl (upd w9 i9 (1 : Int32)))), (q3, .inl (c3, 64, .inl (fun _ => 0))), (q4, .inl (c4, 64, .inl (fun _ => 0))), (q5, .inl (c5, 64, .inl w5)), (q6, .inl (c6, 64, .inl w6)), (q7, .inl (c7, 64, .inr (.inl (fun _ => 0))))]) := hD
              refine lv_iinc (v := nI (i9 + 1)) (lv' := [(2, .int (nI (i9 + 1))), (0, .ref h0)]) hx hb dX1_init_170 hl (k := 1) rfl (by show nI i9 + 1 = nI (i9 + 1); exact nI_add i9 1) (by decide) rfl (fun ls hl => ?_)
              refine lv_goto (tgt := 157) hx hb dX1_init_173 (by decide) ?_
              exact ih157 (i9 + 1) (upd w9 i9 (1 : Int32)) _ _ _ (by omega) (by omega) (upd_step (P := fun (j : Nat) (v : Int32) => v = 1) hx9 rfl) hP hD hS (lv_sub hl [1, 0] rfl)
        exact L157 _ 0 (fun _ => 0) _ _ _ (Nat.lt_succ_self _) (Nat.zero_le _) (fun j hj => absurd hj (Nat.not_lt_zero j)) hP hD hS (lv_sub hl [1, 0] rfl)
      · refine lv_iconst (v := (0 : Int32)) hx hb dX1_init_70 (by decide +kernel) ?_
        refine lv_istore_n (lv' := [(3, .int (0 : Int32)), (0, .ref h0), (1, .int (nI (plN (8 * s9)))), (2, .int (nI s9))]) hx hb dX1_init_71 rfl hl (by decide) rfl (fun ls hl => ?_)
        have L72 : ∀ (n : Nat) (j9 : Nat) (w5 : Nat → Int32) (w6 : Nat → Int32) (H : Heap) (locs : List Loc) (ls : Array Slot), (8 - j9) < n → (j9 ≤ 8) → (∀ i, i < plN (8 * s9 + j9) → w5 i = nI (cCn i / 8) ∧ w6 i = nI (cCn i % 8)) → va_P D vwCl ([(h0, .inr (1, [.int (0 : Int32), .ref q1, .ref q2, .ref q3, .ref q4, .ref q5, .ref q6, .ref q7])), (q1, .inl (c1, 64, .inl (fun _ => 0))), (q2, .inl (c2, 64, .inl (fun _ => 0))), (q3, .inl (c3, 64, .inl (fun _ => 0))), (q4, .inl (c4, 64, .inl (fun _ => 0))), (q5, .inl (c5, 64, .inl w5)), (q6, .inl (c6, 64, .inl w6)), (q7, .inl (c7, 64, .inr (.inl (fun _ => 0))))]) H → va_D A ([(h0, .inr (1, [.int (0 : Int32), .ref q1, .ref q2, .ref q3, .ref q4, .ref q5, .ref q6, .ref q7])), (q1, .inl (c1, 64, .inl (fun _ => 0))), (q2, .inl (c2, 64, .inl (fun _ => 0))), (q3, .inl (c3, 64, .inl (fun _ => 0))), (q4, .inl (c4, 64, .inl (fun _ => 0))), (q5, .inl (c5, 64, .inl w5)), (q6, .inl (c6, 64, .inl w6)), (q7, .inl (c7, 64, .inr (.inl (fun _ => 0))))]) → va_S A s.heap H locs → lv_has ls 6 [(0, .ref h0), (1, .int (nI (plN (8 * s9 + j9)))), (2, .int (nI s9)), (3, .int (nI j9))] → W p l e ((headSpec wsX1_init ({ frames := 1, cells := 7, slots := 448, locals := 12 } : Room)).room) s m (([.ref h0] : List Value).toArray) below meth c H locs 7 448 (MQ below (va_Qv (fun (u : (Nat → Nat) × (Nat → ClassId) × (Nat → Int32) × (Nat → Int32) × (Nat → Int32)) => u.1 0 = h0 ∧ (∀ j, j < 64 → u.2.2.1 j = 1) ∧ dnOk u.2.2.2.1 u.2.2.2.2) (fun (u : (Nat → Nat) × (Nat → ClassId) × (Nat → Int32) × (Nat → Int32) × (Nat → Int32)) (t : State) => crB D (mw u.1 u.2.1 0 (fun _ => 0) u.2.2.1 (fun _ => 0) (fun _ => 0) u.2.2.2.1 u.2.2.2.2 (fun _ => 0)) (mty u.2.1) A t) A) ([.ref h0] : List Value).toArray s 7 448 A) (F0 m 72 ls []) := by
          intro n
          induction n with
          | zero =>
            intro j9 w5 w6 H locs ls hn
            exact absurd hn (Nat.not_lt_zero _)
          | succ n ih72 =>
            intro j9 w5 w6 H locs ls hn72 hj9 hv9 hP hD hS hl
            refine lv_iload_n hx hb dX1_init_72 rfl (lv_at hl 3 rfl) ?_
            refine lv_bipush (v := (8 : Int32)) hx hb dX1_init_73 (by decide +kernel) ?_
            refine cx_icmp_ge (i := ((j9 : Nat) : Int)) (j := 8) (tgt := 149) hx hb (nI_toInt (by omega)) (by decide +kernel) dX1_init_75 (by decide) (fun c_3 => ?_) (fun c_3 => ?_)
            · refine lv_iinc (v := nI (s9 + 1)) (lv' := [(2, .int (nI (s9 + 1))), (0, .ref h0), (1, .int (nI (plN (8 * s9 + j9)))), (3, .int (nI j9))]) hx hb dX1_init_149 hl (k := 2) rfl (by show nI s9 + 1 = nI (s9 + 1); exact nI_add s9 1) (by decide) rfl (fun ls hl => ?_)
              refine lv_goto (tgt := 64) hx hb dX1_init_152 (by decide) ?_
              have hjn : 8 * s9 + j9 = 8 * (s9 + 1) := by omega
              have e_4 : nI (plN (8 * s9 + j9)) = nI (plN (8 * (s9 + 1))) := by rw [hjn]
              rw [e_4] at hl
              exact ih64 (s9 + 1) w5 w6 _ _ _ (by omega) (by omega) (by rw [← hjn]; exact hv9) hP hD hS (lv_sub hl [1, 2, 0] rfl)
            · have J92 : ∀ (tv : Int32), (tv.toInt = plV (8 * s9 + j9)) → W p l e ((headSpec wsX1_init ({ frames := 1, cells := 7, slots := 448, locals := 12 } : Room)).room) s m (([.ref h0] : List Value).toArray) below meth c H locs 7 448 (MQ below (va_Qv (fun (u : (Nat → Nat) × (Nat → ClassId) × (Nat → Int32) × (Nat → Int32) × (Nat → Int32)) => u.1 0 = h0 ∧ (∀ j, j < 64 → u.2.2.1 j = 1) ∧ dnOk u.2.2.2.1 u.2.2.2.2) (fun (u : (Nat → Nat) × (Nat → ClassId) × (Nat → Int32) × (Nat → Int32) × (Nat → Int32)) (t : State) => crB D (mw u.1 u.2.1 0 (fun _ => 0) u.2.2.1 (fun _ => 0) (fun _ => 0) u.2.2.2.1 u.2.2.2.2 (fun _ => 0)) (mty u.2.1) A t) A) ([.ref h0] : List Value).toArray s 7 448 A) (F0 m 92 ls [.int tv]) := by
                intro tv hvI
                refine lv_istore (lv' := [(4, .int tv), (0, .ref h0), (1, .int (nI (plN (8 * s9 + j9)))), (2, .int (nI s9)), (3, .int (nI j9))]) hx hb dX1_init_92 hl (by decide) rfl (fun ls hl => ?_)
                refine lv_iload_n hx hb dX1_init_94 rfl (lv_at hl 3 rfl) ?_
                refine lv_iload hx hb dX1_init_95 (lv_at hl 0 rfl) ?_
                refine lv_isub hx hb dX1_init_97 ?_
                have hbd := plV_bd (s := s9) (j := j9) (by omega) (by omega)
                obtain ⟨uu, huu⟩ : ∃ z, z = nI s9 - tv := ⟨_, rfl⟩
                have huI : uu.toInt = (((8 * s9 + j9) / 8 : Nat) : Int) - plV (8 * s9 + j9) := by rw [huu, pl_u (by omega) (by omega) (by omega), hvI]; omega
                rw [← huu]
                refine lv_istore (lv' := [(5, .int uu), (4, .int tv), (0, .ref h0), (1, .int (nI (plN (8 * s9 + j9)))), (2, .int (nI s9)), (3, .int (nI j9))]) hx hb dX1_init_98 hl (by decide) rfl (fun ls hl => ?_)
                refine lv_iload hx hb dX1_init_100 (lv_at hl 1 rfl) ?_
                refine cx_if_lt (i := tv.toInt) (j := 0) (tgt := 143) hx hb rfl rfl dX1_init_102 (by decide) (fun c_5 => ?_) (fun c_5 => ?_)
                · refine lv_iinc (v := nI (j9 + 1)) (lv' := [(3, .int (nI (j9 + 1))), (5, .int uu), (4, .int tv), (0, .ref h0), (1, .int (nI (plN (8 * s9 + j9)))), (2, .int (nI s9))]) hx hb dX1_init_143 hl (k := 5) rfl (by show nI j9 + 1 = nI (j9 + 1); exact nI_add j9 1) (by decide) rfl (fun ls hl => ?_)
                  refine lv_goto (tgt := 72) hx hb dX1_init_146 (by decide) ?_
                  have e_6 : nI (plN (8 * s9 + j9)) = nI (plN (8 * s9 + (j9 + 1))) := by rw [show 8 * s9 + (j9 + 1) = (8 * s9 + j9) + 1 from rfl, plN_z (by unfold plOk; omega)]
                  rw [e_6] at hl
                  exact ih72 (j9 + 1) w5 w6 _ _ _ (by omega) (by omega) (by
                      rw [show 8 * s9 + (j9 + 1) = (8 * s9 + j9) + 1 from rfl, plN_z (by unfold plOk; omega)]
                      exact hv9) hP hD hS (lv_sub hl [3, 4, 5, 0] rfl)
                · refine lv_iload hx hb dX1_init_105 (lv_at hl 1 rfl) ?_
                  refine lv_bipush (v := (8 : Int32)) hx hb dX1_init_107 (by decide +kernel) ?_
                  refine cx_icmp_ge (i := tv.toInt) (j := 8) (tgt := 143) hx hb rfl (by decide +kernel) dX1_init_109 (by decide) (fun c_7 => ?_) (fun c_7 => ?_)
                  · refine lv_iinc (v := nI (j9 + 1)) (lv' := [(3, .int (nI (j9 + 1))), (5, .int uu), (4, .int tv), (0, .ref h0), (1, .int (nI (plN (8 * s9 + j9)))), (2, .int (nI s9))]) hx hb dX1_init_143 hl (k := 5) rfl (by show nI j9 + 1 = nI (j9 + 1); exact nI_add j9 1) (by decide) rfl (fun ls hl => ?_)
                    refine lv_goto (tgt := 72) hx hb dX1_init_146 (by decide) ?_
                    have e_8 : nI (plN (8 * s9 + j9)) = nI (plN (8 * s9 + (j9 + 1))) := by rw [show 8 * s9 + (j9 + 1) = (8 * s9 + j9) + 1 from rfl, plN_z (by unfold plOk; omega)]
                    rw [e_8] at hl
                    exact ih72 (j9 + 1) w5 w6 _ _ _ (by omega) (by omega) (by
                        rw [show 8 * s9 + (j9 + 1) = (8 * s9 + j9) + 1 from rfl, plN_z (by unfold plOk; omega)]
                        exact hv9) hP hD hS (lv_sub hl [3, 4, 5, 0] rfl)
                  · refine lv_iload hx hb dX1_init_112 (lv_at hl 0 rfl) ?_
                    refine cx_if_lt (i := uu.toInt) (j := 0) (tgt := 143) hx hb rfl rfl dX1_init_114 (by decide) (fun c_9 => ?_) (fun c_9 => ?_)
                    · refine lv_iinc (v := nI (j9 + 1)) (lv' := [(3, .int (nI (j9 + 1))), (5, .int uu), (4, .int tv), (0, .ref h0), (1, .int (nI (plN (8 * s9 + j9)))), (2, .int (nI s9))]) hx hb dX1_init_143 hl (k := 5) rfl (by show nI j9 + 1 = nI (j9 + 1); exact nI_add j9 1) (by decide) rfl (fun ls hl => ?_)
                      refine lv_goto (tgt := 72) hx hb dX1_init_146 (by decide) ?_
                      have e_10 : nI (plN (8 * s9 + j9)) = nI (plN (8 * s9 + (j9 + 1))) := by rw [show 8 * s9 + (j9 + 1) = (8 * s9 + j9) + 1 from rfl, plN_z (by unfold plOk; omega)]
                      rw [e_10] at hl
                      exact ih72 (j9 + 1) w5 w6 _ _ _ (by omega) (by omega) (by
                          rw [show 8 * s9 + (j9 + 1) = (8 * s9 + j9) + 1 from rfl, plN_z (by unfold plOk; omega)]
                          exact hv9) hP hD hS (lv_sub hl [3, 4, 5, 0] rfl)
                    · refine lv_iload hx hb dX1_init_117 (lv_at hl 0 rfl) ?_
                      refine lv_bipush (v := (8 : Int32)) hx hb dX1_init_119 (by decide +kernel) ?_
                      refine cx_icmp_ge (i := uu.toInt) (j := 8) (tgt := 143) hx hb rfl (by decide +kernel) dX1_init_121 (by decide) (fun c_11 => ?_) (fun c_11 => ?_)
                      · refine lv_iinc (v := nI (j9 + 1)) (lv' := [(3, .int (nI (j9 + 1))), (5, .int uu), (4, .int tv), (0, .ref h0), (1, .int (nI (plN (8 * s9 + j9)))), (2, .int (nI s9))]) hx hb dX1_init_143 hl (k := 5) rfl (by show nI j9 + 1 = nI (j9 + 1); exact nI_add j9 1) (by decide) rfl (fun ls hl => ?_)
                        refine lv_goto (tgt := 72) hx hb dX1_init_146 (by decide) ?_
                        have e_12 : nI (plN (8 * s9 + j9)) = nI (plN (8 * s9 + (j9 + 1))) := by rw [show 8 * s9 + (j9 + 1) = (8 * s9 + j9) + 1 from rfl, plN_z (by unfold plOk; omega)]
                        rw [e_12] at hl
                        exact ih72 (j9 + 1) w5 w6 _ _ _ (by omega) (by omega) (by
                            rw [show 8 * s9 + (j9 + 1) = (8 * s9 + j9) + 1 from rfl, plN_z (by unfold plOk; omega)]
                            exact hv9) hP hD hS (lv_sub hl [3, 4, 5, 0] rfl)
                      · have hpk : plOk (8 * s9 + j9) := by unfold plOk; omega
                        obtain ⟨hpl, hpv, hpu⟩ := plN_at (8 * s9 + j9) (by omega) ((plD_iff _).mpr hpk)
                        refine lv_aload_n hx hb dX1_init_124 rfl (lv_at hl 2 rfl) ?_
                        refine va_get (D := D) (ci := 1) (v := .ref q5) (C := RX1) (T := TX1) (N := 8) hx hb hts hin1 hown hK hP 0 rfl rfl 5 (by decide) hf22 (fun _ h9 => h9) rfl dX1_init_125 ?_
                        refine lv_iload_n hx hb dX1_init_128 rfl (lv_at hl 3 rfl) ?_
                        refine lv_iload hx hb dX1_init_129 (lv_at hl 1 rfl) ?_
                        refine cx_iast hx hb hK hP hD hS 5 4 rfl rfl (plN (8 * s9 + j9)) (hpl) (by decide) dX1_init_131 (fun H locs hP hD hS => ?_)
                        have hP : va_P D vwCl ([(h0, .inr (1, [.int (0 : Int32), .ref q1, .ref q2, .ref q3, .ref q4, .ref q5, .ref q6, .ref q7])), (q1, .inl (c1, 64, .inl (fun _ => 0))), (q2, .inl (c2, 64, .inl (fun _ => 0))), (q3, .inl (c3, 64, .inl (fun _ => 0))), (q4, .inl (c4, 64, .inl (fun _ => 0))), (q5, .inl (c5, 64, .inl (upd w5 (plN (8 * s9 + j9)) tv))), (q6, .inl (c6, 64, .inl w6)), (q7, .inl (c7, 64, .inr (.inl (fun _ => 0))))]) H := hP
                        have hD : va_D A ([(h0, .inr (1, [.int (0 : Int32), .ref q1, .ref q2, .ref q3, .ref q4, .ref q5, .ref q6, .ref q7])), (q1, .inl (c1, 64, .inl (fun _ => 0))), (q2, .inl (c2, 64, .inl (fun _ => 0))), (q3, .inl (c3, 64, .inl (fun _ => 0))), (q4, .inl (c4, 64, .inl (fun _ => 0))), (q5, .inl (c5, 64, .inl (upd w5 (plN (8 * s9 + j9)) tv))), (q6, .inl (c6, 64, .inl w6)), (q7, .inl (c7, 64, .inr (.inl (fun _ => 0))))]) := hD
                        refine lv_aload_n hx hb dX1_init_132 rfl (lv_at hl 2 rfl) ?_
                        refine va_get (D := D) (ci := 1) (v := .ref q6) (C := RX1) (T := TX1) (N := 8) hx hb hts hin1 hown hK hP 0 rfl rfl 6 (by decide) hf25 (fun _ h9 => h9) rfl dX1_init_133 ?_
                        refine lv_iload_n hx hb dX1_init_136 rfl (lv_at hl 3 rfl) ?_
                        refine lv_iload hx hb dX1_init_137 (lv_at hl 0 rfl) ?_
                        refine cx_iast hx hb hK hP hD hS 6 5 rfl rfl (plN (8 * s9 + j9)) (hpl) (by decide) dX1_init_139 (fun H locs hP hD hS => ?_)
                        have hP : va_P D vwCl ([(h0, .inr (1, [.int (0 : Int32), .ref q1, .ref q2, .ref q3, .ref q4, .ref q5, .ref q6, .ref q7])), (q1, .inl (c1, 64, .inl (fun _ => 0))), (q2, .inl (c2, 64, .inl (fun _ => 0))), (q3, .inl (c3, 64, .inl (fun _ => 0))), (q4, .inl (c4, 64, .inl (fun _ => 0))), (q5, .inl (c5, 64, .inl (upd w5 (plN (8 * s9 + j9)) tv))), (q6, .inl (c6, 64, .inl (upd w6 (plN (8 * s9 + j9)) uu))), (q7, .inl (c7, 64, .inr (.inl (fun _ => 0))))]) H := hP
                        have hD : va_D A ([(h0, .inr (1, [.int (0 : Int32), .ref q1, .ref q2, .ref q3, .ref q4, .ref q5, .ref q6, .ref q7])), (q1, .inl (c1, 64, .inl (fun _ => 0))), (q2, .inl (c2, 64, .inl (fun _ => 0))), (q3, .inl (c3, 64, .inl (fun _ => 0))), (q4, .inl (c4, 64, .inl (fun _ => 0))), (q5, .inl (c5, 64, .inl (upd w5 (plN (8 * s9 + j9)) tv))), (q6, .inl (c6, 64, .inl (upd w6 (plN (8 * s9 + j9)) uu))), (q7, .inl (c7, 64, .inr (.inl (fun _ => 0))))]) := hD
                        refine lv_iinc (v := nI (plN (8 * s9 + j9) + 1)) (lv' := [(1, .int (nI (plN (8 * s9 + j9) + 1))), (5, .int uu), (4, .int tv), (0, .ref h0), (2, .int (nI s9)), (3, .int (nI j9))]) hx hb dX1_init_140 hl (k := 3) rfl (by show nI (plN (8 * s9 + j9)) + 1 = nI (plN (8 * s9 + j9) + 1); exact nI_add (plN (8 * s9 + j9)) 1) (by decide) rfl (fun ls hl => ?_)
                        refine lv_iinc (v := nI (j9 + 1)) (lv' := [(3, .int (nI (j9 + 1))), (1, .int (nI (plN (8 * s9 + j9) + 1))), (5, .int uu), (4, .int tv), (0, .ref h0), (2, .int (nI s9))]) hx hb dX1_init_143 hl (k := 5) rfl (by show nI j9 + 1 = nI (j9 + 1); exact nI_add j9 1) (by decide) rfl (fun ls hl => ?_)
                        refine lv_goto (tgt := 72) hx hb dX1_init_146 (by decide) ?_
                        have e_13 : nI (plN (8 * s9 + j9) + 1) = nI (plN (8 * s9 + (j9 + 1))) := by rw [show 8 * s9 + (j9 + 1) = (8 * s9 + j9) + 1 from rfl, plN_s hpk]
                        rw [e_13] at hl
                        exact ih72 (j9 + 1) (upd w5 (plN (8 * s9 + j9)) tv) (upd w6 (plN (8 * s9 + j9)) uu) _ _ _ (by omega) (by omega) (by
                            intro i hi
                            rw [show 8 * s9 + (j9 + 1) = (8 * s9 + j9) + 1 from rfl, plN_s hpk] at hi
                            by_cases hq : i = plN (8 * s9 + j9)
                            · subst hq
                              rw [pk_us, pk_us]
                              exact ⟨pl_eq (by have := cCn_lt _ hpl; omega) (hvI.trans hpv.symm), pl_eq (by omega) (huI.trans hpu.symm)⟩
                            · rw [pk_un hq, pk_un hq]; exact hv9 i (by omega)) hP hD hS (lv_sub hl [4, 1, 5, 0] rfl)
              refine lv_iload_n hx hb dX1_init_78 rfl (lv_at hl 2 rfl) ?_
              refine lv_iconst (v := (2 : Int32)) hx hb dX1_init_79 (by decide +kernel) ?_
              refine lv_irem hx hb dX1_init_80 (by decide) ?_
              have e_14 : (nI s9) - (nI s9) / (2 : Int32) * (2 : Int32) = nI (s9 % 2) := pk_rem (by omega) (by decide) (by decide)
              rw [e_14]
              refine lv_iconst (v := (1 : Int32)) hx hb dX1_init_81 (by decide +kernel) ?_
              refine cx_icmp_ne (i := ((s9 % 2 : Nat) : Int)) (j := 1) (tgt := 89) hx hb (nI_toInt (by omega)) (by decide +kernel) dX1_init_82 (by decide) (fun c_15 => ?_) (fun c_15 => ?_)
              · refine lv_iload_n hx hb dX1_init_89 rfl (lv_at hl 2 rfl) ?_
                refine lv_iload_n hx hb dX1_init_90 rfl (lv_at hl 3 rfl) ?_
                refine lv_isub hx hb dX1_init_91 ?_
                exact J92 ((nI s9) - (nI j9)) (pl_b (by omega) (by omega) c_15)
              · refine lv_iload_n hx hb dX1_init_85 rfl (lv_at hl 3 rfl) ?_
                refine lv_goto (tgt := 92) hx hb dX1_init_86 (by decide) ?_
                exact J92 (nI j9) (pl_a (by omega) (by omega) c_15)
        exact L72 _ 0 w5 w6 _ _ _ (Nat.lt_succ_self _) (Nat.zero_le _) hw9 hP hD hS (lv_sub hl [1, 2, 3, 0] rfl)
  exact L64 _ 0 (fun _ => 0) (fun _ => 0) _ _ _ (Nat.lt_succ_self _) (Nat.zero_le _) (fun i hi => absurd hi (Nat.not_lt_zero i)) hP hD hS (lv_sub hl [2, 1, 0] rfl)
