theorem dX0_backDown_0 : decode cX0_backDown 0 = .ok (.lconst 0, 1) := by decide +kernel
theorem dX0_backDown_1 : decode cX0_backDown 1 = .ok (.lstore_n 3, 1) := by decide +kernel
theorem dX0_backDown_2 : decode cX0_backDown 2 = .ok (.iconst 0, 1) := by decide +kernel
theorem dX0_backDown_3 : decode cX0_backDown 3 = .ok (.istore 5, 2) := by decide +kernel
theorem dX0_backDown_5 : decode cX0_backDown 5 = .ok (.iload 5, 2) := by decide +kernel
theorem dX0_backDown_7 : decode cX0_backDown 7 = .ok (.iload_n 1, 1) := by decide +kernel
theorem dX0_backDown_8 : decode cX0_backDown 8 = .ok (.if_icmp .ge 117, 3) := by decide +kernel
theorem dX0_backDown_11 : decode cX0_backDown 11 = .ok (.iconst 0, 1) := by decide +kernel
theorem dX0_backDown_12 : decode cX0_backDown 12 = .ok (.istore 6, 2) := by decide +kernel
theorem dX0_backDown_14 : decode cX0_backDown 14 = .ok (.iload 6, 2) := by decide +kernel
theorem dX0_backDown_16 : decode cX0_backDown 16 = .ok (.iload_n 1, 1) := by decide +kernel
theorem dX0_backDown_17 : decode cX0_backDown 17 = .ok (.if_icmp .ge 102, 3) := by decide +kernel
theorem dX0_backDown_20 : decode cX0_backDown 20 = .ok (.lconst 0, 1) := by decide +kernel
theorem dX0_backDown_21 : decode cX0_backDown 21 = .ok (.lstore 7, 2) := by decide +kernel
theorem dX0_backDown_23 : decode cX0_backDown 23 = .ok (.iconst 0, 1) := by decide +kernel
theorem dX0_backDown_24 : decode cX0_backDown 24 = .ok (.istore 9, 2) := by decide +kernel
theorem dX0_backDown_26 : decode cX0_backDown 26 = .ok (.iload 9, 2) := by decide +kernel
theorem dX0_backDown_28 : decode cX0_backDown 28 = .ok (.iload_n 1, 1) := by decide +kernel
theorem dX0_backDown_29 : decode cX0_backDown 29 = .ok (.if_icmp .ge 50, 3) := by decide +kernel
theorem dX0_backDown_32 : decode cX0_backDown 32 = .ok (.iload 9, 2) := by decide +kernel
theorem dX0_backDown_34 : decode cX0_backDown 34 = .ok (.bipush 8, 2) := by decide +kernel
theorem dX0_backDown_36 : decode cX0_backDown 36 = .ok (.imul, 1) := by decide +kernel
theorem dX0_backDown_37 : decode cX0_backDown 37 = .ok (.iload 6, 2) := by decide +kernel
theorem dX0_backDown_39 : decode cX0_backDown 39 = .ok (.iadd, 1) := by decide +kernel
theorem dX0_backDown_40 : decode cX0_backDown 40 = .ok (.istore 10, 2) := by decide +kernel
theorem dX0_backDown_42 : decode cX0_backDown 42 = .ok (.lload 7, 2) := by decide +kernel
theorem dX0_backDown_44 : decode cX0_backDown 44 = .ok (.iload_n 2, 1) := by decide +kernel
theorem dX0_backDown_45 : decode cX0_backDown 45 = .ok (.iload 9, 2) := by decide +kernel
theorem dX0_backDown_47 : decode cX0_backDown 47 = .ok (.iload 5, 2) := by decide +kernel
theorem dX0_backDown_49 : decode cX0_backDown 49 = .ok (.invokestatic 96, 3) := by decide +kernel
theorem dX0_backDown_52 : decode cX0_backDown 52 = .ok (.i2l, 1) := by decide +kernel
theorem dX0_backDown_53 : decode cX0_backDown 53 = .ok (.aload_n 0, 1) := by decide +kernel
theorem dX0_backDown_54 : decode cX0_backDown 54 = .ok (.getfield 9, 3) := by decide +kernel
theorem dX0_backDown_57 : decode cX0_backDown 57 = .ok (.iload 10, 2) := by decide +kernel
theorem dX0_backDown_59 : decode cX0_backDown 59 = .ok (.iaload, 1) := by decide +kernel
theorem dX0_backDown_60 : decode cX0_backDown 60 = .ok (.aload_n 0, 1) := by decide +kernel
theorem dX0_backDown_61 : decode cX0_backDown 61 = .ok (.getfield 13, 3) := by decide +kernel
theorem dX0_backDown_64 : decode cX0_backDown 64 = .ok (.iload 10, 2) := by decide +kernel
theorem dX0_backDown_66 : decode cX0_backDown 66 = .ok (.iaload, 1) := by decide +kernel
theorem dX0_backDown_67 : decode cX0_backDown 67 = .ok (.imul, 1) := by decide +kernel
theorem dX0_backDown_68 : decode cX0_backDown 68 = .ok (.i2l, 1) := by decide +kernel
theorem dX0_backDown_69 : decode cX0_backDown 69 = .ok (.lmul, 1) := by decide +kernel
theorem dX0_backDown_70 : decode cX0_backDown 70 = .ok (.ladd, 1) := by decide +kernel
theorem dX0_backDown_71 : decode cX0_backDown 71 = .ok (.lstore 7, 2) := by decide +kernel
theorem dX0_backDown_73 : decode cX0_backDown 73 = .ok (.iinc 9 1, 3) := by decide +kernel
theorem dX0_backDown_76 : decode cX0_backDown 76 = .ok (.goto (-50), 3) := by decide +kernel
theorem dX0_backDown_79 : decode cX0_backDown 79 = .ok (.lload 7, 2) := by decide +kernel
theorem dX0_backDown_81 : decode cX0_backDown 81 = .ok (.bipush 11, 2) := by decide +kernel
theorem dX0_backDown_83 : decode cX0_backDown 83 = .ok (.invokestatic 121, 3) := by decide +kernel
theorem dX0_backDown_86 : decode cX0_backDown 86 = .ok (.lstore 9, 2) := by decide +kernel
theorem dX0_backDown_88 : decode cX0_backDown 88 = .ok (.aload_n 0, 1) := by decide +kernel
theorem dX0_backDown_89 : decode cX0_backDown 89 = .ok (.getfield 22, 3) := by decide +kernel
theorem dX0_backDown_92 : decode cX0_backDown 92 = .ok (.iload 5, 2) := by decide +kernel
theorem dX0_backDown_94 : decode cX0_backDown 94 = .ok (.bipush 8, 2) := by decide +kernel
theorem dX0_backDown_96 : decode cX0_backDown 96 = .ok (.imul, 1) := by decide +kernel
theorem dX0_backDown_97 : decode cX0_backDown 97 = .ok (.iload 6, 2) := by decide +kernel
theorem dX0_backDown_99 : decode cX0_backDown 99 = .ok (.iadd, 1) := by decide +kernel
theorem dX0_backDown_100 : decode cX0_backDown 100 = .ok (.lload 9, 2) := by decide +kernel
theorem dX0_backDown_102 : decode cX0_backDown 102 = .ok (.lastore, 1) := by decide +kernel
theorem dX0_backDown_103 : decode cX0_backDown 103 = .ok (.lload_n 3, 1) := by decide +kernel
theorem dX0_backDown_104 : decode cX0_backDown 104 = .ok (.lload 9, 2) := by decide +kernel
theorem dX0_backDown_106 : decode cX0_backDown 106 = .ok (.invokestatic 125, 3) := by decide +kernel
theorem dX0_backDown_109 : decode cX0_backDown 109 = .ok (.invokestatic 128, 3) := by decide +kernel
theorem dX0_backDown_112 : decode cX0_backDown 112 = .ok (.lstore_n 3, 1) := by decide +kernel
theorem dX0_backDown_113 : decode cX0_backDown 113 = .ok (.iinc 6 1, 3) := by decide +kernel
theorem dX0_backDown_116 : decode cX0_backDown 116 = .ok (.goto (-102), 3) := by decide +kernel
theorem dX0_backDown_119 : decode cX0_backDown 119 = .ok (.iinc 5 1, 3) := by decide +kernel
theorem dX0_backDown_122 : decode cX0_backDown 122 = .ok (.goto (-117), 3) := by decide +kernel
theorem dX0_backDown_125 : decode cX0_backDown 125 = .ok (.lload_n 3, 1) := by decide +kernel
theorem dX0_backDown_126 : decode cX0_backDown 126 = .ok (.lreturn, 1) := by decide +kernel
theorem dX0_backAcross_0 : decode cX0_backAcross 0 = .ok (.iconst 0, 1) := by decide +kernel
theorem dX0_backAcross_1 : decode cX0_backAcross 1 = .ok (.istore_n 3, 1) := by decide +kernel
theorem dX0_backAcross_2 : decode cX0_backAcross 2 = .ok (.iload_n 3, 1) := by decide +kernel
theorem dX0_backAcross_3 : decode cX0_backAcross 3 = .ok (.iload_n 1, 1) := by decide +kernel
theorem dX0_backAcross_4 : decode cX0_backAcross 4 = .ok (.if_icmp .ge 103, 3) := by decide +kernel
theorem dX0_backAcross_7 : decode cX0_backAcross 7 = .ok (.iconst 0, 1) := by decide +kernel
theorem dX0_backAcross_8 : decode cX0_backAcross 8 = .ok (.istore 4, 2) := by decide +kernel
theorem dX0_backAcross_10 : decode cX0_backAcross 10 = .ok (.iload 4, 2) := by decide +kernel
theorem dX0_backAcross_12 : decode cX0_backAcross 12 = .ok (.iload_n 1, 1) := by decide +kernel
theorem dX0_backAcross_13 : decode cX0_backAcross 13 = .ok (.if_icmp .ge 88, 3) := by decide +kernel
theorem dX0_backAcross_16 : decode cX0_backAcross 16 = .ok (.lconst 0, 1) := by decide +kernel
theorem dX0_backAcross_17 : decode cX0_backAcross 17 = .ok (.lstore 5, 2) := by decide +kernel
theorem dX0_backAcross_19 : decode cX0_backAcross 19 = .ok (.iconst 0, 1) := by decide +kernel
theorem dX0_backAcross_20 : decode cX0_backAcross 20 = .ok (.istore 7, 2) := by decide +kernel
theorem dX0_backAcross_22 : decode cX0_backAcross 22 = .ok (.iload 7, 2) := by decide +kernel
theorem dX0_backAcross_24 : decode cX0_backAcross 24 = .ok (.iload_n 1, 1) := by decide +kernel
theorem dX0_backAcross_25 : decode cX0_backAcross 25 = .ok (.if_icmp .ge 36, 3) := by decide +kernel
theorem dX0_backAcross_28 : decode cX0_backAcross 28 = .ok (.lload 5, 2) := by decide +kernel
theorem dX0_backAcross_30 : decode cX0_backAcross 30 = .ok (.iload_n 2, 1) := by decide +kernel
theorem dX0_backAcross_31 : decode cX0_backAcross 31 = .ok (.iload 7, 2) := by decide +kernel
theorem dX0_backAcross_33 : decode cX0_backAcross 33 = .ok (.iload 4, 2) := by decide +kernel
theorem dX0_backAcross_35 : decode cX0_backAcross 35 = .ok (.invokestatic 96, 3) := by decide +kernel
theorem dX0_backAcross_38 : decode cX0_backAcross 38 = .ok (.i2l, 1) := by decide +kernel
theorem dX0_backAcross_39 : decode cX0_backAcross 39 = .ok (.aload_n 0, 1) := by decide +kernel
theorem dX0_backAcross_40 : decode cX0_backAcross 40 = .ok (.getfield 22, 3) := by decide +kernel
theorem dX0_backAcross_43 : decode cX0_backAcross 43 = .ok (.iload_n 3, 1) := by decide +kernel
theorem dX0_backAcross_44 : decode cX0_backAcross 44 = .ok (.bipush 8, 2) := by decide +kernel
theorem dX0_backAcross_46 : decode cX0_backAcross 46 = .ok (.imul, 1) := by decide +kernel
theorem dX0_backAcross_47 : decode cX0_backAcross 47 = .ok (.iload 7, 2) := by decide +kernel
theorem dX0_backAcross_49 : decode cX0_backAcross 49 = .ok (.iadd, 1) := by decide +kernel
theorem dX0_backAcross_50 : decode cX0_backAcross 50 = .ok (.laload, 1) := by decide +kernel
theorem dX0_backAcross_51 : decode cX0_backAcross 51 = .ok (.lmul, 1) := by decide +kernel
theorem dX0_backAcross_52 : decode cX0_backAcross 52 = .ok (.ladd, 1) := by decide +kernel
theorem dX0_backAcross_53 : decode cX0_backAcross 53 = .ok (.lstore 5, 2) := by decide +kernel
theorem dX0_backAcross_55 : decode cX0_backAcross 55 = .ok (.iinc 7 1, 3) := by decide +kernel
theorem dX0_backAcross_58 : decode cX0_backAcross 58 = .ok (.goto (-36), 3) := by decide +kernel
theorem dX0_backAcross_61 : decode cX0_backAcross 61 = .ok (.lload 5, 2) := by decide +kernel
theorem dX0_backAcross_63 : decode cX0_backAcross 63 = .ok (.bipush 17, 2) := by decide +kernel
theorem dX0_backAcross_65 : decode cX0_backAcross 65 = .ok (.invokestatic 121, 3) := by decide +kernel
theorem dX0_backAcross_68 : decode cX0_backAcross 68 = .ok (.ldc2_w 132, 3) := by decide +kernel
theorem dX0_backAcross_71 : decode cX0_backAcross 71 = .ok (.ladd, 1) := by decide +kernel
theorem dX0_backAcross_72 : decode cX0_backAcross 72 = .ok (.lstore 7, 2) := by decide +kernel
theorem dX0_backAcross_74 : decode cX0_backAcross 74 = .ok (.aload_n 0, 1) := by decide +kernel
theorem dX0_backAcross_75 : decode cX0_backAcross 75 = .ok (.getfield 16, 3) := by decide +kernel
theorem dX0_backAcross_78 : decode cX0_backAcross 78 = .ok (.iload_n 3, 1) := by decide +kernel
theorem dX0_backAcross_79 : decode cX0_backAcross 79 = .ok (.bipush 8, 2) := by decide +kernel
theorem dX0_backAcross_81 : decode cX0_backAcross 81 = .ok (.imul, 1) := by decide +kernel
theorem dX0_backAcross_82 : decode cX0_backAcross 82 = .ok (.iload 4, 2) := by decide +kernel
theorem dX0_backAcross_84 : decode cX0_backAcross 84 = .ok (.iadd, 1) := by decide +kernel
theorem dX0_backAcross_85 : decode cX0_backAcross 85 = .ok (.lload 7, 2) := by decide +kernel
theorem dX0_backAcross_87 : decode cX0_backAcross 87 = .ok (.iconst 0, 1) := by decide +kernel
theorem dX0_backAcross_88 : decode cX0_backAcross 88 = .ok (.sipush 255, 3) := by decide +kernel
theorem dX0_backAcross_91 : decode cX0_backAcross 91 = .ok (.invokestatic 49, 3) := by decide +kernel
theorem dX0_backAcross_94 : decode cX0_backAcross 94 = .ok (.iastore, 1) := by decide +kernel
theorem dX0_backAcross_95 : decode cX0_backAcross 95 = .ok (.iinc 4 1, 3) := by decide +kernel
theorem dX0_backAcross_98 : decode cX0_backAcross 98 = .ok (.goto (-88), 3) := by decide +kernel
theorem dX0_backAcross_101 : decode cX0_backAcross 101 = .ok (.iinc 3 1, 3) := by decide +kernel
theorem dX0_backAcross_104 : decode cX0_backAcross 104 = .ok (.goto (-102), 3) := by decide +kernel
theorem dX0_backAcross_107 : decode cX0_backAcross 107 = .ok (.return_, 1) := by decide +kernel
set_option maxHeartbeats 4000000 in
set_option maxRecDepth 100000 in
/-- P of BACK and the greatest |P| -/
theorem m_backDown (l : Launch) (D : va_G) (x : Nat → Nat) (cd : Nat → ClassId) (f0 f1 f2 f3 : Nat → Int32) (g : Nat → Int64) (nn sp : Nat) (h1 : nn ≤ 8) (h2 : sp ≤ 8) (sz : Nat) : Met l yX0_backDown wsX0_backDown ({ frames := 2, cells := 0, slots := 0, locals := 43 } : Room) (va_Pc [.ref (x 0), .int (nI nn), .int (nI sp)] (crw D (cw x cd f0 f1 f2 f3 g) (cty cd) sz)) (va_Ql (fun (r : Int64) (u : Nat → Int64) => r = bG (bP sp nn f0 f1) nn nn ∧ ∀ a b, a < nn → b < nn → u (a * 8 + b) = bP sp nn f0 f1 a b) (fun (u : Nat → Int64) (t : State) => crB D (cw x cd f0 f1 f2 f3 u) (cty cd) (va_A (cw x cd f0 f1 f2 f3 g) sz) t) (va_A (cw x cd f0 f1 f2 f3 g) sz)) 0 0 (va_A (cw x cd f0 f1 f2 f3 g) sz) := by
  refine Met.ofW (cc := cX0_backDown) (maxL := 11) (ret := some .long) (by decide) rfl ?_
  intro p e s m args below meth c s₁ B hml hv
  obtain ⟨rfl, hsz, hP, hK, hD0, hTb⟩ := hv
  have hx := B.exec
  have hb := B.bytes
  have hr := B.returns
  have hts : ∀ w ∈ wA, w.before _ s = true := fun w h => atoms_spec (ws := wsX0_backDown) B.pre w (List.mem_cons_of_mem _ h)
  have hown : s.vm.findClass RX0 = some m.cls := findClass_of_methodNamed B.named
  have hlocks := B.notSynchronized
  subst hsz
  have hD := hD0.self (sz := s.heap.size)
  generalize hAe : va_A (cw x cd f0 f1 f2 f3 g) s.heap.size = A at hD hTb ⊢
  have hA : ∀ q : Nat, s.heap.size ≤ q → A q := fun q h => by rw [← hAe]; exact Or.inr h
  have hS : va_S A s.heap s.heap [] := va_S.rf
  have hin0 := inA0
  have hf9 := (hts _ wm_28)
  have hf13 := (hts _ wm_29)
  have hf22 := (hts _ wm_32)
  have hl := lv_entry ([.ref (x 0), .int (nI nn), .int (nI sp)]) (n := 11) (Nat.le_of_ble_eq_true rfl)
  rw [lg_entry_eq]
  generalize (lg_sl ([.ref (x 0), .int (nI nn), .int (nI sp)]) ++ List.replicate (11 - (lg_sl ([.ref (x 0), .int (nI nn), .int (nI sp)])).length) Slot.unset).toArray = ls at hl ⊢
  have hl : lv_has ls 11 [(0, .ref (x 0)), (1, .int (nI nn)), (2, .int (nI sp))] := hl
  refine lv_lconst (v := (0 : Int64)) hx hb dX0_backDown_0 (by decide +kernel) ?_
  refine lv_lstore_n (lv' := [(3, .long (0 : Int64)), (0, .ref (x 0)), (1, .int (nI nn)), (2, .int (nI sp))]) hx hb dX0_backDown_1 rfl hl (by decide) rfl (fun ls hl => ?_)
  refine lv_iconst (v := (0 : Int32)) hx hb dX0_backDown_2 (by decide +kernel) ?_
  refine lv_istore (lv' := [(5, .int (0 : Int32)), (3, .long (0 : Int64)), (0, .ref (x 0)), (1, .int (nI nn)), (2, .int (nI sp))]) hx hb dX0_backDown_3 hl (by decide) rfl (fun ls hl => ?_)
  have L5 : ∀ (n : Nat) (y9 : Nat) (w9 : Nat → Int64) (H : Heap) (locs : List Loc) (ls : Array Slot), (nn - y9) < n → (y9 ≤ nn) → (∀ a b, a < y9 → b < nn → w9 (a * 8 + b) = bP sp nn f0 f1 a b) → va_P D vwCl (cw x cd f0 f1 f2 f3 w9) H → va_D A (cw x cd f0 f1 f2 f3 w9) → va_S A s.heap H locs → lv_has ls 11 [(0, .ref (x 0)), (1, .int (nI nn)), (2, .int (nI sp)), (3, .long (bG (bP sp nn f0 f1) nn y9)), (5, .int (nI y9))] → W p l e ((headSpec wsX0_backDown ({ frames := 2, cells := 0, slots := 0, locals := 43 } : Room)).room) s m (([.ref (x 0), .int (nI nn), .int (nI sp)] : List Value).toArray) below meth c H locs 0 0 (MQ below (va_Ql (fun (r : Int64) (u : Nat → Int64) => r = bG (bP sp nn f0 f1) nn nn ∧ ∀ a b, a < nn → b < nn → u (a * 8 + b) = bP sp nn f0 f1 a b) (fun (u : Nat → Int64) (t : State) => crB D (cw x cd f0 f1 f2 f3 u) (cty cd) A t) A) ([.ref (x 0), .int (nI nn), .int (nI sp)] : List Value).toArray s 0 0 A) (F0 m 5 ls []) := by
    intro n
    induction n with
    | zero =>
      intro y9 w9 H locs ls hn
      exact absurd hn (Nat.not_lt_zero _)
    | succ n ih5 =>
      intro y9 w9 H locs ls hn5 hy9 hw9 hP hD hS hl
      refine lv_iload hx hb dX0_backDown_5 (lv_at hl 4 rfl) ?_
      refine lv_iload_n hx hb dX0_backDown_7 rfl (lv_at hl 1 rfl) ?_
      refine cx_icmp_ge (i := ((y9 : Nat) : Int)) (j := ((nn : Nat) : Int)) (tgt := 125) hx hb (nI_toInt (by omega)) (nI_toInt (by omega)) dX0_backDown_8 (by decide) (fun c_1 => ?_) (fun c_1 => ?_)
      · refine lv_lload_n hx hb dX0_backDown_125 rfl (lv_at hl 3 rfl) ?_
        exact W.lret (v := bG (bP sp nn f0 f1) nn y9) hx hb hr (fun t ht hW => ⟨⟨bG (bP sp nn f0 f1) nn y9, w9, rfl, (by obtain rfl : nn = y9 := (by omega); exact ⟨rfl, fun a b ha9 hb9 => hw9 a b ha9 hb9⟩), by rw [ht]; exact hP, va_K.moved hW.alike hK, hD⟩, hS.F ht⟩) hS.2.2 dX0_backDown_126
      · refine lv_iconst (v := (0 : Int32)) hx hb dX0_backDown_11 (by decide +kernel) ?_
        refine lv_istore (lv' := [(6, .int (0 : Int32)), (0, .ref (x 0)), (1, .int (nI nn)), (2, .int (nI sp)), (3, .long (bG (bP sp nn f0 f1) nn y9)), (5, .int (nI y9))]) hx hb dX0_backDown_12 hl (by decide) rfl (fun ls hl => ?_)
        have L14 : ∀ (n : Nat) (u9 : Nat) (w9 : Nat → Int64) (H : Heap) (locs : List Loc) (ls : Array Slot), (nn - u9) < n → (u9 ≤ nn) → (∀ a b, (a < y9 ∨ (a = y9 ∧ b < u9)) → b < nn → w9 (a * 8 + b) = bP sp nn f0 f1 a b) → va_P D vwCl (cw x cd f0 f1 f2 f3 w9) H → va_D A (cw x cd f0 f1 f2 f3 w9) → va_S A s.heap H locs → lv_has ls 11 [(0, .ref (x 0)), (1, .int (nI nn)), (2, .int (nI sp)), (3, .long (bG1 (bP sp nn f0 f1) y9 (bG (bP sp nn f0 f1) nn y9) u9)), (5, .int (nI y9)), (6, .int (nI u9))] → W p l e ((headSpec wsX0_backDown ({ frames := 2, cells := 0, slots := 0, locals := 43 } : Room)).room) s m (([.ref (x 0), .int (nI nn), .int (nI sp)] : List Value).toArray) below meth c H locs 0 0 (MQ below (va_Ql (fun (r : Int64) (u : Nat → Int64) => r = bG (bP sp nn f0 f1) nn nn ∧ ∀ a b, a < nn → b < nn → u (a * 8 + b) = bP sp nn f0 f1 a b) (fun (u : Nat → Int64) (t : State) => crB D (cw x cd f0 f1 f2 f3 u) (cty cd) A t) A) ([.ref (x 0), .int (nI nn), .int (nI sp)] : List Value).toArray s 0 0 A) (F0 m 14 ls []) := by
          intro n
          induction n with
          | zero =>
            intro u9 w9 H locs ls hn
            exact absurd hn (Nat.not_lt_zero _)
          | succ n ih14 =>
            intro u9 w9 H locs ls hn14 hu9 hv9 hP hD hS hl
            refine lv_iload hx hb dX0_backDown_14 (lv_at hl 5 rfl) ?_
            refine lv_iload_n hx hb dX0_backDown_16 rfl (lv_at hl 1 rfl) ?_
            refine cx_icmp_ge (i := ((u9 : Nat) : Int)) (j := ((nn : Nat) : Int)) (tgt := 119) hx hb (nI_toInt (by omega)) (nI_toInt (by omega)) dX0_backDown_17 (by decide) (fun c_2 => ?_) (fun c_2 => ?_)
            · refine lv_iinc (v := nI (y9 + 1)) (lv' := [(5, .int (nI (y9 + 1))), (0, .ref (x 0)), (1, .int (nI nn)), (2, .int (nI sp)), (3, .long (bG1 (bP sp nn f0 f1) y9 (bG (bP sp nn f0 f1) nn y9) u9)), (6, .int (nI u9))]) hx hb dX0_backDown_119 hl (k := 4) rfl (by show nI y9 + 1 = nI (y9 + 1); exact nI_add y9 1) (by decide) rfl (fun ls hl => ?_)
              refine lv_goto (tgt := 5) hx hb dX0_backDown_122 (by decide) ?_
              obtain rfl : nn = u9 := by omega
              exact ih5 (y9 + 1) w9 _ _ _ (by omega) (by omega) (fun a b ha9 hb9 => hv9 a b (by omega) hb9) hP hD hS (lv_sub hl [1, 2, 3, 4, 0] rfl)
            · refine lv_lconst (v := (0 : Int64)) hx hb dX0_backDown_20 (by decide +kernel) ?_
              refine lv_lstore (lv' := [(7, .long (0 : Int64)), (0, .ref (x 0)), (1, .int (nI nn)), (2, .int (nI sp)), (3, .long (bG1 (bP sp nn f0 f1) y9 (bG (bP sp nn f0 f1) nn y9) u9)), (5, .int (nI y9)), (6, .int (nI u9))]) hx hb dX0_backDown_21 hl (by decide) rfl (fun ls hl => ?_)
              refine lv_iconst (v := (0 : Int32)) hx hb dX0_backDown_23 (by decide +kernel) ?_
              refine lv_istore (lv' := [(9, .int (0 : Int32)), (7, .long (0 : Int64)), (0, .ref (x 0)), (1, .int (nI nn)), (2, .int (nI sp)), (3, .long (bG1 (bP sp nn f0 f1) y9 (bG (bP sp nn f0 f1) nn y9) u9)), (5, .int (nI y9)), (6, .int (nI u9))]) hx hb dX0_backDown_24 hl (by decide) rfl (fun ls hl => ?_)
              have L26 : ∀ (n : Nat) (v9 : Nat) (H : Heap) (locs : List Loc) (ls : Array Slot), (nn - v9) < n → (v9 ≤ nn) → va_P D vwCl (cw x cd f0 f1 f2 f3 w9) H → va_D A (cw x cd f0 f1 f2 f3 w9) → va_S A s.heap H locs → lv_has ls 11 [(0, .ref (x 0)), (1, .int (nI nn)), (2, .int (nI sp)), (3, .long (bG1 (bP sp nn f0 f1) y9 (bG (bP sp nn f0 f1) nn y9) u9)), (5, .int (nI y9)), (6, .int (nI u9)), (7, .long (sumL (fun v9 => (wvN sp v9 y9).toInt64 * (f0 (v9 * 8 + u9) * f1 (v9 * 8 + u9)).toInt64) v9)), (9, .int (nI v9))] → W p l e ((headSpec wsX0_backDown ({ frames := 2, cells := 0, slots := 0, locals := 43 } : Room)).room) s m (([.ref (x 0), .int (nI nn), .int (nI sp)] : List Value).toArray) below meth c H locs 0 0 (MQ below (va_Ql (fun (r : Int64) (u : Nat → Int64) => r = bG (bP sp nn f0 f1) nn nn ∧ ∀ a b, a < nn → b < nn → u (a * 8 + b) = bP sp nn f0 f1 a b) (fun (u : Nat → Int64) (t : State) => crB D (cw x cd f0 f1 f2 f3 u) (cty cd) A t) A) ([.ref (x 0), .int (nI nn), .int (nI sp)] : List Value).toArray s 0 0 A) (F0 m 26 ls []) := by
                intro n
                induction n with
                | zero =>
                  intro v9 H locs ls hn
                  exact absurd hn (Nat.not_lt_zero _)
                | succ n ih26 =>
                  intro v9 H locs ls hn26 hk9 hP hD hS hl
                  refine lv_iload hx hb dX0_backDown_26 (lv_at hl 7 rfl) ?_
                  refine lv_iload_n hx hb dX0_backDown_28 rfl (lv_at hl 1 rfl) ?_
                  refine cx_icmp_ge (i := ((v9 : Nat) : Int)) (j := ((nn : Nat) : Int)) (tgt := 79) hx hb (nI_toInt (by omega)) (nI_toInt (by omega)) dX0_backDown_29 (by decide) (fun c_3 => ?_) (fun c_3 => ?_)
                  · have hvn : v9 = nn := by omega
                    have e_4 : sumL (fun v9 => (wvN sp v9 y9).toInt64 * (f0 (v9 * 8 + u9) * f1 (v9 * 8 + u9)).toInt64) v9 = sumL (fun v9 => (wvN sp v9 y9).toInt64 * (f0 (v9 * 8 + u9) * f1 (v9 * 8 + u9)).toInt64) nn := by rw [hvn]
                    rw [e_4] at hl
                    refine lv_lload hx hb dX0_backDown_79 (lv_at hl 6 rfl) ?_
                    refine lv_bipush (v := (11 : Int32)) hx hb dX0_backDown_81 (by decide +kernel) ?_
                    refine vp_callSl (W.runS (As := [.long (sumL (fun v9 => (wvN sp v9 y9).toInt64 * (f0 (v9 * 8 + u9) * f1 (v9 * 8 + u9)).toInt64) nn), .int (11 : Int32)]) (rest := []) ⟨hx, hb, hml, hown, hts⟩ (m_rounded l D (sumL (fun v9 => (wvN sp v9 y9).toInt64 * (f0 (v9 * 8 + u9) * f1 (v9 * 8 + u9)).toInt64) nn) (11 : Int32)) (va_cwS 2 hts (gw_S wm_62 wm_63 wm_12 wm_64) rfl rfl rfl (by decide +kernel) ⟨Nat.le_of_ble_eq_true rfl, Nat.le_of_ble_eq_true rfl⟩) ⟨cro_blind, fun U hU hW => ⟨rfl, cro_at (hP.sub (ws' := []) [] rfl) (hK.sub (tys' := []) [] rfl) hTb hS hU hW⟩⟩ rfl rfl hl.1 rfl (lv_room (Nat.le_of_ble_eq_true rfl)) dX0_backDown_83 ⟨Nat.le_of_ble_eq_true rfl, Nat.le_of_ble_eq_true rfl⟩) (fun r_5 hr_5 => ?_)
                    rw [hr_5]
                    refine lv_lstore (lv' := [(9, .long (rdL (sumL (fun v9 => (wvN sp v9 y9).toInt64 * (f0 (v9 * 8 + u9) * f1 (v9 * 8 + u9)).toInt64) nn) (11 : Int32))), (0, .ref (x 0)), (1, .int (nI nn)), (2, .int (nI sp)), (3, .long (bG1 (bP sp nn f0 f1) y9 (bG (bP sp nn f0 f1) nn y9) u9)), (5, .int (nI y9)), (6, .int (nI u9)), (7, .long (sumL (fun v9 => (wvN sp v9 y9).toInt64 * (f0 (v9 * 8 + u9) * f1 (v9 * 8 + u9)).toInt64) nn))]) hx hb dX0_backDown_86 hl (by decide) rfl (fun ls hl => ?_)
                    refine lv_aload_n hx hb dX0_backDown_88 rfl (lv_at hl 1 rfl) ?_
                    refine va_get (D := D) (ci := 0) (v := .ref (x 5)) (C := RX0) (T := TX0) (N := 5) hx hb hts hin0 hown hK hP 0 rfl rfl 4 (by decide) hf22 (fun _ h9 => h9) rfl dX0_backDown_89 ?_
                    refine lv_iload hx hb dX0_backDown_92 (lv_at hl 5 rfl) ?_
                    refine lv_bipush (v := (8 : Int32)) hx hb dX0_backDown_94 (by decide +kernel) ?_
                    refine cx_imul hx hb y9 8 dX0_backDown_96 ?_
                    refine lv_iload hx hb dX0_backDown_97 (lv_at hl 6 rfl) ?_
                    refine cx_iadd hx hb (y9 * 8) u9 dX0_backDown_99 ?_
                    refine lv_lload hx hb dX0_backDown_100 (lv_at hl 0 rfl) ?_
                    refine cx_last hx hb hK hP hD hS 5 4 rfl rfl (y9 * 8 + u9) (by omega) (by decide) dX0_backDown_102 (fun H locs hP hD hS => ?_)
                    have hP : va_P D vwCl (cw x cd f0 f1 f2 f3 (vp_updL w9 (y9 * 8 + u9) (rdL (sumL (fun v9 => (wvN sp v9 y9).toInt64 * (f0 (v9 * 8 + u9) * f1 (v9 * 8 + u9)).toInt64) nn) (11 : Int32)))) H := hP
                    have hD : va_D A (cw x cd f0 f1 f2 f3 (vp_updL w9 (y9 * 8 + u9) (rdL (sumL (fun v9 => (wvN sp v9 y9).toInt64 * (f0 (v9 * 8 + u9) * f1 (v9 * 8 + u9)).toInt64) nn) (11 : Int32)))) := hD
                    refine lv_lload_n hx hb dX0_backDown_103 rfl (lv_at hl 4 rfl) ?_
                    refine lv_lload hx hb dX0_backDown_104 (lv_at hl 0 rfl) ?_
                    refine va_mabs_long hx hb (hml.trans hl.1.symm) hown (hts _ wm_254) (hts _ wm_255) (hts _ wm_19) (hts _ wm_256) (Nat.le_of_ble_eq_true rfl) (Nat.le_of_ble_eq_true rfl) (Nat.zero_le _) (Nat.zero_le _) dX0_backDown_106 ?_
                    refine va_mmax_long hx hb (hml.trans hl.1.symm) hown (hts _ wm_257) (hts _ wm_258) (hts _ wm_19) (hts _ wm_259) (Nat.le_of_ble_eq_true rfl) (Nat.le_of_ble_eq_true rfl) (Nat.zero_le _) (Nat.zero_le _) dX0_backDown_109 ?_
                    refine lv_lstore_n (lv' := [(3, .long (maxL (bG1 (bP sp nn f0 f1) y9 (bG (bP sp nn f0 f1) nn y9) u9) (absL (rdL (sumL (fun v9 => (wvN sp v9 y9).toInt64 * (f0 (v9 * 8 + u9) * f1 (v9 * 8 + u9)).toInt64) nn) (11 : Int32))))), (9, .long (rdL (sumL (fun v9 => (wvN sp v9 y9).toInt64 * (f0 (v9 * 8 + u9) * f1 (v9 * 8 + u9)).toInt64) nn) (11 : Int32))), (0, .ref (x 0)), (1, .int (nI nn)), (2, .int (nI sp)), (5, .int (nI y9)), (6, .int (nI u9)), (7, .long (sumL (fun v9 => (wvN sp v9 y9).toInt64 * (f0 (v9 * 8 + u9) * f1 (v9 * 8 + u9)).toInt64) nn))]) hx hb dX0_backDown_112 rfl hl (by decide) rfl (fun ls hl => ?_)
                    refine lv_iinc (v := nI (u9 + 1)) (lv' := [(6, .int (nI (u9 + 1))), (3, .long (maxL (bG1 (bP sp nn f0 f1) y9 (bG (bP sp nn f0 f1) nn y9) u9) (absL (rdL (sumL (fun v9 => (wvN sp v9 y9).toInt64 * (f0 (v9 * 8 + u9) * f1 (v9 * 8 + u9)).toInt64) nn) (11 : Int32))))), (9, .long (rdL (sumL (fun v9 => (wvN sp v9 y9).toInt64 * (f0 (v9 * 8 + u9) * f1 (v9 * 8 + u9)).toInt64) nn) (11 : Int32))), (0, .ref (x 0)), (1, .int (nI nn)), (2, .int (nI sp)), (5, .int (nI y9)), (7, .long (sumL (fun v9 => (wvN sp v9 y9).toInt64 * (f0 (v9 * 8 + u9) * f1 (v9 * 8 + u9)).toInt64) nn))]) hx hb dX0_backDown_113 hl (k := 6) rfl (by show nI u9 + 1 = nI (u9 + 1); exact nI_add u9 1) (by decide) rfl (fun ls hl => ?_)
                    refine lv_goto (tgt := 14) hx hb dX0_backDown_116 (by decide) ?_
                    exact ih14 (u9 + 1) (vp_updL w9 (y9 * 8 + u9) (rdL (sumL (fun v9 => (wvN sp v9 y9).toInt64 * (f0 (v9 * 8 + u9) * f1 (v9 * 8 + u9)).toInt64) nn) (11 : Int32))) _ _ _ (by omega) (by omega) (by
                        intro a b ha9 hb9
                        by_cases hq : a * 8 + b = y9 * 8 + u9
                        · obtain rfl : y9 = a := by omega
                          obtain rfl : u9 = b := by omega
                          exact pk_uLs
                        · rw [pk_uLn hq]; exact hv9 a b (by omega) hb9) hP hD hS (lv_sub hl [3, 4, 5, 1, 6, 0] rfl)
                  · refine lv_iload hx hb dX0_backDown_32 (lv_at hl 7 rfl) ?_
                    refine lv_bipush (v := (8 : Int32)) hx hb dX0_backDown_34 (by decide +kernel) ?_
                    refine cx_imul hx hb v9 8 dX0_backDown_36 ?_
                    refine lv_iload hx hb dX0_backDown_37 (lv_at hl 5 rfl) ?_
                    refine cx_iadd hx hb (v9 * 8) u9 dX0_backDown_39 ?_
                    refine lv_istore (lv' := [(10, .int (nI (v9 * 8 + u9))), (0, .ref (x 0)), (1, .int (nI nn)), (2, .int (nI sp)), (3, .long (bG1 (bP sp nn f0 f1) y9 (bG (bP sp nn f0 f1) nn y9) u9)), (5, .int (nI y9)), (6, .int (nI u9)), (7, .long (sumL (fun v9 => (wvN sp v9 y9).toInt64 * (f0 (v9 * 8 + u9) * f1 (v9 * 8 + u9)).toInt64) v9)), (9, .int (nI v9))]) hx hb dX0_backDown_40 hl (by decide) rfl (fun ls hl => ?_)
                    refine lv_lload hx hb dX0_backDown_42 (lv_at hl 7 rfl) ?_
                    refine lv_iload_n hx hb dX0_backDown_44 rfl (lv_at hl 3 rfl) ?_
                    refine lv_iload hx hb dX0_backDown_45 (lv_at hl 8 rfl) ?_
                    refine lv_iload hx hb dX0_backDown_47 (lv_at hl 5 rfl) ?_
                    refine vp_callSi (W.runS (As := [.int (nI sp), .int (nI v9), .int (nI y9)]) (rest := [.long (sumL (fun v9 => (wvN sp v9 y9).toInt64 * (f0 (v9 * 8 + u9) * f1 (v9 * 8 + u9)).toInt64) v9)]) ⟨hx, hb, hml, hown, hts⟩ (m_waveAt l D sp v9 y9 (by omega) (by omega) (by omega)) (va_cwS 3 hts (gw_S wm_54 wm_55 wm_12 wm_56) rfl rfl rfl (by decide +kernel) ⟨Nat.le_of_ble_eq_true rfl, Nat.le_of_ble_eq_true rfl⟩) ⟨cro_blind, fun U hU hW => ⟨rfl, cro_at (hP.sub (ws' := []) [] rfl) (hK.sub (tys' := []) [] rfl) hTb hS hU hW⟩⟩ rfl rfl hl.1 rfl (lv_room (Nat.le_of_ble_eq_true rfl)) dX0_backDown_49 ⟨Nat.le_of_ble_eq_true rfl, Nat.le_of_ble_eq_true rfl⟩) (fun r_6 hr_6 => ?_)
                    rw [hr_6]
                    refine lv_i2l hx hb dX0_backDown_52 rfl ?_
                    refine lv_aload_n hx hb dX0_backDown_53 rfl (lv_at hl 1 rfl) ?_
                    refine va_get (D := D) (ci := 0) (v := .ref (x 1)) (C := RX0) (T := TX0) (N := 5) hx hb hts hin0 hown hK hP 0 rfl rfl 0 (by decide) hf9 (fun _ h9 => h9) rfl dX0_backDown_54 ?_
                    refine lv_iload hx hb dX0_backDown_57 (lv_at hl 0 rfl) ?_
                    refine cx_iald hx hb hK hP 1 0 rfl rfl (v9 * 8 + u9) (by omega) (by decide) dX0_backDown_59 ?_
                    refine lv_aload_n hx hb dX0_backDown_60 rfl (lv_at hl 1 rfl) ?_
                    refine va_get (D := D) (ci := 0) (v := .ref (x 2)) (C := RX0) (T := TX0) (N := 5) hx hb hts hin0 hown hK hP 0 rfl rfl 1 (by decide) hf13 (fun _ h9 => h9) rfl dX0_backDown_61 ?_
                    refine lv_iload hx hb dX0_backDown_64 (lv_at hl 0 rfl) ?_
                    refine cx_iald hx hb hK hP 2 1 rfl rfl (v9 * 8 + u9) (by omega) (by decide) dX0_backDown_66 ?_
                    refine lv_imul hx hb dX0_backDown_67 ?_
                    refine lv_i2l hx hb dX0_backDown_68 rfl ?_
                    refine lv_lmul hx hb dX0_backDown_69 ?_
                    refine lv_ladd hx hb dX0_backDown_70 ?_
                    refine lv_lstore (lv' := [(7, .long ((sumL (fun v9 => (wvN sp v9 y9).toInt64 * (f0 (v9 * 8 + u9) * f1 (v9 * 8 + u9)).toInt64) v9) + (((wvN sp v9 y9).toInt64) * (((f0 (v9 * 8 + u9)) * (f1 (v9 * 8 + u9))).toInt64)))), (10, .int (nI (v9 * 8 + u9))), (0, .ref (x 0)), (1, .int (nI nn)), (2, .int (nI sp)), (3, .long (bG1 (bP sp nn f0 f1) y9 (bG (bP sp nn f0 f1) nn y9) u9)), (5, .int (nI y9)), (6, .int (nI u9)), (9, .int (nI v9))]) hx hb dX0_backDown_71 hl (by decide) rfl (fun ls hl => ?_)
                    refine lv_iinc (v := nI (v9 + 1)) (lv' := [(9, .int (nI (v9 + 1))), (7, .long ((sumL (fun v9 => (wvN sp v9 y9).toInt64 * (f0 (v9 * 8 + u9) * f1 (v9 * 8 + u9)).toInt64) v9) + (((wvN sp v9 y9).toInt64) * (((f0 (v9 * 8 + u9)) * (f1 (v9 * 8 + u9))).toInt64)))), (10, .int (nI (v9 * 8 + u9))), (0, .ref (x 0)), (1, .int (nI nn)), (2, .int (nI sp)), (3, .long (bG1 (bP sp nn f0 f1) y9 (bG (bP sp nn f0 f1) nn y9) u9)), (5, .int (nI y9)), (6, .int (nI u9))]) hx hb dX0_backDown_73 hl (k := 8) rfl (by show nI v9 + 1 = nI (v9 + 1); exact nI_add v9 1) (by decide) rfl (fun ls hl => ?_)
                    refine lv_goto (tgt := 26) hx hb dX0_backDown_76 (by decide) ?_
                    exact ih26 (v9 + 1) _ _ _ (by omega) (by omega) hP hD hS (lv_sub hl [3, 4, 5, 6, 7, 8, 1, 0] rfl)
              exact L26 _ 0 _ _ _ (Nat.lt_succ_self _) (Nat.zero_le _) hP hD hS (lv_sub hl [2, 3, 4, 5, 6, 7, 1, 0] rfl)
        exact L14 _ 0 w9 _ _ _ (Nat.lt_succ_self _) (Nat.zero_le _) (fun a b ha9 hb9 => hw9 a b (by omega) hb9) hP hD hS (lv_sub hl [1, 2, 3, 4, 5, 0] rfl)
  exact L5 _ 0 g _ _ _ (Nat.lt_succ_self _) (Nat.zero_le _) (fun a b ha9 => absurd ha9 (Nat.not_lt_zero a)) hP hD hS (lv_sub hl [2, 3, 4, 1, 0] rfl)
set_option maxHeartbeats 4000000 in
set_option maxRecDepth 100000 in
/-- S of BACK -/
theorem m_backAcross (l : Launch) (D : va_G) (x : Nat → Nat) (cd : Nat → ClassId) (f0 f1 f2 f3 : Nat → Int32) (g : Nat → Int64) (nn sp : Nat) (h1 : nn ≤ 8) (h2 : sp ≤ 8) (sz : Nat) : Met l yX0_backAcross wsX0_backAcross ({ frames := 2, cells := 0, slots := 0, locals := 43 } : Room) (va_Pc [.ref (x 0), .int (nI nn), .int (nI sp)] (crw D (cw x cd f0 f1 f2 f3 g) (cty cd) sz)) (va_Qv (fun (u : Nat → Int32) => ∀ a b, a < 8 → b < 8 → u (a * 8 + b) = if a < nn ∧ b < nn then bS sp nn (fun a9 b9 => g (a9 * 8 + b9)) a b else f2 (a * 8 + b)) (fun (u : Nat → Int32) (t : State) => crB D (cw x cd f0 f1 u f3 g) (cty cd) (va_A (cw x cd f0 f1 f2 f3 g) sz) t) (va_A (cw x cd f0 f1 f2 f3 g) sz)) 0 0 (va_A (cw x cd f0 f1 f2 f3 g) sz) := by
  refine Met.ofW (cc := cX0_backAcross) (maxL := 9) (ret := none) (by decide) rfl ?_
  intro p e s m args below meth c s₁ B hml hv
  obtain ⟨rfl, hsz, hP, hK, hD0, hTb⟩ := hv
  have hx := B.exec
  have hb := B.bytes
  have hr := B.returns
  have hts : ∀ w ∈ wA, w.before _ s = true := fun w h => atoms_spec (ws := wsX0_backAcross) B.pre w (List.mem_cons_of_mem _ h)
  have hown : s.vm.findClass RX0 = some m.cls := findClass_of_methodNamed B.named
  have hlocks := B.notSynchronized
  subst hsz
  have hD := hD0.self (sz := s.heap.size)
  generalize hAe : va_A (cw x cd f0 f1 f2 f3 g) s.heap.size = A at hD hTb ⊢
  have hA : ∀ q : Nat, s.heap.size ≤ q → A q := fun q h => by rw [← hAe]; exact Or.inr h
  have hS : va_S A s.heap s.heap [] := va_S.rf
  have hin0 := inA0
  have hf22 := (hts _ wm_32)
  have hf16 := (hts _ wm_30)
  have hl := lv_entry ([.ref (x 0), .int (nI nn), .int (nI sp)]) (n := 9) (Nat.le_of_ble_eq_true rfl)
  rw [lg_entry_eq]
  generalize (lg_sl ([.ref (x 0), .int (nI nn), .int (nI sp)]) ++ List.replicate (9 - (lg_sl ([.ref (x 0), .int (nI nn), .int (nI sp)])).length) Slot.unset).toArray = ls at hl ⊢
  have hl : lv_has ls 9 [(0, .ref (x 0)), (1, .int (nI nn)), (2, .int (nI sp))] := hl
  refine lv_iconst (v := (0 : Int32)) hx hb dX0_backAcross_0 (by decide +kernel) ?_
  refine lv_istore_n (lv' := [(3, .int (0 : Int32)), (0, .ref (x 0)), (1, .int (nI nn)), (2, .int (nI sp))]) hx hb dX0_backAcross_1 rfl hl (by decide) rfl (fun ls hl => ?_)
  have L2 : ∀ (n : Nat) (y9 : Nat) (w9 : Nat → Int32) (H : Heap) (locs : List Loc) (ls : Array Slot), (nn - y9) < n → (y9 ≤ nn) → (∀ a b, a < 8 → b < 8 → w9 (a * 8 + b) = if a < y9 ∧ b < nn then bS sp nn (fun a9 b9 => g (a9 * 8 + b9)) a b else f2 (a * 8 + b)) → va_P D vwCl (cw x cd f0 f1 w9 f3 g) H → va_D A (cw x cd f0 f1 w9 f3 g) → va_S A s.heap H locs → lv_has ls 9 [(0, .ref (x 0)), (1, .int (nI nn)), (2, .int (nI sp)), (3, .int (nI y9))] → W p l e ((headSpec wsX0_backAcross ({ frames := 2, cells := 0, slots := 0, locals := 43 } : Room)).room) s m (([.ref (x 0), .int (nI nn), .int (nI sp)] : List Value).toArray) below meth c H locs 0 0 (MQ below (va_Qv (fun (u : Nat → Int32) => ∀ a b, a < 8 → b < 8 → u (a * 8 + b) = if a < nn ∧ b < nn then bS sp nn (fun a9 b9 => g (a9 * 8 + b9)) a b else f2 (a * 8 + b)) (fun (u : Nat → Int32) (t : State) => crB D (cw x cd f0 f1 u f3 g) (cty cd) A t) A) ([.ref (x 0), .int (nI nn), .int (nI sp)] : List Value).toArray s 0 0 A) (F0 m 2 ls []) := by
    intro n
    induction n with
    | zero =>
      intro y9 w9 H locs ls hn
      exact absurd hn (Nat.not_lt_zero _)
    | succ n ih2 =>
      intro y9 w9 H locs ls hn2 hy9 hw9 hP hD hS hl
      refine lv_iload_n hx hb dX0_backAcross_2 rfl (lv_at hl 3 rfl) ?_
      refine lv_iload_n hx hb dX0_backAcross_3 rfl (lv_at hl 1 rfl) ?_
      refine cx_icmp_ge (i := ((y9 : Nat) : Int)) (j := ((nn : Nat) : Int)) (tgt := 107) hx hb (nI_toInt (by omega)) (nI_toInt (by omega)) dX0_backAcross_4 (by decide) (fun c_1 => ?_) (fun c_1 => ?_)
      · exact W.vret hx hb hr (fun t ht hW => ⟨⟨w9, rfl, (by obtain rfl : nn = y9 := (by omega); exact hw9), by rw [ht]; exact hP, va_K.moved hW.alike hK, hD⟩, hS.F ht⟩) hS.2.2 dX0_backAcross_107
      · refine lv_iconst (v := (0 : Int32)) hx hb dX0_backAcross_7 (by decide +kernel) ?_
        refine lv_istore (lv' := [(4, .int (0 : Int32)), (0, .ref (x 0)), (1, .int (nI nn)), (2, .int (nI sp)), (3, .int (nI y9))]) hx hb dX0_backAcross_8 hl (by decide) rfl (fun ls hl => ?_)
        have L10 : ∀ (n : Nat) (x9 : Nat) (w9 : Nat → Int32) (H : Heap) (locs : List Loc) (ls : Array Slot), (nn - x9) < n → (x9 ≤ nn) → (∀ a b, a < 8 → b < 8 → w9 (a * 8 + b) = if (a < y9 ∧ b < nn) ∨ (a = y9 ∧ b < x9) then bS sp nn (fun a9 b9 => g (a9 * 8 + b9)) a b else f2 (a * 8 + b)) → va_P D vwCl (cw x cd f0 f1 w9 f3 g) H → va_D A (cw x cd f0 f1 w9 f3 g) → va_S A s.heap H locs → lv_has ls 9 [(0, .ref (x 0)), (1, .int (nI nn)), (2, .int (nI sp)), (3, .int (nI y9)), (4, .int (nI x9))] → W p l e ((headSpec wsX0_backAcross ({ frames := 2, cells := 0, slots := 0, locals := 43 } : Room)).room) s m (([.ref (x 0), .int (nI nn), .int (nI sp)] : List Value).toArray) below meth c H locs 0 0 (MQ below (va_Qv (fun (u : Nat → Int32) => ∀ a b, a < 8 → b < 8 → u (a * 8 + b) = if a < nn ∧ b < nn then bS sp nn (fun a9 b9 => g (a9 * 8 + b9)) a b else f2 (a * 8 + b)) (fun (u : Nat → Int32) (t : State) => crB D (cw x cd f0 f1 u f3 g) (cty cd) A t) A) ([.ref (x 0), .int (nI nn), .int (nI sp)] : List Value).toArray s 0 0 A) (F0 m 10 ls []) := by
          intro n
          induction n with
          | zero =>
            intro x9 w9 H locs ls hn
            exact absurd hn (Nat.not_lt_zero _)
          | succ n ih10 =>
            intro x9 w9 H locs ls hn10 hx9 hv9 hP hD hS hl
            refine lv_iload hx hb dX0_backAcross_10 (lv_at hl 4 rfl) ?_
            refine lv_iload_n hx hb dX0_backAcross_12 rfl (lv_at hl 1 rfl) ?_
            refine cx_icmp_ge (i := ((x9 : Nat) : Int)) (j := ((nn : Nat) : Int)) (tgt := 101) hx hb (nI_toInt (by omega)) (nI_toInt (by omega)) dX0_backAcross_13 (by decide) (fun c_2 => ?_) (fun c_2 => ?_)
            · refine lv_iinc (v := nI (y9 + 1)) (lv' := [(3, .int (nI (y9 + 1))), (0, .ref (x 0)), (1, .int (nI nn)), (2, .int (nI sp)), (4, .int (nI x9))]) hx hb dX0_backAcross_101 hl (k := 3) rfl (by show nI y9 + 1 = nI (y9 + 1); exact nI_add y9 1) (by decide) rfl (fun ls hl => ?_)
              refine lv_goto (tgt := 2) hx hb dX0_backAcross_104 (by decide) ?_
              exact ih2 (y9 + 1) w9 _ _ _ (by omega) (by omega) (by
                  intro a b ha9 hb9
                  rw [hv9 a b ha9 hb9]
                  by_cases hq : (a < y9 ∧ b < nn) ∨ (a = y9 ∧ b < x9)
                  · rw [if_pos hq, if_pos (by omega)]
                  · rw [if_neg hq, if_neg (by omega)]) hP hD hS (lv_sub hl [1, 2, 3, 0] rfl)
            · refine lv_lconst (v := (0 : Int64)) hx hb dX0_backAcross_16 (by decide +kernel) ?_
              refine lv_lstore (lv' := [(5, .long (0 : Int64)), (0, .ref (x 0)), (1, .int (nI nn)), (2, .int (nI sp)), (3, .int (nI y9)), (4, .int (nI x9))]) hx hb dX0_backAcross_17 hl (by decide) rfl (fun ls hl => ?_)
              refine lv_iconst (v := (0 : Int32)) hx hb dX0_backAcross_19 (by decide +kernel) ?_
              refine lv_istore (lv' := [(7, .int (0 : Int32)), (5, .long (0 : Int64)), (0, .ref (x 0)), (1, .int (nI nn)), (2, .int (nI sp)), (3, .int (nI y9)), (4, .int (nI x9))]) hx hb dX0_backAcross_20 hl (by decide) rfl (fun ls hl => ?_)
              have L22 : ∀ (n : Nat) (u9 : Nat) (H : Heap) (locs : List Loc) (ls : Array Slot), (nn - u9) < n → (u9 ≤ nn) → va_P D vwCl (cw x cd f0 f1 w9 f3 g) H → va_D A (cw x cd f0 f1 w9 f3 g) → va_S A s.heap H locs → lv_has ls 9 [(0, .ref (x 0)), (1, .int (nI nn)), (2, .int (nI sp)), (3, .int (nI y9)), (4, .int (nI x9)), (5, .long (sumL (fun u9 => (wvN sp u9 x9).toInt64 * g (y9 * 8 + u9)) u9)), (7, .int (nI u9))] → W p l e ((headSpec wsX0_backAcross ({ frames := 2, cells := 0, slots := 0, locals := 43 } : Room)).room) s m (([.ref (x 0), .int (nI nn), .int (nI sp)] : List Value).toArray) below meth c H locs 0 0 (MQ below (va_Qv (fun (u : Nat → Int32) => ∀ a b, a < 8 → b < 8 → u (a * 8 + b) = if a < nn ∧ b < nn then bS sp nn (fun a9 b9 => g (a9 * 8 + b9)) a b else f2 (a * 8 + b)) (fun (u : Nat → Int32) (t : State) => crB D (cw x cd f0 f1 u f3 g) (cty cd) A t) A) ([.ref (x 0), .int (nI nn), .int (nI sp)] : List Value).toArray s 0 0 A) (F0 m 22 ls []) := by
                intro n
                induction n with
                | zero =>
                  intro u9 H locs ls hn
                  exact absurd hn (Nat.not_lt_zero _)
                | succ n ih22 =>
                  intro u9 H locs ls hn22 hu9 hP hD hS hl
                  refine lv_iload hx hb dX0_backAcross_22 (lv_at hl 6 rfl) ?_
                  refine lv_iload_n hx hb dX0_backAcross_24 rfl (lv_at hl 1 rfl) ?_
                  refine cx_icmp_ge (i := ((u9 : Nat) : Int)) (j := ((nn : Nat) : Int)) (tgt := 61) hx hb (nI_toInt (by omega)) (nI_toInt (by omega)) dX0_backAcross_25 (by decide) (fun c_3 => ?_) (fun c_3 => ?_)
                  · have hun : u9 = nn := by omega
                    have e_4 : sumL (fun u9 => (wvN sp u9 x9).toInt64 * g (y9 * 8 + u9)) u9 = sumL (fun u9 => (wvN sp u9 x9).toInt64 * g (y9 * 8 + u9)) nn := by rw [hun]
                    rw [e_4] at hl
                    refine lv_lload hx hb dX0_backAcross_61 (lv_at hl 5 rfl) ?_
                    refine lv_bipush (v := (17 : Int32)) hx hb dX0_backAcross_63 (by decide +kernel) ?_
                    refine vp_callSl (W.runS (As := [.long (sumL (fun u9 => (wvN sp u9 x9).toInt64 * g (y9 * 8 + u9)) nn), .int (17 : Int32)]) (rest := []) ⟨hx, hb, hml, hown, hts⟩ (m_rounded l D (sumL (fun u9 => (wvN sp u9 x9).toInt64 * g (y9 * 8 + u9)) nn) (17 : Int32)) (va_cwS 2 hts (gw_S wm_62 wm_63 wm_12 wm_64) rfl rfl rfl (by decide +kernel) ⟨Nat.le_of_ble_eq_true rfl, Nat.le_of_ble_eq_true rfl⟩) ⟨cro_blind, fun U hU hW => ⟨rfl, cro_at (hP.sub (ws' := []) [] rfl) (hK.sub (tys' := []) [] rfl) hTb hS hU hW⟩⟩ rfl rfl hl.1 rfl (lv_room (Nat.le_of_ble_eq_true rfl)) dX0_backAcross_65 ⟨Nat.le_of_ble_eq_true rfl, Nat.le_of_ble_eq_true rfl⟩) (fun r_5 hr_5 => ?_)
                    rw [hr_5]
                    refine lv_ldc2 (v := (128 : Int64)) hx hb hown (hts _ wm_264) dX0_backAcross_68 ?_
                    refine lv_ladd hx hb dX0_backAcross_71 ?_
                    refine lv_lstore (lv' := [(7, .long ((rdL (sumL (fun u9 => (wvN sp u9 x9).toInt64 * g (y9 * 8 + u9)) nn) (17 : Int32)) + (128 : Int64))), (0, .ref (x 0)), (1, .int (nI nn)), (2, .int (nI sp)), (3, .int (nI y9)), (4, .int (nI x9)), (5, .long (sumL (fun u9 => (wvN sp u9 x9).toInt64 * g (y9 * 8 + u9)) nn))]) hx hb dX0_backAcross_72 hl (by decide) rfl (fun ls hl => ?_)
                    refine lv_aload_n hx hb dX0_backAcross_74 rfl (lv_at hl 1 rfl) ?_
                    refine va_get (D := D) (ci := 0) (v := .ref (x 3)) (C := RX0) (T := TX0) (N := 5) hx hb hts hin0 hown hK hP 0 rfl rfl 2 (by decide) hf16 (fun _ h9 => h9) rfl dX0_backAcross_75 ?_
                    refine lv_iload_n hx hb dX0_backAcross_78 rfl (lv_at hl 4 rfl) ?_
                    refine lv_bipush (v := (8 : Int32)) hx hb dX0_backAcross_79 (by decide +kernel) ?_
                    refine cx_imul hx hb y9 8 dX0_backAcross_81 ?_
                    refine lv_iload hx hb dX0_backAcross_82 (lv_at hl 5 rfl) ?_
                    refine cx_iadd hx hb (y9 * 8) x9 dX0_backAcross_84 ?_
                    refine lv_lload hx hb dX0_backAcross_85 (lv_at hl 0 rfl) ?_
                    refine lv_iconst (v := (0 : Int32)) hx hb dX0_backAcross_87 (by decide +kernel) ?_
                    refine lv_sipush (v := (255 : Int32)) hx hb dX0_backAcross_88 (by decide +kernel) ?_
                    refine vp_callSi (W.runS (As := [.long ((rdL (sumL (fun u9 => (wvN sp u9 x9).toInt64 * g (y9 * 8 + u9)) nn) (17 : Int32)) + (128 : Int64)), .int (0 : Int32), .int (255 : Int32)]) (rest := [.int (nI (y9 * 8 + x9)), .ref (x 3)]) ⟨hx, hb, hml, hown, hts⟩ (m_clamped l D ((rdL (sumL (fun u9 => (wvN sp u9 x9).toInt64 * g (y9 * 8 + u9)) nn) (17 : Int32)) + (128 : Int64)) (0 : Int32) (255 : Int32)) (va_cwS 3 hts (gw_S wm_228 wm_229 wm_12 wm_230) rfl rfl rfl (by decide +kernel) ⟨Nat.le_of_ble_eq_true rfl, Nat.le_of_ble_eq_true rfl⟩) ⟨cro_blind, fun U hU hW => ⟨rfl, cro_at (hP.sub (ws' := []) [] rfl) (hK.sub (tys' := []) [] rfl) hTb hS hU hW⟩⟩ rfl rfl hl.1 rfl (lv_room (Nat.le_of_ble_eq_true rfl)) dX0_backAcross_91 ⟨Nat.le_of_ble_eq_true rfl, Nat.le_of_ble_eq_true rfl⟩) (fun r_6 hr_6 => ?_)
                    rw [hr_6]
                    refine cx_iast hx hb hK hP hD hS 3 2 rfl rfl (y9 * 8 + x9) (by omega) (by decide) dX0_backAcross_94 (fun H locs hP hD hS => ?_)
                    have hP : va_P D vwCl (cw x cd f0 f1 (upd w9 (y9 * 8 + x9) (clampV ((rdL (sumL (fun u9 => (wvN sp u9 x9).toInt64 * g (y9 * 8 + u9)) nn) (17 : Int32)) + (128 : Int64)) (0 : Int32) (255 : Int32))) f3 g) H := hP
                    have hD : va_D A (cw x cd f0 f1 (upd w9 (y9 * 8 + x9) (clampV ((rdL (sumL (fun u9 => (wvN sp u9 x9).toInt64 * g (y9 * 8 + u9)) nn) (17 : Int32)) + (128 : Int64)) (0 : Int32) (255 : Int32))) f3 g) := hD
                    refine lv_iinc (v := nI (x9 + 1)) (lv' := [(4, .int (nI (x9 + 1))), (7, .long ((rdL (sumL (fun u9 => (wvN sp u9 x9).toInt64 * g (y9 * 8 + u9)) nn) (17 : Int32)) + (128 : Int64))), (0, .ref (x 0)), (1, .int (nI nn)), (2, .int (nI sp)), (3, .int (nI y9)), (5, .long (sumL (fun u9 => (wvN sp u9 x9).toInt64 * g (y9 * 8 + u9)) nn))]) hx hb dX0_backAcross_95 hl (k := 5) rfl (by show nI x9 + 1 = nI (x9 + 1); exact nI_add x9 1) (by decide) rfl (fun ls hl => ?_)
                    refine lv_goto (tgt := 10) hx hb dX0_backAcross_98 (by decide) ?_
                    exact ih10 (x9 + 1) (upd w9 (y9 * 8 + x9) (clampV ((rdL (sumL (fun u9 => (wvN sp u9 x9).toInt64 * g (y9 * 8 + u9)) nn) (17 : Int32)) + (128 : Int64)) (0 : Int32) (255 : Int32))) _ _ _ (by omega) (by omega) (by
                        intro a b ha9 hb9
                        by_cases hq : a * 8 + b = y9 * 8 + x9
                        · obtain rfl : y9 = a := by omega
                          obtain rfl : x9 = b := by omega
                          rw [if_pos (by omega)]; exact pk_us
                        · rw [pk_un hq, hv9 a b ha9 hb9]
                          by_cases hz : (a < y9 ∧ b < nn) ∨ (a = y9 ∧ b < x9)
                          · rw [if_pos hz, if_pos (by omega)]
                          · rw [if_neg hz, if_neg (by omega)]) hP hD hS (lv_sub hl [2, 3, 4, 5, 0] rfl)
                  · refine lv_lload hx hb dX0_backAcross_28 (lv_at hl 5 rfl) ?_
                    refine lv_iload_n hx hb dX0_backAcross_30 rfl (lv_at hl 2 rfl) ?_
                    refine lv_iload hx hb dX0_backAcross_31 (lv_at hl 6 rfl) ?_
                    refine lv_iload hx hb dX0_backAcross_33 (lv_at hl 4 rfl) ?_
                    refine vp_callSi (W.runS (As := [.int (nI sp), .int (nI u9), .int (nI x9)]) (rest := [.long (sumL (fun u9 => (wvN sp u9 x9).toInt64 * g (y9 * 8 + u9)) u9)]) ⟨hx, hb, hml, hown, hts⟩ (m_waveAt l D sp u9 x9 (by omega) (by omega) (by omega)) (va_cwS 3 hts (gw_S wm_54 wm_55 wm_12 wm_56) rfl rfl rfl (by decide +kernel) ⟨Nat.le_of_ble_eq_true rfl, Nat.le_of_ble_eq_true rfl⟩) ⟨cro_blind, fun U hU hW => ⟨rfl, cro_at (hP.sub (ws' := []) [] rfl) (hK.sub (tys' := []) [] rfl) hTb hS hU hW⟩⟩ rfl rfl hl.1 rfl (lv_room (Nat.le_of_ble_eq_true rfl)) dX0_backAcross_35 ⟨Nat.le_of_ble_eq_true rfl, Nat.le_of_ble_eq_true rfl⟩) (fun r_7 hr_7 => ?_)
                    rw [hr_7]
                    refine lv_i2l hx hb dX0_backAcross_38 rfl ?_
                    refine lv_aload_n hx hb dX0_backAcross_39 rfl (lv_at hl 0 rfl) ?_
                    refine va_get (D := D) (ci := 0) (v := .ref (x 5)) (C := RX0) (T := TX0) (N := 5) hx hb hts hin0 hown hK hP 0 rfl rfl 4 (by decide) hf22 (fun _ h9 => h9) rfl dX0_backAcross_40 ?_
                    refine lv_iload_n hx hb dX0_backAcross_43 rfl (lv_at hl 3 rfl) ?_
                    refine lv_bipush (v := (8 : Int32)) hx hb dX0_backAcross_44 (by decide +kernel) ?_
                    refine cx_imul hx hb y9 8 dX0_backAcross_46 ?_
                    refine lv_iload hx hb dX0_backAcross_47 (lv_at hl 6 rfl) ?_
                    refine cx_iadd hx hb (y9 * 8) u9 dX0_backAcross_49 ?_
                    refine cx_lald hx hb hK hP 5 4 rfl rfl (y9 * 8 + u9) (by omega) (by decide) dX0_backAcross_50 ?_
                    refine lv_lmul hx hb dX0_backAcross_51 ?_
                    refine lv_ladd hx hb dX0_backAcross_52 ?_
                    refine lv_lstore (lv' := [(5, .long ((sumL (fun u9 => (wvN sp u9 x9).toInt64 * g (y9 * 8 + u9)) u9) + (((wvN sp u9 x9).toInt64) * (g (y9 * 8 + u9))))), (0, .ref (x 0)), (1, .int (nI nn)), (2, .int (nI sp)), (3, .int (nI y9)), (4, .int (nI x9)), (7, .int (nI u9))]) hx hb dX0_backAcross_53 hl (by decide) rfl (fun ls hl => ?_)
                    refine lv_iinc (v := nI (u9 + 1)) (lv' := [(7, .int (nI (u9 + 1))), (5, .long ((sumL (fun u9 => (wvN sp u9 x9).toInt64 * g (y9 * 8 + u9)) u9) + (((wvN sp u9 x9).toInt64) * (g (y9 * 8 + u9))))), (0, .ref (x 0)), (1, .int (nI nn)), (2, .int (nI sp)), (3, .int (nI y9)), (4, .int (nI x9))]) hx hb dX0_backAcross_55 hl (k := 6) rfl (by show nI u9 + 1 = nI (u9 + 1); exact nI_add u9 1) (by decide) rfl (fun ls hl => ?_)
                    refine lv_goto (tgt := 22) hx hb dX0_backAcross_58 (by decide) ?_
                    exact ih22 (u9 + 1) _ _ _ (by omega) (by omega) hP hD hS (lv_sub hl [2, 3, 4, 5, 6, 1, 0] rfl)
              exact L22 _ 0 _ _ _ (Nat.lt_succ_self _) (Nat.zero_le _) hP hD hS (lv_sub hl [2, 3, 4, 5, 6, 1, 0] rfl)
        exact L10 _ 0 w9 _ _ _ (Nat.lt_succ_self _) (Nat.zero_le _) (by
      intro a b ha9 hb9
      rw [hw9 a b ha9 hb9]
      by_cases hq : a < y9 ∧ b < nn
      · rw [if_pos hq, if_pos (by omega)]
      · rw [if_neg hq, if_neg (by omega)]) hP hD hS (lv_sub hl [1, 2, 3, 4, 0] rfl)
  exact L2 _ 0 f2 _ _ _ (Nat.lt_succ_self _) (Nat.zero_le _) (fun a b _ _ => by rw [if_neg (by omega)]) hP hD hS (lv_sub hl [1, 2, 3, 0] rfl)
