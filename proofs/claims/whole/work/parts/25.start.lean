theorem tw_58 : (Jvm.Cond.laysStatic "WaveBlocks" "QUARTER" "[I") ∈ lw_tbl := List.mem_of_getElem? (i := 58) (by decide +kernel)
theorem tw_95 : (Jvm.Cond.laysStatic "WaveBlocks" "PLACE_OF_CELL" "[I") ∈ lw_tbl := List.mem_of_getElem? (i := 95) (by decide +kernel)
theorem tw_109 : (Jvm.Cond.laysStatic "WaveBlocks" "CELL_OF_PLACE" "[I") ∈ lw_tbl := List.mem_of_getElem? (i := 109) (by decide +kernel)
theorem tw_131 : (Jvm.Cond.castable "java/lang/IndexOutOfBoundsException" "java/lang/IndexOutOfBoundsException") ∈ lw_tbl := List.mem_of_getElem? (i := 131) (by decide +kernel)
theorem tw_132 : (Jvm.Cond.declares ({ cls := "java/lang/RuntimeException", name := "<init>", desc := "()V" } : Jvm.MethodName)) ∈ lw_tbl := List.mem_of_getElem? (i := 132) (by decide +kernel)
theorem tw_133 : (Jvm.Cond.declares ({ cls := "java/lang/RuntimeException", name := "<init>", desc := "(Ljava/lang/String;)V" } : Jvm.MethodName)) ∈ lw_tbl := List.mem_of_getElem? (i := 133) (by decide +kernel)
theorem tw_134 : (Jvm.Cond.declares ({ cls := "java/lang/Exception", name := "<init>", desc := "()V" } : Jvm.MethodName)) ∈ lw_tbl := List.mem_of_getElem? (i := 134) (by decide +kernel)
theorem tw_135 : (Jvm.Cond.declares ({ cls := "java/lang/Exception", name := "<init>", desc := "(Ljava/lang/String;)V" } : Jvm.MethodName)) ∈ lw_tbl := List.mem_of_getElem? (i := 135) (by decide +kernel)
theorem tw_136 : (Jvm.Cond.declares ({ cls := "java/lang/Throwable", name := "<init>", desc := "()V" } : Jvm.MethodName)) ∈ lw_tbl := List.mem_of_getElem? (i := 136) (by decide +kernel)
theorem tw_137 : (Jvm.Cond.declares ({ cls := "java/lang/Throwable", name := "<init>", desc := "(Ljava/lang/String;)V" } : Jvm.MethodName)) ∈ lw_tbl := List.mem_of_getElem? (i := 137) (by decide +kernel)
theorem tw_156 : (Jvm.Cond.laysStatic "java/lang/Throwable" "UNASSIGNED_STACK" "[Ljava/lang/StackTraceElement;") ∈ lw_tbl := List.mem_of_getElem? (i := 156) (by decide +kernel)
theorem tw_158 : (Jvm.Cond.laysStatic "java/lang/Throwable" "SUPPRESSED_SENTINEL" "Ljava/util/List;") ∈ lw_tbl := List.mem_of_getElem? (i := 158) (by decide +kernel)
theorem tw_169 : (Jvm.Cond.stringRef "WaveBlocks" (32 : Nat) "no such place") ∈ lw_tbl := List.mem_of_getElem? (i := 169) (by decide +kernel)
theorem tw_198 : (Jvm.Cond.castable "java/lang/IllegalArgumentException" "java/lang/IllegalArgumentException") ∈ lw_tbl := List.mem_of_getElem? (i := 198) (by decide +kernel)
theorem tw_205 : (Jvm.Cond.stringRef "WaveBlocks" (39 : Nat) "a coefficient is -32768 .. 32767") ∈ lw_tbl := List.mem_of_getElem? (i := 205) (by decide +kernel)
theorem tw_219 : (Jvm.Cond.stringRef "WaveBlocks" (45 : Nat) "a step is 1 .. 255") ∈ lw_tbl := List.mem_of_getElem? (i := 219) (by decide +kernel)
theorem tw_227 : (Jvm.Cond.stringRef "WaveBlocks" (47 : Nat) "base is 1 .. 255, slope 0 .. 32, percent 1 .. 5000") ∈ lw_tbl := List.mem_of_getElem? (i := 227) (by decide +kernel)
theorem tw_238 : (Jvm.Cond.stringRef "WaveBlocks" (56 : Nat) "no such row") ∈ lw_tbl := List.mem_of_getElem? (i := 238) (by decide +kernel)
theorem tw_249 : (Jvm.Cond.stringRef "WaveBlocks" (62 : Nat) "a size is 1, 2, 4 or 8") ∈ lw_tbl := List.mem_of_getElem? (i := 249) (by decide +kernel)
theorem tw_272 : (Jvm.Cond.stringRef "WaveBlocks" (87 : Nat) "n is 1 .. 8") ∈ lw_tbl := List.mem_of_getElem? (i := 272) (by decide +kernel)
theorem tw_280 : (Jvm.Cond.stringRef "WaveBlocks" (89 : Nat) "no such place, or no such what") ∈ lw_tbl := List.mem_of_getElem? (i := 280) (by decide +kernel)
theorem tw_295 : (Jvm.Cond.stringRef "WaveBlocks" (94 : Nat) "n is 1, 2, 4 or 8, u and x are 0 .. n - 1") ∈ lw_tbl := List.mem_of_getElem? (i := 295) (by decide +kernel)
theorem tw_14 : (Jvm.Cond.initialized "java/lang/Throwable") ∈ lw_tbl := List.mem_of_getElem? (i := 14) (by decide +kernel)
theorem tw_12 : (Jvm.Cond.initialized "WaveBlocks") ∈ lw_tbl := List.mem_of_getElem? (i := 12) (by decide +kernel)
theorem tw_21 : (Jvm.Cond.instantiable "WaveBlocks" (5 : Nat)) ∈ lw_tbl := List.mem_of_getElem? (i := 21) (by decide +kernel)
theorem tw_297 : (Jvm.Cond.instantiable "WaveBlocksModel" (8 : Nat)) ∈ lw_tbl := List.mem_of_getElem? (i := 297) (by decide +kernel)
theorem fl_Q : ∀ j, j < 9 → Cond.eq (.elem (.static "WaveBlocks" "QUARTER" "[I") (.int (Int32.ofNat j))) (.int (cQ j)) ∈ flatC (Jvm.Cond.and given_1 narrow_1) := by decide +kernel
theorem fl_P : ∀ j, j < 64 → Cond.eq (.elem (.static "WaveBlocks" "PLACE_OF_CELL" "[I") (.int (Int32.ofNat j))) (.int (cP j)) ∈ flatC (Jvm.Cond.and given_1 narrow_1) := by decide +kernel
theorem fl_C : ∀ j, j < 64 → Cond.eq (.elem (.static "WaveBlocks" "CELL_OF_PLACE" "[I") (.int (Int32.ofNat j))) (.int (cC j)) ∈ flatC (Jvm.Cond.and given_1 narrow_1) := by decide +kernel
theorem cTt_of {s : State} {b : Nat} {n : String} {N : Nat} {f : Nat → Int32} (hN : N < 2 ^ 31) (hgv : (Jvm.Cond.and given_1 narrow_1).before #[Value.ref b] s = true) (hl : (Cond.laysStatic "WaveBlocks" n "[I").before #[Value.ref b] s = true) (hi : (Cond.initialized "WaveBlocks").before #[Value.ref b] s = true) (ha : Cond.arrayOf (.static "WaveBlocks" n "[I") .int ∈ flatC (Jvm.Cond.and given_1 narrow_1)) (hlen : Cond.eq (.length (.static "WaveBlocks" n "[I")) (.int (Int32.ofNat N)) ∈ flatC (Jvm.Cond.and given_1 narrow_1)) (he : ∀ j, j < N → Cond.eq (.elem (.static "WaveBlocks" n "[I") (.int (Int32.ofNat j))) (.int (f j)) ∈ flatC (Jvm.Cond.and given_1 narrow_1)) : cTt n N f (fun q : Nat => s.heap.size ≤ q) s s.heap := by
  have hs := flat_of_before _ hgv
  obtain ⟨t, h1, h2⟩ := va_Tof (f := fun j => .int (f j)) (A := (fun q : Nat => s.heap.size ≤ q)) hN (hs _ ha) (va_eqt (hs _ hlen)) (fun j hj => va_eqt (hs _ (he j hj))) (fun a h9 => Nat.not_le.mpr h9)
  exact ⟨t, va_Zref hl hi h1 (fun a h9 => Nat.not_le.mpr h9), h2⟩
theorem str_of {s : State} {b k : Nat} {tx : String} (hgv : (Jvm.Cond.and given_1 narrow_1).before #[Value.ref b] s = true) (h1 : (Cond.stringRef "WaveBlocks" k tx).before #[Value.ref b] s = true) (hex : Cond.exactly (.string "WaveBlocks" k) "java/lang/String" ∈ flatC (Jvm.Cond.and given_1 narrow_1)) : ∃ sa : Nat, vk_R RX0 k tx sa s := by
  have hs := flat_of_before _ hgv
  obtain ⟨a, c, cA, kA, q1, q2, q3, q4, q5, q6, -⟩ := Cond.exactly_spec (args := #[Value.ref b]) (first := s) (o := none) (s := s) (idx := []) (t := .string "WaveBlocks" k) (cls := "java/lang/String") (hs _ hex)
  exact ⟨a, vk_R.of h1 q1⟩
theorem cT_start {p : Program} {s : State} {m : MethodId} {meth : Method} {c : Code} {b L : Nat} {xs : Nat → Int32} (C0 : lw_At p s m meth c b L xs) : cT (fun q : Nat => s.heap.size ≤ q) s s.heap := by
  obtain ⟨-, -, -, -, -, hts, -, -, -, hgv⟩ := C0
  have hs := flat_of_before _ hgv
  have hi := hts _ tw_12
  exact ⟨cTt_of (by decide) hgv (hts _ tw_58) hi (by decide +kernel) (by decide +kernel) fl_Q, cTt_of (by decide) hgv (hts _ tw_95) hi (by decide +kernel) (by decide +kernel) fl_P, cTt_of (by decide) hgv (hts _ tw_109) hi (by decide +kernel) (by decide +kernel) fl_C,
    vx_Zqof (hts _ tw_156) (hts _ tw_14) (hs (.isRef (.static "java/lang/Throwable" "UNASSIGNED_STACK" "[Ljava/lang/StackTraceElement;")) (by decide +kernel)) (fun a h9 => Nat.not_le.mpr h9),
    vx_Zqof (hts _ tw_158) (hts _ tw_14) (hs (.isRef (.static "java/lang/Throwable" "SUPPRESSED_SENTINEL" "Ljava/util/List;")) (by decide +kernel)) (fun a h9 => Nat.not_le.mpr h9),
    ⟨va_Nw.of rfl (hts _ tw_131), va_Nw.of rfl (hts _ tw_198), va_Nw.of rfl (hts _ tw_133), va_Nw.of rfl (hts _ tw_135), va_Nw.of rfl (hts _ tw_137)⟩,
    ⟨str_of hgv (hts _ tw_169) (by decide +kernel), str_of hgv (hts _ tw_205) (by decide +kernel), str_of hgv (hts _ tw_219) (by decide +kernel), str_of hgv (hts _ tw_227) (by decide +kernel), str_of hgv (hts _ tw_238) (by decide +kernel), str_of hgv (hts _ tw_249) (by decide +kernel), str_of hgv (hts _ tw_272) (by decide +kernel), str_of hgv (hts _ tw_280) (by decide +kernel), str_of hgv (hts _ tw_295) (by decide +kernel)⟩,
    va_Nc.of (hs (.not (.castable "java/lang/IllegalArgumentException" "java/lang/IndexOutOfBoundsException")) (by decide +kernel))⟩
