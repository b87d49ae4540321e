/-! the class's world: the object, its five grids; the array classes; the statics and texts that nobody writes -/
abbrev cw (x : Nat → Nat) (cd : Nat → ClassId) (f0 f1 f2 f3 : Nat → Int32) (g : Nat → Int64) : va_W := [(x 0, .inr (0, [.ref (x 1), .ref (x 2), .ref (x 3), .ref (x 4), .ref (x 5)])), (x 1, .inl (cd 1, 64, .inl f0)), (x 2, .inl (cd 2, 64, .inl f1)), (x 3, .inl (cd 3, 64, .inl f2)), (x 4, .inl (cd 4, 64, .inl f3)), (x 5, .inl (cd 5, 64, .inr (.inl g)))]
abbrev cwo (x : Nat → Nat) (cd : Nat → ClassId) (f0 f1 f2 f3 : Nat → Int32) (g : Nat → Int64) (ow : Nat) (co : ClassId) (o : Nat → Int64) : va_W := cw x cd f0 f1 f2 f3 g ++ [(ow, .inl (co, 1, .inr (.inl o)))]
abbrev cty (cd : Nat → ClassId) : List (ClassId × FieldType) := [(cd 1, .int), (cd 2, .int), (cd 3, .int), (cd 4, .int), (cd 5, .long)]
def cTt (n : String) (N : Nat) (f : Nat → Int32) (A : Nat → Prop) (U : State) (H : Heap) : Prop := ∃ t : Nat, va_Z "WaveBlocks" n "[I" (.ref t) A U H ∧ va_T .int t N (fun j => .int (f j)) A U H
theorem cTt.at {n : String} {N : Nat} {f : Nat → Int32} {A B : Nat → Prop} {s U : State} {H : Heap} {locs : List Loc} (h : cTt n N f A s s.heap) (hS : va_S A s.heap H locs) (hW : s.WarmedH U.vm) (hU : U.heap = H) (hAB : ∀ q, B q → A q) : cTt n N f B U U.heap := by
  subst hU
  obtain ⟨t, z, w⟩ := h
  exact ⟨t, va_Z.narrow (va_Z.moved hW.alike (z.kept hS.2.1)) hAB, va_T.narrow (va_T.moved hW.alike (w.kept hS.2.1)) hAB⟩
def cNw (U : State) : Prop := va_Nw (.castable "java/lang/IndexOutOfBoundsException" "java/lang/IndexOutOfBoundsException") U ∧ va_Nw (.castable "java/lang/IllegalArgumentException" "java/lang/IllegalArgumentException") U ∧ va_Nw (.declares ⟨"java/lang/RuntimeException", "<init>", "(Ljava/lang/String;)V"⟩) U ∧ va_Nw (.declares ⟨"java/lang/Exception", "<init>", "(Ljava/lang/String;)V"⟩) U ∧ va_Nw (.declares ⟨"java/lang/Throwable", "<init>", "(Ljava/lang/String;)V"⟩) U
theorem cNw.at {s U : State} (h : cNw s) (hW : s.WarmedH U.vm) : cNw U := by
  obtain ⟨h1, h2, h3, h4, h5⟩ := h
  exact ⟨va_Nw.warmC hW h1, va_Nw.warmC hW h2, va_Nw.warmD hW h3, va_Nw.warmD hW h4, va_Nw.warmD hW h5⟩
def cStr (U : State) : Prop := (∃ sa : Nat, vk_R RX0 32 "no such place" sa U) ∧ (∃ sa : Nat, vk_R RX0 39 "a coefficient is -32768 .. 32767" sa U) ∧ (∃ sa : Nat, vk_R RX0 45 "a step is 1 .. 255" sa U) ∧ (∃ sa : Nat, vk_R RX0 47 "base is 1 .. 255, slope 0 .. 32, percent 1 .. 5000" sa U) ∧ (∃ sa : Nat, vk_R RX0 56 "no such row" sa U) ∧ (∃ sa : Nat, vk_R RX0 62 "a size is 1, 2, 4 or 8" sa U) ∧ (∃ sa : Nat, vk_R RX0 87 "n is 1 .. 8" sa U) ∧ (∃ sa : Nat, vk_R RX0 89 "no such place, or no such what" sa U) ∧ (∃ sa : Nat, vk_R RX0 94 "n is 1, 2, 4 or 8, u and x are 0 .. n - 1" sa U)
theorem cStr.at {s U : State} (h : cStr s) (hW : s.WarmedH U.vm) : cStr U := by
  obtain ⟨⟨a0, h0⟩, ⟨a1, h1⟩, ⟨a2, h2⟩, ⟨a3, h3⟩, ⟨a4, h4⟩, ⟨a5, h5⟩, ⟨a6, h6⟩, ⟨a7, h7⟩, ⟨a8, h8⟩⟩ := h
  exact ⟨⟨a0, vk_R.warm hW h0⟩, ⟨a1, vk_R.warm hW h1⟩, ⟨a2, vk_R.warm hW h2⟩, ⟨a3, vk_R.warm hW h3⟩, ⟨a4, vk_R.warm hW h4⟩, ⟨a5, vk_R.warm hW h5⟩, ⟨a6, vk_R.warm hW h6⟩, ⟨a7, vk_R.warm hW h7⟩, ⟨a8, vk_R.warm hW h8⟩⟩
def cT (A : Nat → Prop) (U : State) (H : Heap) : Prop := cTt "QUARTER" 9 cQ A U H ∧ cTt "PLACE_OF_CELL" 64 cP A U H ∧ cTt "CELL_OF_PLACE" 64 cC A U H ∧ vx_Zq "java/lang/Throwable" "UNASSIGNED_STACK" "[Ljava/lang/StackTraceElement;" A U H ∧ vx_Zq "java/lang/Throwable" "SUPPRESSED_SENTINEL" "Ljava/util/List;" A U H ∧ cNw U ∧ cStr U ∧ va_Nc "java/lang/IllegalArgumentException" "java/lang/IndexOutOfBoundsException" U
theorem cT.at {A B : Nat → Prop} {s U : State} {H : Heap} {locs : List Loc} (h : cT A s s.heap) (hS : va_S A s.heap H locs) (hW : s.WarmedH U.vm) (hU : U.heap = H) (hAB : ∀ q, B q → A q) : cT B U U.heap := by
  obtain ⟨h1, h2, h3, h4, h5, h6, h7, h8⟩ := h
  refine ⟨h1.at hS hW hU hAB, h2.at hS hW hU hAB, h3.at hS hW hU hAB, ?_, ?_, h6.at hW, h7.at hW, h8.moved hW.alike⟩
  · rw [hU]; exact vx_Zq.narrow (vx_Zq.moved hW.alike (h4.kept hS.2.1)) hAB
  · rw [hU]; exact vx_Zq.narrow (vx_Zq.moved hW.alike (h5.kept hS.2.1)) hAB
theorem cT.call {A : Nat → Prop} {U : State} {g : JFrame} {mk : MethodId} {a : Array Value} (h : cT A U U.heap) : cT A (U.calling g mk a) (U.calling g mk a).heap := cT.at (U := U.calling g mk a) h va_S.rf (State.WarmedH.refl U) rfl (fun _ q => q)
/-- the start of a method that only reads -/
def cro (D : va_G) (ws : va_W) (tys : List (ClassId × FieldType)) (U : State) : Prop := va_P D vwCl ws U.heap ∧ va_K D vwCl tys U ∧ cT (fun _ => False) U U.heap
theorem cro_blind {av : List Value} {D : va_G} {ws : va_W} {tys : List (ClassId × FieldType)} : FrameBlind (va_Pc av (cro D ws tys)) := fun a U g mk q => ⟨q.1, q.2.1, va_K.moved (u := U) (U := U.calling g mk a) (Vm.Alike.refl U.vm) q.2.2.1, q.2.2.2.call⟩
theorem cro_at {D : va_G} {ws : va_W} {tys : List (ClassId × FieldType)} {A : Nat → Prop} {s U : State} {H : Heap} {locs : List Loc} (hP : va_P D vwCl ws H) (hK : va_K D vwCl tys s) (hT : cT A s s.heap) (hS : va_S A s.heap H locs) (hU : U.heap = H) (hW : s.WarmedH U.vm) : cro D ws tys U := ⟨by rw [hU]; exact hP, va_K.moved hW.alike hK, hT.at hS hW hU (fun _ h => h.elim)⟩
/-- the start of a method that writes -/
def crw (D : va_G) (ws : va_W) (tys : List (ClassId × FieldType)) (sz : Nat) (U : State) : Prop := U.heap.size = sz ∧ va_P D vwCl ws U.heap ∧ va_K D vwCl tys U ∧ va_D (fun _ => True) ws ∧ cT (va_A ws sz) U U.heap
theorem crw_blind {av : List Value} {D : va_G} {ws : va_W} {tys : List (ClassId × FieldType)} {sz : Nat} : FrameBlind (va_Pc av (crw D ws tys sz)) := fun a U g mk q => ⟨q.1, q.2.1, q.2.2.1, va_K.moved (u := U) (U := U.calling g mk a) (Vm.Alike.refl U.vm) q.2.2.2.1, q.2.2.2.2.1, q.2.2.2.2.2.call⟩
theorem crw_at {D : va_G} {ws : va_W} {tys : List (ClassId × FieldType)} {A : Nat → Prop} {s U : State} {H : Heap} {locs : List Loc} (hP : va_P D vwCl ws H) (hK : va_K D vwCl tys s) (hD : va_D A ws) (hT : cT A s s.heap) (hS : va_S A s.heap H locs) (hF : ∀ q, va_A ws H.size q → A q) (hU : U.heap = H) (hW : s.WarmedH U.vm) : crw D ws tys H.size U := ⟨by rw [hU], by rw [hU]; exact hP, va_K.moved hW.alike hK, hD.weaken (fun _ _ _ _ => trivial), hT.at hS hW hU hF⟩
/-- its end -/
def crB (D : va_G) (ws : va_W) (tys : List (ClassId × FieldType)) (A : Nat → Prop) (t : State) : Prop := va_P D vwCl ws t.heap ∧ va_K D vwCl tys t ∧ va_D A ws
