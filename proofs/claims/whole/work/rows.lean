section
-- ===== PART A: goes FIRST, ahead of the names: the tables' words, and 'selects' of the private methods out of them =====
/-- a private method of a class that the tables say can be made, by its rows of tables_1 -/
def lw_okq (q : MethodName × Nat) : Prop := (q.1.cls ≠ "java/lang/invoke/MethodHandle" ∧ q.1.cls ≠ "java/lang/invoke/VarHandle") ∧ Cond.instantiable q.1.cls q.2 ∈ tables_1 ∧ Cond.privateMethod q.1 ∈ tables_1 ∧ Cond.instanceMethod q.1 ∈ tables_1
theorem lw_p0 : lw_okq (⟨"WaveBlocks", "forwardDown", "(I)V"⟩, 5) := ⟨⟨by decide +kernel, by decide +kernel⟩, List.mem_of_getElem? (i := 10) (by decide +kernel), List.mem_of_getElem? (i := 40) (by decide +kernel), List.mem_of_getElem? (i := 41) (by decide +kernel)⟩
theorem lw_p1 : lw_okq (⟨"WaveBlocks", "forwardAcross", "(II)I"⟩, 5) := ⟨⟨by decide +kernel, by decide +kernel⟩, List.mem_of_getElem? (i := 10) (by decide +kernel), List.mem_of_getElem? (i := 55) (by decide +kernel), List.mem_of_getElem? (i := 56) (by decide +kernel)⟩
theorem lw_p2 : lw_okq (⟨"WaveBlocks", "countOfCoefficients", "()I"⟩, 5) := ⟨⟨by decide +kernel, by decide +kernel⟩, List.mem_of_getElem? (i := 10) (by decide +kernel), List.mem_of_getElem? (i := 65) (by decide +kernel), List.mem_of_getElem? (i := 66) (by decide +kernel)⟩
theorem lw_p3 : lw_okq (⟨"WaveBlocks", "lastPlace", "()I"⟩, 5) := ⟨⟨by decide +kernel, by decide +kernel⟩, List.mem_of_getElem? (i := 10) (by decide +kernel), List.mem_of_getElem? (i := 94) (by decide +kernel), List.mem_of_getElem? (i := 95) (by decide +kernel)⟩
theorem lw_p4 : lw_okq (⟨"WaveBlocks", "sumOfMagnitudes", "()I"⟩, 5) := ⟨⟨by decide +kernel, by decide +kernel⟩, List.mem_of_getElem? (i := 10) (by decide +kernel), List.mem_of_getElem? (i := 103) (by decide +kernel), List.mem_of_getElem? (i := 104) (by decide +kernel)⟩
theorem lw_p5 : lw_okq (⟨"java/lang/Throwable", "fillInStackTrace", "(I)Ljava/lang/Throwable;"⟩, 6) := ⟨⟨by decide +kernel, by decide +kernel⟩, List.mem_of_getElem? (i := 156) (by decide +kernel), List.mem_of_getElem? (i := 154) (by decide +kernel), List.mem_of_getElem? (i := 155) (by decide +kernel)⟩
theorem lw_p6 : lw_okq (⟨"WaveBlocks", "backDown", "(II)J"⟩, 5) := ⟨⟨by decide +kernel, by decide +kernel⟩, List.mem_of_getElem? (i := 10) (by decide +kernel), List.mem_of_getElem? (i := 240) (by decide +kernel), List.mem_of_getElem? (i := 241) (by decide +kernel)⟩
theorem lw_p7 : lw_okq (⟨"WaveBlocks", "backAcross", "(II)V"⟩, 5) := ⟨⟨by decide +kernel, by decide +kernel⟩, List.mem_of_getElem? (i := 10) (by decide +kernel), List.mem_of_getElem? (i := 250) (by decide +kernel), List.mem_of_getElem? (i := 251) (by decide +kernel)⟩
theorem lw_p8 : lw_okq (⟨"WaveBlocksModel", "column", "(III)J"⟩, 8) := ⟨⟨by decide +kernel, by decide +kernel⟩, List.mem_of_getElem? (i := 286) (by decide +kernel), List.mem_of_getElem? (i := 348) (by decide +kernel), List.mem_of_getElem? (i := 349) (by decide +kernel)⟩
theorem lw_p9 : lw_okq (⟨"WaveBlocksModel", "orderOf", "(II)I"⟩, 8) := ⟨⟨by decide +kernel, by decide +kernel⟩, List.mem_of_getElem? (i := 286) (by decide +kernel), List.mem_of_getElem? (i := 352) (by decide +kernel), List.mem_of_getElem? (i := 353) (by decide +kernel)⟩
theorem lw_p10 : lw_okq (⟨"WaveBlocksModel", "exactOf", "(II)J"⟩, 8) := ⟨⟨by decide +kernel, by decide +kernel⟩, List.mem_of_getElem? (i := 286) (by decide +kernel), List.mem_of_getElem? (i := 370) (by decide +kernel), List.mem_of_getElem? (i := 371) (by decide +kernel)⟩
def lw_privs_1 : List (MethodName × Nat) := [(⟨"WaveBlocks", "forwardDown", "(I)V"⟩, 5), (⟨"WaveBlocks", "forwardAcross", "(II)I"⟩, 5), (⟨"WaveBlocks", "countOfCoefficients", "()I"⟩, 5), (⟨"WaveBlocks", "lastPlace", "()I"⟩, 5), (⟨"WaveBlocks", "sumOfMagnitudes", "()I"⟩, 5), (⟨"java/lang/Throwable", "fillInStackTrace", "(I)Ljava/lang/Throwable;"⟩, 6), (⟨"WaveBlocks", "backDown", "(II)J"⟩, 5), (⟨"WaveBlocks", "backAcross", "(II)V"⟩, 5), (⟨"WaveBlocksModel", "column", "(III)J"⟩, 8), (⟨"WaveBlocksModel", "orderOf", "(II)I"⟩, 8), (⟨"WaveBlocksModel", "exactOf", "(II)J"⟩, 8)]
theorem lw_r1 : ∀ q ∈ lw_privs_1, lw_okq q := List.forall_mem_cons.mpr ⟨lw_p0, List.forall_mem_cons.mpr ⟨lw_p1, List.forall_mem_cons.mpr ⟨lw_p2, List.forall_mem_cons.mpr ⟨lw_p3, List.forall_mem_cons.mpr ⟨lw_p4, List.forall_mem_cons.mpr ⟨lw_p5, List.forall_mem_cons.mpr ⟨lw_p6, List.forall_mem_cons.mpr ⟨lw_p7, List.forall_mem_cons.mpr ⟨lw_p8, List.forall_mem_cons.mpr ⟨lw_p9, List.forall_mem_cons.mpr ⟨lw_p10, fun _ h => absurd h List.not_mem_nil⟩⟩⟩⟩⟩⟩⟩⟩⟩⟩⟩
def lw_privs : List (MethodName × Nat) := lw_privs_1
def lw_tbl : List Cond := k2_sels lw_privs ++ tables_1
theorem lw_privs_ok : ∀ q ∈ lw_privs, lw_okq q := lw_r1

/-! ===== BEGIN words of one list among another's, by their places ===== -/
theorem goodIn_r {big : List Cond} (ws : List Cond) (ps : List Nat) (hp : ws = ps.filterMap (fun i => big[i]?)) (h : ws.all goodWord = true) : GoodIn big ws := by
  intro w hw
  have h1 := List.all_eq_true.mp h w hw
  rw [hp] at hw
  obtain ⟨i, -, hi⟩ := List.mem_filterMap.mp hw
  have hm : w ∈ big := by first | exact List.mem_of_getElem? hi | exact List.getElem?_mem hi
  exact ⟨hm, good_of_word h1⟩
theorem goodIn_app {big a b : List Cond} (ha : GoodIn big a) (hb : GoodIn big b) : GoodIn big (a ++ b) := fun w h => (List.mem_append.mp h).elim (ha w) (hb w)
theorem goodIn_ca {big a b : List Cond} {c : Cond} (ha : GoodIn big (c :: a)) (hb : GoodIn big b) : GoodIn big (c :: (a ++ b)) := fun w h => (List.mem_cons.mp h).elim (fun e => ha w (List.mem_cons.mpr (Or.inl e))) (fun h => (List.mem_append.mp h).elim (fun h => ha w (List.mem_cons.mpr (Or.inr h))) (hb w))
theorem goodIn_sub {big ws : List Cond} (hm : ∀ w ∈ ws, w ∈ big) (h : ws.all goodWord = true) : GoodIn big ws := fun w hw => ⟨hm w hw, good_of_word (List.all_eq_true.mp h w hw)⟩
/-! ===== END ===== -/

/-! ===== BEGIN exceptions that leave a method, and their catching by the caller (launches without stack traces) ===== -/
section VXA
/-! The laws vx_back, vx_callV, vx_callS, vx_callSW, vx_throw0, vx_throwS follow proofs of the library, with one case more: JvmDerived/Free/Laws.lean (Back.of_free), Shelf42/LK1.lean (callV, callS), Shelf/KitTraced.lean (throwNew0V, throwNewS). -/
/-- where a method has thrown q: the class by its name, the cell, what was written, the world -/
def vx_T (XC : String → State → State → Prop) (st : State) (q : Addr) (t : State) (mc ms : Nat) (free : Addr → Prop) : Prop :=
  ∃ (E : String) (ce : Cell) (L : List Loc), XC E st t ∧ t.heap[q]? = some ce ∧ ce.vm = .none ∧ st.vm.findClass E = some ce.cls ∧ st.WarmedH t.vm ∧ st.sameButNew ({ t with vm := st.vm } : State) L mc ms ∧ ∀ z ∈ L, free z.base
def vx_Q (Qc : Array Value → State → Outcome → State → Prop) (XC : String → State → State → Prop) (mc ms : Nat) (free : Addr → Prop) : Array Value → State → Outcome → State → Prop := fun a st o t =>
  (Qc a st o t ∧ ∃ L, FrameEnd st o t L mc ms ∧ ∀ q ∈ L, free q.base) ∨ ∃ q, o = .threw q ∧ vx_T XC st q t mc ms free
/-- a callee that returns or throws -/
def vx_Met (l : Launch) (y : MethodName) (ws : List Cond) (rm : Room) (Pc : Array Value → State → Prop) (Qc : Array Value → State → Outcome → State → Prop) (XC : String → State → State → Prop) (mc ms : Nat) (free : Addr → Prop) : Prop :=
  MetFree l y (headSpec ws rm) Pc (fun _ _ _ _ _ => True) (vx_Q Qc XC mc ms free)
def vx_Post (XC : String → State → State → Prop) (mc ms : Nat) (free : Addr → Prop) : Pt → Array Value → Addr → Pt → Prop := fun A a q B =>
  ∃ (g : JFrame) (mk : MethodId) (t : State) (L : List Loc) (E : String) (ce : Cell), B.U.heap = t.heap ∧ B.U.vm = t.vm ∧ XC E (A.U.calling g mk a) t ∧ t.heap[q]? = some ce ∧ ce.vm = .none ∧ A.U.vm.findClass E = some ce.cls ∧ B.locs = A.locs ++ L ∧ (∀ z ∈ L, free z.base) ∧ B.cells = A.cells + mc ∧ B.slots = A.slots + ms
def vx_Back (l : Launch) (R : Room) (p : Program) (e : Env) (below : List Frame) (s : State) (sargs : Array Value) (y : MethodName) (len W9 : Nat)
    (Pre : Pt → Array Value → Prop) (Post : Pt → Array Value → Option Value → Pt → Prop) (PostX : Pt → Array Value → Addr → Pt → Prop) : Prop :=
  ∀ (m : MethodId) (meth : Method) (c : Code) (A : Pt) (g : JFrame) (ig : Instr) (mk : MethodId) (a : Array Value),
    Stand p l e R s m sargs below meth c A.U A.locs A.cells A.slots → g.method = m → g.locals.size = c.maxLocals → decode c.code g.pc = .ok (ig, len) →
    2 * g.monitorRoom + (g.stack.map fun v => v.category).sum ≤ W9 → A.U.methodNamed? y = some mk → Pre A a →
    (∃ (v : Option Value) (B : Pt), Stand p l e R s m sargs below meth c B.U B.locs B.cells B.slots ∧ Post A a v B ∧
      Steps p.tables e below (doInvoke e (A.U.setTop g) [] mk a).1 (B.U.setTop { g with pc := g.pc + len, stack := v.toList ++ g.stack })) ∨
    (∃ (q : Addr) (B : Pt), Stand p l e R s m sargs below meth c B.U B.locs B.cells B.slots ∧ PostX A a q B ∧
      Steps p.tables e below (doInvoke e (A.U.setTop g) [] mk a).1 ((B.U.setTop g).pushFrame (.throwing q)))
section Payer
variable {l : Launch} {R : Room} {p : Program} {e : Env} {below : List Frame} {s : State} {sargs : Array Value} {y : MethodName} {len W9 : Nat}
theorem vx_back {ws : List Cond} {rm : Room} {Pc : Array Value → State → Prop} {Qc : Array Value → State → Outcome → State → Prop} {XC : String → State → State → Prop} {mc ms : Nat} {free : Addr → Prop} {bytes : ByteArray} {maxL : Nat} {ret : Option FieldType}
    (hM : vx_Met l y ws rm Pc Qc XC mc ms free) (hblind : FrameBlind Pc) (hrc : rm.cells = mc) (hrs : rm.slots = ms)
    (hframes : rm.frames + 1 ≤ R.frames) (hlocals : W9 + (maxL + 11) + rm.locals ≤ R.locals)
    (hws : ∀ w ∈ ws, ∀ a' U, s.WarmedH U.vm → w.before a' U = true) (hcode : Cond.code y bytes maxL ret ∈ ws) (hinit : ∀ a' U, s.WarmedH U.vm → (Cond.initialized y.cls).before a' U = true) :
    vx_Back l R p e below s sargs y len W9 (PreOf R mc ms Pc) (PostOf Qc mc ms free) (vx_Post XC mc ms free) := by
  intro m meth c A g ig mk a X hg hsize hdg hW hn hp
  have h1 : (headSpec ws rm).pre.before a A.U = true := atoms_intro fun w hw => hws w hw _ _ X.warmed
  have h2 : (Cond.code y bytes maxL ret).before a A.U = true := hws _ hcode _ _ X.warmed
  have h3 : (Cond.initialized y.cls).before a A.U = true := hinit _ _ X.warmed
  have h4 : A.cells + (headSpec ws rm).room.cells ≤ R.cells := by rw [show (headSpec ws rm).room.cells = mc from hrc]; exact hp.1
  have h5 : A.slots + (headSpec ws rm).room.slots ≤ R.slots := by rw [show (headSpec ws rm).room.slots = ms from hrs]; exact hp.2.1
  have hPc : Pc a (A.U.calling g mk a) := hblind _ _ _ _ hp.2.2
  obtain ⟨U, Ls, c0, s0⟩ := A
  dsimp only [Pt.U, Pt.locs, Pt.cells, Pt.slots] at h1 h2 h3 h4 h5 X hn hPc ⊢
  obtain ⟨methY, cY, hmY, hcY, -, hlY, -, -, -, -⟩ := Cond.code_spec hn h2
  obtain ⟨kY, hkY, -⟩ := className_of_methodNamed hn
  have hinitY : kY.init = .initialized := Cond.initialized_spec (findClass_of_methodNamed hn) hkY h3
  have h : At U g.method c below := by rw [hg]; exact X.here
  have hlocals9 : W9 + (maxL + 11) + (headSpec ws rm).room.locals ≤ R.locals := hlocals
  have happ : (headSpec ws rm).appliesLoose y e.platform (U.calling g mk a) = true :=
    Spec.appliesLoose_calling (g := g) h hdg hn hkY hinitY
      (X.room_calling (g := g) (R' := (headSpec ws rm).room) hsize hmY hcY hframes (by rw [hlY]; omega) h4 h5) h1
  obtain ⟨mid, hmid⟩ := h.above
  have hfr : (U.setTop g).frames = (.java g :: mid) ++ below := by rw [State.frames_setTop' g h.top, hmid]; rfl
  obtain ⟨o, s₂, hsteps, -, hend, hq⟩ := Steps.callFree hM p X.admits X.cas X.clock (acts := []) hfr happ hPc trivial
  have hq' : vx_Q Qc XC mc ms free a (U.calling g mk a) o s₂ := hq
  rw [State.frames_setTop' g h.top] at hend
  obtain ⟨g₀, hg0⟩ := Option.isSome_iff_exists.mp h.top
  obtain ⟨r, hr⟩ := State.topJava?_eq_some.mp hg0
  have hr' : (({ U with heap := s₂.heap, slotsUsed := s₂.slotsUsed } : State).setVm s₂.vm).frames = .java g₀ :: r := hr
  rcases hq' with ⟨hqc, L, hfe, hL⟩ | ⟨q, rfl, E, ce, L, hx, hce, hcv, hcl, hW₂, hsm, hL⟩
  · obtain ⟨⟨v, rfl⟩, hW₂, e2, q2, q3, q4, q5, q6⟩ := id hfe
    have e3 : s₂ = ({ (U.calling g mk a).setFrames s₂.frames with heap := s₂.heap, slotsUsed := s₂.slotsUsed } : State).setVm s₂.vm := by
      have : s₂ = ({ s₂ with vm := (U.calling g mk a).vm } : State).setVm s₂.vm := rfl
      rw [e2] at this
      exact this
    obtain ⟨c₂, i₂, len₂, hc₂, hd₂, hf₂⟩ := hend
    have hW' : U.WarmedH s₂.vm := hW₂
    have hcc : c₂ = c := by
      have h1 : s₂.code? g.method = U.code? g.method := by
        rw [State.code?_eq, State.code?_eq, hW'.alike.method?]
      exact Option.some.inj (hc₂.symm.trans (h1.trans h.code))
    subst hcc
    have hlen : len₂ = len := by rw [hdg] at hd₂; cases hd₂; rfl
    subst hlen
    have hs₂ : s₂ = (({ U with heap := s₂.heap, slotsUsed := s₂.slotsUsed } : State).setVm s₂.vm).setTop { g with pc := g.pc + len₂, stack := v.toList ++ g.stack } := by
      refine e3.trans ?_
      rw [hf₂, State.calling_eq h.top, State.setFrames_setFrames, State.setTop_of_frames _ hr', hr]
      rfl
    have hsame : U.sameButNew ({ U with heap := s₂.heap, slotsUsed := s₂.slotsUsed } : State) L mc ms := by
      refine ⟨?_, q2, q3, q4, q5, q6⟩
      obtain ⟨t, ht, -⟩ := State.frames_cons hr
      show ({ U with heap := s₂.heap, slotsUsed := s₂.slotsUsed } : State) = { U.setFrames U.frames with heap := s₂.heap, slotsUsed := s₂.slotsUsed }
      rw [State.setFrames_self ht]
    subst hg
    refine Or.inl ⟨v, ⟨(({ U with heap := s₂.heap, slotsUsed := s₂.slotsUsed } : State).setVm s₂.vm), Ls ++ L, c0 + mc, s0 + ms⟩,
      ⟨X.admits, X.cas, X.clock, X.frames, X.room, X.hears, X.method, X.code, (X.here.setHeapUsed s₂.heap s₂.slotsUsed).setVm hW'.alike, X.tail, State.WarmedH.trans X.warmed hW', X.limits, X.bytes, X.same.trans (hsame.setVm s.vm)⟩,
      ⟨g, mk, s₂, L, rfl, rfl, hqc, rfl, hL, rfl, rfl⟩, ?_⟩
    show Steps p.tables e below _ ((({ U with heap := s₂.heap, slotsUsed := s₂.slotsUsed } : State).setVm s₂.vm).setTop { g with pc := g.pc + len₂, stack := v.toList ++ g.stack })
    rw [← hs₂]
    exact hsteps
  · obtain ⟨e2, q2, q3, q4, q5, q6⟩ := id hsm
    have e3 : s₂ = ({ (U.calling g mk a).setFrames s₂.frames with heap := s₂.heap, slotsUsed := s₂.slotsUsed } : State).setVm s₂.vm := by
      have : s₂ = ({ s₂ with vm := (U.calling g mk a).vm } : State).setVm s₂.vm := rfl
      rw [e2] at this
      exact this
    have hf₂ : s₂.frames = .throwing q :: .java g :: U.frames.tail := hend
    have hW' : U.WarmedH s₂.vm := hW₂
    have hs₂ : s₂ = ((({ U with heap := s₂.heap, slotsUsed := s₂.slotsUsed } : State).setVm s₂.vm).setTop g).pushFrame (.throwing q) := by
      refine e3.trans ?_
      rw [hf₂, State.calling_eq h.top, State.setFrames_setFrames, State.pushFrame, State.frames_setTop _ hr', State.setTop_of_frames _ hr', State.setFrames_setFrames, hr]
      rfl
    have hsame : U.sameButNew ({ U with heap := s₂.heap, slotsUsed := s₂.slotsUsed } : State) L mc ms := by
      refine ⟨?_, q2, q3, q4, q5, q6⟩
      obtain ⟨t, ht, -⟩ := State.frames_cons hr
      show ({ U with heap := s₂.heap, slotsUsed := s₂.slotsUsed } : State) = { U.setFrames U.frames with heap := s₂.heap, slotsUsed := s₂.slotsUsed }
      rw [State.setFrames_self ht]
    subst hg
    refine Or.inr ⟨q, ⟨(({ U with heap := s₂.heap, slotsUsed := s₂.slotsUsed } : State).setVm s₂.vm), Ls ++ L, c0 + mc, s0 + ms⟩,
      ⟨X.admits, X.cas, X.clock, X.frames, X.room, X.hears, X.method, X.code, (X.here.setHeapUsed s₂.heap s₂.slotsUsed).setVm hW'.alike, X.tail, State.WarmedH.trans X.warmed hW', X.limits, X.bytes, X.same.trans (hsame.setVm s.vm)⟩,
      ⟨g, mk, s₂, L, E, ce, rfl, rfl, hx, hce, hcv, hcl, rfl, hL, rfl, rfl⟩, ?_⟩
    show Steps p.tables e below _ (((({ U with heap := s₂.heap, slotsUsed := s₂.slotsUsed } : State).setVm s₂.vm).setTop g).pushFrame (.throwing q))
    rw [← hs₂]
    exact hsteps
end Payer
section Calls
variable {p : Program} {l : Launch} {e : Env} {R : Room} {s : State} {m : MethodId} {args : Array Value} {below : List Frame} {meth : Method} {c : Code} {T : State} {locs : List Loc} {cells slots : Nat}
theorem vx_callV (X : Stand p l e R s m args below meth c T locs cells slots) (hexec : p.tables.exec = Jvm.exec) {own C : String} {index : Nat} {y : MethodName} {bytes : ByteArray} {maxL : Nat} {ret : Option FieldType}
    (hown : s.vm.findClass own = some m.cls) (hlink : (Cond.methodLink own index y).before args s = true) (hinst : (Cond.instanceMethod y).before args s = true) (hsel : (Cond.selects C y y).before args s = true)
    (hcode : (Cond.code y bytes maxL ret).before args s = true) (hy : y.cls ≠ "java/lang/invoke/MethodHandle" ∧ y.cls ≠ "java/lang/invoke/VarHandle")
    {W9 : Nat} {Pre : Pt → Array Value → Prop} {Post : Pt → Array Value → Option Value → Pt → Prop} {PostX : Pt → Array Value → Addr → Pt → Prop} (hK : vx_Back l R p e below s args y 3 W9 Pre Post PostX)
    {b : Addr} {cellB : Cell} (hcell : T.heap[b]? = some cellB) (hobj : cellB.vm.isStatics = false) (hcls : s.vm.findClass C = some cellB.cls)
    {g : JFrame} (hg : g.method = m) (hsize : g.locals.size = c.maxLocals) {argsL rest : List Value} (hlen : ∀ sig, parseMethodDescriptor y.desc = some sig → argsL.length = sig.parameters.length)
    (hstack : g.stack = argsL.reverse ++ .ref b :: rest) (hW : 2 * g.monitorRoom + (rest.map fun v => v.category).sum ≤ W9) (hdg : decode c.code g.pc = .ok (.invokevirtual index, 3))
    (hpre : ∀ vm₁, s.WarmedH vm₁ → Pre ⟨T.setVm vm₁, locs, cells, slots⟩ (Value.ref b :: argsL).toArray) :
    (∃ (v : Option Value) (vm₁ : Vm) (B : Pt), s.WarmedH vm₁ ∧ Stand p l e R s m args below meth c B.U B.locs B.cells B.slots ∧ Post ⟨T.setVm vm₁, locs, cells, slots⟩ (Value.ref b :: argsL).toArray v B ∧
      ∀ target, Steps p.tables e below (B.U.setTop { g with pc := g.pc + 3, stack := v.toList ++ rest }) target → Steps p.tables e below (T.setTop g) target) ∨
    (∃ (q : Addr) (vm₁ : Vm) (B : Pt), s.WarmedH vm₁ ∧ Stand p l e R s m args below meth c B.U B.locs B.cells B.slots ∧ PostX ⟨T.setVm vm₁, locs, cells, slots⟩ (Value.ref b :: argsL).toArray q B ∧
      Steps p.tables e below (T.setTop g) ((B.U.setTop { g with stack := rest }).pushFrame (.throwing q))) := by
  obtain ⟨mk, methM, hnamed, hmethM, hstM, habM⟩ := Cond.instanceMethod_spec hinst
  obtain ⟨methM', cM, hmethM', -, -, -, -, -, -, hsigM⟩ := Cond.code_spec hnamed hcode
  cases hmethM.symm.trans hmethM'
  obtain ⟨c2, r2, m2, q1, q2, q3, q4, kP, hkP, hkPi⟩ := Cond.selects_spec hsel
  cases hcls.symm.trans q1
  cases (State.methodFound?_of_named hnamed hy).symm.trans q2
  cases hnamed.symm.trans q3
  have hselP : selectMethod e.platform s.vm cellB.cls mk = .method mk := by rw [Launch.admits_selectMethod X.admits]; exact q4
  obtain ⟨vm₁, X₁, hstep₁⟩ := X.invokevirtual hexec hown hlink hnamed hmethM hstM hkP hkPi hy (a := b) (cell := cellB) hcell
    (fun z h => by rw [h] at hobj; cases hobj) hselP hmethM habM hkP hkPi (g := g) hg (argsL := argsL) (rest := rest) (hlen _ hsigM) hstack hdg
  rcases hK m meth c ⟨T.setVm vm₁, locs, cells, slots⟩ { g with stack := rest } (.invokevirtual index) mk (Value.ref b :: argsL).toArray X₁ hg hsize hdg hW (X₁.named hnamed) (hpre vm₁ X₁.warmed) with ⟨v, B, X', hpost, hsteps⟩ | ⟨q, B, X', hpost, hsteps⟩
  · exact Or.inl ⟨v, vm₁, B, X₁.warmed, X', hpost, fun target h => hstep₁ _ fun acts => by rw [doInvoke_state]; exact hsteps.trans h⟩
  · exact Or.inr ⟨q, vm₁, B, X₁.warmed, X', hpost, hstep₁ _ fun acts => by rw [doInvoke_state]; exact hsteps⟩
theorem vx_callS (X : Stand p l e R s m args below meth c T locs cells slots) (hexec : p.tables.exec = Jvm.exec) {own : String} {index : Nat} {y : MethodName} {bytes : ByteArray} {maxL : Nat} {ret : Option FieldType}
    (hown : s.vm.findClass own = some m.cls) (hlink : (Cond.methodLink own index y).before args s = true) (hstat : (Cond.static y).before args s = true) (hinit : (Cond.initialized y.cls).before args s = true)
    (hcode : (Cond.code y bytes maxL ret).before args s = true) (hy : y.cls ≠ "java/lang/invoke/MethodHandle" ∧ y.cls ≠ "java/lang/invoke/VarHandle")
    {W9 : Nat} {Pre : Pt → Array Value → Prop} {Post : Pt → Array Value → Option Value → Pt → Prop} {PostX : Pt → Array Value → Addr → Pt → Prop} (hK : vx_Back l R p e below s args y 3 W9 Pre Post PostX)
    {g : JFrame} (hg : g.method = m) (hsize : g.locals.size = c.maxLocals) {argsL rest : List Value} (hlen : ∀ sig, parseMethodDescriptor y.desc = some sig → argsL.length = sig.parameters.length)
    (hstack : g.stack = argsL.reverse ++ rest) (hW : 2 * g.monitorRoom + (rest.map fun v => v.category).sum ≤ W9) (hdg : decode c.code g.pc = .ok (.invokestatic index, 3))
    (hpre : ∀ vm₁, s.WarmedH vm₁ → Pre ⟨T.setVm vm₁, locs, cells, slots⟩ argsL.toArray) :
    (∃ (v : Option Value) (vm₁ : Vm) (B : Pt), s.WarmedH vm₁ ∧ Stand p l e R s m args below meth c B.U B.locs B.cells B.slots ∧ Post ⟨T.setVm vm₁, locs, cells, slots⟩ argsL.toArray v B ∧
      ∀ target, Steps p.tables e below (B.U.setTop { g with pc := g.pc + 3, stack := v.toList ++ rest }) target → Steps p.tables e below (T.setTop g) target) ∨
    (∃ (q : Addr) (vm₁ : Vm) (B : Pt), s.WarmedH vm₁ ∧ Stand p l e R s m args below meth c B.U B.locs B.cells B.slots ∧ PostX ⟨T.setVm vm₁, locs, cells, slots⟩ argsL.toArray q B ∧
      Steps p.tables e below (T.setTop g) ((B.U.setTop { g with stack := rest }).pushFrame (.throwing q))) := by
  obtain ⟨mk, hnamed⟩ := Cond.code_named hcode
  obtain ⟨methM, cM, hmethM, -, -, -, -, -, -, hsigM⟩ := Cond.code_spec hnamed hcode
  have hstatic : methM.isStatic = true := Cond.static_spec hnamed hmethM hstat
  obtain ⟨kP, hkP, -⟩ := className_of_methodNamed hnamed
  have hinitP : kP.init = .initialized := Cond.initialized_spec (findClass_of_methodNamed hnamed) hkP hinit
  obtain ⟨vm₁, X₁, hstep₁⟩ := X.invokestatic hexec hown hlink hnamed hmethM hstatic hkP hinitP hy (g := g) hg (argsL := argsL) (rest := rest) (hlen _ hsigM) hstack hdg
  rcases hK m meth c ⟨T.setVm vm₁, locs, cells, slots⟩ { g with stack := rest } (.invokestatic index) mk argsL.toArray X₁ hg hsize hdg hW (X₁.named hnamed) (hpre vm₁ X₁.warmed) with ⟨v, B, X', hpost, hsteps⟩ | ⟨q, B, X', hpost, hsteps⟩
  · exact Or.inl ⟨v, vm₁, B, X₁.warmed, X', hpost, fun target h => hstep₁ _ fun acts => by rw [doInvoke_state]; exact hsteps.trans h⟩
  · exact Or.inr ⟨q, vm₁, B, X₁.warmed, X', hpost, hstep₁ _ fun acts => by rw [doInvoke_state]; exact hsteps⟩
end Calls
theorem vx_cls {s : State} {T : State} {vm₁ : Vm} {E : String} {k : ClassId} (hW : s.WarmedH vm₁) (h : (T.setVm vm₁).vm.findClass E = some k) : s.vm.findClass E = some k := by
  have h1 : vm₁.findClass E = some k := h
  rw [hW.alike.findClass] at h1
  exact h1
/-- the method's frame g, with q thrown over it -/
def vx_W (p : Program) (l : Launch) (e : Env) (R : Room) (s : State) (m : MethodId) (args : Array Value) (below : List Frame) (meth : Method) (c : Code) (H : Heap) (locs : List Loc) (cells slots : Nat) (Q : State → Prop) (g : JFrame) (q : Addr) : Prop :=
  ∀ T : State, T.heap = H → Stand p l e R s m args below meth c T locs cells slots → ∃ t, Steps p.tables e below ((T.setTop g).pushFrame (.throwing q)) t ∧ Q t
def vx_Run (p : Program) (l : Launch) (e : Env) (R : Room) (s : State) (m : MethodId) (args : Array Value) (below : List Frame) (meth : Method) (c : Code) (H : Heap) (locs : List Loc) (cells slots mc ms : Nat) (g : JFrame) (rest : List Value) (Qa : State → Outcome → State → Prop) (XC : String → State → State → Prop) (free : Addr → Prop) : Prop :=
  ∀ T : State, T.heap = H → Stand p l e R s m args below meth c T locs cells slots →
    (∃ (v : Option Value) (st₀ t T' : State) (L : List Loc), st₀.heap = H ∧ Stand p l e R s m args below meth c T' (locs ++ L) (cells + mc) (slots + ms) ∧ (∀ q ∈ L, free q.base) ∧ T'.heap = t.heap ∧ T'.vm = t.vm ∧ Qa st₀ (.returned v) t ∧
      Goes p e below T g T' { g with pc := g.pc + 3, stack := v.toList ++ rest }) ∨
    (∃ (q : Addr) (st₀ t T' : State) (L : List Loc) (E : String) (ce : Cell), st₀.heap = H ∧ Stand p l e R s m args below meth c T' (locs ++ L) (cells + mc) (slots + ms) ∧ (∀ z ∈ L, free z.base) ∧ T'.heap = t.heap ∧ T'.vm = t.vm ∧ XC E st₀ t ∧ t.heap[q]? = some ce ∧ ce.vm = .none ∧ s.vm.findClass E = some ce.cls ∧
      Steps p.tables e below (T.setTop g) ((T'.setTop { g with stack := rest }).pushFrame (.throwing q)))
def vx_X {S : Type} (px : S → Prop) (B : String → S → State → Prop) (A : Nat → Prop) : String → State → State → Prop := fun E st t => ∃ u : S, px u ∧ B E u t ∧ va_F A st t
section Runs
variable {p : Program} {l : Launch} {e : Env} {R : Room} {s : State} {m : MethodId} {args : Array Value} {below : List Frame} {meth : Method} {c : Code} {H : Heap} {locs : List Loc} {cells slots : Nat}
variable {y : MethodName} {bytes cc : ByteArray} {maxL nL mc ms n index : Nat} {ret : Option FieldType} {ws : List Cond} {rm : Room} {Pc : Array Value → State → Prop} {Qc : Array Value → State → Outcome → State → Prop} {XC : String → State → State → Prop} {free : Addr → Prop} {Ts : List Cond} {own C : String} {b : Addr} {As rest : List Value} {g : JFrame}
theorem vx_callBack (cb : CallB R s args own index y bytes maxL ret ws rm mc ms n) (hM : vx_Met l y ws rm Pc Qc XC mc ms free) (hbl : FrameBlind Pc) : vx_Back l R p e below s args y 3 8 (PreOf R mc ms Pc) (PostOf Qc mc ms free) (vx_Post XC mc ms free) := by
  obtain ⟨hrc, hrs, hfr, hlo, hws, hcw, -, hini, -⟩ := cb
  exact vx_back (bytes := bytes) (maxL := maxL) (ret := ret) hM hbl hrc hrs hfr hlo hws hcw (fun a' U hW => word_at hW (Or.inl (by first | rfl | simp [Cond.onTables, Cond.keeps, Cond.steady])) hini)
theorem vx_runV (S : CallFix p m c cc nL s args Ts own) (hM : vx_Met l y ws rm Pc Qc XC mc ms free) (cw : CallW R s args own C index y bytes maxL ret ws rm mc ms n) (hp : PreV s H C b Pc As)
    (hg : g.method = m) (hn : As.length = n) (hsize : g.locals.size = nL) (hstack : g.stack = As.reverse ++ .ref b :: rest) (hW : 2 * g.monitorRoom + (rest.map fun v => v.category).sum ≤ 8) (hdg : decode cc g.pc = .ok (.invokevirtual index, 3)) (hf : cells + mc ≤ R.cells ∧ slots + ms ≤ R.slots) :
    vx_Run p l e R s m args below meth c H locs cells slots mc ms g rest (Qc (Value.ref b :: As).toArray) XC free := by
  have hK : vx_Back l R p e below s args y 3 8 (PreOf R mc ms Pc) (PostOf Qc mc ms free) (vx_Post XC mc ms free) := vx_callBack cw.1 hM hp.1
  obtain ⟨⟨-, -, -, -, -, -, hcode, -, hy, hlen, hl⟩, hin, hse⟩ := cw
  obtain ⟨hx, hb, hml, ho, -⟩ := S
  obtain ⟨-, ⟨cellB, hcB, hoB, hclB⟩, hPc⟩ := hp
  intro T hT X
  rcases vx_callV X hx (C := C) (bytes := bytes) (maxL := maxL) (ret := ret) ho hl hin hse hcode hy hK (by rw [hT]; exact hcB) hoB hclB hg (hsize.trans hml.symm) (argsL := As) (rest := rest) (fun sig h => hn.trans (hlen sig h)) hstack hW (by rw [hb]; exact hdg)
    (fun vm₁ hW₁ => ⟨hf.1, hf.2, hPc (T.setVm vm₁) hT hW₁⟩) with ⟨v, vm₁, ⟨U', l2, c2, s2⟩, hW₁, X', ⟨g', mk, t, L, e1, e2, hq, h1, hL, h2, h3⟩, st⟩ | ⟨q, vm₁, ⟨U', l2, c2, s2⟩, hW₁, X', ⟨g', mk, t, L, E, ce, e1, e2, hq, hce, hcv, hcl, h1, hL, h2, h3⟩, st⟩
  · dsimp only [Pt.U, Pt.locs, Pt.cells, Pt.slots] at X' e1 e2 h1 h2 h3 st
    subst h1; subst h2; subst h3
    exact Or.inl ⟨v, (T.setVm vm₁).calling g' mk (Value.ref b :: As).toArray, t, U', L, hT, X', hL, e1, e2, hq, st⟩
  · dsimp only [Pt.U, Pt.locs, Pt.cells, Pt.slots] at X' e1 e2 h1 h2 h3 st hcl
    subst h1; subst h2; subst h3
    exact Or.inr ⟨q, (T.setVm vm₁).calling g' mk (Value.ref b :: As).toArray, t, U', L, E, ce, hT, X', hL, e1, e2, hq, hce, hcv, vx_cls hW₁ hcl, st⟩
theorem vx_runS (S : CallFix p m c cc nL s args Ts own) (hM : vx_Met l y ws rm Pc Qc XC mc ms free) (cw : CallB R s args own index y bytes maxL ret ws rm mc ms n ∧ (Cond.static y).before args s = true) (hp : PreS s H Pc As)
    (hg : g.method = m) (hn : As.length = n) (hsize : g.locals.size = nL) (hstack : g.stack = As.reverse ++ rest) (hW : 2 * g.monitorRoom + (rest.map fun v => v.category).sum ≤ 8) (hdg : decode cc g.pc = .ok (.invokestatic index, 3)) (hf : cells + mc ≤ R.cells ∧ slots + ms ≤ R.slots) :
    vx_Run p l e R s m args below meth c H locs cells slots mc ms g rest (Qc As.toArray) XC free := by
  have hK : vx_Back l R p e below s args y 3 8 (PreOf R mc ms Pc) (PostOf Qc mc ms free) (vx_Post XC mc ms free) := vx_callBack cw.1 hM hp.1
  obtain ⟨⟨-, -, -, -, -, -, hcode, hini, hy, hlen, hl⟩, hstt⟩ := cw
  obtain ⟨hx, hb, hml, ho, -⟩ := S
  intro T hT X
  rcases vx_callS X hx (bytes := bytes) (maxL := maxL) (ret := ret) ho hl hstt hini hcode hy hK hg (hsize.trans hml.symm) (argsL := As) (rest := rest) (fun sig h => hn.trans (hlen sig h)) hstack hW (by rw [hb]; exact hdg)
    (fun vm₁ hW₁ => ⟨hf.1, hf.2, hp.2 (T.setVm vm₁) hT hW₁⟩) with ⟨v, vm₁, ⟨U', l2, c2, s2⟩, hW₁, X', ⟨g', mk, t, L, e1, e2, hq, h1, hL, h2, h3⟩, st⟩ | ⟨q, vm₁, ⟨U', l2, c2, s2⟩, hW₁, X', ⟨g', mk, t, L, E, ce, e1, e2, hq, hce, hcv, hcl, h1, hL, h2, h3⟩, st⟩
  · dsimp only [Pt.U, Pt.locs, Pt.cells, Pt.slots] at X' e1 e2 h1 h2 h3 st
    subst h1; subst h2; subst h3
    exact Or.inl ⟨v, (T.setVm vm₁).calling g' mk As.toArray, t, U', L, hT, X', hL, e1, e2, hq, st⟩
  · dsimp only [Pt.U, Pt.locs, Pt.cells, Pt.slots] at X' e1 e2 h1 h2 h3 st hcl
    subst h1; subst h2; subst h3
    exact Or.inr ⟨q, (T.setVm vm₁).calling g' mk As.toArray, t, U', L, E, ce, hT, X', hL, e1, e2, hq, hce, hcv, vx_cls hW₁ hcl, st⟩
end Runs
section Rows
variable {p : Program} {l : Launch} {e : Env} {R : Room} {s : State} {m : MethodId} {args : Array Value} {below : List Frame} {meth : Method} {c : Code} {H : Heap} {locs : List Loc} {cells slots : Nat} {Q : State → Prop}
variable {mc ms : Nat} {free : Addr → Prop} {A0 A1 : Nat → Prop} {H0 : Heap} {a : Array Value} {pc : Nat} {ls : Array Slot} {st0 rest : List Value}
theorem vx_keep {st₀ t T' : State} {L : List Loc} (h0 : st₀.heap = H) (e1 : T'.heap = t.heap) (hS : va_S A0 H0 H locs) (hA : ∀ q, q < H.size → A1 q → A0 q) (hf : ∀ q, free q → A0 q) (hL : ∀ q ∈ L, free q.base) (hF : va_F A1 st₀ t) :
    H.size ≤ T'.heap.size ∧ (∀ q : Nat, q < H.size → ¬ A1 q → T'.heap[q]? = H[q]?) ∧ va_S A0 H0 T'.heap (locs ++ L) := by
  obtain ⟨hz, hk⟩ := hF
  rw [h0] at hz hk
  exact ⟨by rw [e1]; exact hz, fun q h1 h2 => by rw [e1]; exact hk q h1 h2,
    ⟨Nat.le_trans hS.1 (by rw [e1]; exact hz), fun q h1 h2 => by rw [e1, hk q (Nat.lt_of_lt_of_le h1 hS.1) (fun z => h2 (hA q (Nat.lt_of_lt_of_le h1 hS.1) z))]; exact hS.2.1 q h1 h2, fun q hq => by
      rcases List.mem_append.mp hq with h | h
      · exact hS.2.2 q h
      · exact hf _ (hL q h)⟩⟩
theorem vx_calli {S SX : Type} {post : Int32 → S → Prop} {px : SX → Prop} {B : S → State → Prop} {BX : String → SX → State → Prop} {AX : Nat → Prop} (hr : vx_Run p l e R s m args below meth c H locs cells slots mc ms (F0 m pc ls st0) rest (va_Qi post B A1 a) (vx_X px BX AX) free) (hS : va_S A0 H0 H locs) (hA : ∀ q, q < H.size → A1 q → A0 q) (hf : ∀ q, free q → A0 q) (hAX : ∀ q, q < H.size → AX q → A0 q)
    (kx : ∀ (E : String) (ce : Cell) (q9 : Addr) (u : SX) (t : State) (H1 : Heap) (locs1 : List Loc), t.heap = H1 → s.vm.Alike t.vm → px u → BX E u t → H.size ≤ H1.size → (∀ q : Nat, q < H.size → ¬ AX q → H1[q]? = H[q]?) → va_S A0 H0 H1 locs1 → H1[q9]? = some ce → ce.vm = .none → s.vm.findClass E = some ce.cls → vx_W p l e R s m args below meth c H1 locs1 (cells + mc) (slots + ms) Q (F0 m pc ls rest) q9)
    (kk : ∀ (r : Int32) (u : S) (t : State) (H1 : Heap) (locs1 : List Loc), t.heap = H1 → s.vm.Alike t.vm → post r u → B u t → H.size ≤ H1.size → (∀ q : Nat, q < H.size → ¬ A1 q → H1[q]? = H[q]?) → va_S A0 H0 H1 locs1 → W p l e R s m args below meth c H1 locs1 (cells + mc) (slots + ms) Q (F0 m (pc + 3) ls (.int r :: rest))) : W p l e R s m args below meth c H locs cells slots Q (F0 m pc ls st0) := by
  intro T hT X
  rcases hr T hT X with ⟨v, st₀, t, T', L, h0, X', hL, e1, e2, ⟨⟨r, u, hv, hp, hb⟩, hF⟩, st⟩ | ⟨q, st₀, t, T', L, E, ce, h0, X', hL, e1, e2, ⟨u, hp, hb, hF⟩, hce, hcv, hcl, st⟩
  · cases hv
    obtain ⟨k1, k2, k3⟩ := vx_keep h0 e1 hS hA hf hL hF
    obtain ⟨t2, a1, b1⟩ := kk r u t T'.heap (locs ++ L) e1.symm (by rw [← e2]; exact X'.warmed.alike) hp hb k1 k2 k3 T' rfl X'
    exact ⟨t2, st t2 a1, b1⟩
  · obtain ⟨k1, k2, k3⟩ := vx_keep h0 e1 hS hAX hf hL hF
    obtain ⟨t2, a1, b1⟩ := kx E ce q u t T'.heap (locs ++ L) e1.symm (by rw [← e2]; exact X'.warmed.alike) hp hb k1 k2 k3 (by rw [e1]; exact hce) hcv hcl T' rfl X'
    exact ⟨t2, st.trans a1, b1⟩
theorem vx_calll {S SX : Type} {post : Int64 → S → Prop} {px : SX → Prop} {B : S → State → Prop} {BX : String → SX → State → Prop} {AX : Nat → Prop} (hr : vx_Run p l e R s m args below meth c H locs cells slots mc ms (F0 m pc ls st0) rest (va_Ql post B A1 a) (vx_X px BX AX) free) (hS : va_S A0 H0 H locs) (hA : ∀ q, q < H.size → A1 q → A0 q) (hf : ∀ q, free q → A0 q) (hAX : ∀ q, q < H.size → AX q → A0 q)
    (kx : ∀ (E : String) (ce : Cell) (q9 : Addr) (u : SX) (t : State) (H1 : Heap) (locs1 : List Loc), t.heap = H1 → s.vm.Alike t.vm → px u → BX E u t → H.size ≤ H1.size → (∀ q : Nat, q < H.size → ¬ AX q → H1[q]? = H[q]?) → va_S A0 H0 H1 locs1 → H1[q9]? = some ce → ce.vm = .none → s.vm.findClass E = some ce.cls → vx_W p l e R s m args below meth c H1 locs1 (cells + mc) (slots + ms) Q (F0 m pc ls rest) q9)
    (kk : ∀ (r : Int64) (u : S) (t : State) (H1 : Heap) (locs1 : List Loc), t.heap = H1 → s.vm.Alike t.vm → post r u → B u t → H.size ≤ H1.size → (∀ q : Nat, q < H.size → ¬ A1 q → H1[q]? = H[q]?) → va_S A0 H0 H1 locs1 → W p l e R s m args below meth c H1 locs1 (cells + mc) (slots + ms) Q (F0 m (pc + 3) ls (.long r :: rest))) : W p l e R s m args below meth c H locs cells slots Q (F0 m pc ls st0) := by
  intro T hT X
  rcases hr T hT X with ⟨v, st₀, t, T', L, h0, X', hL, e1, e2, ⟨⟨r, u, hv, hp, hb⟩, hF⟩, st⟩ | ⟨q, st₀, t, T', L, E, ce, h0, X', hL, e1, e2, ⟨u, hp, hb, hF⟩, hce, hcv, hcl, st⟩
  · cases hv
    obtain ⟨k1, k2, k3⟩ := vx_keep h0 e1 hS hA hf hL hF
    obtain ⟨t2, a1, b1⟩ := kk r u t T'.heap (locs ++ L) e1.symm (by rw [← e2]; exact X'.warmed.alike) hp hb k1 k2 k3 T' rfl X'
    exact ⟨t2, st t2 a1, b1⟩
  · obtain ⟨k1, k2, k3⟩ := vx_keep h0 e1 hS hAX hf hL hF
    obtain ⟨t2, a1, b1⟩ := kx E ce q u t T'.heap (locs ++ L) e1.symm (by rw [← e2]; exact X'.warmed.alike) hp hb k1 k2 k3 (by rw [e1]; exact hce) hcv hcl T' rfl X'
    exact ⟨t2, st.trans a1, b1⟩
theorem vx_callf {S SX : Type} {post : UInt32 → S → Prop} {px : SX → Prop} {B : S → State → Prop} {BX : String → SX → State → Prop} {AX : Nat → Prop} (hr : vx_Run p l e R s m args below meth c H locs cells slots mc ms (F0 m pc ls st0) rest (va_Qf post B A1 a) (vx_X px BX AX) free) (hS : va_S A0 H0 H locs) (hA : ∀ q, q < H.size → A1 q → A0 q) (hf : ∀ q, free q → A0 q) (hAX : ∀ q, q < H.size → AX q → A0 q)
    (kx : ∀ (E : String) (ce : Cell) (q9 : Addr) (u : SX) (t : State) (H1 : Heap) (locs1 : List Loc), t.heap = H1 → s.vm.Alike t.vm → px u → BX E u t → H.size ≤ H1.size → (∀ q : Nat, q < H.size → ¬ AX q → H1[q]? = H[q]?) → va_S A0 H0 H1 locs1 → H1[q9]? = some ce → ce.vm = .none → s.vm.findClass E = some ce.cls → vx_W p l e R s m args below meth c H1 locs1 (cells + mc) (slots + ms) Q (F0 m pc ls rest) q9)
    (kk : ∀ (r : UInt32) (u : S) (t : State) (H1 : Heap) (locs1 : List Loc), t.heap = H1 → s.vm.Alike t.vm → post r u → B u t → H.size ≤ H1.size → (∀ q : Nat, q < H.size → ¬ A1 q → H1[q]? = H[q]?) → va_S A0 H0 H1 locs1 → W p l e R s m args below meth c H1 locs1 (cells + mc) (slots + ms) Q (F0 m (pc + 3) ls (.float r :: rest))) : W p l e R s m args below meth c H locs cells slots Q (F0 m pc ls st0) := by
  intro T hT X
  rcases hr T hT X with ⟨v, st₀, t, T', L, h0, X', hL, e1, e2, ⟨⟨r, u, hv, hp, hb⟩, hF⟩, st⟩ | ⟨q, st₀, t, T', L, E, ce, h0, X', hL, e1, e2, ⟨u, hp, hb, hF⟩, hce, hcv, hcl, st⟩
  · cases hv
    obtain ⟨k1, k2, k3⟩ := vx_keep h0 e1 hS hA hf hL hF
    obtain ⟨t2, a1, b1⟩ := kk r u t T'.heap (locs ++ L) e1.symm (by rw [← e2]; exact X'.warmed.alike) hp hb k1 k2 k3 T' rfl X'
    exact ⟨t2, st t2 a1, b1⟩
  · obtain ⟨k1, k2, k3⟩ := vx_keep h0 e1 hS hAX hf hL hF
    obtain ⟨t2, a1, b1⟩ := kx E ce q u t T'.heap (locs ++ L) e1.symm (by rw [← e2]; exact X'.warmed.alike) hp hb k1 k2 k3 (by rw [e1]; exact hce) hcv hcl T' rfl X'
    exact ⟨t2, st.trans a1, b1⟩
theorem vx_calld {S SX : Type} {post : UInt64 → S → Prop} {px : SX → Prop} {B : S → State → Prop} {BX : String → SX → State → Prop} {AX : Nat → Prop} (hr : vx_Run p l e R s m args below meth c H locs cells slots mc ms (F0 m pc ls st0) rest (va_Qd post B A1 a) (vx_X px BX AX) free) (hS : va_S A0 H0 H locs) (hA : ∀ q, q < H.size → A1 q → A0 q) (hf : ∀ q, free q → A0 q) (hAX : ∀ q, q < H.size → AX q → A0 q)
    (kx : ∀ (E : String) (ce : Cell) (q9 : Addr) (u : SX) (t : State) (H1 : Heap) (locs1 : List Loc), t.heap = H1 → s.vm.Alike t.vm → px u → BX E u t → H.size ≤ H1.size → (∀ q : Nat, q < H.size → ¬ AX q → H1[q]? = H[q]?) → va_S A0 H0 H1 locs1 → H1[q9]? = some ce → ce.vm = .none → s.vm.findClass E = some ce.cls → vx_W p l e R s m args below meth c H1 locs1 (cells + mc) (slots + ms) Q (F0 m pc ls rest) q9)
    (kk : ∀ (r : UInt64) (u : S) (t : State) (H1 : Heap) (locs1 : List Loc), t.heap = H1 → s.vm.Alike t.vm → post r u → B u t → H.size ≤ H1.size → (∀ q : Nat, q < H.size → ¬ A1 q → H1[q]? = H[q]?) → va_S A0 H0 H1 locs1 → W p l e R s m args below meth c H1 locs1 (cells + mc) (slots + ms) Q (F0 m (pc + 3) ls (.double r :: rest))) : W p l e R s m args below meth c H locs cells slots Q (F0 m pc ls st0) := by
  intro T hT X
  rcases hr T hT X with ⟨v, st₀, t, T', L, h0, X', hL, e1, e2, ⟨⟨r, u, hv, hp, hb⟩, hF⟩, st⟩ | ⟨q, st₀, t, T', L, E, ce, h0, X', hL, e1, e2, ⟨u, hp, hb, hF⟩, hce, hcv, hcl, st⟩
  · cases hv
    obtain ⟨k1, k2, k3⟩ := vx_keep h0 e1 hS hA hf hL hF
    obtain ⟨t2, a1, b1⟩ := kk r u t T'.heap (locs ++ L) e1.symm (by rw [← e2]; exact X'.warmed.alike) hp hb k1 k2 k3 T' rfl X'
    exact ⟨t2, st t2 a1, b1⟩
  · obtain ⟨k1, k2, k3⟩ := vx_keep h0 e1 hS hAX hf hL hF
    obtain ⟨t2, a1, b1⟩ := kx E ce q u t T'.heap (locs ++ L) e1.symm (by rw [← e2]; exact X'.warmed.alike) hp hb k1 k2 k3 (by rw [e1]; exact hce) hcv hcl T' rfl X'
    exact ⟨t2, st.trans a1, b1⟩
theorem vx_callv {S SX : Type} {post : S → Prop} {px : SX → Prop} {B : S → State → Prop} {BX : String → SX → State → Prop} {AX : Nat → Prop} (hr : vx_Run p l e R s m args below meth c H locs cells slots mc ms (F0 m pc ls st0) rest (va_Qv post B A1 a) (vx_X px BX AX) free) (hS : va_S A0 H0 H locs) (hA : ∀ q, q < H.size → A1 q → A0 q) (hf : ∀ q, free q → A0 q) (hAX : ∀ q, q < H.size → AX q → A0 q)
    (kx : ∀ (E : String) (ce : Cell) (q9 : Addr) (u : SX) (t : State) (H1 : Heap) (locs1 : List Loc), t.heap = H1 → s.vm.Alike t.vm → px u → BX E u t → H.size ≤ H1.size → (∀ q : Nat, q < H.size → ¬ AX q → H1[q]? = H[q]?) → va_S A0 H0 H1 locs1 → H1[q9]? = some ce → ce.vm = .none → s.vm.findClass E = some ce.cls → vx_W p l e R s m args below meth c H1 locs1 (cells + mc) (slots + ms) Q (F0 m pc ls rest) q9)
    (kk : ∀ (u : S) (t : State) (H1 : Heap) (locs1 : List Loc), t.heap = H1 → s.vm.Alike t.vm → post u → B u t → H.size ≤ H1.size → (∀ q : Nat, q < H.size → ¬ A1 q → H1[q]? = H[q]?) → va_S A0 H0 H1 locs1 → W p l e R s m args below meth c H1 locs1 (cells + mc) (slots + ms) Q (F0 m (pc + 3) ls (rest))) : W p l e R s m args below meth c H locs cells slots Q (F0 m pc ls st0) := by
  intro T hT X
  rcases hr T hT X with ⟨v, st₀, t, T', L, h0, X', hL, e1, e2, ⟨⟨u, hv, hp, hb⟩, hF⟩, st⟩ | ⟨q, st₀, t, T', L, E, ce, h0, X', hL, e1, e2, ⟨u, hp, hb, hF⟩, hce, hcv, hcl, st⟩
  · cases hv
    obtain ⟨k1, k2, k3⟩ := vx_keep h0 e1 hS hA hf hL hF
    obtain ⟨t2, a1, b1⟩ := kk u t T'.heap (locs ++ L) e1.symm (by rw [← e2]; exact X'.warmed.alike) hp hb k1 k2 k3 T' rfl X'
    exact ⟨t2, st t2 a1, b1⟩
  · obtain ⟨k1, k2, k3⟩ := vx_keep h0 e1 hS hAX hf hL hF
    obtain ⟨t2, a1, b1⟩ := kx E ce q u t T'.heap (locs ++ L) e1.symm (by rw [← e2]; exact X'.warmed.alike) hp hb k1 k2 k3 (by rw [e1]; exact hce) hcv hcl T' rfl X'
    exact ⟨t2, st.trans a1, b1⟩
/-- caught by the row x of this method's table; the rows ahead don't take it -/
theorem vx_catch {own name : String} {E : String} {ce : Cell} {q : Addr} (hown : s.vm.findClass own = some m.cls) (pre : List ExceptionTableEntry) (x : ExceptionTableEntry) (suf : List ExceptionTableEntry) (hsplit : c.exceptionTable.toList = pre ++ x :: suf)
    (hpass : ∀ z ∈ pre, covers z pc = false ∨ (z.catchType ≠ 0 ∧ ∃ nm : String, (Cond.classLink own z.catchType nm).before args s = true ∧ va_Nc E nm s)) (hx : covers x pc = true) (h0 : x.catchType ≠ 0)
    (hlink : (Cond.classLink own x.catchType name).before args s = true) (hcast : (Cond.castable E name).before args s = true) (hcell : H[q]? = some ce) (hv : ce.vm = .none) (hcl : s.vm.findClass E = some ce.cls)
    (kk : W p l e R s m args below meth c H locs cells slots Q (F0 m x.handlerPc ls [.ref q])) : vx_W p l e R s m args below meth c H locs cells slots Q (F0 m pc ls rest) q := by
  intro T hT X
  have hpl : e.platform.magicAccessors = ({} : Platform).magicAccessors := by rw [X.admits.platform]
  obtain ⟨c3, c4, hc3, hc4, hasg⟩ := Cond.castable_spec hcast
  cases Option.some.inj (hc3.symm.trans hcl)
  obtain ⟨c5, hc5, hcl5⟩ := Cond.classLink_spec hown hlink e.platform hpl
  cases Option.some.inj (hc4.symm.trans hc5)
  obtain ⟨vm', X', st⟩ := X.thenCaughtThrough q (g := F0 m pc ls rest) rfl (Steps.refl _) (by rw [hT]; exact hcell) (by rw [hv]; rfl) (by obtain ⟨k9, h9, -⟩ := Vm.findClass_spec hcl; exact ⟨k9, h9⟩) pre x suf hsplit
    (fun z hz => by
      rcases hpass z hz with h | ⟨hz0, nm, hl1, hn1⟩
      · exact Or.inl h
      · obtain ⟨c6, hc6, hcl6⟩ := Cond.classLink_spec hown hl1 e.platform hpl
        obtain ⟨a8, b8, h1, h2, h3⟩ := hn1
        cases Option.some.inj (h1.symm.trans hcl)
        cases Option.some.inj (h2.symm.trans hc6)
        exact Or.inr ⟨hz0, _, hcl6, h3⟩) hx (Or.inr ⟨h0, c4, hcl5, hasg⟩)
  obtain ⟨t, a1, b1⟩ := kk (T.setVm vm') hT X'
  exact ⟨t, st.trans a1, b1⟩
end Rows
section Ends
variable {p : Program} {l : Launch} {e : Env} {R : Room} {s : State} {m : MethodId} {args : Array Value} {below : List Frame} {meth : Method} {c : Code} {H : Heap} {locs : List Loc} {cells slots : Nat} {Q : State → Prop}
variable {mc ms : Nat} {free : Addr → Prop} {A0 A1 : Nat → Prop} {H0 : Heap} {a : Array Value} {ls : Array Slot} {st0 rest : List Value}
variable {Qc : Array Value → State → Outcome → State → Prop} {XC : String → State → State → Prop}
/-- what a body that may throw owes at its end -/
def vx_MQ (below : List Frame) (Qc : Array Value → State → Outcome → State → Prop) (XC : String → State → State → Prop) (a : Array Value) (s : State) (mc ms : Nat) (free : Addr → Prop) : State → Prop := fun t =>
  ∃ o, t.status = .running ∧ Ended t below o ∧ vx_Q Qc XC mc ms free a s o t
theorem vx_ret {g : JFrame} {mc ms : Nat} (k : W p l e R s m args below meth c H locs cells slots (MQ below Qc args s mc ms free) g) : W p l e R s m args below meth c H locs cells slots (vx_MQ below Qc XC args s mc ms free) g := by
  intro T hT X
  obtain ⟨t, a1, o, b1, b2, b3, b4⟩ := k T hT X
  exact ⟨t, a1, o, b1, b2, Or.inl ⟨b3, b4⟩⟩
/-- not caught here: it goes on to the caller -/
theorem vx_widen {g : JFrame} {q : Addr} {k n : Nat} (h1 : cells ≤ k) (h2 : slots ≤ n) (kk : vx_W p l e R s m args below meth c H locs k n Q g q) : vx_W p l e R s m args below meth c H locs cells slots Q g q := fun T hT X => kk T hT (stand_widen X h1 h2)
theorem vx_out {pc : Nat} {E : String} {ce : Cell} {q : Addr} {mc ms : Nat} (hout : ∀ x ∈ c.exceptionTable.toList, covers x pc = false) (hlocks : meth.locks = false) (hcell : H[q]? = some ce) (hv : ce.vm = .none) (hcl : s.vm.findClass E = some ce.cls)
    (hx : ∀ t : State, t.heap = H → s.vm.Alike t.vm → XC E s t) (hf : ∀ z ∈ locs, free z.base) (hc : cells ≤ mc) (hs : slots ≤ ms) :
    vx_W p l e R s m args below meth c H locs cells slots (vx_MQ below Qc XC args s mc ms free) (F0 m pc ls rest) q := by
  intro T hT X
  obtain ⟨st1, hrun, hend, hW, hsm⟩ := X.leaveThrown q (g := F0 m pc ls rest) rfl rfl rfl hout hlocks
  have hcell9 : (T.setFrames (.throwing q :: below)).heap[q]? = some ce := by
    show T.heap[q]? = some ce
    rw [hT]; exact hcell
  exact ⟨_, st1, .threw q, hrun, hend, Or.inr ⟨q, rfl, E, ce, locs, hx _ hT hW.alike, hcell9, hv, hcl, hW, hsm.mono hc hs, hf⟩⟩
theorem vx_frame {U : State} {k n : Nat} (h : s.sameButNew ({ U with vm := s.vm } : State) locs k n) : s.heap.size ≤ U.heap.size ∧ ∀ q : Nat, q < s.heap.size → (∀ z ∈ locs, z.base ≠ q) → U.heap[q]? = s.heap[q]? := by
  obtain ⟨-, h2, -, -, -, h6⟩ := h
  refine ⟨h2, fun q hq hz => ?_⟩
  obtain ⟨c9, e1, e2, e3, e4⟩ := h6 q _ (Array.getElem?_eq_getElem hq)
  have hs : c9.slots = (s.heap[q]).slots := Array.ext_getElem? fun i => e4 i fun hm => hz _ hm rfl
  have h9 : c9 = s.heap[q] := by
    rw [hs] at e2
    exact e2
  have e5 : U.heap[q]? = some c9 := e1
  rw [e5, h9, Array.getElem?_eq_getElem hq]
/-- the words of a throw but the four that speak of the heap -/
def vx_no (w : Cond) : Bool := decide (w ≠ .isRef (.static Bundle.tN "UNASSIGNED_STACK" Bundle.steD)) && decide (w ≠ .isRef (.static Bundle.tN "SUPPRESSED_SENTINEL" Bundle.listD)) && decide (w ≠ .laysStatic Bundle.tN "UNASSIGNED_STACK" Bundle.steD) && decide (w ≠ .laysStatic Bundle.tN "SUPPRESSED_SENTINEL" Bundle.listD)
def vx_at0 (own : String) (ic : Nat) (X : String) (names : List String) : List Cond := (Bundle.ownAtoms0 own ic X names).filter vx_no
def vx_atS (own : String) (ic : Nat) (X : String) (names : List String) : List Cond := (Bundle.ownAtoms own ic X names).filter vx_no
/-- a word that the tables alone decide, or a good one -/
def vx_ot (w : Cond) : Bool := w.onTables || goodWord w
theorem vx_ot_at {args a' : Array Value} {s U : State} {w : Cond} (hW : s.WarmedH U.vm) (hvm : s.vm = U.vm) (hg : vx_ot w = true) (h : w.before args s = true) : w.before a' U = true := by
  simp only [vx_ot, Bool.or_eq_true] at hg
  rcases hg with hg | hg
  · exact va_tabs hg hvm h
  · exact word_at hW (good_of_word hg) h
/-- a list's words: the good ones out of the method's own list, the others by premises of their own -/
theorem vx_hat {args : Array Value} {s : State} {L B : List Cond} (h1 : ∀ w ∈ L.filter goodWord, w.before args s = true) (h2 : ∀ w ∈ L.filter (fun w => !goodWord w), w ∈ B) (h3 : ∀ w ∈ B, w.before args s = true) : ∀ w ∈ L, w.before args s = true := by
  intro w hw
  by_cases g : goodWord w = true
  · exact h1 w (List.mem_filter.mpr ⟨hw, g⟩)
  · refine h3 w (h2 w (List.mem_filter.mpr ⟨hw, ?_⟩))
    show (!goodWord w) = true
    cases hgw : goodWord w
    · rfl
    · exact absurd hgw g
theorem vx_c {args : Array Value} {s : State} {w : Cond} {B : List Cond} (h : w.before args s = true) (t : ∀ w ∈ B, w.before args s = true) : ∀ w' ∈ w :: B, w'.before args s = true := fun w' h' => (List.mem_cons.mp h').elim (fun e => by rw [e]; exact h) (t w')
theorem vx_n {args : Array Value} {s : State} : ∀ w ∈ ([] : List Cond), w.before args s = true := fun _ h => nomatch h
theorem vx_own {args : Array Value} {s : State} {L : List Cond} (h1 : ∀ w ∈ L.filter vx_no, w.before args s = true)
    (hU : (Cond.isRef (.static Bundle.tN "UNASSIGNED_STACK" Bundle.steD)).before args s = true) (hN : (Cond.isRef (.static Bundle.tN "SUPPRESSED_SENTINEL" Bundle.listD)).before args s = true)
    (lU : (Cond.laysStatic Bundle.tN "UNASSIGNED_STACK" Bundle.steD).before args s = true) (lN : (Cond.laysStatic Bundle.tN "SUPPRESSED_SENTINEL" Bundle.listD).before args s = true) : ∀ w ∈ L, w.before args s = true := by
  intro w hw
  by_cases e1 : w = .isRef (.static Bundle.tN "UNASSIGNED_STACK" Bundle.steD)
  · rw [e1]; exact hU
  · by_cases e2 : w = .isRef (.static Bundle.tN "SUPPRESSED_SENTINEL" Bundle.listD)
    · rw [e2]; exact hN
    · by_cases e3 : w = .laysStatic Bundle.tN "UNASSIGNED_STACK" Bundle.steD
      · rw [e3]; exact lU
      · by_cases e4 : w = .laysStatic Bundle.tN "SUPPRESSED_SENTINEL" Bundle.listD
        · rw [e4]; exact lN
        · exact h1 w (List.mem_filter.mpr ⟨hw, by unfold vx_no; rw [decide_eq_true e1, decide_eq_true e2, decide_eq_true e3, decide_eq_true e4]; rfl⟩)
/-- where a static field lies, its class's statics cell in H -/
def vx_L (C n d : String) (A : Nat → Prop) (U : State) (H : Heap) : Prop := ∃ (c : ClassId) (k : Class) (i : Nat) (f : Field) (a : Nat) (cell : Cell), U.vm.findClass C = some c ∧ U.fieldFound? C n d = some (c, k, i, f) ∧ f.isStatic = true ∧ k.statics = some a ∧ H[a]? = some cell ∧ cell.vm.isStatics = true ∧ cell.cls = c ∧ f.slot < cell.slots.size ∧ k.staticTypes[f.slot]? = some f.type ∧ ¬ A a
theorem vx_L.moved {C n d : String} {A : Nat → Prop} {u U : State} {H : Heap} (hvm : u.vm.Alike U.vm) (h : vx_L C n d A u H) : vx_L C n d A U H := by
  obtain ⟨c, k, i, f, a, cell, h1, h2, h3, h4, h5, h6, h7, h8, h9, h10⟩ := h
  obtain ⟨k', hi', he⟩ := State.fieldFound?_setVm hvm h2
  exact ⟨c, k', i, f, a, cell, by rw [hvm.findClass]; exact h1, hi', h3, by rw [he]; exact h4, h5, h6, h7, h8, by rw [he]; exact h9, h10⟩
theorem vx_L.kept {C n d : String} {A : Nat → Prop} {U : State} {H H1 : Heap} (h : vx_L C n d A U H) (hq : ∀ a : Nat, a < H.size → ¬ A a → H1[a]? = H[a]?) : vx_L C n d A U H1 := by
  obtain ⟨c, k, i, f, a, cell, h1, h2, h3, h4, h5, h6, h7, h8, h9, h10⟩ := h
  exact ⟨c, k, i, f, a, cell, h1, h2, h3, h4, by rw [hq a (Array.getElem?_eq_some_iff.mp h5).1 h10]; exact h5, h6, h7, h8, h9, h10⟩
theorem vx_L.narrow {C n d : String} {A B : Nat → Prop} {U : State} {H : Heap} (h : vx_L C n d A U H) (hAB : ∀ q, B q → A q) : vx_L C n d B U H := by
  obtain ⟨c, k, i, f, a, cell, h1, h2, h3, h4, h5, h6, h7, h8, h9, h10⟩ := h
  exact ⟨c, k, i, f, a, cell, h1, h2, h3, h4, h5, h6, h7, h8, h9, fun z => h10 (hAB _ z)⟩
theorem vx_L.word {C n d : String} {A : Nat → Prop} {s : State} {args : Array Value} (h : vx_L C n d A s s.heap) : (Cond.laysStatic C n d).before args s = true := by
  obtain ⟨c, k, i, f, a, cell, h1, h2, h3, h4, h5, h6, h7, h8, h9, -⟩ := h
  show (Cond.laysStatic C n d).holds args s none s [] = true
  exact Cond.laysStatic_of h1 h2 h3 h4 h5 h6 h7 h8 h9
/-- .. and what it holds: null or some reference -/
def vx_Zq (C n d : String) (A : Nat → Prop) (U : State) (H : Heap) : Prop := va_Zq C n d A U H ∧ vx_L C n d A U H
theorem vx_Zq.moved {C n d : String} {A : Nat → Prop} {u U : State} {H : Heap} (hvm : u.vm.Alike U.vm) (h : vx_Zq C n d A u H) : vx_Zq C n d A U H := ⟨va_Zq.moved hvm h.1, vx_L.moved hvm h.2⟩
theorem vx_Zq.kept {C n d : String} {A : Nat → Prop} {U : State} {H H1 : Heap} (h : vx_Zq C n d A U H) (hq : ∀ a : Nat, a < H.size → ¬ A a → H1[a]? = H[a]?) : vx_Zq C n d A U H1 := ⟨va_Zq.kept h.1 hq, vx_L.kept h.2 hq⟩
theorem vx_Zq.narrow {C n d : String} {A B : Nat → Prop} {U : State} {H : Heap} (h : vx_Zq C n d A U H) (hAB : ∀ q, B q → A q) : vx_Zq C n d B U H := ⟨va_Zq.narrow h.1 hAB, vx_L.narrow h.2 hAB⟩
theorem vx_Zqof {args : Array Value} {s : State} {C n d : String} {A : Nat → Prop} (hl : (Cond.laysStatic C n d).before args s = true) (hini : (Cond.initialized C).before args s = true) (h : (Cond.isRef (.static C n d)).before args s = true) (hA : ∀ a : Nat, a < s.heap.size → ¬ A a) : vx_Zq C n d A s s.heap := by
  refine ⟨va_Zqof hl hini h hA, ?_⟩
  obtain ⟨c, k, i, f, a, cell, h1, h2, h3, h4, h5, h6, h7, h8, h9⟩ := Cond.laysStatic_spec hl
  exact ⟨c, k, i, f, a, cell, h1, h2, h3, h4, h5, h6, h7, h8, h9, hA a (Array.getElem?_eq_some_iff.mp h5).1⟩
theorem vx_isRef {C n d : String} {v : Value} {A : Nat → Prop} {s : State} {args : Array Value} (h : va_Z C n d v A s s.heap) (hv : v.isRef = true) : (Cond.isRef (.static C n d)).before args s = true := by
  obtain ⟨cf, kf, fi, f, a, cell, h1, h2, h3, h4, h5, h6, h7, -⟩ := h
  have he : (Term.static C n d).eval args s none [] s = some v := by
    simp [Term.eval, State.fieldNamed?, h1, h2, h4, h5, h6, h7]
  simp only [Cond.before, Cond.holds, Cond.value, he]
  cases v <;> simp_all [Value.isRef]
theorem vx_isRefq {C n d : String} {A : Nat → Prop} {s : State} {args : Array Value} (h : va_Zq C n d A s s.heap) : (Cond.isRef (.static C n d)).before args s = true := by
  rcases h with h | ⟨t, h⟩
  · exact vx_isRef h rfl
  · exact vx_isRef h rfl
/-- the same frame, seen from here: as if the method were called anew in this heap -/
theorem vx_rebase {T : State} (X : Stand p l e R s m args below meth c T locs cells slots) {R' : Room} (hf : R'.frames ≤ R.frames) (hl : R'.locals ≤ R.locals) (hc : cells + R'.cells ≤ R.cells) (hs : slots + R'.slots ≤ R.slots) :
    Stand p l e R' ((T.setVm s.vm).setFrames (.invoking m args :: below)) m args below meth c T [] 0 0 := by
  have htop : (T.setVm s.vm).topJava?.isSome := X.here.top
  have hF : ((T.setVm s.vm).setFrames (.invoking m args :: below)).frames = .invoking m args :: below := State.frames_setFrames _ (State.cur_lt_of_top htop)
  obtain ⟨g₀, hg0⟩ := Option.isSome_iff_exists.mp htop
  obtain ⟨r, hr⟩ := State.topJava?_eq_some.mp hg0
  have hl9 : e.platform.stackLimits (T.setVm s.vm).me = e.platform.stackLimits s.me := X.limits
  have hb9 : (T.setVm s.vm).me.stackBytes = s.me.stackBytes := X.bytes
  refine ⟨X.admits, X.cas, X.clock, hF, ?_, X.hears, X.method, X.code, X.here, X.tail, X.warmed, ?_, ?_, ?_⟩
  · have h := X.room
    have hU : ((T.setVm s.vm).setFrames (.invoking m args :: below)).localsInUse = s.localsInUse := by
      rw [State.localsInUse_invoking hF (meth := meth) (c := c) X.method X.code, State.localsInUse_invoking X.frames X.method X.code]
    simp only [State.hasRoom, Bool.and_eq_true, decide_eq_true_eq] at h ⊢
    obtain ⟨⟨⟨⟨h1, h2, h3, h4, h5, h6⟩, h7⟩, h8⟩, h9⟩ := h
    rw [X.frames, List.length_cons] at h2 h3
    have q1 := X.heapSize
    have q2 := X.used
    simp only [hF, hU, List.length_cons, State.stackLimits_setFrames, State.stackBytes_setFrames, hl9, hb9]
    refine ⟨⟨⟨⟨by omega, by omega, by omega, by omega, by omega, h6⟩, ?_⟩, ?_⟩, X.book⟩
    · show T.heap.size + R'.cells ≤ e.platform.maxCells
      omega
    · show T.slotsUsed + R'.slots ≤ e.platform.maxSlots
      omega
  · rw [State.stackLimits_setFrames]; rfl
  · rw [State.stackBytes_setFrames]; rfl
  · refine ⟨?_, Nat.le_refl _, Nat.le_refl _, ?_, ?_, fun a c9 h9 => ⟨c9, h9, rfl, rfl, fun _ _ => rfl⟩⟩
    · obtain ⟨t, ht, -⟩ := State.frames_cons hr
      show T.setVm s.vm = { ((T.setVm s.vm).setFrames (.invoking m args :: below)).setFrames (T.setVm s.vm).frames with heap := T.heap, slotsUsed := T.slotsUsed }
      rw [State.setFrames_setFrames, State.setFrames_self ht]
      rfl
    · show T.slotsUsed = T.slotsUsed + ((T.heap.toList.drop T.heap.size).map (·.slots.size)).sum
      rw [List.drop_eq_nil_of_le (Nat.le_of_eq Array.length_toList)]
      rfl
    · show ((T.heap.toList.drop T.heap.size).map (·.slots.size)).sum ≤ 0
      rw [List.drop_eq_nil_of_le (Nat.le_of_eq Array.length_toList)]
      exact Nat.le_refl _
/-- 'throw new E()': new; dup; invokespecial; athrow -/
theorem vx_throw0 {cc : ByteArray} {pc : Nat} (hexec : p.tables.exec = Jvm.exec) (hb : c.code = cc) (hl : l.stackTraces = false) {own cls : String} {names : List String} {ik ic mc ms : Nat} {A : Nat → Prop}
    (hown : s.vm.findClass own = some m.cls) (hcls : Bundle.fit cls = true) (hnames : ∀ n ∈ names, Bundle.fit n = true)
    (hk : (Cond.classLink own ik cls).before args s = true) (hini : (Cond.initialized cls).before args s = true) (hat : ∀ w ∈ vx_at0 own ic cls names, w.before args s = true)
    (hgood : ∀ w ∈ Cond.classLink own ik cls :: Cond.initialized cls :: vx_at0 own ic cls names, vx_ot w = true)
    (hU : vx_Zq Bundle.tN "UNASSIGNED_STACK" Bundle.steD A s s.heap) (hN : vx_Zq Bundle.tN "SUPPRESSED_SENTINEL" Bundle.listD A s s.heap) (hS : va_S A s.heap H locs) (hsize : ls.size = c.maxLocals)
    (d0 : decode cc pc = .ok (.new ik, 3)) (d3 : decode cc (pc + 3) = .ok (.dup, 1)) (d4 : decode cc (pc + 4) = .ok (.invokespecial ic, 3)) (d7 : decode cc (pc + 7) = .ok (.athrow, 1))
    (hout : ∀ x ∈ c.exceptionTable.toList, covers x (pc + 7) = false)
    (hRframes : names.length + 3 < R.frames) (hRlocals : (rest.map fun v => v.category).sum + (13 * (names.length + 1) + 42) ≤ R.locals) (hRcells : cells + 1 ≤ R.cells) (hRslots : slots + 6 ≤ R.slots) (hlocks : meth.locks = false)
    (hx : ∀ t : State, s.vm.Alike t.vm → H.size ≤ t.heap.size → (∀ q : Nat, q < H.size → t.heap[q]? = H[q]?) → XC cls s t)
    (hf : ∀ z ∈ locs, free z.base) (hc : cells + 1 ≤ mc) (hs : slots + 6 ≤ ms) :
    W p l e R s m args below meth c H locs cells slots (vx_MQ below Qc XC args s mc ms free) (F0 m pc ls rest) := by
  intro T hT X
  have htr : e.platform.stackTraces = false := (show e.platform.stackTraces = l.stackTraces by rw [X.admits.platform]).trans hl
  have Y := vx_rebase X (R' := { frames := R.frames, locals := R.locals, cells := 1, slots := 6 }) (Nat.le_refl _) (Nat.le_refl _) hRcells hRslots
  obtain ⟨s', hA⟩ : ∃ z, z = (T.setVm s.vm).setFrames (.invoking m args :: below) := ⟨_, rfl⟩
  rw [← hA] at Y
  have hvm : s'.vm = s.vm := by rw [hA]; rfl
  have hhp : s'.heap = H := by rw [hA]; exact hT
  have hW0 : s.WarmedH s'.vm := by rw [hvm]; exact State.WarmedH.refl s
  have hat' : ∀ w ∈ vx_at0 own ic cls names, w.before args s' = true := fun w hw => vx_ot_at hW0 hvm.symm (hgood w (List.mem_cons_of_mem _ (List.mem_cons_of_mem _ hw))) (hat w hw)
  have hk' : (Cond.classLink own ik cls).before args s' = true := vx_ot_at hW0 hvm.symm (hgood _ List.mem_cons_self) hk
  have hini' : (Cond.initialized cls).before args s' = true := vx_ot_at hW0 hvm.symm (hgood _ (List.mem_cons_of_mem _ List.mem_cons_self)) hini
  have hU' : vx_Zq Bundle.tN "UNASSIGNED_STACK" Bundle.steD A s' s'.heap := by rw [hhp]; exact vx_Zq.moved hW0.alike (hU.kept hS.2.1)
  have hN' : vx_Zq Bundle.tN "SUPPRESSED_SENTINEL" Bundle.listD A s' s'.heap := by rw [hhp]; exact vx_Zq.moved hW0.alike (hN.kept hS.2.1)
  have h : ∀ w ∈ Bundle.ownAtoms0 own ic cls names, w.before args s' = true := vx_own hat' (vx_isRefq hU'.1) (vx_isRefq hN'.1) hU'.2.word hN'.2.word
  have hown' : s'.vm.findClass own = some m.cls := by rw [hvm]; exact hown
  have hins : (Cond.instantiable cls 6).before args s' = true := h _ (by simp [Bundle.ownAtoms0])
  obtain ⟨vm₁, cX, kX, hfX, hkX, -, -, X₁, st1⟩ := Y.newCold hexec (own := own) (C := cls) (index := ik) (n := 6) hown' hk' hins hini'
    (g := F0 m pc ls rest) rfl (by rw [hb]; exact d0) (Nat.le_refl _) (Nat.le_refl _)
  generalize hT1 : (T.setVm vm₁).pushCell { cls := cX, slots := kX.instanceTypes.map defaultValue, vm := .none } = T1 at X₁ st1
  have hcat : (Value.ref T.heap.size).category = 1 := rfl
  have hcellA : T1.heap[T.heap.size]? = some (freshCell cX kX) := by rw [← hT1]; exact State.heap_pushCell_size _ _
  have d3' : decode c.code (pc + 3) = .ok (.dup, 1) := by rw [hb]; exact d3
  obtain ⟨U, hsteps, hrun, hend, hW, hsame, ce, hce, hO⟩ := X₁.ctorThrow0 hexec htr (own := own) (cls := cls) (names := names) (ic := ic) hown' hcls hnames h (fun x hx => nomatch hx) hfX hkX hcellA (by rw [hhp, hT]; exact Nat.le_refl _)
    (g := { method := m, pc := pc + 4, locals := ls, stack := .ref T.heap.size :: .ref T.heap.size :: rest, locked := none }) rfl hsize rfl rfl (rest := rest) rfl
    (by rw [hb]; exact d4) (by rw [hb]; exact d7) hout hRframes (by simp only [List.map_cons, List.sum_cons, hcat]; omega) hlocks
  obtain ⟨f1, f2⟩ := vx_frame hsame
  rw [hhp] at f1 f2
  have hWs : s.WarmedH U.vm := State.WarmedH.trans hW0 hW
  have hcl : s.vm.findClass cls = some ce.cls := by
    have h9 := hO.cls
    rw [hvm] at h9
    exact h9
  have hall : s.sameButNew ({ U with vm := s.vm } : State) locs mc ms := by
    subst hA
    obtain ⟨e1, e2⟩ := hsame
    rw [State.setFrames_setFrames] at e1
    have h2 : (T.setVm s.vm).sameButNew ({ U with vm := s.vm } : State) [] (0 + 1) (0 + 6) := ⟨e1, e2⟩
    have h3 := X.same.trans h2
    rw [List.append_nil] at h3
    exact h3.mono hc hs
  refine ⟨U, ?_, .threw T.heap.size, hrun, hend, Or.inr ⟨T.heap.size, rfl, cls, ce, locs, hx U hWs.alike f1 (fun q hq => f2 q hq (fun z hz => nomatch hz)), hce, hO.vm, hcl, hWs, hall, hf⟩⟩
  refine st1 _ ?_
  show Steps p.tables e below (T1.setTop { method := m, pc := pc + 3, locals := ls, stack := .ref T.heap.size :: rest, locked := none }) _
  jvm_step X₁.here [X₁.here.top, hexec, d3', Value.category]
  exact hsteps
/-- 'throw new E("text")': new; dup; ldc; invokespecial; athrow -/
theorem vx_throwS {cc : ByteArray} {pc : Nat} (hexec : p.tables.exec = Jvm.exec) (hb : c.code = cc) (hl : l.stackTraces = false) {own cls text : String} {names : List String} {ik is ic mc ms sa : Nat} {A : Nat → Prop}
    (hown : s.vm.findClass own = some m.cls) (hcls : Bundle.fit cls = true) (hnames : ∀ n ∈ names, Bundle.fit n = true)
    (hk : (Cond.classLink own ik cls).before args s = true) (hini : (Cond.initialized cls).before args s = true) (hstr : vk_R own is text sa s) (hat : ∀ w ∈ vx_atS own ic cls names, w.before args s = true)
    (hgood : ∀ w ∈ Cond.classLink own ik cls :: Cond.initialized cls :: vx_atS own ic cls names, vx_ot w = true)
    (hU : vx_Zq Bundle.tN "UNASSIGNED_STACK" Bundle.steD A s s.heap) (hN : vx_Zq Bundle.tN "SUPPRESSED_SENTINEL" Bundle.listD A s s.heap) (hS : va_S A s.heap H locs) (hsize : ls.size = c.maxLocals)
    (d0 : decode cc pc = .ok (.new ik, 3)) (d3 : decode cc (pc + 3) = .ok (.dup, 1)) (d4 : decode cc (pc + 4) = .ok (.ldc is, 2)) (d6 : decode cc (pc + 6) = .ok (.invokespecial ic, 3)) (d9 : decode cc (pc + 9) = .ok (.athrow, 1))
    (hout : ∀ x ∈ c.exceptionTable.toList, covers x (pc + 9) = false)
    (hRframes : names.length + 3 < R.frames) (hRlocals : (rest.map fun v => v.category).sum + (13 * (names.length + 1) + 43) ≤ R.locals) (hRcells : cells + 1 ≤ R.cells) (hRslots : slots + 6 ≤ R.slots) (hlocks : meth.locks = false)
    (hx : ∀ t : State, s.vm.Alike t.vm → H.size ≤ t.heap.size → (∀ q : Nat, q < H.size → t.heap[q]? = H[q]?) → XC cls s t)
    (hf : ∀ z ∈ locs, free z.base) (hc : cells + 1 ≤ mc) (hs : slots + 6 ≤ ms) :
    W p l e R s m args below meth c H locs cells slots (vx_MQ below Qc XC args s mc ms free) (F0 m pc ls rest) := by
  intro T hT X
  have htr : e.platform.stackTraces = false := (show e.platform.stackTraces = l.stackTraces by rw [X.admits.platform]).trans hl
  have Y := vx_rebase X (R' := { frames := R.frames, locals := R.locals, cells := 1, slots := 6 }) (Nat.le_refl _) (Nat.le_refl _) hRcells hRslots
  obtain ⟨s', hA⟩ : ∃ z, z = (T.setVm s.vm).setFrames (.invoking m args :: below) := ⟨_, rfl⟩
  rw [← hA] at Y
  have hvm : s'.vm = s.vm := by rw [hA]; rfl
  have hhp : s'.heap = H := by rw [hA]; exact hT
  have hW0 : s.WarmedH s'.vm := by rw [hvm]; exact State.WarmedH.refl s
  have hat' : ∀ w ∈ vx_atS own ic cls names, w.before args s' = true := fun w hw => vx_ot_at hW0 hvm.symm (hgood w (List.mem_cons_of_mem _ (List.mem_cons_of_mem _ hw))) (hat w hw)
  have hk' : (Cond.classLink own ik cls).before args s' = true := vx_ot_at hW0 hvm.symm (hgood _ List.mem_cons_self) hk
  have hini' : (Cond.initialized cls).before args s' = true := vx_ot_at hW0 hvm.symm (hgood _ (List.mem_cons_of_mem _ List.mem_cons_self)) hini
  have hU' : vx_Zq Bundle.tN "UNASSIGNED_STACK" Bundle.steD A s' s'.heap := by rw [hhp]; exact vx_Zq.moved hW0.alike (hU.kept hS.2.1)
  have hN' : vx_Zq Bundle.tN "SUPPRESSED_SENTINEL" Bundle.listD A s' s'.heap := by rw [hhp]; exact vx_Zq.moved hW0.alike (hN.kept hS.2.1)
  have h : ∀ w ∈ Bundle.ownAtoms own ic cls names, w.before args s' = true := vx_own hat' (vx_isRefq hU'.1) (vx_isRefq hN'.1) hU'.2.word hN'.2.word
  have hown' : s'.vm.findClass own = some m.cls := by rw [hvm]; exact hown
  have hins : (Cond.instantiable cls 6).before args s' = true := h _ (by simp [Bundle.ownAtoms])
  obtain ⟨vm₁, cX, kX, hfX, hkX, -, -, X₁, st1⟩ := Y.newCold hexec (own := own) (C := cls) (index := ik) (n := 6) hown' hk' hins hini'
    (g := F0 m pc ls rest) rfl (by rw [hb]; exact d0) (Nat.le_refl _) (Nat.le_refl _)
  generalize hT1 : (T.setVm vm₁).pushCell { cls := cX, slots := kX.instanceTypes.map defaultValue, vm := .none } = T1 at X₁ st1
  have hcat : (Value.ref T.heap.size).category = 1 := rfl
  have hcellA : T1.heap[T.heap.size]? = some (freshCell cX kX) := by rw [← hT1]; exact State.heap_pushCell_size _ _
  have d3' : decode c.code (pc + 3) = .ok (.dup, 1) := by rw [hb]; exact d3
  have d4' : decode c.code (pc + 4) = .ok (.ldc is, 2) := by rw [hb]; exact d4
  have hstr' : vk_R own is text sa s' := vk_R.warm hW0 hstr
  obtain ⟨U, hsteps, hrun, hend, hW, hsame, ce, hce, hO⟩ := X₁.ctorThrowS hexec htr (own := own) (cls := cls) (names := names) (ic := ic) hown' hcls hnames h (fun x hx => nomatch hx) hfX hkX hcellA (by rw [hhp, hT]; exact Nat.le_refl _) (msg := .ref sa) rfl
    (g := { method := m, pc := pc + 6, locals := ls, stack := .ref sa :: .ref T.heap.size :: .ref T.heap.size :: rest, locked := none }) rfl hsize rfl rfl (rest := rest) rfl
    (by rw [hb]; exact d6) (by rw [hb]; exact d9) hout hRframes (by simp only [List.map_cons, List.sum_cons, hcat]; omega) hlocks
  obtain ⟨f1, f2⟩ := vx_frame hsame
  rw [hhp] at f1 f2
  have hWs : s.WarmedH U.vm := State.WarmedH.trans hW0 hW
  have hcl : s.vm.findClass cls = some ce.cls := by
    have h9 := hO.cls
    rw [hvm] at h9
    exact h9
  have hall : s.sameButNew ({ U with vm := s.vm } : State) locs mc ms := by
    subst hA
    obtain ⟨e1, e2⟩ := hsame
    rw [State.setFrames_setFrames] at e1
    have h2 : (T.setVm s.vm).sameButNew ({ U with vm := s.vm } : State) [] (0 + 1) (0 + 6) := ⟨e1, e2⟩
    have h3 := X.same.trans h2
    rw [List.append_nil] at h3
    exact h3.mono hc hs
  refine ⟨U, ?_, .threw T.heap.size, hrun, hend, Or.inr ⟨T.heap.size, rfl, cls, ce, locs, hx U hWs.alike f1 (fun q hq => f2 q hq (fun z hz => nomatch hz)), hce, hO.vm, hcl, hWs, hall, hf⟩⟩
  refine st1 _ ?_
  show Steps p.tables e below (T1.setTop { method := m, pc := pc + 3, locals := ls, stack := .ref T.heap.size :: rest, locked := none }) _
  jvm_step X₁.here [X₁.here.top, hexec, d3', Value.category]
  exact X₁.ldcString hexec (own := own) (text := text) (index := is) (a := sa) hown' hstr'.1 hstr'.2
    (g := { method := m, pc := pc + 4, locals := ls, stack := .ref T.heap.size :: .ref T.heap.size :: rest, locked := none }) rfl d4' _ hsteps
/-- 'throw new E("text")', the text by a wide index -/
theorem vx_throwSW {cc : ByteArray} {pc : Nat} (hexec : p.tables.exec = Jvm.exec) (hb : c.code = cc) (hl : l.stackTraces = false) {own cls text : String} {names : List String} {ik is ic mc ms sa : Nat} {A : Nat → Prop}
    (hown : s.vm.findClass own = some m.cls) (hcls : Bundle.fit cls = true) (hnames : ∀ n ∈ names, Bundle.fit n = true)
    (hk : (Cond.classLink own ik cls).before args s = true) (hini : (Cond.initialized cls).before args s = true) (hstr : vk_R own is text sa s) (hat : ∀ w ∈ vx_atS own ic cls names, w.before args s = true)
    (hgood : ∀ w ∈ Cond.classLink own ik cls :: Cond.initialized cls :: vx_atS own ic cls names, vx_ot w = true)
    (hU : vx_Zq Bundle.tN "UNASSIGNED_STACK" Bundle.steD A s s.heap) (hN : vx_Zq Bundle.tN "SUPPRESSED_SENTINEL" Bundle.listD A s s.heap) (hS : va_S A s.heap H locs) (hsize : ls.size = c.maxLocals)
    (d0 : decode cc pc = .ok (.new ik, 3)) (d3 : decode cc (pc + 3) = .ok (.dup, 1)) (d4 : decode cc (pc + 4) = .ok (.ldc_w is, 3)) (d7 : decode cc (pc + 7) = .ok (.invokespecial ic, 3)) (d10 : decode cc (pc + 10) = .ok (.athrow, 1))
    (hout : ∀ x ∈ c.exceptionTable.toList, covers x (pc + 10) = false)
    (hRframes : names.length + 3 < R.frames) (hRlocals : (rest.map fun v => v.category).sum + (13 * (names.length + 1) + 43) ≤ R.locals) (hRcells : cells + 1 ≤ R.cells) (hRslots : slots + 6 ≤ R.slots) (hlocks : meth.locks = false)
    (hx : ∀ t : State, s.vm.Alike t.vm → H.size ≤ t.heap.size → (∀ q : Nat, q < H.size → t.heap[q]? = H[q]?) → XC cls s t)
    (hf : ∀ z ∈ locs, free z.base) (hc : cells + 1 ≤ mc) (hs : slots + 6 ≤ ms) :
    W p l e R s m args below meth c H locs cells slots (vx_MQ below Qc XC args s mc ms free) (F0 m pc ls rest) := by
  intro T hT X
  have htr : e.platform.stackTraces = false := (show e.platform.stackTraces = l.stackTraces by rw [X.admits.platform]).trans hl
  have Y := vx_rebase X (R' := { frames := R.frames, locals := R.locals, cells := 1, slots := 6 }) (Nat.le_refl _) (Nat.le_refl _) hRcells hRslots
  obtain ⟨s', hA⟩ : ∃ z, z = (T.setVm s.vm).setFrames (.invoking m args :: below) := ⟨_, rfl⟩
  rw [← hA] at Y
  have hvm : s'.vm = s.vm := by rw [hA]; rfl
  have hhp : s'.heap = H := by rw [hA]; exact hT
  have hW0 : s.WarmedH s'.vm := by rw [hvm]; exact State.WarmedH.refl s
  have hat' : ∀ w ∈ vx_atS own ic cls names, w.before args s' = true := fun w hw => vx_ot_at hW0 hvm.symm (hgood w (List.mem_cons_of_mem _ (List.mem_cons_of_mem _ hw))) (hat w hw)
  have hk' : (Cond.classLink own ik cls).before args s' = true := vx_ot_at hW0 hvm.symm (hgood _ List.mem_cons_self) hk
  have hini' : (Cond.initialized cls).before args s' = true := vx_ot_at hW0 hvm.symm (hgood _ (List.mem_cons_of_mem _ List.mem_cons_self)) hini
  have hU' : vx_Zq Bundle.tN "UNASSIGNED_STACK" Bundle.steD A s' s'.heap := by rw [hhp]; exact vx_Zq.moved hW0.alike (hU.kept hS.2.1)
  have hN' : vx_Zq Bundle.tN "SUPPRESSED_SENTINEL" Bundle.listD A s' s'.heap := by rw [hhp]; exact vx_Zq.moved hW0.alike (hN.kept hS.2.1)
  have h : ∀ w ∈ Bundle.ownAtoms own ic cls names, w.before args s' = true := vx_own hat' (vx_isRefq hU'.1) (vx_isRefq hN'.1) hU'.2.word hN'.2.word
  have hown' : s'.vm.findClass own = some m.cls := by rw [hvm]; exact hown
  have hins : (Cond.instantiable cls 6).before args s' = true := h _ (by simp [Bundle.ownAtoms])
  obtain ⟨vm₁, cX, kX, hfX, hkX, -, -, X₁, st1⟩ := Y.newCold hexec (own := own) (C := cls) (index := ik) (n := 6) hown' hk' hins hini'
    (g := F0 m pc ls rest) rfl (by rw [hb]; exact d0) (Nat.le_refl _) (Nat.le_refl _)
  generalize hT1 : (T.setVm vm₁).pushCell { cls := cX, slots := kX.instanceTypes.map defaultValue, vm := .none } = T1 at X₁ st1
  have hcat : (Value.ref T.heap.size).category = 1 := rfl
  have hcellA : T1.heap[T.heap.size]? = some (freshCell cX kX) := by rw [← hT1]; exact State.heap_pushCell_size _ _
  have d3' : decode c.code (pc + 3) = .ok (.dup, 1) := by rw [hb]; exact d3
  have d4' : decode c.code (pc + 4) = .ok (.ldc_w is, 3) := by rw [hb]; exact d4
  have hstr' : vk_R own is text sa s' := vk_R.warm hW0 hstr
  obtain ⟨U, hsteps, hrun, hend, hW, hsame, ce, hce, hO⟩ := X₁.ctorThrowS hexec htr (own := own) (cls := cls) (names := names) (ic := ic) hown' hcls hnames h (fun x hx => nomatch hx) hfX hkX hcellA (by rw [hhp, hT]; exact Nat.le_refl _) (msg := .ref sa) rfl
    (g := { method := m, pc := pc + 7, locals := ls, stack := .ref sa :: .ref T.heap.size :: .ref T.heap.size :: rest, locked := none }) rfl hsize rfl rfl (rest := rest) rfl
    (by rw [hb]; exact d7) (by rw [hb]; exact d10) hout hRframes (by simp only [List.map_cons, List.sum_cons, hcat]; omega) hlocks
  obtain ⟨f1, f2⟩ := vx_frame hsame
  rw [hhp] at f1 f2
  have hWs : s.WarmedH U.vm := State.WarmedH.trans hW0 hW
  have hcl : s.vm.findClass cls = some ce.cls := by
    have h9 := hO.cls
    rw [hvm] at h9
    exact h9
  have hall : s.sameButNew ({ U with vm := s.vm } : State) locs mc ms := by
    subst hA
    obtain ⟨e1, e2⟩ := hsame
    rw [State.setFrames_setFrames] at e1
    have h2 : (T.setVm s.vm).sameButNew ({ U with vm := s.vm } : State) [] (0 + 1) (0 + 6) := ⟨e1, e2⟩
    have h3 := X.same.trans h2
    rw [List.append_nil] at h3
    exact h3.mono hc hs
  refine ⟨U, ?_, .threw T.heap.size, hrun, hend, Or.inr ⟨T.heap.size, rfl, cls, ce, locs, hx U hWs.alike f1 (fun q hq => f2 q hq (fun z hz => nomatch hz)), hce, hO.vm, hcl, hWs, hall, hf⟩⟩
  refine st1 _ ?_
  show Steps p.tables e below (T1.setTop { method := m, pc := pc + 3, locals := ls, stack := .ref T.heap.size :: rest, locked := none }) _
  jvm_step X₁.here [X₁.here.top, hexec, d3', Value.category]
  exact X₁.ldcStringW hexec (own := own) (text := text) (index := is) (a := sa) hown' hstr'.1 hstr'.2
    (g := { method := m, pc := pc + 4, locals := ls, stack := .ref T.heap.size :: .ref T.heap.size :: rest, locked := none }) rfl d4' _ hsteps
end Ends
section Bodies
variable {l : Launch}
theorem vx_ofW {y : MethodName} {ws ws' : List Cond} {rm : Room} {Pc : Array Value → State → Prop} {Qc : Array Value → State → Outcome → State → Prop} {XC : String → State → State → Prop} {mc ms : Nat} {free : Addr → Prop} {cc : ByteArray} {maxL : Nat} {ret : Option FieldType}
    (hy : plainName y.cls = true) (hw : ws = Cond.code y cc maxL ret :: ws')
    (body : ∀ p e s m args below meth c s₁, BodyLoose p l y (headSpec ws rm) cc maxL ret e s m args below meth c s₁ → c.maxLocals = maxL → (∀ x ∈ c.exceptionTable.toList, False) → Pc args s →
      W p l e (headSpec ws rm).room s m args below meth c s.heap [] 0 0 (vx_MQ below Qc XC args s mc ms free) (entryFrame m args maxL)) : vx_Met l y ws rm Pc Qc XC mc ms free := by
  refine MetFree.of_bodyS (code := cc) (maxLocals := maxL) (ret := ret) hy ?_ ?_
  · intro args s m h hn
    obtain ⟨meth, c, h1, h2, h3, h4, h5, h6, -, -⟩ := Cond.code_spec hn (atoms_spec (ws := ws) h _ (by rw [hw]; exact List.mem_cons_self))
    exact ⟨meth, c, h1, h2, h3, h4, h5, h6⟩
  · intro p e s m args below meth c s₁ B hml hP _
    have hh0 : s₁.heap = s.heap := by rw [B.state]; rfl
    have ht : ∀ x ∈ c.exceptionTable.toList, False := by
      obtain ⟨meth9, c9, h1, h2, -, -, -, -, h7, -⟩ := Cond.code_spec B.named (atoms_spec (ws := ws) B.pre _ (by rw [hw]; exact List.mem_cons_self))
      cases Option.some.inj (h1.symm.trans B.method)
      cases Option.some.inj (h2.symm.trans (Stand.of_body B).code)
      intro x hx
      rw [Array.isEmpty_iff.mp h7] at hx
      cases hx
    obtain ⟨t, a1, o, b1, b2, b3⟩ := body p e s m args below meth c s₁ B hml ht hP s₁ hh0 (Stand.of_body B)
    exact ⟨t, o, a1, b1, b2, b3⟩
/-- the table of a body with handlers -/
theorem vx_table {p : Program} {x y : MethodName} {S : Spec} {cc bytes : ByteArray} {maxL maxL' : Nat} {ret ret' : Option FieldType} {e : Env} {s s₁ : State} {m : MethodId} {args : Array Value} {below : List Frame} {meth : Method} {c : Code} {hh : List (Nat × Nat × Nat × Nat)}
    (B : BodyLoose p l y S cc maxL ret e s m args below meth c s₁) (h : (Cond.codeWith y bytes maxL' ret' hh).before args s = true) : c.exceptionTable.toList = tableOf hh := by
  obtain ⟨m9, meth9, c9, hn9, h1, h2, -, -, h6, -⟩ := Cond.codeWith_spec h
  cases Option.some.inj (hn9.symm.trans B.named)
  cases Option.some.inj (h1.symm.trans B.method)
  cases Option.some.inj (h2.symm.trans (Stand.of_body B).code)
  rw [← h6, table_eq]
end Bodies
end VXA
/-! ===== END ===== -/
/-! ===== BEGIN a static call of a method with an exception table ===== -/
section VXS
variable {p : Program} {l : Launch} {e : Env} {R : Room} {s : State} {m : MethodId} {args : Array Value} {below : List Frame} {meth : Method} {c : Code} {T : State} {H : Heap} {locs : List Loc} {cells slots : Nat}
abbrev vx_CSW (R : Room) (s : State) (args : Array Value) (own : String) (index : Nat) (y : MethodName) (bytes : ByteArray) (maxL : Nat) (ret : Option FieldType) (hh : List (Nat × Nat × Nat × Nat)) (ws : List Cond) (rm : Room) (mc ms n : Nat) : Prop :=
  (rm.cells = mc ∧ rm.slots = ms ∧ rm.frames + 1 ≤ R.frames ∧ 8 + (maxL + 11) + rm.locals ≤ R.locals ∧ (∀ w ∈ ws, ∀ (a' : Array Value) (U : State), s.WarmedH U.vm → w.before a' U = true) ∧ Cond.codeWith y bytes maxL ret hh ∈ ws) ∧
  (Cond.codeWith y bytes maxL ret hh).before args s = true ∧ (Cond.initialized y.cls).before args s = true ∧ (y.cls ≠ "java/lang/invoke/MethodHandle" ∧ y.cls ≠ "java/lang/invoke/VarHandle") ∧
  (∀ sig, parseMethodDescriptor y.desc = some sig → n = sig.parameters.length) ∧ (Cond.methodLink own index y).before args s = true ∧ (Cond.static y).before args s = true
theorem vx_cwSW {own : String} {index maxL mc ms : Nat} {y : MethodName} {bytes : ByteArray} {ret : Option FieldType} {hh : List (Nat × Nat × Nat × Nat)} {Ts ws ws' : List Cond} {rm : Room} (n : Nat) (ht : ∀ w ∈ Ts, w.before args s = true) (hT : GoodIn Ts (va_wsS own index y ws)) (hw : ws = Cond.codeWith y bytes maxL ret hh :: ws') (hrc : rm.cells = mc) (hrs : rm.slots = ms)
    (hd : y.cls ≠ "java/lang/invoke/MethodHandle" ∧ y.cls ≠ "java/lang/invoke/VarHandle" ∧ (parseMethodDescriptor y.desc).map (fun d => d.parameters.length) = some n) (hR : rm.frames + 1 ≤ R.frames ∧ 8 + (maxL + 11) + rm.locals ≤ R.locals) :
    vx_CSW R s args own index y bytes maxL ret hh ws rm mc ms n := by
  have ok : ∀ w ∈ va_wsS own index y ws, w.before args s = true := fun w h => ht w (hT w h).1
  have hG : GoodIn Ts ws := fun w h => hT w (by unfold va_wsS; exact List.mem_append_right _ h)
  have hc : Cond.codeWith y bytes maxL ret hh ∈ ws := by rw [hw]; exact List.mem_cons_self
  refine ⟨⟨hrc, hrs, hR.1, hR.2, pay_in ht hG, hc⟩, ht _ (hG _ hc).1, ok _ (by simp [va_wsS]), ⟨hd.1, hd.2.1⟩, fun sig h => ?_, ok _ (by simp [va_wsS]), ok _ (by simp [va_wsS])⟩
  have h2 := hd.2.2
  rw [h] at h2
  exact (Option.some.inj h2).symm
theorem vx_callSW (X : Stand p l e R s m args below meth c T locs cells slots) (hexec : p.tables.exec = Jvm.exec) {own : String} {index : Nat} {y : MethodName} {bytes : ByteArray} {maxL : Nat} {ret : Option FieldType} {hh : List (Nat × Nat × Nat × Nat)}
    (hown : s.vm.findClass own = some m.cls) (hlink : (Cond.methodLink own index y).before args s = true) (hstat : (Cond.static y).before args s = true) (hinit : (Cond.initialized y.cls).before args s = true)
    (hcode : (Cond.codeWith y bytes maxL ret hh).before args s = true) (hy : y.cls ≠ "java/lang/invoke/MethodHandle" ∧ y.cls ≠ "java/lang/invoke/VarHandle")
    {W9 : Nat} {Pre : Pt → Array Value → Prop} {Post : Pt → Array Value → Option Value → Pt → Prop} (hK : Back l R p e below s args y 3 W9 Pre Post)
    {g : JFrame} (hg : g.method = m) (hsize : g.locals.size = c.maxLocals) {argsL rest : List Value} (hlen : ∀ sig, parseMethodDescriptor y.desc = some sig → argsL.length = sig.parameters.length)
    (hstack : g.stack = argsL.reverse ++ rest) (hW : 2 * g.monitorRoom + (rest.map fun v => v.category).sum ≤ W9) (hdg : decode c.code g.pc = .ok (.invokestatic index, 3))
    (hpre : ∀ vm₁, s.WarmedH vm₁ → Pre ⟨T.setVm vm₁, locs, cells, slots⟩ argsL.toArray) :
    ∃ (v : Option Value) (vm₁ : Vm) (B : Pt), s.WarmedH vm₁ ∧ Stand p l e R s m args below meth c B.U B.locs B.cells B.slots ∧ Post ⟨T.setVm vm₁, locs, cells, slots⟩ argsL.toArray v B ∧
      ∀ target, Steps p.tables e below (B.U.setTop { g with pc := g.pc + 3, stack := v.toList ++ rest }) target → Steps p.tables e below (T.setTop g) target := by
  obtain ⟨mk, methM, cM, hnamed, hmethM, -, -, -, -, -, -, hsigM⟩ := Cond.codeWith_spec hcode
  have hstatic : methM.isStatic = true := Cond.static_spec hnamed hmethM hstat
  obtain ⟨kP, hkP, -⟩ := className_of_methodNamed hnamed
  have hinitP : kP.init = .initialized := Cond.initialized_spec (findClass_of_methodNamed hnamed) hkP hinit
  obtain ⟨vm₁, X₁, hstep₁⟩ := X.invokestatic hexec hown hlink hnamed hmethM hstatic hkP hinitP hy (g := g) hg (argsL := argsL) (rest := rest) (hlen _ hsigM) hstack hdg
  obtain ⟨v, B, X', hpost, hsteps⟩ := hK m meth c ⟨T.setVm vm₁, locs, cells, slots⟩ { g with stack := rest } (.invokestatic index) mk argsL.toArray X₁ hg hsize hdg hW (X₁.named hnamed) (hpre vm₁ X₁.warmed)
  exact ⟨v, vm₁, B, X₁.warmed, X', hpost, fun target h => hstep₁ _ fun acts => by rw [doInvoke_state]; exact hsteps.trans h⟩
theorem vx_runSW {y : MethodName} {bytes cc : ByteArray} {maxL nL mc ms n index : Nat} {ret : Option FieldType} {hh : List (Nat × Nat × Nat × Nat)} {ws : List Cond} {rm : Room} {Pc : Array Value → State → Prop} {Qc : Array Value → State → Outcome → State → Prop} {free : Addr → Prop} {Ts : List Cond} {own : String} {As rest : List Value} {g : JFrame}
    (S : CallFix p m c cc nL s args Ts own) (hM : Met l y ws rm Pc Qc mc ms free) (cw : vx_CSW R s args own index y bytes maxL ret hh ws rm mc ms n) (hp : PreS s H Pc As)
    (hg : g.method = m) (hn : As.length = n) (hsize : g.locals.size = nL) (hstack : g.stack = As.reverse ++ rest) (hW : 2 * g.monitorRoom + (rest.map fun v => v.category).sum ≤ 8) (hdg : decode cc g.pc = .ok (.invokestatic index, 3)) (hf : cells + mc ≤ R.cells ∧ slots + ms ≤ R.slots) :
    va_Run p l e R s m args below meth c H locs cells slots mc ms g rest (Qc As.toArray) (free) := by
  obtain ⟨⟨hrc, hrs, hfr, hlo, hws, hcw⟩, hcode, hini, hy, hlen, hl, hstt⟩ := cw
  have hK : Back l R p e below s args y 3 8 (PreOf R mc ms Pc) (PostOf Qc mc ms free) := va_backW (hh := hh) (bytes := bytes) (maxL := maxL) (ret := ret) hM hp.1 hrc hrs hfr hlo hws hcw (fun a' U hW => word_at hW (Or.inl (by first | rfl | simp [Cond.onTables, Cond.keeps, Cond.steady])) hini)
  obtain ⟨hx, hb, hml, ho, -⟩ := S
  intro T hT X
  obtain ⟨v, vm₁, ⟨U', l2, c2, s2⟩, hW₁, X', ⟨g', mk, t, L, e1, e2, hq, h1, hL, h2, h3⟩, st⟩ := vx_callSW X hx (hh := hh) (bytes := bytes) (maxL := maxL) (ret := ret) ho hl hstt hini hcode hy hK hg (hsize.trans hml.symm) (argsL := As) (rest := rest) (fun sig h => hn.trans (hlen sig h)) hstack hW (by rw [hb]; exact hdg)
    (fun vm₁ hW₁ => ⟨hf.1, hf.2, hp.2 (T.setVm vm₁) hT hW₁⟩)
  dsimp only [Pt.U, Pt.locs, Pt.cells, Pt.slots] at X' e1 e2 h1 h2 h3 st
  subst h1; subst h2; subst h3
  exact ⟨v, (T.setVm vm₁).calling g' mk As.toArray, t, U', L, hT, X', hL, e1, e2, hq, st⟩
/-- not caught here, past rows that name other classes: it goes on to the caller -/
theorem vx_outP {p : Program} {l : Launch} {e : Env} {R : Room} {s : State} {m : MethodId} {args : Array Value} {below : List Frame} {meth : Method} {c : Code} {H : Heap} {locs : List Loc} {cells slots : Nat} {free : Addr → Prop} {ls : Array Slot} {rest : List Value} {Qc : Array Value → State → Outcome → State → Prop} {XC : String → State → State → Prop}
    {pc : Nat} {own E : String} {ce : Cell} {q : Addr} {mc ms : Nat} (hown : s.vm.findClass own = some m.cls) (hlocks : meth.locks = false)
    (hpass : ∀ z ∈ c.exceptionTable.toList, covers z pc = false ∨ (z.catchType ≠ 0 ∧ ∃ nm : String, (Cond.classLink own z.catchType nm).before args s = true ∧ va_Nc E nm s)) (hcell : H[q]? = some ce) (hv : ce.vm = .none) (hcl : s.vm.findClass E = some ce.cls)
    (hx : ∀ t : State, t.heap = H → s.vm.Alike t.vm → XC E s t) (hf : ∀ z ∈ locs, free z.base) (hc : cells ≤ mc) (hs : slots ≤ ms) :
    vx_W p l e R s m args below meth c H locs cells slots (vx_MQ below Qc XC args s mc ms free) (F0 m pc ls rest) q := by
  intro T hT X
  have hpl : e.platform.magicAccessors = ({} : Platform).magicAccessors := by rw [X.admits.platform]
  obtain ⟨vm', hW', X', st⟩ := X.outThrough hlocks q (g := F0 m pc ls rest) rfl rfl rfl (cell := ce) (by rw [hT]; exact hcell) (by rw [hv]; rfl)
    (by obtain ⟨k9, h9, -⟩ := Vm.findClass_spec hcl; exact ⟨k9, h9⟩) (fun z hz => by
      rcases hpass z hz with h | ⟨hz0, nm, hl1, hn1⟩
      · exact Or.inl h
      · obtain ⟨c6, hc6, hcl6⟩ := Cond.classLink_spec hown hl1 e.platform hpl
        obtain ⟨a8, b8, h1, h2, h3⟩ := hn1
        cases Option.some.inj (h1.symm.trans hcl)
        cases Option.some.inj (h2.symm.trans hc6)
        exact Or.inr ⟨hz0, _, hcl6, h3⟩)
  obtain ⟨g₀, hfr⟩ := X'.frames_eq
  have hcell9 : ((T.setVm vm').setFrames (.throwing q :: below)).heap[q]? = some ce := by
    show T.heap[q]? = some ce
    rw [hT]; exact hcell
  have hend : Ended ((T.setVm vm').setFrames (.throwing q :: below)) below (.threw q) := State.frames_setFrames _ (State.cur_lt_of_frames hfr)
  refine ⟨(T.setVm vm').setFrames (.throwing q :: below), ?_, .threw q, X'.here.running, hend, Or.inr ⟨q, rfl, E, ce, locs, hx _ hT (X'.ends _).1.alike, hcell9, hv, hcl, (X'.ends _).1, (X'.ends _).2.mono hc hs, hf⟩⟩
  rw [X.pushThrowing_eq]
  exact st
/-- a thing of a world lies in the heap -/
theorem vx_lt {D : va_G} {cl : List vw_C} {ws : va_W} {H1 : Heap} (h : va_P D cl ws H1) {k : Nat} {q : Nat × va_E} (hk : ws[k]? = some q) : q.1 < H1.size := (h k q hk).lt
end VXS
/-! ===== END ===== -/
/-! ===== BEGIN methods with a table of their own: called by a name, returning or throwing ===== -/
section VXH
/-! vx_backW, vx_callVX, vx_callSX, vx_callVW, vx_runVW, vx_runVX, vx_runSX, vx_ofWH follow the same proofs as their sisters above (Free/Laws.lean, Shelf42/LK1.lean); vx_outP calls Shelf42/NT130.lean (outThrough). -/
section
variable {l : Launch} {R : Room} {p : Program} {e : Env} {below : List Frame} {s : State} {sargs : Array Value} {y : MethodName} {len W9 : Nat}
theorem vx_backW {ws : List Cond} {rm : Room} {Pc : Array Value → State → Prop} {Qc : Array Value → State → Outcome → State → Prop} {XC : String → State → State → Prop} {mc ms : Nat} {free : Addr → Prop} {bytes : ByteArray} {maxL : Nat} {ret : Option FieldType} {hh : List (Nat × Nat × Nat × Nat)}
    (hM : vx_Met l y ws rm Pc Qc XC mc ms free) (hblind : FrameBlind Pc) (hrc : rm.cells = mc) (hrs : rm.slots = ms)
    (hframes : rm.frames + 1 ≤ R.frames) (hlocals : W9 + (maxL + 11) + rm.locals ≤ R.locals)
    (hws : ∀ w ∈ ws, ∀ a' U, s.WarmedH U.vm → w.before a' U = true) (hcode : Cond.codeWith y bytes maxL ret hh ∈ ws) (hinit : ∀ a' U, s.WarmedH U.vm → (Cond.initialized y.cls).before a' U = true) :
    vx_Back l R p e below s sargs y len W9 (PreOf R mc ms Pc) (PostOf Qc mc ms free) (vx_Post XC mc ms free) := by
  intro m meth c A g ig mk a X hg hsize hdg hW hn hp
  have h1 : (headSpec ws rm).pre.before a A.U = true := atoms_intro fun w hw => hws w hw _ _ X.warmed
  have h2 : (Cond.codeWith y bytes maxL ret hh).before a A.U = true := hws _ hcode _ _ X.warmed
  have h3 : (Cond.initialized y.cls).before a A.U = true := hinit _ _ X.warmed
  have h4 : A.cells + (headSpec ws rm).room.cells ≤ R.cells := by rw [show (headSpec ws rm).room.cells = mc from hrc]; exact hp.1
  have h5 : A.slots + (headSpec ws rm).room.slots ≤ R.slots := by rw [show (headSpec ws rm).room.slots = ms from hrs]; exact hp.2.1
  have hPc : Pc a (A.U.calling g mk a) := hblind _ _ _ _ hp.2.2
  obtain ⟨U, Ls, c0, s0⟩ := A
  dsimp only [Pt.U, Pt.locs, Pt.cells, Pt.slots] at h1 h2 h3 h4 h5 X hn hPc ⊢
  obtain ⟨m9, methY, cY, hn9, hmY, hcY, -, hlY, -⟩ := Cond.codeWith_spec h2
  cases Option.some.inj (hn9.symm.trans hn)
  obtain ⟨kY, hkY, -⟩ := className_of_methodNamed hn
  have hinitY : kY.init = .initialized := Cond.initialized_spec (findClass_of_methodNamed hn) hkY h3
  have h : At U g.method c below := by rw [hg]; exact X.here
  have hlocals9 : W9 + (maxL + 11) + (headSpec ws rm).room.locals ≤ R.locals := hlocals
  have happ : (headSpec ws rm).appliesLoose y e.platform (U.calling g mk a) = true :=
    Spec.appliesLoose_calling (g := g) h hdg hn hkY hinitY
      (X.room_calling (g := g) (R' := (headSpec ws rm).room) hsize hmY hcY hframes (by rw [hlY]; omega) h4 h5) h1
  obtain ⟨mid, hmid⟩ := h.above
  have hfr : (U.setTop g).frames = (.java g :: mid) ++ below := by rw [State.frames_setTop' g h.top, hmid]; rfl
  obtain ⟨o, s₂, hsteps, -, hend, hq⟩ := Steps.callFree hM p X.admits X.cas X.clock (acts := []) hfr happ hPc trivial
  have hq' : vx_Q Qc XC mc ms free a (U.calling g mk a) o s₂ := hq
  rw [State.frames_setTop' g h.top] at hend
  obtain ⟨g₀, hg0⟩ := Option.isSome_iff_exists.mp h.top
  obtain ⟨r, hr⟩ := State.topJava?_eq_some.mp hg0
  have hr' : (({ U with heap := s₂.heap, slotsUsed := s₂.slotsUsed } : State).setVm s₂.vm).frames = .java g₀ :: r := hr
  rcases hq' with ⟨hqc, L, hfe, hL⟩ | ⟨q, rfl, E, ce, L, hx, hce, hcv, hcl, hW₂, hsm, hL⟩
  · obtain ⟨⟨v, rfl⟩, hW₂, e2, q2, q3, q4, q5, q6⟩ := id hfe
    have e3 : s₂ = ({ (U.calling g mk a).setFrames s₂.frames with heap := s₂.heap, slotsUsed := s₂.slotsUsed } : State).setVm s₂.vm := by
      have : s₂ = ({ s₂ with vm := (U.calling g mk a).vm } : State).setVm s₂.vm := rfl
      rw [e2] at this
      exact this
    obtain ⟨c₂, i₂, len₂, hc₂, hd₂, hf₂⟩ := hend
    have hW' : U.WarmedH s₂.vm := hW₂
    have hcc : c₂ = c := by
      have h1 : s₂.code? g.method = U.code? g.method := by
        rw [State.code?_eq, State.code?_eq, hW'.alike.method?]
      exact Option.some.inj (hc₂.symm.trans (h1.trans h.code))
    subst hcc
    have hlen : len₂ = len := by rw [hdg] at hd₂; cases hd₂; rfl
    subst hlen
    have hs₂ : s₂ = (({ U with heap := s₂.heap, slotsUsed := s₂.slotsUsed } : State).setVm s₂.vm).setTop { g with pc := g.pc + len₂, stack := v.toList ++ g.stack } := by
      refine e3.trans ?_
      rw [hf₂, State.calling_eq h.top, State.setFrames_setFrames, State.setTop_of_frames _ hr', hr]
      rfl
    have hsame : U.sameButNew ({ U with heap := s₂.heap, slotsUsed := s₂.slotsUsed } : State) L mc ms := by
      refine ⟨?_, q2, q3, q4, q5, q6⟩
      obtain ⟨t, ht, -⟩ := State.frames_cons hr
      show ({ U with heap := s₂.heap, slotsUsed := s₂.slotsUsed } : State) = { U.setFrames U.frames with heap := s₂.heap, slotsUsed := s₂.slotsUsed }
      rw [State.setFrames_self ht]
    subst hg
    refine Or.inl ⟨v, ⟨(({ U with heap := s₂.heap, slotsUsed := s₂.slotsUsed } : State).setVm s₂.vm), Ls ++ L, c0 + mc, s0 + ms⟩,
      ⟨X.admits, X.cas, X.clock, X.frames, X.room, X.hears, X.method, X.code, (X.here.setHeapUsed s₂.heap s₂.slotsUsed).setVm hW'.alike, X.tail, State.WarmedH.trans X.warmed hW', X.limits, X.bytes, X.same.trans (hsame.setVm s.vm)⟩,
      ⟨g, mk, s₂, L, rfl, rfl, hqc, rfl, hL, rfl, rfl⟩, ?_⟩
    show Steps p.tables e below _ ((({ U with heap := s₂.heap, slotsUsed := s₂.slotsUsed } : State).setVm s₂.vm).setTop { g with pc := g.pc + len₂, stack := v.toList ++ g.stack })
    rw [← hs₂]
    exact hsteps
  · obtain ⟨e2, q2, q3, q4, q5, q6⟩ := id hsm
    have e3 : s₂ = ({ (U.calling g mk a).setFrames s₂.frames with heap := s₂.heap, slotsUsed := s₂.slotsUsed } : State).setVm s₂.vm := by
      have : s₂ = ({ s₂ with vm := (U.calling g mk a).vm } : State).setVm s₂.vm := rfl
      rw [e2] at this
      exact this
    have hf₂ : s₂.frames = .throwing q :: .java g :: U.frames.tail := hend
    have hW' : U.WarmedH s₂.vm := hW₂
    have hs₂ : s₂ = ((({ U with heap := s₂.heap, slotsUsed := s₂.slotsUsed } : State).setVm s₂.vm).setTop g).pushFrame (.throwing q) := by
      refine e3.trans ?_
      rw [hf₂, State.calling_eq h.top, State.setFrames_setFrames, State.pushFrame, State.frames_setTop _ hr', State.setTop_of_frames _ hr', State.setFrames_setFrames, hr]
      rfl
    have hsame : U.sameButNew ({ U with heap := s₂.heap, slotsUsed := s₂.slotsUsed } : State) L mc ms := by
      refine ⟨?_, q2, q3, q4, q5, q6⟩
      obtain ⟨t, ht, -⟩ := State.frames_cons hr
      show ({ U with heap := s₂.heap, slotsUsed := s₂.slotsUsed } : State) = { U.setFrames U.frames with heap := s₂.heap, slotsUsed := s₂.slotsUsed }
      rw [State.setFrames_self ht]
    subst hg
    refine Or.inr ⟨q, ⟨(({ U with heap := s₂.heap, slotsUsed := s₂.slotsUsed } : State).setVm s₂.vm), Ls ++ L, c0 + mc, s0 + ms⟩,
      ⟨X.admits, X.cas, X.clock, X.frames, X.room, X.hears, X.method, X.code, (X.here.setHeapUsed s₂.heap s₂.slotsUsed).setVm hW'.alike, X.tail, State.WarmedH.trans X.warmed hW', X.limits, X.bytes, X.same.trans (hsame.setVm s.vm)⟩,
      ⟨g, mk, s₂, L, E, ce, rfl, rfl, hx, hce, hcv, hcl, rfl, hL, rfl, rfl⟩, ?_⟩
    show Steps p.tables e below _ (((({ U with heap := s₂.heap, slotsUsed := s₂.slotsUsed } : State).setVm s₂.vm).setTop g).pushFrame (.throwing q))
    rw [← hs₂]
    exact hsteps
end
variable {p : Program} {l : Launch} {e : Env} {R : Room} {s : State} {m : MethodId} {args : Array Value} {below : List Frame} {meth : Method} {c : Code} {T : State} {H : Heap} {locs : List Loc} {cells slots : Nat}
theorem vx_callVX (X : Stand p l e R s m args below meth c T locs cells slots) (hexec : p.tables.exec = Jvm.exec) {own C : String} {index : Nat} {y : MethodName} {bytes : ByteArray} {maxL : Nat} {ret : Option FieldType} {hh : List (Nat × Nat × Nat × Nat)}
    (hown : s.vm.findClass own = some m.cls) (hlink : (Cond.methodLink own index y).before args s = true) (hinst : (Cond.instanceMethod y).before args s = true) (hsel : (Cond.selects C y y).before args s = true)
    (hcode : (Cond.codeWith y bytes maxL ret hh).before args s = true) (hy : y.cls ≠ "java/lang/invoke/MethodHandle" ∧ y.cls ≠ "java/lang/invoke/VarHandle")
    {W9 : Nat} {Pre : Pt → Array Value → Prop} {Post : Pt → Array Value → Option Value → Pt → Prop} {PostX : Pt → Array Value → Addr → Pt → Prop} (hK : vx_Back l R p e below s args y 3 W9 Pre Post PostX)
    {b : Addr} {cellB : Cell} (hcell : T.heap[b]? = some cellB) (hobj : cellB.vm.isStatics = false) (hcls : s.vm.findClass C = some cellB.cls)
    {g : JFrame} (hg : g.method = m) (hsize : g.locals.size = c.maxLocals) {argsL rest : List Value} (hlen : ∀ sig, parseMethodDescriptor y.desc = some sig → argsL.length = sig.parameters.length)
    (hstack : g.stack = argsL.reverse ++ .ref b :: rest) (hW : 2 * g.monitorRoom + (rest.map fun v => v.category).sum ≤ W9) (hdg : decode c.code g.pc = .ok (.invokevirtual index, 3))
    (hpre : ∀ vm₁, s.WarmedH vm₁ → Pre ⟨T.setVm vm₁, locs, cells, slots⟩ (Value.ref b :: argsL).toArray) :
    (∃ (v : Option Value) (vm₁ : Vm) (B : Pt), s.WarmedH vm₁ ∧ Stand p l e R s m args below meth c B.U B.locs B.cells B.slots ∧ Post ⟨T.setVm vm₁, locs, cells, slots⟩ (Value.ref b :: argsL).toArray v B ∧
      ∀ target, Steps p.tables e below (B.U.setTop { g with pc := g.pc + 3, stack := v.toList ++ rest }) target → Steps p.tables e below (T.setTop g) target) ∨
    (∃ (q : Addr) (vm₁ : Vm) (B : Pt), s.WarmedH vm₁ ∧ Stand p l e R s m args below meth c B.U B.locs B.cells B.slots ∧ PostX ⟨T.setVm vm₁, locs, cells, slots⟩ (Value.ref b :: argsL).toArray q B ∧
      Steps p.tables e below (T.setTop g) ((B.U.setTop { g with stack := rest }).pushFrame (.throwing q))) := by
  obtain ⟨mk, methM, hnamed, hmethM, hstM, habM⟩ := Cond.instanceMethod_spec hinst
  obtain ⟨m8, methM', cM, hn8, hmethM', -, -, -, -, -, -, hsigM⟩ := Cond.codeWith_spec hcode
  cases Option.some.inj (hn8.symm.trans hnamed)
  cases hmethM.symm.trans hmethM'
  obtain ⟨c2, r2, m2, q1, q2, q3, q4, kP, hkP, hkPi⟩ := Cond.selects_spec hsel
  cases hcls.symm.trans q1
  cases (State.methodFound?_of_named hnamed hy).symm.trans q2
  cases hnamed.symm.trans q3
  have hselP : selectMethod e.platform s.vm cellB.cls mk = .method mk := by rw [Launch.admits_selectMethod X.admits]; exact q4
  obtain ⟨vm₁, X₁, hstep₁⟩ := X.invokevirtual hexec hown hlink hnamed hmethM hstM hkP hkPi hy (a := b) (cell := cellB) hcell
    (fun z h => by rw [h] at hobj; cases hobj) hselP hmethM habM hkP hkPi (g := g) hg (argsL := argsL) (rest := rest) (hlen _ hsigM) hstack hdg
  rcases hK m meth c ⟨T.setVm vm₁, locs, cells, slots⟩ { g with stack := rest } (.invokevirtual index) mk (Value.ref b :: argsL).toArray X₁ hg hsize hdg hW (X₁.named hnamed) (hpre vm₁ X₁.warmed) with ⟨v, B, X', hpost, hsteps⟩ | ⟨q, B, X', hpost, hsteps⟩
  · exact Or.inl ⟨v, vm₁, B, X₁.warmed, X', hpost, fun target h => hstep₁ _ fun acts => by rw [doInvoke_state]; exact hsteps.trans h⟩
  · exact Or.inr ⟨q, vm₁, B, X₁.warmed, X', hpost, hstep₁ _ fun acts => by rw [doInvoke_state]; exact hsteps⟩
theorem vx_callSX (X : Stand p l e R s m args below meth c T locs cells slots) (hexec : p.tables.exec = Jvm.exec) {own : String} {index : Nat} {y : MethodName} {bytes : ByteArray} {maxL : Nat} {ret : Option FieldType} {hh : List (Nat × Nat × Nat × Nat)}
    (hown : s.vm.findClass own = some m.cls) (hlink : (Cond.methodLink own index y).before args s = true) (hstat : (Cond.static y).before args s = true) (hinit : (Cond.initialized y.cls).before args s = true)
    (hcode : (Cond.codeWith y bytes maxL ret hh).before args s = true) (hy : y.cls ≠ "java/lang/invoke/MethodHandle" ∧ y.cls ≠ "java/lang/invoke/VarHandle")
    {W9 : Nat} {Pre : Pt → Array Value → Prop} {Post : Pt → Array Value → Option Value → Pt → Prop} {PostX : Pt → Array Value → Addr → Pt → Prop} (hK : vx_Back l R p e below s args y 3 W9 Pre Post PostX)
    {g : JFrame} (hg : g.method = m) (hsize : g.locals.size = c.maxLocals) {argsL rest : List Value} (hlen : ∀ sig, parseMethodDescriptor y.desc = some sig → argsL.length = sig.parameters.length)
    (hstack : g.stack = argsL.reverse ++ rest) (hW : 2 * g.monitorRoom + (rest.map fun v => v.category).sum ≤ W9) (hdg : decode c.code g.pc = .ok (.invokestatic index, 3))
    (hpre : ∀ vm₁, s.WarmedH vm₁ → Pre ⟨T.setVm vm₁, locs, cells, slots⟩ argsL.toArray) :
    (∃ (v : Option Value) (vm₁ : Vm) (B : Pt), s.WarmedH vm₁ ∧ Stand p l e R s m args below meth c B.U B.locs B.cells B.slots ∧ Post ⟨T.setVm vm₁, locs, cells, slots⟩ argsL.toArray v B ∧
      ∀ target, Steps p.tables e below (B.U.setTop { g with pc := g.pc + 3, stack := v.toList ++ rest }) target → Steps p.tables e below (T.setTop g) target) ∨
    (∃ (q : Addr) (vm₁ : Vm) (B : Pt), s.WarmedH vm₁ ∧ Stand p l e R s m args below meth c B.U B.locs B.cells B.slots ∧ PostX ⟨T.setVm vm₁, locs, cells, slots⟩ argsL.toArray q B ∧
      Steps p.tables e below (T.setTop g) ((B.U.setTop { g with stack := rest }).pushFrame (.throwing q))) := by
  obtain ⟨mk, methM, cM, hnamed, hmethM, -, -, -, -, -, -, hsigM⟩ := Cond.codeWith_spec hcode
  have hstatic : methM.isStatic = true := Cond.static_spec hnamed hmethM hstat
  obtain ⟨kP, hkP, -⟩ := className_of_methodNamed hnamed
  have hinitP : kP.init = .initialized := Cond.initialized_spec (findClass_of_methodNamed hnamed) hkP hinit
  obtain ⟨vm₁, X₁, hstep₁⟩ := X.invokestatic hexec hown hlink hnamed hmethM hstatic hkP hinitP hy (g := g) hg (argsL := argsL) (rest := rest) (hlen _ hsigM) hstack hdg
  rcases hK m meth c ⟨T.setVm vm₁, locs, cells, slots⟩ { g with stack := rest } (.invokestatic index) mk argsL.toArray X₁ hg hsize hdg hW (X₁.named hnamed) (hpre vm₁ X₁.warmed) with ⟨v, B, X', hpost, hsteps⟩ | ⟨q, B, X', hpost, hsteps⟩
  · exact Or.inl ⟨v, vm₁, B, X₁.warmed, X', hpost, fun target h => hstep₁ _ fun acts => by rw [doInvoke_state]; exact hsteps.trans h⟩
  · exact Or.inr ⟨q, vm₁, B, X₁.warmed, X', hpost, hstep₁ _ fun acts => by rw [doInvoke_state]; exact hsteps⟩
theorem vx_callVW (X : Stand p l e R s m args below meth c T locs cells slots) (hexec : p.tables.exec = Jvm.exec) {own C : String} {index : Nat} {y : MethodName} {bytes : ByteArray} {maxL : Nat} {ret : Option FieldType} {hh : List (Nat × Nat × Nat × Nat)}
    (hown : s.vm.findClass own = some m.cls) (hlink : (Cond.methodLink own index y).before args s = true) (hinst : (Cond.instanceMethod y).before args s = true) (hsel : (Cond.selects C y y).before args s = true)
    (hcode : (Cond.codeWith y bytes maxL ret hh).before args s = true) (hy : y.cls ≠ "java/lang/invoke/MethodHandle" ∧ y.cls ≠ "java/lang/invoke/VarHandle")
    {W9 : Nat} {Pre : Pt → Array Value → Prop} {Post : Pt → Array Value → Option Value → Pt → Prop} (hK : Back l R p e below s args y 3 W9 Pre Post)
    {b : Addr} {cellB : Cell} (hcell : T.heap[b]? = some cellB) (hobj : cellB.vm.isStatics = false) (hcls : s.vm.findClass C = some cellB.cls)
    {g : JFrame} (hg : g.method = m) (hsize : g.locals.size = c.maxLocals) {argsL rest : List Value} (hlen : ∀ sig, parseMethodDescriptor y.desc = some sig → argsL.length = sig.parameters.length)
    (hstack : g.stack = argsL.reverse ++ .ref b :: rest) (hW : 2 * g.monitorRoom + (rest.map fun v => v.category).sum ≤ W9) (hdg : decode c.code g.pc = .ok (.invokevirtual index, 3))
    (hpre : ∀ vm₁, s.WarmedH vm₁ → Pre ⟨T.setVm vm₁, locs, cells, slots⟩ (Value.ref b :: argsL).toArray) :
    ∃ (v : Option Value) (vm₁ : Vm) (B : Pt), s.WarmedH vm₁ ∧ Stand p l e R s m args below meth c B.U B.locs B.cells B.slots ∧ Post ⟨T.setVm vm₁, locs, cells, slots⟩ (Value.ref b :: argsL).toArray v B ∧
      ∀ target, Steps p.tables e below (B.U.setTop { g with pc := g.pc + 3, stack := v.toList ++ rest }) target → Steps p.tables e below (T.setTop g) target := by
  obtain ⟨mk, methM, hnamed, hmethM, hstM, habM⟩ := Cond.instanceMethod_spec hinst
  obtain ⟨m8, methM', cM, hn8, hmethM', -, -, -, -, -, -, hsigM⟩ := Cond.codeWith_spec hcode
  cases Option.some.inj (hn8.symm.trans hnamed)
  cases hmethM.symm.trans hmethM'
  obtain ⟨c2, r2, m2, q1, q2, q3, q4, kP, hkP, hkPi⟩ := Cond.selects_spec hsel
  cases hcls.symm.trans q1
  cases (State.methodFound?_of_named hnamed hy).symm.trans q2
  cases hnamed.symm.trans q3
  have hselP : selectMethod e.platform s.vm cellB.cls mk = .method mk := by rw [Launch.admits_selectMethod X.admits]; exact q4
  obtain ⟨vm₁, X₁, hstep₁⟩ := X.invokevirtual hexec hown hlink hnamed hmethM hstM hkP hkPi hy (a := b) (cell := cellB) hcell
    (fun z h => by rw [h] at hobj; cases hobj) hselP hmethM habM hkP hkPi (g := g) hg (argsL := argsL) (rest := rest) (hlen _ hsigM) hstack hdg
  obtain ⟨v, B, X', hpost, hsteps⟩ := hK m meth c ⟨T.setVm vm₁, locs, cells, slots⟩ { g with stack := rest } (.invokevirtual index) mk (Value.ref b :: argsL).toArray X₁ hg hsize hdg hW (X₁.named hnamed) (hpre vm₁ X₁.warmed)
  exact ⟨v, vm₁, B, X₁.warmed, X', hpost, fun target h => hstep₁ _ fun acts => by rw [doInvoke_state]; exact hsteps.trans h⟩
abbrev vx_CVW (R : Room) (s : State) (args : Array Value) (own C : String) (index : Nat) (y : MethodName) (bytes : ByteArray) (maxL : Nat) (ret : Option FieldType) (hh : List (Nat × Nat × Nat × Nat)) (ws : List Cond) (rm : Room) (mc ms n : Nat) : Prop :=
  (rm.cells = mc ∧ rm.slots = ms ∧ rm.frames + 1 ≤ R.frames ∧ 8 + (maxL + 11) + rm.locals ≤ R.locals ∧ (∀ w ∈ ws, ∀ (a' : Array Value) (U : State), s.WarmedH U.vm → w.before a' U = true) ∧ Cond.codeWith y bytes maxL ret hh ∈ ws) ∧
  (Cond.codeWith y bytes maxL ret hh).before args s = true ∧ (Cond.initialized y.cls).before args s = true ∧ (y.cls ≠ "java/lang/invoke/MethodHandle" ∧ y.cls ≠ "java/lang/invoke/VarHandle") ∧
  (∀ sig, parseMethodDescriptor y.desc = some sig → n = sig.parameters.length) ∧ (Cond.methodLink own index y).before args s = true ∧ (Cond.instanceMethod y).before args s = true ∧ (Cond.selects C y y).before args s = true
theorem vx_cwVW {own C : String} {index maxL mc ms : Nat} {y : MethodName} {bytes : ByteArray} {ret : Option FieldType} {hh : List (Nat × Nat × Nat × Nat)} {Ts ws ws' : List Cond} {rm : Room} (n : Nat) (ht : ∀ w ∈ Ts, w.before args s = true) (hT : GoodIn Ts (wsV own index C y ws)) (hw : ws = Cond.codeWith y bytes maxL ret hh :: ws') (hrc : rm.cells = mc) (hrs : rm.slots = ms)
    (hd : y.cls = C ∧ y.cls ≠ "java/lang/invoke/MethodHandle" ∧ y.cls ≠ "java/lang/invoke/VarHandle" ∧ (parseMethodDescriptor y.desc).map (fun d => d.parameters.length) = some n) (hR : rm.frames + 1 ≤ R.frames ∧ 8 + (maxL + 11) + rm.locals ≤ R.locals) :
    vx_CVW R s args own C index y bytes maxL ret hh ws rm mc ms n := by
  obtain ⟨hC, hd⟩ := hd
  subst hC
  have ok : ∀ w ∈ wsV own index y.cls y ws, w.before args s = true := fun w h => ht w (hT w h).1
  have hG : GoodIn Ts ws := fun w h => hT w (by unfold wsV; exact List.mem_append_right _ h)
  have hc : Cond.codeWith y bytes maxL ret hh ∈ ws := by rw [hw]; exact List.mem_cons_self
  refine ⟨⟨hrc, hrs, hR.1, hR.2, pay_in ht hG, hc⟩, ht _ (hG _ hc).1, ok _ (by simp [wsV]), ⟨hd.1, hd.2.1⟩, fun sig h => ?_, ok _ (by simp [wsV]), ok _ (by simp [wsV]), ok _ (by simp [wsV])⟩
  have h2 := hd.2.2
  rw [h] at h2
  exact (Option.some.inj h2).symm
theorem vx_runVW {y : MethodName} {bytes cc : ByteArray} {maxL nL mc ms n index : Nat} {ret : Option FieldType} {hh : List (Nat × Nat × Nat × Nat)} {ws : List Cond} {rm : Room} {Pc : Array Value → State → Prop} {Qc : Array Value → State → Outcome → State → Prop} {free : Addr → Prop} {Ts : List Cond} {own C : String} {b : Addr} {As rest : List Value} {g : JFrame}
    (S : CallFix p m c cc nL s args Ts own) (hM : Met l y ws rm Pc Qc mc ms free) (cw : vx_CVW R s args own C index y bytes maxL ret hh ws rm mc ms n) (hp : PreV s H C b Pc As)
    (hg : g.method = m) (hn : As.length = n) (hsize : g.locals.size = nL) (hstack : g.stack = As.reverse ++ .ref b :: rest) (hW : 2 * g.monitorRoom + (rest.map fun v => v.category).sum ≤ 8) (hdg : decode cc g.pc = .ok (.invokevirtual index, 3)) (hf : cells + mc ≤ R.cells ∧ slots + ms ≤ R.slots) :
    va_Run p l e R s m args below meth c H locs cells slots mc ms g rest (Qc (Value.ref b :: As).toArray) free := by
  obtain ⟨⟨hrc, hrs, hfr, hlo, hws, hcw⟩, hcode, hini, hy, hlen, hl, hin, hse⟩ := cw
  have hK : Back l R p e below s args y 3 8 (PreOf R mc ms Pc) (PostOf Qc mc ms free) := va_backW (hh := hh) (bytes := bytes) (maxL := maxL) (ret := ret) hM hp.1 hrc hrs hfr hlo hws hcw (fun a' U hW => word_at hW (Or.inl (by first | rfl | simp [Cond.onTables, Cond.keeps, Cond.steady])) hini)
  obtain ⟨hx, hb, hml, ho, -⟩ := S
  obtain ⟨-, ⟨cellB, hcB, hoB, hclB⟩, hPc⟩ := hp
  intro T hT X
  obtain ⟨v, vm₁, ⟨U', l2, c2, s2⟩, hW₁, X', ⟨g', mk, t, L, e1, e2, hq, h1, hL, h2, h3⟩, st⟩ := vx_callVW X hx (C := C) (hh := hh) (bytes := bytes) (maxL := maxL) (ret := ret) ho hl hin hse hcode hy hK (by rw [hT]; exact hcB) hoB hclB hg (hsize.trans hml.symm) (argsL := As) (rest := rest) (fun sig h => hn.trans (hlen sig h)) hstack hW (by rw [hb]; exact hdg)
    (fun vm₁ hW₁ => ⟨hf.1, hf.2, hPc (T.setVm vm₁) hT hW₁⟩)
  dsimp only [Pt.U, Pt.locs, Pt.cells, Pt.slots] at X' e1 e2 h1 h2 h3 st
  subst h1; subst h2; subst h3
  exact ⟨v, (T.setVm vm₁).calling g' mk (Value.ref b :: As).toArray, t, U', L, hT, X', hL, e1, e2, hq, st⟩
section
variable {y : MethodName} {bytes cc : ByteArray} {maxL nL mc ms n index : Nat} {ret : Option FieldType} {ws : List Cond} {rm : Room} {Pc : Array Value → State → Prop} {Qc : Array Value → State → Outcome → State → Prop} {XC : String → State → State → Prop} {free : Addr → Prop} {Ts : List Cond} {own C : String} {b : Addr} {As rest : List Value} {g : JFrame}
theorem vx_runVX {hh : List (Nat × Nat × Nat × Nat)} (S : CallFix p m c cc nL s args Ts own) (hM : vx_Met l y ws rm Pc Qc XC mc ms free) (cw : vx_CVW R s args own C index y bytes maxL ret hh ws rm mc ms n) (hp : PreV s H C b Pc As)
    (hg : g.method = m) (hn : As.length = n) (hsize : g.locals.size = nL) (hstack : g.stack = As.reverse ++ .ref b :: rest) (hW : 2 * g.monitorRoom + (rest.map fun v => v.category).sum ≤ 8) (hdg : decode cc g.pc = .ok (.invokevirtual index, 3)) (hf : cells + mc ≤ R.cells ∧ slots + ms ≤ R.slots) :
    vx_Run p l e R s m args below meth c H locs cells slots mc ms g rest (Qc (Value.ref b :: As).toArray) XC free := by
  obtain ⟨⟨hrc, hrs, hfr, hlo, hws, hcw⟩, hcode, hini, hy, hlen, hl, hin, hse⟩ := cw
  have hK : vx_Back l R p e below s args y 3 8 (PreOf R mc ms Pc) (PostOf Qc mc ms free) (vx_Post XC mc ms free) := vx_backW (hh := hh) (bytes := bytes) (maxL := maxL) (ret := ret) hM hp.1 hrc hrs hfr hlo hws hcw (fun a' U hW => word_at hW (Or.inl (by first | rfl | simp [Cond.onTables, Cond.keeps, Cond.steady])) hini)
  obtain ⟨hx, hb, hml, ho, -⟩ := S
  obtain ⟨-, ⟨cellB, hcB, hoB, hclB⟩, hPc⟩ := hp
  intro T hT X
  rcases vx_callVX X hx (C := C) (hh := hh) (bytes := bytes) (maxL := maxL) (ret := ret) ho hl hin hse hcode hy hK (by rw [hT]; exact hcB) hoB hclB hg (hsize.trans hml.symm) (argsL := As) (rest := rest) (fun sig h => hn.trans (hlen sig h)) hstack hW (by rw [hb]; exact hdg)
    (fun vm₁ hW₁ => ⟨hf.1, hf.2, hPc (T.setVm vm₁) hT hW₁⟩) with ⟨v, vm₁, ⟨U', l2, c2, s2⟩, hW₁, X', ⟨g', mk, t, L, e1, e2, hq, h1, hL, h2, h3⟩, st⟩ | ⟨q, vm₁, ⟨U', l2, c2, s2⟩, hW₁, X', ⟨g', mk, t, L, E, ce, e1, e2, hq, hce, hcv, hcl, h1, hL, h2, h3⟩, st⟩
  · dsimp only [Pt.U, Pt.locs, Pt.cells, Pt.slots] at X' e1 e2 h1 h2 h3 st
    subst h1; subst h2; subst h3
    exact Or.inl ⟨v, (T.setVm vm₁).calling g' mk (Value.ref b :: As).toArray, t, U', L, hT, X', hL, e1, e2, hq, st⟩
  · dsimp only [Pt.U, Pt.locs, Pt.cells, Pt.slots] at X' e1 e2 h1 h2 h3 st hcl
    subst h1; subst h2; subst h3
    exact Or.inr ⟨q, (T.setVm vm₁).calling g' mk (Value.ref b :: As).toArray, t, U', L, E, ce, hT, X', hL, e1, e2, hq, hce, hcv, vx_cls hW₁ hcl, st⟩
theorem vx_runSX {hh : List (Nat × Nat × Nat × Nat)} (S : CallFix p m c cc nL s args Ts own) (hM : vx_Met l y ws rm Pc Qc XC mc ms free) (cw : vx_CSW R s args own index y bytes maxL ret hh ws rm mc ms n) (hp : PreS s H Pc As)
    (hg : g.method = m) (hn : As.length = n) (hsize : g.locals.size = nL) (hstack : g.stack = As.reverse ++ rest) (hW : 2 * g.monitorRoom + (rest.map fun v => v.category).sum ≤ 8) (hdg : decode cc g.pc = .ok (.invokestatic index, 3)) (hf : cells + mc ≤ R.cells ∧ slots + ms ≤ R.slots) :
    vx_Run p l e R s m args below meth c H locs cells slots mc ms g rest (Qc As.toArray) XC free := by
  obtain ⟨⟨hrc, hrs, hfr, hlo, hws, hcw⟩, hcode, hini, hy, hlen, hl, hstt⟩ := cw
  have hK : vx_Back l R p e below s args y 3 8 (PreOf R mc ms Pc) (PostOf Qc mc ms free) (vx_Post XC mc ms free) := vx_backW (hh := hh) (bytes := bytes) (maxL := maxL) (ret := ret) hM hp.1 hrc hrs hfr hlo hws hcw (fun a' U hW => word_at hW (Or.inl (by first | rfl | simp [Cond.onTables, Cond.keeps, Cond.steady])) hini)
  obtain ⟨hx, hb, hml, ho, -⟩ := S
  intro T hT X
  rcases vx_callSX X hx (hh := hh) (bytes := bytes) (maxL := maxL) (ret := ret) ho hl hstt hini hcode hy hK hg (hsize.trans hml.symm) (argsL := As) (rest := rest) (fun sig h => hn.trans (hlen sig h)) hstack hW (by rw [hb]; exact hdg)
    (fun vm₁ hW₁ => ⟨hf.1, hf.2, hp.2 (T.setVm vm₁) hT hW₁⟩) with ⟨v, vm₁, ⟨U', l2, c2, s2⟩, hW₁, X', ⟨g', mk, t, L, e1, e2, hq, h1, hL, h2, h3⟩, st⟩ | ⟨q, vm₁, ⟨U', l2, c2, s2⟩, hW₁, X', ⟨g', mk, t, L, E, ce, e1, e2, hq, hce, hcv, hcl, h1, hL, h2, h3⟩, st⟩
  · dsimp only [Pt.U, Pt.locs, Pt.cells, Pt.slots] at X' e1 e2 h1 h2 h3 st
    subst h1; subst h2; subst h3
    exact Or.inl ⟨v, (T.setVm vm₁).calling g' mk As.toArray, t, U', L, hT, X', hL, e1, e2, hq, st⟩
  · dsimp only [Pt.U, Pt.locs, Pt.cells, Pt.slots] at X' e1 e2 h1 h2 h3 st hcl
    subst h1; subst h2; subst h3
    exact Or.inr ⟨q, (T.setVm vm₁).calling g' mk As.toArray, t, U', L, E, ce, hT, X', hL, e1, e2, hq, hce, hcv, vx_cls hW₁ hcl, st⟩
end
end VXH
theorem vx_ofWH {l : Launch} {y : MethodName} {ws ws' : List Cond} {rm : Room} {Pc : Array Value → State → Prop} {Qc : Array Value → State → Outcome → State → Prop} {XC : String → State → State → Prop} {mc ms : Nat} {free : Addr → Prop} {cc : ByteArray} {maxL : Nat} {ret : Option FieldType} {hh : List (Nat × Nat × Nat × Nat)}
    (hy : plainName y.cls = true) (hw : ws = Cond.codeWith y cc maxL ret hh :: ws')
    (body : ∀ p e s m args below meth c s₁, BodyLoose p l y (headSpec ws rm) cc maxL ret e s m args below meth c s₁ → c.maxLocals = maxL → Pc args s →
      W p l e (headSpec ws rm).room s m args below meth c s.heap [] 0 0 (vx_MQ below Qc XC args s mc ms free) (entryFrame m args maxL)) : vx_Met l y ws rm Pc Qc XC mc ms free := by
  refine MetFree.of_bodyS (code := cc) (maxLocals := maxL) (ret := ret) hy ?_ ?_
  · intro args s m h hn
    obtain ⟨m9, meth, c, hn9, h1, h2, h3, h4, -, h5, h6, -⟩ := Cond.codeWith_spec (atoms_spec (ws := ws) h _ (by rw [hw]; exact List.mem_cons_self))
    cases hn.symm.trans hn9
    exact ⟨meth, c, h1, h2, h3, h4, h5, h6⟩
  · intro p e s m args below meth c s₁ B hml hP _
    have hh0 : s₁.heap = s.heap := by rw [B.state]; rfl
    obtain ⟨t, a1, o, b1, b2, b3⟩ := body p e s m args below meth c s₁ B hml hP s₁ hh0 (Stand.of_body B)
    exact ⟨t, o, a1, b1, b2, b3⟩
/-! ===== END ===== -/


def RX0 : String := "WaveBlocks"
def TX0 : u_T := fun k => match k with
  | 0 => ("WaveBlocks", "coefficientGrid", "[I", true)
  | 1 => ("WaveBlocks", "stepGrid", "[I", true)
  | 2 => ("WaveBlocks", "sampleGrid", "[I", true)
  | 3 => ("WaveBlocks", "keptGrid", "[I", true)
  | _ => ("WaveBlocks", "halfwayGrid", "[J", true)
def tyX0 : Nat → FieldType := fun k => match k with
  | 0 => .array .int
  | 1 => .array .int
  | 2 => .array .int
  | 3 => .array .int
  | _ => .array .long
theorem nmX0 : ∀ a, a < 5 → ∀ b, b < 5 → a ≠ b → (TX0 a).2.1 ≠ (TX0 b).2.1 := by decide +kernel
theorem tyX0_ok : ∀ k, k < 5 → parseFieldDescriptor (TX0 k).2.2.1 = some (tyX0 k) := by decide +kernel
def RX1 : String := "WaveBlocksModel"
def TX1 : u_T := fun k => match k with
  | 0 => ("WaveBlocksModel", "thrown", "I", false)
  | 1 => ("WaveBlocksModel", "coefficients", "[I", true)
  | 2 => ("WaveBlocksModel", "steps", "[I", true)
  | 3 => ("WaveBlocksModel", "samples", "[I", true)
  | 4 => ("WaveBlocksModel", "kept", "[I", true)
  | 5 => ("WaveBlocksModel", "downs", "[I", true)
  | 6 => ("WaveBlocksModel", "acrosses", "[I", true)
  | _ => ("WaveBlocksModel", "sums", "[J", true)
def tyX1 : Nat → FieldType := fun k => match k with
  | 0 => .int
  | 7 => .array .long
  | _ => .array .int
theorem nmX1 : ∀ a, a < 8 → ∀ b, b < 8 → a ≠ b → (TX1 a).2.1 ≠ (TX1 b).2.1 := by decide +kernel
theorem tyX1_ok : ∀ k, k < 8 → parseFieldDescriptor (TX1 k).2.2.1 = some (tyX1 k) := by decide +kernel
def RL : String := "WaveBlocksLaw"
abbrev vwCl : List vw_C := [(RX0, TX0, 5), (RX1, TX1, 8)]
/-- all good words of the tables: every method's words are its own code and these -/
def wA : List Cond := lw_tbl.filter goodWord
theorem wA_of {w : Cond} (i : Nat) (h : lw_tbl[i]? = some w) (g : goodWord w = true) : w ∈ wA := List.mem_filter.mpr ⟨List.mem_of_getElem? h, g⟩
theorem wA_good {ws : List Cond} (h : ∀ w ∈ ws, w ∈ wA) : GoodIn wA ws := fun w hw => ⟨h w hw, good_of_word (List.mem_filter.mp (h w hw)).2⟩
theorem gw_S {own : String} {idx : Nat} {y : MethodName} {c : Cond} (h1 : Cond.methodLink own idx y ∈ wA) (h2 : Cond.static y ∈ wA) (h3 : Cond.initialized y.cls ∈ wA) (h4 : c ∈ wA) : GoodIn wA (va_wsS own idx y (c :: wA)) := wA_good (fun w hw => by
  unfold va_wsS at hw
  rcases List.mem_append.mp hw with h | h
  · rcases List.mem_cons.mp h with rfl | h
    · exact h1
    · rcases List.mem_cons.mp h with rfl | h
      · exact h2
      · rcases List.mem_cons.mp h with rfl | h
        · exact h3
        · exact absurd h List.not_mem_nil
  · rcases List.mem_cons.mp h with rfl | h
    · exact h4
    · exact h)
theorem gw_V {own C : String} {idx : Nat} {y : MethodName} {c : Cond} (h1 : Cond.methodLink own idx y ∈ wA) (h2 : Cond.instanceMethod y ∈ wA) (h3 : Cond.selects C y y ∈ wA) (h4 : Cond.initialized C ∈ wA) (h5 : c ∈ wA) : GoodIn wA (wsV own idx C y (c :: wA)) := wA_good (fun w hw => by
  unfold wsV at hw
  rcases List.mem_append.mp hw with h | h
  · rcases List.mem_cons.mp h with rfl | h
    · exact h1
    · rcases List.mem_cons.mp h with rfl | h
      · exact h2
      · rcases List.mem_cons.mp h with rfl | h
        · exact h3
        · rcases List.mem_cons.mp h with rfl | h
          · exact h4
          · exact absurd h List.not_mem_nil
  · rcases List.mem_cons.mp h with rfl | h
    · exact h5
    · exact h)
abbrev cX0_init : ByteArray := prog_1_method_1_code
def yX0_init : MethodName := ⟨RX0, "<init>", "()V"⟩
def wsX0_init : List Cond := .code yX0_init cX0_init 2 none :: wA
abbrev cX0_forward : ByteArray := prog_1_method_7_code
def yX0_forward : MethodName := ⟨RX0, "forward", "()I"⟩
def wsX0_forward : List Cond := .code yX0_forward cX0_forward 4 (some .int) :: wA
abbrev cX0_forwardDown : ByteArray := prog_1_method_27_code
def yX0_forwardDown : MethodName := ⟨RX0, "forwardDown", "(I)V"⟩
def wsX0_forwardDown : List Cond := .code yX0_forwardDown cX0_forwardDown 6 none :: wA
abbrev cX0_waveAt : ByteArray := prog_1_method_20_code
def yX0_waveAt : MethodName := ⟨RX0, "waveAt", "(III)I"⟩
def wsX0_waveAt : List Cond := .code yX0_waveAt cX0_waveAt 3 (some .int) :: wA
abbrev cX0_cosine : ByteArray := prog_1_method_21_code
def yX0_cosine : MethodName := ⟨RX0, "cosine", "(I)I"⟩
def wsX0_cosine : List Cond := .code yX0_cosine cX0_cosine 2 (some .int) :: wA
abbrev cX0_rounded : ByteArray := prog_1_method_22_code
def yX0_rounded : MethodName := ⟨RX0, "rounded", "(JI)J"⟩
def wsX0_rounded : List Cond := .code yX0_rounded cX0_rounded 3 (some .long) :: wA
abbrev cX0_forwardAcross : ByteArray := prog_1_method_28_code
def yX0_forwardAcross : MethodName := ⟨RX0, "forwardAcross", "(II)I"⟩
def wsX0_forwardAcross : List Cond := .code yX0_forwardAcross cX0_forwardAcross 6 (some .int) :: wA
abbrev cX0_nearest : ByteArray := prog_1_method_24_code
def yX0_nearest : MethodName := ⟨RX0, "nearest", "(II)I"⟩
def wsX0_nearest : List Cond := .code yX0_nearest cX0_nearest 3 (some .int) :: wA
abbrev cX0_countOfCoefficients : ByteArray := prog_1_method_29_code
def yX0_countOfCoefficients : MethodName := ⟨RX0, "countOfCoefficients", "()I"⟩
def wsX0_countOfCoefficients : List Cond := .code yX0_countOfCoefficients cX0_countOfCoefficients 3 (some .int) :: wA
abbrev cX0_keep : ByteArray := prog_1_method_8_code
def yX0_keep : MethodName := ⟨RX0, "keep", "()V"⟩
def wsX0_keep : List Cond := .code yX0_keep cX0_keep 2 none :: wA
abbrev cX0_clear : ByteArray := prog_1_method_10_code
def yX0_clear : MethodName := ⟨RX0, "clear", "()V"⟩
def wsX0_clear : List Cond := .code yX0_clear cX0_clear 2 none :: wA
abbrev cX0_order : ByteArray := prog_1_method_12_code
def yX0_order : MethodName := ⟨RX0, "order", "(II)I"⟩
def wsX0_order : List Cond := .code yX0_order cX0_order 3 (some .int) :: wA
abbrev cX0_isLine : ByteArray := prog_1_method_18_code
def yX0_isLine : MethodName := ⟨RX0, "isLine", "(I)Z"⟩
def wsX0_isLine : List Cond := .code yX0_isLine cX0_isLine 1 (some .boolean) :: wA
abbrev cX0_samples : ByteArray := prog_1_method_13_code
def yX0_samples : MethodName := ⟨RX0, "samples", "(I)J"⟩
def wsX0_samples : List Cond := .code yX0_samples cX0_samples 5 (some .long) :: wA
abbrev cX0_look : ByteArray := prog_1_method_16_code
def yX0_look : MethodName := ⟨RX0, "look", "(I)I"⟩
def wsX0_look : List Cond := .code yX0_look cX0_look 2 (some .int) :: wA
abbrev cX0_lastPlace : ByteArray := prog_1_method_30_code
def yX0_lastPlace : MethodName := ⟨RX0, "lastPlace", "()I"⟩
def wsX0_lastPlace : List Cond := .code yX0_lastPlace cX0_lastPlace 2 (some .int) :: wA
abbrev cX0_sumOf : ByteArray := prog_1_method_32_code
def yX0_sumOf : MethodName := ⟨RX0, "sumOf", "([I)I"⟩
def wsX0_sumOf : List Cond := .code yX0_sumOf cX0_sumOf 6 (some .int) :: wA
abbrev cX0_sumOfMagnitudes : ByteArray := prog_1_method_31_code
def yX0_sumOfMagnitudes : MethodName := ⟨RX0, "sumOfMagnitudes", "()I"⟩
def wsX0_sumOfMagnitudes : List Cond := .code yX0_sumOfMagnitudes cX0_sumOfMagnitudes 3 (some .int) :: wA
abbrev cL_put : ByteArray := method_3_code
def yL_put : MethodName := ⟨RL, "put", "(LWaveBlocks;II)I"⟩
def wsL_put : List Cond := .codeWith yL_put cL_put 4 (some .int) [(0, 6, 9, 13), (0, 6, 12, 15)] :: wA
abbrev cX0_put : ByteArray := prog_1_method_2_code
def yX0_put : MethodName := ⟨RX0, "put", "(II)V"⟩
def wsX0_put : List Cond := .code yX0_put cX0_put 3 none :: wA
abbrev cX0_isPlace : ByteArray := prog_1_method_17_code
def yX0_isPlace : MethodName := ⟨RX0, "isPlace", "(I)Z"⟩
def wsX0_isPlace : List Cond := .code yX0_isPlace cX0_isPlace 1 (some .boolean) :: wA
abbrev cL_step : ByteArray := method_4_code
def yL_step : MethodName := ⟨RL, "step", "(LWaveBlocks;II)I"⟩
def wsL_step : List Cond := .codeWith yL_step cL_step 4 (some .int) [(0, 6, 9, 13), (0, 6, 12, 15)] :: wA
abbrev cX0_step : ByteArray := prog_1_method_3_code
def yX0_step : MethodName := ⟨RX0, "step", "(II)V"⟩
def wsX0_step : List Cond := .code yX0_step cX0_step 3 none :: wA
abbrev cL_steps : ByteArray := method_5_code
def yL_steps : MethodName := ⟨RL, "steps", "(LWaveBlocks;III)I"⟩
def wsL_steps : List Cond := .codeWith yL_steps cL_steps 5 (some .int) [(0, 7, 10, 15)] :: wA
abbrev cX0_steps : ByteArray := prog_1_method_4_code
def yX0_steps : MethodName := ⟨RX0, "steps", "(III)V"⟩
def wsX0_steps : List Cond := .code yX0_steps cX0_steps 7 none :: wA
abbrev cX0_clamped : ByteArray := prog_1_method_23_code
def yX0_clamped : MethodName := ⟨RX0, "clamped", "(JII)I"⟩
def wsX0_clamped : List Cond := .code yX0_clamped cX0_clamped 4 (some .int) :: wA
abbrev cL_row : ByteArray := method_6_code
def yL_row : MethodName := ⟨RL, "row", "(LWaveBlocks;IJ)I"⟩
def wsL_row : List Cond := .codeWith yL_row cL_row 5 (some .int) [(0, 6, 9, 13)] :: wA
abbrev cX0_row : ByteArray := prog_1_method_5_code
def yX0_row : MethodName := ⟨RX0, "row", "(IJ)V"⟩
def wsX0_row : List Cond := .code yX0_row cX0_row 5 none :: wA
abbrev cL_back : ByteArray := method_7_code
def yL_back : MethodName := ⟨RL, "back", "(LWaveBlocks;I[J)I"⟩
def wsL_back : List Cond := .codeWith yL_back cL_back 4 (some .int) [(0, 8, 11, 15)] :: wA
abbrev cX0_back : ByteArray := prog_1_method_6_code
def yX0_back : MethodName := ⟨RX0, "back", "(I)J"⟩
def wsX0_back : List Cond := .code yX0_back cX0_back 5 (some .long) :: wA
abbrev cX0_spreadOf : ByteArray := prog_1_method_19_code
def yX0_spreadOf : MethodName := ⟨RX0, "spreadOf", "(I)I"⟩
def wsX0_spreadOf : List Cond := .code yX0_spreadOf cX0_spreadOf 1 (some .int) :: wA
abbrev cX0_backDown : ByteArray := prog_1_method_25_code
def yX0_backDown : MethodName := ⟨RX0, "backDown", "(II)J"⟩
def wsX0_backDown : List Cond := .code yX0_backDown cX0_backDown 11 (some .long) :: wA
abbrev cX0_backAcross : ByteArray := prog_1_method_26_code
def yX0_backAcross : MethodName := ⟨RX0, "backAcross", "(II)V"⟩
def wsX0_backAcross : List Cond := .code yX0_backAcross cX0_backAcross 9 none :: wA
abbrev cL_error : ByteArray := method_8_code
def yL_error : MethodName := ⟨RL, "error", "(LWaveBlocks;I[J)I"⟩
def wsL_error : List Cond := .codeWith yL_error cL_error 4 (some .int) [(0, 9, 12, 15)] :: wA
abbrev cX0_error : ByteArray := prog_1_method_9_code
def yX0_error : MethodName := ⟨RX0, "error", "(I)I"⟩
def wsX0_error : List Cond := .code yX0_error cX0_error 6 (some .int) :: wA
abbrev cL_at : ByteArray := method_9_code
def yL_at : MethodName := ⟨RL, "at", "(LWaveBlocks;II[J)I"⟩
def wsL_at : List Cond := .codeWith yL_at cL_at 5 (some .int) [(0, 10, 13, 13)] :: wA
abbrev cX0_at : ByteArray := prog_1_method_11_code
def yX0_at : MethodName := ⟨RX0, "at", "(II)I"⟩
def wsX0_at : List Cond := .code yX0_at cX0_at 4 (some .int) :: wA
abbrev cL_exact : ByteArray := method_10_code
def yL_exact : MethodName := ⟨RL, "exact", "(LWaveBlocks;II[J)I"⟩
def wsL_exact : List Cond := .codeWith yL_exact cL_exact 5 (some .int) [(0, 10, 13, 13)] :: wA
abbrev cX0_exact : ByteArray := prog_1_method_14_code
def yX0_exact : MethodName := ⟨RX0, "exact", "(II)I"⟩
def wsX0_exact : List Cond := .code yX0_exact cX0_exact 3 (some .int) :: wA
abbrev cL_wave : ByteArray := method_11_code
def yL_wave : MethodName := ⟨RL, "wave", "(LWaveBlocks;III[J)I"⟩
def wsL_wave : List Cond := .codeWith yL_wave cL_wave 6 (some .int) [(0, 12, 15, 15)] :: wA
abbrev cX0_wave : ByteArray := prog_1_method_15_code
def yX0_wave : MethodName := ⟨RX0, "wave", "(III)I"⟩
def wsX0_wave : List Cond := .code yX0_wave cX0_wave 5 (some .int) :: wA
abbrev cX1_init : ByteArray := prog_3_method_1_code
def yX1_init : MethodName := ⟨RX1, "<init>", "()V"⟩
def wsX1_init : List Cond := .code yX1_init cX1_init 6 none :: wA
abbrev cX1_thrown : ByteArray := prog_3_method_2_code
def yX1_thrown : MethodName := ⟨RX1, "thrown", "()I"⟩
def wsX1_thrown : List Cond := .code yX1_thrown cX1_thrown 1 (some .int) :: wA
abbrev cX1_put : ByteArray := prog_3_method_8_code
def yX1_put : MethodName := ⟨RX1, "put", "(II)V"⟩
def wsX1_put : List Cond := .code yX1_put cX1_put 3 none :: wA
abbrev cX1_isPlace : ByteArray := prog_3_method_3_code
def yX1_isPlace : MethodName := ⟨RX1, "isPlace", "(I)Z"⟩
def wsX1_isPlace : List Cond := .code yX1_isPlace cX1_isPlace 1 (some .boolean) :: wA
abbrev cX1_step : ByteArray := prog_3_method_9_code
def yX1_step : MethodName := ⟨RX1, "step", "(II)V"⟩
def wsX1_step : List Cond := .code yX1_step cX1_step 3 none :: wA
abbrev cX1_steps : ByteArray := prog_3_method_10_code
def yX1_steps : MethodName := ⟨RX1, "steps", "(III)V"⟩
def wsX1_steps : List Cond := .code yX1_steps cX1_steps 6 none :: wA
abbrev cX1_row : ByteArray := prog_3_method_11_code
def yX1_row : MethodName := ⟨RX1, "row", "(IJ)V"⟩
def wsX1_row : List Cond := .code yX1_row cX1_row 5 none :: wA
abbrev cX1_back : ByteArray := prog_3_method_14_code
def yX1_back : MethodName := ⟨RX1, "back", "(I)J"⟩
def wsX1_back : List Cond := .code yX1_back cX1_back 10 (some .long) :: wA
abbrev cX1_isSize : ByteArray := prog_3_method_12_code
def yX1_isSize : MethodName := ⟨RX1, "isSize", "(I)Z"⟩
def wsX1_isSize : List Cond := .code yX1_isSize cX1_isSize 1 (some .boolean) :: wA
abbrev cX1_column : ByteArray := prog_3_method_13_code
def yX1_column : MethodName := ⟨RX1, "column", "(III)J"⟩
def wsX1_column : List Cond := .code yX1_column cX1_column 8 (some .long) :: wA
abbrev cX1_orderOf : ByteArray := prog_3_method_7_code
def yX1_orderOf : MethodName := ⟨RX1, "orderOf", "(II)I"⟩
def wsX1_orderOf : List Cond := .code yX1_orderOf cX1_orderOf 5 (some .int) :: wA
abbrev cX1_waveOf : ByteArray := prog_3_method_5_code
def yX1_waveOf : MethodName := ⟨RX1, "waveOf", "(III)I"⟩
def wsX1_waveOf : List Cond := .code yX1_waveOf cX1_waveOf 4 (some .int) :: wA
abbrev cX1_k : ByteArray := prog_3_method_4_code
def yX1_k : MethodName := ⟨RX1, "k", "(I)I"⟩
def wsX1_k : List Cond := .code yX1_k cX1_k 1 (some .int) :: wA
abbrev cX1_round : ByteArray := prog_3_method_6_code
def yX1_round : MethodName := ⟨RX1, "round", "(JI)J"⟩
def wsX1_round : List Cond := .code yX1_round cX1_round 3 (some .long) :: wA
abbrev cX1_forward : ByteArray := prog_3_method_16_code
def yX1_forward : MethodName := ⟨RX1, "forward", "()I"⟩
def wsX1_forward : List Cond := .code yX1_forward cX1_forward 7 (some .int) :: wA
abbrev cX1_exactOf : ByteArray := prog_3_method_15_code
def yX1_exactOf : MethodName := ⟨RX1, "exactOf", "(II)J"⟩
def wsX1_exactOf : List Cond := .code yX1_exactOf cX1_exactOf 9 (some .long) :: wA
abbrev cX1_keep : ByteArray := prog_3_method_17_code
def yX1_keep : MethodName := ⟨RX1, "keep", "()V"⟩
def wsX1_keep : List Cond := .code yX1_keep cX1_keep 2 none :: wA
abbrev cX1_error : ByteArray := prog_3_method_18_code
def yX1_error : MethodName := ⟨RX1, "error", "(I)I"⟩
def wsX1_error : List Cond := .code yX1_error cX1_error 5 (some .int) :: wA
abbrev cX1_clear : ByteArray := prog_3_method_19_code
def yX1_clear : MethodName := ⟨RX1, "clear", "()V"⟩
def wsX1_clear : List Cond := .code yX1_clear cX1_clear 2 none :: wA
abbrev cX1_at : ByteArray := prog_3_method_20_code
def yX1_at : MethodName := ⟨RX1, "at", "(II)I"⟩
def wsX1_at : List Cond := .code yX1_at cX1_at 3 (some .int) :: wA
abbrev cX1_order : ByteArray := prog_3_method_21_code
def yX1_order : MethodName := ⟨RX1, "order", "(II)I"⟩
def wsX1_order : List Cond := .code yX1_order cX1_order 3 (some .int) :: wA
abbrev cX1_samples : ByteArray := prog_3_method_22_code
def yX1_samples : MethodName := ⟨RX1, "samples", "(I)J"⟩
def wsX1_samples : List Cond := .code yX1_samples cX1_samples 5 (some .long) :: wA
abbrev cX1_exact : ByteArray := prog_3_method_23_code
def yX1_exact : MethodName := ⟨RX1, "exact", "(II)I"⟩
def wsX1_exact : List Cond := .code yX1_exact cX1_exact 3 (some .int) :: wA
abbrev cX1_wave : ByteArray := prog_3_method_24_code
def yX1_wave : MethodName := ⟨RX1, "wave", "(III)I"⟩
def wsX1_wave : List Cond := .code yX1_wave cX1_wave 4 (some .int) :: wA
abbrev cX1_look : ByteArray := prog_3_method_25_code
def yX1_look : MethodName := ⟨RX1, "look", "(I)I"⟩
def wsX1_look : List Cond := .code yX1_look cX1_look 8 (some .int) :: wA
end
section
theorem wm_0 : (Jvm.Cond.selects "WaveBlocks" ({ cls := "WaveBlocks", name := "forwardDown", desc := "(I)V" } : Jvm.MethodName) ({ cls := "WaveBlocks", name := "forwardDown", desc := "(I)V" } : Jvm.MethodName)) ∈ wA := wA_of 0 (by decide +kernel) (by decide +kernel)
theorem wm_1 : (Jvm.Cond.selects "WaveBlocks" ({ cls := "WaveBlocks", name := "forwardAcross", desc := "(II)I" } : Jvm.MethodName) ({ cls := "WaveBlocks", name := "forwardAcross", desc := "(II)I" } : Jvm.MethodName)) ∈ wA := wA_of 1 (by decide +kernel) (by decide +kernel)
theorem wm_2 : (Jvm.Cond.selects "WaveBlocks" ({ cls := "WaveBlocks", name := "countOfCoefficients", desc := "()I" } : Jvm.MethodName) ({ cls := "WaveBlocks", name := "countOfCoefficients", desc := "()I" } : Jvm.MethodName)) ∈ wA := wA_of 2 (by decide +kernel) (by decide +kernel)
theorem wm_3 : (Jvm.Cond.selects "WaveBlocks" ({ cls := "WaveBlocks", name := "lastPlace", desc := "()I" } : Jvm.MethodName) ({ cls := "WaveBlocks", name := "lastPlace", desc := "()I" } : Jvm.MethodName)) ∈ wA := wA_of 3 (by decide +kernel) (by decide +kernel)
theorem wm_4 : (Jvm.Cond.selects "WaveBlocks" ({ cls := "WaveBlocks", name := "sumOfMagnitudes", desc := "()I" } : Jvm.MethodName) ({ cls := "WaveBlocks", name := "sumOfMagnitudes", desc := "()I" } : Jvm.MethodName)) ∈ wA := wA_of 4 (by decide +kernel) (by decide +kernel)
theorem wm_5 : (Jvm.Cond.selects "java/lang/Throwable" ({ cls := "java/lang/Throwable", name := "fillInStackTrace", desc := "(I)Ljava/lang/Throwable;" } : Jvm.MethodName) ({ cls := "java/lang/Throwable", name := "fillInStackTrace", desc := "(I)Ljava/lang/Throwable;" } : Jvm.MethodName)) ∈ wA := wA_of 5 (by decide +kernel) (by decide +kernel)
theorem wm_6 : (Jvm.Cond.selects "WaveBlocks" ({ cls := "WaveBlocks", name := "backDown", desc := "(II)J" } : Jvm.MethodName) ({ cls := "WaveBlocks", name := "backDown", desc := "(II)J" } : Jvm.MethodName)) ∈ wA := wA_of 6 (by decide +kernel) (by decide +kernel)
theorem wm_7 : (Jvm.Cond.selects "WaveBlocks" ({ cls := "WaveBlocks", name := "backAcross", desc := "(II)V" } : Jvm.MethodName) ({ cls := "WaveBlocks", name := "backAcross", desc := "(II)V" } : Jvm.MethodName)) ∈ wA := wA_of 7 (by decide +kernel) (by decide +kernel)
theorem wm_8 : (Jvm.Cond.selects "WaveBlocksModel" ({ cls := "WaveBlocksModel", name := "column", desc := "(III)J" } : Jvm.MethodName) ({ cls := "WaveBlocksModel", name := "column", desc := "(III)J" } : Jvm.MethodName)) ∈ wA := wA_of 8 (by decide +kernel) (by decide +kernel)
theorem wm_9 : (Jvm.Cond.selects "WaveBlocksModel" ({ cls := "WaveBlocksModel", name := "orderOf", desc := "(II)I" } : Jvm.MethodName) ({ cls := "WaveBlocksModel", name := "orderOf", desc := "(II)I" } : Jvm.MethodName)) ∈ wA := wA_of 9 (by decide +kernel) (by decide +kernel)
theorem wm_10 : (Jvm.Cond.selects "WaveBlocksModel" ({ cls := "WaveBlocksModel", name := "exactOf", desc := "(II)J" } : Jvm.MethodName) ({ cls := "WaveBlocksModel", name := "exactOf", desc := "(II)J" } : Jvm.MethodName)) ∈ wA := wA_of 10 (by decide +kernel) (by decide +kernel)
theorem wm_11 : (Jvm.Cond.initialized "WaveBlocksLaw") ∈ wA := wA_of 11 (by decide +kernel) (by decide +kernel)
theorem wm_12 : (Jvm.Cond.initialized "WaveBlocks") ∈ wA := wA_of 12 (by decide +kernel) (by decide +kernel)
theorem wm_13 : (Jvm.Cond.initialized "WaveBlocksModel") ∈ wA := wA_of 13 (by decide +kernel) (by decide +kernel)
theorem wm_14 : (Jvm.Cond.initialized "java/lang/Throwable") ∈ wA := wA_of 14 (by decide +kernel) (by decide +kernel)
theorem wm_15 : (Jvm.Cond.initialized "java/lang/Exception") ∈ wA := wA_of 15 (by decide +kernel) (by decide +kernel)
theorem wm_16 : (Jvm.Cond.initialized "java/lang/RuntimeException") ∈ wA := wA_of 16 (by decide +kernel) (by decide +kernel)
theorem wm_17 : (Jvm.Cond.initialized "java/lang/IndexOutOfBoundsException") ∈ wA := wA_of 17 (by decide +kernel) (by decide +kernel)
theorem wm_18 : (Jvm.Cond.initialized "java/lang/IllegalArgumentException") ∈ wA := wA_of 18 (by decide +kernel) (by decide +kernel)
theorem wm_19 : (Jvm.Cond.initialized "java/lang/Math") ∈ wA := wA_of 19 (by decide +kernel) (by decide +kernel)
theorem wm_20 : (Jvm.Cond.classLink "WaveBlocksLaw" (8 : Nat) "WaveBlocks") ∈ wA := wA_of 20 (by decide +kernel) (by decide +kernel)
theorem wm_21 : (Jvm.Cond.instantiable "WaveBlocks" (5 : Nat)) ∈ wA := wA_of 21 (by decide +kernel) (by decide +kernel)
theorem wm_22 : (Jvm.Cond.methodLink "WaveBlocksLaw" (47 : Nat) ({ cls := "WaveBlocks", name := "<init>", desc := "()V" } : Jvm.MethodName)) ∈ wA := wA_of 22 (by decide +kernel) (by decide +kernel)
theorem wm_23 : (Jvm.Cond.instanceMethod ({ cls := "WaveBlocks", name := "<init>", desc := "()V" } : Jvm.MethodName)) ∈ wA := wA_of 23 (by decide +kernel) (by decide +kernel)
theorem wm_24 : (Jvm.Cond.code ({ cls := "WaveBlocks", name := "<init>", desc := "()V" } : Jvm.MethodName) prog_1_method_1_code (2 : Nat) (Option.none : Option Jvm.ClassFile.FieldType)) ∈ wA := wA_of 24 (by decide +kernel) (by decide +kernel)
theorem wm_25 : (Jvm.Cond.methodLink "WaveBlocks" (1 : Nat) ({ cls := "java/lang/Object", name := "<init>", desc := "()V" } : Jvm.MethodName)) ∈ wA := wA_of 25 (by decide +kernel) (by decide +kernel)
theorem wm_26 : (Jvm.Cond.instanceMethod ({ cls := "java/lang/Object", name := "<init>", desc := "()V" } : Jvm.MethodName)) ∈ wA := wA_of 26 (by decide +kernel) (by decide +kernel)
theorem wm_27 : (Jvm.Cond.code ({ cls := "java/lang/Object", name := "<init>", desc := "()V" } : Jvm.MethodName) object_method_1_code (1 : Nat) (Option.none : Option Jvm.ClassFile.FieldType)) ∈ wA := wA_of 27 (by decide +kernel) (by decide +kernel)
theorem wm_28 : (Jvm.Cond.fieldLink "WaveBlocks" (9 : Nat) "WaveBlocks" "coefficientGrid" "[I") ∈ wA := wA_of 28 (by decide +kernel) (by decide +kernel)
theorem wm_29 : (Jvm.Cond.fieldLink "WaveBlocks" (13 : Nat) "WaveBlocks" "stepGrid" "[I") ∈ wA := wA_of 29 (by decide +kernel) (by decide +kernel)
theorem wm_30 : (Jvm.Cond.fieldLink "WaveBlocks" (16 : Nat) "WaveBlocks" "sampleGrid" "[I") ∈ wA := wA_of 30 (by decide +kernel) (by decide +kernel)
theorem wm_31 : (Jvm.Cond.fieldLink "WaveBlocks" (19 : Nat) "WaveBlocks" "keptGrid" "[I") ∈ wA := wA_of 31 (by decide +kernel) (by decide +kernel)
theorem wm_32 : (Jvm.Cond.fieldLink "WaveBlocks" (22 : Nat) "WaveBlocks" "halfwayGrid" "[J") ∈ wA := wA_of 32 (by decide +kernel) (by decide +kernel)
theorem wm_33 : (Jvm.Cond.laysFinal "WaveBlocks" "WaveBlocks" "coefficientGrid" "[I") ∈ wA := wA_of 33 (by decide +kernel) (by decide +kernel)
theorem wm_35 : (Jvm.Cond.laysFinal "WaveBlocks" "WaveBlocks" "stepGrid" "[I") ∈ wA := wA_of 35 (by decide +kernel) (by decide +kernel)
theorem wm_37 : (Jvm.Cond.laysFinal "WaveBlocks" "WaveBlocks" "sampleGrid" "[I") ∈ wA := wA_of 37 (by decide +kernel) (by decide +kernel)
theorem wm_39 : (Jvm.Cond.laysFinal "WaveBlocks" "WaveBlocks" "keptGrid" "[I") ∈ wA := wA_of 39 (by decide +kernel) (by decide +kernel)
theorem wm_41 : (Jvm.Cond.laysFinal "WaveBlocks" "WaveBlocks" "halfwayGrid" "[J") ∈ wA := wA_of 41 (by decide +kernel) (by decide +kernel)
theorem wm_44 : (Jvm.Cond.arrayClass Jvm.ClassFile.FieldType.int) ∈ wA := wA_of 44 (by decide +kernel) (by decide +kernel)
theorem wm_45 : (Jvm.Cond.arrayClass Jvm.ClassFile.FieldType.long) ∈ wA := wA_of 45 (by decide +kernel) (by decide +kernel)
theorem wm_46 : (Jvm.Cond.methodLink "WaveBlocksLaw" (78 : Nat) ({ cls := "WaveBlocks", name := "forward", desc := "()I" } : Jvm.MethodName)) ∈ wA := wA_of 46 (by decide +kernel) (by decide +kernel)
theorem wm_47 : (Jvm.Cond.instanceMethod ({ cls := "WaveBlocks", name := "forward", desc := "()I" } : Jvm.MethodName)) ∈ wA := wA_of 47 (by decide +kernel) (by decide +kernel)
theorem wm_48 : (Jvm.Cond.selects "WaveBlocks" ({ cls := "WaveBlocks", name := "forward", desc := "()I" } : Jvm.MethodName) ({ cls := "WaveBlocks", name := "forward", desc := "()I" } : Jvm.MethodName)) ∈ wA := wA_of 48 (by decide +kernel) (by decide +kernel)
theorem wm_49 : (Jvm.Cond.code ({ cls := "WaveBlocks", name := "forward", desc := "()I" } : Jvm.MethodName) prog_1_method_7_code (4 : Nat) (Option.some Jvm.ClassFile.FieldType.int)) ∈ wA := wA_of 49 (by decide +kernel) (by decide +kernel)
theorem wm_50 : (Jvm.Cond.methodLink "WaveBlocks" (72 : Nat) ({ cls := "WaveBlocks", name := "forwardDown", desc := "(I)V" } : Jvm.MethodName)) ∈ wA := wA_of 50 (by decide +kernel) (by decide +kernel)
theorem wm_52 : (Jvm.Cond.instanceMethod ({ cls := "WaveBlocks", name := "forwardDown", desc := "(I)V" } : Jvm.MethodName)) ∈ wA := wA_of 52 (by decide +kernel) (by decide +kernel)
theorem wm_53 : (Jvm.Cond.code ({ cls := "WaveBlocks", name := "forwardDown", desc := "(I)V" } : Jvm.MethodName) prog_1_method_27_code (6 : Nat) (Option.none : Option Jvm.ClassFile.FieldType)) ∈ wA := wA_of 53 (by decide +kernel) (by decide +kernel)
theorem wm_54 : (Jvm.Cond.methodLink "WaveBlocks" (96 : Nat) ({ cls := "WaveBlocks", name := "waveAt", desc := "(III)I" } : Jvm.MethodName)) ∈ wA := wA_of 54 (by decide +kernel) (by decide +kernel)
theorem wm_55 : (Jvm.Cond.static ({ cls := "WaveBlocks", name := "waveAt", desc := "(III)I" } : Jvm.MethodName)) ∈ wA := wA_of 55 (by decide +kernel) (by decide +kernel)
theorem wm_56 : (Jvm.Cond.code ({ cls := "WaveBlocks", name := "waveAt", desc := "(III)I" } : Jvm.MethodName) prog_1_method_20_code (3 : Nat) (Option.some Jvm.ClassFile.FieldType.int)) ∈ wA := wA_of 56 (by decide +kernel) (by decide +kernel)
theorem wm_57 : (Jvm.Cond.fieldLink "WaveBlocks" (110 : Nat) "WaveBlocks" "QUARTER" "[I") ∈ wA := wA_of 57 (by decide +kernel) (by decide +kernel)
theorem wm_59 : (Jvm.Cond.methodLink "WaveBlocks" (113 : Nat) ({ cls := "WaveBlocks", name := "cosine", desc := "(I)I" } : Jvm.MethodName)) ∈ wA := wA_of 59 (by decide +kernel) (by decide +kernel)
theorem wm_60 : (Jvm.Cond.static ({ cls := "WaveBlocks", name := "cosine", desc := "(I)I" } : Jvm.MethodName)) ∈ wA := wA_of 60 (by decide +kernel) (by decide +kernel)
theorem wm_61 : (Jvm.Cond.code ({ cls := "WaveBlocks", name := "cosine", desc := "(I)I" } : Jvm.MethodName) prog_1_method_21_code (2 : Nat) (Option.some Jvm.ClassFile.FieldType.int)) ∈ wA := wA_of 61 (by decide +kernel) (by decide +kernel)
theorem wm_62 : (Jvm.Cond.methodLink "WaveBlocks" (121 : Nat) ({ cls := "WaveBlocks", name := "rounded", desc := "(JI)J" } : Jvm.MethodName)) ∈ wA := wA_of 62 (by decide +kernel) (by decide +kernel)
theorem wm_63 : (Jvm.Cond.static ({ cls := "WaveBlocks", name := "rounded", desc := "(JI)J" } : Jvm.MethodName)) ∈ wA := wA_of 63 (by decide +kernel) (by decide +kernel)
theorem wm_64 : (Jvm.Cond.code ({ cls := "WaveBlocks", name := "rounded", desc := "(JI)J" } : Jvm.MethodName) prog_1_method_22_code (3 : Nat) (Option.some Jvm.ClassFile.FieldType.long)) ∈ wA := wA_of 64 (by decide +kernel) (by decide +kernel)
theorem wm_65 : (Jvm.Cond.methodLink "WaveBlocks" (76 : Nat) ({ cls := "WaveBlocks", name := "forwardAcross", desc := "(II)I" } : Jvm.MethodName)) ∈ wA := wA_of 65 (by decide +kernel) (by decide +kernel)
theorem wm_67 : (Jvm.Cond.instanceMethod ({ cls := "WaveBlocks", name := "forwardAcross", desc := "(II)I" } : Jvm.MethodName)) ∈ wA := wA_of 67 (by decide +kernel) (by decide +kernel)
theorem wm_68 : (Jvm.Cond.code ({ cls := "WaveBlocks", name := "forwardAcross", desc := "(II)I" } : Jvm.MethodName) prog_1_method_28_code (6 : Nat) (Option.some Jvm.ClassFile.FieldType.int)) ∈ wA := wA_of 68 (by decide +kernel) (by decide +kernel)
theorem wm_69 : (Jvm.Cond.methodLink "WaveBlocks" (80 : Nat) ({ cls := "WaveBlocks", name := "nearest", desc := "(II)I" } : Jvm.MethodName)) ∈ wA := wA_of 69 (by decide +kernel) (by decide +kernel)
theorem wm_70 : (Jvm.Cond.static ({ cls := "WaveBlocks", name := "nearest", desc := "(II)I" } : Jvm.MethodName)) ∈ wA := wA_of 70 (by decide +kernel) (by decide +kernel)
theorem wm_71 : (Jvm.Cond.code ({ cls := "WaveBlocks", name := "nearest", desc := "(II)I" } : Jvm.MethodName) prog_1_method_24_code (3 : Nat) (Option.some Jvm.ClassFile.FieldType.int)) ∈ wA := wA_of 71 (by decide +kernel) (by decide +kernel)
theorem wm_72 : (Jvm.Cond.methodLink "WaveBlocks" (116 : Nat) ({ cls := "java/lang/Math", name := "abs", desc := "(I)I" } : Jvm.MethodName)) ∈ wA := wA_of 72 (by decide +kernel) (by decide +kernel)
theorem wm_73 : (Jvm.Cond.static ({ cls := "java/lang/Math", name := "abs", desc := "(I)I" } : Jvm.MethodName)) ∈ wA := wA_of 73 (by decide +kernel) (by decide +kernel)
theorem wm_74 : (Jvm.Cond.code ({ cls := "java/lang/Math", name := "abs", desc := "(I)I" } : Jvm.MethodName) prog_7_method_59_code (1 : Nat) (Option.some Jvm.ClassFile.FieldType.int)) ∈ wA := wA_of 74 (by decide +kernel) (by decide +kernel)
theorem wm_75 : (Jvm.Cond.methodLink "WaveBlocks" (83 : Nat) ({ cls := "WaveBlocks", name := "countOfCoefficients", desc := "()I" } : Jvm.MethodName)) ∈ wA := wA_of 75 (by decide +kernel) (by decide +kernel)
theorem wm_77 : (Jvm.Cond.instanceMethod ({ cls := "WaveBlocks", name := "countOfCoefficients", desc := "()I" } : Jvm.MethodName)) ∈ wA := wA_of 77 (by decide +kernel) (by decide +kernel)
theorem wm_78 : (Jvm.Cond.code ({ cls := "WaveBlocks", name := "countOfCoefficients", desc := "()I" } : Jvm.MethodName) prog_1_method_29_code (3 : Nat) (Option.some Jvm.ClassFile.FieldType.int)) ∈ wA := wA_of 78 (by decide +kernel) (by decide +kernel)
theorem wm_79 : (Jvm.Cond.methodLink "WaveBlocksLaw" (82 : Nat) ({ cls := "WaveBlocks", name := "keep", desc := "()V" } : Jvm.MethodName)) ∈ wA := wA_of 79 (by decide +kernel) (by decide +kernel)
theorem wm_80 : (Jvm.Cond.instanceMethod ({ cls := "WaveBlocks", name := "keep", desc := "()V" } : Jvm.MethodName)) ∈ wA := wA_of 80 (by decide +kernel) (by decide +kernel)
theorem wm_81 : (Jvm.Cond.selects "WaveBlocks" ({ cls := "WaveBlocks", name := "keep", desc := "()V" } : Jvm.MethodName) ({ cls := "WaveBlocks", name := "keep", desc := "()V" } : Jvm.MethodName)) ∈ wA := wA_of 81 (by decide +kernel) (by decide +kernel)
theorem wm_82 : (Jvm.Cond.code ({ cls := "WaveBlocks", name := "keep", desc := "()V" } : Jvm.MethodName) prog_1_method_8_code (2 : Nat) (Option.none : Option Jvm.ClassFile.FieldType)) ∈ wA := wA_of 82 (by decide +kernel) (by decide +kernel)
theorem wm_83 : (Jvm.Cond.methodLink "WaveBlocksLaw" (89 : Nat) ({ cls := "WaveBlocks", name := "clear", desc := "()V" } : Jvm.MethodName)) ∈ wA := wA_of 83 (by decide +kernel) (by decide +kernel)
theorem wm_84 : (Jvm.Cond.instanceMethod ({ cls := "WaveBlocks", name := "clear", desc := "()V" } : Jvm.MethodName)) ∈ wA := wA_of 84 (by decide +kernel) (by decide +kernel)
theorem wm_85 : (Jvm.Cond.selects "WaveBlocks" ({ cls := "WaveBlocks", name := "clear", desc := "()V" } : Jvm.MethodName) ({ cls := "WaveBlocks", name := "clear", desc := "()V" } : Jvm.MethodName)) ∈ wA := wA_of 85 (by decide +kernel) (by decide +kernel)
theorem wm_86 : (Jvm.Cond.code ({ cls := "WaveBlocks", name := "clear", desc := "()V" } : Jvm.MethodName) prog_1_method_10_code (2 : Nat) (Option.none : Option Jvm.ClassFile.FieldType)) ∈ wA := wA_of 86 (by decide +kernel) (by decide +kernel)
theorem wm_87 : (Jvm.Cond.methodLink "WaveBlocksLaw" (97 : Nat) ({ cls := "WaveBlocks", name := "order", desc := "(II)I" } : Jvm.MethodName)) ∈ wA := wA_of 87 (by decide +kernel) (by decide +kernel)
theorem wm_88 : (Jvm.Cond.instanceMethod ({ cls := "WaveBlocks", name := "order", desc := "(II)I" } : Jvm.MethodName)) ∈ wA := wA_of 88 (by decide +kernel) (by decide +kernel)
theorem wm_89 : (Jvm.Cond.selects "WaveBlocks" ({ cls := "WaveBlocks", name := "order", desc := "(II)I" } : Jvm.MethodName) ({ cls := "WaveBlocks", name := "order", desc := "(II)I" } : Jvm.MethodName)) ∈ wA := wA_of 89 (by decide +kernel) (by decide +kernel)
theorem wm_90 : (Jvm.Cond.code ({ cls := "WaveBlocks", name := "order", desc := "(II)I" } : Jvm.MethodName) prog_1_method_12_code (3 : Nat) (Option.some Jvm.ClassFile.FieldType.int)) ∈ wA := wA_of 90 (by decide +kernel) (by decide +kernel)
theorem wm_91 : (Jvm.Cond.methodLink "WaveBlocks" (53 : Nat) ({ cls := "WaveBlocks", name := "isLine", desc := "(I)Z" } : Jvm.MethodName)) ∈ wA := wA_of 91 (by decide +kernel) (by decide +kernel)
theorem wm_92 : (Jvm.Cond.static ({ cls := "WaveBlocks", name := "isLine", desc := "(I)Z" } : Jvm.MethodName)) ∈ wA := wA_of 92 (by decide +kernel) (by decide +kernel)
theorem wm_93 : (Jvm.Cond.code ({ cls := "WaveBlocks", name := "isLine", desc := "(I)Z" } : Jvm.MethodName) prog_1_method_18_code (1 : Nat) (Option.some Jvm.ClassFile.FieldType.boolean)) ∈ wA := wA_of 93 (by decide +kernel) (by decide +kernel)
theorem wm_94 : (Jvm.Cond.fieldLink "WaveBlocks" (91 : Nat) "WaveBlocks" "PLACE_OF_CELL" "[I") ∈ wA := wA_of 94 (by decide +kernel) (by decide +kernel)
theorem wm_96 : (Jvm.Cond.methodLink "WaveBlocksLaw" (101 : Nat) ({ cls := "WaveBlocks", name := "samples", desc := "(I)J" } : Jvm.MethodName)) ∈ wA := wA_of 96 (by decide +kernel) (by decide +kernel)
theorem wm_97 : (Jvm.Cond.instanceMethod ({ cls := "WaveBlocks", name := "samples", desc := "(I)J" } : Jvm.MethodName)) ∈ wA := wA_of 97 (by decide +kernel) (by decide +kernel)
theorem wm_98 : (Jvm.Cond.selects "WaveBlocks" ({ cls := "WaveBlocks", name := "samples", desc := "(I)J" } : Jvm.MethodName) ({ cls := "WaveBlocks", name := "samples", desc := "(I)J" } : Jvm.MethodName)) ∈ wA := wA_of 98 (by decide +kernel) (by decide +kernel)
theorem wm_99 : (Jvm.Cond.code ({ cls := "WaveBlocks", name := "samples", desc := "(I)J" } : Jvm.MethodName) prog_1_method_13_code (5 : Nat) (Option.some Jvm.ClassFile.FieldType.long)) ∈ wA := wA_of 99 (by decide +kernel) (by decide +kernel)
theorem wm_100 : (Jvm.Cond.methodLink "WaveBlocksLaw" (112 : Nat) ({ cls := "WaveBlocks", name := "look", desc := "(I)I" } : Jvm.MethodName)) ∈ wA := wA_of 100 (by decide +kernel) (by decide +kernel)
theorem wm_101 : (Jvm.Cond.instanceMethod ({ cls := "WaveBlocks", name := "look", desc := "(I)I" } : Jvm.MethodName)) ∈ wA := wA_of 101 (by decide +kernel) (by decide +kernel)
theorem wm_102 : (Jvm.Cond.selects "WaveBlocks" ({ cls := "WaveBlocks", name := "look", desc := "(I)I" } : Jvm.MethodName) ({ cls := "WaveBlocks", name := "look", desc := "(I)I" } : Jvm.MethodName)) ∈ wA := wA_of 102 (by decide +kernel) (by decide +kernel)
theorem wm_103 : (Jvm.Cond.code ({ cls := "WaveBlocks", name := "look", desc := "(I)I" } : Jvm.MethodName) prog_1_method_16_code (2 : Nat) (Option.some Jvm.ClassFile.FieldType.int)) ∈ wA := wA_of 103 (by decide +kernel) (by decide +kernel)
theorem wm_104 : (Jvm.Cond.methodLink "WaveBlocks" (100 : Nat) ({ cls := "WaveBlocks", name := "lastPlace", desc := "()I" } : Jvm.MethodName)) ∈ wA := wA_of 104 (by decide +kernel) (by decide +kernel)
theorem wm_106 : (Jvm.Cond.instanceMethod ({ cls := "WaveBlocks", name := "lastPlace", desc := "()I" } : Jvm.MethodName)) ∈ wA := wA_of 106 (by decide +kernel) (by decide +kernel)
theorem wm_107 : (Jvm.Cond.code ({ cls := "WaveBlocks", name := "lastPlace", desc := "()I" } : Jvm.MethodName) prog_1_method_30_code (2 : Nat) (Option.some Jvm.ClassFile.FieldType.int)) ∈ wA := wA_of 107 (by decide +kernel) (by decide +kernel)
theorem wm_108 : (Jvm.Cond.fieldLink "WaveBlocks" (42 : Nat) "WaveBlocks" "CELL_OF_PLACE" "[I") ∈ wA := wA_of 108 (by decide +kernel) (by decide +kernel)
theorem wm_110 : (Jvm.Cond.methodLink "WaveBlocks" (103 : Nat) ({ cls := "WaveBlocks", name := "sumOf", desc := "([I)I" } : Jvm.MethodName)) ∈ wA := wA_of 110 (by decide +kernel) (by decide +kernel)
theorem wm_111 : (Jvm.Cond.static ({ cls := "WaveBlocks", name := "sumOf", desc := "([I)I" } : Jvm.MethodName)) ∈ wA := wA_of 111 (by decide +kernel) (by decide +kernel)
theorem wm_112 : (Jvm.Cond.code ({ cls := "WaveBlocks", name := "sumOf", desc := "([I)I" } : Jvm.MethodName) prog_1_method_32_code (6 : Nat) (Option.some Jvm.ClassFile.FieldType.int)) ∈ wA := wA_of 112 (by decide +kernel) (by decide +kernel)
theorem wm_113 : (Jvm.Cond.methodLink "WaveBlocks" (107 : Nat) ({ cls := "WaveBlocks", name := "sumOfMagnitudes", desc := "()I" } : Jvm.MethodName)) ∈ wA := wA_of 113 (by decide +kernel) (by decide +kernel)
theorem wm_115 : (Jvm.Cond.instanceMethod ({ cls := "WaveBlocks", name := "sumOfMagnitudes", desc := "()I" } : Jvm.MethodName)) ∈ wA := wA_of 115 (by decide +kernel) (by decide +kernel)
theorem wm_116 : (Jvm.Cond.code ({ cls := "WaveBlocks", name := "sumOfMagnitudes", desc := "()I" } : Jvm.MethodName) prog_1_method_31_code (3 : Nat) (Option.some Jvm.ClassFile.FieldType.int)) ∈ wA := wA_of 116 (by decide +kernel) (by decide +kernel)
theorem wm_117 : (Jvm.Cond.methodLink "WaveBlocksLaw" (51 : Nat) ({ cls := "WaveBlocksLaw", name := "put", desc := "(LWaveBlocks;II)I" } : Jvm.MethodName)) ∈ wA := wA_of 117 (by decide +kernel) (by decide +kernel)
theorem wm_118 : (Jvm.Cond.static ({ cls := "WaveBlocksLaw", name := "put", desc := "(LWaveBlocks;II)I" } : Jvm.MethodName)) ∈ wA := wA_of 118 (by decide +kernel) (by decide +kernel)
theorem wm_119 : (Jvm.Cond.codeWith ({ cls := "WaveBlocksLaw", name := "put", desc := "(LWaveBlocks;II)I" } : Jvm.MethodName) method_3_code (4 : Nat) (Option.some Jvm.ClassFile.FieldType.int) [((0 : Nat), (6 : Nat), (9 : Nat), (13 : Nat)), ((0 : Nat), (6 : Nat), (12 : Nat), (15 : Nat))]) ∈ wA := wA_of 119 (by decide +kernel) (by decide +kernel)
theorem wm_120 : (Jvm.Cond.classLink "WaveBlocksLaw" (13 : Nat) "java/lang/IndexOutOfBoundsException") ∈ wA := wA_of 120 (by decide +kernel) (by decide +kernel)
theorem wm_121 : (Jvm.Cond.classLink "WaveBlocksLaw" (15 : Nat) "java/lang/IllegalArgumentException") ∈ wA := wA_of 121 (by decide +kernel) (by decide +kernel)
theorem wm_122 : (Jvm.Cond.methodLink "WaveBlocksLaw" (7 : Nat) ({ cls := "WaveBlocks", name := "put", desc := "(II)V" } : Jvm.MethodName)) ∈ wA := wA_of 122 (by decide +kernel) (by decide +kernel)
theorem wm_123 : (Jvm.Cond.instanceMethod ({ cls := "WaveBlocks", name := "put", desc := "(II)V" } : Jvm.MethodName)) ∈ wA := wA_of 123 (by decide +kernel) (by decide +kernel)
theorem wm_124 : (Jvm.Cond.selects "WaveBlocks" ({ cls := "WaveBlocks", name := "put", desc := "(II)V" } : Jvm.MethodName) ({ cls := "WaveBlocks", name := "put", desc := "(II)V" } : Jvm.MethodName)) ∈ wA := wA_of 124 (by decide +kernel) (by decide +kernel)
theorem wm_125 : (Jvm.Cond.code ({ cls := "WaveBlocks", name := "put", desc := "(II)V" } : Jvm.MethodName) prog_1_method_2_code (3 : Nat) (Option.none : Option Jvm.ClassFile.FieldType)) ∈ wA := wA_of 125 (by decide +kernel) (by decide +kernel)
theorem wm_126 : (Jvm.Cond.methodLink "WaveBlocks" (26 : Nat) ({ cls := "WaveBlocks", name := "isPlace", desc := "(I)Z" } : Jvm.MethodName)) ∈ wA := wA_of 126 (by decide +kernel) (by decide +kernel)
theorem wm_127 : (Jvm.Cond.static ({ cls := "WaveBlocks", name := "isPlace", desc := "(I)Z" } : Jvm.MethodName)) ∈ wA := wA_of 127 (by decide +kernel) (by decide +kernel)
theorem wm_128 : (Jvm.Cond.code ({ cls := "WaveBlocks", name := "isPlace", desc := "(I)Z" } : Jvm.MethodName) prog_1_method_17_code (1 : Nat) (Option.some Jvm.ClassFile.FieldType.boolean)) ∈ wA := wA_of 128 (by decide +kernel) (by decide +kernel)
theorem wm_129 : (Jvm.Cond.classLink "WaveBlocks" (30 : Nat) "java/lang/IndexOutOfBoundsException") ∈ wA := wA_of 129 (by decide +kernel) (by decide +kernel)
theorem wm_130 : (Jvm.Cond.instantiable "java/lang/IndexOutOfBoundsException" (6 : Nat)) ∈ wA := wA_of 130 (by decide +kernel) (by decide +kernel)
theorem wm_138 : (Jvm.Cond.selects "java/lang/IndexOutOfBoundsException" ({ cls := "java/lang/Throwable", name := "fillInStackTrace", desc := "(I)Ljava/lang/Throwable;" } : Jvm.MethodName) ({ cls := "java/lang/Throwable", name := "fillInStackTrace", desc := "(I)Ljava/lang/Throwable;" } : Jvm.MethodName)) ∈ wA := wA_of 138 (by decide +kernel) (by decide +kernel)
theorem wm_139 : (Jvm.Cond.selects "java/lang/IndexOutOfBoundsException" ({ cls := "java/lang/Throwable", name := "fillInStackTrace", desc := "()Ljava/lang/Throwable;" } : Jvm.MethodName) ({ cls := "java/lang/Throwable", name := "fillInStackTrace", desc := "()Ljava/lang/Throwable;" } : Jvm.MethodName)) ∈ wA := wA_of 139 (by decide +kernel) (by decide +kernel)
theorem wm_140 : (Jvm.Cond.lays "java/lang/IndexOutOfBoundsException" "java/lang/Throwable" "cause" "Ljava/lang/Throwable;") ∈ wA := wA_of 140 (by decide +kernel) (by decide +kernel)
theorem wm_141 : (Jvm.Cond.lays "java/lang/Throwable" "java/lang/Throwable" "cause" "Ljava/lang/Throwable;") ∈ wA := wA_of 141 (by decide +kernel) (by decide +kernel)
theorem wm_142 : (Jvm.Cond.lays "java/lang/IndexOutOfBoundsException" "java/lang/Throwable" "stackTrace" "[Ljava/lang/StackTraceElement;") ∈ wA := wA_of 142 (by decide +kernel) (by decide +kernel)
theorem wm_143 : (Jvm.Cond.lays "java/lang/Throwable" "java/lang/Throwable" "stackTrace" "[Ljava/lang/StackTraceElement;") ∈ wA := wA_of 143 (by decide +kernel) (by decide +kernel)
theorem wm_144 : (Jvm.Cond.lays "java/lang/IndexOutOfBoundsException" "java/lang/Throwable" "suppressedExceptions" "Ljava/util/List;") ∈ wA := wA_of 144 (by decide +kernel) (by decide +kernel)
theorem wm_145 : (Jvm.Cond.lays "java/lang/Throwable" "java/lang/Throwable" "suppressedExceptions" "Ljava/util/List;") ∈ wA := wA_of 145 (by decide +kernel) (by decide +kernel)
theorem wm_146 : (Jvm.Cond.lays "java/lang/IndexOutOfBoundsException" "java/lang/Throwable" "detailMessage" "Ljava/lang/String;") ∈ wA := wA_of 146 (by decide +kernel) (by decide +kernel)
theorem wm_147 : (Jvm.Cond.lays "java/lang/Throwable" "java/lang/Throwable" "detailMessage" "Ljava/lang/String;") ∈ wA := wA_of 147 (by decide +kernel) (by decide +kernel)
theorem wm_148 : (Jvm.Cond.lays "java/lang/IndexOutOfBoundsException" "java/lang/Throwable" "backtrace" "Ljava/lang/Object;") ∈ wA := wA_of 148 (by decide +kernel) (by decide +kernel)
theorem wm_149 : (Jvm.Cond.lays "java/lang/Throwable" "java/lang/Throwable" "backtrace" "Ljava/lang/Object;") ∈ wA := wA_of 149 (by decide +kernel) (by decide +kernel)
theorem wm_150 : (Jvm.Cond.fieldLink "java/lang/Throwable" (198 : Nat) "java/lang/Throwable" "backtrace" "Ljava/lang/Object;") ∈ wA := wA_of 150 (by decide +kernel) (by decide +kernel)
theorem wm_152 : (Jvm.Cond.instanceMethod ({ cls := "java/lang/Throwable", name := "<init>", desc := "()V" } : Jvm.MethodName)) ∈ wA := wA_of 152 (by decide +kernel) (by decide +kernel)
theorem wm_153 : (Jvm.Cond.code ({ cls := "java/lang/Throwable", name := "<init>", desc := "()V" } : Jvm.MethodName) prog_10_method_1_code (1 : Nat) (Option.none : Option Jvm.ClassFile.FieldType)) ∈ wA := wA_of 153 (by decide +kernel) (by decide +kernel)
theorem wm_154 : (Jvm.Cond.methodLink "java/lang/Throwable" (1 : Nat) ({ cls := "java/lang/Object", name := "<init>", desc := "()V" } : Jvm.MethodName)) ∈ wA := wA_of 154 (by decide +kernel) (by decide +kernel)
theorem wm_155 : (Jvm.Cond.fieldLink "java/lang/Throwable" (13 : Nat) "java/lang/Throwable" "UNASSIGNED_STACK" "[Ljava/lang/StackTraceElement;") ∈ wA := wA_of 155 (by decide +kernel) (by decide +kernel)
theorem wm_157 : (Jvm.Cond.fieldLink "java/lang/Throwable" (20 : Nat) "java/lang/Throwable" "SUPPRESSED_SENTINEL" "Ljava/util/List;") ∈ wA := wA_of 157 (by decide +kernel) (by decide +kernel)
theorem wm_159 : (Jvm.Cond.methodLink "java/lang/Throwable" (27 : Nat) ({ cls := "java/lang/Throwable", name := "fillInStackTrace", desc := "()Ljava/lang/Throwable;" } : Jvm.MethodName)) ∈ wA := wA_of 159 (by decide +kernel) (by decide +kernel)
theorem wm_160 : (Jvm.Cond.instanceMethod ({ cls := "java/lang/Throwable", name := "fillInStackTrace", desc := "()Ljava/lang/Throwable;" } : Jvm.MethodName)) ∈ wA := wA_of 160 (by decide +kernel) (by decide +kernel)
theorem wm_162 : (Jvm.Cond.selects "java/lang/IllegalArgumentException" ({ cls := "java/lang/Throwable", name := "fillInStackTrace", desc := "()Ljava/lang/Throwable;" } : Jvm.MethodName) ({ cls := "java/lang/Throwable", name := "fillInStackTrace", desc := "()Ljava/lang/Throwable;" } : Jvm.MethodName)) ∈ wA := wA_of 162 (by decide +kernel) (by decide +kernel)
theorem wm_164 : (Jvm.Cond.methodLink "java/lang/Throwable" (202 : Nat) ({ cls := "java/lang/Throwable", name := "fillInStackTrace", desc := "(I)Ljava/lang/Throwable;" } : Jvm.MethodName)) ∈ wA := wA_of 164 (by decide +kernel) (by decide +kernel)
theorem wm_166 : (Jvm.Cond.instanceMethod ({ cls := "java/lang/Throwable", name := "fillInStackTrace", desc := "(I)Ljava/lang/Throwable;" } : Jvm.MethodName)) ∈ wA := wA_of 166 (by decide +kernel) (by decide +kernel)
theorem wm_167 : (Jvm.Cond.instantiable "java/lang/Throwable" (6 : Nat)) ∈ wA := wA_of 167 (by decide +kernel) (by decide +kernel)
theorem wm_170 : (Jvm.Cond.methodLink "WaveBlocks" (34 : Nat) ({ cls := "java/lang/IndexOutOfBoundsException", name := "<init>", desc := "(Ljava/lang/String;)V" } : Jvm.MethodName)) ∈ wA := wA_of 170 (by decide +kernel) (by decide +kernel)
theorem wm_171 : (Jvm.Cond.instanceMethod ({ cls := "java/lang/IndexOutOfBoundsException", name := "<init>", desc := "(Ljava/lang/String;)V" } : Jvm.MethodName)) ∈ wA := wA_of 171 (by decide +kernel) (by decide +kernel)
theorem wm_172 : (Jvm.Cond.code ({ cls := "java/lang/IndexOutOfBoundsException", name := "<init>", desc := "(Ljava/lang/String;)V" } : Jvm.MethodName) prog_6_method_2_code (2 : Nat) (Option.none : Option Jvm.ClassFile.FieldType)) ∈ wA := wA_of 172 (by decide +kernel) (by decide +kernel)
theorem wm_173 : (Jvm.Cond.methodLink "java/lang/IndexOutOfBoundsException" (7 : Nat) ({ cls := "java/lang/RuntimeException", name := "<init>", desc := "(Ljava/lang/String;)V" } : Jvm.MethodName)) ∈ wA := wA_of 173 (by decide +kernel) (by decide +kernel)
theorem wm_174 : (Jvm.Cond.instanceMethod ({ cls := "java/lang/RuntimeException", name := "<init>", desc := "(Ljava/lang/String;)V" } : Jvm.MethodName)) ∈ wA := wA_of 174 (by decide +kernel) (by decide +kernel)
theorem wm_175 : (Jvm.Cond.code ({ cls := "java/lang/RuntimeException", name := "<init>", desc := "(Ljava/lang/String;)V" } : Jvm.MethodName) prog_8_method_2_code (2 : Nat) (Option.none : Option Jvm.ClassFile.FieldType)) ∈ wA := wA_of 175 (by decide +kernel) (by decide +kernel)
theorem wm_176 : (Jvm.Cond.methodLink "java/lang/RuntimeException" (7 : Nat) ({ cls := "java/lang/Exception", name := "<init>", desc := "(Ljava/lang/String;)V" } : Jvm.MethodName)) ∈ wA := wA_of 176 (by decide +kernel) (by decide +kernel)
theorem wm_177 : (Jvm.Cond.instanceMethod ({ cls := "java/lang/Exception", name := "<init>", desc := "(Ljava/lang/String;)V" } : Jvm.MethodName)) ∈ wA := wA_of 177 (by decide +kernel) (by decide +kernel)
theorem wm_178 : (Jvm.Cond.code ({ cls := "java/lang/Exception", name := "<init>", desc := "(Ljava/lang/String;)V" } : Jvm.MethodName) prog_4_method_2_code (2 : Nat) (Option.none : Option Jvm.ClassFile.FieldType)) ∈ wA := wA_of 178 (by decide +kernel) (by decide +kernel)
theorem wm_179 : (Jvm.Cond.methodLink "java/lang/Exception" (7 : Nat) ({ cls := "java/lang/Throwable", name := "<init>", desc := "(Ljava/lang/String;)V" } : Jvm.MethodName)) ∈ wA := wA_of 179 (by decide +kernel) (by decide +kernel)
theorem wm_180 : (Jvm.Cond.instanceMethod ({ cls := "java/lang/Throwable", name := "<init>", desc := "(Ljava/lang/String;)V" } : Jvm.MethodName)) ∈ wA := wA_of 180 (by decide +kernel) (by decide +kernel)
theorem wm_181 : (Jvm.Cond.code ({ cls := "java/lang/Throwable", name := "<init>", desc := "(Ljava/lang/String;)V" } : Jvm.MethodName) prog_10_method_2_code (2 : Nat) (Option.none : Option Jvm.ClassFile.FieldType)) ∈ wA := wA_of 181 (by decide +kernel) (by decide +kernel)
theorem wm_182 : (Jvm.Cond.fieldLink "java/lang/Throwable" (198 : Nat) "java/lang/Throwable" "backtrace" "Ljava/lang/Object;") ∈ wA := wA_of 182 (by decide +kernel) (by decide +kernel)
theorem wm_183 : (Jvm.Cond.fieldLink "java/lang/Throwable" (31 : Nat) "java/lang/Throwable" "detailMessage" "Ljava/lang/String;") ∈ wA := wA_of 183 (by decide +kernel) (by decide +kernel)
theorem wm_184 : (Jvm.Cond.fieldLink "java/lang/Throwable" (7 : Nat) "java/lang/Throwable" "cause" "Ljava/lang/Throwable;") ∈ wA := wA_of 184 (by decide +kernel) (by decide +kernel)
theorem wm_185 : (Jvm.Cond.fieldLink "java/lang/Throwable" (17 : Nat) "java/lang/Throwable" "stackTrace" "[Ljava/lang/StackTraceElement;") ∈ wA := wA_of 185 (by decide +kernel) (by decide +kernel)
theorem wm_186 : (Jvm.Cond.fieldLink "java/lang/Throwable" (24 : Nat) "java/lang/Throwable" "suppressedExceptions" "Ljava/util/List;") ∈ wA := wA_of 186 (by decide +kernel) (by decide +kernel)
theorem wm_191 : (Jvm.Cond.lays "java/lang/IndexOutOfBoundsException" "java/lang/Throwable" "depth" "I") ∈ wA := wA_of 191 (by decide +kernel) (by decide +kernel)
theorem wm_195 : (Jvm.Cond.arrayClass Jvm.ClassFile.FieldType.byte) ∈ wA := wA_of 195 (by decide +kernel) (by decide +kernel)
theorem wm_196 : (Jvm.Cond.classLink "WaveBlocks" (37 : Nat) "java/lang/IllegalArgumentException") ∈ wA := wA_of 196 (by decide +kernel) (by decide +kernel)
theorem wm_197 : (Jvm.Cond.instantiable "java/lang/IllegalArgumentException" (6 : Nat)) ∈ wA := wA_of 197 (by decide +kernel) (by decide +kernel)
theorem wm_199 : (Jvm.Cond.selects "java/lang/IllegalArgumentException" ({ cls := "java/lang/Throwable", name := "fillInStackTrace", desc := "(I)Ljava/lang/Throwable;" } : Jvm.MethodName) ({ cls := "java/lang/Throwable", name := "fillInStackTrace", desc := "(I)Ljava/lang/Throwable;" } : Jvm.MethodName)) ∈ wA := wA_of 199 (by decide +kernel) (by decide +kernel)
theorem wm_200 : (Jvm.Cond.lays "java/lang/IllegalArgumentException" "java/lang/Throwable" "cause" "Ljava/lang/Throwable;") ∈ wA := wA_of 200 (by decide +kernel) (by decide +kernel)
theorem wm_201 : (Jvm.Cond.lays "java/lang/IllegalArgumentException" "java/lang/Throwable" "stackTrace" "[Ljava/lang/StackTraceElement;") ∈ wA := wA_of 201 (by decide +kernel) (by decide +kernel)
theorem wm_202 : (Jvm.Cond.lays "java/lang/IllegalArgumentException" "java/lang/Throwable" "suppressedExceptions" "Ljava/util/List;") ∈ wA := wA_of 202 (by decide +kernel) (by decide +kernel)
theorem wm_203 : (Jvm.Cond.lays "java/lang/IllegalArgumentException" "java/lang/Throwable" "detailMessage" "Ljava/lang/String;") ∈ wA := wA_of 203 (by decide +kernel) (by decide +kernel)
theorem wm_204 : (Jvm.Cond.lays "java/lang/IllegalArgumentException" "java/lang/Throwable" "backtrace" "Ljava/lang/Object;") ∈ wA := wA_of 204 (by decide +kernel) (by decide +kernel)
theorem wm_206 : (Jvm.Cond.methodLink "WaveBlocks" (41 : Nat) ({ cls := "java/lang/IllegalArgumentException", name := "<init>", desc := "(Ljava/lang/String;)V" } : Jvm.MethodName)) ∈ wA := wA_of 206 (by decide +kernel) (by decide +kernel)
theorem wm_207 : (Jvm.Cond.instanceMethod ({ cls := "java/lang/IllegalArgumentException", name := "<init>", desc := "(Ljava/lang/String;)V" } : Jvm.MethodName)) ∈ wA := wA_of 207 (by decide +kernel) (by decide +kernel)
theorem wm_208 : (Jvm.Cond.code ({ cls := "java/lang/IllegalArgumentException", name := "<init>", desc := "(Ljava/lang/String;)V" } : Jvm.MethodName) prog_5_method_2_code (2 : Nat) (Option.none : Option Jvm.ClassFile.FieldType)) ∈ wA := wA_of 208 (by decide +kernel) (by decide +kernel)
theorem wm_209 : (Jvm.Cond.methodLink "java/lang/IllegalArgumentException" (7 : Nat) ({ cls := "java/lang/RuntimeException", name := "<init>", desc := "(Ljava/lang/String;)V" } : Jvm.MethodName)) ∈ wA := wA_of 209 (by decide +kernel) (by decide +kernel)
theorem wm_210 : (Jvm.Cond.lays "java/lang/IllegalArgumentException" "java/lang/Throwable" "depth" "I") ∈ wA := wA_of 210 (by decide +kernel) (by decide +kernel)
theorem wm_212 : (Jvm.Cond.methodLink "WaveBlocksLaw" (61 : Nat) ({ cls := "WaveBlocksLaw", name := "step", desc := "(LWaveBlocks;II)I" } : Jvm.MethodName)) ∈ wA := wA_of 212 (by decide +kernel) (by decide +kernel)
theorem wm_213 : (Jvm.Cond.static ({ cls := "WaveBlocksLaw", name := "step", desc := "(LWaveBlocks;II)I" } : Jvm.MethodName)) ∈ wA := wA_of 213 (by decide +kernel) (by decide +kernel)
theorem wm_214 : (Jvm.Cond.codeWith ({ cls := "WaveBlocksLaw", name := "step", desc := "(LWaveBlocks;II)I" } : Jvm.MethodName) method_4_code (4 : Nat) (Option.some Jvm.ClassFile.FieldType.int) [((0 : Nat), (6 : Nat), (9 : Nat), (13 : Nat)), ((0 : Nat), (6 : Nat), (12 : Nat), (15 : Nat))]) ∈ wA := wA_of 214 (by decide +kernel) (by decide +kernel)
theorem wm_215 : (Jvm.Cond.methodLink "WaveBlocksLaw" (17 : Nat) ({ cls := "WaveBlocks", name := "step", desc := "(II)V" } : Jvm.MethodName)) ∈ wA := wA_of 215 (by decide +kernel) (by decide +kernel)
theorem wm_216 : (Jvm.Cond.instanceMethod ({ cls := "WaveBlocks", name := "step", desc := "(II)V" } : Jvm.MethodName)) ∈ wA := wA_of 216 (by decide +kernel) (by decide +kernel)
theorem wm_217 : (Jvm.Cond.selects "WaveBlocks" ({ cls := "WaveBlocks", name := "step", desc := "(II)V" } : Jvm.MethodName) ({ cls := "WaveBlocks", name := "step", desc := "(II)V" } : Jvm.MethodName)) ∈ wA := wA_of 217 (by decide +kernel) (by decide +kernel)
theorem wm_218 : (Jvm.Cond.code ({ cls := "WaveBlocks", name := "step", desc := "(II)V" } : Jvm.MethodName) prog_1_method_3_code (3 : Nat) (Option.none : Option Jvm.ClassFile.FieldType)) ∈ wA := wA_of 218 (by decide +kernel) (by decide +kernel)
theorem wm_220 : (Jvm.Cond.methodLink "WaveBlocksLaw" (64 : Nat) ({ cls := "WaveBlocksLaw", name := "steps", desc := "(LWaveBlocks;III)I" } : Jvm.MethodName)) ∈ wA := wA_of 220 (by decide +kernel) (by decide +kernel)
theorem wm_221 : (Jvm.Cond.static ({ cls := "WaveBlocksLaw", name := "steps", desc := "(LWaveBlocks;III)I" } : Jvm.MethodName)) ∈ wA := wA_of 221 (by decide +kernel) (by decide +kernel)
theorem wm_222 : (Jvm.Cond.codeWith ({ cls := "WaveBlocksLaw", name := "steps", desc := "(LWaveBlocks;III)I" } : Jvm.MethodName) method_5_code (5 : Nat) (Option.some Jvm.ClassFile.FieldType.int) [((0 : Nat), (7 : Nat), (10 : Nat), (15 : Nat))]) ∈ wA := wA_of 222 (by decide +kernel) (by decide +kernel)
theorem wm_223 : (Jvm.Cond.methodLink "WaveBlocksLaw" (20 : Nat) ({ cls := "WaveBlocks", name := "steps", desc := "(III)V" } : Jvm.MethodName)) ∈ wA := wA_of 223 (by decide +kernel) (by decide +kernel)
theorem wm_224 : (Jvm.Cond.instanceMethod ({ cls := "WaveBlocks", name := "steps", desc := "(III)V" } : Jvm.MethodName)) ∈ wA := wA_of 224 (by decide +kernel) (by decide +kernel)
theorem wm_225 : (Jvm.Cond.selects "WaveBlocks" ({ cls := "WaveBlocks", name := "steps", desc := "(III)V" } : Jvm.MethodName) ({ cls := "WaveBlocks", name := "steps", desc := "(III)V" } : Jvm.MethodName)) ∈ wA := wA_of 225 (by decide +kernel) (by decide +kernel)
theorem wm_226 : (Jvm.Cond.code ({ cls := "WaveBlocks", name := "steps", desc := "(III)V" } : Jvm.MethodName) prog_1_method_4_code (7 : Nat) (Option.none : Option Jvm.ClassFile.FieldType)) ∈ wA := wA_of 226 (by decide +kernel) (by decide +kernel)
theorem wm_228 : (Jvm.Cond.methodLink "WaveBlocks" (49 : Nat) ({ cls := "WaveBlocks", name := "clamped", desc := "(JII)I" } : Jvm.MethodName)) ∈ wA := wA_of 228 (by decide +kernel) (by decide +kernel)
theorem wm_229 : (Jvm.Cond.static ({ cls := "WaveBlocks", name := "clamped", desc := "(JII)I" } : Jvm.MethodName)) ∈ wA := wA_of 229 (by decide +kernel) (by decide +kernel)
theorem wm_230 : (Jvm.Cond.code ({ cls := "WaveBlocks", name := "clamped", desc := "(JII)I" } : Jvm.MethodName) prog_1_method_23_code (4 : Nat) (Option.some Jvm.ClassFile.FieldType.int)) ∈ wA := wA_of 230 (by decide +kernel) (by decide +kernel)
theorem wm_231 : (Jvm.Cond.methodLink "WaveBlocksLaw" (70 : Nat) ({ cls := "WaveBlocksLaw", name := "row", desc := "(LWaveBlocks;IJ)I" } : Jvm.MethodName)) ∈ wA := wA_of 231 (by decide +kernel) (by decide +kernel)
theorem wm_232 : (Jvm.Cond.static ({ cls := "WaveBlocksLaw", name := "row", desc := "(LWaveBlocks;IJ)I" } : Jvm.MethodName)) ∈ wA := wA_of 232 (by decide +kernel) (by decide +kernel)
theorem wm_233 : (Jvm.Cond.codeWith ({ cls := "WaveBlocksLaw", name := "row", desc := "(LWaveBlocks;IJ)I" } : Jvm.MethodName) method_6_code (5 : Nat) (Option.some Jvm.ClassFile.FieldType.int) [((0 : Nat), (6 : Nat), (9 : Nat), (13 : Nat))]) ∈ wA := wA_of 233 (by decide +kernel) (by decide +kernel)
theorem wm_234 : (Jvm.Cond.methodLink "WaveBlocksLaw" (24 : Nat) ({ cls := "WaveBlocks", name := "row", desc := "(IJ)V" } : Jvm.MethodName)) ∈ wA := wA_of 234 (by decide +kernel) (by decide +kernel)
theorem wm_235 : (Jvm.Cond.instanceMethod ({ cls := "WaveBlocks", name := "row", desc := "(IJ)V" } : Jvm.MethodName)) ∈ wA := wA_of 235 (by decide +kernel) (by decide +kernel)
theorem wm_236 : (Jvm.Cond.selects "WaveBlocks" ({ cls := "WaveBlocks", name := "row", desc := "(IJ)V" } : Jvm.MethodName) ({ cls := "WaveBlocks", name := "row", desc := "(IJ)V" } : Jvm.MethodName)) ∈ wA := wA_of 236 (by decide +kernel) (by decide +kernel)
theorem wm_237 : (Jvm.Cond.code ({ cls := "WaveBlocks", name := "row", desc := "(IJ)V" } : Jvm.MethodName) prog_1_method_5_code (5 : Nat) (Option.none : Option Jvm.ClassFile.FieldType)) ∈ wA := wA_of 237 (by decide +kernel) (by decide +kernel)
theorem wm_239 : (Jvm.Cond.methodLink "WaveBlocksLaw" (74 : Nat) ({ cls := "WaveBlocksLaw", name := "back", desc := "(LWaveBlocks;I[J)I" } : Jvm.MethodName)) ∈ wA := wA_of 239 (by decide +kernel) (by decide +kernel)
theorem wm_240 : (Jvm.Cond.static ({ cls := "WaveBlocksLaw", name := "back", desc := "(LWaveBlocks;I[J)I" } : Jvm.MethodName)) ∈ wA := wA_of 240 (by decide +kernel) (by decide +kernel)
theorem wm_241 : (Jvm.Cond.codeWith ({ cls := "WaveBlocksLaw", name := "back", desc := "(LWaveBlocks;I[J)I" } : Jvm.MethodName) method_7_code (4 : Nat) (Option.some Jvm.ClassFile.FieldType.int) [((0 : Nat), (8 : Nat), (11 : Nat), (15 : Nat))]) ∈ wA := wA_of 241 (by decide +kernel) (by decide +kernel)
theorem wm_242 : (Jvm.Cond.methodLink "WaveBlocksLaw" (28 : Nat) ({ cls := "WaveBlocks", name := "back", desc := "(I)J" } : Jvm.MethodName)) ∈ wA := wA_of 242 (by decide +kernel) (by decide +kernel)
theorem wm_243 : (Jvm.Cond.instanceMethod ({ cls := "WaveBlocks", name := "back", desc := "(I)J" } : Jvm.MethodName)) ∈ wA := wA_of 243 (by decide +kernel) (by decide +kernel)
theorem wm_244 : (Jvm.Cond.selects "WaveBlocks" ({ cls := "WaveBlocks", name := "back", desc := "(I)J" } : Jvm.MethodName) ({ cls := "WaveBlocks", name := "back", desc := "(I)J" } : Jvm.MethodName)) ∈ wA := wA_of 244 (by decide +kernel) (by decide +kernel)
theorem wm_245 : (Jvm.Cond.code ({ cls := "WaveBlocks", name := "back", desc := "(I)J" } : Jvm.MethodName) prog_1_method_6_code (5 : Nat) (Option.some Jvm.ClassFile.FieldType.long)) ∈ wA := wA_of 245 (by decide +kernel) (by decide +kernel)
theorem wm_246 : (Jvm.Cond.methodLink "WaveBlocks" (58 : Nat) ({ cls := "WaveBlocks", name := "spreadOf", desc := "(I)I" } : Jvm.MethodName)) ∈ wA := wA_of 246 (by decide +kernel) (by decide +kernel)
theorem wm_247 : (Jvm.Cond.static ({ cls := "WaveBlocks", name := "spreadOf", desc := "(I)I" } : Jvm.MethodName)) ∈ wA := wA_of 247 (by decide +kernel) (by decide +kernel)
theorem wm_248 : (Jvm.Cond.code ({ cls := "WaveBlocks", name := "spreadOf", desc := "(I)I" } : Jvm.MethodName) prog_1_method_19_code (1 : Nat) (Option.some Jvm.ClassFile.FieldType.int)) ∈ wA := wA_of 248 (by decide +kernel) (by decide +kernel)
theorem wm_250 : (Jvm.Cond.methodLink "WaveBlocks" (64 : Nat) ({ cls := "WaveBlocks", name := "backDown", desc := "(II)J" } : Jvm.MethodName)) ∈ wA := wA_of 250 (by decide +kernel) (by decide +kernel)
theorem wm_252 : (Jvm.Cond.instanceMethod ({ cls := "WaveBlocks", name := "backDown", desc := "(II)J" } : Jvm.MethodName)) ∈ wA := wA_of 252 (by decide +kernel) (by decide +kernel)
theorem wm_253 : (Jvm.Cond.code ({ cls := "WaveBlocks", name := "backDown", desc := "(II)J" } : Jvm.MethodName) prog_1_method_25_code (11 : Nat) (Option.some Jvm.ClassFile.FieldType.long)) ∈ wA := wA_of 253 (by decide +kernel) (by decide +kernel)
theorem wm_254 : (Jvm.Cond.methodLink "WaveBlocks" (125 : Nat) ({ cls := "java/lang/Math", name := "abs", desc := "(J)J" } : Jvm.MethodName)) ∈ wA := wA_of 254 (by decide +kernel) (by decide +kernel)
theorem wm_255 : (Jvm.Cond.static ({ cls := "java/lang/Math", name := "abs", desc := "(J)J" } : Jvm.MethodName)) ∈ wA := wA_of 255 (by decide +kernel) (by decide +kernel)
theorem wm_256 : (Jvm.Cond.code ({ cls := "java/lang/Math", name := "abs", desc := "(J)J" } : Jvm.MethodName) prog_7_method_61_code (2 : Nat) (Option.some Jvm.ClassFile.FieldType.long)) ∈ wA := wA_of 256 (by decide +kernel) (by decide +kernel)
theorem wm_257 : (Jvm.Cond.methodLink "WaveBlocks" (128 : Nat) ({ cls := "java/lang/Math", name := "max", desc := "(JJ)J" } : Jvm.MethodName)) ∈ wA := wA_of 257 (by decide +kernel) (by decide +kernel)
theorem wm_258 : (Jvm.Cond.static ({ cls := "java/lang/Math", name := "max", desc := "(JJ)J" } : Jvm.MethodName)) ∈ wA := wA_of 258 (by decide +kernel) (by decide +kernel)
theorem wm_259 : (Jvm.Cond.code ({ cls := "java/lang/Math", name := "max", desc := "(JJ)J" } : Jvm.MethodName) prog_7_method_66_code (4 : Nat) (Option.some Jvm.ClassFile.FieldType.long)) ∈ wA := wA_of 259 (by decide +kernel) (by decide +kernel)
theorem wm_260 : (Jvm.Cond.methodLink "WaveBlocks" (68 : Nat) ({ cls := "WaveBlocks", name := "backAcross", desc := "(II)V" } : Jvm.MethodName)) ∈ wA := wA_of 260 (by decide +kernel) (by decide +kernel)
theorem wm_262 : (Jvm.Cond.instanceMethod ({ cls := "WaveBlocks", name := "backAcross", desc := "(II)V" } : Jvm.MethodName)) ∈ wA := wA_of 262 (by decide +kernel) (by decide +kernel)
theorem wm_263 : (Jvm.Cond.code ({ cls := "WaveBlocks", name := "backAcross", desc := "(II)V" } : Jvm.MethodName) prog_1_method_26_code (9 : Nat) (Option.none : Option Jvm.ClassFile.FieldType)) ∈ wA := wA_of 263 (by decide +kernel) (by decide +kernel)
theorem wm_264 : (Jvm.Cond.constantLong "WaveBlocks" (132 : Nat) (128 : Int64)) ∈ wA := wA_of 264 (by decide +kernel) (by decide +kernel)
theorem wm_265 : (Jvm.Cond.methodLink "WaveBlocksLaw" (86 : Nat) ({ cls := "WaveBlocksLaw", name := "error", desc := "(LWaveBlocks;I[J)I" } : Jvm.MethodName)) ∈ wA := wA_of 265 (by decide +kernel) (by decide +kernel)
theorem wm_266 : (Jvm.Cond.static ({ cls := "WaveBlocksLaw", name := "error", desc := "(LWaveBlocks;I[J)I" } : Jvm.MethodName)) ∈ wA := wA_of 266 (by decide +kernel) (by decide +kernel)
theorem wm_267 : (Jvm.Cond.codeWith ({ cls := "WaveBlocksLaw", name := "error", desc := "(LWaveBlocks;I[J)I" } : Jvm.MethodName) method_8_code (4 : Nat) (Option.some Jvm.ClassFile.FieldType.int) [((0 : Nat), (9 : Nat), (12 : Nat), (15 : Nat))]) ∈ wA := wA_of 267 (by decide +kernel) (by decide +kernel)
theorem wm_268 : (Jvm.Cond.methodLink "WaveBlocksLaw" (32 : Nat) ({ cls := "WaveBlocks", name := "error", desc := "(I)I" } : Jvm.MethodName)) ∈ wA := wA_of 268 (by decide +kernel) (by decide +kernel)
theorem wm_269 : (Jvm.Cond.instanceMethod ({ cls := "WaveBlocks", name := "error", desc := "(I)I" } : Jvm.MethodName)) ∈ wA := wA_of 269 (by decide +kernel) (by decide +kernel)
theorem wm_270 : (Jvm.Cond.selects "WaveBlocks" ({ cls := "WaveBlocks", name := "error", desc := "(I)I" } : Jvm.MethodName) ({ cls := "WaveBlocks", name := "error", desc := "(I)I" } : Jvm.MethodName)) ∈ wA := wA_of 270 (by decide +kernel) (by decide +kernel)
theorem wm_271 : (Jvm.Cond.code ({ cls := "WaveBlocks", name := "error", desc := "(I)I" } : Jvm.MethodName) prog_1_method_9_code (6 : Nat) (Option.some Jvm.ClassFile.FieldType.int)) ∈ wA := wA_of 271 (by decide +kernel) (by decide +kernel)
theorem wm_273 : (Jvm.Cond.methodLink "WaveBlocksLaw" (93 : Nat) ({ cls := "WaveBlocksLaw", name := "at", desc := "(LWaveBlocks;II[J)I" } : Jvm.MethodName)) ∈ wA := wA_of 273 (by decide +kernel) (by decide +kernel)
theorem wm_274 : (Jvm.Cond.static ({ cls := "WaveBlocksLaw", name := "at", desc := "(LWaveBlocks;II[J)I" } : Jvm.MethodName)) ∈ wA := wA_of 274 (by decide +kernel) (by decide +kernel)
theorem wm_275 : (Jvm.Cond.codeWith ({ cls := "WaveBlocksLaw", name := "at", desc := "(LWaveBlocks;II[J)I" } : Jvm.MethodName) method_9_code (5 : Nat) (Option.some Jvm.ClassFile.FieldType.int) [((0 : Nat), (10 : Nat), (13 : Nat), (13 : Nat))]) ∈ wA := wA_of 275 (by decide +kernel) (by decide +kernel)
theorem wm_276 : (Jvm.Cond.methodLink "WaveBlocksLaw" (36 : Nat) ({ cls := "WaveBlocks", name := "at", desc := "(II)I" } : Jvm.MethodName)) ∈ wA := wA_of 276 (by decide +kernel) (by decide +kernel)
theorem wm_277 : (Jvm.Cond.instanceMethod ({ cls := "WaveBlocks", name := "at", desc := "(II)I" } : Jvm.MethodName)) ∈ wA := wA_of 277 (by decide +kernel) (by decide +kernel)
theorem wm_278 : (Jvm.Cond.selects "WaveBlocks" ({ cls := "WaveBlocks", name := "at", desc := "(II)I" } : Jvm.MethodName) ({ cls := "WaveBlocks", name := "at", desc := "(II)I" } : Jvm.MethodName)) ∈ wA := wA_of 278 (by decide +kernel) (by decide +kernel)
theorem wm_279 : (Jvm.Cond.code ({ cls := "WaveBlocks", name := "at", desc := "(II)I" } : Jvm.MethodName) prog_1_method_11_code (4 : Nat) (Option.some Jvm.ClassFile.FieldType.int)) ∈ wA := wA_of 279 (by decide +kernel) (by decide +kernel)
theorem wm_281 : (Jvm.Cond.methodLink "WaveBlocksLaw" (105 : Nat) ({ cls := "WaveBlocksLaw", name := "exact", desc := "(LWaveBlocks;II[J)I" } : Jvm.MethodName)) ∈ wA := wA_of 281 (by decide +kernel) (by decide +kernel)
theorem wm_282 : (Jvm.Cond.static ({ cls := "WaveBlocksLaw", name := "exact", desc := "(LWaveBlocks;II[J)I" } : Jvm.MethodName)) ∈ wA := wA_of 282 (by decide +kernel) (by decide +kernel)
theorem wm_283 : (Jvm.Cond.codeWith ({ cls := "WaveBlocksLaw", name := "exact", desc := "(LWaveBlocks;II[J)I" } : Jvm.MethodName) method_10_code (5 : Nat) (Option.some Jvm.ClassFile.FieldType.int) [((0 : Nat), (10 : Nat), (13 : Nat), (13 : Nat))]) ∈ wA := wA_of 283 (by decide +kernel) (by decide +kernel)
theorem wm_284 : (Jvm.Cond.methodLink "WaveBlocksLaw" (40 : Nat) ({ cls := "WaveBlocks", name := "exact", desc := "(II)I" } : Jvm.MethodName)) ∈ wA := wA_of 284 (by decide +kernel) (by decide +kernel)
theorem wm_285 : (Jvm.Cond.instanceMethod ({ cls := "WaveBlocks", name := "exact", desc := "(II)I" } : Jvm.MethodName)) ∈ wA := wA_of 285 (by decide +kernel) (by decide +kernel)
theorem wm_286 : (Jvm.Cond.selects "WaveBlocks" ({ cls := "WaveBlocks", name := "exact", desc := "(II)I" } : Jvm.MethodName) ({ cls := "WaveBlocks", name := "exact", desc := "(II)I" } : Jvm.MethodName)) ∈ wA := wA_of 286 (by decide +kernel) (by decide +kernel)
theorem wm_287 : (Jvm.Cond.code ({ cls := "WaveBlocks", name := "exact", desc := "(II)I" } : Jvm.MethodName) prog_1_method_14_code (3 : Nat) (Option.some Jvm.ClassFile.FieldType.int)) ∈ wA := wA_of 287 (by decide +kernel) (by decide +kernel)
theorem wm_288 : (Jvm.Cond.methodLink "WaveBlocksLaw" (108 : Nat) ({ cls := "WaveBlocksLaw", name := "wave", desc := "(LWaveBlocks;III[J)I" } : Jvm.MethodName)) ∈ wA := wA_of 288 (by decide +kernel) (by decide +kernel)
theorem wm_289 : (Jvm.Cond.static ({ cls := "WaveBlocksLaw", name := "wave", desc := "(LWaveBlocks;III[J)I" } : Jvm.MethodName)) ∈ wA := wA_of 289 (by decide +kernel) (by decide +kernel)
theorem wm_290 : (Jvm.Cond.codeWith ({ cls := "WaveBlocksLaw", name := "wave", desc := "(LWaveBlocks;III[J)I" } : Jvm.MethodName) method_11_code (6 : Nat) (Option.some Jvm.ClassFile.FieldType.int) [((0 : Nat), (12 : Nat), (15 : Nat), (15 : Nat))]) ∈ wA := wA_of 290 (by decide +kernel) (by decide +kernel)
theorem wm_291 : (Jvm.Cond.methodLink "WaveBlocksLaw" (43 : Nat) ({ cls := "WaveBlocks", name := "wave", desc := "(III)I" } : Jvm.MethodName)) ∈ wA := wA_of 291 (by decide +kernel) (by decide +kernel)
theorem wm_292 : (Jvm.Cond.instanceMethod ({ cls := "WaveBlocks", name := "wave", desc := "(III)I" } : Jvm.MethodName)) ∈ wA := wA_of 292 (by decide +kernel) (by decide +kernel)
theorem wm_293 : (Jvm.Cond.selects "WaveBlocks" ({ cls := "WaveBlocks", name := "wave", desc := "(III)I" } : Jvm.MethodName) ({ cls := "WaveBlocks", name := "wave", desc := "(III)I" } : Jvm.MethodName)) ∈ wA := wA_of 293 (by decide +kernel) (by decide +kernel)
theorem wm_294 : (Jvm.Cond.code ({ cls := "WaveBlocks", name := "wave", desc := "(III)I" } : Jvm.MethodName) prog_1_method_15_code (5 : Nat) (Option.some Jvm.ClassFile.FieldType.int)) ∈ wA := wA_of 294 (by decide +kernel) (by decide +kernel)
theorem wm_296 : (Jvm.Cond.classLink "WaveBlocksLaw" (48 : Nat) "WaveBlocksModel") ∈ wA := wA_of 296 (by decide +kernel) (by decide +kernel)
theorem wm_297 : (Jvm.Cond.instantiable "WaveBlocksModel" (8 : Nat)) ∈ wA := wA_of 297 (by decide +kernel) (by decide +kernel)
theorem wm_298 : (Jvm.Cond.methodLink "WaveBlocksLaw" (50 : Nat) ({ cls := "WaveBlocksModel", name := "<init>", desc := "()V" } : Jvm.MethodName)) ∈ wA := wA_of 298 (by decide +kernel) (by decide +kernel)
theorem wm_299 : (Jvm.Cond.instanceMethod ({ cls := "WaveBlocksModel", name := "<init>", desc := "()V" } : Jvm.MethodName)) ∈ wA := wA_of 299 (by decide +kernel) (by decide +kernel)
theorem wm_300 : (Jvm.Cond.code ({ cls := "WaveBlocksModel", name := "<init>", desc := "()V" } : Jvm.MethodName) prog_3_method_1_code (6 : Nat) (Option.none : Option Jvm.ClassFile.FieldType)) ∈ wA := wA_of 300 (by decide +kernel) (by decide +kernel)
theorem wm_301 : (Jvm.Cond.methodLink "WaveBlocksModel" (1 : Nat) ({ cls := "java/lang/Object", name := "<init>", desc := "()V" } : Jvm.MethodName)) ∈ wA := wA_of 301 (by decide +kernel) (by decide +kernel)
theorem wm_302 : (Jvm.Cond.fieldLink "WaveBlocksModel" (32 : Nat) "WaveBlocksModel" "thrown" "I") ∈ wA := wA_of 302 (by decide +kernel) (by decide +kernel)
theorem wm_303 : (Jvm.Cond.fieldLink "WaveBlocksModel" (7 : Nat) "WaveBlocksModel" "coefficients" "[I") ∈ wA := wA_of 303 (by decide +kernel) (by decide +kernel)
theorem wm_304 : (Jvm.Cond.fieldLink "WaveBlocksModel" (13 : Nat) "WaveBlocksModel" "steps" "[I") ∈ wA := wA_of 304 (by decide +kernel) (by decide +kernel)
theorem wm_305 : (Jvm.Cond.fieldLink "WaveBlocksModel" (16 : Nat) "WaveBlocksModel" "samples" "[I") ∈ wA := wA_of 305 (by decide +kernel) (by decide +kernel)
theorem wm_306 : (Jvm.Cond.fieldLink "WaveBlocksModel" (19 : Nat) "WaveBlocksModel" "kept" "[I") ∈ wA := wA_of 306 (by decide +kernel) (by decide +kernel)
theorem wm_307 : (Jvm.Cond.fieldLink "WaveBlocksModel" (22 : Nat) "WaveBlocksModel" "downs" "[I") ∈ wA := wA_of 307 (by decide +kernel) (by decide +kernel)
theorem wm_308 : (Jvm.Cond.fieldLink "WaveBlocksModel" (25 : Nat) "WaveBlocksModel" "acrosses" "[I") ∈ wA := wA_of 308 (by decide +kernel) (by decide +kernel)
theorem wm_309 : (Jvm.Cond.fieldLink "WaveBlocksModel" (28 : Nat) "WaveBlocksModel" "sums" "[J") ∈ wA := wA_of 309 (by decide +kernel) (by decide +kernel)
theorem wm_310 : (Jvm.Cond.lays "WaveBlocksModel" "WaveBlocksModel" "thrown" "I") ∈ wA := wA_of 310 (by decide +kernel) (by decide +kernel)
theorem wm_312 : (Jvm.Cond.laysFinal "WaveBlocksModel" "WaveBlocksModel" "coefficients" "[I") ∈ wA := wA_of 312 (by decide +kernel) (by decide +kernel)
theorem wm_314 : (Jvm.Cond.laysFinal "WaveBlocksModel" "WaveBlocksModel" "steps" "[I") ∈ wA := wA_of 314 (by decide +kernel) (by decide +kernel)
theorem wm_316 : (Jvm.Cond.laysFinal "WaveBlocksModel" "WaveBlocksModel" "samples" "[I") ∈ wA := wA_of 316 (by decide +kernel) (by decide +kernel)
theorem wm_318 : (Jvm.Cond.laysFinal "WaveBlocksModel" "WaveBlocksModel" "kept" "[I") ∈ wA := wA_of 318 (by decide +kernel) (by decide +kernel)
theorem wm_320 : (Jvm.Cond.laysFinal "WaveBlocksModel" "WaveBlocksModel" "downs" "[I") ∈ wA := wA_of 320 (by decide +kernel) (by decide +kernel)
theorem wm_322 : (Jvm.Cond.laysFinal "WaveBlocksModel" "WaveBlocksModel" "acrosses" "[I") ∈ wA := wA_of 322 (by decide +kernel) (by decide +kernel)
theorem wm_324 : (Jvm.Cond.laysFinal "WaveBlocksModel" "WaveBlocksModel" "sums" "[J") ∈ wA := wA_of 324 (by decide +kernel) (by decide +kernel)
theorem wm_327 : (Jvm.Cond.methodLink "WaveBlocksLaw" (57 : Nat) ({ cls := "WaveBlocksModel", name := "thrown", desc := "()I" } : Jvm.MethodName)) ∈ wA := wA_of 327 (by decide +kernel) (by decide +kernel)
theorem wm_328 : (Jvm.Cond.instanceMethod ({ cls := "WaveBlocksModel", name := "thrown", desc := "()I" } : Jvm.MethodName)) ∈ wA := wA_of 328 (by decide +kernel) (by decide +kernel)
theorem wm_329 : (Jvm.Cond.selects "WaveBlocksModel" ({ cls := "WaveBlocksModel", name := "thrown", desc := "()I" } : Jvm.MethodName) ({ cls := "WaveBlocksModel", name := "thrown", desc := "()I" } : Jvm.MethodName)) ∈ wA := wA_of 329 (by decide +kernel) (by decide +kernel)
theorem wm_330 : (Jvm.Cond.code ({ cls := "WaveBlocksModel", name := "thrown", desc := "()I" } : Jvm.MethodName) prog_3_method_2_code (1 : Nat) (Option.some Jvm.ClassFile.FieldType.int)) ∈ wA := wA_of 330 (by decide +kernel) (by decide +kernel)
theorem wm_331 : (Jvm.Cond.methodLink "WaveBlocksLaw" (56 : Nat) ({ cls := "WaveBlocksModel", name := "put", desc := "(II)V" } : Jvm.MethodName)) ∈ wA := wA_of 331 (by decide +kernel) (by decide +kernel)
theorem wm_332 : (Jvm.Cond.instanceMethod ({ cls := "WaveBlocksModel", name := "put", desc := "(II)V" } : Jvm.MethodName)) ∈ wA := wA_of 332 (by decide +kernel) (by decide +kernel)
theorem wm_333 : (Jvm.Cond.selects "WaveBlocksModel" ({ cls := "WaveBlocksModel", name := "put", desc := "(II)V" } : Jvm.MethodName) ({ cls := "WaveBlocksModel", name := "put", desc := "(II)V" } : Jvm.MethodName)) ∈ wA := wA_of 333 (by decide +kernel) (by decide +kernel)
theorem wm_334 : (Jvm.Cond.code ({ cls := "WaveBlocksModel", name := "put", desc := "(II)V" } : Jvm.MethodName) prog_3_method_8_code (3 : Nat) (Option.none : Option Jvm.ClassFile.FieldType)) ∈ wA := wA_of 334 (by decide +kernel) (by decide +kernel)
theorem wm_335 : (Jvm.Cond.methodLink "WaveBlocksModel" (40 : Nat) ({ cls := "WaveBlocksModel", name := "isPlace", desc := "(I)Z" } : Jvm.MethodName)) ∈ wA := wA_of 335 (by decide +kernel) (by decide +kernel)
theorem wm_336 : (Jvm.Cond.static ({ cls := "WaveBlocksModel", name := "isPlace", desc := "(I)Z" } : Jvm.MethodName)) ∈ wA := wA_of 336 (by decide +kernel) (by decide +kernel)
theorem wm_337 : (Jvm.Cond.code ({ cls := "WaveBlocksModel", name := "isPlace", desc := "(I)Z" } : Jvm.MethodName) prog_3_method_3_code (1 : Nat) (Option.some Jvm.ClassFile.FieldType.boolean)) ∈ wA := wA_of 337 (by decide +kernel) (by decide +kernel)
theorem wm_338 : (Jvm.Cond.methodLink "WaveBlocksLaw" (63 : Nat) ({ cls := "WaveBlocksModel", name := "step", desc := "(II)V" } : Jvm.MethodName)) ∈ wA := wA_of 338 (by decide +kernel) (by decide +kernel)
theorem wm_339 : (Jvm.Cond.instanceMethod ({ cls := "WaveBlocksModel", name := "step", desc := "(II)V" } : Jvm.MethodName)) ∈ wA := wA_of 339 (by decide +kernel) (by decide +kernel)
theorem wm_340 : (Jvm.Cond.selects "WaveBlocksModel" ({ cls := "WaveBlocksModel", name := "step", desc := "(II)V" } : Jvm.MethodName) ({ cls := "WaveBlocksModel", name := "step", desc := "(II)V" } : Jvm.MethodName)) ∈ wA := wA_of 340 (by decide +kernel) (by decide +kernel)
theorem wm_341 : (Jvm.Cond.code ({ cls := "WaveBlocksModel", name := "step", desc := "(II)V" } : Jvm.MethodName) prog_3_method_9_code (3 : Nat) (Option.none : Option Jvm.ClassFile.FieldType)) ∈ wA := wA_of 341 (by decide +kernel) (by decide +kernel)
theorem wm_342 : (Jvm.Cond.methodLink "WaveBlocksLaw" (67 : Nat) ({ cls := "WaveBlocksModel", name := "steps", desc := "(III)V" } : Jvm.MethodName)) ∈ wA := wA_of 342 (by decide +kernel) (by decide +kernel)
theorem wm_343 : (Jvm.Cond.instanceMethod ({ cls := "WaveBlocksModel", name := "steps", desc := "(III)V" } : Jvm.MethodName)) ∈ wA := wA_of 343 (by decide +kernel) (by decide +kernel)
theorem wm_344 : (Jvm.Cond.selects "WaveBlocksModel" ({ cls := "WaveBlocksModel", name := "steps", desc := "(III)V" } : Jvm.MethodName) ({ cls := "WaveBlocksModel", name := "steps", desc := "(III)V" } : Jvm.MethodName)) ∈ wA := wA_of 344 (by decide +kernel) (by decide +kernel)
theorem wm_345 : (Jvm.Cond.code ({ cls := "WaveBlocksModel", name := "steps", desc := "(III)V" } : Jvm.MethodName) prog_3_method_10_code (6 : Nat) (Option.none : Option Jvm.ClassFile.FieldType)) ∈ wA := wA_of 345 (by decide +kernel) (by decide +kernel)
theorem wm_346 : (Jvm.Cond.methodLink "WaveBlocksLaw" (73 : Nat) ({ cls := "WaveBlocksModel", name := "row", desc := "(IJ)V" } : Jvm.MethodName)) ∈ wA := wA_of 346 (by decide +kernel) (by decide +kernel)
theorem wm_347 : (Jvm.Cond.instanceMethod ({ cls := "WaveBlocksModel", name := "row", desc := "(IJ)V" } : Jvm.MethodName)) ∈ wA := wA_of 347 (by decide +kernel) (by decide +kernel)
theorem wm_348 : (Jvm.Cond.selects "WaveBlocksModel" ({ cls := "WaveBlocksModel", name := "row", desc := "(IJ)V" } : Jvm.MethodName) ({ cls := "WaveBlocksModel", name := "row", desc := "(IJ)V" } : Jvm.MethodName)) ∈ wA := wA_of 348 (by decide +kernel) (by decide +kernel)
theorem wm_349 : (Jvm.Cond.code ({ cls := "WaveBlocksModel", name := "row", desc := "(IJ)V" } : Jvm.MethodName) prog_3_method_11_code (5 : Nat) (Option.none : Option Jvm.ClassFile.FieldType)) ∈ wA := wA_of 349 (by decide +kernel) (by decide +kernel)
theorem wm_350 : (Jvm.Cond.constantLong "WaveBlocksModel" (44 : Nat) (255 : Int64)) ∈ wA := wA_of 350 (by decide +kernel) (by decide +kernel)
theorem wm_351 : (Jvm.Cond.methodLink "WaveBlocksLaw" (77 : Nat) ({ cls := "WaveBlocksModel", name := "back", desc := "(I)J" } : Jvm.MethodName)) ∈ wA := wA_of 351 (by decide +kernel) (by decide +kernel)
theorem wm_352 : (Jvm.Cond.instanceMethod ({ cls := "WaveBlocksModel", name := "back", desc := "(I)J" } : Jvm.MethodName)) ∈ wA := wA_of 352 (by decide +kernel) (by decide +kernel)
theorem wm_353 : (Jvm.Cond.selects "WaveBlocksModel" ({ cls := "WaveBlocksModel", name := "back", desc := "(I)J" } : Jvm.MethodName) ({ cls := "WaveBlocksModel", name := "back", desc := "(I)J" } : Jvm.MethodName)) ∈ wA := wA_of 353 (by decide +kernel) (by decide +kernel)
theorem wm_354 : (Jvm.Cond.code ({ cls := "WaveBlocksModel", name := "back", desc := "(I)J" } : Jvm.MethodName) prog_3_method_14_code (10 : Nat) (Option.some Jvm.ClassFile.FieldType.long)) ∈ wA := wA_of 354 (by decide +kernel) (by decide +kernel)
theorem wm_355 : (Jvm.Cond.methodLink "WaveBlocksModel" (58 : Nat) ({ cls := "WaveBlocksModel", name := "isSize", desc := "(I)Z" } : Jvm.MethodName)) ∈ wA := wA_of 355 (by decide +kernel) (by decide +kernel)
theorem wm_356 : (Jvm.Cond.static ({ cls := "WaveBlocksModel", name := "isSize", desc := "(I)Z" } : Jvm.MethodName)) ∈ wA := wA_of 356 (by decide +kernel) (by decide +kernel)
theorem wm_357 : (Jvm.Cond.code ({ cls := "WaveBlocksModel", name := "isSize", desc := "(I)Z" } : Jvm.MethodName) prog_3_method_12_code (1 : Nat) (Option.some Jvm.ClassFile.FieldType.boolean)) ∈ wA := wA_of 357 (by decide +kernel) (by decide +kernel)
theorem wm_358 : (Jvm.Cond.methodLink "WaveBlocksModel" (61 : Nat) ({ cls := "WaveBlocksModel", name := "column", desc := "(III)J" } : Jvm.MethodName)) ∈ wA := wA_of 358 (by decide +kernel) (by decide +kernel)
theorem wm_360 : (Jvm.Cond.instanceMethod ({ cls := "WaveBlocksModel", name := "column", desc := "(III)J" } : Jvm.MethodName)) ∈ wA := wA_of 360 (by decide +kernel) (by decide +kernel)
theorem wm_361 : (Jvm.Cond.code ({ cls := "WaveBlocksModel", name := "column", desc := "(III)J" } : Jvm.MethodName) prog_3_method_13_code (8 : Nat) (Option.some Jvm.ClassFile.FieldType.long)) ∈ wA := wA_of 361 (by decide +kernel) (by decide +kernel)
theorem wm_362 : (Jvm.Cond.methodLink "WaveBlocksModel" (46 : Nat) ({ cls := "WaveBlocksModel", name := "orderOf", desc := "(II)I" } : Jvm.MethodName)) ∈ wA := wA_of 362 (by decide +kernel) (by decide +kernel)
theorem wm_364 : (Jvm.Cond.instanceMethod ({ cls := "WaveBlocksModel", name := "orderOf", desc := "(II)I" } : Jvm.MethodName)) ∈ wA := wA_of 364 (by decide +kernel) (by decide +kernel)
theorem wm_365 : (Jvm.Cond.code ({ cls := "WaveBlocksModel", name := "orderOf", desc := "(II)I" } : Jvm.MethodName) prog_3_method_7_code (5 : Nat) (Option.some Jvm.ClassFile.FieldType.int)) ∈ wA := wA_of 365 (by decide +kernel) (by decide +kernel)
theorem wm_366 : (Jvm.Cond.methodLink "WaveBlocksModel" (50 : Nat) ({ cls := "WaveBlocksModel", name := "waveOf", desc := "(III)I" } : Jvm.MethodName)) ∈ wA := wA_of 366 (by decide +kernel) (by decide +kernel)
theorem wm_367 : (Jvm.Cond.static ({ cls := "WaveBlocksModel", name := "waveOf", desc := "(III)I" } : Jvm.MethodName)) ∈ wA := wA_of 367 (by decide +kernel) (by decide +kernel)
theorem wm_368 : (Jvm.Cond.code ({ cls := "WaveBlocksModel", name := "waveOf", desc := "(III)I" } : Jvm.MethodName) prog_3_method_5_code (4 : Nat) (Option.some Jvm.ClassFile.FieldType.int)) ∈ wA := wA_of 368 (by decide +kernel) (by decide +kernel)
theorem wm_369 : (Jvm.Cond.methodLink "WaveBlocksModel" (36 : Nat) ({ cls := "WaveBlocksModel", name := "k", desc := "(I)I" } : Jvm.MethodName)) ∈ wA := wA_of 369 (by decide +kernel) (by decide +kernel)
theorem wm_370 : (Jvm.Cond.static ({ cls := "WaveBlocksModel", name := "k", desc := "(I)I" } : Jvm.MethodName)) ∈ wA := wA_of 370 (by decide +kernel) (by decide +kernel)
theorem wm_371 : (Jvm.Cond.code ({ cls := "WaveBlocksModel", name := "k", desc := "(I)I" } : Jvm.MethodName) prog_3_method_4_code (1 : Nat) (Option.some Jvm.ClassFile.FieldType.int)) ∈ wA := wA_of 371 (by decide +kernel) (by decide +kernel)
theorem wm_372 : (Jvm.Cond.methodLink "WaveBlocksModel" (54 : Nat) ({ cls := "WaveBlocksModel", name := "round", desc := "(JI)J" } : Jvm.MethodName)) ∈ wA := wA_of 372 (by decide +kernel) (by decide +kernel)
theorem wm_373 : (Jvm.Cond.static ({ cls := "WaveBlocksModel", name := "round", desc := "(JI)J" } : Jvm.MethodName)) ∈ wA := wA_of 373 (by decide +kernel) (by decide +kernel)
theorem wm_374 : (Jvm.Cond.code ({ cls := "WaveBlocksModel", name := "round", desc := "(JI)J" } : Jvm.MethodName) prog_3_method_6_code (3 : Nat) (Option.some Jvm.ClassFile.FieldType.long)) ∈ wA := wA_of 374 (by decide +kernel) (by decide +kernel)
theorem wm_375 : (Jvm.Cond.constantLong "WaveBlocksModel" (65 : Nat) (128 : Int64)) ∈ wA := wA_of 375 (by decide +kernel) (by decide +kernel)
theorem wm_376 : (Jvm.Cond.methodLink "WaveBlocksLaw" (81 : Nat) ({ cls := "WaveBlocksModel", name := "forward", desc := "()I" } : Jvm.MethodName)) ∈ wA := wA_of 376 (by decide +kernel) (by decide +kernel)
theorem wm_377 : (Jvm.Cond.instanceMethod ({ cls := "WaveBlocksModel", name := "forward", desc := "()I" } : Jvm.MethodName)) ∈ wA := wA_of 377 (by decide +kernel) (by decide +kernel)
theorem wm_378 : (Jvm.Cond.selects "WaveBlocksModel" ({ cls := "WaveBlocksModel", name := "forward", desc := "()I" } : Jvm.MethodName) ({ cls := "WaveBlocksModel", name := "forward", desc := "()I" } : Jvm.MethodName)) ∈ wA := wA_of 378 (by decide +kernel) (by decide +kernel)
theorem wm_379 : (Jvm.Cond.code ({ cls := "WaveBlocksModel", name := "forward", desc := "()I" } : Jvm.MethodName) prog_3_method_16_code (7 : Nat) (Option.some Jvm.ClassFile.FieldType.int)) ∈ wA := wA_of 379 (by decide +kernel) (by decide +kernel)
theorem wm_380 : (Jvm.Cond.methodLink "WaveBlocksModel" (67 : Nat) ({ cls := "WaveBlocksModel", name := "exactOf", desc := "(II)J" } : Jvm.MethodName)) ∈ wA := wA_of 380 (by decide +kernel) (by decide +kernel)
theorem wm_382 : (Jvm.Cond.instanceMethod ({ cls := "WaveBlocksModel", name := "exactOf", desc := "(II)J" } : Jvm.MethodName)) ∈ wA := wA_of 382 (by decide +kernel) (by decide +kernel)
theorem wm_383 : (Jvm.Cond.code ({ cls := "WaveBlocksModel", name := "exactOf", desc := "(II)J" } : Jvm.MethodName) prog_3_method_15_code (9 : Nat) (Option.some Jvm.ClassFile.FieldType.long)) ∈ wA := wA_of 383 (by decide +kernel) (by decide +kernel)
theorem wm_384 : (Jvm.Cond.constantLong "WaveBlocksModel" (71 : Nat) (2 : Int64)) ∈ wA := wA_of 384 (by decide +kernel) (by decide +kernel)
theorem wm_385 : (Jvm.Cond.methodLink "WaveBlocksLaw" (85 : Nat) ({ cls := "WaveBlocksModel", name := "keep", desc := "()V" } : Jvm.MethodName)) ∈ wA := wA_of 385 (by decide +kernel) (by decide +kernel)
theorem wm_386 : (Jvm.Cond.instanceMethod ({ cls := "WaveBlocksModel", name := "keep", desc := "()V" } : Jvm.MethodName)) ∈ wA := wA_of 386 (by decide +kernel) (by decide +kernel)
theorem wm_387 : (Jvm.Cond.selects "WaveBlocksModel" ({ cls := "WaveBlocksModel", name := "keep", desc := "()V" } : Jvm.MethodName) ({ cls := "WaveBlocksModel", name := "keep", desc := "()V" } : Jvm.MethodName)) ∈ wA := wA_of 387 (by decide +kernel) (by decide +kernel)
theorem wm_388 : (Jvm.Cond.code ({ cls := "WaveBlocksModel", name := "keep", desc := "()V" } : Jvm.MethodName) prog_3_method_17_code (2 : Nat) (Option.none : Option Jvm.ClassFile.FieldType)) ∈ wA := wA_of 388 (by decide +kernel) (by decide +kernel)
theorem wm_389 : (Jvm.Cond.methodLink "WaveBlocksLaw" (88 : Nat) ({ cls := "WaveBlocksModel", name := "error", desc := "(I)I" } : Jvm.MethodName)) ∈ wA := wA_of 389 (by decide +kernel) (by decide +kernel)
theorem wm_390 : (Jvm.Cond.instanceMethod ({ cls := "WaveBlocksModel", name := "error", desc := "(I)I" } : Jvm.MethodName)) ∈ wA := wA_of 390 (by decide +kernel) (by decide +kernel)
theorem wm_391 : (Jvm.Cond.selects "WaveBlocksModel" ({ cls := "WaveBlocksModel", name := "error", desc := "(I)I" } : Jvm.MethodName) ({ cls := "WaveBlocksModel", name := "error", desc := "(I)I" } : Jvm.MethodName)) ∈ wA := wA_of 391 (by decide +kernel) (by decide +kernel)
theorem wm_392 : (Jvm.Cond.code ({ cls := "WaveBlocksModel", name := "error", desc := "(I)I" } : Jvm.MethodName) prog_3_method_18_code (5 : Nat) (Option.some Jvm.ClassFile.FieldType.int)) ∈ wA := wA_of 392 (by decide +kernel) (by decide +kernel)
theorem wm_393 : (Jvm.Cond.methodLink "WaveBlocksLaw" (92 : Nat) ({ cls := "WaveBlocksModel", name := "clear", desc := "()V" } : Jvm.MethodName)) ∈ wA := wA_of 393 (by decide +kernel) (by decide +kernel)
theorem wm_394 : (Jvm.Cond.instanceMethod ({ cls := "WaveBlocksModel", name := "clear", desc := "()V" } : Jvm.MethodName)) ∈ wA := wA_of 394 (by decide +kernel) (by decide +kernel)
theorem wm_395 : (Jvm.Cond.selects "WaveBlocksModel" ({ cls := "WaveBlocksModel", name := "clear", desc := "()V" } : Jvm.MethodName) ({ cls := "WaveBlocksModel", name := "clear", desc := "()V" } : Jvm.MethodName)) ∈ wA := wA_of 395 (by decide +kernel) (by decide +kernel)
theorem wm_396 : (Jvm.Cond.code ({ cls := "WaveBlocksModel", name := "clear", desc := "()V" } : Jvm.MethodName) prog_3_method_19_code (2 : Nat) (Option.none : Option Jvm.ClassFile.FieldType)) ∈ wA := wA_of 396 (by decide +kernel) (by decide +kernel)
theorem wm_397 : (Jvm.Cond.methodLink "WaveBlocksLaw" (96 : Nat) ({ cls := "WaveBlocksModel", name := "at", desc := "(II)I" } : Jvm.MethodName)) ∈ wA := wA_of 397 (by decide +kernel) (by decide +kernel)
theorem wm_398 : (Jvm.Cond.instanceMethod ({ cls := "WaveBlocksModel", name := "at", desc := "(II)I" } : Jvm.MethodName)) ∈ wA := wA_of 398 (by decide +kernel) (by decide +kernel)
theorem wm_399 : (Jvm.Cond.selects "WaveBlocksModel" ({ cls := "WaveBlocksModel", name := "at", desc := "(II)I" } : Jvm.MethodName) ({ cls := "WaveBlocksModel", name := "at", desc := "(II)I" } : Jvm.MethodName)) ∈ wA := wA_of 399 (by decide +kernel) (by decide +kernel)
theorem wm_400 : (Jvm.Cond.code ({ cls := "WaveBlocksModel", name := "at", desc := "(II)I" } : Jvm.MethodName) prog_3_method_20_code (3 : Nat) (Option.some Jvm.ClassFile.FieldType.int)) ∈ wA := wA_of 400 (by decide +kernel) (by decide +kernel)
theorem wm_401 : (Jvm.Cond.methodLink "WaveBlocksLaw" (100 : Nat) ({ cls := "WaveBlocksModel", name := "order", desc := "(II)I" } : Jvm.MethodName)) ∈ wA := wA_of 401 (by decide +kernel) (by decide +kernel)
theorem wm_402 : (Jvm.Cond.instanceMethod ({ cls := "WaveBlocksModel", name := "order", desc := "(II)I" } : Jvm.MethodName)) ∈ wA := wA_of 402 (by decide +kernel) (by decide +kernel)
theorem wm_403 : (Jvm.Cond.selects "WaveBlocksModel" ({ cls := "WaveBlocksModel", name := "order", desc := "(II)I" } : Jvm.MethodName) ({ cls := "WaveBlocksModel", name := "order", desc := "(II)I" } : Jvm.MethodName)) ∈ wA := wA_of 403 (by decide +kernel) (by decide +kernel)
theorem wm_404 : (Jvm.Cond.code ({ cls := "WaveBlocksModel", name := "order", desc := "(II)I" } : Jvm.MethodName) prog_3_method_21_code (3 : Nat) (Option.some Jvm.ClassFile.FieldType.int)) ∈ wA := wA_of 404 (by decide +kernel) (by decide +kernel)
theorem wm_405 : (Jvm.Cond.methodLink "WaveBlocksLaw" (104 : Nat) ({ cls := "WaveBlocksModel", name := "samples", desc := "(I)J" } : Jvm.MethodName)) ∈ wA := wA_of 405 (by decide +kernel) (by decide +kernel)
theorem wm_406 : (Jvm.Cond.instanceMethod ({ cls := "WaveBlocksModel", name := "samples", desc := "(I)J" } : Jvm.MethodName)) ∈ wA := wA_of 406 (by decide +kernel) (by decide +kernel)
theorem wm_407 : (Jvm.Cond.selects "WaveBlocksModel" ({ cls := "WaveBlocksModel", name := "samples", desc := "(I)J" } : Jvm.MethodName) ({ cls := "WaveBlocksModel", name := "samples", desc := "(I)J" } : Jvm.MethodName)) ∈ wA := wA_of 407 (by decide +kernel) (by decide +kernel)
theorem wm_408 : (Jvm.Cond.code ({ cls := "WaveBlocksModel", name := "samples", desc := "(I)J" } : Jvm.MethodName) prog_3_method_22_code (5 : Nat) (Option.some Jvm.ClassFile.FieldType.long)) ∈ wA := wA_of 408 (by decide +kernel) (by decide +kernel)
theorem wm_409 : (Jvm.Cond.methodLink "WaveBlocksLaw" (107 : Nat) ({ cls := "WaveBlocksModel", name := "exact", desc := "(II)I" } : Jvm.MethodName)) ∈ wA := wA_of 409 (by decide +kernel) (by decide +kernel)
theorem wm_410 : (Jvm.Cond.instanceMethod ({ cls := "WaveBlocksModel", name := "exact", desc := "(II)I" } : Jvm.MethodName)) ∈ wA := wA_of 410 (by decide +kernel) (by decide +kernel)
theorem wm_411 : (Jvm.Cond.selects "WaveBlocksModel" ({ cls := "WaveBlocksModel", name := "exact", desc := "(II)I" } : Jvm.MethodName) ({ cls := "WaveBlocksModel", name := "exact", desc := "(II)I" } : Jvm.MethodName)) ∈ wA := wA_of 411 (by decide +kernel) (by decide +kernel)
theorem wm_412 : (Jvm.Cond.code ({ cls := "WaveBlocksModel", name := "exact", desc := "(II)I" } : Jvm.MethodName) prog_3_method_23_code (3 : Nat) (Option.some Jvm.ClassFile.FieldType.int)) ∈ wA := wA_of 412 (by decide +kernel) (by decide +kernel)
theorem wm_413 : (Jvm.Cond.methodLink "WaveBlocksLaw" (111 : Nat) ({ cls := "WaveBlocksModel", name := "wave", desc := "(III)I" } : Jvm.MethodName)) ∈ wA := wA_of 413 (by decide +kernel) (by decide +kernel)
theorem wm_414 : (Jvm.Cond.instanceMethod ({ cls := "WaveBlocksModel", name := "wave", desc := "(III)I" } : Jvm.MethodName)) ∈ wA := wA_of 414 (by decide +kernel) (by decide +kernel)
theorem wm_415 : (Jvm.Cond.selects "WaveBlocksModel" ({ cls := "WaveBlocksModel", name := "wave", desc := "(III)I" } : Jvm.MethodName) ({ cls := "WaveBlocksModel", name := "wave", desc := "(III)I" } : Jvm.MethodName)) ∈ wA := wA_of 415 (by decide +kernel) (by decide +kernel)
theorem wm_416 : (Jvm.Cond.code ({ cls := "WaveBlocksModel", name := "wave", desc := "(III)I" } : Jvm.MethodName) prog_3_method_24_code (4 : Nat) (Option.some Jvm.ClassFile.FieldType.int)) ∈ wA := wA_of 416 (by decide +kernel) (by decide +kernel)
theorem wm_417 : (Jvm.Cond.methodLink "WaveBlocksLaw" (115 : Nat) ({ cls := "WaveBlocksModel", name := "look", desc := "(I)I" } : Jvm.MethodName)) ∈ wA := wA_of 417 (by decide +kernel) (by decide +kernel)
theorem wm_418 : (Jvm.Cond.instanceMethod ({ cls := "WaveBlocksModel", name := "look", desc := "(I)I" } : Jvm.MethodName)) ∈ wA := wA_of 418 (by decide +kernel) (by decide +kernel)
theorem wm_419 : (Jvm.Cond.selects "WaveBlocksModel" ({ cls := "WaveBlocksModel", name := "look", desc := "(I)I" } : Jvm.MethodName) ({ cls := "WaveBlocksModel", name := "look", desc := "(I)I" } : Jvm.MethodName)) ∈ wA := wA_of 419 (by decide +kernel) (by decide +kernel)
theorem wm_420 : (Jvm.Cond.code ({ cls := "WaveBlocksModel", name := "look", desc := "(I)I" } : Jvm.MethodName) prog_3_method_25_code (8 : Nat) (Option.some Jvm.ClassFile.FieldType.int)) ∈ wA := wA_of 420 (by decide +kernel) (by decide +kernel)
theorem wm_421 : (Jvm.Cond.constantLong "WaveBlocksLaw" (68 : Nat) (4294967295 : Int64)) ∈ wA := wA_of 421 (by decide +kernel) (by decide +kernel)
theorem inA0 : ∀ w ∈ u_ws RX0 TX0 5, w ∈ wA := by decide +kernel
theorem inA1 : ∀ w ∈ u_ws RX1 TX1 8, w ∈ wA := by decide +kernel
theorem hat_i : ∀ w ∈ (vx_atS RX0 34 "java/lang/IndexOutOfBoundsException" ["java/lang/RuntimeException", "java/lang/Exception"]).filter goodWord, w ∈ wA := by decide +kernel
theorem hatB_i : ∀ w ∈ (vx_atS RX0 34 "java/lang/IndexOutOfBoundsException" ["java/lang/RuntimeException", "java/lang/Exception"]).filter (fun w => !goodWord w), w ∈ ([.castable "java/lang/IndexOutOfBoundsException" "java/lang/IndexOutOfBoundsException", .declares ⟨"java/lang/RuntimeException", "<init>", "(Ljava/lang/String;)V"⟩, .declares ⟨"java/lang/Exception", "<init>", "(Ljava/lang/String;)V"⟩, .declares ⟨"java/lang/Throwable", "<init>", "(Ljava/lang/String;)V"⟩] : List Cond) := by decide +kernel
theorem hatG_i : ∀ w ∈ Cond.classLink RX0 30 "java/lang/IndexOutOfBoundsException" :: Cond.initialized "java/lang/IndexOutOfBoundsException" :: vx_atS RX0 34 "java/lang/IndexOutOfBoundsException" ["java/lang/RuntimeException", "java/lang/Exception"], vx_ot w = true := by decide +kernel
theorem hat_a : ∀ w ∈ (vx_atS RX0 41 "java/lang/IllegalArgumentException" ["java/lang/RuntimeException", "java/lang/Exception"]).filter goodWord, w ∈ wA := by decide +kernel
theorem hatB_a : ∀ w ∈ (vx_atS RX0 41 "java/lang/IllegalArgumentException" ["java/lang/RuntimeException", "java/lang/Exception"]).filter (fun w => !goodWord w), w ∈ ([.castable "java/lang/IllegalArgumentException" "java/lang/IllegalArgumentException", .declares ⟨"java/lang/RuntimeException", "<init>", "(Ljava/lang/String;)V"⟩, .declares ⟨"java/lang/Exception", "<init>", "(Ljava/lang/String;)V"⟩, .declares ⟨"java/lang/Throwable", "<init>", "(Ljava/lang/String;)V"⟩] : List Cond) := by decide +kernel
theorem hatG_a : ∀ w ∈ Cond.classLink RX0 37 "java/lang/IllegalArgumentException" :: Cond.initialized "java/lang/IllegalArgumentException" :: vx_atS RX0 41 "java/lang/IllegalArgumentException" ["java/lang/RuntimeException", "java/lang/Exception"], vx_ot w = true := by decide +kernel
end
section
/-! own rows over the kit's: numbers that are small naturals, comparisons by toInt, arrays by a natural place -/
section CX
variable {p : Program} {l : Launch} {e : Env} {R : Room} {s : State} {m : MethodId} {args : Array Value} {below : List Frame} {meth : Method} {c : Code} {H : Heap} {locs : List Loc} {cells slots : Nat} {Q : State → Prop}
variable {cc : ByteArray} {pc : Nat} {ls : Array Slot} {rest : List Value} {D : va_G} {cl : List vw_C} {A : Nat → Prop} {a : Nat} {tys : List (ClassId × FieldType)} {ws : va_W} {H0 : Heap}
theorem cx_iadd (hx : p.tables.exec = Jvm.exec) (hb : c.code = cc) (x y : Nat) (hdg : decode cc pc = .ok (.iadd, 1)) (k : W p l e R s m args below meth c H locs cells slots Q (F0 m (pc + 1) ls (.int (nI (x + y)) :: rest))) : W p l e R s m args below meth c H locs cells slots Q (F0 m pc ls (.int (nI y) :: .int (nI x) :: rest)) := lv_iadd hx hb hdg (by rw [nI_add]; exact k)
theorem cx_imul (hx : p.tables.exec = Jvm.exec) (hb : c.code = cc) (x y : Nat) (hdg : decode cc pc = .ok (.imul, 1)) (k : W p l e R s m args below meth c H locs cells slots Q (F0 m (pc + 1) ls (.int (nI (x * y)) :: rest))) : W p l e R s m args below meth c H locs cells slots Q (F0 m pc ls (.int (nI y) :: .int (nI x) :: rest)) := lv_imul hx hb hdg (by rw [pk_mul]; exact k)
theorem cx_isub (hx : p.tables.exec = Jvm.exec) (hb : c.code = cc) (x y : Nat) (h : y ≤ x) (hdg : decode cc pc = .ok (.isub, 1)) (k : W p l e R s m args below meth c H locs cells slots Q (F0 m (pc + 1) ls (.int (nI (x - y)) :: rest))) : W p l e R s m args below meth c H locs cells slots Q (F0 m pc ls (.int (nI y) :: .int (nI x) :: rest)) := lv_isub hx hb hdg (by rw [pk_sub h]; exact k)
theorem cx_icmp_lt (hx : p.tables.exec = Jvm.exec) (hb : c.code = cc) {x y : Int32} {i j off : Int} {tgt : Nat} (hi : x.toInt = i) (hj : y.toInt = j) (hdg : decode cc pc = .ok (.if_icmp .lt off, 3)) (ht : (pc : Int) + off = (tgt : Int)) (kt : i < j → W p l e R s m args below meth c H locs cells slots Q (F0 m tgt ls rest)) (kf : j ≤ i → W p l e R s m args below meth c H locs cells slots Q (F0 m (pc + 3) ls rest)) : W p l e R s m args below meth c H locs cells slots Q (F0 m pc ls (.int y :: .int x :: rest)) := by
  subst hi; subst hj
  exact lv_icmp_lt hx hb hdg ht (fun h => kt (Int32.lt_iff_toInt_lt.mp h)) (fun h => kf (Int.not_lt.mp fun q => h (Int32.lt_iff_toInt_lt.mpr q)))
theorem cx_icmp_ge (hx : p.tables.exec = Jvm.exec) (hb : c.code = cc) {x y : Int32} {i j off : Int} {tgt : Nat} (hi : x.toInt = i) (hj : y.toInt = j) (hdg : decode cc pc = .ok (.if_icmp .ge off, 3)) (ht : (pc : Int) + off = (tgt : Int)) (kt : j ≤ i → W p l e R s m args below meth c H locs cells slots Q (F0 m tgt ls rest)) (kf : i < j → W p l e R s m args below meth c H locs cells slots Q (F0 m (pc + 3) ls rest)) : W p l e R s m args below meth c H locs cells slots Q (F0 m pc ls (.int y :: .int x :: rest)) := by
  subst hi; subst hj
  exact lv_icmp_ge hx hb hdg ht (fun h => kt (Int32.le_iff_toInt_le.mp h)) (fun h => kf (Int.not_le.mp fun q => h (Int32.le_iff_toInt_le.mpr q)))
theorem cx_icmp_gt (hx : p.tables.exec = Jvm.exec) (hb : c.code = cc) {x y : Int32} {i j off : Int} {tgt : Nat} (hi : x.toInt = i) (hj : y.toInt = j) (hdg : decode cc pc = .ok (.if_icmp .gt off, 3)) (ht : (pc : Int) + off = (tgt : Int)) (kt : j < i → W p l e R s m args below meth c H locs cells slots Q (F0 m tgt ls rest)) (kf : i ≤ j → W p l e R s m args below meth c H locs cells slots Q (F0 m (pc + 3) ls rest)) : W p l e R s m args below meth c H locs cells slots Q (F0 m pc ls (.int y :: .int x :: rest)) := by
  subst hi; subst hj
  exact lv_icmp_gt hx hb hdg ht (fun h => kt (Int32.lt_iff_toInt_lt.mp h)) (fun h => kf (Int.not_lt.mp fun q => h (Int32.lt_iff_toInt_lt.mpr q)))
theorem cx_icmp_le (hx : p.tables.exec = Jvm.exec) (hb : c.code = cc) {x y : Int32} {i j off : Int} {tgt : Nat} (hi : x.toInt = i) (hj : y.toInt = j) (hdg : decode cc pc = .ok (.if_icmp .le off, 3)) (ht : (pc : Int) + off = (tgt : Int)) (kt : i ≤ j → W p l e R s m args below meth c H locs cells slots Q (F0 m tgt ls rest)) (kf : j < i → W p l e R s m args below meth c H locs cells slots Q (F0 m (pc + 3) ls rest)) : W p l e R s m args below meth c H locs cells slots Q (F0 m pc ls (.int y :: .int x :: rest)) := by
  subst hi; subst hj
  exact lv_icmp_le hx hb hdg ht (fun h => kt (Int32.le_iff_toInt_le.mp h)) (fun h => kf (Int.not_le.mp fun q => h (Int32.le_iff_toInt_le.mpr q)))
theorem cx_icmp_eq (hx : p.tables.exec = Jvm.exec) (hb : c.code = cc) {x y : Int32} {i j off : Int} {tgt : Nat} (hi : x.toInt = i) (hj : y.toInt = j) (hdg : decode cc pc = .ok (.if_icmp .eq off, 3)) (ht : (pc : Int) + off = (tgt : Int)) (kt : i = j → W p l e R s m args below meth c H locs cells slots Q (F0 m tgt ls rest)) (kf : i ≠ j → W p l e R s m args below meth c H locs cells slots Q (F0 m (pc + 3) ls rest)) : W p l e R s m args below meth c H locs cells slots Q (F0 m pc ls (.int y :: .int x :: rest)) := by
  subst hi; subst hj
  exact lv_icmp_eq hx hb hdg ht (fun h => kt (by rw [h])) (fun h => kf fun q => h (Int32.toInt_inj.mp q))
theorem cx_icmp_ne (hx : p.tables.exec = Jvm.exec) (hb : c.code = cc) {x y : Int32} {i j off : Int} {tgt : Nat} (hi : x.toInt = i) (hj : y.toInt = j) (hdg : decode cc pc = .ok (.if_icmp .ne off, 3)) (ht : (pc : Int) + off = (tgt : Int)) (kt : i ≠ j → W p l e R s m args below meth c H locs cells slots Q (F0 m tgt ls rest)) (kf : i = j → W p l e R s m args below meth c H locs cells slots Q (F0 m (pc + 3) ls rest)) : W p l e R s m args below meth c H locs cells slots Q (F0 m pc ls (.int y :: .int x :: rest)) := by
  subst hi; subst hj
  exact lv_icmp_ne hx hb hdg ht (fun h => kt fun q => h (Int32.toInt_inj.mp q)) (fun h => kf (by rw [h]))
theorem cx_if_lt (hx : p.tables.exec = Jvm.exec) (hb : c.code = cc) {x : Int32} {i j off : Int} {tgt : Nat} (hi : x.toInt = i) (hj : (0 : Int) = j) (hdg : decode cc pc = .ok (.ifCond .lt off, 3)) (ht : (pc : Int) + off = (tgt : Int)) (kt : i < j → W p l e R s m args below meth c H locs cells slots Q (F0 m tgt ls rest)) (kf : j ≤ i → W p l e R s m args below meth c H locs cells slots Q (F0 m (pc + 3) ls rest)) : W p l e R s m args below meth c H locs cells slots Q (F0 m pc ls (.int x :: rest)) := by
  subst hi; subst hj
  exact lv_if_lt hx hb hdg ht (fun h => kt (Int32.lt_iff_toInt_lt.mp h)) (fun h => kf (Int.not_lt.mp fun q => h (Int32.lt_iff_toInt_lt.mpr q)))
theorem cx_if_ge (hx : p.tables.exec = Jvm.exec) (hb : c.code = cc) {x : Int32} {i j off : Int} {tgt : Nat} (hi : x.toInt = i) (hj : (0 : Int) = j) (hdg : decode cc pc = .ok (.ifCond .ge off, 3)) (ht : (pc : Int) + off = (tgt : Int)) (kt : j ≤ i → W p l e R s m args below meth c H locs cells slots Q (F0 m tgt ls rest)) (kf : i < j → W p l e R s m args below meth c H locs cells slots Q (F0 m (pc + 3) ls rest)) : W p l e R s m args below meth c H locs cells slots Q (F0 m pc ls (.int x :: rest)) := by
  subst hi; subst hj
  exact lv_if_ge hx hb hdg ht (fun h => kt (Int32.le_iff_toInt_le.mp h)) (fun h => kf (Int.not_le.mp fun q => h (Int32.le_iff_toInt_le.mpr q)))
theorem cx_if_gt (hx : p.tables.exec = Jvm.exec) (hb : c.code = cc) {x : Int32} {i j off : Int} {tgt : Nat} (hi : x.toInt = i) (hj : (0 : Int) = j) (hdg : decode cc pc = .ok (.ifCond .gt off, 3)) (ht : (pc : Int) + off = (tgt : Int)) (kt : j < i → W p l e R s m args below meth c H locs cells slots Q (F0 m tgt ls rest)) (kf : i ≤ j → W p l e R s m args below meth c H locs cells slots Q (F0 m (pc + 3) ls rest)) : W p l e R s m args below meth c H locs cells slots Q (F0 m pc ls (.int x :: rest)) := by
  subst hi; subst hj
  exact lv_if_gt hx hb hdg ht (fun h => kt (Int32.lt_iff_toInt_lt.mp h)) (fun h => kf (Int.not_lt.mp fun q => h (Int32.lt_iff_toInt_lt.mpr q)))
theorem cx_if_le (hx : p.tables.exec = Jvm.exec) (hb : c.code = cc) {x : Int32} {i j off : Int} {tgt : Nat} (hi : x.toInt = i) (hj : (0 : Int) = j) (hdg : decode cc pc = .ok (.ifCond .le off, 3)) (ht : (pc : Int) + off = (tgt : Int)) (kt : i ≤ j → W p l e R s m args below meth c H locs cells slots Q (F0 m tgt ls rest)) (kf : j < i → W p l e R s m args below meth c H locs cells slots Q (F0 m (pc + 3) ls rest)) : W p l e R s m args below meth c H locs cells slots Q (F0 m pc ls (.int x :: rest)) := by
  subst hi; subst hj
  exact lv_if_le hx hb hdg ht (fun h => kt (Int32.le_iff_toInt_le.mp h)) (fun h => kf (Int.not_le.mp fun q => h (Int32.le_iff_toInt_le.mpr q)))
theorem cx_if_eq (hx : p.tables.exec = Jvm.exec) (hb : c.code = cc) {x : Int32} {i j off : Int} {tgt : Nat} (hi : x.toInt = i) (hj : (0 : Int) = j) (hdg : decode cc pc = .ok (.ifCond .eq off, 3)) (ht : (pc : Int) + off = (tgt : Int)) (kt : i = j → W p l e R s m args below meth c H locs cells slots Q (F0 m tgt ls rest)) (kf : i ≠ j → W p l e R s m args below meth c H locs cells slots Q (F0 m (pc + 3) ls rest)) : W p l e R s m args below meth c H locs cells slots Q (F0 m pc ls (.int x :: rest)) := by
  subst hi; subst hj
  exact lv_if_eq hx hb hdg ht (fun h => kt (by rw [h]; rfl)) (fun h => kf fun q => h (Int32.toInt_inj.mp q))
theorem cx_if_ne (hx : p.tables.exec = Jvm.exec) (hb : c.code = cc) {x : Int32} {i j off : Int} {tgt : Nat} (hi : x.toInt = i) (hj : (0 : Int) = j) (hdg : decode cc pc = .ok (.ifCond .ne off, 3)) (ht : (pc : Int) + off = (tgt : Int)) (kt : i ≠ j → W p l e R s m args below meth c H locs cells slots Q (F0 m tgt ls rest)) (kf : i = j → W p l e R s m args below meth c H locs cells slots Q (F0 m (pc + 3) ls rest)) : W p l e R s m args below meth c H locs cells slots Q (F0 m pc ls (.int x :: rest)) := by
  subst hi; subst hj
  exact lv_if_ne hx hb hdg ht (fun h => kt fun q => h (Int32.toInt_inj.mp q)) (fun h => kf (by rw [h]; rfl))
theorem cx_lcmp_lt (hx : p.tables.exec = Jvm.exec) (hb : c.code = cc) {x y : Int64} {i j off : Int} {tgt : Nat} (hi : x.toInt = i) (hj : y.toInt = j) (d1 : decode cc pc = .ok (.lcmp, 1)) (d2 : decode cc (pc + 1) = .ok (.ifCond .lt off, 3)) (ht : ((pc + 1 : Nat) : Int) + off = (tgt : Int)) (kt : i < j → W p l e R s m args below meth c H locs cells slots Q (F0 m tgt ls rest)) (kf : j ≤ i → W p l e R s m args below meth c H locs cells slots Q (F0 m (pc + 1 + 3) ls rest)) : W p l e R s m args below meth c H locs cells slots Q (F0 m pc ls (.long y :: .long x :: rest)) := by
  subst hi; subst hj
  exact W.lcmp hx hb d1 (lv_if_lt hx hb d2 ht (fun h => kt (Int64.lt_iff_toInt_lt.mp ((lg_cmp_lt x y).mp h))) (fun h => kf (Int.not_lt.mp fun q => h ((lg_cmp_lt x y).mpr (Int64.lt_iff_toInt_lt.mpr q)))))
theorem cx_lcmp_ge (hx : p.tables.exec = Jvm.exec) (hb : c.code = cc) {x y : Int64} {i j off : Int} {tgt : Nat} (hi : x.toInt = i) (hj : y.toInt = j) (d1 : decode cc pc = .ok (.lcmp, 1)) (d2 : decode cc (pc + 1) = .ok (.ifCond .ge off, 3)) (ht : ((pc + 1 : Nat) : Int) + off = (tgt : Int)) (kt : j ≤ i → W p l e R s m args below meth c H locs cells slots Q (F0 m tgt ls rest)) (kf : i < j → W p l e R s m args below meth c H locs cells slots Q (F0 m (pc + 1 + 3) ls rest)) : W p l e R s m args below meth c H locs cells slots Q (F0 m pc ls (.long y :: .long x :: rest)) := by
  subst hi; subst hj
  exact W.lcmp hx hb d1 (lv_if_ge hx hb d2 ht (fun h => kt (Int64.le_iff_toInt_le.mp ((lg_cmp_ge x y).mp h))) (fun h => kf (Int.not_le.mp fun q => h ((lg_cmp_ge x y).mpr (Int64.le_iff_toInt_le.mpr q)))))
theorem cx_lcmp_gt (hx : p.tables.exec = Jvm.exec) (hb : c.code = cc) {x y : Int64} {i j off : Int} {tgt : Nat} (hi : x.toInt = i) (hj : y.toInt = j) (d1 : decode cc pc = .ok (.lcmp, 1)) (d2 : decode cc (pc + 1) = .ok (.ifCond .gt off, 3)) (ht : ((pc + 1 : Nat) : Int) + off = (tgt : Int)) (kt : j < i → W p l e R s m args below meth c H locs cells slots Q (F0 m tgt ls rest)) (kf : i ≤ j → W p l e R s m args below meth c H locs cells slots Q (F0 m (pc + 1 + 3) ls rest)) : W p l e R s m args below meth c H locs cells slots Q (F0 m pc ls (.long y :: .long x :: rest)) := by
  subst hi; subst hj
  exact W.lcmp hx hb d1 (lv_if_gt hx hb d2 ht (fun h => kt (Int64.lt_iff_toInt_lt.mp ((lg_cmp_gt x y).mp h))) (fun h => kf (Int.not_lt.mp fun q => h ((lg_cmp_gt x y).mpr (Int64.lt_iff_toInt_lt.mpr q)))))
theorem cx_lcmp_le (hx : p.tables.exec = Jvm.exec) (hb : c.code = cc) {x y : Int64} {i j off : Int} {tgt : Nat} (hi : x.toInt = i) (hj : y.toInt = j) (d1 : decode cc pc = .ok (.lcmp, 1)) (d2 : decode cc (pc + 1) = .ok (.ifCond .le off, 3)) (ht : ((pc + 1 : Nat) : Int) + off = (tgt : Int)) (kt : i ≤ j → W p l e R s m args below meth c H locs cells slots Q (F0 m tgt ls rest)) (kf : j < i → W p l e R s m args below meth c H locs cells slots Q (F0 m (pc + 1 + 3) ls rest)) : W p l e R s m args below meth c H locs cells slots Q (F0 m pc ls (.long y :: .long x :: rest)) := by
  subst hi; subst hj
  exact W.lcmp hx hb d1 (lv_if_le hx hb d2 ht (fun h => kt (Int64.le_iff_toInt_le.mp ((lg_cmp_le x y).mp h))) (fun h => kf (Int.not_le.mp fun q => h ((lg_cmp_le x y).mpr (Int64.le_iff_toInt_le.mpr q)))))
theorem cx_lcmp_eq (hx : p.tables.exec = Jvm.exec) (hb : c.code = cc) {x y : Int64} {i j off : Int} {tgt : Nat} (hi : x.toInt = i) (hj : y.toInt = j) (d1 : decode cc pc = .ok (.lcmp, 1)) (d2 : decode cc (pc + 1) = .ok (.ifCond .eq off, 3)) (ht : ((pc + 1 : Nat) : Int) + off = (tgt : Int)) (kt : i = j → W p l e R s m args below meth c H locs cells slots Q (F0 m tgt ls rest)) (kf : i ≠ j → W p l e R s m args below meth c H locs cells slots Q (F0 m (pc + 1 + 3) ls rest)) : W p l e R s m args below meth c H locs cells slots Q (F0 m pc ls (.long y :: .long x :: rest)) := by
  subst hi; subst hj
  exact W.lcmp hx hb d1 (lv_if_eq hx hb d2 ht (fun h => kt (by rw [(lg_cmp_eq x y).mp h])) (fun h => kf fun q => h ((lg_cmp_eq x y).mpr (Int64.toInt_inj.mp q))))
theorem cx_lcmp_ne (hx : p.tables.exec = Jvm.exec) (hb : c.code = cc) {x y : Int64} {i j off : Int} {tgt : Nat} (hi : x.toInt = i) (hj : y.toInt = j) (d1 : decode cc pc = .ok (.lcmp, 1)) (d2 : decode cc (pc + 1) = .ok (.ifCond .ne off, 3)) (ht : ((pc + 1 : Nat) : Int) + off = (tgt : Int)) (kt : i ≠ j → W p l e R s m args below meth c H locs cells slots Q (F0 m tgt ls rest)) (kf : i = j → W p l e R s m args below meth c H locs cells slots Q (F0 m (pc + 1 + 3) ls rest)) : W p l e R s m args below meth c H locs cells slots Q (F0 m pc ls (.long y :: .long x :: rest)) := by
  subst hi; subst hj
  exact W.lcmp hx hb d1 (lv_if_ne hx hb d2 ht (fun h => kt fun q => h ((lg_cmp_eq x y).mpr (Int64.toInt_inj.mp q))) (fun h => kf (by rw [(lg_cmp_eq x y).mp h])))
theorem cx_iald (hx : p.tables.exec = Jvm.exec) (hb : c.code = cc) (hK : va_K D cl tys s) (hP : va_P D cl ws H) (q0 t0 : Nat) {cA : ClassId} {n : Nat} {f : Nat → Int32} (ha : ws[q0]? = some (a, .inl (cA, n, .inl f))) (ht : tys[t0]? = some (cA, .int)) (j : Nat) (hj : j < n) (hn : n < 2 ^ 31) (hdg : decode cc pc = .ok (.iaload, 1))
    (kk : W p l e R s m args below meth c H locs cells slots Q (F0 m (pc + 1) ls (.int (f j) :: rest))) : W p l e R s m args below meth c H locs cells slots Q (F0 m pc ls (.int (nI j) :: .ref a :: rest)) :=
  va_iald hx hb hK hP q0 t0 ha ht (vp_in_nI hj hn) hdg (by rw [nI_clamp (Nat.lt_trans hj hn)]; exact kk)
theorem cx_lald (hx : p.tables.exec = Jvm.exec) (hb : c.code = cc) (hK : va_K D cl tys s) (hP : va_P D cl ws H) (q0 t0 : Nat) {cA : ClassId} {n : Nat} {f : Nat → Int64} (ha : ws[q0]? = some (a, .inl (cA, n, .inr (.inl f)))) (ht : tys[t0]? = some (cA, .long)) (j : Nat) (hj : j < n) (hn : n < 2 ^ 31) (hdg : decode cc pc = .ok (.laload, 1))
    (kk : W p l e R s m args below meth c H locs cells slots Q (F0 m (pc + 1) ls (.long (f j) :: rest))) : W p l e R s m args below meth c H locs cells slots Q (F0 m pc ls (.int (nI j) :: .ref a :: rest)) :=
  va_lald hx hb hK hP q0 t0 ha ht (vp_in_nI hj hn) hdg (by rw [nI_clamp (Nat.lt_trans hj hn)]; exact kk)
theorem cx_iast (hx : p.tables.exec = Jvm.exec) (hb : c.code = cc) (hK : va_K D cl tys s) (hP : va_P D cl ws H) (hD : va_D A ws) (hS : va_S A H0 H locs) (q0 t0 : Nat) {cA : ClassId} {n : Nat} {f : Nat → Int32} (ha : ws[q0]? = some (a, .inl (cA, n, .inl f))) (ht : tys[t0]? = some (cA, .int)) (j : Nat) {x : Int32} (hj : j < n) (hn : n < 2 ^ 31) (hdg : decode cc pc = .ok (.iastore, 1))
    (kk : ∀ (H1 : Heap) (locs1 : List Loc), va_P D cl (ws.set q0 (a, .inl (cA, n, .inl (upd f j x)))) H1 → va_D A (ws.set q0 (a, .inl (cA, n, .inl (upd f j x)))) → va_S A H0 H1 locs1 → W p l e R s m args below meth c H1 locs1 cells slots Q (F0 m (pc + 1) ls rest)) : W p l e R s m args below meth c H locs cells slots Q (F0 m pc ls (.int x :: .int (nI j) :: .ref a :: rest)) :=
  va_iast hx hb hK hP hD hS q0 t0 ha ht (vp_in_nI hj hn) hdg (by rw [nI_clamp (Nat.lt_trans hj hn)]; exact kk)
theorem cx_last (hx : p.tables.exec = Jvm.exec) (hb : c.code = cc) (hK : va_K D cl tys s) (hP : va_P D cl ws H) (hD : va_D A ws) (hS : va_S A H0 H locs) (q0 t0 : Nat) {cA : ClassId} {n : Nat} {f : Nat → Int64} (ha : ws[q0]? = some (a, .inl (cA, n, .inr (.inl f)))) (ht : tys[t0]? = some (cA, .long)) (j : Nat) {x : Int64} (hj : j < n) (hn : n < 2 ^ 31) (hdg : decode cc pc = .ok (.lastore, 1))
    (kk : ∀ (H1 : Heap) (locs1 : List Loc), va_P D cl (ws.set q0 (a, .inl (cA, n, .inr (.inl (vp_updL f j x))))) H1 → va_D A (ws.set q0 (a, .inl (cA, n, .inr (.inl (vp_updL f j x))))) → va_S A H0 H1 locs1 → W p l e R s m args below meth c H1 locs1 cells slots Q (F0 m (pc + 1) ls rest)) : W p l e R s m args below meth c H locs cells slots Q (F0 m pc ls (.long x :: .int (nI j) :: .ref a :: rest)) :=
  va_last hx hb hK hP hD hS q0 t0 ha ht (vp_in_nI hj hn) hdg (by rw [nI_clamp (Nat.lt_trans hj hn)]; exact kk)
theorem cx_ti (hx : p.tables.exec = Jvm.exec) (hb : c.code = cc) {t N : Nat} {f : Nat → Int32} (hT : va_T .int t N (fun j => .int (f j)) A s s.heap) (hS : va_S A s.heap H locs) (j : Nat) (hj : j < N) (hN : N < 2 ^ 31) (hdg : decode cc pc = .ok (.iaload, 1))
    (kk : W p l e R s m args below meth c H locs cells slots Q (F0 m (pc + 1) ls (.int (f j) :: rest))) : W p l e R s m args below meth c H locs cells slots Q (F0 m pc ls (.int (nI j) :: .ref t :: rest)) :=
  va_ti hx hb hT hS (vp_in_nI hj hN) (by rw [nI_clamp (Nat.lt_trans hj hN)]) hdg kk
theorem cx_tabO (hx : p.tables.exec = Jvm.exec) (hb : c.code = cc) {x : Int32} {i dflt lo hi : Int} {offs : Array Int} {len tgt : Nat} (h0 : x.toInt = i) (hdg : decode cc pc = .ok (.tableswitch dflt lo hi offs, len)) (h : i < lo ∨ hi < i) (ht : (pc : Int) + dflt = (tgt : Int)) (k : W p l e R s m args below meth c H locs cells slots Q (F0 m tgt ls rest)) : W p l e R s m args below meth c H locs cells slots Q (F0 m pc ls (.int x :: rest)) := by
  subst h0
  exact lv_tableOut hx hb hdg h ht k
theorem cx_tabI (hx : p.tables.exec = Jvm.exec) (hb : c.code = cc) {x : Int32} {i dflt lo hi off : Int} {offs : Array Int} {len tgt : Nat} (h0 : x.toInt = i) (hdg : decode cc pc = .ok (.tableswitch dflt lo hi offs, len)) (h1 : ¬ i < lo) (h2 : ¬ hi < i) (ho : offs[(i - lo).toNat]? = some off) (ht : (pc : Int) + off = (tgt : Int)) (k : W p l e R s m args below meth c H locs cells slots Q (F0 m tgt ls rest)) : W p l e R s m args below meth c H locs cells slots Q (F0 m pc ls (.int x :: rest)) := by
  subst h0
  exact lv_tableIn hx hb hdg h1 h2 ho ht k
end CX
end
section
/-! the numbers of the class: pure functions in the order in which its code computes them -/
def cQn (j : Nat) : Nat := ([8192, 8035, 7568, 6811, 5793, 4551, 3135, 1598, 0] : List Nat).getD j 0
def cPn (j : Nat) : Nat := ([0, 1, 5, 6, 14, 15, 27, 28, 2, 4, 7, 13, 16, 26, 29, 42, 3, 8, 12, 17, 25, 30, 41, 43, 9, 11, 18, 24, 31, 40, 44, 53, 10, 19, 23, 32, 39, 45, 52, 54, 20, 22, 33, 38, 46, 51, 55, 60, 21, 34, 37, 47, 50, 56, 59, 61, 35, 36, 48, 49, 57, 58, 62, 63] : List Nat).getD j 0
def cCn (j : Nat) : Nat := ([0, 1, 8, 16, 9, 2, 3, 10, 17, 24, 32, 25, 18, 11, 4, 5, 12, 19, 26, 33, 40, 48, 41, 34, 27, 20, 13, 6, 7, 14, 21, 28, 35, 42, 49, 56, 57, 50, 43, 36, 29, 22, 15, 23, 30, 37, 44, 51, 58, 59, 52, 45, 38, 31, 39, 46, 53, 60, 61, 54, 47, 55, 62, 63] : List Nat).getD j 0
def cQ (j : Nat) : Int32 := nI (cQn j)
def cP (j : Nat) : Int32 := nI (cPn j)
def cC (j : Nat) : Int32 := nI (cCn j)
theorem cCn_lt : ∀ j, j < 64 → cCn j < 64 := by decide +kernel
theorem cPn_lt : ∀ j, j < 64 → cPn j < 64 := by decide +kernel
theorem cCP : ∀ j, j < 64 → cPn (cCn j) = j := by decide +kernel
theorem cPC : ∀ j, j < 64 → cCn (cPn j) = j := by decide +kernel
def cosN (m : Nat) : Int32 := if m ≤ 8 then cQ m else if m ≤ 16 then -cQ (16 - m) else if m ≤ 24 then -cQ (m - 16) else cQ (32 - m)
def wvN (sp u x : Nat) : Int32 := if u = 0 then cQ 4 else cosN ((2 * x + 1) * u * sp % 32)
def sumL (f : Nat → Int64) : Nat → Int64
  | 0 => 0
  | n + 1 => sumL f n + f n
def sumI (f : Nat → Int32) : Nat → Int32
  | 0 => 0
  | n + 1 => sumI f n + f n
def cntI (f : Nat → Int32) : Nat → Int32
  | 0 => 0
  | n + 1 => if f n = 0 then cntI f n else cntI f n + 1
def lastI (f : Nat → Int32) : Nat → Int32
  | 0 => -1
  | n + 1 => if f n = 0 then lastI f n else nI n
def dnI : Nat → Int32
  | 0 => -1
  | n + 1 => nI n
theorem dnI_pred (n : Nat) : nI n + (-1) = dnI n := by
  cases n with
  | zero => decide +kernel
  | succ n => exact pk_m1 n
def absI (x : Int32) : Int32 := if 0 ≤ x then x else 0 - x
def absL (x : Int64) : Int64 := if 0 < x then x else -x
def maxL (x y : Int64) : Int64 := if y < x then x else y
def rdL (v : Int64) (sh : Int32) : Int64 := (v + (1 <<< ((sh - 1).toInt64 &&& 63))) >>> (sh.toInt64 &&& 63)
def clampV (v : Int64) (lo hi : Int32) : Int32 := if v.toInt < lo.toInt64.toInt then lo else if hi.toInt64.toInt < v.toInt then hi else v.toInt32
def magV (v st : Int32) : Int32 := (2 * absI v + st) / (2 * st)
def nearV (v st : Int32) : Int32 := if v.toInt < 0 then -magV v st else magV v st
/-- n is a size, sp is 8 / n -/
def isSz (n : Int32) (nn sp : Nat) : Prop := n = nI nn ∧ ((nn = 1 ∧ sp = 8) ∨ (nn = 2 ∧ sp = 4) ∨ (nn = 4 ∧ sp = 2) ∨ (nn = 8 ∧ sp = 1))
def noSz (n : Int32) : Prop := n.toInt ≠ 1 ∧ n.toInt ≠ 2 ∧ n.toInt ≠ 4 ∧ n.toInt ≠ 8
theorem cx_ofN {x : Int32} {n : Nat} (h1 : 0 ≤ x.toInt) (h2 : x.toInt < (n : Int)) (hn : n < 2 ^ 31) : ∃ j : Nat, j < n ∧ x = nI j := by
  refine ⟨x.toInt.toNat, by omega, ?_⟩
  apply Int32.toInt_inj.mp
  rw [nI_toInt (by omega)]
  omega
theorem cx_nI_inj {a b : Nat} (ha : a < 2 ^ 31) (hb : b < 2 ^ 31) (h : nI a = nI b) : a = b := (nI_eq ha hb).mp h
/-- P of BACK, the greatest of them, S -/
def bP (sp nn : Nat) (f0 f1 : Nat → Int32) (y u : Nat) : Int64 := rdL (sumL (fun v => (wvN sp v y).toInt64 * (f0 (v * 8 + u) * f1 (v * 8 + u)).toInt64) nn) 11
def bG1 (P : Nat → Nat → Int64) (y : Nat) (g : Int64) : Nat → Int64
  | 0 => g
  | u + 1 => maxL (bG1 P y g u) (absL (P y u))
def bG (P : Nat → Nat → Int64) (nn : Nat) : Nat → Int64
  | 0 => 0
  | y + 1 => bG1 P y (bG P nn y) nn
def bS (sp nn : Nat) (P : Nat → Nat → Int64) (y x : Nat) : Int32 := clampV (rdL (sumL (fun u => (wvN sp u x).toInt64 * P y u) nn) 17 + 128) 0 255
/-- P and E of FORWARD -/
def fP (f2 : Nat → Int32) (v x : Nat) : Int64 := rdL (sumL (fun y => (wvN 1 v y * (f2 (y * 8 + x) - 128)).toInt64) 8) 11
def fE (P : Nat → Nat → Int64) (v u : Nat) : Int32 := (rdL (sumL (fun x => (wvN 1 u x).toInt64 * P v x) 8) 17).toInt32
def smp (f : Nat → Int32) (y : Nat) : Nat → Int64
  | 0 => 0
  | x + 1 => (smp f y x <<< ((8 : Int32).toInt64 &&& 63)) ||| (f (y * 8 + x)).toInt64
def rowV (e : Int64) (x : Nat) : Int32 := ((e.toUInt64 >>> ((nI (56 - 8 * x)).toInt64.toUInt64 &&& Int64.toUInt64 63)).toInt64).toInt32 &&& 255
def erX (f2 f3 : Nat → Int32) (y : Nat) (a : Int32) : Nat → Int32
  | 0 => a
  | x + 1 => erX f2 f3 y a x + (f2 (y * 8 + x) - f3 (y * 8 + x)) * (f2 (y * 8 + x) - f3 (y * 8 + x))
def erY (f2 f3 : Nat → Int32) (n : Nat) : Nat → Int32
  | 0 => 0
  | y + 1 => erX f2 f3 y (erY f2 f3 n y) n
def stV (base slope percent : Int32) (v u : Nat) : Int32 := clampV ((((base + slope * nI (u + v)) * percent + 50) / 100).toInt64) 1 255
theorem sumL_congr {f g : Nat → Int64} : ∀ {n : Nat}, (∀ i, i < n → f i = g i) → sumL f n = sumL g n
  | 0, _ => rfl
  | n + 1, h => by
    show sumL f n + f n = sumL g n + g n
    rw [sumL_congr (fun i hi => h i (Nat.lt_succ_of_lt hi)), h n (Nat.lt_succ_self n)]
theorem sumI_congr {f g : Nat → Int32} : ∀ {n : Nat}, (∀ i, i < n → f i = g i) → sumI f n = sumI g n
  | 0, _ => rfl
  | n + 1, h => by
    show sumI f n + f n = sumI g n + g n
    rw [sumI_congr (fun i hi => h i (Nat.lt_succ_of_lt hi)), h n (Nat.lt_succ_self n)]
theorem cntI_congr {f g : Nat → Int32} : ∀ {n : Nat}, (∀ i, i < n → f i = g i) → cntI f n = cntI g n
  | 0, _ => rfl
  | n + 1, h => by
    show (if f n = 0 then cntI f n else cntI f n + 1) = (if g n = 0 then cntI g n else cntI g n + 1)
    rw [cntI_congr (fun i hi => h i (Nat.lt_succ_of_lt hi)), h n (Nat.lt_succ_self n)]
theorem lastI_congr {f g : Nat → Int32} : ∀ {n : Nat}, (∀ i, i < n → f i = g i) → lastI f n = lastI g n
  | 0, _ => rfl
  | n + 1, h => by
    show (if f n = 0 then lastI f n else nI n) = (if g n = 0 then lastI g n else nI n)
    rw [lastI_congr (fun i hi => h i (Nat.lt_succ_of_lt hi)), h n (Nat.lt_succ_self n)]
theorem cx_eq0 {x : Int32} (h : x.toInt = 0) : x = 0 := Int32.toInt_inj.mp h
theorem cx_ne0 {x : Int32} (h : x.toInt ≠ 0) : ¬ x = 0 := fun q => h (by rw [q]; rfl)
theorem cntI_z {f : Nat → Int32} {n : Nat} (h : (f n).toInt = 0) : cntI f n = cntI f (n + 1) := by
  show _ = (if f n = 0 then cntI f n else cntI f n + 1)
  rw [if_pos (cx_eq0 h)]
theorem cntI_s {f : Nat → Int32} {n : Nat} (h : (f n).toInt ≠ 0) : cntI f n + 1 = cntI f (n + 1) := by
  show _ = (if f n = 0 then cntI f n else cntI f n + 1)
  rw [if_neg (cx_ne0 h)]
theorem lastI_z {f : Nat → Int32} {n : Nat} (h : (f n).toInt = 0) : lastI f (n + 1) = lastI f n := by
  show (if f n = 0 then lastI f n else nI n) = _
  rw [if_pos (cx_eq0 h)]
theorem lastI_s {f : Nat → Int32} {n : Nat} (h : (f n).toInt ≠ 0) : lastI f (n + 1) = nI n := by
  show (if f n = 0 then lastI f n else nI n) = _
  rw [if_neg (cx_ne0 h)]
theorem cx_2st {st : Int32} (h1 : 1 ≤ st.toInt) (h2 : st.toInt ≤ 255) : ¬ (2 : Int32) * st = 0 := by
  obtain ⟨k, hk, rfl⟩ := cx_ofN (x := st) (n := 256) (by omega) (by omega) (by decide)
  rw [nI_toInt (by omega)] at h1
  intro h
  exact nI_ne0 (n := 2 * k) (by omega) (by omega) ((pk_mul 2 k).symm.trans h)
def lookV (f0 f1 f2 : Nat → Int32) (q : Int32) : Int32 := if q.toInt = 0 then cntI f0 64 else if q.toInt = 1 then lastI (fun j => f0 (cCn j)) 64 else if q.toInt = 2 then sumI f1 64 else if q.toInt = 3 then sumI f2 64 else if q.toInt = 4 then sumI (fun j => absI (f0 j)) 64 else -1
def orderV (a b : Int32) : Int32 := if (0 ≤ a.toInt ∧ a.toInt < 8) ∧ (0 ≤ b.toInt ∧ b.toInt < 8) then cP (a.toInt.toNat * 8 + b.toInt.toNat) else -1
def samplesV (f2 : Nat → Int32) (y : Int32) : Int64 := if 0 ≤ y.toInt ∧ y.toInt < 8 then smp f2 y.toInt.toNat 8 else 0
theorem cx_toNat {j : Nat} (h : j < 2 ^ 31) : (nI j).toInt.toNat = j := by rw [nI_toInt h]; rfl
theorem fE_congr {P Q : Nat → Nat → Int64} {v u : Nat} (h : ∀ b, b < 8 → P v b = Q v b) : fE P v u = fE Q v u := by
  unfold fE
  rw [sumL_congr (fun i hi => by rw [h i hi])]
theorem bS_congr {P Q : Nat → Nat → Int64} {sp nn y x : Nat} (h : ∀ b, b < nn → P y b = Q y b) : bS sp nn P y x = bS sp nn Q y x := by
  unfold bS
  rw [sumL_congr (fun i hi => by rw [h i hi])]
theorem upd_step {f : Nat → Int32} {i : Nat} {x : Int32} {P : Nat → Int32 → Prop} (h : ∀ j, j < i → P j (f j)) (hx : P i x) : ∀ j, j < i + 1 → P j (upd f i x j) := by
  intro j hj
  by_cases hq : i = j
  · subst hq
    rw [pk_us]
    exact hx
  · rw [pk_un (fun q => hq q.symm)]
    exact h j (by omega)
def szOk (q : Int32) : Prop := q.toInt = 1 ∨ q.toInt = 2 ∨ q.toInt = 4 ∨ q.toInt = 8
theorem isSz_facts {q : Int32} {nn sp : Nat} (h : isSz q nn sp) : nn ≤ 8 ∧ sp ≤ 8 ∧ (sp ≠ 0 ∧ q.toInt = (nn : Int)) ∧ q.toInt.toNat = nn ∧ 8 / nn = sp ∧ szOk q := by
  obtain ⟨rfl, h⟩ := h
  rcases h with ⟨rfl, rfl⟩ | ⟨rfl, rfl⟩ | ⟨rfl, rfl⟩ | ⟨rfl, rfl⟩ <;> (unfold szOk; decide +kernel)
def atV (f0 f1 : Nat → Int32) (j : Nat) (k : Int32) : Int32 := if k.toInt = 0 then f0 (cCn j) else if k.toInt = 1 then f1 (cCn j) else if k.toInt = 2 then nI (cCn j) >>> (3 &&& 31) else nI (cCn j) &&& 7
end
section
/-! the class's world: the object, its five grids; the array classes; the statics and texts that nobody writes -/
abbrev cw (x : Nat → Nat) (cd : Nat → ClassId) (f0 f1 f2 f3 : Nat → Int32) (g : Nat → Int64) : va_W := [(x 0, .inr (0, [.ref (x 1), .ref (x 2), .ref (x 3), .ref (x 4), .ref (x 5)])), (x 1, .inl (cd 1, 64, .inl f0)), (x 2, .inl (cd 2, 64, .inl f1)), (x 3, .inl (cd 3, 64, .inl f2)), (x 4, .inl (cd 4, 64, .inl f3)), (x 5, .inl (cd 5, 64, .inr (.inl g)))]
abbrev cwo (x : Nat → Nat) (cd : Nat → ClassId) (f0 f1 f2 f3 : Nat → Int32) (g : Nat → Int64) (ow : Nat) (co : ClassId) (o : Nat → Int64) : va_W := cw x cd f0 f1 f2 f3 g ++ [(ow, .inl (co, 1, .inr (.inl o)))]
abbrev cty (cd : Nat → ClassId) : List (ClassId × FieldType) := [(cd 1, .int), (cd 2, .int), (cd 3, .int), (cd 4, .int), (cd 5, .long)]
def cTt (n : String) (N : Nat) (f : Nat → Int32) (A : Nat → Prop) (U : State) (H : Heap) : Prop := ∃ t : Nat, va_Z "WaveBlocks" n "[I" (.ref t) A U H ∧ va_T .int t N (fun j => .int (f j)) A U H
theorem cTt.at {n : String} {N : Nat} {f : Nat → Int32} {A B : Nat → Prop} {s U : State} {H : Heap} {locs : List Loc} (h : cTt n N f A s s.heap) (hS : va_S A s.heap H locs) (hW : s.WarmedH U.vm) (hU : U.heap = H) (hAB : ∀ q, B q → A q) : cTt n N f B U U.heap := by
  subst hU
  obtain ⟨t, z, w⟩ := h
  exact ⟨t, va_Z.narrow (va_Z.moved hW.alike (z.kept hS.2.1)) hAB, va_T.narrow (va_T.moved hW.alike (w.kept hS.2.1)) hAB⟩
def cNw (U : State) : Prop := va_Nw (.castable "java/lang/IndexOutOfBoundsException" "java/lang/IndexOutOfBoundsException") U ∧ va_Nw (.castable "java/lang/IllegalArgumentException" "java/lang/IllegalArgumentException") U ∧ va_Nw (.declares ⟨"java/lang/RuntimeException", "<init>", "(Ljava/lang/String;)V"⟩) U ∧ va_Nw (.declares ⟨"java/lang/Exception", "<init>", "(Ljava/lang/String;)V"⟩) U ∧ va_Nw (.declares ⟨"java/lang/Throwable", "<init>", "(Ljava/lang/String;)V"⟩) U
theorem cNw.at {s U : State} (h : cNw s) (hW : s.WarmedH U.vm) : cNw U := by
  obtain ⟨h1, h2, h3, h4, h5⟩ := h
  exact ⟨va_Nw.warmC hW h1, va_Nw.warmC hW h2, va_Nw.warmD hW h3, va_Nw.warmD hW h4, va_Nw.warmD hW h5⟩
def cStr (U : State) : Prop := (∃ sa : Nat, vk_R RX0 32 "no such place" sa U) ∧ (∃ sa : Nat, vk_R RX0 39 "a coefficient is -32768 .. 32767" sa U) ∧ (∃ sa : Nat, vk_R RX0 45 "a step is 1 .. 255" sa U) ∧ (∃ sa : Nat, vk_R RX0 47 "base is 1 .. 255, slope 0 .. 32, percent 1 .. 5000" sa U) ∧ (∃ sa : Nat, vk_R RX0 56 "no such row" sa U) ∧ (∃ sa : Nat, vk_R RX0 62 "a size is 1, 2, 4 or 8" sa U) ∧ (∃ sa : Nat, vk_R RX0 87 "n is 1 .. 8" sa U) ∧ (∃ sa : Nat, vk_R RX0 89 "no such place, or no such what" sa U) ∧ (∃ sa : Nat, vk_R RX0 94 "n is 1, 2, 4 or 8, u and x are 0 .. n - 1" sa U)
theorem cStr.at {s U : State} (h : cStr s) (hW : s.WarmedH U.vm) : cStr U := by
  obtain ⟨⟨a0, h0⟩, ⟨a1, h1⟩, ⟨a2, h2⟩, ⟨a3, h3⟩, ⟨a4, h4⟩, ⟨a5, h5⟩, ⟨a6, h6⟩, ⟨a7, h7⟩, ⟨a8, h8⟩⟩ := h
  exact ⟨⟨a0, vk_R.warm hW h0⟩, ⟨a1, vk_R.warm hW h1⟩, ⟨a2, vk_R.warm hW h2⟩, ⟨a3, vk_R.warm hW h3⟩, ⟨a4, vk_R.warm hW h4⟩, ⟨a5, vk_R.warm hW h5⟩, ⟨a6, vk_R.warm hW h6⟩, ⟨a7, vk_R.warm hW h7⟩, ⟨a8, vk_R.warm hW h8⟩⟩
def cT (A : Nat → Prop) (U : State) (H : Heap) : Prop := cTt "QUARTER" 9 cQ A U H ∧ cTt "PLACE_OF_CELL" 64 cP A U H ∧ cTt "CELL_OF_PLACE" 64 cC A U H ∧ vx_Zq "java/lang/Throwable" "UNASSIGNED_STACK" "[Ljava/lang/StackTraceElement;" A U H ∧ vx_Zq "java/lang/Throwable" "SUPPRESSED_SENTINEL" "Ljava/util/List;" A U H ∧ cNw U ∧ cStr U ∧ va_Nc "java/lang/IllegalArgumentException" "java/lang/IndexOutOfBoundsException" U
theorem cT.at {A B : Nat → Prop} {s U : State} {H : Heap} {locs : List Loc} (h : cT A s s.heap) (hS : va_S A s.heap H locs) (hW : s.WarmedH U.vm) (hU : U.heap = H) (hAB : ∀ q, B q → A q) : cT B U U.heap := by
  obtain ⟨h1, h2, h3, h4, h5, h6, h7, h8⟩ := h
  refine ⟨h1.at hS hW hU hAB, h2.at hS hW hU hAB, h3.at hS hW hU hAB, ?_, ?_, h6.at hW, h7.at hW, h8.moved hW.alike⟩
  · rw [hU]; exact vx_Zq.narrow (vx_Zq.moved hW.alike (h4.kept hS.2.1)) hAB
  · rw [hU]; exact vx_Zq.narrow (vx_Zq.moved hW.alike (h5.kept hS.2.1)) hAB
theorem cT.call {A : Nat → Prop} {U : State} {g : JFrame} {mk : MethodId} {a : Array Value} (h : cT A U U.heap) : cT A (U.calling g mk a) (U.calling g mk a).heap := cT.at (U := U.calling g mk a) h va_S.rf (State.WarmedH.refl U) rfl (fun _ q => q)
/-- the start of a method that only reads -/
def cro (D : va_G) (ws : va_W) (tys : List (ClassId × FieldType)) (U : State) : Prop := va_P D vwCl ws U.heap ∧ va_K D vwCl tys U ∧ cT (fun _ => False) U U.heap
theorem cro_blind {av : List Value} {D : va_G} {ws : va_W} {tys : List (ClassId × FieldType)} : FrameBlind (va_Pc av (cro D ws tys)) := fun a U g mk q => ⟨q.1, q.2.1, va_K.moved (u := U) (U := U.calling g mk a) (Vm.Alike.refl U.vm) q.2.2.1, q.2.2.2.call⟩
theorem cro_at {D : va_G} {ws : va_W} {tys : List (ClassId × FieldType)} {A : Nat → Prop} {s U : State} {H : Heap} {locs : List Loc} (hP : va_P D vwCl ws H) (hK : va_K D vwCl tys s) (hT : cT A s s.heap) (hS : va_S A s.heap H locs) (hU : U.heap = H) (hW : s.WarmedH U.vm) : cro D ws tys U := ⟨by rw [hU]; exact hP, va_K.moved hW.alike hK, hT.at hS hW hU (fun _ h => h.elim)⟩
/-- the start of a method that writes -/
def crw (D : va_G) (ws : va_W) (tys : List (ClassId × FieldType)) (sz : Nat) (U : State) : Prop := U.heap.size = sz ∧ va_P D vwCl ws U.heap ∧ va_K D vwCl tys U ∧ va_D (fun _ => True) ws ∧ cT (va_A ws sz) U U.heap
theorem crw_blind {av : List Value} {D : va_G} {ws : va_W} {tys : List (ClassId × FieldType)} {sz : Nat} : FrameBlind (va_Pc av (crw D ws tys sz)) := fun a U g mk q => ⟨q.1, q.2.1, q.2.2.1, va_K.moved (u := U) (U := U.calling g mk a) (Vm.Alike.refl U.vm) q.2.2.2.1, q.2.2.2.2.1, q.2.2.2.2.2.call⟩
theorem crw_at {D : va_G} {ws : va_W} {tys : List (ClassId × FieldType)} {A : Nat → Prop} {s U : State} {H : Heap} {locs : List Loc} (hP : va_P D vwCl ws H) (hK : va_K D vwCl tys s) (hD : va_D A ws) (hT : cT A s s.heap) (hS : va_S A s.heap H locs) (hF : ∀ q, va_A ws H.size q → A q) (hU : U.heap = H) (hW : s.WarmedH U.vm) : crw D ws tys H.size U := ⟨by rw [hU], by rw [hU]; exact hP, va_K.moved hW.alike hK, hD.weaken (fun _ _ _ _ => trivial), hT.at hS hW hU hF⟩
/-- its end -/
def crB (D : va_G) (ws : va_W) (tys : List (ClassId × FieldType)) (A : Nat → Prop) (t : State) : Prop := va_P D vwCl ws t.heap ∧ va_K D vwCl tys t ∧ va_D A ws
end
section
theorem dX0_isPlace_0 : decode cX0_isPlace 0 = .ok (.iload_n 0, 1) := by decide +kernel
theorem dX0_isPlace_1 : decode cX0_isPlace 1 = .ok (.ifCond .lt 13, 3) := by decide +kernel
theorem dX0_isPlace_4 : decode cX0_isPlace 4 = .ok (.iload_n 0, 1) := by decide +kernel
theorem dX0_isPlace_5 : decode cX0_isPlace 5 = .ok (.bipush 64, 2) := by decide +kernel
theorem dX0_isPlace_7 : decode cX0_isPlace 7 = .ok (.if_icmp .ge 7, 3) := by decide +kernel
theorem dX0_isPlace_10 : decode cX0_isPlace 10 = .ok (.iconst 1, 1) := by decide +kernel
theorem dX0_isPlace_11 : decode cX0_isPlace 11 = .ok (.goto 4, 3) := by decide +kernel
theorem dX0_isPlace_14 : decode cX0_isPlace 14 = .ok (.iconst 0, 1) := by decide +kernel
theorem dX0_isPlace_15 : decode cX0_isPlace 15 = .ok (.ireturn, 1) := by decide +kernel
theorem dX0_isLine_0 : decode cX0_isLine 0 = .ok (.iload_n 0, 1) := by decide +kernel
theorem dX0_isLine_1 : decode cX0_isLine 1 = .ok (.ifCond .lt 13, 3) := by decide +kernel
theorem dX0_isLine_4 : decode cX0_isLine 4 = .ok (.iload_n 0, 1) := by decide +kernel
theorem dX0_isLine_5 : decode cX0_isLine 5 = .ok (.bipush 8, 2) := by decide +kernel
theorem dX0_isLine_7 : decode cX0_isLine 7 = .ok (.if_icmp .ge 7, 3) := by decide +kernel
theorem dX0_isLine_10 : decode cX0_isLine 10 = .ok (.iconst 1, 1) := by decide +kernel
theorem dX0_isLine_11 : decode cX0_isLine 11 = .ok (.goto 4, 3) := by decide +kernel
theorem dX0_isLine_14 : decode cX0_isLine 14 = .ok (.iconst 0, 1) := by decide +kernel
theorem dX0_isLine_15 : decode cX0_isLine 15 = .ok (.ireturn, 1) := by decide +kernel
theorem dX0_spreadOf_0 : decode cX0_spreadOf 0 = .ok (.iload_n 0, 1) := by decide +kernel
theorem dX0_spreadOf_1 : decode cX0_spreadOf 1 = .ok (.tableswitch 56 1 8 #[47, 50, 56, 52, 56, 56, 56, 54], 47) := by decide +kernel
theorem dX0_spreadOf_48 : decode cX0_spreadOf 48 = .ok (.bipush 8, 2) := by decide +kernel
theorem dX0_spreadOf_50 : decode cX0_spreadOf 50 = .ok (.ireturn, 1) := by decide +kernel
theorem dX0_spreadOf_51 : decode cX0_spreadOf 51 = .ok (.iconst 4, 1) := by decide +kernel
theorem dX0_spreadOf_52 : decode cX0_spreadOf 52 = .ok (.ireturn, 1) := by decide +kernel
theorem dX0_spreadOf_53 : decode cX0_spreadOf 53 = .ok (.iconst 2, 1) := by decide +kernel
theorem dX0_spreadOf_54 : decode cX0_spreadOf 54 = .ok (.ireturn, 1) := by decide +kernel
theorem dX0_spreadOf_55 : decode cX0_spreadOf 55 = .ok (.iconst 1, 1) := by decide +kernel
theorem dX0_spreadOf_56 : decode cX0_spreadOf 56 = .ok (.ireturn, 1) := by decide +kernel
theorem dX0_spreadOf_57 : decode cX0_spreadOf 57 = .ok (.iconst 0, 1) := by decide +kernel
theorem dX0_spreadOf_58 : decode cX0_spreadOf 58 = .ok (.ireturn, 1) := by decide +kernel
theorem dX0_cosine_0 : decode cX0_cosine 0 = .ok (.iload_n 0, 1) := by decide +kernel
theorem dX0_cosine_1 : decode cX0_cosine 1 = .ok (.bipush 31, 2) := by decide +kernel
theorem dX0_cosine_3 : decode cX0_cosine 3 = .ok (.iand, 1) := by decide +kernel
theorem dX0_cosine_4 : decode cX0_cosine 4 = .ok (.istore_n 1, 1) := by decide +kernel
theorem dX0_cosine_5 : decode cX0_cosine 5 = .ok (.iload_n 1, 1) := by decide +kernel
theorem dX0_cosine_6 : decode cX0_cosine 6 = .ok (.bipush 8, 2) := by decide +kernel
theorem dX0_cosine_8 : decode cX0_cosine 8 = .ok (.if_icmp .gt 9, 3) := by decide +kernel
theorem dX0_cosine_11 : decode cX0_cosine 11 = .ok (.getstatic 110, 3) := by decide +kernel
theorem dX0_cosine_14 : decode cX0_cosine 14 = .ok (.iload_n 1, 1) := by decide +kernel
theorem dX0_cosine_15 : decode cX0_cosine 15 = .ok (.iaload, 1) := by decide +kernel
theorem dX0_cosine_16 : decode cX0_cosine 16 = .ok (.ireturn, 1) := by decide +kernel
theorem dX0_cosine_17 : decode cX0_cosine 17 = .ok (.iload_n 1, 1) := by decide +kernel
theorem dX0_cosine_18 : decode cX0_cosine 18 = .ok (.bipush 16, 2) := by decide +kernel
theorem dX0_cosine_20 : decode cX0_cosine 20 = .ok (.if_icmp .gt 13, 3) := by decide +kernel
theorem dX0_cosine_23 : decode cX0_cosine 23 = .ok (.getstatic 110, 3) := by decide +kernel
theorem dX0_cosine_26 : decode cX0_cosine 26 = .ok (.bipush 16, 2) := by decide +kernel
theorem dX0_cosine_28 : decode cX0_cosine 28 = .ok (.iload_n 1, 1) := by decide +kernel
theorem dX0_cosine_29 : decode cX0_cosine 29 = .ok (.isub, 1) := by decide +kernel
theorem dX0_cosine_30 : decode cX0_cosine 30 = .ok (.iaload, 1) := by decide +kernel
theorem dX0_cosine_31 : decode cX0_cosine 31 = .ok (.ineg, 1) := by decide +kernel
theorem dX0_cosine_32 : decode cX0_cosine 32 = .ok (.ireturn, 1) := by decide +kernel
theorem dX0_cosine_33 : decode cX0_cosine 33 = .ok (.iload_n 1, 1) := by decide +kernel
theorem dX0_cosine_34 : decode cX0_cosine 34 = .ok (.bipush 24, 2) := by decide +kernel
theorem dX0_cosine_36 : decode cX0_cosine 36 = .ok (.if_icmp .gt 13, 3) := by decide +kernel
theorem dX0_cosine_39 : decode cX0_cosine 39 = .ok (.getstatic 110, 3) := by decide +kernel
theorem dX0_cosine_42 : decode cX0_cosine 42 = .ok (.iload_n 1, 1) := by decide +kernel
theorem dX0_cosine_43 : decode cX0_cosine 43 = .ok (.bipush 16, 2) := by decide +kernel
theorem dX0_cosine_45 : decode cX0_cosine 45 = .ok (.isub, 1) := by decide +kernel
theorem dX0_cosine_46 : decode cX0_cosine 46 = .ok (.iaload, 1) := by decide +kernel
theorem dX0_cosine_47 : decode cX0_cosine 47 = .ok (.ineg, 1) := by decide +kernel
theorem dX0_cosine_48 : decode cX0_cosine 48 = .ok (.ireturn, 1) := by decide +kernel
theorem dX0_cosine_49 : decode cX0_cosine 49 = .ok (.getstatic 110, 3) := by decide +kernel
theorem dX0_cosine_52 : decode cX0_cosine 52 = .ok (.bipush 32, 2) := by decide +kernel
theorem dX0_cosine_54 : decode cX0_cosine 54 = .ok (.iload_n 1, 1) := by decide +kernel
theorem dX0_cosine_55 : decode cX0_cosine 55 = .ok (.isub, 1) := by decide +kernel
theorem dX0_cosine_56 : decode cX0_cosine 56 = .ok (.iaload, 1) := by decide +kernel
theorem dX0_cosine_57 : decode cX0_cosine 57 = .ok (.ireturn, 1) := by decide +kernel
theorem dX0_waveAt_0 : decode cX0_waveAt 0 = .ok (.iload_n 1, 1) := by decide +kernel
theorem dX0_waveAt_1 : decode cX0_waveAt 1 = .ok (.ifCond .ne 11, 3) := by decide +kernel
theorem dX0_waveAt_4 : decode cX0_waveAt 4 = .ok (.getstatic 110, 3) := by decide +kernel
theorem dX0_waveAt_7 : decode cX0_waveAt 7 = .ok (.iconst 4, 1) := by decide +kernel
theorem dX0_waveAt_8 : decode cX0_waveAt 8 = .ok (.iaload, 1) := by decide +kernel
theorem dX0_waveAt_9 : decode cX0_waveAt 9 = .ok (.goto 15, 3) := by decide +kernel
theorem dX0_waveAt_12 : decode cX0_waveAt 12 = .ok (.iconst 2, 1) := by decide +kernel
theorem dX0_waveAt_13 : decode cX0_waveAt 13 = .ok (.iload_n 2, 1) := by decide +kernel
theorem dX0_waveAt_14 : decode cX0_waveAt 14 = .ok (.imul, 1) := by decide +kernel
theorem dX0_waveAt_15 : decode cX0_waveAt 15 = .ok (.iconst 1, 1) := by decide +kernel
theorem dX0_waveAt_16 : decode cX0_waveAt 16 = .ok (.iadd, 1) := by decide +kernel
theorem dX0_waveAt_17 : decode cX0_waveAt 17 = .ok (.iload_n 1, 1) := by decide +kernel
theorem dX0_waveAt_18 : decode cX0_waveAt 18 = .ok (.imul, 1) := by decide +kernel
theorem dX0_waveAt_19 : decode cX0_waveAt 19 = .ok (.iload_n 0, 1) := by decide +kernel
theorem dX0_waveAt_20 : decode cX0_waveAt 20 = .ok (.imul, 1) := by decide +kernel
theorem dX0_waveAt_21 : decode cX0_waveAt 21 = .ok (.invokestatic 113, 3) := by decide +kernel
theorem dX0_waveAt_24 : decode cX0_waveAt 24 = .ok (.ireturn, 1) := by decide +kernel
theorem dX0_rounded_0 : decode cX0_rounded 0 = .ok (.lload_n 0, 1) := by decide +kernel
theorem dX0_rounded_1 : decode cX0_rounded 1 = .ok (.lconst 1, 1) := by decide +kernel
theorem dX0_rounded_2 : decode cX0_rounded 2 = .ok (.iload_n 2, 1) := by decide +kernel
theorem dX0_rounded_3 : decode cX0_rounded 3 = .ok (.iconst 1, 1) := by decide +kernel
theorem dX0_rounded_4 : decode cX0_rounded 4 = .ok (.isub, 1) := by decide +kernel
theorem dX0_rounded_5 : decode cX0_rounded 5 = .ok (.lshl, 1) := by decide +kernel
theorem dX0_rounded_6 : decode cX0_rounded 6 = .ok (.ladd, 1) := by decide +kernel
theorem dX0_rounded_7 : decode cX0_rounded 7 = .ok (.iload_n 2, 1) := by decide +kernel
theorem dX0_rounded_8 : decode cX0_rounded 8 = .ok (.lshr, 1) := by decide +kernel
theorem dX0_rounded_9 : decode cX0_rounded 9 = .ok (.lreturn, 1) := by decide +kernel
theorem dX0_clamped_0 : decode cX0_clamped 0 = .ok (.lload_n 0, 1) := by decide +kernel
theorem dX0_clamped_1 : decode cX0_clamped 1 = .ok (.iload_n 2, 1) := by decide +kernel
theorem dX0_clamped_2 : decode cX0_clamped 2 = .ok (.i2l, 1) := by decide +kernel
theorem dX0_clamped_3 : decode cX0_clamped 3 = .ok (.lcmp, 1) := by decide +kernel
theorem dX0_clamped_4 : decode cX0_clamped 4 = .ok (.ifCond .ge 5, 3) := by decide +kernel
theorem dX0_clamped_7 : decode cX0_clamped 7 = .ok (.iload_n 2, 1) := by decide +kernel
theorem dX0_clamped_8 : decode cX0_clamped 8 = .ok (.ireturn, 1) := by decide +kernel
theorem dX0_clamped_9 : decode cX0_clamped 9 = .ok (.lload_n 0, 1) := by decide +kernel
theorem dX0_clamped_10 : decode cX0_clamped 10 = .ok (.iload_n 3, 1) := by decide +kernel
theorem dX0_clamped_11 : decode cX0_clamped 11 = .ok (.i2l, 1) := by decide +kernel
theorem dX0_clamped_12 : decode cX0_clamped 12 = .ok (.lcmp, 1) := by decide +kernel
theorem dX0_clamped_13 : decode cX0_clamped 13 = .ok (.ifCond .le 7, 3) := by decide +kernel
theorem dX0_clamped_16 : decode cX0_clamped 16 = .ok (.iload_n 3, 1) := by decide +kernel
theorem dX0_clamped_17 : decode cX0_clamped 17 = .ok (.goto 5, 3) := by decide +kernel
theorem dX0_clamped_20 : decode cX0_clamped 20 = .ok (.lload_n 0, 1) := by decide +kernel
theorem dX0_clamped_21 : decode cX0_clamped 21 = .ok (.l2i, 1) := by decide +kernel
theorem dX0_clamped_22 : decode cX0_clamped 22 = .ok (.ireturn, 1) := by decide +kernel
theorem dX0_nearest_0 : decode cX0_nearest 0 = .ok (.iload_n 1, 1) := by decide +kernel
theorem dX0_nearest_1 : decode cX0_nearest 1 = .ok (.iconst 1, 1) := by decide +kernel
theorem dX0_nearest_2 : decode cX0_nearest 2 = .ok (.if_icmp .ge 5, 3) := by decide +kernel
theorem dX0_nearest_5 : decode cX0_nearest 5 = .ok (.iconst 0, 1) := by decide +kernel
theorem dX0_nearest_6 : decode cX0_nearest 6 = .ok (.ireturn, 1) := by decide +kernel
theorem dX0_nearest_7 : decode cX0_nearest 7 = .ok (.iconst 2, 1) := by decide +kernel
theorem dX0_nearest_8 : decode cX0_nearest 8 = .ok (.iload_n 0, 1) := by decide +kernel
theorem dX0_nearest_9 : decode cX0_nearest 9 = .ok (.invokestatic 116, 3) := by decide +kernel
theorem dX0_nearest_12 : decode cX0_nearest 12 = .ok (.imul, 1) := by decide +kernel
theorem dX0_nearest_13 : decode cX0_nearest 13 = .ok (.iload_n 1, 1) := by decide +kernel
theorem dX0_nearest_14 : decode cX0_nearest 14 = .ok (.iadd, 1) := by decide +kernel
theorem dX0_nearest_15 : decode cX0_nearest 15 = .ok (.iconst 2, 1) := by decide +kernel
theorem dX0_nearest_16 : decode cX0_nearest 16 = .ok (.iload_n 1, 1) := by decide +kernel
theorem dX0_nearest_17 : decode cX0_nearest 17 = .ok (.imul, 1) := by decide +kernel
theorem dX0_nearest_18 : decode cX0_nearest 18 = .ok (.idiv, 1) := by decide +kernel
theorem dX0_nearest_19 : decode cX0_nearest 19 = .ok (.istore_n 2, 1) := by decide +kernel
theorem dX0_nearest_20 : decode cX0_nearest 20 = .ok (.iload_n 0, 1) := by decide +kernel
theorem dX0_nearest_21 : decode cX0_nearest 21 = .ok (.ifCond .ge 8, 3) := by decide +kernel
theorem dX0_nearest_24 : decode cX0_nearest 24 = .ok (.iload_n 2, 1) := by decide +kernel
theorem dX0_nearest_25 : decode cX0_nearest 25 = .ok (.ineg, 1) := by decide +kernel
theorem dX0_nearest_26 : decode cX0_nearest 26 = .ok (.goto 4, 3) := by decide +kernel
theorem dX0_nearest_29 : decode cX0_nearest 29 = .ok (.iload_n 2, 1) := by decide +kernel
theorem dX0_nearest_30 : decode cX0_nearest 30 = .ok (.ireturn, 1) := by decide +kernel
set_option maxHeartbeats 4000000 in
set_option maxRecDepth 100000 in
/-- isPlace -/
theorem m_isPlace (l : Launch) (D : va_G) (q : Int32) : Met l yX0_isPlace wsX0_isPlace ({ frames := 0, cells := 0, slots := 0, locals := 0 } : Room) (va_Pc [.int q] (cro D ([]) ([]))) (vp_Si (fun r => (r = 1 ∧ 0 ≤ q.toInt ∧ q.toInt < 64) ∨ (r = 0 ∧ ¬ (0 ≤ q.toInt ∧ q.toInt < 64)))) 0 0 (fun _ => False) := by
  refine Met.ofW (cc := cX0_isPlace) (maxL := 1) (ret := some .boolean) (by decide) rfl ?_
  intro p e s m args below meth c s₁ B hml hv
  obtain ⟨rfl, hP, hK, hTb⟩ := hv
  have hx := B.exec
  have hb := B.bytes
  have hr := B.returns
  have hts : ∀ w ∈ wA, w.before _ s = true := fun w h => atoms_spec (ws := wsX0_isPlace) B.pre w (List.mem_cons_of_mem _ h)
  have hown : s.vm.findClass RX0 = some m.cls := findClass_of_methodNamed B.named
  have hlocks := B.notSynchronized
  have hS : va_S (fun _ => False) s.heap s.heap [] := va_S.rf
  have hl := lv_entry ([.int q]) (n := 1) (Nat.le_of_ble_eq_true rfl)
  rw [lg_entry_eq]
  generalize (lg_sl ([.int q]) ++ List.replicate (1 - (lg_sl ([.int q])).length) Slot.unset).toArray = ls at hl ⊢
  have hl : lv_has ls 1 [(0, .int q)] := hl
  refine lv_iload_n hx hb dX0_isPlace_0 rfl (lv_at hl 0 rfl) ?_
  refine cx_if_lt (i := q.toInt) (j := 0) (tgt := 14) hx hb rfl rfl dX0_isPlace_1 (by decide) (fun c_1 => ?_) (fun c_1 => ?_)
  · refine lv_iconst (v := (0 : Int32)) hx hb dX0_isPlace_14 (by decide +kernel) ?_
    exact W.zret (v := (0 : Int32)) (ty := .boolean) hx hb hr (by decide) (fun t ht hW => ⟨_, rfl, Or.inr ⟨rfl, by omega⟩, ht⟩) (fun _ h9 => by cases h9) dX0_isPlace_15
  · refine lv_iload_n hx hb dX0_isPlace_4 rfl (lv_at hl 0 rfl) ?_
    refine lv_bipush (v := (64 : Int32)) hx hb dX0_isPlace_5 (by decide +kernel) ?_
    refine cx_icmp_ge (i := q.toInt) (j := 64) (tgt := 14) hx hb rfl (by decide +kernel) dX0_isPlace_7 (by decide) (fun c_2 => ?_) (fun c_2 => ?_)
    · refine lv_iconst (v := (0 : Int32)) hx hb dX0_isPlace_14 (by decide +kernel) ?_
      exact W.zret (v := (0 : Int32)) (ty := .boolean) hx hb hr (by decide) (fun t ht hW => ⟨_, rfl, Or.inr ⟨rfl, by omega⟩, ht⟩) (fun _ h9 => by cases h9) dX0_isPlace_15
    · refine lv_iconst (v := (1 : Int32)) hx hb dX0_isPlace_10 (by decide +kernel) ?_
      refine lv_goto (tgt := 15) hx hb dX0_isPlace_11 (by decide) ?_
      exact W.zret (v := (1 : Int32)) (ty := .boolean) hx hb hr (by decide) (fun t ht hW => ⟨_, rfl, Or.inl ⟨rfl, by omega, by omega⟩, ht⟩) (fun _ h9 => by cases h9) dX0_isPlace_15
set_option maxHeartbeats 4000000 in
set_option maxRecDepth 100000 in
/-- isLine -/
theorem m_isLine (l : Launch) (D : va_G) (q : Int32) : Met l yX0_isLine wsX0_isLine ({ frames := 0, cells := 0, slots := 0, locals := 0 } : Room) (va_Pc [.int q] (cro D ([]) ([]))) (vp_Si (fun r => (r = 1 ∧ 0 ≤ q.toInt ∧ q.toInt < 8) ∨ (r = 0 ∧ ¬ (0 ≤ q.toInt ∧ q.toInt < 8)))) 0 0 (fun _ => False) := by
  refine Met.ofW (cc := cX0_isLine) (maxL := 1) (ret := some .boolean) (by decide) rfl ?_
  intro p e s m args below meth c s₁ B hml hv
  obtain ⟨rfl, hP, hK, hTb⟩ := hv
  have hx := B.exec
  have hb := B.bytes
  have hr := B.returns
  have hts : ∀ w ∈ wA, w.before _ s = true := fun w h => atoms_spec (ws := wsX0_isLine) B.pre w (List.mem_cons_of_mem _ h)
  have hown : s.vm.findClass RX0 = some m.cls := findClass_of_methodNamed B.named
  have hlocks := B.notSynchronized
  have hS : va_S (fun _ => False) s.heap s.heap [] := va_S.rf
  have hl := lv_entry ([.int q]) (n := 1) (Nat.le_of_ble_eq_true rfl)
  rw [lg_entry_eq]
  generalize (lg_sl ([.int q]) ++ List.replicate (1 - (lg_sl ([.int q])).length) Slot.unset).toArray = ls at hl ⊢
  have hl : lv_has ls 1 [(0, .int q)] := hl
  refine lv_iload_n hx hb dX0_isLine_0 rfl (lv_at hl 0 rfl) ?_
  refine cx_if_lt (i := q.toInt) (j := 0) (tgt := 14) hx hb rfl rfl dX0_isLine_1 (by decide) (fun c_1 => ?_) (fun c_1 => ?_)
  · refine lv_iconst (v := (0 : Int32)) hx hb dX0_isLine_14 (by decide +kernel) ?_
    exact W.zret (v := (0 : Int32)) (ty := .boolean) hx hb hr (by decide) (fun t ht hW => ⟨_, rfl, Or.inr ⟨rfl, by omega⟩, ht⟩) (fun _ h9 => by cases h9) dX0_isLine_15
  · refine lv_iload_n hx hb dX0_isLine_4 rfl (lv_at hl 0 rfl) ?_
    refine lv_bipush (v := (8 : Int32)) hx hb dX0_isLine_5 (by decide +kernel) ?_
    refine cx_icmp_ge (i := q.toInt) (j := 8) (tgt := 14) hx hb rfl (by decide +kernel) dX0_isLine_7 (by decide) (fun c_2 => ?_) (fun c_2 => ?_)
    · refine lv_iconst (v := (0 : Int32)) hx hb dX0_isLine_14 (by decide +kernel) ?_
      exact W.zret (v := (0 : Int32)) (ty := .boolean) hx hb hr (by decide) (fun t ht hW => ⟨_, rfl, Or.inr ⟨rfl, by omega⟩, ht⟩) (fun _ h9 => by cases h9) dX0_isLine_15
    · refine lv_iconst (v := (1 : Int32)) hx hb dX0_isLine_10 (by decide +kernel) ?_
      refine lv_goto (tgt := 15) hx hb dX0_isLine_11 (by decide) ?_
      exact W.zret (v := (1 : Int32)) (ty := .boolean) hx hb hr (by decide) (fun t ht hW => ⟨_, rfl, Or.inl ⟨rfl, by omega, by omega⟩, ht⟩) (fun _ h9 => by cases h9) dX0_isLine_15
set_option maxHeartbeats 4000000 in
set_option maxRecDepth 100000 in
/-- 8 / n, or 0 -/
theorem m_spreadOf (l : Launch) (D : va_G) (q : Int32) : Met l yX0_spreadOf wsX0_spreadOf ({ frames := 0, cells := 0, slots := 0, locals := 0 } : Room) (va_Pc [.int q] (cro D ([]) ([]))) (vp_Si (fun r => (∃ nn sp : Nat, isSz q nn sp ∧ r = nI sp) ∨ (r = 0 ∧ noSz q))) 0 0 (fun _ => False) := by
  refine Met.ofW (cc := cX0_spreadOf) (maxL := 1) (ret := some .int) (by decide) rfl ?_
  intro p e s m args below meth c s₁ B hml hv
  obtain ⟨rfl, hP, hK, hTb⟩ := hv
  have hx := B.exec
  have hb := B.bytes
  have hr := B.returns
  have hts : ∀ w ∈ wA, w.before _ s = true := fun w h => atoms_spec (ws := wsX0_spreadOf) B.pre w (List.mem_cons_of_mem _ h)
  have hown : s.vm.findClass RX0 = some m.cls := findClass_of_methodNamed B.named
  have hlocks := B.notSynchronized
  have hS : va_S (fun _ => False) s.heap s.heap [] := va_S.rf
  have hl := lv_entry ([.int q]) (n := 1) (Nat.le_of_ble_eq_true rfl)
  rw [lg_entry_eq]
  generalize (lg_sl ([.int q]) ++ List.replicate (1 - (lg_sl ([.int q])).length) Slot.unset).toArray = ls at hl ⊢
  have hl : lv_has ls 1 [(0, .int q)] := hl
  refine lv_iload_n hx hb dX0_spreadOf_0 rfl (lv_at hl 0 rfl) ?_
  by_cases k_1 : q.toInt < 1 ∨ 8 < q.toInt
  · refine cx_tabO (i := q.toInt) (tgt := 57) hx hb rfl dX0_spreadOf_1 k_1 (by decide) ?_
    refine lv_iconst (v := (0 : Int32)) hx hb dX0_spreadOf_57 (by decide +kernel) ?_
    exact W.iret (v := (0 : Int32)) hx hb hr (fun t ht hW => ⟨_, rfl, Or.inr ⟨rfl, by unfold noSz; omega⟩, ht⟩) (fun _ h9 => by cases h9) dX0_spreadOf_58
  · have k_1 : q.toInt = 1 ∨ q.toInt = 2 ∨ q.toInt = 3 ∨ q.toInt = 4 ∨ q.toInt = 5 ∨ q.toInt = 6 ∨ q.toInt = 7 ∨ q.toInt = 8 := by omega
    rcases k_1 with k_1 | k_1 | k_1 | k_1 | k_1 | k_1 | k_1 | k_1
    · refine cx_tabI (i := q.toInt) (off := 47) (tgt := 48) hx hb rfl dX0_spreadOf_1 (by omega) (by omega) (by rw [k_1]; rfl) (by decide) ?_
      refine lv_bipush (v := (8 : Int32)) hx hb dX0_spreadOf_48 (by decide +kernel) ?_
      exact W.iret (v := (8 : Int32)) hx hb hr (fun t ht hW => ⟨_, rfl, Or.inl ⟨1, 8, ⟨Int32.toInt_inj.mp (k_1.trans (by decide +kernel)), Or.inl ⟨rfl, rfl⟩⟩, rfl⟩, ht⟩) (fun _ h9 => by cases h9) dX0_spreadOf_50
    · refine cx_tabI (i := q.toInt) (off := 50) (tgt := 51) hx hb rfl dX0_spreadOf_1 (by omega) (by omega) (by rw [k_1]; rfl) (by decide) ?_
      refine lv_iconst (v := (4 : Int32)) hx hb dX0_spreadOf_51 (by decide +kernel) ?_
      exact W.iret (v := (4 : Int32)) hx hb hr (fun t ht hW => ⟨_, rfl, Or.inl ⟨2, 4, ⟨Int32.toInt_inj.mp (k_1.trans (by decide +kernel)), Or.inr (Or.inl ⟨rfl, rfl⟩)⟩, rfl⟩, ht⟩) (fun _ h9 => by cases h9) dX0_spreadOf_52
    · refine cx_tabI (i := q.toInt) (off := 56) (tgt := 57) hx hb rfl dX0_spreadOf_1 (by omega) (by omega) (by rw [k_1]; rfl) (by decide) ?_
      refine lv_iconst (v := (0 : Int32)) hx hb dX0_spreadOf_57 (by decide +kernel) ?_
      exact W.iret (v := (0 : Int32)) hx hb hr (fun t ht hW => ⟨_, rfl, Or.inr ⟨rfl, by unfold noSz; omega⟩, ht⟩) (fun _ h9 => by cases h9) dX0_spreadOf_58
    · refine cx_tabI (i := q.toInt) (off := 52) (tgt := 53) hx hb rfl dX0_spreadOf_1 (by omega) (by omega) (by rw [k_1]; rfl) (by decide) ?_
      refine lv_iconst (v := (2 : Int32)) hx hb dX0_spreadOf_53 (by decide +kernel) ?_
      exact W.iret (v := (2 : Int32)) hx hb hr (fun t ht hW => ⟨_, rfl, Or.inl ⟨4, 2, ⟨Int32.toInt_inj.mp (k_1.trans (by decide +kernel)), Or.inr (Or.inr (Or.inl ⟨rfl, rfl⟩))⟩, rfl⟩, ht⟩) (fun _ h9 => by cases h9) dX0_spreadOf_54
    · refine cx_tabI (i := q.toInt) (off := 56) (tgt := 57) hx hb rfl dX0_spreadOf_1 (by omega) (by omega) (by rw [k_1]; rfl) (by decide) ?_
      refine lv_iconst (v := (0 : Int32)) hx hb dX0_spreadOf_57 (by decide +kernel) ?_
      exact W.iret (v := (0 : Int32)) hx hb hr (fun t ht hW => ⟨_, rfl, Or.inr ⟨rfl, by unfold noSz; omega⟩, ht⟩) (fun _ h9 => by cases h9) dX0_spreadOf_58
    · refine cx_tabI (i := q.toInt) (off := 56) (tgt := 57) hx hb rfl dX0_spreadOf_1 (by omega) (by omega) (by rw [k_1]; rfl) (by decide) ?_
      refine lv_iconst (v := (0 : Int32)) hx hb dX0_spreadOf_57 (by decide +kernel) ?_
      exact W.iret (v := (0 : Int32)) hx hb hr (fun t ht hW => ⟨_, rfl, Or.inr ⟨rfl, by unfold noSz; omega⟩, ht⟩) (fun _ h9 => by cases h9) dX0_spreadOf_58
    · refine cx_tabI (i := q.toInt) (off := 56) (tgt := 57) hx hb rfl dX0_spreadOf_1 (by omega) (by omega) (by rw [k_1]; rfl) (by decide) ?_
      refine lv_iconst (v := (0 : Int32)) hx hb dX0_spreadOf_57 (by decide +kernel) ?_
      exact W.iret (v := (0 : Int32)) hx hb hr (fun t ht hW => ⟨_, rfl, Or.inr ⟨rfl, by unfold noSz; omega⟩, ht⟩) (fun _ h9 => by cases h9) dX0_spreadOf_58
    · refine cx_tabI (i := q.toInt) (off := 54) (tgt := 55) hx hb rfl dX0_spreadOf_1 (by omega) (by omega) (by rw [k_1]; rfl) (by decide) ?_
      refine lv_iconst (v := (1 : Int32)) hx hb dX0_spreadOf_55 (by decide +kernel) ?_
      exact W.iret (v := (1 : Int32)) hx hb hr (fun t ht hW => ⟨_, rfl, Or.inl ⟨8, 1, ⟨Int32.toInt_inj.mp (k_1.trans (by decide +kernel)), Or.inr (Or.inr (Or.inr ⟨rfl, rfl⟩))⟩, rfl⟩, ht⟩) (fun _ h9 => by cases h9) dX0_spreadOf_56
set_option maxHeartbeats 4000000 in
set_option maxRecDepth 100000 in
/-- COS -/
theorem m_cosine (l : Launch) (D : va_G) (k : Nat) (hk : k < 2 ^ 31) : Met l yX0_cosine wsX0_cosine ({ frames := 0, cells := 0, slots := 0, locals := 0 } : Room) (va_Pc [.int (nI k)] (cro D ([]) ([]))) (vp_Si (fun r => r = cosN (k % 32))) 0 0 (fun _ => False) := by
  refine Met.ofW (cc := cX0_cosine) (maxL := 2) (ret := some .int) (by decide) rfl ?_
  intro p e s m args below meth c s₁ B hml hv
  obtain ⟨rfl, hP, hK, hTb⟩ := hv
  have hx := B.exec
  have hb := B.bytes
  have hr := B.returns
  have hts : ∀ w ∈ wA, w.before _ s = true := fun w h => atoms_spec (ws := wsX0_cosine) B.pre w (List.mem_cons_of_mem _ h)
  have hown : s.vm.findClass RX0 = some m.cls := findClass_of_methodNamed B.named
  have hlocks := B.notSynchronized
  have hS : va_S (fun _ => False) s.heap s.heap [] := va_S.rf
  obtain ⟨⟨t0, hZ0, hT0⟩, ⟨t1, hZ1, hT1⟩, ⟨t2, hZ2, hT2⟩, -⟩ := id hTb
  have hl := lv_entry ([.int (nI k)]) (n := 2) (Nat.le_of_ble_eq_true rfl)
  rw [lg_entry_eq]
  generalize (lg_sl ([.int (nI k)]) ++ List.replicate (2 - (lg_sl ([.int (nI k)])).length) Slot.unset).toArray = ls at hl ⊢
  have hl : lv_has ls 2 [(0, .int (nI k))] := hl
  refine lv_iload_n hx hb dX0_cosine_0 rfl (lv_at hl 0 rfl) ?_
  refine lv_bipush (v := (31 : Int32)) hx hb dX0_cosine_1 (by decide +kernel) ?_
  refine lv_iand hx hb dX0_cosine_3 ?_
  have e_1 : (nI k) &&& (31 : Int32) = nI (k % 32) := pk_andN (by omega) 5 (by decide)
  rw [e_1]
  refine lv_istore_n (lv' := [(1, .int (nI (k % 32))), (0, .int (nI k))]) hx hb dX0_cosine_4 rfl hl (by decide) rfl (fun ls hl => ?_)
  refine lv_iload_n hx hb dX0_cosine_5 rfl (lv_at hl 0 rfl) ?_
  refine lv_bipush (v := (8 : Int32)) hx hb dX0_cosine_6 (by decide +kernel) ?_
  refine cx_icmp_gt (i := ((k % 32 : Nat) : Int)) (j := 8) (tgt := 17) hx hb (nI_toInt (by omega)) (by decide +kernel) dX0_cosine_8 (by decide) (fun c_2 => ?_) (fun c_2 => ?_)
  · refine lv_iload_n hx hb dX0_cosine_17 rfl (lv_at hl 0 rfl) ?_
    refine lv_bipush (v := (16 : Int32)) hx hb dX0_cosine_18 (by decide +kernel) ?_
    refine cx_icmp_gt (i := ((k % 32 : Nat) : Int)) (j := 16) (tgt := 33) hx hb (nI_toInt (by omega)) (by decide +kernel) dX0_cosine_20 (by decide) (fun c_3 => ?_) (fun c_3 => ?_)
    · refine lv_iload_n hx hb dX0_cosine_33 rfl (lv_at hl 0 rfl) ?_
      refine lv_bipush (v := (24 : Int32)) hx hb dX0_cosine_34 (by decide +kernel) ?_
      refine cx_icmp_gt (i := ((k % 32 : Nat) : Int)) (j := 24) (tgt := 49) hx hb (nI_toInt (by omega)) (by decide +kernel) dX0_cosine_36 (by decide) (fun c_4 => ?_) (fun c_4 => ?_)
      · refine va_gets (v := .ref t0) hx hb hZ0 hS hown (hts _ wm_57) (fun _ h9 => h9) dX0_cosine_49 ?_
        refine lv_bipush (v := (32 : Int32)) hx hb dX0_cosine_52 (by decide +kernel) ?_
        refine lv_iload_n hx hb dX0_cosine_54 rfl (lv_at hl 0 rfl) ?_
        refine cx_isub hx hb 32 (k % 32) (by omega) dX0_cosine_55 ?_
        refine cx_ti hx hb hT0 hS (32 - (k % 32)) (by omega) (by decide) dX0_cosine_56 ?_
        exact W.iret (v := cQ (32 - (k % 32))) hx hb hr (fun t ht hW => ⟨_, rfl, (by unfold cosN; rw [if_neg (by omega), if_neg (by omega), if_neg (by omega)]), ht⟩) (fun _ h9 => by cases h9) dX0_cosine_57
      · refine va_gets (v := .ref t0) hx hb hZ0 hS hown (hts _ wm_57) (fun _ h9 => h9) dX0_cosine_39 ?_
        refine lv_iload_n hx hb dX0_cosine_42 rfl (lv_at hl 0 rfl) ?_
        refine lv_bipush (v := (16 : Int32)) hx hb dX0_cosine_43 (by decide +kernel) ?_
        refine cx_isub hx hb (k % 32) 16 (by omega) dX0_cosine_45 ?_
        refine cx_ti hx hb hT0 hS ((k % 32) - 16) (by omega) (by decide) dX0_cosine_46 ?_
        refine lv_ineg hx hb dX0_cosine_47 ?_
        exact W.iret (v := -(cQ ((k % 32) - 16))) hx hb hr (fun t ht hW => ⟨_, rfl, (by unfold cosN; rw [if_neg (by omega), if_neg (by omega), if_pos (by omega)]), ht⟩) (fun _ h9 => by cases h9) dX0_cosine_48
    · refine va_gets (v := .ref t0) hx hb hZ0 hS hown (hts _ wm_57) (fun _ h9 => h9) dX0_cosine_23 ?_
      refine lv_bipush (v := (16 : Int32)) hx hb dX0_cosine_26 (by decide +kernel) ?_
      refine lv_iload_n hx hb dX0_cosine_28 rfl (lv_at hl 0 rfl) ?_
      refine cx_isub hx hb 16 (k % 32) (by omega) dX0_cosine_29 ?_
      refine cx_ti hx hb hT0 hS (16 - (k % 32)) (by omega) (by decide) dX0_cosine_30 ?_
      refine lv_ineg hx hb dX0_cosine_31 ?_
      exact W.iret (v := -(cQ (16 - (k % 32)))) hx hb hr (fun t ht hW => ⟨_, rfl, (by unfold cosN; rw [if_neg (by omega), if_pos (by omega)]), ht⟩) (fun _ h9 => by cases h9) dX0_cosine_32
  · refine va_gets (v := .ref t0) hx hb hZ0 hS hown (hts _ wm_57) (fun _ h9 => h9) dX0_cosine_11 ?_
    refine lv_iload_n hx hb dX0_cosine_14 rfl (lv_at hl 0 rfl) ?_
    refine cx_ti hx hb hT0 hS (k % 32) (by omega) (by decide) dX0_cosine_15 ?_
    exact W.iret (v := cQ (k % 32)) hx hb hr (fun t ht hW => ⟨_, rfl, (by unfold cosN; rw [if_pos (by omega)]), ht⟩) (fun _ h9 => by cases h9) dX0_cosine_16
set_option maxHeartbeats 4000000 in
set_option maxRecDepth 100000 in
/-- WAVE -/
theorem m_waveAt (l : Launch) (D : va_G) (sp u9 x9 : Nat) (h1 : sp ≤ 8) (h2 : u9 < 8) (h3 : x9 < 8) : Met l yX0_waveAt wsX0_waveAt ({ frames := 1, cells := 0, slots := 0, locals := 21 } : Room) (va_Pc [.int (nI sp), .int (nI u9), .int (nI x9)] (cro D ([]) ([]))) (vp_Si (fun r => r = wvN sp u9 x9)) 0 0 (fun _ => False) := by
  refine Met.ofW (cc := cX0_waveAt) (maxL := 3) (ret := some .int) (by decide) rfl ?_
  intro p e s m args below meth c s₁ B hml hv
  obtain ⟨rfl, hP, hK, hTb⟩ := hv
  have hx := B.exec
  have hb := B.bytes
  have hr := B.returns
  have hts : ∀ w ∈ wA, w.before _ s = true := fun w h => atoms_spec (ws := wsX0_waveAt) B.pre w (List.mem_cons_of_mem _ h)
  have hown : s.vm.findClass RX0 = some m.cls := findClass_of_methodNamed B.named
  have hlocks := B.notSynchronized
  have hS : va_S (fun _ => False) s.heap s.heap [] := va_S.rf
  obtain ⟨⟨t0, hZ0, hT0⟩, ⟨t1, hZ1, hT1⟩, ⟨t2, hZ2, hT2⟩, -⟩ := id hTb
  have hl := lv_entry ([.int (nI sp), .int (nI u9), .int (nI x9)]) (n := 3) (Nat.le_of_ble_eq_true rfl)
  rw [lg_entry_eq]
  generalize (lg_sl ([.int (nI sp), .int (nI u9), .int (nI x9)]) ++ List.replicate (3 - (lg_sl ([.int (nI sp), .int (nI u9), .int (nI x9)])).length) Slot.unset).toArray = ls at hl ⊢
  have hl : lv_has ls 3 [(0, .int (nI sp)), (1, .int (nI u9)), (2, .int (nI x9))] := hl
  refine lv_iload_n hx hb dX0_waveAt_0 rfl (lv_at hl 1 rfl) ?_
  refine cx_if_ne (i := ((u9 : Nat) : Int)) (j := 0) (tgt := 12) hx hb (nI_toInt (by omega)) rfl dX0_waveAt_1 (by decide) (fun c_1 => ?_) (fun c_1 => ?_)
  · refine lv_iconst (v := (2 : Int32)) hx hb dX0_waveAt_12 (by decide +kernel) ?_
    refine lv_iload_n hx hb dX0_waveAt_13 rfl (lv_at hl 2 rfl) ?_
    refine cx_imul hx hb 2 x9 dX0_waveAt_14 ?_
    refine lv_iconst (v := (1 : Int32)) hx hb dX0_waveAt_15 (by decide +kernel) ?_
    refine cx_iadd hx hb (2 * x9) 1 dX0_waveAt_16 ?_
    refine lv_iload_n hx hb dX0_waveAt_17 rfl (lv_at hl 1 rfl) ?_
    refine cx_imul hx hb (2 * x9 + 1) u9 dX0_waveAt_18 ?_
    refine lv_iload_n hx hb dX0_waveAt_19 rfl (lv_at hl 0 rfl) ?_
    refine cx_imul hx hb ((2 * x9 + 1) * u9) sp dX0_waveAt_20 ?_
    refine vp_callSi (W.runS (As := [.int (nI (((2 * x9 + 1) * u9) * sp))]) (rest := []) ⟨hx, hb, hml, hown, hts⟩ (m_cosine l D (((2 * x9 + 1) * u9) * sp) (by exact Nat.lt_of_le_of_lt (Nat.mul_le_mul (Nat.mul_le_mul (show 2 * x9 + 1 ≤ 15 by omega) (show u9 ≤ 7 by omega)) h1) (by decide))) (va_cwS 1 hts (gw_S wm_59 wm_60 wm_12 wm_61) rfl rfl rfl (by decide +kernel) ⟨Nat.le_of_ble_eq_true rfl, Nat.le_of_ble_eq_true rfl⟩) ⟨cro_blind, fun U hU hW => ⟨rfl, cro_at (hP.sub (ws' := []) [] rfl) (hK.sub (tys' := []) [] rfl) hTb hS hU hW⟩⟩ rfl rfl hl.1 rfl (lv_room (Nat.le_of_ble_eq_true rfl)) dX0_waveAt_21 ⟨Nat.le_of_ble_eq_true rfl, Nat.le_of_ble_eq_true rfl⟩) (fun r_2 hr_2 => ?_)
    rw [hr_2]
    exact W.iret (v := cosN ((((2 * x9 + 1) * u9) * sp) % 32)) hx hb hr (fun t ht hW => ⟨_, rfl, (by unfold wvN; rw [if_neg (by omega)]), ht⟩) (fun _ h9 => by cases h9) dX0_waveAt_24
  · refine va_gets (v := .ref t0) hx hb hZ0 hS hown (hts _ wm_57) (fun _ h9 => h9) dX0_waveAt_4 ?_
    refine lv_iconst (v := (4 : Int32)) hx hb dX0_waveAt_7 (by decide +kernel) ?_
    refine cx_ti hx hb hT0 hS 4 (by omega) (by decide) dX0_waveAt_8 ?_
    refine lv_goto (tgt := 24) hx hb dX0_waveAt_9 (by decide) ?_
    exact W.iret (v := cQ 4) hx hb hr (fun t ht hW => ⟨_, rfl, (by unfold wvN; rw [if_pos (by omega)]), ht⟩) (fun _ h9 => by cases h9) dX0_waveAt_24
set_option maxHeartbeats 4000000 in
set_option maxRecDepth 100000 in
/-- ROUND -/
theorem m_rounded (l : Launch) (D : va_G) (v9 : Int64) (sh : Int32) : Met l yX0_rounded wsX0_rounded ({ frames := 0, cells := 0, slots := 0, locals := 0 } : Room) (va_Pc [.long v9, .int sh] (cro D ([]) ([]))) (vp_Sl (fun r => r = rdL v9 sh)) 0 0 (fun _ => False) := by
  refine Met.ofW (cc := cX0_rounded) (maxL := 3) (ret := some .long) (by decide) rfl ?_
  intro p e s m args below meth c s₁ B hml hv
  obtain ⟨rfl, hP, hK, hTb⟩ := hv
  have hx := B.exec
  have hb := B.bytes
  have hr := B.returns
  have hts : ∀ w ∈ wA, w.before _ s = true := fun w h => atoms_spec (ws := wsX0_rounded) B.pre w (List.mem_cons_of_mem _ h)
  have hown : s.vm.findClass RX0 = some m.cls := findClass_of_methodNamed B.named
  have hlocks := B.notSynchronized
  have hS : va_S (fun _ => False) s.heap s.heap [] := va_S.rf
  have hl := lv_entry ([.long v9, .int sh]) (n := 3) (Nat.le_of_ble_eq_true rfl)
  rw [lg_entry_eq]
  generalize (lg_sl ([.long v9, .int sh]) ++ List.replicate (3 - (lg_sl ([.long v9, .int sh])).length) Slot.unset).toArray = ls at hl ⊢
  have hl : lv_has ls 3 [(0, .long v9), (2, .int sh)] := hl
  refine lv_lload_n hx hb dX0_rounded_0 rfl (lv_at hl 0 rfl) ?_
  refine lv_lconst (v := (1 : Int64)) hx hb dX0_rounded_1 (by decide +kernel) ?_
  refine lv_iload_n hx hb dX0_rounded_2 rfl (lv_at hl 1 rfl) ?_
  refine lv_iconst (v := (1 : Int32)) hx hb dX0_rounded_3 (by decide +kernel) ?_
  refine lv_isub hx hb dX0_rounded_4 ?_
  refine lv_lshl hx hb dX0_rounded_5 rfl ?_
  refine lv_ladd hx hb dX0_rounded_6 ?_
  refine lv_iload_n hx hb dX0_rounded_7 rfl (lv_at hl 1 rfl) ?_
  refine lv_lshr hx hb dX0_rounded_8 rfl ?_
  exact W.lret (v := (v9 + ((1 : Int64) <<< ((sh - (1 : Int32)).toInt64 &&& 63))) >>> (sh.toInt64 &&& 63)) hx hb hr (fun t ht hW => ⟨_, rfl, rfl, ht⟩) (fun _ h9 => by cases h9) dX0_rounded_9
set_option maxHeartbeats 4000000 in
set_option maxRecDepth 100000 in
/-- clamped -/
theorem m_clamped (l : Launch) (D : va_G) (v9 : Int64) (lo hi : Int32) : Met l yX0_clamped wsX0_clamped ({ frames := 0, cells := 0, slots := 0, locals := 0 } : Room) (va_Pc [.long v9, .int lo, .int hi] (cro D ([]) ([]))) (vp_Si (fun r => r = clampV v9 lo hi)) 0 0 (fun _ => False) := by
  refine Met.ofW (cc := cX0_clamped) (maxL := 4) (ret := some .int) (by decide) rfl ?_
  intro p e s m args below meth c s₁ B hml hv
  obtain ⟨rfl, hP, hK, hTb⟩ := hv
  have hx := B.exec
  have hb := B.bytes
  have hr := B.returns
  have hts : ∀ w ∈ wA, w.before _ s = true := fun w h => atoms_spec (ws := wsX0_clamped) B.pre w (List.mem_cons_of_mem _ h)
  have hown : s.vm.findClass RX0 = some m.cls := findClass_of_methodNamed B.named
  have hlocks := B.notSynchronized
  have hS : va_S (fun _ => False) s.heap s.heap [] := va_S.rf
  have hl := lv_entry ([.long v9, .int lo, .int hi]) (n := 4) (Nat.le_of_ble_eq_true rfl)
  rw [lg_entry_eq]
  generalize (lg_sl ([.long v9, .int lo, .int hi]) ++ List.replicate (4 - (lg_sl ([.long v9, .int lo, .int hi])).length) Slot.unset).toArray = ls at hl ⊢
  have hl : lv_has ls 4 [(0, .long v9), (2, .int lo), (3, .int hi)] := hl
  refine lv_lload_n hx hb dX0_clamped_0 rfl (lv_at hl 0 rfl) ?_
  refine lv_iload_n hx hb dX0_clamped_1 rfl (lv_at hl 1 rfl) ?_
  refine lv_i2l hx hb dX0_clamped_2 rfl ?_
  refine cx_lcmp_ge (i := v9.toInt) (j := (lo.toInt64).toInt) (tgt := 9) hx hb rfl rfl dX0_clamped_3 dX0_clamped_4 (by decide) (fun c_1 => ?_) (fun c_1 => ?_)
  · refine lv_lload_n hx hb dX0_clamped_9 rfl (lv_at hl 0 rfl) ?_
    refine lv_iload_n hx hb dX0_clamped_10 rfl (lv_at hl 2 rfl) ?_
    refine lv_i2l hx hb dX0_clamped_11 rfl ?_
    refine cx_lcmp_le (i := v9.toInt) (j := (hi.toInt64).toInt) (tgt := 20) hx hb rfl rfl dX0_clamped_12 dX0_clamped_13 (by decide) (fun c_2 => ?_) (fun c_2 => ?_)
    · refine lv_lload_n hx hb dX0_clamped_20 rfl (lv_at hl 0 rfl) ?_
      refine lv_l2i hx hb dX0_clamped_21 rfl ?_
      exact W.iret (v := v9.toInt32) hx hb hr (fun t ht hW => ⟨_, rfl, (by unfold clampV; rw [if_neg (by omega), if_neg (by omega)]), ht⟩) (fun _ h9 => by cases h9) dX0_clamped_22
    · refine lv_iload_n hx hb dX0_clamped_16 rfl (lv_at hl 2 rfl) ?_
      refine lv_goto (tgt := 22) hx hb dX0_clamped_17 (by decide) ?_
      exact W.iret (v := hi) hx hb hr (fun t ht hW => ⟨_, rfl, (by unfold clampV; rw [if_neg (by omega), if_pos (by omega)]), ht⟩) (fun _ h9 => by cases h9) dX0_clamped_22
  · refine lv_iload_n hx hb dX0_clamped_7 rfl (lv_at hl 1 rfl) ?_
    exact W.iret (v := lo) hx hb hr (fun t ht hW => ⟨_, rfl, (by unfold clampV; rw [if_pos (by omega)]), ht⟩) (fun _ h9 => by cases h9) dX0_clamped_8
set_option maxHeartbeats 4000000 in
set_option maxRecDepth 100000 in
/-- E / STEP -/
theorem m_nearest (l : Launch) (D : va_G) (v9 st : Int32) (h1 : 1 ≤ st.toInt) (h2 : st.toInt ≤ 255) : Met l yX0_nearest wsX0_nearest ({ frames := 1, cells := 0, slots := 0, locals := 23 } : Room) (va_Pc [.int v9, .int st] (cro D ([]) ([]))) (vp_Si (fun r => r = nearV v9 st)) 0 0 (fun _ => False) := by
  refine Met.ofW (cc := cX0_nearest) (maxL := 3) (ret := some .int) (by decide) rfl ?_
  intro p e s m args below meth c s₁ B hml hv
  obtain ⟨rfl, hP, hK, hTb⟩ := hv
  have hx := B.exec
  have hb := B.bytes
  have hr := B.returns
  have hts : ∀ w ∈ wA, w.before _ s = true := fun w h => atoms_spec (ws := wsX0_nearest) B.pre w (List.mem_cons_of_mem _ h)
  have hown : s.vm.findClass RX0 = some m.cls := findClass_of_methodNamed B.named
  have hlocks := B.notSynchronized
  have hS : va_S (fun _ => False) s.heap s.heap [] := va_S.rf
  have hl := lv_entry ([.int v9, .int st]) (n := 3) (Nat.le_of_ble_eq_true rfl)
  rw [lg_entry_eq]
  generalize (lg_sl ([.int v9, .int st]) ++ List.replicate (3 - (lg_sl ([.int v9, .int st])).length) Slot.unset).toArray = ls at hl ⊢
  have hl : lv_has ls 3 [(0, .int v9), (1, .int st)] := hl
  refine lv_iload_n hx hb dX0_nearest_0 rfl (lv_at hl 1 rfl) ?_
  refine lv_iconst (v := (1 : Int32)) hx hb dX0_nearest_1 (by decide +kernel) ?_
  refine cx_icmp_ge (i := st.toInt) (j := 1) (tgt := 7) hx hb rfl (by decide +kernel) dX0_nearest_2 (by decide) (fun c_1 => ?_) (fun c_1 => absurd c_1 (by omega))
  refine lv_iconst (v := (2 : Int32)) hx hb dX0_nearest_7 (by decide +kernel) ?_
  refine lv_iload_n hx hb dX0_nearest_8 rfl (lv_at hl 0 rfl) ?_
  refine va_mabs hx hb (hml.trans hl.1.symm) hown (hts _ wm_72) (hts _ wm_73) (hts _ wm_19) (hts _ wm_74) (Nat.le_of_ble_eq_true rfl) (Nat.le_of_ble_eq_true rfl) (Nat.zero_le _) (Nat.zero_le _) dX0_nearest_9 ?_
  refine lv_imul hx hb dX0_nearest_12 ?_
  refine lv_iload_n hx hb dX0_nearest_13 rfl (lv_at hl 1 rfl) ?_
  refine lv_iadd hx hb dX0_nearest_14 ?_
  refine lv_iconst (v := (2 : Int32)) hx hb dX0_nearest_15 (by decide +kernel) ?_
  refine lv_iload_n hx hb dX0_nearest_16 rfl (lv_at hl 1 rfl) ?_
  refine lv_imul hx hb dX0_nearest_17 ?_
  refine lv_idiv hx hb dX0_nearest_18 (cx_2st h1 h2) ?_
  refine lv_istore_n (lv' := [(2, .int ((((2 : Int32) * (absI v9)) + st) / ((2 : Int32) * st))), (0, .int v9), (1, .int st)]) hx hb dX0_nearest_19 rfl hl (by decide) rfl (fun ls hl => ?_)
  refine lv_iload_n hx hb dX0_nearest_20 rfl (lv_at hl 1 rfl) ?_
  refine cx_if_ge (i := v9.toInt) (j := 0) (tgt := 29) hx hb rfl rfl dX0_nearest_21 (by decide) (fun c_2 => ?_) (fun c_2 => ?_)
  · refine lv_iload_n hx hb dX0_nearest_29 rfl (lv_at hl 0 rfl) ?_
    exact W.iret (v := (((2 : Int32) * (absI v9)) + st) / ((2 : Int32) * st)) hx hb hr (fun t ht hW => ⟨_, rfl, (by unfold nearV magV; rw [if_neg (by omega)]), ht⟩) (fun _ h9 => by cases h9) dX0_nearest_30
  · refine lv_iload_n hx hb dX0_nearest_24 rfl (lv_at hl 0 rfl) ?_
    refine lv_ineg hx hb dX0_nearest_25 ?_
    refine lv_goto (tgt := 30) hx hb dX0_nearest_26 (by decide) ?_
    exact W.iret (v := -((((2 : Int32) * (absI v9)) + st) / ((2 : Int32) * st))) hx hb hr (fun t ht hW => ⟨_, rfl, (by unfold nearV magV; rw [if_pos (by omega)]), ht⟩) (fun _ h9 => by cases h9) dX0_nearest_30
end
section
theorem dX0_forwardAcross_0 : decode cX0_forwardAcross 0 = .ok (.lconst 0, 1) := by decide +kernel
theorem dX0_forwardAcross_1 : decode cX0_forwardAcross 1 = .ok (.lstore_n 3, 1) := by decide +kernel
theorem dX0_forwardAcross_2 : decode cX0_forwardAcross 2 = .ok (.iconst 0, 1) := by decide +kernel
theorem dX0_forwardAcross_3 : decode cX0_forwardAcross 3 = .ok (.istore 5, 2) := by decide +kernel
theorem dX0_forwardAcross_5 : decode cX0_forwardAcross 5 = .ok (.iload 5, 2) := by decide +kernel
theorem dX0_forwardAcross_7 : decode cX0_forwardAcross 7 = .ok (.bipush 8, 2) := by decide +kernel
theorem dX0_forwardAcross_9 : decode cX0_forwardAcross 9 = .ok (.if_icmp .ge 33, 3) := by decide +kernel
theorem dX0_forwardAcross_12 : decode cX0_forwardAcross 12 = .ok (.lload_n 3, 1) := by decide +kernel
theorem dX0_forwardAcross_13 : decode cX0_forwardAcross 13 = .ok (.iconst 1, 1) := by decide +kernel
theorem dX0_forwardAcross_14 : decode cX0_forwardAcross 14 = .ok (.iload_n 2, 1) := by decide +kernel
theorem dX0_forwardAcross_15 : decode cX0_forwardAcross 15 = .ok (.iload 5, 2) := by decide +kernel
theorem dX0_forwardAcross_17 : decode cX0_forwardAcross 17 = .ok (.invokestatic 96, 3) := by decide +kernel
theorem dX0_forwardAcross_20 : decode cX0_forwardAcross 20 = .ok (.i2l, 1) := by decide +kernel
theorem dX0_forwardAcross_21 : decode cX0_forwardAcross 21 = .ok (.aload_n 0, 1) := by decide +kernel
theorem dX0_forwardAcross_22 : decode cX0_forwardAcross 22 = .ok (.getfield 22, 3) := by decide +kernel
theorem dX0_forwardAcross_25 : decode cX0_forwardAcross 25 = .ok (.iload_n 1, 1) := by decide +kernel
theorem dX0_forwardAcross_26 : decode cX0_forwardAcross 26 = .ok (.bipush 8, 2) := by decide +kernel
theorem dX0_forwardAcross_28 : decode cX0_forwardAcross 28 = .ok (.imul, 1) := by decide +kernel
theorem dX0_forwardAcross_29 : decode cX0_forwardAcross 29 = .ok (.iload 5, 2) := by decide +kernel
theorem dX0_forwardAcross_31 : decode cX0_forwardAcross 31 = .ok (.iadd, 1) := by decide +kernel
theorem dX0_forwardAcross_32 : decode cX0_forwardAcross 32 = .ok (.laload, 1) := by decide +kernel
theorem dX0_forwardAcross_33 : decode cX0_forwardAcross 33 = .ok (.lmul, 1) := by decide +kernel
theorem dX0_forwardAcross_34 : decode cX0_forwardAcross 34 = .ok (.ladd, 1) := by decide +kernel
theorem dX0_forwardAcross_35 : decode cX0_forwardAcross 35 = .ok (.lstore_n 3, 1) := by decide +kernel
theorem dX0_forwardAcross_36 : decode cX0_forwardAcross 36 = .ok (.iinc 5 1, 3) := by decide +kernel
theorem dX0_forwardAcross_39 : decode cX0_forwardAcross 39 = .ok (.goto (-34), 3) := by decide +kernel
theorem dX0_forwardAcross_42 : decode cX0_forwardAcross 42 = .ok (.lload_n 3, 1) := by decide +kernel
theorem dX0_forwardAcross_43 : decode cX0_forwardAcross 43 = .ok (.bipush 17, 2) := by decide +kernel
theorem dX0_forwardAcross_45 : decode cX0_forwardAcross 45 = .ok (.invokestatic 121, 3) := by decide +kernel
theorem dX0_forwardAcross_48 : decode cX0_forwardAcross 48 = .ok (.l2i, 1) := by decide +kernel
theorem dX0_forwardAcross_49 : decode cX0_forwardAcross 49 = .ok (.ireturn, 1) := by decide +kernel
theorem dX0_countOfCoefficients_0 : decode cX0_countOfCoefficients 0 = .ok (.iconst 0, 1) := by decide +kernel
theorem dX0_countOfCoefficients_1 : decode cX0_countOfCoefficients 1 = .ok (.istore_n 1, 1) := by decide +kernel
theorem dX0_countOfCoefficients_2 : decode cX0_countOfCoefficients 2 = .ok (.iconst 0, 1) := by decide +kernel
theorem dX0_countOfCoefficients_3 : decode cX0_countOfCoefficients 3 = .ok (.istore_n 2, 1) := by decide +kernel
theorem dX0_countOfCoefficients_4 : decode cX0_countOfCoefficients 4 = .ok (.iload_n 2, 1) := by decide +kernel
theorem dX0_countOfCoefficients_5 : decode cX0_countOfCoefficients 5 = .ok (.bipush 64, 2) := by decide +kernel
theorem dX0_countOfCoefficients_7 : decode cX0_countOfCoefficients 7 = .ok (.if_icmp .ge 21, 3) := by decide +kernel
theorem dX0_countOfCoefficients_10 : decode cX0_countOfCoefficients 10 = .ok (.aload_n 0, 1) := by decide +kernel
theorem dX0_countOfCoefficients_11 : decode cX0_countOfCoefficients 11 = .ok (.getfield 9, 3) := by decide +kernel
theorem dX0_countOfCoefficients_14 : decode cX0_countOfCoefficients 14 = .ok (.iload_n 2, 1) := by decide +kernel
theorem dX0_countOfCoefficients_15 : decode cX0_countOfCoefficients 15 = .ok (.iaload, 1) := by decide +kernel
theorem dX0_countOfCoefficients_16 : decode cX0_countOfCoefficients 16 = .ok (.ifCond .eq 6, 3) := by decide +kernel
theorem dX0_countOfCoefficients_19 : decode cX0_countOfCoefficients 19 = .ok (.iinc 1 1, 3) := by decide +kernel
theorem dX0_countOfCoefficients_22 : decode cX0_countOfCoefficients 22 = .ok (.iinc 2 1, 3) := by decide +kernel
theorem dX0_countOfCoefficients_25 : decode cX0_countOfCoefficients 25 = .ok (.goto (-21), 3) := by decide +kernel
theorem dX0_countOfCoefficients_28 : decode cX0_countOfCoefficients 28 = .ok (.iload_n 1, 1) := by decide +kernel
theorem dX0_countOfCoefficients_29 : decode cX0_countOfCoefficients 29 = .ok (.ireturn, 1) := by decide +kernel
theorem dX0_lastPlace_0 : decode cX0_lastPlace 0 = .ok (.bipush 63, 2) := by decide +kernel
theorem dX0_lastPlace_2 : decode cX0_lastPlace 2 = .ok (.istore_n 1, 1) := by decide +kernel
theorem dX0_lastPlace_3 : decode cX0_lastPlace 3 = .ok (.iload_n 1, 1) := by decide +kernel
theorem dX0_lastPlace_4 : decode cX0_lastPlace 4 = .ok (.ifCond .lt 24, 3) := by decide +kernel
theorem dX0_lastPlace_7 : decode cX0_lastPlace 7 = .ok (.aload_n 0, 1) := by decide +kernel
theorem dX0_lastPlace_8 : decode cX0_lastPlace 8 = .ok (.getfield 9, 3) := by decide +kernel
theorem dX0_lastPlace_11 : decode cX0_lastPlace 11 = .ok (.getstatic 42, 3) := by decide +kernel
theorem dX0_lastPlace_14 : decode cX0_lastPlace 14 = .ok (.iload_n 1, 1) := by decide +kernel
theorem dX0_lastPlace_15 : decode cX0_lastPlace 15 = .ok (.iaload, 1) := by decide +kernel
theorem dX0_lastPlace_16 : decode cX0_lastPlace 16 = .ok (.iaload, 1) := by decide +kernel
theorem dX0_lastPlace_17 : decode cX0_lastPlace 17 = .ok (.ifCond .eq 5, 3) := by decide +kernel
theorem dX0_lastPlace_20 : decode cX0_lastPlace 20 = .ok (.iload_n 1, 1) := by decide +kernel
theorem dX0_lastPlace_21 : decode cX0_lastPlace 21 = .ok (.ireturn, 1) := by decide +kernel
theorem dX0_lastPlace_22 : decode cX0_lastPlace 22 = .ok (.iinc 1 (-1), 3) := by decide +kernel
theorem dX0_lastPlace_25 : decode cX0_lastPlace 25 = .ok (.goto (-22), 3) := by decide +kernel
theorem dX0_lastPlace_28 : decode cX0_lastPlace 28 = .ok (.iconst (-1), 1) := by decide +kernel
theorem dX0_lastPlace_29 : decode cX0_lastPlace 29 = .ok (.ireturn, 1) := by decide +kernel
theorem dX0_sumOfMagnitudes_0 : decode cX0_sumOfMagnitudes 0 = .ok (.iconst 0, 1) := by decide +kernel
theorem dX0_sumOfMagnitudes_1 : decode cX0_sumOfMagnitudes 1 = .ok (.istore_n 1, 1) := by decide +kernel
theorem dX0_sumOfMagnitudes_2 : decode cX0_sumOfMagnitudes 2 = .ok (.iconst 0, 1) := by decide +kernel
theorem dX0_sumOfMagnitudes_3 : decode cX0_sumOfMagnitudes 3 = .ok (.istore_n 2, 1) := by decide +kernel
theorem dX0_sumOfMagnitudes_4 : decode cX0_sumOfMagnitudes 4 = .ok (.iload_n 2, 1) := by decide +kernel
theorem dX0_sumOfMagnitudes_5 : decode cX0_sumOfMagnitudes 5 = .ok (.bipush 64, 2) := by decide +kernel
theorem dX0_sumOfMagnitudes_7 : decode cX0_sumOfMagnitudes 7 = .ok (.if_icmp .ge 21, 3) := by decide +kernel
theorem dX0_sumOfMagnitudes_10 : decode cX0_sumOfMagnitudes 10 = .ok (.iload_n 1, 1) := by decide +kernel
theorem dX0_sumOfMagnitudes_11 : decode cX0_sumOfMagnitudes 11 = .ok (.aload_n 0, 1) := by decide +kernel
theorem dX0_sumOfMagnitudes_12 : decode cX0_sumOfMagnitudes 12 = .ok (.getfield 9, 3) := by decide +kernel
theorem dX0_sumOfMagnitudes_15 : decode cX0_sumOfMagnitudes 15 = .ok (.iload_n 2, 1) := by decide +kernel
theorem dX0_sumOfMagnitudes_16 : decode cX0_sumOfMagnitudes 16 = .ok (.iaload, 1) := by decide +kernel
theorem dX0_sumOfMagnitudes_17 : decode cX0_sumOfMagnitudes 17 = .ok (.invokestatic 116, 3) := by decide +kernel
theorem dX0_sumOfMagnitudes_20 : decode cX0_sumOfMagnitudes 20 = .ok (.iadd, 1) := by decide +kernel
theorem dX0_sumOfMagnitudes_21 : decode cX0_sumOfMagnitudes 21 = .ok (.istore_n 1, 1) := by decide +kernel
theorem dX0_sumOfMagnitudes_22 : decode cX0_sumOfMagnitudes 22 = .ok (.iinc 2 1, 3) := by decide +kernel
theorem dX0_sumOfMagnitudes_25 : decode cX0_sumOfMagnitudes 25 = .ok (.goto (-21), 3) := by decide +kernel
theorem dX0_sumOfMagnitudes_28 : decode cX0_sumOfMagnitudes 28 = .ok (.iload_n 1, 1) := by decide +kernel
theorem dX0_sumOfMagnitudes_29 : decode cX0_sumOfMagnitudes 29 = .ok (.ireturn, 1) := by decide +kernel
theorem dX0_sumOf_0 : decode cX0_sumOf 0 = .ok (.iconst 0, 1) := by decide +kernel
theorem dX0_sumOf_1 : decode cX0_sumOf 1 = .ok (.istore_n 1, 1) := by decide +kernel
theorem dX0_sumOf_2 : decode cX0_sumOf 2 = .ok (.aload_n 0, 1) := by decide +kernel
theorem dX0_sumOf_3 : decode cX0_sumOf 3 = .ok (.astore_n 2, 1) := by decide +kernel
theorem dX0_sumOf_4 : decode cX0_sumOf 4 = .ok (.aload_n 2, 1) := by decide +kernel
theorem dX0_sumOf_5 : decode cX0_sumOf 5 = .ok (.arraylength, 1) := by decide +kernel
theorem dX0_sumOf_6 : decode cX0_sumOf 6 = .ok (.istore_n 3, 1) := by decide +kernel
theorem dX0_sumOf_7 : decode cX0_sumOf 7 = .ok (.iconst 0, 1) := by decide +kernel
theorem dX0_sumOf_8 : decode cX0_sumOf 8 = .ok (.istore 4, 2) := by decide +kernel
theorem dX0_sumOf_10 : decode cX0_sumOf 10 = .ok (.iload 4, 2) := by decide +kernel
theorem dX0_sumOf_12 : decode cX0_sumOf 12 = .ok (.iload_n 3, 1) := by decide +kernel
theorem dX0_sumOf_13 : decode cX0_sumOf 13 = .ok (.if_icmp .ge 20, 3) := by decide +kernel
theorem dX0_sumOf_16 : decode cX0_sumOf 16 = .ok (.aload_n 2, 1) := by decide +kernel
theorem dX0_sumOf_17 : decode cX0_sumOf 17 = .ok (.iload 4, 2) := by decide +kernel
theorem dX0_sumOf_19 : decode cX0_sumOf 19 = .ok (.iaload, 1) := by decide +kernel
theorem dX0_sumOf_20 : decode cX0_sumOf 20 = .ok (.istore 5, 2) := by decide +kernel
theorem dX0_sumOf_22 : decode cX0_sumOf 22 = .ok (.iload_n 1, 1) := by decide +kernel
theorem dX0_sumOf_23 : decode cX0_sumOf 23 = .ok (.iload 5, 2) := by decide +kernel
theorem dX0_sumOf_25 : decode cX0_sumOf 25 = .ok (.iadd, 1) := by decide +kernel
theorem dX0_sumOf_26 : decode cX0_sumOf 26 = .ok (.istore_n 1, 1) := by decide +kernel
theorem dX0_sumOf_27 : decode cX0_sumOf 27 = .ok (.iinc 4 1, 3) := by decide +kernel
theorem dX0_sumOf_30 : decode cX0_sumOf 30 = .ok (.goto (-20), 3) := by decide +kernel
theorem dX0_sumOf_33 : decode cX0_sumOf 33 = .ok (.iload_n 1, 1) := by decide +kernel
theorem dX0_sumOf_34 : decode cX0_sumOf 34 = .ok (.ireturn, 1) := by decide +kernel
theorem dX0_look_0 : decode cX0_look 0 = .ok (.iload_n 1, 1) := by decide +kernel
theorem dX0_look_1 : decode cX0_look 1 = .ok (.tableswitch 66 0 4 #[35, 40, 45, 53, 61], 35) := by decide +kernel
theorem dX0_look_36 : decode cX0_look 36 = .ok (.aload_n 0, 1) := by decide +kernel
theorem dX0_look_37 : decode cX0_look 37 = .ok (.invokevirtual 83, 3) := by decide +kernel
theorem dX0_look_40 : decode cX0_look 40 = .ok (.ireturn, 1) := by decide +kernel
theorem dX0_look_41 : decode cX0_look 41 = .ok (.aload_n 0, 1) := by decide +kernel
theorem dX0_look_42 : decode cX0_look 42 = .ok (.invokevirtual 100, 3) := by decide +kernel
theorem dX0_look_45 : decode cX0_look 45 = .ok (.ireturn, 1) := by decide +kernel
theorem dX0_look_46 : decode cX0_look 46 = .ok (.aload_n 0, 1) := by decide +kernel
theorem dX0_look_47 : decode cX0_look 47 = .ok (.getfield 13, 3) := by decide +kernel
theorem dX0_look_50 : decode cX0_look 50 = .ok (.invokestatic 103, 3) := by decide +kernel
theorem dX0_look_53 : decode cX0_look 53 = .ok (.ireturn, 1) := by decide +kernel
theorem dX0_look_54 : decode cX0_look 54 = .ok (.aload_n 0, 1) := by decide +kernel
theorem dX0_look_55 : decode cX0_look 55 = .ok (.getfield 16, 3) := by decide +kernel
theorem dX0_look_58 : decode cX0_look 58 = .ok (.invokestatic 103, 3) := by decide +kernel
theorem dX0_look_61 : decode cX0_look 61 = .ok (.ireturn, 1) := by decide +kernel
theorem dX0_look_62 : decode cX0_look 62 = .ok (.aload_n 0, 1) := by decide +kernel
theorem dX0_look_63 : decode cX0_look 63 = .ok (.invokevirtual 107, 3) := by decide +kernel
theorem dX0_look_66 : decode cX0_look 66 = .ok (.ireturn, 1) := by decide +kernel
theorem dX0_look_67 : decode cX0_look 67 = .ok (.iconst (-1), 1) := by decide +kernel
theorem dX0_look_68 : decode cX0_look 68 = .ok (.ireturn, 1) := by decide +kernel
theorem dX0_order_0 : decode cX0_order 0 = .ok (.iload_n 1, 1) := by decide +kernel
theorem dX0_order_1 : decode cX0_order 1 = .ok (.invokestatic 53, 3) := by decide +kernel
theorem dX0_order_4 : decode cX0_order 4 = .ok (.ifCond .eq 10, 3) := by decide +kernel
theorem dX0_order_7 : decode cX0_order 7 = .ok (.iload_n 2, 1) := by decide +kernel
theorem dX0_order_8 : decode cX0_order 8 = .ok (.invokestatic 53, 3) := by decide +kernel
theorem dX0_order_11 : decode cX0_order 11 = .ok (.ifCond .ne 5, 3) := by decide +kernel
theorem dX0_order_14 : decode cX0_order 14 = .ok (.iconst (-1), 1) := by decide +kernel
theorem dX0_order_15 : decode cX0_order 15 = .ok (.ireturn, 1) := by decide +kernel
theorem dX0_order_16 : decode cX0_order 16 = .ok (.getstatic 91, 3) := by decide +kernel
theorem dX0_order_19 : decode cX0_order 19 = .ok (.iload_n 1, 1) := by decide +kernel
theorem dX0_order_20 : decode cX0_order 20 = .ok (.bipush 8, 2) := by decide +kernel
theorem dX0_order_22 : decode cX0_order 22 = .ok (.imul, 1) := by decide +kernel
theorem dX0_order_23 : decode cX0_order 23 = .ok (.iload_n 2, 1) := by decide +kernel
theorem dX0_order_24 : decode cX0_order 24 = .ok (.iadd, 1) := by decide +kernel
theorem dX0_order_25 : decode cX0_order 25 = .ok (.iaload, 1) := by decide +kernel
theorem dX0_order_26 : decode cX0_order 26 = .ok (.ireturn, 1) := by decide +kernel
theorem dX0_samples_0 : decode cX0_samples 0 = .ok (.iload_n 1, 1) := by decide +kernel
theorem dX0_samples_1 : decode cX0_samples 1 = .ok (.invokestatic 53, 3) := by decide +kernel
theorem dX0_samples_4 : decode cX0_samples 4 = .ok (.ifCond .ne 5, 3) := by decide +kernel
theorem dX0_samples_7 : decode cX0_samples 7 = .ok (.lconst 0, 1) := by decide +kernel
theorem dX0_samples_8 : decode cX0_samples 8 = .ok (.lreturn, 1) := by decide +kernel
theorem dX0_samples_9 : decode cX0_samples 9 = .ok (.lconst 0, 1) := by decide +kernel
theorem dX0_samples_10 : decode cX0_samples 10 = .ok (.lstore_n 2, 1) := by decide +kernel
theorem dX0_samples_11 : decode cX0_samples 11 = .ok (.iconst 0, 1) := by decide +kernel
theorem dX0_samples_12 : decode cX0_samples 12 = .ok (.istore 4, 2) := by decide +kernel
theorem dX0_samples_14 : decode cX0_samples 14 = .ok (.iload 4, 2) := by decide +kernel
theorem dX0_samples_16 : decode cX0_samples 16 = .ok (.bipush 8, 2) := by decide +kernel
theorem dX0_samples_18 : decode cX0_samples 18 = .ok (.if_icmp .ge 28, 3) := by decide +kernel
theorem dX0_samples_21 : decode cX0_samples 21 = .ok (.lload_n 2, 1) := by decide +kernel
theorem dX0_samples_22 : decode cX0_samples 22 = .ok (.bipush 8, 2) := by decide +kernel
theorem dX0_samples_24 : decode cX0_samples 24 = .ok (.lshl, 1) := by decide +kernel
theorem dX0_samples_25 : decode cX0_samples 25 = .ok (.aload_n 0, 1) := by decide +kernel
theorem dX0_samples_26 : decode cX0_samples 26 = .ok (.getfield 16, 3) := by decide +kernel
theorem dX0_samples_29 : decode cX0_samples 29 = .ok (.iload_n 1, 1) := by decide +kernel
theorem dX0_samples_30 : decode cX0_samples 30 = .ok (.bipush 8, 2) := by decide +kernel
theorem dX0_samples_32 : decode cX0_samples 32 = .ok (.imul, 1) := by decide +kernel
theorem dX0_samples_33 : decode cX0_samples 33 = .ok (.iload 4, 2) := by decide +kernel
theorem dX0_samples_35 : decode cX0_samples 35 = .ok (.iadd, 1) := by decide +kernel
theorem dX0_samples_36 : decode cX0_samples 36 = .ok (.iaload, 1) := by decide +kernel
theorem dX0_samples_37 : decode cX0_samples 37 = .ok (.i2l, 1) := by decide +kernel
theorem dX0_samples_38 : decode cX0_samples 38 = .ok (.lor, 1) := by decide +kernel
theorem dX0_samples_39 : decode cX0_samples 39 = .ok (.lstore_n 2, 1) := by decide +kernel
theorem dX0_samples_40 : decode cX0_samples 40 = .ok (.iinc 4 1, 3) := by decide +kernel
theorem dX0_samples_43 : decode cX0_samples 43 = .ok (.goto (-29), 3) := by decide +kernel
theorem dX0_samples_46 : decode cX0_samples 46 = .ok (.lload_n 2, 1) := by decide +kernel
theorem dX0_samples_47 : decode cX0_samples 47 = .ok (.lreturn, 1) := by decide +kernel
set_option maxHeartbeats 4000000 in
set_option maxRecDepth 100000 in
/-- E(v, u) -/
theorem m_forwardAcross (l : Launch) (D : va_G) (x : Nat → Nat) (cd : Nat → ClassId) (f0 f1 f2 f3 : Nat → Int32) (g : Nat → Int64) (v9 u9 : Nat) (h1 : v9 < 8) (h2 : u9 < 8) : Met l yX0_forwardAcross wsX0_forwardAcross ({ frames := 2, cells := 0, slots := 0, locals := 43 } : Room) (va_Pc [.ref (x 0), .int (nI v9), .int (nI u9)] (cro D (cw x cd f0 f1 f2 f3 g) (cty cd))) (vp_Si (fun r => r = fE (fun a9 b9 => g (a9 * 8 + b9)) v9 u9)) 0 0 (fun _ => False) := by
  refine Met.ofW (cc := cX0_forwardAcross) (maxL := 6) (ret := some .int) (by decide) rfl ?_
  intro p e s m args below meth c s₁ B hml hv
  obtain ⟨rfl, hP, hK, hTb⟩ := hv
  have hx := B.exec
  have hb := B.bytes
  have hr := B.returns
  have hts : ∀ w ∈ wA, w.before _ s = true := fun w h => atoms_spec (ws := wsX0_forwardAcross) B.pre w (List.mem_cons_of_mem _ h)
  have hown : s.vm.findClass RX0 = some m.cls := findClass_of_methodNamed B.named
  have hlocks := B.notSynchronized
  have hS : va_S (fun _ => False) s.heap s.heap [] := va_S.rf
  have hin0 := inA0
  have hf22 := (hts _ wm_32)
  have hl := lv_entry ([.ref (x 0), .int (nI v9), .int (nI u9)]) (n := 6) (Nat.le_of_ble_eq_true rfl)
  rw [lg_entry_eq]
  generalize (lg_sl ([.ref (x 0), .int (nI v9), .int (nI u9)]) ++ List.replicate (6 - (lg_sl ([.ref (x 0), .int (nI v9), .int (nI u9)])).length) Slot.unset).toArray = ls at hl ⊢
  have hl : lv_has ls 6 [(0, .ref (x 0)), (1, .int (nI v9)), (2, .int (nI u9))] := hl
  refine lv_lconst (v := (0 : Int64)) hx hb dX0_forwardAcross_0 (by decide +kernel) ?_
  refine lv_lstore_n (lv' := [(3, .long (0 : Int64)), (0, .ref (x 0)), (1, .int (nI v9)), (2, .int (nI u9))]) hx hb dX0_forwardAcross_1 rfl hl (by decide) rfl (fun ls hl => ?_)
  refine lv_iconst (v := (0 : Int32)) hx hb dX0_forwardAcross_2 (by decide +kernel) ?_
  refine lv_istore (lv' := [(5, .int (0 : Int32)), (3, .long (0 : Int64)), (0, .ref (x 0)), (1, .int (nI v9)), (2, .int (nI u9))]) hx hb dX0_forwardAcross_3 hl (by decide) rfl (fun ls hl => ?_)
  have L5 : ∀ (n : Nat) (i9 : Nat) (ls : Array Slot), (8 - i9) < n → (i9 ≤ 8) → lv_has ls 6 [(0, .ref (x 0)), (1, .int (nI v9)), (2, .int (nI u9)), (3, .long (sumL (fun x9 => (wvN 1 u9 x9).toInt64 * g (v9 * 8 + x9)) i9)), (5, .int (nI i9))] → W p l e ((headSpec wsX0_forwardAcross ({ frames := 2, cells := 0, slots := 0, locals := 43 } : Room)).room) s m (([.ref (x 0), .int (nI v9), .int (nI u9)] : List Value).toArray) below meth c s.heap [] 0 0 (MQ below (vp_Si (fun r => r = fE (fun a9 b9 => g (a9 * 8 + b9)) v9 u9)) ([.ref (x 0), .int (nI v9), .int (nI u9)] : List Value).toArray s 0 0 (fun _ => False)) (F0 m 5 ls []) := by
    intro n
    induction n with
    | zero =>
      intro i9 ls hn
      exact absurd hn (Nat.not_lt_zero _)
    | succ n ih5 =>
      intro i9 ls hn5 hi9 hl
      refine lv_iload hx hb dX0_forwardAcross_5 (lv_at hl 4 rfl) ?_
      refine lv_bipush (v := (8 : Int32)) hx hb dX0_forwardAcross_7 (by decide +kernel) ?_
      refine cx_icmp_ge (i := ((i9 : Nat) : Int)) (j := 8) (tgt := 42) hx hb (nI_toInt (by omega)) (by decide +kernel) dX0_forwardAcross_9 (by decide) (fun c_1 => ?_) (fun c_1 => ?_)
      · refine lv_lload_n hx hb dX0_forwardAcross_42 rfl (lv_at hl 3 rfl) ?_
        refine lv_bipush (v := (17 : Int32)) hx hb dX0_forwardAcross_43 (by decide +kernel) ?_
        refine vp_callSl (W.runS (As := [.long (sumL (fun x9 => (wvN 1 u9 x9).toInt64 * g (v9 * 8 + x9)) i9), .int (17 : Int32)]) (rest := []) ⟨hx, hb, hml, hown, hts⟩ (m_rounded l D (sumL (fun x9 => (wvN 1 u9 x9).toInt64 * g (v9 * 8 + x9)) i9) (17 : Int32)) (va_cwS 2 hts (gw_S wm_62 wm_63 wm_12 wm_64) rfl rfl rfl (by decide +kernel) ⟨Nat.le_of_ble_eq_true rfl, Nat.le_of_ble_eq_true rfl⟩) ⟨cro_blind, fun U hU hW => ⟨rfl, cro_at (hP.sub (ws' := []) [] rfl) (hK.sub (tys' := []) [] rfl) hTb hS hU hW⟩⟩ rfl rfl hl.1 rfl (lv_room (Nat.le_of_ble_eq_true rfl)) dX0_forwardAcross_45 ⟨Nat.le_of_ble_eq_true rfl, Nat.le_of_ble_eq_true rfl⟩) (fun r_2 hr_2 => ?_)
        rw [hr_2]
        refine lv_l2i hx hb dX0_forwardAcross_48 rfl ?_
        exact W.iret (v := (rdL (sumL (fun x9 => (wvN 1 u9 x9).toInt64 * g (v9 * 8 + x9)) i9) (17 : Int32)).toInt32) hx hb hr (fun t ht hW => ⟨_, rfl, (by obtain rfl : i9 = 8 := (by omega); rfl), ht⟩) (fun _ h9 => by cases h9) dX0_forwardAcross_49
      · refine lv_lload_n hx hb dX0_forwardAcross_12 rfl (lv_at hl 3 rfl) ?_
        refine lv_iconst (v := (1 : Int32)) hx hb dX0_forwardAcross_13 (by decide +kernel) ?_
        refine lv_iload_n hx hb dX0_forwardAcross_14 rfl (lv_at hl 2 rfl) ?_
        refine lv_iload hx hb dX0_forwardAcross_15 (lv_at hl 4 rfl) ?_
        refine vp_callSi (W.runS (As := [.int (1 : Int32), .int (nI u9), .int (nI i9)]) (rest := [.long (sumL (fun x9 => (wvN 1 u9 x9).toInt64 * g (v9 * 8 + x9)) i9)]) ⟨hx, hb, hml, hown, hts⟩ (m_waveAt l D 1 u9 i9 (by omega) (by omega) (by omega)) (va_cwS 3 hts (gw_S wm_54 wm_55 wm_12 wm_56) rfl rfl rfl (by decide +kernel) ⟨Nat.le_of_ble_eq_true rfl, Nat.le_of_ble_eq_true rfl⟩) ⟨cro_blind, fun U hU hW => ⟨rfl, cro_at (hP.sub (ws' := []) [] rfl) (hK.sub (tys' := []) [] rfl) hTb hS hU hW⟩⟩ rfl rfl hl.1 rfl (lv_room (Nat.le_of_ble_eq_true rfl)) dX0_forwardAcross_17 ⟨Nat.le_of_ble_eq_true rfl, Nat.le_of_ble_eq_true rfl⟩) (fun r_3 hr_3 => ?_)
        rw [hr_3]
        refine lv_i2l hx hb dX0_forwardAcross_20 rfl ?_
        refine lv_aload_n hx hb dX0_forwardAcross_21 rfl (lv_at hl 0 rfl) ?_
        refine va_get (D := D) (ci := 0) (v := .ref (x 5)) (C := RX0) (T := TX0) (N := 5) hx hb hts hin0 hown hK hP 0 rfl rfl 4 (by decide) hf22 (fun _ h9 => h9) rfl dX0_forwardAcross_22 ?_
        refine lv_iload_n hx hb dX0_forwardAcross_25 rfl (lv_at hl 1 rfl) ?_
        refine lv_bipush (v := (8 : Int32)) hx hb dX0_forwardAcross_26 (by decide +kernel) ?_
        refine cx_imul hx hb v9 8 dX0_forwardAcross_28 ?_
        refine lv_iload hx hb dX0_forwardAcross_29 (lv_at hl 4 rfl) ?_
        refine cx_iadd hx hb (v9 * 8) i9 dX0_forwardAcross_31 ?_
        refine cx_lald hx hb hK hP 5 4 rfl rfl (v9 * 8 + i9) (by omega) (by decide) dX0_forwardAcross_32 ?_
        refine lv_lmul hx hb dX0_forwardAcross_33 ?_
        refine lv_ladd hx hb dX0_forwardAcross_34 ?_
        refine lv_lstore_n (lv' := [(3, .long ((sumL (fun x9 => (wvN 1 u9 x9).toInt64 * g (v9 * 8 + x9)) i9) + (((wvN 1 u9 i9).toInt64) * (g (v9 * 8 + i9))))), (0, .ref (x 0)), (1, .int (nI v9)), (2, .int (nI u9)), (5, .int (nI i9))]) hx hb dX0_forwardAcross_35 rfl hl (by decide) rfl (fun ls hl => ?_)
        refine lv_iinc (v := nI (i9 + 1)) (lv' := [(5, .int (nI (i9 + 1))), (3, .long ((sumL (fun x9 => (wvN 1 u9 x9).toInt64 * g (v9 * 8 + x9)) i9) + (((wvN 1 u9 i9).toInt64) * (g (v9 * 8 + i9))))), (0, .ref (x 0)), (1, .int (nI v9)), (2, .int (nI u9))]) hx hb dX0_forwardAcross_36 hl (k := 4) rfl (by show nI i9 + 1 = nI (i9 + 1); exact nI_add i9 1) (by decide) rfl (fun ls hl => ?_)
        refine lv_goto (tgt := 5) hx hb dX0_forwardAcross_39 (by decide) ?_
        exact ih5 (i9 + 1) _ (by omega) (by omega) (lv_sub hl [2, 3, 4, 1, 0] rfl)
  exact L5 _ 0 _ (Nat.lt_succ_self _) (Nat.zero_le _) (lv_sub hl [2, 3, 4, 1, 0] rfl)
set_option maxHeartbeats 4000000 in
set_option maxRecDepth 100000 in
/-- COEFFICIENTS that are not 0 -/
theorem m_count (l : Launch) (D : va_G) (x : Nat → Nat) (cd : Nat → ClassId) (f0 f1 f2 f3 : Nat → Int32) (g : Nat → Int64) : Met l yX0_countOfCoefficients wsX0_countOfCoefficients ({ frames := 0, cells := 0, slots := 0, locals := 0 } : Room) (va_Pc [.ref (x 0)] (cro D (cw x cd f0 f1 f2 f3 g) (cty cd))) (vp_Si (fun r => r = cntI f0 64)) 0 0 (fun _ => False) := by
  refine Met.ofW (cc := cX0_countOfCoefficients) (maxL := 3) (ret := some .int) (by decide) rfl ?_
  intro p e s m args below meth c s₁ B hml hv
  obtain ⟨rfl, hP, hK, hTb⟩ := hv
  have hx := B.exec
  have hb := B.bytes
  have hr := B.returns
  have hts : ∀ w ∈ wA, w.before _ s = true := fun w h => atoms_spec (ws := wsX0_countOfCoefficients) B.pre w (List.mem_cons_of_mem _ h)
  have hown : s.vm.findClass RX0 = some m.cls := findClass_of_methodNamed B.named
  have hlocks := B.notSynchronized
  have hS : va_S (fun _ => False) s.heap s.heap [] := va_S.rf
  have hin0 := inA0
  have hf9 := (hts _ wm_28)
  have hl := lv_entry ([.ref (x 0)]) (n := 3) (Nat.le_of_ble_eq_true rfl)
  rw [lg_entry_eq]
  generalize (lg_sl ([.ref (x 0)]) ++ List.replicate (3 - (lg_sl ([.ref (x 0)])).length) Slot.unset).toArray = ls at hl ⊢
  have hl : lv_has ls 3 [(0, .ref (x 0))] := hl
  refine lv_iconst (v := (0 : Int32)) hx hb dX0_countOfCoefficients_0 (by decide +kernel) ?_
  refine lv_istore_n (lv' := [(1, .int (0 : Int32)), (0, .ref (x 0))]) hx hb dX0_countOfCoefficients_1 rfl hl (by decide) rfl (fun ls hl => ?_)
  refine lv_iconst (v := (0 : Int32)) hx hb dX0_countOfCoefficients_2 (by decide +kernel) ?_
  refine lv_istore_n (lv' := [(2, .int (0 : Int32)), (1, .int (0 : Int32)), (0, .ref (x 0))]) hx hb dX0_countOfCoefficients_3 rfl hl (by decide) rfl (fun ls hl => ?_)
  have L4 : ∀ (n : Nat) (i9 : Nat) (ls : Array Slot), (64 - i9) < n → (i9 ≤ 64) → lv_has ls 3 [(0, .ref (x 0)), (1, .int (cntI f0 i9)), (2, .int (nI i9))] → W p l e ((headSpec wsX0_countOfCoefficients ({ frames := 0, cells := 0, slots := 0, locals := 0 } : Room)).room) s m (([.ref (x 0)] : List Value).toArray) below meth c s.heap [] 0 0 (MQ below (vp_Si (fun r => r = cntI f0 64)) ([.ref (x 0)] : List Value).toArray s 0 0 (fun _ => False)) (F0 m 4 ls []) := by
    intro n
    induction n with
    | zero =>
      intro i9 ls hn
      exact absurd hn (Nat.not_lt_zero _)
    | succ n ih4 =>
      intro i9 ls hn4 hi9 hl
      refine lv_iload_n hx hb dX0_countOfCoefficients_4 rfl (lv_at hl 2 rfl) ?_
      refine lv_bipush (v := (64 : Int32)) hx hb dX0_countOfCoefficients_5 (by decide +kernel) ?_
      refine cx_icmp_ge (i := ((i9 : Nat) : Int)) (j := 64) (tgt := 28) hx hb (nI_toInt (by omega)) (by decide +kernel) dX0_countOfCoefficients_7 (by decide) (fun c_1 => ?_) (fun c_1 => ?_)
      · refine lv_iload_n hx hb dX0_countOfCoefficients_28 rfl (lv_at hl 1 rfl) ?_
        exact W.iret (v := cntI f0 i9) hx hb hr (fun t ht hW => ⟨_, rfl, (by obtain rfl : i9 = 64 := (by omega); rfl), ht⟩) (fun _ h9 => by cases h9) dX0_countOfCoefficients_29
      · refine lv_aload_n hx hb dX0_countOfCoefficients_10 rfl (lv_at hl 0 rfl) ?_
        refine va_get (D := D) (ci := 0) (v := .ref (x 1)) (C := RX0) (T := TX0) (N := 5) hx hb hts hin0 hown hK hP 0 rfl rfl 0 (by decide) hf9 (fun _ h9 => h9) rfl dX0_countOfCoefficients_11 ?_
        refine lv_iload_n hx hb dX0_countOfCoefficients_14 rfl (lv_at hl 2 rfl) ?_
        refine cx_iald hx hb hK hP 1 0 rfl rfl i9 (by omega) (by decide) dX0_countOfCoefficients_15 ?_
        refine cx_if_eq (i := (f0 i9).toInt) (j := 0) (tgt := 22) hx hb rfl rfl dX0_countOfCoefficients_16 (by decide) (fun c_2 => ?_) (fun c_2 => ?_)
        · refine lv_iinc (v := nI (i9 + 1)) (lv' := [(2, .int (nI (i9 + 1))), (0, .ref (x 0)), (1, .int (cntI f0 i9))]) hx hb dX0_countOfCoefficients_22 hl (k := 2) rfl (by show nI i9 + 1 = nI (i9 + 1); exact nI_add i9 1) (by decide) rfl (fun ls hl => ?_)
          refine lv_goto (tgt := 4) hx hb dX0_countOfCoefficients_25 (by decide) ?_
          have e_3 : cntI f0 i9 = cntI f0 (i9 + 1) := cntI_z c_2
          rw [e_3] at hl
          exact ih4 (i9 + 1) _ (by omega) (by omega) (lv_sub hl [1, 2, 0] rfl)
        · refine lv_iinc (v := cntI f0 i9 + 1) (lv' := [(1, .int (cntI f0 i9 + 1)), (0, .ref (x 0)), (2, .int (nI i9))]) hx hb dX0_countOfCoefficients_19 hl (k := 1) rfl rfl (by decide) rfl (fun ls hl => ?_)
          refine lv_iinc (v := nI (i9 + 1)) (lv' := [(2, .int (nI (i9 + 1))), (1, .int (cntI f0 i9 + 1)), (0, .ref (x 0))]) hx hb dX0_countOfCoefficients_22 hl (k := 2) rfl (by show nI i9 + 1 = nI (i9 + 1); exact nI_add i9 1) (by decide) rfl (fun ls hl => ?_)
          refine lv_goto (tgt := 4) hx hb dX0_countOfCoefficients_25 (by decide) ?_
          have e_4 : cntI f0 i9 + 1 = cntI f0 (i9 + 1) := cntI_s c_2
          rw [e_4] at hl
          exact ih4 (i9 + 1) _ (by omega) (by omega) (lv_sub hl [2, 1, 0] rfl)
  exact L4 _ 0 _ (Nat.lt_succ_self _) (Nat.zero_le _) (lv_sub hl [2, 1, 0] rfl)
set_option maxHeartbeats 4000000 in
set_option maxRecDepth 100000 in
/-- the last place of a COEFFICIENT that is not 0 -/
theorem m_lastPlace (l : Launch) (D : va_G) (x : Nat → Nat) (cd : Nat → ClassId) (f0 f1 f2 f3 : Nat → Int32) (g : Nat → Int64) : Met l yX0_lastPlace wsX0_lastPlace ({ frames := 0, cells := 0, slots := 0, locals := 0 } : Room) (va_Pc [.ref (x 0)] (cro D (cw x cd f0 f1 f2 f3 g) (cty cd))) (vp_Si (fun r => r = lastI (fun j => f0 (cCn j)) 64)) 0 0 (fun _ => False) := by
  refine Met.ofW (cc := cX0_lastPlace) (maxL := 2) (ret := some .int) (by decide) rfl ?_
  intro p e s m args below meth c s₁ B hml hv
  obtain ⟨rfl, hP, hK, hTb⟩ := hv
  have hx := B.exec
  have hb := B.bytes
  have hr := B.returns
  have hts : ∀ w ∈ wA, w.before _ s = true := fun w h => atoms_spec (ws := wsX0_lastPlace) B.pre w (List.mem_cons_of_mem _ h)
  have hown : s.vm.findClass RX0 = some m.cls := findClass_of_methodNamed B.named
  have hlocks := B.notSynchronized
  have hS : va_S (fun _ => False) s.heap s.heap [] := va_S.rf
  have hin0 := inA0
  have hf9 := (hts _ wm_28)
  obtain ⟨⟨t0, hZ0, hT0⟩, ⟨t1, hZ1, hT1⟩, ⟨t2, hZ2, hT2⟩, -⟩ := id hTb
  have hl := lv_entry ([.ref (x 0)]) (n := 2) (Nat.le_of_ble_eq_true rfl)
  rw [lg_entry_eq]
  generalize (lg_sl ([.ref (x 0)]) ++ List.replicate (2 - (lg_sl ([.ref (x 0)])).length) Slot.unset).toArray = ls at hl ⊢
  have hl : lv_has ls 2 [(0, .ref (x 0))] := hl
  refine lv_bipush (v := (63 : Int32)) hx hb dX0_lastPlace_0 (by decide +kernel) ?_
  refine lv_istore_n (lv' := [(1, .int (63 : Int32)), (0, .ref (x 0))]) hx hb dX0_lastPlace_2 rfl hl (by decide) rfl (fun ls hl => ?_)
  have L3 : ∀ (n : Nat) (k9 : Nat) (ls : Array Slot), k9 < n → (k9 ≤ 64) → (lastI (fun j => f0 (cCn j)) 64 = lastI (fun j => f0 (cCn j)) k9) → lv_has ls 2 [(0, .ref (x 0)), (1, .int (dnI k9))] → W p l e ((headSpec wsX0_lastPlace ({ frames := 0, cells := 0, slots := 0, locals := 0 } : Room)).room) s m (([.ref (x 0)] : List Value).toArray) below meth c s.heap [] 0 0 (MQ below (vp_Si (fun r => r = lastI (fun j => f0 (cCn j)) 64)) ([.ref (x 0)] : List Value).toArray s 0 0 (fun _ => False)) (F0 m 3 ls []) := by
    intro n
    induction n with
    | zero =>
      intro k9 ls hn
      exact absurd hn (Nat.not_lt_zero _)
    | succ n ih3 =>
      intro k9 ls hn3 hk9 hp9 hl
      rcases k9 with _ | k9
      · have hl : lv_has ls 2 [(0, .ref (x 0)), (1, .int (-1 : Int32))] := hl
        refine lv_iload_n hx hb dX0_lastPlace_3 rfl (lv_at hl 1 rfl) ?_
        refine cx_if_lt (i := (-1)) (j := 0) (tgt := 28) hx hb (by decide +kernel) rfl dX0_lastPlace_4 (by decide) (fun c_1 => ?_) (fun c_1 => absurd c_1 (by decide))
        refine lv_iconst (v := (-1 : Int32)) hx hb dX0_lastPlace_28 (by decide +kernel) ?_
        exact W.iret (v := (-1 : Int32)) hx hb hr (fun t ht hW => ⟨_, rfl, hp9.symm, ht⟩) (fun _ h9 => by cases h9) dX0_lastPlace_29
      · have hl : lv_has ls 2 [(0, .ref (x 0)), (1, .int (nI k9))] := hl
        refine lv_iload_n hx hb dX0_lastPlace_3 rfl (lv_at hl 1 rfl) ?_
        refine cx_if_lt (i := ((k9 : Nat) : Int)) (j := 0) (tgt := 28) hx hb (nI_toInt (by omega)) rfl dX0_lastPlace_4 (by decide) (fun c_2 => absurd c_2 (by omega)) (fun c_2 => ?_)
        refine lv_aload_n hx hb dX0_lastPlace_7 rfl (lv_at hl 0 rfl) ?_
        refine va_get (D := D) (ci := 0) (v := .ref (x 1)) (C := RX0) (T := TX0) (N := 5) hx hb hts hin0 hown hK hP 0 rfl rfl 0 (by decide) hf9 (fun _ h9 => h9) rfl dX0_lastPlace_8 ?_
        refine va_gets (v := .ref t2) hx hb hZ2 hS hown (hts _ wm_108) (fun _ h9 => h9) dX0_lastPlace_11 ?_
        refine lv_iload_n hx hb dX0_lastPlace_14 rfl (lv_at hl 1 rfl) ?_
        refine cx_ti hx hb hT2 hS k9 (by omega) (by decide) dX0_lastPlace_15 ?_
        refine cx_iald hx hb hK hP 1 0 rfl rfl (cCn k9) (cCn_lt k9 (by omega)) (by decide) dX0_lastPlace_16 ?_
        refine cx_if_eq (i := (f0 (cCn k9)).toInt) (j := 0) (tgt := 22) hx hb rfl rfl dX0_lastPlace_17 (by decide) (fun c_3 => ?_) (fun c_3 => ?_)
        · refine lv_iinc (v := nI k9 + (-1)) (lv' := [(1, .int (nI k9 + (-1))), (0, .ref (x 0))]) hx hb dX0_lastPlace_22 hl (k := 1) rfl rfl (by decide) rfl (fun ls hl => ?_)
          refine lv_goto (tgt := 3) hx hb dX0_lastPlace_25 (by decide) ?_
          rw [dnI_pred] at hl
          exact ih3 k9 _ (by omega) (by omega) (by rw [← lastI_z (f := (fun j => f0 (cCn j))) c_3]; exact hp9) (lv_sub hl [1, 0] rfl)
        · refine lv_iload_n hx hb dX0_lastPlace_20 rfl (lv_at hl 1 rfl) ?_
          exact W.iret (v := nI k9) hx hb hr (fun t ht hW => ⟨_, rfl, (by rw [hp9, lastI_s (f := (fun j => f0 (cCn j))) c_3]), ht⟩) (fun _ h9 => by cases h9) dX0_lastPlace_21
  exact L3 _ 64 _ (Nat.lt_succ_self _) (Nat.le_refl _) rfl (lv_sub hl [1, 0] rfl)
set_option maxHeartbeats 4000000 in
set_option maxRecDepth 100000 in
/-- the sum of all |COEFFICIENTS| -/
theorem m_sumMag (l : Launch) (D : va_G) (x : Nat → Nat) (cd : Nat → ClassId) (f0 f1 f2 f3 : Nat → Int32) (g : Nat → Int64) : Met l yX0_sumOfMagnitudes wsX0_sumOfMagnitudes ({ frames := 1, cells := 0, slots := 0, locals := 23 } : Room) (va_Pc [.ref (x 0)] (cro D (cw x cd f0 f1 f2 f3 g) (cty cd))) (vp_Si (fun r => r = sumI (fun j => absI (f0 j)) 64)) 0 0 (fun _ => False) := by
  refine Met.ofW (cc := cX0_sumOfMagnitudes) (maxL := 3) (ret := some .int) (by decide) rfl ?_
  intro p e s m args below meth c s₁ B hml hv
  obtain ⟨rfl, hP, hK, hTb⟩ := hv
  have hx := B.exec
  have hb := B.bytes
  have hr := B.returns
  have hts : ∀ w ∈ wA, w.before _ s = true := fun w h => atoms_spec (ws := wsX0_sumOfMagnitudes) B.pre w (List.mem_cons_of_mem _ h)
  have hown : s.vm.findClass RX0 = some m.cls := findClass_of_methodNamed B.named
  have hlocks := B.notSynchronized
  have hS : va_S (fun _ => False) s.heap s.heap [] := va_S.rf
  have hin0 := inA0
  have hf9 := (hts _ wm_28)
  have hl := lv_entry ([.ref (x 0)]) (n := 3) (Nat.le_of_ble_eq_true rfl)
  rw [lg_entry_eq]
  generalize (lg_sl ([.ref (x 0)]) ++ List.replicate (3 - (lg_sl ([.ref (x 0)])).length) Slot.unset).toArray = ls at hl ⊢
  have hl : lv_has ls 3 [(0, .ref (x 0))] := hl
  refine lv_iconst (v := (0 : Int32)) hx hb dX0_sumOfMagnitudes_0 (by decide +kernel) ?_
  refine lv_istore_n (lv' := [(1, .int (0 : Int32)), (0, .ref (x 0))]) hx hb dX0_sumOfMagnitudes_1 rfl hl (by decide) rfl (fun ls hl => ?_)
  refine lv_iconst (v := (0 : Int32)) hx hb dX0_sumOfMagnitudes_2 (by decide +kernel) ?_
  refine lv_istore_n (lv' := [(2, .int (0 : Int32)), (1, .int (0 : Int32)), (0, .ref (x 0))]) hx hb dX0_sumOfMagnitudes_3 rfl hl (by decide) rfl (fun ls hl => ?_)
  have L4 : ∀ (n : Nat) (i9 : Nat) (ls : Array Slot), (64 - i9) < n → (i9 ≤ 64) → lv_has ls 3 [(0, .ref (x 0)), (1, .int (sumI (fun j => absI (f0 j)) i9)), (2, .int (nI i9))] → W p l e ((headSpec wsX0_sumOfMagnitudes ({ frames := 1, cells := 0, slots := 0, locals := 23 } : Room)).room) s m (([.ref (x 0)] : List Value).toArray) below meth c s.heap [] 0 0 (MQ below (vp_Si (fun r => r = sumI (fun j => absI (f0 j)) 64)) ([.ref (x 0)] : List Value).toArray s 0 0 (fun _ => False)) (F0 m 4 ls []) := by
    intro n
    induction n with
    | zero =>
      intro i9 ls hn
      exact absurd hn (Nat.not_lt_zero _)
    | succ n ih4 =>
      intro i9 ls hn4 hi9 hl
      refine lv_iload_n hx hb dX0_sumOfMagnitudes_4 rfl (lv_at hl 2 rfl) ?_
      refine lv_bipush (v := (64 : Int32)) hx hb dX0_sumOfMagnitudes_5 (by decide +kernel) ?_
      refine cx_icmp_ge (i := ((i9 : Nat) : Int)) (j := 64) (tgt := 28) hx hb (nI_toInt (by omega)) (by decide +kernel) dX0_sumOfMagnitudes_7 (by decide) (fun c_1 => ?_) (fun c_1 => ?_)
      · refine lv_iload_n hx hb dX0_sumOfMagnitudes_28 rfl (lv_at hl 1 rfl) ?_
        exact W.iret (v := sumI (fun j => absI (f0 j)) i9) hx hb hr (fun t ht hW => ⟨_, rfl, (by obtain rfl : i9 = 64 := (by omega); rfl), ht⟩) (fun _ h9 => by cases h9) dX0_sumOfMagnitudes_29
      · refine lv_iload_n hx hb dX0_sumOfMagnitudes_10 rfl (lv_at hl 1 rfl) ?_
        refine lv_aload_n hx hb dX0_sumOfMagnitudes_11 rfl (lv_at hl 0 rfl) ?_
        refine va_get (D := D) (ci := 0) (v := .ref (x 1)) (C := RX0) (T := TX0) (N := 5) hx hb hts hin0 hown hK hP 0 rfl rfl 0 (by decide) hf9 (fun _ h9 => h9) rfl dX0_sumOfMagnitudes_12 ?_
        refine lv_iload_n hx hb dX0_sumOfMagnitudes_15 rfl (lv_at hl 2 rfl) ?_
        refine cx_iald hx hb hK hP 1 0 rfl rfl i9 (by omega) (by decide) dX0_sumOfMagnitudes_16 ?_
        refine va_mabs hx hb (hml.trans hl.1.symm) hown (hts _ wm_72) (hts _ wm_73) (hts _ wm_19) (hts _ wm_74) (Nat.le_of_ble_eq_true rfl) (Nat.le_of_ble_eq_true rfl) (Nat.zero_le _) (Nat.zero_le _) dX0_sumOfMagnitudes_17 ?_
        refine lv_iadd hx hb dX0_sumOfMagnitudes_20 ?_
        refine lv_istore_n (lv' := [(1, .int ((sumI (fun j => absI (f0 j)) i9) + (absI (f0 i9)))), (0, .ref (x 0)), (2, .int (nI i9))]) hx hb dX0_sumOfMagnitudes_21 rfl hl (by decide) rfl (fun ls hl => ?_)
        refine lv_iinc (v := nI (i9 + 1)) (lv' := [(2, .int (nI (i9 + 1))), (1, .int ((sumI (fun j => absI (f0 j)) i9) + (absI (f0 i9)))), (0, .ref (x 0))]) hx hb dX0_sumOfMagnitudes_22 hl (k := 2) rfl (by show nI i9 + 1 = nI (i9 + 1); exact nI_add i9 1) (by decide) rfl (fun ls hl => ?_)
        refine lv_goto (tgt := 4) hx hb dX0_sumOfMagnitudes_25 (by decide) ?_
        exact ih4 (i9 + 1) _ (by omega) (by omega) (lv_sub hl [2, 1, 0] rfl)
  exact L4 _ 0 _ (Nat.lt_succ_self _) (Nat.zero_le _) (lv_sub hl [2, 1, 0] rfl)
set_option maxHeartbeats 4000000 in
set_option maxRecDepth 100000 in
/-- the sum of a grid -/
theorem m_sumOf (l : Launch) (D : va_G) (a9 : Nat) (ca : ClassId) (f9 : Nat → Int32) : Met l yX0_sumOf wsX0_sumOf ({ frames := 0, cells := 0, slots := 0, locals := 0 } : Room) (va_Pc [.ref a9] (cro D ([(a9, .inl (ca, 64, .inl f9))]) ([(ca, .int)]))) (vp_Si (fun r => r = sumI f9 64)) 0 0 (fun _ => False) := by
  refine Met.ofW (cc := cX0_sumOf) (maxL := 6) (ret := some .int) (by decide) rfl ?_
  intro p e s m args below meth c s₁ B hml hv
  obtain ⟨rfl, hP, hK, hTb⟩ := hv
  have hx := B.exec
  have hb := B.bytes
  have hr := B.returns
  have hts : ∀ w ∈ wA, w.before _ s = true := fun w h => atoms_spec (ws := wsX0_sumOf) B.pre w (List.mem_cons_of_mem _ h)
  have hown : s.vm.findClass RX0 = some m.cls := findClass_of_methodNamed B.named
  have hlocks := B.notSynchronized
  have hS : va_S (fun _ => False) s.heap s.heap [] := va_S.rf
  have hl := lv_entry ([.ref a9]) (n := 6) (Nat.le_of_ble_eq_true rfl)
  rw [lg_entry_eq]
  generalize (lg_sl ([.ref a9]) ++ List.replicate (6 - (lg_sl ([.ref a9])).length) Slot.unset).toArray = ls at hl ⊢
  have hl : lv_has ls 6 [(0, .ref a9)] := hl
  refine lv_iconst (v := (0 : Int32)) hx hb dX0_sumOf_0 (by decide +kernel) ?_
  refine lv_istore_n (lv' := [(1, .int (0 : Int32)), (0, .ref a9)]) hx hb dX0_sumOf_1 rfl hl (by decide) rfl (fun ls hl => ?_)
  refine lv_aload_n hx hb dX0_sumOf_2 rfl (lv_at hl 1 rfl) ?_
  refine lv_astore_n (lv' := [(2, .ref a9), (1, .int (0 : Int32)), (0, .ref a9)]) hx hb dX0_sumOf_3 rfl hl (by decide) rfl (fun ls hl => ?_)
  refine lv_aload_n hx hb dX0_sumOf_4 rfl (lv_at hl 0 rfl) ?_
  refine va_alen hx hb hK hP 0 0 rfl rfl (v := 64) rfl dX0_sumOf_5 ?_
  refine lv_istore_n (lv' := [(3, .int (64 : Int32)), (2, .ref a9), (1, .int (0 : Int32)), (0, .ref a9)]) hx hb dX0_sumOf_6 rfl hl (by decide) rfl (fun ls hl => ?_)
  refine lv_iconst (v := (0 : Int32)) hx hb dX0_sumOf_7 (by decide +kernel) ?_
  refine lv_istore (lv' := [(4, .int (0 : Int32)), (3, .int (64 : Int32)), (2, .ref a9), (1, .int (0 : Int32)), (0, .ref a9)]) hx hb dX0_sumOf_8 hl (by decide) rfl (fun ls hl => ?_)
  have L10 : ∀ (n : Nat) (i9 : Nat) (ls : Array Slot), (64 - i9) < n → (i9 ≤ 64) → lv_has ls 6 [(2, .ref a9), (3, .int (64 : Int32)), (1, .int (sumI f9 i9)), (4, .int (nI i9))] → W p l e ((headSpec wsX0_sumOf ({ frames := 0, cells := 0, slots := 0, locals := 0 } : Room)).room) s m (([.ref a9] : List Value).toArray) below meth c s.heap [] 0 0 (MQ below (vp_Si (fun r => r = sumI f9 64)) ([.ref a9] : List Value).toArray s 0 0 (fun _ => False)) (F0 m 10 ls []) := by
    intro n
    induction n with
    | zero =>
      intro i9 ls hn
      exact absurd hn (Nat.not_lt_zero _)
    | succ n ih10 =>
      intro i9 ls hn10 hi9 hl
      refine lv_iload hx hb dX0_sumOf_10 (lv_at hl 3 rfl) ?_
      refine lv_iload_n hx hb dX0_sumOf_12 rfl (lv_at hl 1 rfl) ?_
      refine cx_icmp_ge (i := ((i9 : Nat) : Int)) (j := 64) (tgt := 33) hx hb (nI_toInt (by omega)) (by decide +kernel) dX0_sumOf_13 (by decide) (fun c_1 => ?_) (fun c_1 => ?_)
      · refine lv_iload_n hx hb dX0_sumOf_33 rfl (lv_at hl 2 rfl) ?_
        exact W.iret (v := sumI f9 i9) hx hb hr (fun t ht hW => ⟨_, rfl, (by obtain rfl : i9 = 64 := (by omega); rfl), ht⟩) (fun _ h9 => by cases h9) dX0_sumOf_34
      · refine lv_aload_n hx hb dX0_sumOf_16 rfl (lv_at hl 0 rfl) ?_
        refine lv_iload hx hb dX0_sumOf_17 (lv_at hl 3 rfl) ?_
        refine cx_iald hx hb hK hP 0 0 rfl rfl i9 (by omega) (by decide) dX0_sumOf_19 ?_
        refine lv_istore (lv' := [(5, .int (f9 i9)), (2, .ref a9), (3, .int (64 : Int32)), (1, .int (sumI f9 i9)), (4, .int (nI i9))]) hx hb dX0_sumOf_20 hl (by decide) rfl (fun ls hl => ?_)
        refine lv_iload_n hx hb dX0_sumOf_22 rfl (lv_at hl 3 rfl) ?_
        refine lv_iload hx hb dX0_sumOf_23 (lv_at hl 0 rfl) ?_
        refine lv_iadd hx hb dX0_sumOf_25 ?_
        refine lv_istore_n (lv' := [(1, .int ((sumI f9 i9) + (f9 i9))), (5, .int (f9 i9)), (2, .ref a9), (3, .int (64 : Int32)), (4, .int (nI i9))]) hx hb dX0_sumOf_26 rfl hl (by decide) rfl (fun ls hl => ?_)
        refine lv_iinc (v := nI (i9 + 1)) (lv' := [(4, .int (nI (i9 + 1))), (1, .int ((sumI f9 i9) + (f9 i9))), (5, .int (f9 i9)), (2, .ref a9), (3, .int (64 : Int32))]) hx hb dX0_sumOf_27 hl (k := 4) rfl (by show nI i9 + 1 = nI (i9 + 1); exact nI_add i9 1) (by decide) rfl (fun ls hl => ?_)
        refine lv_goto (tgt := 10) hx hb dX0_sumOf_30 (by decide) ?_
        exact ih10 (i9 + 1) _ (by omega) (by omega) (lv_sub hl [3, 4, 1, 0] rfl)
  exact L10 _ 0 _ (Nat.lt_succ_self _) (Nat.zero_le _) (lv_sub hl [2, 1, 3, 0] rfl)
set_option maxHeartbeats 4000000 in
set_option maxRecDepth 100000 in
/-- look -/
theorem m_look (l : Launch) (D : va_G) (x : Nat → Nat) (cd : Nat → ClassId) (f0 f1 f2 f3 : Nat → Int32) (g : Nat → Int64) (q : Int32) : Met l yX0_look wsX0_look ({ frames := 2, cells := 0, slots := 0, locals := 45 } : Room) (va_Pc [.ref (x 0), .int q] (cro D (cw x cd f0 f1 f2 f3 g) (cty cd))) (vp_Si (fun r => r = lookV f0 f1 f2 q)) 0 0 (fun _ => False) := by
  refine Met.ofW (cc := cX0_look) (maxL := 2) (ret := some .int) (by decide) rfl ?_
  intro p e s m args below meth c s₁ B hml hv
  obtain ⟨rfl, hP, hK, hTb⟩ := hv
  have hx := B.exec
  have hb := B.bytes
  have hr := B.returns
  have hts : ∀ w ∈ wA, w.before _ s = true := fun w h => atoms_spec (ws := wsX0_look) B.pre w (List.mem_cons_of_mem _ h)
  have hown : s.vm.findClass RX0 = some m.cls := findClass_of_methodNamed B.named
  have hlocks := B.notSynchronized
  have hS : va_S (fun _ => False) s.heap s.heap [] := va_S.rf
  have hin0 := inA0
  have hf13 := (hts _ wm_29)
  have hf16 := (hts _ wm_30)
  have hl := lv_entry ([.ref (x 0), .int q]) (n := 2) (Nat.le_of_ble_eq_true rfl)
  rw [lg_entry_eq]
  generalize (lg_sl ([.ref (x 0), .int q]) ++ List.replicate (2 - (lg_sl ([.ref (x 0), .int q])).length) Slot.unset).toArray = ls at hl ⊢
  have hl : lv_has ls 2 [(0, .ref (x 0)), (1, .int q)] := hl
  refine lv_iload_n hx hb dX0_look_0 rfl (lv_at hl 1 rfl) ?_
  by_cases k_1 : q.toInt < 0 ∨ 4 < q.toInt
  · refine cx_tabO (i := q.toInt) (tgt := 67) hx hb rfl dX0_look_1 k_1 (by decide) ?_
    refine lv_iconst (v := (-1 : Int32)) hx hb dX0_look_67 (by decide +kernel) ?_
    exact W.iret (v := (-1 : Int32)) hx hb hr (fun t ht hW => ⟨_, rfl, (by unfold lookV; rw [if_neg (by omega), if_neg (by omega), if_neg (by omega), if_neg (by omega), if_neg (by omega)]), ht⟩) (fun _ h9 => by cases h9) dX0_look_68
  · have k_1 : q.toInt = 0 ∨ q.toInt = 1 ∨ q.toInt = 2 ∨ q.toInt = 3 ∨ q.toInt = 4 := by omega
    rcases k_1 with k_1 | k_1 | k_1 | k_1 | k_1
    · refine cx_tabI (i := q.toInt) (off := 35) (tgt := 36) hx hb rfl dX0_look_1 (by omega) (by omega) (by rw [k_1]; rfl) (by decide) ?_
      refine lv_aload_n hx hb dX0_look_36 rfl (lv_at hl 0 rfl) ?_
      refine vp_callSi (W.runV (As := []) (rest := []) ⟨hx, hb, hml, hown, hts⟩ (m_count l D x cd f0 f1 f2 f3 g) (cwV 0 hts (gw_V wm_75 wm_77 wm_2 wm_12 wm_78) rfl rfl rfl (by decide +kernel) ⟨Nat.le_of_ble_eq_true rfl, Nat.le_of_ble_eq_true rfl⟩) ⟨cro_blind, va_recv hK hP (ci := 0) (q0 := 0) rfl rfl, fun U hU hW => ⟨rfl, cro_at hP hK hTb hS hU hW⟩⟩ rfl rfl hl.1 rfl (lv_room (Nat.le_of_ble_eq_true rfl)) dX0_look_37 ⟨Nat.le_of_ble_eq_true rfl, Nat.le_of_ble_eq_true rfl⟩) (fun r_2 hr_2 => ?_)
      rw [hr_2]
      exact W.iret (v := cntI f0 64) hx hb hr (fun t ht hW => ⟨_, rfl, (by unfold lookV; rw [if_pos (by omega)]), ht⟩) (fun _ h9 => by cases h9) dX0_look_40
    · refine cx_tabI (i := q.toInt) (off := 40) (tgt := 41) hx hb rfl dX0_look_1 (by omega) (by omega) (by rw [k_1]; rfl) (by decide) ?_
      refine lv_aload_n hx hb dX0_look_41 rfl (lv_at hl 0 rfl) ?_
      refine vp_callSi (W.runV (As := []) (rest := []) ⟨hx, hb, hml, hown, hts⟩ (m_lastPlace l D x cd f0 f1 f2 f3 g) (cwV 0 hts (gw_V wm_104 wm_106 wm_3 wm_12 wm_107) rfl rfl rfl (by decide +kernel) ⟨Nat.le_of_ble_eq_true rfl, Nat.le_of_ble_eq_true rfl⟩) ⟨cro_blind, va_recv hK hP (ci := 0) (q0 := 0) rfl rfl, fun U hU hW => ⟨rfl, cro_at hP hK hTb hS hU hW⟩⟩ rfl rfl hl.1 rfl (lv_room (Nat.le_of_ble_eq_true rfl)) dX0_look_42 ⟨Nat.le_of_ble_eq_true rfl, Nat.le_of_ble_eq_true rfl⟩) (fun r_3 hr_3 => ?_)
      rw [hr_3]
      exact W.iret (v := lastI (fun j => f0 (cCn j)) 64) hx hb hr (fun t ht hW => ⟨_, rfl, (by unfold lookV; rw [if_neg (by omega), if_pos (by omega)]), ht⟩) (fun _ h9 => by cases h9) dX0_look_45
    · refine cx_tabI (i := q.toInt) (off := 45) (tgt := 46) hx hb rfl dX0_look_1 (by omega) (by omega) (by rw [k_1]; rfl) (by decide) ?_
      refine lv_aload_n hx hb dX0_look_46 rfl (lv_at hl 0 rfl) ?_
      refine va_get (D := D) (ci := 0) (v := .ref (x 2)) (C := RX0) (T := TX0) (N := 5) hx hb hts hin0 hown hK hP 0 rfl rfl 1 (by decide) hf13 (fun _ h9 => h9) rfl dX0_look_47 ?_
      refine vp_callSi (W.runS (As := [.ref (x 2)]) (rest := []) ⟨hx, hb, hml, hown, hts⟩ (m_sumOf l D (x 2) (cd 2) f1) (va_cwS 1 hts (gw_S wm_110 wm_111 wm_12 wm_112) rfl rfl rfl (by decide +kernel) ⟨Nat.le_of_ble_eq_true rfl, Nat.le_of_ble_eq_true rfl⟩) ⟨cro_blind, fun U hU hW => ⟨rfl, cro_at (hP.sub (ws' := [(x 2, .inl (cd 2, 64, .inl f1))]) [2] rfl) (hK.sub (tys' := [(cd 2, .int)]) [1] rfl) hTb hS hU hW⟩⟩ rfl rfl hl.1 rfl (lv_room (Nat.le_of_ble_eq_true rfl)) dX0_look_50 ⟨Nat.le_of_ble_eq_true rfl, Nat.le_of_ble_eq_true rfl⟩) (fun r_4 hr_4 => ?_)
      rw [hr_4]
      exact W.iret (v := sumI f1 64) hx hb hr (fun t ht hW => ⟨_, rfl, (by unfold lookV; rw [if_neg (by omega), if_neg (by omega), if_pos (by omega)]), ht⟩) (fun _ h9 => by cases h9) dX0_look_53
    · refine cx_tabI (i := q.toInt) (off := 53) (tgt := 54) hx hb rfl dX0_look_1 (by omega) (by omega) (by rw [k_1]; rfl) (by decide) ?_
      refine lv_aload_n hx hb dX0_look_54 rfl (lv_at hl 0 rfl) ?_
      refine va_get (D := D) (ci := 0) (v := .ref (x 3)) (C := RX0) (T := TX0) (N := 5) hx hb hts hin0 hown hK hP 0 rfl rfl 2 (by decide) hf16 (fun _ h9 => h9) rfl dX0_look_55 ?_
      refine vp_callSi (W.runS (As := [.ref (x 3)]) (rest := []) ⟨hx, hb, hml, hown, hts⟩ (m_sumOf l D (x 3) (cd 3) f2) (va_cwS 1 hts (gw_S wm_110 wm_111 wm_12 wm_112) rfl rfl rfl (by decide +kernel) ⟨Nat.le_of_ble_eq_true rfl, Nat.le_of_ble_eq_true rfl⟩) ⟨cro_blind, fun U hU hW => ⟨rfl, cro_at (hP.sub (ws' := [(x 3, .inl (cd 3, 64, .inl f2))]) [3] rfl) (hK.sub (tys' := [(cd 3, .int)]) [2] rfl) hTb hS hU hW⟩⟩ rfl rfl hl.1 rfl (lv_room (Nat.le_of_ble_eq_true rfl)) dX0_look_58 ⟨Nat.le_of_ble_eq_true rfl, Nat.le_of_ble_eq_true rfl⟩) (fun r_5 hr_5 => ?_)
      rw [hr_5]
      exact W.iret (v := sumI f2 64) hx hb hr (fun t ht hW => ⟨_, rfl, (by unfold lookV; rw [if_neg (by omega), if_neg (by omega), if_neg (by omega), if_pos (by omega)]), ht⟩) (fun _ h9 => by cases h9) dX0_look_61
    · refine cx_tabI (i := q.toInt) (off := 61) (tgt := 62) hx hb rfl dX0_look_1 (by omega) (by omega) (by rw [k_1]; rfl) (by decide) ?_
      refine lv_aload_n hx hb dX0_look_62 rfl (lv_at hl 0 rfl) ?_
      refine vp_callSi (W.runV (As := []) (rest := []) ⟨hx, hb, hml, hown, hts⟩ (m_sumMag l D x cd f0 f1 f2 f3 g) (cwV 0 hts (gw_V wm_113 wm_115 wm_4 wm_12 wm_116) rfl rfl rfl (by decide +kernel) ⟨Nat.le_of_ble_eq_true rfl, Nat.le_of_ble_eq_true rfl⟩) ⟨cro_blind, va_recv hK hP (ci := 0) (q0 := 0) rfl rfl, fun U hU hW => ⟨rfl, cro_at hP hK hTb hS hU hW⟩⟩ rfl rfl hl.1 rfl (lv_room (Nat.le_of_ble_eq_true rfl)) dX0_look_63 ⟨Nat.le_of_ble_eq_true rfl, Nat.le_of_ble_eq_true rfl⟩) (fun r_6 hr_6 => ?_)
      rw [hr_6]
      exact W.iret (v := sumI (fun j => absI (f0 j)) 64) hx hb hr (fun t ht hW => ⟨_, rfl, (by unfold lookV; rw [if_neg (by omega), if_neg (by omega), if_neg (by omega), if_neg (by omega), if_pos (by omega)]), ht⟩) (fun _ h9 => by cases h9) dX0_look_66
set_option maxHeartbeats 4000000 in
set_option maxRecDepth 100000 in
/-- order -/
theorem m_order (l : Launch) (D : va_G) (x : Nat → Nat) (cd : Nat → ClassId) (f0 f1 f2 f3 : Nat → Int32) (g : Nat → Int64) (a9 b9 : Int32) : Met l yX0_order wsX0_order ({ frames := 1, cells := 0, slots := 0, locals := 20 } : Room) (va_Pc [.ref (x 0), .int a9, .int b9] (cro D (cw x cd f0 f1 f2 f3 g) (cty cd))) (vp_Si (fun r => r = orderV a9 b9)) 0 0 (fun _ => False) := by
  refine Met.ofW (cc := cX0_order) (maxL := 3) (ret := some .int) (by decide) rfl ?_
  intro p e s m args below meth c s₁ B hml hv
  obtain ⟨rfl, hP, hK, hTb⟩ := hv
  have hx := B.exec
  have hb := B.bytes
  have hr := B.returns
  have hts : ∀ w ∈ wA, w.before _ s = true := fun w h => atoms_spec (ws := wsX0_order) B.pre w (List.mem_cons_of_mem _ h)
  have hown : s.vm.findClass RX0 = some m.cls := findClass_of_methodNamed B.named
  have hlocks := B.notSynchronized
  have hS : va_S (fun _ => False) s.heap s.heap [] := va_S.rf
  obtain ⟨⟨t0, hZ0, hT0⟩, ⟨t1, hZ1, hT1⟩, ⟨t2, hZ2, hT2⟩, -⟩ := id hTb
  have hl := lv_entry ([.ref (x 0), .int a9, .int b9]) (n := 3) (Nat.le_of_ble_eq_true rfl)
  rw [lg_entry_eq]
  generalize (lg_sl ([.ref (x 0), .int a9, .int b9]) ++ List.replicate (3 - (lg_sl ([.ref (x 0), .int a9, .int b9])).length) Slot.unset).toArray = ls at hl ⊢
  have hl : lv_has ls 3 [(0, .ref (x 0)), (1, .int a9), (2, .int b9)] := hl
  refine lv_iload_n hx hb dX0_order_0 rfl (lv_at hl 1 rfl) ?_
  refine vp_callSi (W.runS (As := [.int a9]) (rest := []) ⟨hx, hb, hml, hown, hts⟩ (m_isLine l D a9) (va_cwS 1 hts (gw_S wm_91 wm_92 wm_12 wm_93) rfl rfl rfl (by decide +kernel) ⟨Nat.le_of_ble_eq_true rfl, Nat.le_of_ble_eq_true rfl⟩) ⟨cro_blind, fun U hU hW => ⟨rfl, cro_at (hP.sub (ws' := []) [] rfl) (hK.sub (tys' := []) [] rfl) hTb hS hU hW⟩⟩ rfl rfl hl.1 rfl (lv_room (Nat.le_of_ble_eq_true rfl)) dX0_order_1 ⟨Nat.le_of_ble_eq_true rfl, Nat.le_of_ble_eq_true rfl⟩) (fun r_1 hr_1 => ?_)
  rcases hr_1 with ⟨rfl, ha9, hb9⟩ | ⟨rfl, ha9⟩
  · refine cx_if_eq (i := 1) (j := 0) (tgt := 14) hx hb (by decide +kernel) rfl dX0_order_4 (by decide) (fun c_2 => absurd c_2 (by decide)) (fun c_2 => ?_)
    refine lv_iload_n hx hb dX0_order_7 rfl (lv_at hl 2 rfl) ?_
    refine vp_callSi (W.runS (As := [.int b9]) (rest := []) ⟨hx, hb, hml, hown, hts⟩ (m_isLine l D b9) (va_cwS 1 hts (gw_S wm_91 wm_92 wm_12 wm_93) rfl rfl rfl (by decide +kernel) ⟨Nat.le_of_ble_eq_true rfl, Nat.le_of_ble_eq_true rfl⟩) ⟨cro_blind, fun U hU hW => ⟨rfl, cro_at (hP.sub (ws' := []) [] rfl) (hK.sub (tys' := []) [] rfl) hTb hS hU hW⟩⟩ rfl rfl hl.1 rfl (lv_room (Nat.le_of_ble_eq_true rfl)) dX0_order_8 ⟨Nat.le_of_ble_eq_true rfl, Nat.le_of_ble_eq_true rfl⟩) (fun r_3 hr_3 => ?_)
    rcases hr_3 with ⟨rfl, ha9, hb9⟩ | ⟨rfl, ha9⟩
    · refine cx_if_ne (i := 1) (j := 0) (tgt := 16) hx hb (by decide +kernel) rfl dX0_order_11 (by decide) (fun c_4 => ?_) (fun c_4 => absurd c_4 (by decide))
      obtain ⟨a8, hla, hea⟩ := cx_ofN (x := a9) (n := 8) (by omega) (by omega) (by decide)
      obtain ⟨b8, hlb, heb⟩ := cx_ofN (x := b9) (n := 8) (by omega) (by omega) (by decide)
      have e_5 : a9 = nI a8 := hea
      rw [e_5] at hl
      have e_6 : b9 = nI b8 := heb
      rw [e_6] at hl
      refine va_gets (v := .ref t1) hx hb hZ1 hS hown (hts _ wm_94) (fun _ h9 => h9) dX0_order_16 ?_
      refine lv_iload_n hx hb dX0_order_19 rfl (lv_at hl 1 rfl) ?_
      refine lv_bipush (v := (8 : Int32)) hx hb dX0_order_20 (by decide +kernel) ?_
      refine cx_imul hx hb a8 8 dX0_order_22 ?_
      refine lv_iload_n hx hb dX0_order_23 rfl (lv_at hl 2 rfl) ?_
      refine cx_iadd hx hb (a8 * 8) b8 dX0_order_24 ?_
      refine cx_ti hx hb hT1 hS (a8 * 8 + b8) (by omega) (by decide) dX0_order_25 ?_
      exact W.iret (v := cP (a8 * 8 + b8)) hx hb hr (fun t ht hW => ⟨_, rfl, (by unfold orderV; rw [if_pos (by omega), hea, heb, cx_toNat (by omega), cx_toNat (by omega)]), ht⟩) (fun _ h9 => by cases h9) dX0_order_26
    · refine cx_if_ne (i := 0) (j := 0) (tgt := 16) hx hb (by decide +kernel) rfl dX0_order_11 (by decide) (fun c_7 => absurd c_7 (by decide)) (fun c_7 => ?_)
      refine lv_iconst (v := (-1 : Int32)) hx hb dX0_order_14 (by decide +kernel) ?_
      exact W.iret (v := (-1 : Int32)) hx hb hr (fun t ht hW => ⟨_, rfl, (by unfold orderV; rw [if_neg (by omega)]), ht⟩) (fun _ h9 => by cases h9) dX0_order_15
  · refine cx_if_eq (i := 0) (j := 0) (tgt := 14) hx hb (by decide +kernel) rfl dX0_order_4 (by decide) (fun c_8 => ?_) (fun c_8 => absurd c_8 (by decide))
    refine lv_iconst (v := (-1 : Int32)) hx hb dX0_order_14 (by decide +kernel) ?_
    exact W.iret (v := (-1 : Int32)) hx hb hr (fun t ht hW => ⟨_, rfl, (by unfold orderV; rw [if_neg (by omega)]), ht⟩) (fun _ h9 => by cases h9) dX0_order_15
set_option maxHeartbeats 4000000 in
set_option maxRecDepth 100000 in
/-- samples -/
theorem m_samples (l : Launch) (D : va_G) (x : Nat → Nat) (cd : Nat → ClassId) (f0 f1 f2 f3 : Nat → Int32) (g : Nat → Int64) (y9 : Int32) : Met l yX0_samples wsX0_samples ({ frames := 1, cells := 0, slots := 0, locals := 20 } : Room) (va_Pc [.ref (x 0), .int y9] (cro D (cw x cd f0 f1 f2 f3 g) (cty cd))) (vp_Sl (fun r => r = samplesV f2 y9)) 0 0 (fun _ => False) := by
  refine Met.ofW (cc := cX0_samples) (maxL := 5) (ret := some .long) (by decide) rfl ?_
  intro p e s m args below meth c s₁ B hml hv
  obtain ⟨rfl, hP, hK, hTb⟩ := hv
  have hx := B.exec
  have hb := B.bytes
  have hr := B.returns
  have hts : ∀ w ∈ wA, w.before _ s = true := fun w h => atoms_spec (ws := wsX0_samples) B.pre w (List.mem_cons_of_mem _ h)
  have hown : s.vm.findClass RX0 = some m.cls := findClass_of_methodNamed B.named
  have hlocks := B.notSynchronized
  have hS : va_S (fun _ => False) s.heap s.heap [] := va_S.rf
  have hin0 := inA0
  have hf16 := (hts _ wm_30)
  have hl := lv_entry ([.ref (x 0), .int y9]) (n := 5) (Nat.le_of_ble_eq_true rfl)
  rw [lg_entry_eq]
  generalize (lg_sl ([.ref (x 0), .int y9]) ++ List.replicate (5 - (lg_sl ([.ref (x 0), .int y9])).length) Slot.unset).toArray = ls at hl ⊢
  have hl : lv_has ls 5 [(0, .ref (x 0)), (1, .int y9)] := hl
  refine lv_iload_n hx hb dX0_samples_0 rfl (lv_at hl 1 rfl) ?_
  refine vp_callSi (W.runS (As := [.int y9]) (rest := []) ⟨hx, hb, hml, hown, hts⟩ (m_isLine l D y9) (va_cwS 1 hts (gw_S wm_91 wm_92 wm_12 wm_93) rfl rfl rfl (by decide +kernel) ⟨Nat.le_of_ble_eq_true rfl, Nat.le_of_ble_eq_true rfl⟩) ⟨cro_blind, fun U hU hW => ⟨rfl, cro_at (hP.sub (ws' := []) [] rfl) (hK.sub (tys' := []) [] rfl) hTb hS hU hW⟩⟩ rfl rfl hl.1 rfl (lv_room (Nat.le_of_ble_eq_true rfl)) dX0_samples_1 ⟨Nat.le_of_ble_eq_true rfl, Nat.le_of_ble_eq_true rfl⟩) (fun r_1 hr_1 => ?_)
  rcases hr_1 with ⟨rfl, ha9, hb9⟩ | ⟨rfl, ha9⟩
  · refine cx_if_ne (i := 1) (j := 0) (tgt := 9) hx hb (by decide +kernel) rfl dX0_samples_4 (by decide) (fun c_2 => ?_) (fun c_2 => absurd c_2 (by decide))
    obtain ⟨a8, hla, hea⟩ := cx_ofN (x := y9) (n := 8) (by omega) (by omega) (by decide)
    have e_3 : y9 = nI a8 := hea
    rw [e_3] at hl
    refine lv_lconst (v := (0 : Int64)) hx hb dX0_samples_9 (by decide +kernel) ?_
    refine lv_lstore_n (lv' := [(2, .long (0 : Int64)), (0, .ref (x 0)), (1, .int (nI a8))]) hx hb dX0_samples_10 rfl hl (by decide) rfl (fun ls hl => ?_)
    refine lv_iconst (v := (0 : Int32)) hx hb dX0_samples_11 (by decide +kernel) ?_
    refine lv_istore (lv' := [(4, .int (0 : Int32)), (2, .long (0 : Int64)), (0, .ref (x 0)), (1, .int (nI a8))]) hx hb dX0_samples_12 hl (by decide) rfl (fun ls hl => ?_)
    have L14 : ∀ (n : Nat) (i9 : Nat) (ls : Array Slot), (8 - i9) < n → (i9 ≤ 8) → lv_has ls 5 [(0, .ref (x 0)), (1, .int (nI a8)), (2, .long (smp f2 a8 i9)), (4, .int (nI i9))] → W p l e ((headSpec wsX0_samples ({ frames := 1, cells := 0, slots := 0, locals := 20 } : Room)).room) s m (([.ref (x 0), .int y9] : List Value).toArray) below meth c s.heap [] 0 0 (MQ below (vp_Sl (fun r => r = samplesV f2 y9)) ([.ref (x 0), .int y9] : List Value).toArray s 0 0 (fun _ => False)) (F0 m 14 ls []) := by
      intro n
      induction n with
      | zero =>
        intro i9 ls hn
        exact absurd hn (Nat.not_lt_zero _)
      | succ n ih14 =>
        intro i9 ls hn14 hi9 hl
        refine lv_iload hx hb dX0_samples_14 (lv_at hl 3 rfl) ?_
        refine lv_bipush (v := (8 : Int32)) hx hb dX0_samples_16 (by decide +kernel) ?_
        refine cx_icmp_ge (i := ((i9 : Nat) : Int)) (j := 8) (tgt := 46) hx hb (nI_toInt (by omega)) (by decide +kernel) dX0_samples_18 (by decide) (fun c_4 => ?_) (fun c_4 => ?_)
        · refine lv_lload_n hx hb dX0_samples_46 rfl (lv_at hl 2 rfl) ?_
          exact W.lret (v := smp f2 a8 i9) hx hb hr (fun t ht hW => ⟨_, rfl, (by obtain rfl : i9 = 8 := (by omega); unfold samplesV; rw [if_pos (by omega), hea, cx_toNat (by omega)]), ht⟩) (fun _ h9 => by cases h9) dX0_samples_47
        · refine lv_lload_n hx hb dX0_samples_21 rfl (lv_at hl 2 rfl) ?_
          refine lv_bipush (v := (8 : Int32)) hx hb dX0_samples_22 (by decide +kernel) ?_
          refine lv_lshl hx hb dX0_samples_24 rfl ?_
          refine lv_aload_n hx hb dX0_samples_25 rfl (lv_at hl 0 rfl) ?_
          refine va_get (D := D) (ci := 0) (v := .ref (x 3)) (C := RX0) (T := TX0) (N := 5) hx hb hts hin0 hown hK hP 0 rfl rfl 2 (by decide) hf16 (fun _ h9 => h9) rfl dX0_samples_26 ?_
          refine lv_iload_n hx hb dX0_samples_29 rfl (lv_at hl 1 rfl) ?_
          refine lv_bipush (v := (8 : Int32)) hx hb dX0_samples_30 (by decide +kernel) ?_
          refine cx_imul hx hb a8 8 dX0_samples_32 ?_
          refine lv_iload hx hb dX0_samples_33 (lv_at hl 3 rfl) ?_
          refine cx_iadd hx hb (a8 * 8) i9 dX0_samples_35 ?_
          refine cx_iald hx hb hK hP 3 2 rfl rfl (a8 * 8 + i9) (by omega) (by decide) dX0_samples_36 ?_
          refine lv_i2l hx hb dX0_samples_37 rfl ?_
          refine lv_lor hx hb dX0_samples_38 ?_
          refine lv_lstore_n (lv' := [(2, .long (((smp f2 a8 i9) <<< ((8 : Int32).toInt64 &&& 63)) ||| ((f2 (a8 * 8 + i9)).toInt64))), (0, .ref (x 0)), (1, .int (nI a8)), (4, .int (nI i9))]) hx hb dX0_samples_39 rfl hl (by decide) rfl (fun ls hl => ?_)
          refine lv_iinc (v := nI (i9 + 1)) (lv' := [(4, .int (nI (i9 + 1))), (2, .long (((smp f2 a8 i9) <<< ((8 : Int32).toInt64 &&& 63)) ||| ((f2 (a8 * 8 + i9)).toInt64))), (0, .ref (x 0)), (1, .int (nI a8))]) hx hb dX0_samples_40 hl (k := 3) rfl (by show nI i9 + 1 = nI (i9 + 1); exact nI_add i9 1) (by decide) rfl (fun ls hl => ?_)
          refine lv_goto (tgt := 14) hx hb dX0_samples_43 (by decide) ?_
          exact ih14 (i9 + 1) _ (by omega) (by omega) (lv_sub hl [2, 3, 1, 0] rfl)
    exact L14 _ 0 _ (Nat.lt_succ_self _) (Nat.zero_le _) (lv_sub hl [2, 3, 1, 0] rfl)
  · refine cx_if_ne (i := 0) (j := 0) (tgt := 9) hx hb (by decide +kernel) rfl dX0_samples_4 (by decide) (fun c_5 => absurd c_5 (by decide)) (fun c_5 => ?_)
    refine lv_lconst (v := (0 : Int64)) hx hb dX0_samples_7 (by decide +kernel) ?_
    exact W.lret (v := (0 : Int64)) hx hb hr (fun t ht hW => ⟨_, rfl, (by unfold samplesV; rw [if_neg (by omega)]), ht⟩) (fun _ h9 => by cases h9) dX0_samples_8
end
section
theorem dX0_clear_0 : decode cX0_clear 0 = .ok (.iconst 0, 1) := by decide +kernel
theorem dX0_clear_1 : decode cX0_clear 1 = .ok (.istore_n 1, 1) := by decide +kernel
theorem dX0_clear_2 : decode cX0_clear 2 = .ok (.iload_n 1, 1) := by decide +kernel
theorem dX0_clear_3 : decode cX0_clear 3 = .ok (.bipush 64, 2) := by decide +kernel
theorem dX0_clear_5 : decode cX0_clear 5 = .ok (.if_icmp .ge 16, 3) := by decide +kernel
theorem dX0_clear_8 : decode cX0_clear 8 = .ok (.aload_n 0, 1) := by decide +kernel
theorem dX0_clear_9 : decode cX0_clear 9 = .ok (.getfield 9, 3) := by decide +kernel
theorem dX0_clear_12 : decode cX0_clear 12 = .ok (.iload_n 1, 1) := by decide +kernel
theorem dX0_clear_13 : decode cX0_clear 13 = .ok (.iconst 0, 1) := by decide +kernel
theorem dX0_clear_14 : decode cX0_clear 14 = .ok (.iastore, 1) := by decide +kernel
theorem dX0_clear_15 : decode cX0_clear 15 = .ok (.iinc 1 1, 3) := by decide +kernel
theorem dX0_clear_18 : decode cX0_clear 18 = .ok (.goto (-16), 3) := by decide +kernel
theorem dX0_clear_21 : decode cX0_clear 21 = .ok (.return_, 1) := by decide +kernel
theorem dX0_keep_0 : decode cX0_keep 0 = .ok (.iconst 0, 1) := by decide +kernel
theorem dX0_keep_1 : decode cX0_keep 1 = .ok (.istore_n 1, 1) := by decide +kernel
theorem dX0_keep_2 : decode cX0_keep 2 = .ok (.iload_n 1, 1) := by decide +kernel
theorem dX0_keep_3 : decode cX0_keep 3 = .ok (.bipush 64, 2) := by decide +kernel
theorem dX0_keep_5 : decode cX0_keep 5 = .ok (.if_icmp .ge 21, 3) := by decide +kernel
theorem dX0_keep_8 : decode cX0_keep 8 = .ok (.aload_n 0, 1) := by decide +kernel
theorem dX0_keep_9 : decode cX0_keep 9 = .ok (.getfield 19, 3) := by decide +kernel
theorem dX0_keep_12 : decode cX0_keep 12 = .ok (.iload_n 1, 1) := by decide +kernel
theorem dX0_keep_13 : decode cX0_keep 13 = .ok (.aload_n 0, 1) := by decide +kernel
theorem dX0_keep_14 : decode cX0_keep 14 = .ok (.getfield 16, 3) := by decide +kernel
theorem dX0_keep_17 : decode cX0_keep 17 = .ok (.iload_n 1, 1) := by decide +kernel
theorem dX0_keep_18 : decode cX0_keep 18 = .ok (.iaload, 1) := by decide +kernel
theorem dX0_keep_19 : decode cX0_keep 19 = .ok (.iastore, 1) := by decide +kernel
theorem dX0_keep_20 : decode cX0_keep 20 = .ok (.iinc 1 1, 3) := by decide +kernel
theorem dX0_keep_23 : decode cX0_keep 23 = .ok (.goto (-21), 3) := by decide +kernel
theorem dX0_keep_26 : decode cX0_keep 26 = .ok (.return_, 1) := by decide +kernel
theorem dX0_forwardDown_0 : decode cX0_forwardDown 0 = .ok (.iconst 0, 1) := by decide +kernel
theorem dX0_forwardDown_1 : decode cX0_forwardDown 1 = .ok (.istore_n 2, 1) := by decide +kernel
theorem dX0_forwardDown_2 : decode cX0_forwardDown 2 = .ok (.iload_n 2, 1) := by decide +kernel
theorem dX0_forwardDown_3 : decode cX0_forwardDown 3 = .ok (.bipush 8, 2) := by decide +kernel
theorem dX0_forwardDown_5 : decode cX0_forwardDown 5 = .ok (.if_icmp .ge 72, 3) := by decide +kernel
theorem dX0_forwardDown_8 : decode cX0_forwardDown 8 = .ok (.lconst 0, 1) := by decide +kernel
theorem dX0_forwardDown_9 : decode cX0_forwardDown 9 = .ok (.lstore_n 3, 1) := by decide +kernel
theorem dX0_forwardDown_10 : decode cX0_forwardDown 10 = .ok (.iconst 0, 1) := by decide +kernel
theorem dX0_forwardDown_11 : decode cX0_forwardDown 11 = .ok (.istore 5, 2) := by decide +kernel
theorem dX0_forwardDown_13 : decode cX0_forwardDown 13 = .ok (.iload 5, 2) := by decide +kernel
theorem dX0_forwardDown_15 : decode cX0_forwardDown 15 = .ok (.bipush 8, 2) := by decide +kernel
theorem dX0_forwardDown_17 : decode cX0_forwardDown 17 = .ok (.if_icmp .ge 37, 3) := by decide +kernel
theorem dX0_forwardDown_20 : decode cX0_forwardDown 20 = .ok (.lload_n 3, 1) := by decide +kernel
theorem dX0_forwardDown_21 : decode cX0_forwardDown 21 = .ok (.iconst 1, 1) := by decide +kernel
theorem dX0_forwardDown_22 : decode cX0_forwardDown 22 = .ok (.iload_n 1, 1) := by decide +kernel
theorem dX0_forwardDown_23 : decode cX0_forwardDown 23 = .ok (.iload 5, 2) := by decide +kernel
theorem dX0_forwardDown_25 : decode cX0_forwardDown 25 = .ok (.invokestatic 96, 3) := by decide +kernel
theorem dX0_forwardDown_28 : decode cX0_forwardDown 28 = .ok (.aload_n 0, 1) := by decide +kernel
theorem dX0_forwardDown_29 : decode cX0_forwardDown 29 = .ok (.getfield 16, 3) := by decide +kernel
theorem dX0_forwardDown_32 : decode cX0_forwardDown 32 = .ok (.iload 5, 2) := by decide +kernel
theorem dX0_forwardDown_34 : decode cX0_forwardDown 34 = .ok (.bipush 8, 2) := by decide +kernel
theorem dX0_forwardDown_36 : decode cX0_forwardDown 36 = .ok (.imul, 1) := by decide +kernel
theorem dX0_forwardDown_37 : decode cX0_forwardDown 37 = .ok (.iload_n 2, 1) := by decide +kernel
theorem dX0_forwardDown_38 : decode cX0_forwardDown 38 = .ok (.iadd, 1) := by decide +kernel
theorem dX0_forwardDown_39 : decode cX0_forwardDown 39 = .ok (.iaload, 1) := by decide +kernel
theorem dX0_forwardDown_40 : decode cX0_forwardDown 40 = .ok (.sipush 128, 3) := by decide +kernel
theorem dX0_forwardDown_43 : decode cX0_forwardDown 43 = .ok (.isub, 1) := by decide +kernel
theorem dX0_forwardDown_44 : decode cX0_forwardDown 44 = .ok (.imul, 1) := by decide +kernel
theorem dX0_forwardDown_45 : decode cX0_forwardDown 45 = .ok (.i2l, 1) := by decide +kernel
theorem dX0_forwardDown_46 : decode cX0_forwardDown 46 = .ok (.ladd, 1) := by decide +kernel
theorem dX0_forwardDown_47 : decode cX0_forwardDown 47 = .ok (.lstore_n 3, 1) := by decide +kernel
theorem dX0_forwardDown_48 : decode cX0_forwardDown 48 = .ok (.iinc 5 1, 3) := by decide +kernel
theorem dX0_forwardDown_51 : decode cX0_forwardDown 51 = .ok (.goto (-38), 3) := by decide +kernel
theorem dX0_forwardDown_54 : decode cX0_forwardDown 54 = .ok (.aload_n 0, 1) := by decide +kernel
theorem dX0_forwardDown_55 : decode cX0_forwardDown 55 = .ok (.getfield 22, 3) := by decide +kernel
theorem dX0_forwardDown_58 : decode cX0_forwardDown 58 = .ok (.iload_n 1, 1) := by decide +kernel
theorem dX0_forwardDown_59 : decode cX0_forwardDown 59 = .ok (.bipush 8, 2) := by decide +kernel
theorem dX0_forwardDown_61 : decode cX0_forwardDown 61 = .ok (.imul, 1) := by decide +kernel
theorem dX0_forwardDown_62 : decode cX0_forwardDown 62 = .ok (.iload_n 2, 1) := by decide +kernel
theorem dX0_forwardDown_63 : decode cX0_forwardDown 63 = .ok (.iadd, 1) := by decide +kernel
theorem dX0_forwardDown_64 : decode cX0_forwardDown 64 = .ok (.lload_n 3, 1) := by decide +kernel
theorem dX0_forwardDown_65 : decode cX0_forwardDown 65 = .ok (.bipush 11, 2) := by decide +kernel
theorem dX0_forwardDown_67 : decode cX0_forwardDown 67 = .ok (.invokestatic 121, 3) := by decide +kernel
theorem dX0_forwardDown_70 : decode cX0_forwardDown 70 = .ok (.lastore, 1) := by decide +kernel
theorem dX0_forwardDown_71 : decode cX0_forwardDown 71 = .ok (.iinc 2 1, 3) := by decide +kernel
theorem dX0_forwardDown_74 : decode cX0_forwardDown 74 = .ok (.goto (-72), 3) := by decide +kernel
theorem dX0_forwardDown_77 : decode cX0_forwardDown 77 = .ok (.return_, 1) := by decide +kernel
theorem dX0_forward_0 : decode cX0_forward 0 = .ok (.iconst 0, 1) := by decide +kernel
theorem dX0_forward_1 : decode cX0_forward 1 = .ok (.istore_n 1, 1) := by decide +kernel
theorem dX0_forward_2 : decode cX0_forward 2 = .ok (.iload_n 1, 1) := by decide +kernel
theorem dX0_forward_3 : decode cX0_forward 3 = .ok (.bipush 8, 2) := by decide +kernel
theorem dX0_forward_5 : decode cX0_forward 5 = .ok (.if_icmp .ge 56, 3) := by decide +kernel
theorem dX0_forward_8 : decode cX0_forward 8 = .ok (.aload_n 0, 1) := by decide +kernel
theorem dX0_forward_9 : decode cX0_forward 9 = .ok (.iload_n 1, 1) := by decide +kernel
theorem dX0_forward_10 : decode cX0_forward 10 = .ok (.invokevirtual 72, 3) := by decide +kernel
theorem dX0_forward_13 : decode cX0_forward 13 = .ok (.iconst 0, 1) := by decide +kernel
theorem dX0_forward_14 : decode cX0_forward 14 = .ok (.istore_n 2, 1) := by decide +kernel
theorem dX0_forward_15 : decode cX0_forward 15 = .ok (.iload_n 2, 1) := by decide +kernel
theorem dX0_forward_16 : decode cX0_forward 16 = .ok (.bipush 8, 2) := by decide +kernel
theorem dX0_forward_18 : decode cX0_forward 18 = .ok (.if_icmp .ge 37, 3) := by decide +kernel
theorem dX0_forward_21 : decode cX0_forward 21 = .ok (.iload_n 1, 1) := by decide +kernel
theorem dX0_forward_22 : decode cX0_forward 22 = .ok (.bipush 8, 2) := by decide +kernel
theorem dX0_forward_24 : decode cX0_forward 24 = .ok (.imul, 1) := by decide +kernel
theorem dX0_forward_25 : decode cX0_forward 25 = .ok (.iload_n 2, 1) := by decide +kernel
theorem dX0_forward_26 : decode cX0_forward 26 = .ok (.iadd, 1) := by decide +kernel
theorem dX0_forward_27 : decode cX0_forward 27 = .ok (.istore_n 3, 1) := by decide +kernel
theorem dX0_forward_28 : decode cX0_forward 28 = .ok (.aload_n 0, 1) := by decide +kernel
theorem dX0_forward_29 : decode cX0_forward 29 = .ok (.getfield 9, 3) := by decide +kernel
theorem dX0_forward_32 : decode cX0_forward 32 = .ok (.iload_n 3, 1) := by decide +kernel
theorem dX0_forward_33 : decode cX0_forward 33 = .ok (.aload_n 0, 1) := by decide +kernel
theorem dX0_forward_34 : decode cX0_forward 34 = .ok (.iload_n 1, 1) := by decide +kernel
theorem dX0_forward_35 : decode cX0_forward 35 = .ok (.iload_n 2, 1) := by decide +kernel
theorem dX0_forward_36 : decode cX0_forward 36 = .ok (.invokevirtual 76, 3) := by decide +kernel
theorem dX0_forward_39 : decode cX0_forward 39 = .ok (.aload_n 0, 1) := by decide +kernel
theorem dX0_forward_40 : decode cX0_forward 40 = .ok (.getfield 13, 3) := by decide +kernel
theorem dX0_forward_43 : decode cX0_forward 43 = .ok (.iload_n 3, 1) := by decide +kernel
theorem dX0_forward_44 : decode cX0_forward 44 = .ok (.iaload, 1) := by decide +kernel
theorem dX0_forward_45 : decode cX0_forward 45 = .ok (.invokestatic 80, 3) := by decide +kernel
theorem dX0_forward_48 : decode cX0_forward 48 = .ok (.iastore, 1) := by decide +kernel
theorem dX0_forward_49 : decode cX0_forward 49 = .ok (.iinc 2 1, 3) := by decide +kernel
theorem dX0_forward_52 : decode cX0_forward 52 = .ok (.goto (-37), 3) := by decide +kernel
theorem dX0_forward_55 : decode cX0_forward 55 = .ok (.iinc 1 1, 3) := by decide +kernel
theorem dX0_forward_58 : decode cX0_forward 58 = .ok (.goto (-56), 3) := by decide +kernel
theorem dX0_forward_61 : decode cX0_forward 61 = .ok (.aload_n 0, 1) := by decide +kernel
theorem dX0_forward_62 : decode cX0_forward 62 = .ok (.invokevirtual 83, 3) := by decide +kernel
theorem dX0_forward_65 : decode cX0_forward 65 = .ok (.ireturn, 1) := by decide +kernel
set_option maxHeartbeats 4000000 in
set_option maxRecDepth 100000 in
/-- clear -/
theorem m_clear (l : Launch) (D : va_G) (x : Nat → Nat) (cd : Nat → ClassId) (f0 f1 f2 f3 : Nat → Int32) (g : Nat → Int64) (sz : Nat) : Met l yX0_clear wsX0_clear ({ frames := 0, cells := 0, slots := 0, locals := 0 } : Room) (va_Pc [.ref (x 0)] (crw D (cw x cd f0 f1 f2 f3 g) (cty cd) sz)) (va_Qv (fun (u : Nat → Int32) => ∀ j, j < 64 → u j = 0) (fun (u : Nat → Int32) (t : State) => crB D (cw x cd u f1 f2 f3 g) (cty cd) (va_A (cw x cd f0 f1 f2 f3 g) sz) t) (va_A (cw x cd f0 f1 f2 f3 g) sz)) 0 0 (va_A (cw x cd f0 f1 f2 f3 g) sz) := by
  refine Met.ofW (cc := cX0_clear) (maxL := 2) (ret := none) (by decide) rfl ?_
  intro p e s m args below meth c s₁ B hml hv
  obtain ⟨rfl, hsz, hP, hK, hD0, hTb⟩ := hv
  have hx := B.exec
  have hb := B.bytes
  have hr := B.returns
  have hts : ∀ w ∈ wA, w.before _ s = true := fun w h => atoms_spec (ws := wsX0_clear) B.pre w (List.mem_cons_of_mem _ h)
  have hown : s.vm.findClass RX0 = some m.cls := findClass_of_methodNamed B.named
  have hlocks := B.notSynchronized
  subst hsz
  have hD := hD0.self (sz := s.heap.size)
  generalize hAe : va_A (cw x cd f0 f1 f2 f3 g) s.heap.size = A at hD hTb ⊢
  have hA : ∀ q : Nat, s.heap.size ≤ q → A q := fun q h => by rw [← hAe]; exact Or.inr h
  have hS : va_S A s.heap s.heap [] := va_S.rf
  have hin0 := inA0
  have hf9 := (hts _ wm_28)
  have hl := lv_entry ([.ref (x 0)]) (n := 2) (Nat.le_of_ble_eq_true rfl)
  rw [lg_entry_eq]
  generalize (lg_sl ([.ref (x 0)]) ++ List.replicate (2 - (lg_sl ([.ref (x 0)])).length) Slot.unset).toArray = ls at hl ⊢
  have hl : lv_has ls 2 [(0, .ref (x 0))] := hl
  refine lv_iconst (v := (0 : Int32)) hx hb dX0_clear_0 (by decide +kernel) ?_
  refine lv_istore_n (lv' := [(1, .int (0 : Int32)), (0, .ref (x 0))]) hx hb dX0_clear_1 rfl hl (by decide) rfl (fun ls hl => ?_)
  have L2 : ∀ (n : Nat) (i9 : Nat) (w9 : Nat → Int32) (H : Heap) (locs : List Loc) (ls : Array Slot), (64 - i9) < n → (i9 ≤ 64) → (∀ j, j < i9 → w9 j = 0) → va_P D vwCl (cw x cd w9 f1 f2 f3 g) H → va_D A (cw x cd w9 f1 f2 f3 g) → va_S A s.heap H locs → lv_has ls 2 [(0, .ref (x 0)), (1, .int (nI i9))] → W p l e ((headSpec wsX0_clear ({ frames := 0, cells := 0, slots := 0, locals := 0 } : Room)).room) s m (([.ref (x 0)] : List Value).toArray) below meth c H locs 0 0 (MQ below (va_Qv (fun (u : Nat → Int32) => ∀ j, j < 64 → u j = 0) (fun (u : Nat → Int32) (t : State) => crB D (cw x cd u f1 f2 f3 g) (cty cd) A t) A) ([.ref (x 0)] : List Value).toArray s 0 0 A) (F0 m 2 ls []) := by
    intro n
    induction n with
    | zero =>
      intro i9 w9 H locs ls hn
      exact absurd hn (Nat.not_lt_zero _)
    | succ n ih2 =>
      intro i9 w9 H locs ls hn2 hi9 hw9 hP hD hS hl
      refine lv_iload_n hx hb dX0_clear_2 rfl (lv_at hl 1 rfl) ?_
      refine lv_bipush (v := (64 : Int32)) hx hb dX0_clear_3 (by decide +kernel) ?_
      refine cx_icmp_ge (i := ((i9 : Nat) : Int)) (j := 64) (tgt := 21) hx hb (nI_toInt (by omega)) (by decide +kernel) dX0_clear_5 (by decide) (fun c_1 => ?_) (fun c_1 => ?_)
      · exact W.vret hx hb hr (fun t ht hW => ⟨⟨w9, rfl, (by obtain rfl : i9 = 64 := (by omega); exact hw9), by rw [ht]; exact hP, va_K.moved hW.alike hK, hD⟩, hS.F ht⟩) hS.2.2 dX0_clear_21
      · refine lv_aload_n hx hb dX0_clear_8 rfl (lv_at hl 0 rfl) ?_
        refine va_get (D := D) (ci := 0) (v := .ref (x 1)) (C := RX0) (T := TX0) (N := 5) hx hb hts hin0 hown hK hP 0 rfl rfl 0 (by decide) hf9 (fun _ h9 => h9) rfl dX0_clear_9 ?_
        refine lv_iload_n hx hb dX0_clear_12 rfl (lv_at hl 1 rfl) ?_
        refine lv_iconst (v := (0 : Int32)) hx hb dX0_clear_13 (by decide +kernel) ?_
        refine cx_iast hx hb hK hP hD hS 1 0 rfl rfl i9 (by omega) (by decide) dX0_clear_14 (fun H locs hP hD hS => ?_)
        have hP : va_P D vwCl (cw x cd (upd w9 i9 (0 : Int32)) f1 f2 f3 g) H := hP
        have hD : va_D A (cw x cd (upd w9 i9 (0 : Int32)) f1 f2 f3 g) := hD
        refine lv_iinc (v := nI (i9 + 1)) (lv' := [(1, .int (nI (i9 + 1))), (0, .ref (x 0))]) hx hb dX0_clear_15 hl (k := 1) rfl (by show nI i9 + 1 = nI (i9 + 1); exact nI_add i9 1) (by decide) rfl (fun ls hl => ?_)
        refine lv_goto (tgt := 2) hx hb dX0_clear_18 (by decide) ?_
        exact ih2 (i9 + 1) (upd w9 i9 (0 : Int32)) _ _ _ (by omega) (by omega) (upd_step (P := fun (j : Nat) (v : Int32) => v = 0) hw9 rfl) hP hD hS (lv_sub hl [1, 0] rfl)
  exact L2 _ 0 f0 _ _ _ (Nat.lt_succ_self _) (Nat.zero_le _) (fun j hj => absurd hj (Nat.not_lt_zero j)) hP hD hS (lv_sub hl [1, 0] rfl)
set_option maxHeartbeats 4000000 in
set_option maxRecDepth 100000 in
/-- keep -/
theorem m_keep (l : Launch) (D : va_G) (x : Nat → Nat) (cd : Nat → ClassId) (f0 f1 f2 f3 : Nat → Int32) (g : Nat → Int64) (sz : Nat) : Met l yX0_keep wsX0_keep ({ frames := 0, cells := 0, slots := 0, locals := 0 } : Room) (va_Pc [.ref (x 0)] (crw D (cw x cd f0 f1 f2 f3 g) (cty cd) sz)) (va_Qv (fun (u : Nat → Int32) => ∀ j, j < 64 → u j = f2 j) (fun (u : Nat → Int32) (t : State) => crB D (cw x cd f0 f1 f2 u g) (cty cd) (va_A (cw x cd f0 f1 f2 f3 g) sz) t) (va_A (cw x cd f0 f1 f2 f3 g) sz)) 0 0 (va_A (cw x cd f0 f1 f2 f3 g) sz) := by
  refine Met.ofW (cc := cX0_keep) (maxL := 2) (ret := none) (by decide) rfl ?_
  intro p e s m args below meth c s₁ B hml hv
  obtain ⟨rfl, hsz, hP, hK, hD0, hTb⟩ := hv
  have hx := B.exec
  have hb := B.bytes
  have hr := B.returns
  have hts : ∀ w ∈ wA, w.before _ s = true := fun w h => atoms_spec (ws := wsX0_keep) B.pre w (List.mem_cons_of_mem _ h)
  have hown : s.vm.findClass RX0 = some m.cls := findClass_of_methodNamed B.named
  have hlocks := B.notSynchronized
  subst hsz
  have hD := hD0.self (sz := s.heap.size)
  generalize hAe : va_A (cw x cd f0 f1 f2 f3 g) s.heap.size = A at hD hTb ⊢
  have hA : ∀ q : Nat, s.heap.size ≤ q → A q := fun q h => by rw [← hAe]; exact Or.inr h
  have hS : va_S A s.heap s.heap [] := va_S.rf
  have hin0 := inA0
  have hf19 := (hts _ wm_31)
  have hf16 := (hts _ wm_30)
  have hl := lv_entry ([.ref (x 0)]) (n := 2) (Nat.le_of_ble_eq_true rfl)
  rw [lg_entry_eq]
  generalize (lg_sl ([.ref (x 0)]) ++ List.replicate (2 - (lg_sl ([.ref (x 0)])).length) Slot.unset).toArray = ls at hl ⊢
  have hl : lv_has ls 2 [(0, .ref (x 0))] := hl
  refine lv_iconst (v := (0 : Int32)) hx hb dX0_keep_0 (by decide +kernel) ?_
  refine lv_istore_n (lv' := [(1, .int (0 : Int32)), (0, .ref (x 0))]) hx hb dX0_keep_1 rfl hl (by decide) rfl (fun ls hl => ?_)
  have L2 : ∀ (n : Nat) (i9 : Nat) (w9 : Nat → Int32) (H : Heap) (locs : List Loc) (ls : Array Slot), (64 - i9) < n → (i9 ≤ 64) → (∀ j, j < i9 → w9 j = f2 j) → va_P D vwCl (cw x cd f0 f1 f2 w9 g) H → va_D A (cw x cd f0 f1 f2 w9 g) → va_S A s.heap H locs → lv_has ls 2 [(0, .ref (x 0)), (1, .int (nI i9))] → W p l e ((headSpec wsX0_keep ({ frames := 0, cells := 0, slots := 0, locals := 0 } : Room)).room) s m (([.ref (x 0)] : List Value).toArray) below meth c H locs 0 0 (MQ below (va_Qv (fun (u : Nat → Int32) => ∀ j, j < 64 → u j = f2 j) (fun (u : Nat → Int32) (t : State) => crB D (cw x cd f0 f1 f2 u g) (cty cd) A t) A) ([.ref (x 0)] : List Value).toArray s 0 0 A) (F0 m 2 ls []) := by
    intro n
    induction n with
    | zero =>
      intro i9 w9 H locs ls hn
      exact absurd hn (Nat.not_lt_zero _)
    | succ n ih2 =>
      intro i9 w9 H locs ls hn2 hi9 hw9 hP hD hS hl
      refine lv_iload_n hx hb dX0_keep_2 rfl (lv_at hl 1 rfl) ?_
      refine lv_bipush (v := (64 : Int32)) hx hb dX0_keep_3 (by decide +kernel) ?_
      refine cx_icmp_ge (i := ((i9 : Nat) : Int)) (j := 64) (tgt := 26) hx hb (nI_toInt (by omega)) (by decide +kernel) dX0_keep_5 (by decide) (fun c_1 => ?_) (fun c_1 => ?_)
      · exact W.vret hx hb hr (fun t ht hW => ⟨⟨w9, rfl, (by obtain rfl : i9 = 64 := (by omega); exact hw9), by rw [ht]; exact hP, va_K.moved hW.alike hK, hD⟩, hS.F ht⟩) hS.2.2 dX0_keep_26
      · refine lv_aload_n hx hb dX0_keep_8 rfl (lv_at hl 0 rfl) ?_
        refine va_get (D := D) (ci := 0) (v := .ref (x 4)) (C := RX0) (T := TX0) (N := 5) hx hb hts hin0 hown hK hP 0 rfl rfl 3 (by decide) hf19 (fun _ h9 => h9) rfl dX0_keep_9 ?_
        refine lv_iload_n hx hb dX0_keep_12 rfl (lv_at hl 1 rfl) ?_
        refine lv_aload_n hx hb dX0_keep_13 rfl (lv_at hl 0 rfl) ?_
        refine va_get (D := D) (ci := 0) (v := .ref (x 3)) (C := RX0) (T := TX0) (N := 5) hx hb hts hin0 hown hK hP 0 rfl rfl 2 (by decide) hf16 (fun _ h9 => h9) rfl dX0_keep_14 ?_
        refine lv_iload_n hx hb dX0_keep_17 rfl (lv_at hl 1 rfl) ?_
        refine cx_iald hx hb hK hP 3 2 rfl rfl i9 (by omega) (by decide) dX0_keep_18 ?_
        refine cx_iast hx hb hK hP hD hS 4 3 rfl rfl i9 (by omega) (by decide) dX0_keep_19 (fun H locs hP hD hS => ?_)
        have hP : va_P D vwCl (cw x cd f0 f1 f2 (upd w9 i9 (f2 i9)) g) H := hP
        have hD : va_D A (cw x cd f0 f1 f2 (upd w9 i9 (f2 i9)) g) := hD
        refine lv_iinc (v := nI (i9 + 1)) (lv' := [(1, .int (nI (i9 + 1))), (0, .ref (x 0))]) hx hb dX0_keep_20 hl (k := 1) rfl (by show nI i9 + 1 = nI (i9 + 1); exact nI_add i9 1) (by decide) rfl (fun ls hl => ?_)
        refine lv_goto (tgt := 2) hx hb dX0_keep_23 (by decide) ?_
        exact ih2 (i9 + 1) (upd w9 i9 (f2 i9)) _ _ _ (by omega) (by omega) (upd_step (P := fun (j : Nat) (v : Int32) => v = f2 j) hw9 rfl) hP hD hS (lv_sub hl [1, 0] rfl)
  exact L2 _ 0 f3 _ _ _ (Nat.lt_succ_self _) (Nat.zero_le _) (fun j hj => absurd hj (Nat.not_lt_zero j)) hP hD hS (lv_sub hl [1, 0] rfl)
set_option maxHeartbeats 4000000 in
set_option maxRecDepth 100000 in
/-- P(v, x) of FORWARD for one v -/
theorem m_forwardDown (l : Launch) (D : va_G) (x : Nat → Nat) (cd : Nat → ClassId) (f0 f1 f2 f3 : Nat → Int32) (g : Nat → Int64) (v9 : Nat) (h1 : v9 < 8) (sz : Nat) : Met l yX0_forwardDown wsX0_forwardDown ({ frames := 2, cells := 0, slots := 0, locals := 43 } : Room) (va_Pc [.ref (x 0), .int (nI v9)] (crw D (cw x cd f0 f1 f2 f3 g) (cty cd) sz)) (va_Qv (fun (u : Nat → Int64) => ∀ b, b < 8 → u (v9 * 8 + b) = fP f2 v9 b) (fun (u : Nat → Int64) (t : State) => crB D (cw x cd f0 f1 f2 f3 u) (cty cd) (va_A (cw x cd f0 f1 f2 f3 g) sz) t) (va_A (cw x cd f0 f1 f2 f3 g) sz)) 0 0 (va_A (cw x cd f0 f1 f2 f3 g) sz) := by
  refine Met.ofW (cc := cX0_forwardDown) (maxL := 6) (ret := none) (by decide) rfl ?_
  intro p e s m args below meth c s₁ B hml hv
  obtain ⟨rfl, hsz, hP, hK, hD0, hTb⟩ := hv
  have hx := B.exec
  have hb := B.bytes
  have hr := B.returns
  have hts : ∀ w ∈ wA, w.before _ s = true := fun w h => atoms_spec (ws := wsX0_forwardDown) B.pre w (List.mem_cons_of_mem _ h)
  have hown : s.vm.findClass RX0 = some m.cls := findClass_of_methodNamed B.named
  have hlocks := B.notSynchronized
  subst hsz
  have hD := hD0.self (sz := s.heap.size)
  generalize hAe : va_A (cw x cd f0 f1 f2 f3 g) s.heap.size = A at hD hTb ⊢
  have hA : ∀ q : Nat, s.heap.size ≤ q → A q := fun q h => by rw [← hAe]; exact Or.inr h
  have hS : va_S A s.heap s.heap [] := va_S.rf
  have hin0 := inA0
  have hf16 := (hts _ wm_30)
  have hf22 := (hts _ wm_32)
  have hl := lv_entry ([.ref (x 0), .int (nI v9)]) (n := 6) (Nat.le_of_ble_eq_true rfl)
  rw [lg_entry_eq]
  generalize (lg_sl ([.ref (x 0), .int (nI v9)]) ++ List.replicate (6 - (lg_sl ([.ref (x 0), .int (nI v9)])).length) Slot.unset).toArray = ls at hl ⊢
  have hl : lv_has ls 6 [(0, .ref (x 0)), (1, .int (nI v9))] := hl
  refine lv_iconst (v := (0 : Int32)) hx hb dX0_forwardDown_0 (by decide +kernel) ?_
  refine lv_istore_n (lv' := [(2, .int (0 : Int32)), (0, .ref (x 0)), (1, .int (nI v9))]) hx hb dX0_forwardDown_1 rfl hl (by decide) rfl (fun ls hl => ?_)
  have L2 : ∀ (n : Nat) (x9 : Nat) (w9 : Nat → Int64) (H : Heap) (locs : List Loc) (ls : Array Slot), (8 - x9) < n → (x9 ≤ 8) → (∀ b, b < x9 → w9 (v9 * 8 + b) = fP f2 v9 b) → va_P D vwCl (cw x cd f0 f1 f2 f3 w9) H → va_D A (cw x cd f0 f1 f2 f3 w9) → va_S A s.heap H locs → lv_has ls 6 [(0, .ref (x 0)), (1, .int (nI v9)), (2, .int (nI x9))] → W p l e ((headSpec wsX0_forwardDown ({ frames := 2, cells := 0, slots := 0, locals := 43 } : Room)).room) s m (([.ref (x 0), .int (nI v9)] : List Value).toArray) below meth c H locs 0 0 (MQ below (va_Qv (fun (u : Nat → Int64) => ∀ b, b < 8 → u (v9 * 8 + b) = fP f2 v9 b) (fun (u : Nat → Int64) (t : State) => crB D (cw x cd f0 f1 f2 f3 u) (cty cd) A t) A) ([.ref (x 0), .int (nI v9)] : List Value).toArray s 0 0 A) (F0 m 2 ls []) := by
    intro n
    induction n with
    | zero =>
      intro x9 w9 H locs ls hn
      exact absurd hn (Nat.not_lt_zero _)
    | succ n ih2 =>
      intro x9 w9 H locs ls hn2 hx9 hw9 hP hD hS hl
      refine lv_iload_n hx hb dX0_forwardDown_2 rfl (lv_at hl 2 rfl) ?_
      refine lv_bipush (v := (8 : Int32)) hx hb dX0_forwardDown_3 (by decide +kernel) ?_
      refine cx_icmp_ge (i := ((x9 : Nat) : Int)) (j := 8) (tgt := 77) hx hb (nI_toInt (by omega)) (by decide +kernel) dX0_forwardDown_5 (by decide) (fun c_1 => ?_) (fun c_1 => ?_)
      · exact W.vret hx hb hr (fun t ht hW => ⟨⟨w9, rfl, (by obtain rfl : x9 = 8 := (by omega); exact hw9), by rw [ht]; exact hP, va_K.moved hW.alike hK, hD⟩, hS.F ht⟩) hS.2.2 dX0_forwardDown_77
      · refine lv_lconst (v := (0 : Int64)) hx hb dX0_forwardDown_8 (by decide +kernel) ?_
        refine lv_lstore_n (lv' := [(3, .long (0 : Int64)), (0, .ref (x 0)), (1, .int (nI v9)), (2, .int (nI x9))]) hx hb dX0_forwardDown_9 rfl hl (by decide) rfl (fun ls hl => ?_)
        refine lv_iconst (v := (0 : Int32)) hx hb dX0_forwardDown_10 (by decide +kernel) ?_
        refine lv_istore (lv' := [(5, .int (0 : Int32)), (3, .long (0 : Int64)), (0, .ref (x 0)), (1, .int (nI v9)), (2, .int (nI x9))]) hx hb dX0_forwardDown_11 hl (by decide) rfl (fun ls hl => ?_)
        have L13 : ∀ (n : Nat) (y9 : Nat) (H : Heap) (locs : List Loc) (ls : Array Slot), (8 - y9) < n → (y9 ≤ 8) → va_P D vwCl (cw x cd f0 f1 f2 f3 w9) H → va_D A (cw x cd f0 f1 f2 f3 w9) → va_S A s.heap H locs → lv_has ls 6 [(0, .ref (x 0)), (1, .int (nI v9)), (2, .int (nI x9)), (3, .long (sumL (fun y9 => (wvN 1 v9 y9 * (f2 (y9 * 8 + x9) - 128)).toInt64) y9)), (5, .int (nI y9))] → W p l e ((headSpec wsX0_forwardDown ({ frames := 2, cells := 0, slots := 0, locals := 43 } : Room)).room) s m (([.ref (x 0), .int (nI v9)] : List Value).toArray) below meth c H locs 0 0 (MQ below (va_Qv (fun (u : Nat → Int64) => ∀ b, b < 8 → u (v9 * 8 + b) = fP f2 v9 b) (fun (u : Nat → Int64) (t : State) => crB D (cw x cd f0 f1 f2 f3 u) (cty cd) A t) A) ([.ref (x 0), .int (nI v9)] : List Value).toArray s 0 0 A) (F0 m 13 ls []) := by
          intro n
          induction n with
          | zero =>
            intro y9 H locs ls hn
            exact absurd hn (Nat.not_lt_zero _)
          | succ n ih13 =>
            intro y9 H locs ls hn13 hy9 hP hD hS hl
            refine lv_iload hx hb dX0_forwardDown_13 (lv_at hl 4 rfl) ?_
            refine lv_bipush (v := (8 : Int32)) hx hb dX0_forwardDown_15 (by decide +kernel) ?_
            refine cx_icmp_ge (i := ((y9 : Nat) : Int)) (j := 8) (tgt := 54) hx hb (nI_toInt (by omega)) (by decide +kernel) dX0_forwardDown_17 (by decide) (fun c_2 => ?_) (fun c_2 => ?_)
            · refine lv_aload_n hx hb dX0_forwardDown_54 rfl (lv_at hl 0 rfl) ?_
              refine va_get (D := D) (ci := 0) (v := .ref (x 5)) (C := RX0) (T := TX0) (N := 5) hx hb hts hin0 hown hK hP 0 rfl rfl 4 (by decide) hf22 (fun _ h9 => h9) rfl dX0_forwardDown_55 ?_
              refine lv_iload_n hx hb dX0_forwardDown_58 rfl (lv_at hl 1 rfl) ?_
              refine lv_bipush (v := (8 : Int32)) hx hb dX0_forwardDown_59 (by decide +kernel) ?_
              refine cx_imul hx hb v9 8 dX0_forwardDown_61 ?_
              refine lv_iload_n hx hb dX0_forwardDown_62 rfl (lv_at hl 2 rfl) ?_
              refine cx_iadd hx hb (v9 * 8) x9 dX0_forwardDown_63 ?_
              refine lv_lload_n hx hb dX0_forwardDown_64 rfl (lv_at hl 3 rfl) ?_
              refine lv_bipush (v := (11 : Int32)) hx hb dX0_forwardDown_65 (by decide +kernel) ?_
              refine vp_callSl (W.runS (As := [.long (sumL (fun y9 => (wvN 1 v9 y9 * (f2 (y9 * 8 + x9) - 128)).toInt64) y9), .int (11 : Int32)]) (rest := [.int (nI (v9 * 8 + x9)), .ref (x 5)]) ⟨hx, hb, hml, hown, hts⟩ (m_rounded l D (sumL (fun y9 => (wvN 1 v9 y9 * (f2 (y9 * 8 + x9) - 128)).toInt64) y9) (11 : Int32)) (va_cwS 2 hts (gw_S wm_62 wm_63 wm_12 wm_64) rfl rfl rfl (by decide +kernel) ⟨Nat.le_of_ble_eq_true rfl, Nat.le_of_ble_eq_true rfl⟩) ⟨cro_blind, fun U hU hW => ⟨rfl, cro_at (hP.sub (ws' := []) [] rfl) (hK.sub (tys' := []) [] rfl) hTb hS hU hW⟩⟩ rfl rfl hl.1 rfl (lv_room (Nat.le_of_ble_eq_true rfl)) dX0_forwardDown_67 ⟨Nat.le_of_ble_eq_true rfl, Nat.le_of_ble_eq_true rfl⟩) (fun r_3 hr_3 => ?_)
              rw [hr_3]
              refine cx_last hx hb hK hP hD hS 5 4 rfl rfl (v9 * 8 + x9) (by omega) (by decide) dX0_forwardDown_70 (fun H locs hP hD hS => ?_)
              have hP : va_P D vwCl (cw x cd f0 f1 f2 f3 (vp_updL w9 (v9 * 8 + x9) (rdL (sumL (fun y9 => (wvN 1 v9 y9 * (f2 (y9 * 8 + x9) - 128)).toInt64) y9) (11 : Int32)))) H := hP
              have hD : va_D A (cw x cd f0 f1 f2 f3 (vp_updL w9 (v9 * 8 + x9) (rdL (sumL (fun y9 => (wvN 1 v9 y9 * (f2 (y9 * 8 + x9) - 128)).toInt64) y9) (11 : Int32)))) := hD
              refine lv_iinc (v := nI (x9 + 1)) (lv' := [(2, .int (nI (x9 + 1))), (0, .ref (x 0)), (1, .int (nI v9)), (3, .long (sumL (fun y9 => (wvN 1 v9 y9 * (f2 (y9 * 8 + x9) - 128)).toInt64) y9)), (5, .int (nI y9))]) hx hb dX0_forwardDown_71 hl (k := 2) rfl (by show nI x9 + 1 = nI (x9 + 1); exact nI_add x9 1) (by decide) rfl (fun ls hl => ?_)
              refine lv_goto (tgt := 2) hx hb dX0_forwardDown_74 (by decide) ?_
              exact ih2 (x9 + 1) (vp_updL w9 (v9 * 8 + x9) (rdL (sumL (fun y9 => (wvN 1 v9 y9 * (f2 (y9 * 8 + x9) - 128)).toInt64) y9) (11 : Int32))) _ _ _ (by omega) (by omega) (by
                  intro b hb9
                  by_cases hq : x9 = b
                  · subst hq; obtain rfl : y9 = 8 := by omega
                    exact pk_uLs
                  · rw [pk_uLn (by omega)]; exact hw9 b (by omega)) hP hD hS (lv_sub hl [1, 2, 0] rfl)
            · refine lv_lload_n hx hb dX0_forwardDown_20 rfl (lv_at hl 3 rfl) ?_
              refine lv_iconst (v := (1 : Int32)) hx hb dX0_forwardDown_21 (by decide +kernel) ?_
              refine lv_iload_n hx hb dX0_forwardDown_22 rfl (lv_at hl 1 rfl) ?_
              refine lv_iload hx hb dX0_forwardDown_23 (lv_at hl 4 rfl) ?_
              refine vp_callSi (W.runS (As := [.int (1 : Int32), .int (nI v9), .int (nI y9)]) (rest := [.long (sumL (fun y9 => (wvN 1 v9 y9 * (f2 (y9 * 8 + x9) - 128)).toInt64) y9)]) ⟨hx, hb, hml, hown, hts⟩ (m_waveAt l D 1 v9 y9 (by omega) (by omega) (by omega)) (va_cwS 3 hts (gw_S wm_54 wm_55 wm_12 wm_56) rfl rfl rfl (by decide +kernel) ⟨Nat.le_of_ble_eq_true rfl, Nat.le_of_ble_eq_true rfl⟩) ⟨cro_blind, fun U hU hW => ⟨rfl, cro_at (hP.sub (ws' := []) [] rfl) (hK.sub (tys' := []) [] rfl) hTb hS hU hW⟩⟩ rfl rfl hl.1 rfl (lv_room (Nat.le_of_ble_eq_true rfl)) dX0_forwardDown_25 ⟨Nat.le_of_ble_eq_true rfl, Nat.le_of_ble_eq_true rfl⟩) (fun r_4 hr_4 => ?_)
              rw [hr_4]
              refine lv_aload_n hx hb dX0_forwardDown_28 rfl (lv_at hl 0 rfl) ?_
              refine va_get (D := D) (ci := 0) (v := .ref (x 3)) (C := RX0) (T := TX0) (N := 5) hx hb hts hin0 hown hK hP 0 rfl rfl 2 (by decide) hf16 (fun _ h9 => h9) rfl dX0_forwardDown_29 ?_
              refine lv_iload hx hb dX0_forwardDown_32 (lv_at hl 4 rfl) ?_
              refine lv_bipush (v := (8 : Int32)) hx hb dX0_forwardDown_34 (by decide +kernel) ?_
              refine cx_imul hx hb y9 8 dX0_forwardDown_36 ?_
              refine lv_iload_n hx hb dX0_forwardDown_37 rfl (lv_at hl 2 rfl) ?_
              refine cx_iadd hx hb (y9 * 8) x9 dX0_forwardDown_38 ?_
              refine cx_iald hx hb hK hP 3 2 rfl rfl (y9 * 8 + x9) (by omega) (by decide) dX0_forwardDown_39 ?_
              refine lv_sipush (v := (128 : Int32)) hx hb dX0_forwardDown_40 (by decide +kernel) ?_
              refine lv_isub hx hb dX0_forwardDown_43 ?_
              refine lv_imul hx hb dX0_forwardDown_44 ?_
              refine lv_i2l hx hb dX0_forwardDown_45 rfl ?_
              refine lv_ladd hx hb dX0_forwardDown_46 ?_
              refine lv_lstore_n (lv' := [(3, .long ((sumL (fun y9 => (wvN 1 v9 y9 * (f2 (y9 * 8 + x9) - 128)).toInt64) y9) + (((wvN 1 v9 y9) * ((f2 (y9 * 8 + x9)) - (128 : Int32))).toInt64))), (0, .ref (x 0)), (1, .int (nI v9)), (2, .int (nI x9)), (5, .int (nI y9))]) hx hb dX0_forwardDown_47 rfl hl (by decide) rfl (fun ls hl => ?_)
              refine lv_iinc (v := nI (y9 + 1)) (lv' := [(5, .int (nI (y9 + 1))), (3, .long ((sumL (fun y9 => (wvN 1 v9 y9 * (f2 (y9 * 8 + x9) - 128)).toInt64) y9) + (((wvN 1 v9 y9) * ((f2 (y9 * 8 + x9)) - (128 : Int32))).toInt64))), (0, .ref (x 0)), (1, .int (nI v9)), (2, .int (nI x9))]) hx hb dX0_forwardDown_48 hl (k := 4) rfl (by show nI y9 + 1 = nI (y9 + 1); exact nI_add y9 1) (by decide) rfl (fun ls hl => ?_)
              refine lv_goto (tgt := 13) hx hb dX0_forwardDown_51 (by decide) ?_
              exact ih13 (y9 + 1) _ _ _ (by omega) (by omega) hP hD hS (lv_sub hl [2, 3, 4, 1, 0] rfl)
        exact L13 _ 0 _ _ _ (Nat.lt_succ_self _) (Nat.zero_le _) hP hD hS (lv_sub hl [2, 3, 4, 1, 0] rfl)
  exact L2 _ 0 g _ _ _ (Nat.lt_succ_self _) (Nat.zero_le _) (fun b hb9 => absurd hb9 (Nat.not_lt_zero b)) hP hD hS (lv_sub hl [1, 2, 0] rfl)
set_option maxHeartbeats 4000000 in
set_option maxRecDepth 100000 in
/-- forward -/
theorem m_forward (l : Launch) (D : va_G) (x : Nat → Nat) (cd : Nat → ClassId) (f0 f1 f2 f3 : Nat → Int32) (g : Nat → Int64) (hst : ∀ j, j < 64 → 1 ≤ (f1 j).toInt ∧ (f1 j).toInt ≤ 255) (sz : Nat) : Met l yX0_forward wsX0_forward ({ frames := 3, cells := 0, slots := 0, locals := 68 } : Room) (va_Pc [.ref (x 0)] (crw D (cw x cd f0 f1 f2 f3 g) (cty cd) sz)) (va_Qi (fun (r : Int32) (u9 : (Nat → Int32) × (Nat → Int64)) => match u9 with | (u, g8) => r = cntI u 64 ∧ ∀ a b, a < 8 → b < 8 → u (a * 8 + b) = nearV (fE (fP f2) a b) (f1 (a * 8 + b))) (fun (u9 : (Nat → Int32) × (Nat → Int64)) (t : State) => match u9 with | (u, g8) => crB D (cw x cd u f1 f2 f3 g8) (cty cd) (va_A (cw x cd f0 f1 f2 f3 g) sz) t) (va_A (cw x cd f0 f1 f2 f3 g) sz)) 0 0 (va_A (cw x cd f0 f1 f2 f3 g) sz) := by
  refine Met.ofW (cc := cX0_forward) (maxL := 4) (ret := some .int) (by decide) rfl ?_
  intro p e s m args below meth c s₁ B hml hv
  obtain ⟨rfl, hsz, hP, hK, hD0, hTb⟩ := hv
  have hx := B.exec
  have hb := B.bytes
  have hr := B.returns
  have hts : ∀ w ∈ wA, w.before _ s = true := fun w h => atoms_spec (ws := wsX0_forward) B.pre w (List.mem_cons_of_mem _ h)
  have hown : s.vm.findClass RX0 = some m.cls := findClass_of_methodNamed B.named
  have hlocks := B.notSynchronized
  subst hsz
  have hD := hD0.self (sz := s.heap.size)
  generalize hAe : va_A (cw x cd f0 f1 f2 f3 g) s.heap.size = A at hD hTb ⊢
  have hA : ∀ q : Nat, s.heap.size ≤ q → A q := fun q h => by rw [← hAe]; exact Or.inr h
  have hS : va_S A s.heap s.heap [] := va_S.rf
  have hin0 := inA0
  have hf9 := (hts _ wm_28)
  have hf13 := (hts _ wm_29)
  have hl := lv_entry ([.ref (x 0)]) (n := 4) (Nat.le_of_ble_eq_true rfl)
  rw [lg_entry_eq]
  generalize (lg_sl ([.ref (x 0)]) ++ List.replicate (4 - (lg_sl ([.ref (x 0)])).length) Slot.unset).toArray = ls at hl ⊢
  have hl : lv_has ls 4 [(0, .ref (x 0))] := hl
  refine lv_iconst (v := (0 : Int32)) hx hb dX0_forward_0 (by decide +kernel) ?_
  refine lv_istore_n (lv' := [(1, .int (0 : Int32)), (0, .ref (x 0))]) hx hb dX0_forward_1 rfl hl (by decide) rfl (fun ls hl => ?_)
  have L2 : ∀ (n : Nat) (v9 : Nat) (w9 : Nat → Int32) (g9 : Nat → Int64) (H : Heap) (locs : List Loc) (ls : Array Slot), (8 - v9) < n → (v9 ≤ 8) → (∀ a b, a < v9 → b < 8 → w9 (a * 8 + b) = nearV (fE (fP f2) a b) (f1 (a * 8 + b))) → va_P D vwCl (cw x cd w9 f1 f2 f3 g9) H → va_D A (cw x cd w9 f1 f2 f3 g9) → va_S A s.heap H locs → lv_has ls 4 [(0, .ref (x 0)), (1, .int (nI v9))] → W p l e ((headSpec wsX0_forward ({ frames := 3, cells := 0, slots := 0, locals := 68 } : Room)).room) s m (([.ref (x 0)] : List Value).toArray) below meth c H locs 0 0 (MQ below (va_Qi (fun (r : Int32) (u9 : (Nat → Int32) × (Nat → Int64)) => match u9 with | (u, g8) => r = cntI u 64 ∧ ∀ a b, a < 8 → b < 8 → u (a * 8 + b) = nearV (fE (fP f2) a b) (f1 (a * 8 + b))) (fun (u9 : (Nat → Int32) × (Nat → Int64)) (t : State) => match u9 with | (u, g8) => crB D (cw x cd u f1 f2 f3 g8) (cty cd) A t) A) ([.ref (x 0)] : List Value).toArray s 0 0 A) (F0 m 2 ls []) := by
    intro n
    induction n with
    | zero =>
      intro v9 w9 g9 H locs ls hn
      exact absurd hn (Nat.not_lt_zero _)
    | succ n ih2 =>
      intro v9 w9 g9 H locs ls hn2 hv9 hw9 hP hD hS hl
      refine lv_iload_n hx hb dX0_forward_2 rfl (lv_at hl 1 rfl) ?_
      refine lv_bipush (v := (8 : Int32)) hx hb dX0_forward_3 (by decide +kernel) ?_
      refine cx_icmp_ge (i := ((v9 : Nat) : Int)) (j := 8) (tgt := 61) hx hb (nI_toInt (by omega)) (by decide +kernel) dX0_forward_5 (by decide) (fun c_1 => ?_) (fun c_1 => ?_)
      · refine lv_aload_n hx hb dX0_forward_61 rfl (lv_at hl 0 rfl) ?_
        refine vp_callSi (W.runV (As := []) (rest := []) ⟨hx, hb, hml, hown, hts⟩ (m_count l D x cd w9 f1 f2 f3 g9) (cwV 0 hts (gw_V wm_75 wm_77 wm_2 wm_12 wm_78) rfl rfl rfl (by decide +kernel) ⟨Nat.le_of_ble_eq_true rfl, Nat.le_of_ble_eq_true rfl⟩) ⟨cro_blind, va_recv hK hP (ci := 0) (q0 := 0) rfl rfl, fun U hU hW => ⟨rfl, cro_at hP hK hTb hS hU hW⟩⟩ rfl rfl hl.1 rfl (lv_room (Nat.le_of_ble_eq_true rfl)) dX0_forward_62 ⟨Nat.le_of_ble_eq_true rfl, Nat.le_of_ble_eq_true rfl⟩) (fun r_2 hr_2 => ?_)
        rw [hr_2]
        exact W.iret (v := cntI w9 64) hx hb hr (fun t ht hW => ⟨⟨cntI w9 64, (w9, g9), rfl, (by obtain rfl : v9 = 8 := (by omega); exact ⟨rfl, fun a b ha9 hb9 => hw9 a b ha9 hb9⟩), by rw [ht]; exact hP, va_K.moved hW.alike hK, hD⟩, hS.F ht⟩) hS.2.2 dX0_forward_65
      · refine lv_aload_n hx hb dX0_forward_8 rfl (lv_at hl 0 rfl) ?_
        refine lv_iload_n hx hb dX0_forward_9 rfl (lv_at hl 1 rfl) ?_
        have hFc := va_free (wc := cw x cd w9 f1 f2 f3 g9) hD hS hA [0, 1, 2, 3, 4, 5] rfl
        refine va_callv (va_runV (As := [.int (nI v9)]) (rest := []) ⟨hx, hb, hml, hown, hts⟩ (m_forwardDown l D x cd w9 f1 f2 f3 g9 v9 (by omega) _) (cwV 1 hts (gw_V wm_50 wm_52 wm_0 wm_12 wm_53) rfl rfl rfl (by decide +kernel) ⟨Nat.le_of_ble_eq_true rfl, Nat.le_of_ble_eq_true rfl⟩) ⟨crw_blind, va_recv hK hP (ci := 0) (q0 := 0) rfl rfl, fun U hU hW => ⟨rfl, crw_at hP hK hD hTb hS hFc hU hW⟩⟩ rfl rfl hl.1 rfl (lv_room (Nat.le_of_ble_eq_true rfl)) dX0_forward_10 ⟨Nat.le_of_ble_eq_true rfl, Nat.le_of_ble_eq_true rfl⟩) hS (fun q _ h => hFc q h) hFc (fun u9 t H1 locs ht hvm hw_4 hB hz1 hk1 hS => ?_)
        obtain ⟨g_5, rfl⟩ : ∃ z, z = u9 := ⟨_, rfl⟩
        obtain ⟨hP1, hK1, hD1⟩ := hB
        rw [ht] at hP1
        have hP : va_P D vwCl (cw x cd w9 f1 f2 f3 g_5) H1 := hP1
        have hD : va_D A (cw x cd w9 f1 f2 f3 g_5) := hD1.weaken (fun _ _ _ h => hFc _ h)
        try dsimp only at hw_4
        clear hFc hP1 hD1 hK1 hk1 hz1 ht hvm
        generalize H1 = H at hP hS ⊢
        refine lv_iconst (v := (0 : Int32)) hx hb dX0_forward_13 (by decide +kernel) ?_
        refine lv_istore_n (lv' := [(2, .int (0 : Int32)), (0, .ref (x 0)), (1, .int (nI v9))]) hx hb dX0_forward_14 rfl hl (by decide) rfl (fun ls hl => ?_)
        have L15 : ∀ (n : Nat) (u9 : Nat) (w9 : Nat → Int32) (H : Heap) (locs : List Loc) (ls : Array Slot), (8 - u9) < n → (u9 ≤ 8) → (∀ a b, (a < v9 ∨ (a = v9 ∧ b < u9)) → b < 8 → w9 (a * 8 + b) = nearV (fE (fP f2) a b) (f1 (a * 8 + b))) → va_P D vwCl (cw x cd w9 f1 f2 f3 g_5) H → va_D A (cw x cd w9 f1 f2 f3 g_5) → va_S A s.heap H locs → lv_has ls 4 [(0, .ref (x 0)), (1, .int (nI v9)), (2, .int (nI u9))] → W p l e ((headSpec wsX0_forward ({ frames := 3, cells := 0, slots := 0, locals := 68 } : Room)).room) s m (([.ref (x 0)] : List Value).toArray) below meth c H locs 0 0 (MQ below (va_Qi (fun (r : Int32) (u9 : (Nat → Int32) × (Nat → Int64)) => match u9 with | (u, g8) => r = cntI u 64 ∧ ∀ a b, a < 8 → b < 8 → u (a * 8 + b) = nearV (fE (fP f2) a b) (f1 (a * 8 + b))) (fun (u9 : (Nat → Int32) × (Nat → Int64)) (t : State) => match u9 with | (u, g8) => crB D (cw x cd u f1 f2 f3 g8) (cty cd) A t) A) ([.ref (x 0)] : List Value).toArray s 0 0 A) (F0 m 15 ls []) := by
          intro n
          induction n with
          | zero =>
            intro u9 w9 H locs ls hn
            exact absurd hn (Nat.not_lt_zero _)
          | succ n ih15 =>
            intro u9 w9 H locs ls hn15 hu9 hz9 hP hD hS hl
            refine lv_iload_n hx hb dX0_forward_15 rfl (lv_at hl 2 rfl) ?_
            refine lv_bipush (v := (8 : Int32)) hx hb dX0_forward_16 (by decide +kernel) ?_
            refine cx_icmp_ge (i := ((u9 : Nat) : Int)) (j := 8) (tgt := 55) hx hb (nI_toInt (by omega)) (by decide +kernel) dX0_forward_18 (by decide) (fun c_6 => ?_) (fun c_6 => ?_)
            · refine lv_iinc (v := nI (v9 + 1)) (lv' := [(1, .int (nI (v9 + 1))), (0, .ref (x 0)), (2, .int (nI u9))]) hx hb dX0_forward_55 hl (k := 1) rfl (by show nI v9 + 1 = nI (v9 + 1); exact nI_add v9 1) (by decide) rfl (fun ls hl => ?_)
              refine lv_goto (tgt := 2) hx hb dX0_forward_58 (by decide) ?_
              exact ih2 (v9 + 1) w9 g_5 _ _ _ (by omega) (by omega) (fun a b ha9 hb9 => hz9 a b (by omega) hb9) hP hD hS (lv_sub hl [1, 0] rfl)
            · refine lv_iload_n hx hb dX0_forward_21 rfl (lv_at hl 1 rfl) ?_
              refine lv_bipush (v := (8 : Int32)) hx hb dX0_forward_22 (by decide +kernel) ?_
              refine cx_imul hx hb v9 8 dX0_forward_24 ?_
              refine lv_iload_n hx hb dX0_forward_25 rfl (lv_at hl 2 rfl) ?_
              refine cx_iadd hx hb (v9 * 8) u9 dX0_forward_26 ?_
              refine lv_istore_n (lv' := [(3, .int (nI (v9 * 8 + u9))), (0, .ref (x 0)), (1, .int (nI v9)), (2, .int (nI u9))]) hx hb dX0_forward_27 rfl hl (by decide) rfl (fun ls hl => ?_)
              refine lv_aload_n hx hb dX0_forward_28 rfl (lv_at hl 1 rfl) ?_
              refine va_get (D := D) (ci := 0) (v := .ref (x 1)) (C := RX0) (T := TX0) (N := 5) hx hb hts hin0 hown hK hP 0 rfl rfl 0 (by decide) hf9 (fun _ h9 => h9) rfl dX0_forward_29 ?_
              refine lv_iload_n hx hb dX0_forward_32 rfl (lv_at hl 0 rfl) ?_
              refine lv_aload_n hx hb dX0_forward_33 rfl (lv_at hl 1 rfl) ?_
              refine lv_iload_n hx hb dX0_forward_34 rfl (lv_at hl 2 rfl) ?_
              refine lv_iload_n hx hb dX0_forward_35 rfl (lv_at hl 3 rfl) ?_
              refine vp_callSi (W.runV (As := [.int (nI v9), .int (nI u9)]) (rest := [.int (nI (v9 * 8 + u9)), .ref (x 1)]) ⟨hx, hb, hml, hown, hts⟩ (m_forwardAcross l D x cd w9 f1 f2 f3 g_5 v9 u9 (by omega) (by omega)) (cwV 2 hts (gw_V wm_65 wm_67 wm_1 wm_12 wm_68) rfl rfl rfl (by decide +kernel) ⟨Nat.le_of_ble_eq_true rfl, Nat.le_of_ble_eq_true rfl⟩) ⟨cro_blind, va_recv hK hP (ci := 0) (q0 := 0) rfl rfl, fun U hU hW => ⟨rfl, cro_at hP hK hTb hS hU hW⟩⟩ rfl rfl hl.1 rfl (lv_room (Nat.le_of_ble_eq_true rfl)) dX0_forward_36 ⟨Nat.le_of_ble_eq_true rfl, Nat.le_of_ble_eq_true rfl⟩) (fun r_7 hr_7 => ?_)
              rw [show fE (fun a9 b9 => g_5 (a9 * 8 + b9)) v9 u9 = fE (fP f2) v9 u9 from fE_congr (fun b hb9 => hw_4 b hb9)] at hr_7
              rw [hr_7]
              refine lv_aload_n hx hb dX0_forward_39 rfl (lv_at hl 1 rfl) ?_
              refine va_get (D := D) (ci := 0) (v := .ref (x 2)) (C := RX0) (T := TX0) (N := 5) hx hb hts hin0 hown hK hP 0 rfl rfl 1 (by decide) hf13 (fun _ h9 => h9) rfl dX0_forward_40 ?_
              refine lv_iload_n hx hb dX0_forward_43 rfl (lv_at hl 0 rfl) ?_
              refine cx_iald hx hb hK hP 2 1 rfl rfl (v9 * 8 + u9) (by omega) (by decide) dX0_forward_44 ?_
              refine vp_callSi (W.runS (As := [.int (fE (fP f2) v9 u9), .int (f1 (v9 * 8 + u9))]) (rest := [.int (nI (v9 * 8 + u9)), .ref (x 1)]) ⟨hx, hb, hml, hown, hts⟩ (m_nearest l D (fE (fP f2) v9 u9) (f1 (v9 * 8 + u9)) ((hst _ (by omega)).1) ((hst _ (by omega)).2)) (va_cwS 2 hts (gw_S wm_69 wm_70 wm_12 wm_71) rfl rfl rfl (by decide +kernel) ⟨Nat.le_of_ble_eq_true rfl, Nat.le_of_ble_eq_true rfl⟩) ⟨cro_blind, fun U hU hW => ⟨rfl, cro_at (hP.sub (ws' := []) [] rfl) (hK.sub (tys' := []) [] rfl) hTb hS hU hW⟩⟩ rfl rfl hl.1 rfl (lv_room (Nat.le_of_ble_eq_true rfl)) dX0_forward_45 ⟨Nat.le_of_ble_eq_true rfl, Nat.le_of_ble_eq_true rfl⟩) (fun r_8 hr_8 => ?_)
              rw [hr_8]
              refine cx_iast hx hb hK hP hD hS 1 0 rfl rfl (v9 * 8 + u9) (by omega) (by decide) dX0_forward_48 (fun H locs hP hD hS => ?_)
              have hP : va_P D vwCl (cw x cd (upd w9 (v9 * 8 + u9) (nearV (fE (fP f2) v9 u9) (f1 (v9 * 8 + u9)))) f1 f2 f3 g_5) H := hP
              have hD : va_D A (cw x cd (upd w9 (v9 * 8 + u9) (nearV (fE (fP f2) v9 u9) (f1 (v9 * 8 + u9)))) f1 f2 f3 g_5) := hD
              refine lv_iinc (v := nI (u9 + 1)) (lv' := [(2, .int (nI (u9 + 1))), (3, .int (nI (v9 * 8 + u9))), (0, .ref (x 0)), (1, .int (nI v9))]) hx hb dX0_forward_49 hl (k := 3) rfl (by show nI u9 + 1 = nI (u9 + 1); exact nI_add u9 1) (by decide) rfl (fun ls hl => ?_)
              refine lv_goto (tgt := 15) hx hb dX0_forward_52 (by decide) ?_
              exact ih15 (u9 + 1) (upd w9 (v9 * 8 + u9) (nearV (fE (fP f2) v9 u9) (f1 (v9 * 8 + u9)))) _ _ _ (by omega) (by omega) (by
                  intro a b ha9 hb9
                  by_cases hq : a * 8 + b = v9 * 8 + u9
                  · obtain rfl : v9 = a := by omega
                    obtain rfl : u9 = b := by omega
                    exact pk_us
                  · rw [pk_un hq]; exact hz9 a b (by omega) hb9) hP hD hS (lv_sub hl [2, 3, 0] rfl)
        exact L15 _ 0 w9 _ _ _ (Nat.lt_succ_self _) (Nat.zero_le _) (fun a b ha9 hb9 => hw9 a b (by omega) hb9) hP hD hS (lv_sub hl [1, 2, 0] rfl)
  exact L2 _ 0 f0 g _ _ _ (Nat.lt_succ_self _) (Nat.zero_le _) (fun a b ha9 => absurd ha9 (Nat.not_lt_zero a)) hP hD hS (lv_sub hl [1, 0] rfl)
end
section
theorem dX0_backDown_0 : decode cX0_backDown 0 = .ok (.lconst 0, 1) := by decide +kernel
theorem dX0_backDown_1 : decode cX0_backDown 1 = .ok (.lstore_n 3, 1) := by decide +kernel
theorem dX0_backDown_2 : decode cX0_backDown 2 = .ok (.iconst 0, 1) := by decide +kernel
theorem dX0_backDown_3 : decode cX0_backDown 3 = .ok (.istore 5, 2) := by decide +kernel
theorem dX0_backDown_5 : decode cX0_backDown 5 = .ok (.iload 5, 2) := by decide +kernel
theorem dX0_backDown_7 : decode cX0_backDown 7 = .ok (.iload_n 1, 1) := by decide +kernel
theorem dX0_backDown_8 : decode cX0_backDown 8 = .ok (.if_icmp .ge 117, 3) := by decide +kernel
theorem dX0_backDown_11 : decode cX0_backDown 11 = .ok (.iconst 0, 1) := by decide +kernel
theorem dX0_backDown_12 : decode cX0_backDown 12 = .ok (.istore 6, 2) := by decide +kernel
theorem dX0_backDown_14 : decode cX0_backDown 14 = .ok (.iload 6, 2) := by decide +kernel
theorem dX0_backDown_16 : decode cX0_backDown 16 = .ok (.iload_n 1, 1) := by decide +kernel
theorem dX0_backDown_17 : decode cX0_backDown 17 = .ok (.if_icmp .ge 102, 3) := by decide +kernel
theorem dX0_backDown_20 : decode cX0_backDown 20 = .ok (.lconst 0, 1) := by decide +kernel
theorem dX0_backDown_21 : decode cX0_backDown 21 = .ok (.lstore 7, 2) := by decide +kernel
theorem dX0_backDown_23 : decode cX0_backDown 23 = .ok (.iconst 0, 1) := by decide +kernel
theorem dX0_backDown_24 : decode cX0_backDown 24 = .ok (.istore 9, 2) := by decide +kernel
theorem dX0_backDown_26 : decode cX0_backDown 26 = .ok (.iload 9, 2) := by decide +kernel
theorem dX0_backDown_28 : decode cX0_backDown 28 = .ok (.iload_n 1, 1) := by decide +kernel
theorem dX0_backDown_29 : decode cX0_backDown 29 = .ok (.if_icmp .ge 50, 3) := by decide +kernel
theorem dX0_backDown_32 : decode cX0_backDown 32 = .ok (.iload 9, 2) := by decide +kernel
theorem dX0_backDown_34 : decode cX0_backDown 34 = .ok (.bipush 8, 2) := by decide +kernel
theorem dX0_backDown_36 : decode cX0_backDown 36 = .ok (.imul, 1) := by decide +kernel
theorem dX0_backDown_37 : decode cX0_backDown 37 = .ok (.iload 6, 2) := by decide +kernel
theorem dX0_backDown_39 : decode cX0_backDown 39 = .ok (.iadd, 1) := by decide +kernel
theorem dX0_backDown_40 : decode cX0_backDown 40 = .ok (.istore 10, 2) := by decide +kernel
theorem dX0_backDown_42 : decode cX0_backDown 42 = .ok (.lload 7, 2) := by decide +kernel
theorem dX0_backDown_44 : decode cX0_backDown 44 = .ok (.iload_n 2, 1) := by decide +kernel
theorem dX0_backDown_45 : decode cX0_backDown 45 = .ok (.iload 9, 2) := by decide +kernel
theorem dX0_backDown_47 : decode cX0_backDown 47 = .ok (.iload 5, 2) := by decide +kernel
theorem dX0_backDown_49 : decode cX0_backDown 49 = .ok (.invokestatic 96, 3) := by decide +kernel
theorem dX0_backDown_52 : decode cX0_backDown 52 = .ok (.i2l, 1) := by decide +kernel
theorem dX0_backDown_53 : decode cX0_backDown 53 = .ok (.aload_n 0, 1) := by decide +kernel
theorem dX0_backDown_54 : decode cX0_backDown 54 = .ok (.getfield 9, 3) := by decide +kernel
theorem dX0_backDown_57 : decode cX0_backDown 57 = .ok (.iload 10, 2) := by decide +kernel
theorem dX0_backDown_59 : decode cX0_backDown 59 = .ok (.iaload, 1) := by decide +kernel
theorem dX0_backDown_60 : decode cX0_backDown 60 = .ok (.aload_n 0, 1) := by decide +kernel
theorem dX0_backDown_61 : decode cX0_backDown 61 = .ok (.getfield 13, 3) := by decide +kernel
theorem dX0_backDown_64 : decode cX0_backDown 64 = .ok (.iload 10, 2) := by decide +kernel
theorem dX0_backDown_66 : decode cX0_backDown 66 = .ok (.iaload, 1) := by decide +kernel
theorem dX0_backDown_67 : decode cX0_backDown 67 = .ok (.imul, 1) := by decide +kernel
theorem dX0_backDown_68 : decode cX0_backDown 68 = .ok (.i2l, 1) := by decide +kernel
theorem dX0_backDown_69 : decode cX0_backDown 69 = .ok (.lmul, 1) := by decide +kernel
theorem dX0_backDown_70 : decode cX0_backDown 70 = .ok (.ladd, 1) := by decide +kernel
theorem dX0_backDown_71 : decode cX0_backDown 71 = .ok (.lstore 7, 2) := by decide +kernel
theorem dX0_backDown_73 : decode cX0_backDown 73 = .ok (.iinc 9 1, 3) := by decide +kernel
theorem dX0_backDown_76 : decode cX0_backDown 76 = .ok (.goto (-50), 3) := by decide +kernel
theorem dX0_backDown_79 : decode cX0_backDown 79 = .ok (.lload 7, 2) := by decide +kernel
theorem dX0_backDown_81 : decode cX0_backDown 81 = .ok (.bipush 11, 2) := by decide +kernel
theorem dX0_backDown_83 : decode cX0_backDown 83 = .ok (.invokestatic 121, 3) := by decide +kernel
theorem dX0_backDown_86 : decode cX0_backDown 86 = .ok (.lstore 9, 2) := by decide +kernel
theorem dX0_backDown_88 : decode cX0_backDown 88 = .ok (.aload_n 0, 1) := by decide +kernel
theorem dX0_backDown_89 : decode cX0_backDown 89 = .ok (.getfield 22, 3) := by decide +kernel
theorem dX0_backDown_92 : decode cX0_backDown 92 = .ok (.iload 5, 2) := by decide +kernel
theorem dX0_backDown_94 : decode cX0_backDown 94 = .ok (.bipush 8, 2) := by decide +kernel
theorem dX0_backDown_96 : decode cX0_backDown 96 = .ok (.imul, 1) := by decide +kernel
theorem dX0_backDown_97 : decode cX0_backDown 97 = .ok (.iload 6, 2) := by decide +kernel
theorem dX0_backDown_99 : decode cX0_backDown 99 = .ok (.iadd, 1) := by decide +kernel
theorem dX0_backDown_100 : decode cX0_backDown 100 = .ok (.lload 9, 2) := by decide +kernel
theorem dX0_backDown_102 : decode cX0_backDown 102 = .ok (.lastore, 1) := by decide +kernel
theorem dX0_backDown_103 : decode cX0_backDown 103 = .ok (.lload_n 3, 1) := by decide +kernel
theorem dX0_backDown_104 : decode cX0_backDown 104 = .ok (.lload 9, 2) := by decide +kernel
theorem dX0_backDown_106 : decode cX0_backDown 106 = .ok (.invokestatic 125, 3) := by decide +kernel
theorem dX0_backDown_109 : decode cX0_backDown 109 = .ok (.invokestatic 128, 3) := by decide +kernel
theorem dX0_backDown_112 : decode cX0_backDown 112 = .ok (.lstore_n 3, 1) := by decide +kernel
theorem dX0_backDown_113 : decode cX0_backDown 113 = .ok (.iinc 6 1, 3) := by decide +kernel
theorem dX0_backDown_116 : decode cX0_backDown 116 = .ok (.goto (-102), 3) := by decide +kernel
theorem dX0_backDown_119 : decode cX0_backDown 119 = .ok (.iinc 5 1, 3) := by decide +kernel
theorem dX0_backDown_122 : decode cX0_backDown 122 = .ok (.goto (-117), 3) := by decide +kernel
theorem dX0_backDown_125 : decode cX0_backDown 125 = .ok (.lload_n 3, 1) := by decide +kernel
theorem dX0_backDown_126 : decode cX0_backDown 126 = .ok (.lreturn, 1) := by decide +kernel
theorem dX0_backAcross_0 : decode cX0_backAcross 0 = .ok (.iconst 0, 1) := by decide +kernel
theorem dX0_backAcross_1 : decode cX0_backAcross 1 = .ok (.istore_n 3, 1) := by decide +kernel
theorem dX0_backAcross_2 : decode cX0_backAcross 2 = .ok (.iload_n 3, 1) := by decide +kernel
theorem dX0_backAcross_3 : decode cX0_backAcross 3 = .ok (.iload_n 1, 1) := by decide +kernel
theorem dX0_backAcross_4 : decode cX0_backAcross 4 = .ok (.if_icmp .ge 103, 3) := by decide +kernel
theorem dX0_backAcross_7 : decode cX0_backAcross 7 = .ok (.iconst 0, 1) := by decide +kernel
theorem dX0_backAcross_8 : decode cX0_backAcross 8 = .ok (.istore 4, 2) := by decide +kernel
theorem dX0_backAcross_10 : decode cX0_backAcross 10 = .ok (.iload 4, 2) := by decide +kernel
theorem dX0_backAcross_12 : decode cX0_backAcross 12 = .ok (.iload_n 1, 1) := by decide +kernel
theorem dX0_backAcross_13 : decode cX0_backAcross 13 = .ok (.if_icmp .ge 88, 3) := by decide +kernel
theorem dX0_backAcross_16 : decode cX0_backAcross 16 = .ok (.lconst 0, 1) := by decide +kernel
theorem dX0_backAcross_17 : decode cX0_backAcross 17 = .ok (.lstore 5, 2) := by decide +kernel
theorem dX0_backAcross_19 : decode cX0_backAcross 19 = .ok (.iconst 0, 1) := by decide +kernel
theorem dX0_backAcross_20 : decode cX0_backAcross 20 = .ok (.istore 7, 2) := by decide +kernel
theorem dX0_backAcross_22 : decode cX0_backAcross 22 = .ok (.iload 7, 2) := by decide +kernel
theorem dX0_backAcross_24 : decode cX0_backAcross 24 = .ok (.iload_n 1, 1) := by decide +kernel
theorem dX0_backAcross_25 : decode cX0_backAcross 25 = .ok (.if_icmp .ge 36, 3) := by decide +kernel
theorem dX0_backAcross_28 : decode cX0_backAcross 28 = .ok (.lload 5, 2) := by decide +kernel
theorem dX0_backAcross_30 : decode cX0_backAcross 30 = .ok (.iload_n 2, 1) := by decide +kernel
theorem dX0_backAcross_31 : decode cX0_backAcross 31 = .ok (.iload 7, 2) := by decide +kernel
theorem dX0_backAcross_33 : decode cX0_backAcross 33 = .ok (.iload 4, 2) := by decide +kernel
theorem dX0_backAcross_35 : decode cX0_backAcross 35 = .ok (.invokestatic 96, 3) := by decide +kernel
theorem dX0_backAcross_38 : decode cX0_backAcross 38 = .ok (.i2l, 1) := by decide +kernel
theorem dX0_backAcross_39 : decode cX0_backAcross 39 = .ok (.aload_n 0, 1) := by decide +kernel
theorem dX0_backAcross_40 : decode cX0_backAcross 40 = .ok (.getfield 22, 3) := by decide +kernel
theorem dX0_backAcross_43 : decode cX0_backAcross 43 = .ok (.iload_n 3, 1) := by decide +kernel
theorem dX0_backAcross_44 : decode cX0_backAcross 44 = .ok (.bipush 8, 2) := by decide +kernel
theorem dX0_backAcross_46 : decode cX0_backAcross 46 = .ok (.imul, 1) := by decide +kernel
theorem dX0_backAcross_47 : decode cX0_backAcross 47 = .ok (.iload 7, 2) := by decide +kernel
theorem dX0_backAcross_49 : decode cX0_backAcross 49 = .ok (.iadd, 1) := by decide +kernel
theorem dX0_backAcross_50 : decode cX0_backAcross 50 = .ok (.laload, 1) := by decide +kernel
theorem dX0_backAcross_51 : decode cX0_backAcross 51 = .ok (.lmul, 1) := by decide +kernel
theorem dX0_backAcross_52 : decode cX0_backAcross 52 = .ok (.ladd, 1) := by decide +kernel
theorem dX0_backAcross_53 : decode cX0_backAcross 53 = .ok (.lstore 5, 2) := by decide +kernel
theorem dX0_backAcross_55 : decode cX0_backAcross 55 = .ok (.iinc 7 1, 3) := by decide +kernel
theorem dX0_backAcross_58 : decode cX0_backAcross 58 = .ok (.goto (-36), 3) := by decide +kernel
theorem dX0_backAcross_61 : decode cX0_backAcross 61 = .ok (.lload 5, 2) := by decide +kernel
theorem dX0_backAcross_63 : decode cX0_backAcross 63 = .ok (.bipush 17, 2) := by decide +kernel
theorem dX0_backAcross_65 : decode cX0_backAcross 65 = .ok (.invokestatic 121, 3) := by decide +kernel
theorem dX0_backAcross_68 : decode cX0_backAcross 68 = .ok (.ldc2_w 132, 3) := by decide +kernel
theorem dX0_backAcross_71 : decode cX0_backAcross 71 = .ok (.ladd, 1) := by decide +kernel
theorem dX0_backAcross_72 : decode cX0_backAcross 72 = .ok (.lstore 7, 2) := by decide +kernel
theorem dX0_backAcross_74 : decode cX0_backAcross 74 = .ok (.aload_n 0, 1) := by decide +kernel
theorem dX0_backAcross_75 : decode cX0_backAcross 75 = .ok (.getfield 16, 3) := by decide +kernel
theorem dX0_backAcross_78 : decode cX0_backAcross 78 = .ok (.iload_n 3, 1) := by decide +kernel
theorem dX0_backAcross_79 : decode cX0_backAcross 79 = .ok (.bipush 8, 2) := by decide +kernel
theorem dX0_backAcross_81 : decode cX0_backAcross 81 = .ok (.imul, 1) := by decide +kernel
theorem dX0_backAcross_82 : decode cX0_backAcross 82 = .ok (.iload 4, 2) := by decide +kernel
theorem dX0_backAcross_84 : decode cX0_backAcross 84 = .ok (.iadd, 1) := by decide +kernel
theorem dX0_backAcross_85 : decode cX0_backAcross 85 = .ok (.lload 7, 2) := by decide +kernel
theorem dX0_backAcross_87 : decode cX0_backAcross 87 = .ok (.iconst 0, 1) := by decide +kernel
theorem dX0_backAcross_88 : decode cX0_backAcross 88 = .ok (.sipush 255, 3) := by decide +kernel
theorem dX0_backAcross_91 : decode cX0_backAcross 91 = .ok (.invokestatic 49, 3) := by decide +kernel
theorem dX0_backAcross_94 : decode cX0_backAcross 94 = .ok (.iastore, 1) := by decide +kernel
theorem dX0_backAcross_95 : decode cX0_backAcross 95 = .ok (.iinc 4 1, 3) := by decide +kernel
theorem dX0_backAcross_98 : decode cX0_backAcross 98 = .ok (.goto (-88), 3) := by decide +kernel
theorem dX0_backAcross_101 : decode cX0_backAcross 101 = .ok (.iinc 3 1, 3) := by decide +kernel
theorem dX0_backAcross_104 : decode cX0_backAcross 104 = .ok (.goto (-102), 3) := by decide +kernel
theorem dX0_backAcross_107 : decode cX0_backAcross 107 = .ok (.return_, 1) := by decide +kernel
set_option maxHeartbeats 4000000 in
set_option maxRecDepth 100000 in
/-- P of BACK and the greatest |P| -/
theorem m_backDown (l : Launch) (D : va_G) (x : Nat → Nat) (cd : Nat → ClassId) (f0 f1 f2 f3 : Nat → Int32) (g : Nat → Int64) (nn sp : Nat) (h1 : nn ≤ 8) (h2 : sp ≤ 8) (sz : Nat) : Met l yX0_backDown wsX0_backDown ({ frames := 2, cells := 0, slots := 0, locals := 43 } : Room) (va_Pc [.ref (x 0), .int (nI nn), .int (nI sp)] (crw D (cw x cd f0 f1 f2 f3 g) (cty cd) sz)) (va_Ql (fun (r : Int64) (u : Nat → Int64) => r = bG (bP sp nn f0 f1) nn nn ∧ ∀ a b, a < nn → b < nn → u (a * 8 + b) = bP sp nn f0 f1 a b) (fun (u : Nat → Int64) (t : State) => crB D (cw x cd f0 f1 f2 f3 u) (cty cd) (va_A (cw x cd f0 f1 f2 f3 g) sz) t) (va_A (cw x cd f0 f1 f2 f3 g) sz)) 0 0 (va_A (cw x cd f0 f1 f2 f3 g) sz) := by
  refine Met.ofW (cc := cX0_backDown) (maxL := 11) (ret := some .long) (by decide) rfl ?_
  intro p e s m args below meth c s₁ B hml hv
  obtain ⟨rfl, hsz, hP, hK, hD0, hTb⟩ := hv
  have hx := B.exec
  have hb := B.bytes
  have hr := B.returns
  have hts : ∀ w ∈ wA, w.before _ s = true := fun w h => atoms_spec (ws := wsX0_backDown) B.pre w (List.mem_cons_of_mem _ h)
  have hown : s.vm.findClass RX0 = some m.cls := findClass_of_methodNamed B.named
  have hlocks := B.notSynchronized
  subst hsz
  have hD := hD0.self (sz := s.heap.size)
  generalize hAe : va_A (cw x cd f0 f1 f2 f3 g) s.heap.size = A at hD hTb ⊢
  have hA : ∀ q : Nat, s.heap.size ≤ q → A q := fun q h => by rw [← hAe]; exact Or.inr h
  have hS : va_S A s.heap s.heap [] := va_S.rf
  have hin0 := inA0
  have hf9 := (hts _ wm_28)
  have hf13 := (hts _ wm_29)
  have hf22 := (hts _ wm_32)
  have hl := lv_entry ([.ref (x 0), .int (nI nn), .int (nI sp)]) (n := 11) (Nat.le_of_ble_eq_true rfl)
  rw [lg_entry_eq]
  generalize (lg_sl ([.ref (x 0), .int (nI nn), .int (nI sp)]) ++ List.replicate (11 - (lg_sl ([.ref (x 0), .int (nI nn), .int (nI sp)])).length) Slot.unset).toArray = ls at hl ⊢
  have hl : lv_has ls 11 [(0, .ref (x 0)), (1, .int (nI nn)), (2, .int (nI sp))] := hl
  refine lv_lconst (v := (0 : Int64)) hx hb dX0_backDown_0 (by decide +kernel) ?_
  refine lv_lstore_n (lv' := [(3, .long (0 : Int64)), (0, .ref (x 0)), (1, .int (nI nn)), (2, .int (nI sp))]) hx hb dX0_backDown_1 rfl hl (by decide) rfl (fun ls hl => ?_)
  refine lv_iconst (v := (0 : Int32)) hx hb dX0_backDown_2 (by decide +kernel) ?_
  refine lv_istore (lv' := [(5, .int (0 : Int32)), (3, .long (0 : Int64)), (0, .ref (x 0)), (1, .int (nI nn)), (2, .int (nI sp))]) hx hb dX0_backDown_3 hl (by decide) rfl (fun ls hl => ?_)
  have L5 : ∀ (n : Nat) (y9 : Nat) (w9 : Nat → Int64) (H : Heap) (locs : List Loc) (ls : Array Slot), (nn - y9) < n → (y9 ≤ nn) → (∀ a b, a < y9 → b < nn → w9 (a * 8 + b) = bP sp nn f0 f1 a b) → va_P D vwCl (cw x cd f0 f1 f2 f3 w9) H → va_D A (cw x cd f0 f1 f2 f3 w9) → va_S A s.heap H locs → lv_has ls 11 [(0, .ref (x 0)), (1, .int (nI nn)), (2, .int (nI sp)), (3, .long (bG (bP sp nn f0 f1) nn y9)), (5, .int (nI y9))] → W p l e ((headSpec wsX0_backDown ({ frames := 2, cells := 0, slots := 0, locals := 43 } : Room)).room) s m (([.ref (x 0), .int (nI nn), .int (nI sp)] : List Value).toArray) below meth c H locs 0 0 (MQ below (va_Ql (fun (r : Int64) (u : Nat → Int64) => r = bG (bP sp nn f0 f1) nn nn ∧ ∀ a b, a < nn → b < nn → u (a * 8 + b) = bP sp nn f0 f1 a b) (fun (u : Nat → Int64) (t : State) => crB D (cw x cd f0 f1 f2 f3 u) (cty cd) A t) A) ([.ref (x 0), .int (nI nn), .int (nI sp)] : List Value).toArray s 0 0 A) (F0 m 5 ls []) := by
    intro n
    induction n with
    | zero =>
      intro y9 w9 H locs ls hn
      exact absurd hn (Nat.not_lt_zero _)
    | succ n ih5 =>
      intro y9 w9 H locs ls hn5 hy9 hw9 hP hD hS hl
      refine lv_iload hx hb dX0_backDown_5 (lv_at hl 4 rfl) ?_
      refine lv_iload_n hx hb dX0_backDown_7 rfl (lv_at hl 1 rfl) ?_
      refine cx_icmp_ge (i := ((y9 : Nat) : Int)) (j := ((nn : Nat) : Int)) (tgt := 125) hx hb (nI_toInt (by omega)) (nI_toInt (by omega)) dX0_backDown_8 (by decide) (fun c_1 => ?_) (fun c_1 => ?_)
      · refine lv_lload_n hx hb dX0_backDown_125 rfl (lv_at hl 3 rfl) ?_
        exact W.lret (v := bG (bP sp nn f0 f1) nn y9) hx hb hr (fun t ht hW => ⟨⟨bG (bP sp nn f0 f1) nn y9, w9, rfl, (by obtain rfl : nn = y9 := (by omega); exact ⟨rfl, fun a b ha9 hb9 => hw9 a b ha9 hb9⟩), by rw [ht]; exact hP, va_K.moved hW.alike hK, hD⟩, hS.F ht⟩) hS.2.2 dX0_backDown_126
      · refine lv_iconst (v := (0 : Int32)) hx hb dX0_backDown_11 (by decide +kernel) ?_
        refine lv_istore (lv' := [(6, .int (0 : Int32)), (0, .ref (x 0)), (1, .int (nI nn)), (2, .int (nI sp)), (3, .long (bG (bP sp nn f0 f1) nn y9)), (5, .int (nI y9))]) hx hb dX0_backDown_12 hl (by decide) rfl (fun ls hl => ?_)
        have L14 : ∀ (n : Nat) (u9 : Nat) (w9 : Nat → Int64) (H : Heap) (locs : List Loc) (ls : Array Slot), (nn - u9) < n → (u9 ≤ nn) → (∀ a b, (a < y9 ∨ (a = y9 ∧ b < u9)) → b < nn → w9 (a * 8 + b) = bP sp nn f0 f1 a b) → va_P D vwCl (cw x cd f0 f1 f2 f3 w9) H → va_D A (cw x cd f0 f1 f2 f3 w9) → va_S A s.heap H locs → lv_has ls 11 [(0, .ref (x 0)), (1, .int (nI nn)), (2, .int (nI sp)), (3, .long (bG1 (bP sp nn f0 f1) y9 (bG (bP sp nn f0 f1) nn y9) u9)), (5, .int (nI y9)), (6, .int (nI u9))] → W p l e ((headSpec wsX0_backDown ({ frames := 2, cells := 0, slots := 0, locals := 43 } : Room)).room) s m (([.ref (x 0), .int (nI nn), .int (nI sp)] : List Value).toArray) below meth c H locs 0 0 (MQ below (va_Ql (fun (r : Int64) (u : Nat → Int64) => r = bG (bP sp nn f0 f1) nn nn ∧ ∀ a b, a < nn → b < nn → u (a * 8 + b) = bP sp nn f0 f1 a b) (fun (u : Nat → Int64) (t : State) => crB D (cw x cd f0 f1 f2 f3 u) (cty cd) A t) A) ([.ref (x 0), .int (nI nn), .int (nI sp)] : List Value).toArray s 0 0 A) (F0 m 14 ls []) := by
          intro n
          induction n with
          | zero =>
            intro u9 w9 H locs ls hn
            exact absurd hn (Nat.not_lt_zero _)
          | succ n ih14 =>
            intro u9 w9 H locs ls hn14 hu9 hv9 hP hD hS hl
            refine lv_iload hx hb dX0_backDown_14 (lv_at hl 5 rfl) ?_
            refine lv_iload_n hx hb dX0_backDown_16 rfl (lv_at hl 1 rfl) ?_
            refine cx_icmp_ge (i := ((u9 : Nat) : Int)) (j := ((nn : Nat) : Int)) (tgt := 119) hx hb (nI_toInt (by omega)) (nI_toInt (by omega)) dX0_backDown_17 (by decide) (fun c_2 => ?_) (fun c_2 => ?_)
            · refine lv_iinc (v := nI (y9 + 1)) (lv' := [(5, .int (nI (y9 + 1))), (0, .ref (x 0)), (1, .int (nI nn)), (2, .int (nI sp)), (3, .long (bG1 (bP sp nn f0 f1) y9 (bG (bP sp nn f0 f1) nn y9) u9)), (6, .int (nI u9))]) hx hb dX0_backDown_119 hl (k := 4) rfl (by show nI y9 + 1 = nI (y9 + 1); exact nI_add y9 1) (by decide) rfl (fun ls hl => ?_)
              refine lv_goto (tgt := 5) hx hb dX0_backDown_122 (by decide) ?_
              obtain rfl : nn = u9 := by omega
              exact ih5 (y9 + 1) w9 _ _ _ (by omega) (by omega) (fun a b ha9 hb9 => hv9 a b (by omega) hb9) hP hD hS (lv_sub hl [1, 2, 3, 4, 0] rfl)
            · refine lv_lconst (v := (0 : Int64)) hx hb dX0_backDown_20 (by decide +kernel) ?_
              refine lv_lstore (lv' := [(7, .long (0 : Int64)), (0, .ref (x 0)), (1, .int (nI nn)), (2, .int (nI sp)), (3, .long (bG1 (bP sp nn f0 f1) y9 (bG (bP sp nn f0 f1) nn y9) u9)), (5, .int (nI y9)), (6, .int (nI u9))]) hx hb dX0_backDown_21 hl (by decide) rfl (fun ls hl => ?_)
              refine lv_iconst (v := (0 : Int32)) hx hb dX0_backDown_23 (by decide +kernel) ?_
              refine lv_istore (lv' := [(9, .int (0 : Int32)), (7, .long (0 : Int64)), (0, .ref (x 0)), (1, .int (nI nn)), (2, .int (nI sp)), (3, .long (bG1 (bP sp nn f0 f1) y9 (bG (bP sp nn f0 f1) nn y9) u9)), (5, .int (nI y9)), (6, .int (nI u9))]) hx hb dX0_backDown_24 hl (by decide) rfl (fun ls hl => ?_)
              have L26 : ∀ (n : Nat) (v9 : Nat) (H : Heap) (locs : List Loc) (ls : Array Slot), (nn - v9) < n → (v9 ≤ nn) → va_P D vwCl (cw x cd f0 f1 f2 f3 w9) H → va_D A (cw x cd f0 f1 f2 f3 w9) → va_S A s.heap H locs → lv_has ls 11 [(0, .ref (x 0)), (1, .int (nI nn)), (2, .int (nI sp)), (3, .long (bG1 (bP sp nn f0 f1) y9 (bG (bP sp nn f0 f1) nn y9) u9)), (5, .int (nI y9)), (6, .int (nI u9)), (7, .long (sumL (fun v9 => (wvN sp v9 y9).toInt64 * (f0 (v9 * 8 + u9) * f1 (v9 * 8 + u9)).toInt64) v9)), (9, .int (nI v9))] → W p l e ((headSpec wsX0_backDown ({ frames := 2, cells := 0, slots := 0, locals := 43 } : Room)).room) s m (([.ref (x 0), .int (nI nn), .int (nI sp)] : List Value).toArray) below meth c H locs 0 0 (MQ below (va_Ql (fun (r : Int64) (u : Nat → Int64) => r = bG (bP sp nn f0 f1) nn nn ∧ ∀ a b, a < nn → b < nn → u (a * 8 + b) = bP sp nn f0 f1 a b) (fun (u : Nat → Int64) (t : State) => crB D (cw x cd f0 f1 f2 f3 u) (cty cd) A t) A) ([.ref (x 0), .int (nI nn), .int (nI sp)] : List Value).toArray s 0 0 A) (F0 m 26 ls []) := by
                intro n
                induction n with
                | zero =>
                  intro v9 H locs ls hn
                  exact absurd hn (Nat.not_lt_zero _)
                | succ n ih26 =>
                  intro v9 H locs ls hn26 hk9 hP hD hS hl
                  refine lv_iload hx hb dX0_backDown_26 (lv_at hl 7 rfl) ?_
                  refine lv_iload_n hx hb dX0_backDown_28 rfl (lv_at hl 1 rfl) ?_
                  refine cx_icmp_ge (i := ((v9 : Nat) : Int)) (j := ((nn : Nat) : Int)) (tgt := 79) hx hb (nI_toInt (by omega)) (nI_toInt (by omega)) dX0_backDown_29 (by decide) (fun c_3 => ?_) (fun c_3 => ?_)
                  · have hvn : v9 = nn := by omega
                    have e_4 : sumL (fun v9 => (wvN sp v9 y9).toInt64 * (f0 (v9 * 8 + u9) * f1 (v9 * 8 + u9)).toInt64) v9 = sumL (fun v9 => (wvN sp v9 y9).toInt64 * (f0 (v9 * 8 + u9) * f1 (v9 * 8 + u9)).toInt64) nn := by rw [hvn]
                    rw [e_4] at hl
                    refine lv_lload hx hb dX0_backDown_79 (lv_at hl 6 rfl) ?_
                    refine lv_bipush (v := (11 : Int32)) hx hb dX0_backDown_81 (by decide +kernel) ?_
                    refine vp_callSl (W.runS (As := [.long (sumL (fun v9 => (wvN sp v9 y9).toInt64 * (f0 (v9 * 8 + u9) * f1 (v9 * 8 + u9)).toInt64) nn), .int (11 : Int32)]) (rest := []) ⟨hx, hb, hml, hown, hts⟩ (m_rounded l D (sumL (fun v9 => (wvN sp v9 y9).toInt64 * (f0 (v9 * 8 + u9) * f1 (v9 * 8 + u9)).toInt64) nn) (11 : Int32)) (va_cwS 2 hts (gw_S wm_62 wm_63 wm_12 wm_64) rfl rfl rfl (by decide +kernel) ⟨Nat.le_of_ble_eq_true rfl, Nat.le_of_ble_eq_true rfl⟩) ⟨cro_blind, fun U hU hW => ⟨rfl, cro_at (hP.sub (ws' := []) [] rfl) (hK.sub (tys' := []) [] rfl) hTb hS hU hW⟩⟩ rfl rfl hl.1 rfl (lv_room (Nat.le_of_ble_eq_true rfl)) dX0_backDown_83 ⟨Nat.le_of_ble_eq_true rfl, Nat.le_of_ble_eq_true rfl⟩) (fun r_5 hr_5 => ?_)
                    rw [hr_5]
                    refine lv_lstore (lv' := [(9, .long (rdL (sumL (fun v9 => (wvN sp v9 y9).toInt64 * (f0 (v9 * 8 + u9) * f1 (v9 * 8 + u9)).toInt64) nn) (11 : Int32))), (0, .ref (x 0)), (1, .int (nI nn)), (2, .int (nI sp)), (3, .long (bG1 (bP sp nn f0 f1) y9 (bG (bP sp nn f0 f1) nn y9) u9)), (5, .int (nI y9)), (6, .int (nI u9)), (7, .long (sumL (fun v9 => (wvN sp v9 y9).toInt64 * (f0 (v9 * 8 + u9) * f1 (v9 * 8 + u9)).toInt64) nn))]) hx hb dX0_backDown_86 hl (by decide) rfl (fun ls hl => ?_)
                    refine lv_aload_n hx hb dX0_backDown_88 rfl (lv_at hl 1 rfl) ?_
                    refine va_get (D := D) (ci := 0) (v := .ref (x 5)) (C := RX0) (T := TX0) (N := 5) hx hb hts hin0 hown hK hP 0 rfl rfl 4 (by decide) hf22 (fun _ h9 => h9) rfl dX0_backDown_89 ?_
                    refine lv_iload hx hb dX0_backDown_92 (lv_at hl 5 rfl) ?_
                    refine lv_bipush (v := (8 : Int32)) hx hb dX0_backDown_94 (by decide +kernel) ?_
                    refine cx_imul hx hb y9 8 dX0_backDown_96 ?_
                    refine lv_iload hx hb dX0_backDown_97 (lv_at hl 6 rfl) ?_
                    refine cx_iadd hx hb (y9 * 8) u9 dX0_backDown_99 ?_
                    refine lv_lload hx hb dX0_backDown_100 (lv_at hl 0 rfl) ?_
                    refine cx_last hx hb hK hP hD hS 5 4 rfl rfl (y9 * 8 + u9) (by omega) (by decide) dX0_backDown_102 (fun H locs hP hD hS => ?_)
                    have hP : va_P D vwCl (cw x cd f0 f1 f2 f3 (vp_updL w9 (y9 * 8 + u9) (rdL (sumL (fun v9 => (wvN sp v9 y9).toInt64 * (f0 (v9 * 8 + u9) * f1 (v9 * 8 + u9)).toInt64) nn) (11 : Int32)))) H := hP
                    have hD : va_D A (cw x cd f0 f1 f2 f3 (vp_updL w9 (y9 * 8 + u9) (rdL (sumL (fun v9 => (wvN sp v9 y9).toInt64 * (f0 (v9 * 8 + u9) * f1 (v9 * 8 + u9)).toInt64) nn) (11 : Int32)))) := hD
                    refine lv_lload_n hx hb dX0_backDown_103 rfl (lv_at hl 4 rfl) ?_
                    refine lv_lload hx hb dX0_backDown_104 (lv_at hl 0 rfl) ?_
                    refine va_mabs_long hx hb (hml.trans hl.1.symm) hown (hts _ wm_254) (hts _ wm_255) (hts _ wm_19) (hts _ wm_256) (Nat.le_of_ble_eq_true rfl) (Nat.le_of_ble_eq_true rfl) (Nat.zero_le _) (Nat.zero_le _) dX0_backDown_106 ?_
                    refine va_mmax_long hx hb (hml.trans hl.1.symm) hown (hts _ wm_257) (hts _ wm_258) (hts _ wm_19) (hts _ wm_259) (Nat.le_of_ble_eq_true rfl) (Nat.le_of_ble_eq_true rfl) (Nat.zero_le _) (Nat.zero_le _) dX0_backDown_109 ?_
                    refine lv_lstore_n (lv' := [(3, .long (maxL (bG1 (bP sp nn f0 f1) y9 (bG (bP sp nn f0 f1) nn y9) u9) (absL (rdL (sumL (fun v9 => (wvN sp v9 y9).toInt64 * (f0 (v9 * 8 + u9) * f1 (v9 * 8 + u9)).toInt64) nn) (11 : Int32))))), (9, .long (rdL (sumL (fun v9 => (wvN sp v9 y9).toInt64 * (f0 (v9 * 8 + u9) * f1 (v9 * 8 + u9)).toInt64) nn) (11 : Int32))), (0, .ref (x 0)), (1, .int (nI nn)), (2, .int (nI sp)), (5, .int (nI y9)), (6, .int (nI u9)), (7, .long (sumL (fun v9 => (wvN sp v9 y9).toInt64 * (f0 (v9 * 8 + u9) * f1 (v9 * 8 + u9)).toInt64) nn))]) hx hb dX0_backDown_112 rfl hl (by decide) rfl (fun ls hl => ?_)
                    refine lv_iinc (v := nI (u9 + 1)) (lv' := [(6, .int (nI (u9 + 1))), (3, .long (maxL (bG1 (bP sp nn f0 f1) y9 (bG (bP sp nn f0 f1) nn y9) u9) (absL (rdL (sumL (fun v9 => (wvN sp v9 y9).toInt64 * (f0 (v9 * 8 + u9) * f1 (v9 * 8 + u9)).toInt64) nn) (11 : Int32))))), (9, .long (rdL (sumL (fun v9 => (wvN sp v9 y9).toInt64 * (f0 (v9 * 8 + u9) * f1 (v9 * 8 + u9)).toInt64) nn) (11 : Int32))), (0, .ref (x 0)), (1, .int (nI nn)), (2, .int (nI sp)), (5, .int (nI y9)), (7, .long (sumL (fun v9 => (wvN sp v9 y9).toInt64 * (f0 (v9 * 8 + u9) * f1 (v9 * 8 + u9)).toInt64) nn))]) hx hb dX0_backDown_113 hl (k := 6) rfl (by show nI u9 + 1 = nI (u9 + 1); exact nI_add u9 1) (by decide) rfl (fun ls hl => ?_)
                    refine lv_goto (tgt := 14) hx hb dX0_backDown_116 (by decide) ?_
                    exact ih14 (u9 + 1) (vp_updL w9 (y9 * 8 + u9) (rdL (sumL (fun v9 => (wvN sp v9 y9).toInt64 * (f0 (v9 * 8 + u9) * f1 (v9 * 8 + u9)).toInt64) nn) (11 : Int32))) _ _ _ (by omega) (by omega) (by
                        intro a b ha9 hb9
                        by_cases hq : a * 8 + b = y9 * 8 + u9
                        · obtain rfl : y9 = a := by omega
                          obtain rfl : u9 = b := by omega
                          exact pk_uLs
                        · rw [pk_uLn hq]; exact hv9 a b (by omega) hb9) hP hD hS (lv_sub hl [3, 4, 5, 1, 6, 0] rfl)
                  · refine lv_iload hx hb dX0_backDown_32 (lv_at hl 7 rfl) ?_
                    refine lv_bipush (v := (8 : Int32)) hx hb dX0_backDown_34 (by decide +kernel) ?_
                    refine cx_imul hx hb v9 8 dX0_backDown_36 ?_
                    refine lv_iload hx hb dX0_backDown_37 (lv_at hl 5 rfl) ?_
                    refine cx_iadd hx hb (v9 * 8) u9 dX0_backDown_39 ?_
                    refine lv_istore (lv' := [(10, .int (nI (v9 * 8 + u9))), (0, .ref (x 0)), (1, .int (nI nn)), (2, .int (nI sp)), (3, .long (bG1 (bP sp nn f0 f1) y9 (bG (bP sp nn f0 f1) nn y9) u9)), (5, .int (nI y9)), (6, .int (nI u9)), (7, .long (sumL (fun v9 => (wvN sp v9 y9).toInt64 * (f0 (v9 * 8 + u9) * f1 (v9 * 8 + u9)).toInt64) v9)), (9, .int (nI v9))]) hx hb dX0_backDown_40 hl (by decide) rfl (fun ls hl => ?_)
                    refine lv_lload hx hb dX0_backDown_42 (lv_at hl 7 rfl) ?_
                    refine lv_iload_n hx hb dX0_backDown_44 rfl (lv_at hl 3 rfl) ?_
                    refine lv_iload hx hb dX0_backDown_45 (lv_at hl 8 rfl) ?_
                    refine lv_iload hx hb dX0_backDown_47 (lv_at hl 5 rfl) ?_
                    refine vp_callSi (W.runS (As := [.int (nI sp), .int (nI v9), .int (nI y9)]) (rest := [.long (sumL (fun v9 => (wvN sp v9 y9).toInt64 * (f0 (v9 * 8 + u9) * f1 (v9 * 8 + u9)).toInt64) v9)]) ⟨hx, hb, hml, hown, hts⟩ (m_waveAt l D sp v9 y9 (by omega) (by omega) (by omega)) (va_cwS 3 hts (gw_S wm_54 wm_55 wm_12 wm_56) rfl rfl rfl (by decide +kernel) ⟨Nat.le_of_ble_eq_true rfl, Nat.le_of_ble_eq_true rfl⟩) ⟨cro_blind, fun U hU hW => ⟨rfl, cro_at (hP.sub (ws' := []) [] rfl) (hK.sub (tys' := []) [] rfl) hTb hS hU hW⟩⟩ rfl rfl hl.1 rfl (lv_room (Nat.le_of_ble_eq_true rfl)) dX0_backDown_49 ⟨Nat.le_of_ble_eq_true rfl, Nat.le_of_ble_eq_true rfl⟩) (fun r_6 hr_6 => ?_)
                    rw [hr_6]
                    refine lv_i2l hx hb dX0_backDown_52 rfl ?_
                    refine lv_aload_n hx hb dX0_backDown_53 rfl (lv_at hl 1 rfl) ?_
                    refine va_get (D := D) (ci := 0) (v := .ref (x 1)) (C := RX0) (T := TX0) (N := 5) hx hb hts hin0 hown hK hP 0 rfl rfl 0 (by decide) hf9 (fun _ h9 => h9) rfl dX0_backDown_54 ?_
                    refine lv_iload hx hb dX0_backDown_57 (lv_at hl 0 rfl) ?_
                    refine cx_iald hx hb hK hP 1 0 rfl rfl (v9 * 8 + u9) (by omega) (by decide) dX0_backDown_59 ?_
                    refine lv_aload_n hx hb dX0_backDown_60 rfl (lv_at hl 1 rfl) ?_
                    refine va_get (D := D) (ci := 0) (v := .ref (x 2)) (C := RX0) (T := TX0) (N := 5) hx hb hts hin0 hown hK hP 0 rfl rfl 1 (by decide) hf13 (fun _ h9 => h9) rfl dX0_backDown_61 ?_
                    refine lv_iload hx hb dX0_backDown_64 (lv_at hl 0 rfl) ?_
                    refine cx_iald hx hb hK hP 2 1 rfl rfl (v9 * 8 + u9) (by omega) (by decide) dX0_backDown_66 ?_
                    refine lv_imul hx hb dX0_backDown_67 ?_
                    refine lv_i2l hx hb dX0_backDown_68 rfl ?_
                    refine lv_lmul hx hb dX0_backDown_69 ?_
                    refine lv_ladd hx hb dX0_backDown_70 ?_
                    refine lv_lstore (lv' := [(7, .long ((sumL (fun v9 => (wvN sp v9 y9).toInt64 * (f0 (v9 * 8 + u9) * f1 (v9 * 8 + u9)).toInt64) v9) + (((wvN sp v9 y9).toInt64) * (((f0 (v9 * 8 + u9)) * (f1 (v9 * 8 + u9))).toInt64)))), (10, .int (nI (v9 * 8 + u9))), (0, .ref (x 0)), (1, .int (nI nn)), (2, .int (nI sp)), (3, .long (bG1 (bP sp nn f0 f1) y9 (bG (bP sp nn f0 f1) nn y9) u9)), (5, .int (nI y9)), (6, .int (nI u9)), (9, .int (nI v9))]) hx hb dX0_backDown_71 hl (by decide) rfl (fun ls hl => ?_)
                    refine lv_iinc (v := nI (v9 + 1)) (lv' := [(9, .int (nI (v9 + 1))), (7, .long ((sumL (fun v9 => (wvN sp v9 y9).toInt64 * (f0 (v9 * 8 + u9) * f1 (v9 * 8 + u9)).toInt64) v9) + (((wvN sp v9 y9).toInt64) * (((f0 (v9 * 8 + u9)) * (f1 (v9 * 8 + u9))).toInt64)))), (10, .int (nI (v9 * 8 + u9))), (0, .ref (x 0)), (1, .int (nI nn)), (2, .int (nI sp)), (3, .long (bG1 (bP sp nn f0 f1) y9 (bG (bP sp nn f0 f1) nn y9) u9)), (5, .int (nI y9)), (6, .int (nI u9))]) hx hb dX0_backDown_73 hl (k := 8) rfl (by show nI v9 + 1 = nI (v9 + 1); exact nI_add v9 1) (by decide) rfl (fun ls hl => ?_)
                    refine lv_goto (tgt := 26) hx hb dX0_backDown_76 (by decide) ?_
                    exact ih26 (v9 + 1) _ _ _ (by omega) (by omega) hP hD hS (lv_sub hl [3, 4, 5, 6, 7, 8, 1, 0] rfl)
              exact L26 _ 0 _ _ _ (Nat.lt_succ_self _) (Nat.zero_le _) hP hD hS (lv_sub hl [2, 3, 4, 5, 6, 7, 1, 0] rfl)
        exact L14 _ 0 w9 _ _ _ (Nat.lt_succ_self _) (Nat.zero_le _) (fun a b ha9 hb9 => hw9 a b (by omega) hb9) hP hD hS (lv_sub hl [1, 2, 3, 4, 5, 0] rfl)
  exact L5 _ 0 g _ _ _ (Nat.lt_succ_self _) (Nat.zero_le _) (fun a b ha9 => absurd ha9 (Nat.not_lt_zero a)) hP hD hS (lv_sub hl [2, 3, 4, 1, 0] rfl)
set_option maxHeartbeats 4000000 in
set_option maxRecDepth 100000 in
/-- S of BACK -/
theorem m_backAcross (l : Launch) (D : va_G) (x : Nat → Nat) (cd : Nat → ClassId) (f0 f1 f2 f3 : Nat → Int32) (g : Nat → Int64) (nn sp : Nat) (h1 : nn ≤ 8) (h2 : sp ≤ 8) (sz : Nat) : Met l yX0_backAcross wsX0_backAcross ({ frames := 2, cells := 0, slots := 0, locals := 43 } : Room) (va_Pc [.ref (x 0), .int (nI nn), .int (nI sp)] (crw D (cw x cd f0 f1 f2 f3 g) (cty cd) sz)) (va_Qv (fun (u : Nat → Int32) => ∀ a b, a < 8 → b < 8 → u (a * 8 + b) = if a < nn ∧ b < nn then bS sp nn (fun a9 b9 => g (a9 * 8 + b9)) a b else f2 (a * 8 + b)) (fun (u : Nat → Int32) (t : State) => crB D (cw x cd f0 f1 u f3 g) (cty cd) (va_A (cw x cd f0 f1 f2 f3 g) sz) t) (va_A (cw x cd f0 f1 f2 f3 g) sz)) 0 0 (va_A (cw x cd f0 f1 f2 f3 g) sz) := by
  refine Met.ofW (cc := cX0_backAcross) (maxL := 9) (ret := none) (by decide) rfl ?_
  intro p e s m args below meth c s₁ B hml hv
  obtain ⟨rfl, hsz, hP, hK, hD0, hTb⟩ := hv
  have hx := B.exec
  have hb := B.bytes
  have hr := B.returns
  have hts : ∀ w ∈ wA, w.before _ s = true := fun w h => atoms_spec (ws := wsX0_backAcross) B.pre w (List.mem_cons_of_mem _ h)
  have hown : s.vm.findClass RX0 = some m.cls := findClass_of_methodNamed B.named
  have hlocks := B.notSynchronized
  subst hsz
  have hD := hD0.self (sz := s.heap.size)
  generalize hAe : va_A (cw x cd f0 f1 f2 f3 g) s.heap.size = A at hD hTb ⊢
  have hA : ∀ q : Nat, s.heap.size ≤ q → A q := fun q h => by rw [← hAe]; exact Or.inr h
  have hS : va_S A s.heap s.heap [] := va_S.rf
  have hin0 := inA0
  have hf22 := (hts _ wm_32)
  have hf16 := (hts _ wm_30)
  have hl := lv_entry ([.ref (x 0), .int (nI nn), .int (nI sp)]) (n := 9) (Nat.le_of_ble_eq_true rfl)
  rw [lg_entry_eq]
  generalize (lg_sl ([.ref (x 0), .int (nI nn), .int (nI sp)]) ++ List.replicate (9 - (lg_sl ([.ref (x 0), .int (nI nn), .int (nI sp)])).length) Slot.unset).toArray = ls at hl ⊢
  have hl : lv_has ls 9 [(0, .ref (x 0)), (1, .int (nI nn)), (2, .int (nI sp))] := hl
  refine lv_iconst (v := (0 : Int32)) hx hb dX0_backAcross_0 (by decide +kernel) ?_
  refine lv_istore_n (lv' := [(3, .int (0 : Int32)), (0, .ref (x 0)), (1, .int (nI nn)), (2, .int (nI sp))]) hx hb dX0_backAcross_1 rfl hl (by decide) rfl (fun ls hl => ?_)
  have L2 : ∀ (n : Nat) (y9 : Nat) (w9 : Nat → Int32) (H : Heap) (locs : List Loc) (ls : Array Slot), (nn - y9) < n → (y9 ≤ nn) → (∀ a b, a < 8 → b < 8 → w9 (a * 8 + b) = if a < y9 ∧ b < nn then bS sp nn (fun a9 b9 => g (a9 * 8 + b9)) a b else f2 (a * 8 + b)) → va_P D vwCl (cw x cd f0 f1 w9 f3 g) H → va_D A (cw x cd f0 f1 w9 f3 g) → va_S A s.heap H locs → lv_has ls 9 [(0, .ref (x 0)), (1, .int (nI nn)), (2, .int (nI sp)), (3, .int (nI y9))] → W p l e ((headSpec wsX0_backAcross ({ frames := 2, cells := 0, slots := 0, locals := 43 } : Room)).room) s m (([.ref (x 0), .int (nI nn), .int (nI sp)] : List Value).toArray) below meth c H locs 0 0 (MQ below (va_Qv (fun (u : Nat → Int32) => ∀ a b, a < 8 → b < 8 → u (a * 8 + b) = if a < nn ∧ b < nn then bS sp nn (fun a9 b9 => g (a9 * 8 + b9)) a b else f2 (a * 8 + b)) (fun (u : Nat → Int32) (t : State) => crB D (cw x cd f0 f1 u f3 g) (cty cd) A t) A) ([.ref (x 0), .int (nI nn), .int (nI sp)] : List Value).toArray s 0 0 A) (F0 m 2 ls []) := by
    intro n
    induction n with
    | zero =>
      intro y9 w9 H locs ls hn
      exact absurd hn (Nat.not_lt_zero _)
    | succ n ih2 =>
      intro y9 w9 H locs ls hn2 hy9 hw9 hP hD hS hl
      refine lv_iload_n hx hb dX0_backAcross_2 rfl (lv_at hl 3 rfl) ?_
      refine lv_iload_n hx hb dX0_backAcross_3 rfl (lv_at hl 1 rfl) ?_
      refine cx_icmp_ge (i := ((y9 : Nat) : Int)) (j := ((nn : Nat) : Int)) (tgt := 107) hx hb (nI_toInt (by omega)) (nI_toInt (by omega)) dX0_backAcross_4 (by decide) (fun c_1 => ?_) (fun c_1 => ?_)
      · exact W.vret hx hb hr (fun t ht hW => ⟨⟨w9, rfl, (by obtain rfl : nn = y9 := (by omega); exact hw9), by rw [ht]; exact hP, va_K.moved hW.alike hK, hD⟩, hS.F ht⟩) hS.2.2 dX0_backAcross_107
      · refine lv_iconst (v := (0 : Int32)) hx hb dX0_backAcross_7 (by decide +kernel) ?_
        refine lv_istore (lv' := [(4, .int (0 : Int32)), (0, .ref (x 0)), (1, .int (nI nn)), (2, .int (nI sp)), (3, .int (nI y9))]) hx hb dX0_backAcross_8 hl (by decide) rfl (fun ls hl => ?_)
        have L10 : ∀ (n : Nat) (x9 : Nat) (w9 : Nat → Int32) (H : Heap) (locs : List Loc) (ls : Array Slot), (nn - x9) < n → (x9 ≤ nn) → (∀ a b, a < 8 → b < 8 → w9 (a * 8 + b) = if (a < y9 ∧ b < nn) ∨ (a = y9 ∧ b < x9) then bS sp nn (fun a9 b9 => g (a9 * 8 + b9)) a b else f2 (a * 8 + b)) → va_P D vwCl (cw x cd f0 f1 w9 f3 g) H → va_D A (cw x cd f0 f1 w9 f3 g) → va_S A s.heap H locs → lv_has ls 9 [(0, .ref (x 0)), (1, .int (nI nn)), (2, .int (nI sp)), (3, .int (nI y9)), (4, .int (nI x9))] → W p l e ((headSpec wsX0_backAcross ({ frames := 2, cells := 0, slots := 0, locals := 43 } : Room)).room) s m (([.ref (x 0), .int (nI nn), .int (nI sp)] : List Value).toArray) below meth c H locs 0 0 (MQ below (va_Qv (fun (u : Nat → Int32) => ∀ a b, a < 8 → b < 8 → u (a * 8 + b) = if a < nn ∧ b < nn then bS sp nn (fun a9 b9 => g (a9 * 8 + b9)) a b else f2 (a * 8 + b)) (fun (u : Nat → Int32) (t : State) => crB D (cw x cd f0 f1 u f3 g) (cty cd) A t) A) ([.ref (x 0), .int (nI nn), .int (nI sp)] : List Value).toArray s 0 0 A) (F0 m 10 ls []) := by
          intro n
          induction n with
          | zero =>
            intro x9 w9 H locs ls hn
            exact absurd hn (Nat.not_lt_zero _)
          | succ n ih10 =>
            intro x9 w9 H locs ls hn10 hx9 hv9 hP hD hS hl
            refine lv_iload hx hb dX0_backAcross_10 (lv_at hl 4 rfl) ?_
            refine lv_iload_n hx hb dX0_backAcross_12 rfl (lv_at hl 1 rfl) ?_
            refine cx_icmp_ge (i := ((x9 : Nat) : Int)) (j := ((nn : Nat) : Int)) (tgt := 101) hx hb (nI_toInt (by omega)) (nI_toInt (by omega)) dX0_backAcross_13 (by decide) (fun c_2 => ?_) (fun c_2 => ?_)
            · refine lv_iinc (v := nI (y9 + 1)) (lv' := [(3, .int (nI (y9 + 1))), (0, .ref (x 0)), (1, .int (nI nn)), (2, .int (nI sp)), (4, .int (nI x9))]) hx hb dX0_backAcross_101 hl (k := 3) rfl (by show nI y9 + 1 = nI (y9 + 1); exact nI_add y9 1) (by decide) rfl (fun ls hl => ?_)
              refine lv_goto (tgt := 2) hx hb dX0_backAcross_104 (by decide) ?_
              exact ih2 (y9 + 1) w9 _ _ _ (by omega) (by omega) (by
                  intro a b ha9 hb9
                  rw [hv9 a b ha9 hb9]
                  by_cases hq : (a < y9 ∧ b < nn) ∨ (a = y9 ∧ b < x9)
                  · rw [if_pos hq, if_pos (by omega)]
                  · rw [if_neg hq, if_neg (by omega)]) hP hD hS (lv_sub hl [1, 2, 3, 0] rfl)
            · refine lv_lconst (v := (0 : Int64)) hx hb dX0_backAcross_16 (by decide +kernel) ?_
              refine lv_lstore (lv' := [(5, .long (0 : Int64)), (0, .ref (x 0)), (1, .int (nI nn)), (2, .int (nI sp)), (3, .int (nI y9)), (4, .int (nI x9))]) hx hb dX0_backAcross_17 hl (by decide) rfl (fun ls hl => ?_)
              refine lv_iconst (v := (0 : Int32)) hx hb dX0_backAcross_19 (by decide +kernel) ?_
              refine lv_istore (lv' := [(7, .int (0 : Int32)), (5, .long (0 : Int64)), (0, .ref (x 0)), (1, .int (nI nn)), (2, .int (nI sp)), (3, .int (nI y9)), (4, .int (nI x9))]) hx hb dX0_backAcross_20 hl (by decide) rfl (fun ls hl => ?_)
              have L22 : ∀ (n : Nat) (u9 : Nat) (H : Heap) (locs : List Loc) (ls : Array Slot), (nn - u9) < n → (u9 ≤ nn) → va_P D vwCl (cw x cd f0 f1 w9 f3 g) H → va_D A (cw x cd f0 f1 w9 f3 g) → va_S A s.heap H locs → lv_has ls 9 [(0, .ref (x 0)), (1, .int (nI nn)), (2, .int (nI sp)), (3, .int (nI y9)), (4, .int (nI x9)), (5, .long (sumL (fun u9 => (wvN sp u9 x9).toInt64 * g (y9 * 8 + u9)) u9)), (7, .int (nI u9))] → W p l e ((headSpec wsX0_backAcross ({ frames := 2, cells := 0, slots := 0, locals := 43 } : Room)).room) s m (([.ref (x 0), .int (nI nn), .int (nI sp)] : List Value).toArray) below meth c H locs 0 0 (MQ below (va_Qv (fun (u : Nat → Int32) => ∀ a b, a < 8 → b < 8 → u (a * 8 + b) = if a < nn ∧ b < nn then bS sp nn (fun a9 b9 => g (a9 * 8 + b9)) a b else f2 (a * 8 + b)) (fun (u : Nat → Int32) (t : State) => crB D (cw x cd f0 f1 u f3 g) (cty cd) A t) A) ([.ref (x 0), .int (nI nn), .int (nI sp)] : List Value).toArray s 0 0 A) (F0 m 22 ls []) := by
                intro n
                induction n with
                | zero =>
                  intro u9 H locs ls hn
                  exact absurd hn (Nat.not_lt_zero _)
                | succ n ih22 =>
                  intro u9 H locs ls hn22 hu9 hP hD hS hl
                  refine lv_iload hx hb dX0_backAcross_22 (lv_at hl 6 rfl) ?_
                  refine lv_iload_n hx hb dX0_backAcross_24 rfl (lv_at hl 1 rfl) ?_
                  refine cx_icmp_ge (i := ((u9 : Nat) : Int)) (j := ((nn : Nat) : Int)) (tgt := 61) hx hb (nI_toInt (by omega)) (nI_toInt (by omega)) dX0_backAcross_25 (by decide) (fun c_3 => ?_) (fun c_3 => ?_)
                  · have hun : u9 = nn := by omega
                    have e_4 : sumL (fun u9 => (wvN sp u9 x9).toInt64 * g (y9 * 8 + u9)) u9 = sumL (fun u9 => (wvN sp u9 x9).toInt64 * g (y9 * 8 + u9)) nn := by rw [hun]
                    rw [e_4] at hl
                    refine lv_lload hx hb dX0_backAcross_61 (lv_at hl 5 rfl) ?_
                    refine lv_bipush (v := (17 : Int32)) hx hb dX0_backAcross_63 (by decide +kernel) ?_
                    refine vp_callSl (W.runS (As := [.long (sumL (fun u9 => (wvN sp u9 x9).toInt64 * g (y9 * 8 + u9)) nn), .int (17 : Int32)]) (rest := []) ⟨hx, hb, hml, hown, hts⟩ (m_rounded l D (sumL (fun u9 => (wvN sp u9 x9).toInt64 * g (y9 * 8 + u9)) nn) (17 : Int32)) (va_cwS 2 hts (gw_S wm_62 wm_63 wm_12 wm_64) rfl rfl rfl (by decide +kernel) ⟨Nat.le_of_ble_eq_true rfl, Nat.le_of_ble_eq_true rfl⟩) ⟨cro_blind, fun U hU hW => ⟨rfl, cro_at (hP.sub (ws' := []) [] rfl) (hK.sub (tys' := []) [] rfl) hTb hS hU hW⟩⟩ rfl rfl hl.1 rfl (lv_room (Nat.le_of_ble_eq_true rfl)) dX0_backAcross_65 ⟨Nat.le_of_ble_eq_true rfl, Nat.le_of_ble_eq_true rfl⟩) (fun r_5 hr_5 => ?_)
                    rw [hr_5]
                    refine lv_ldc2 (v := (128 : Int64)) hx hb hown (hts _ wm_264) dX0_backAcross_68 ?_
                    refine lv_ladd hx hb dX0_backAcross_71 ?_
                    refine lv_lstore (lv' := [(7, .long ((rdL (sumL (fun u9 => (wvN sp u9 x9).toInt64 * g (y9 * 8 + u9)) nn) (17 : Int32)) + (128 : Int64))), (0, .ref (x 0)), (1, .int (nI nn)), (2, .int (nI sp)), (3, .int (nI y9)), (4, .int (nI x9)), (5, .long (sumL (fun u9 => (wvN sp u9 x9).toInt64 * g (y9 * 8 + u9)) nn))]) hx hb dX0_backAcross_72 hl (by decide) rfl (fun ls hl => ?_)
                    refine lv_aload_n hx hb dX0_backAcross_74 rfl (lv_at hl 1 rfl) ?_
                    refine va_get (D := D) (ci := 0) (v := .ref (x 3)) (C := RX0) (T := TX0) (N := 5) hx hb hts hin0 hown hK hP 0 rfl rfl 2 (by decide) hf16 (fun _ h9 => h9) rfl dX0_backAcross_75 ?_
                    refine lv_iload_n hx hb dX0_backAcross_78 rfl (lv_at hl 4 rfl) ?_
                    refine lv_bipush (v := (8 : Int32)) hx hb dX0_backAcross_79 (by decide +kernel) ?_
                    refine cx_imul hx hb y9 8 dX0_backAcross_81 ?_
                    refine lv_iload hx hb dX0_backAcross_82 (lv_at hl 5 rfl) ?_
                    refine cx_iadd hx hb (y9 * 8) x9 dX0_backAcross_84 ?_
                    refine lv_lload hx hb dX0_backAcross_85 (lv_at hl 0 rfl) ?_
                    refine lv_iconst (v := (0 : Int32)) hx hb dX0_backAcross_87 (by decide +kernel) ?_
                    refine lv_sipush (v := (255 : Int32)) hx hb dX0_backAcross_88 (by decide +kernel) ?_
                    refine vp_callSi (W.runS (As := [.long ((rdL (sumL (fun u9 => (wvN sp u9 x9).toInt64 * g (y9 * 8 + u9)) nn) (17 : Int32)) + (128 : Int64)), .int (0 : Int32), .int (255 : Int32)]) (rest := [.int (nI (y9 * 8 + x9)), .ref (x 3)]) ⟨hx, hb, hml, hown, hts⟩ (m_clamped l D ((rdL (sumL (fun u9 => (wvN sp u9 x9).toInt64 * g (y9 * 8 + u9)) nn) (17 : Int32)) + (128 : Int64)) (0 : Int32) (255 : Int32)) (va_cwS 3 hts (gw_S wm_228 wm_229 wm_12 wm_230) rfl rfl rfl (by decide +kernel) ⟨Nat.le_of_ble_eq_true rfl, Nat.le_of_ble_eq_true rfl⟩) ⟨cro_blind, fun U hU hW => ⟨rfl, cro_at (hP.sub (ws' := []) [] rfl) (hK.sub (tys' := []) [] rfl) hTb hS hU hW⟩⟩ rfl rfl hl.1 rfl (lv_room (Nat.le_of_ble_eq_true rfl)) dX0_backAcross_91 ⟨Nat.le_of_ble_eq_true rfl, Nat.le_of_ble_eq_true rfl⟩) (fun r_6 hr_6 => ?_)
                    rw [hr_6]
                    refine cx_iast hx hb hK hP hD hS 3 2 rfl rfl (y9 * 8 + x9) (by omega) (by decide) dX0_backAcross_94 (fun H locs hP hD hS => ?_)
                    have hP : va_P D vwCl (cw x cd f0 f1 (upd w9 (y9 * 8 + x9) (clampV ((rdL (sumL (fun u9 => (wvN sp u9 x9).toInt64 * g (y9 * 8 + u9)) nn) (17 : Int32)) + (128 : Int64)) (0 : Int32) (255 : Int32))) f3 g) H := hP
                    have hD : va_D A (cw x cd f0 f1 (upd w9 (y9 * 8 + x9) (clampV ((rdL (sumL (fun u9 => (wvN sp u9 x9).toInt64 * g (y9 * 8 + u9)) nn) (17 : Int32)) + (128 : Int64)) (0 : Int32) (255 : Int32))) f3 g) := hD
                    refine lv_iinc (v := nI (x9 + 1)) (lv' := [(4, .int (nI (x9 + 1))), (7, .long ((rdL (sumL (fun u9 => (wvN sp u9 x9).toInt64 * g (y9 * 8 + u9)) nn) (17 : Int32)) + (128 : Int64))), (0, .ref (x 0)), (1, .int (nI nn)), (2, .int (nI sp)), (3, .int (nI y9)), (5, .long (sumL (fun u9 => (wvN sp u9 x9).toInt64 * g (y9 * 8 + u9)) nn))]) hx hb dX0_backAcross_95 hl (k := 5) rfl (by show nI x9 + 1 = nI (x9 + 1); exact nI_add x9 1) (by decide) rfl (fun ls hl => ?_)
                    refine lv_goto (tgt := 10) hx hb dX0_backAcross_98 (by decide) ?_
                    exact ih10 (x9 + 1) (upd w9 (y9 * 8 + x9) (clampV ((rdL (sumL (fun u9 => (wvN sp u9 x9).toInt64 * g (y9 * 8 + u9)) nn) (17 : Int32)) + (128 : Int64)) (0 : Int32) (255 : Int32))) _ _ _ (by omega) (by omega) (by
                        intro a b ha9 hb9
                        by_cases hq : a * 8 + b = y9 * 8 + x9
                        · obtain rfl : y9 = a := by omega
                          obtain rfl : x9 = b := by omega
                          rw [if_pos (by omega)]; exact pk_us
                        · rw [pk_un hq, hv9 a b ha9 hb9]
                          by_cases hz : (a < y9 ∧ b < nn) ∨ (a = y9 ∧ b < x9)
                          · rw [if_pos hz, if_pos (by omega)]
                          · rw [if_neg hz, if_neg (by omega)]) hP hD hS (lv_sub hl [2, 3, 4, 5, 0] rfl)
                  · refine lv_lload hx hb dX0_backAcross_28 (lv_at hl 5 rfl) ?_
                    refine lv_iload_n hx hb dX0_backAcross_30 rfl (lv_at hl 2 rfl) ?_
                    refine lv_iload hx hb dX0_backAcross_31 (lv_at hl 6 rfl) ?_
                    refine lv_iload hx hb dX0_backAcross_33 (lv_at hl 4 rfl) ?_
                    refine vp_callSi (W.runS (As := [.int (nI sp), .int (nI u9), .int (nI x9)]) (rest := [.long (sumL (fun u9 => (wvN sp u9 x9).toInt64 * g (y9 * 8 + u9)) u9)]) ⟨hx, hb, hml, hown, hts⟩ (m_waveAt l D sp u9 x9 (by omega) (by omega) (by omega)) (va_cwS 3 hts (gw_S wm_54 wm_55 wm_12 wm_56) rfl rfl rfl (by decide +kernel) ⟨Nat.le_of_ble_eq_true rfl, Nat.le_of_ble_eq_true rfl⟩) ⟨cro_blind, fun U hU hW => ⟨rfl, cro_at (hP.sub (ws' := []) [] rfl) (hK.sub (tys' := []) [] rfl) hTb hS hU hW⟩⟩ rfl rfl hl.1 rfl (lv_room (Nat.le_of_ble_eq_true rfl)) dX0_backAcross_35 ⟨Nat.le_of_ble_eq_true rfl, Nat.le_of_ble_eq_true rfl⟩) (fun r_7 hr_7 => ?_)
                    rw [hr_7]
                    refine lv_i2l hx hb dX0_backAcross_38 rfl ?_
                    refine lv_aload_n hx hb dX0_backAcross_39 rfl (lv_at hl 0 rfl) ?_
                    refine va_get (D := D) (ci := 0) (v := .ref (x 5)) (C := RX0) (T := TX0) (N := 5) hx hb hts hin0 hown hK hP 0 rfl rfl 4 (by decide) hf22 (fun _ h9 => h9) rfl dX0_backAcross_40 ?_
                    refine lv_iload_n hx hb dX0_backAcross_43 rfl (lv_at hl 3 rfl) ?_
                    refine lv_bipush (v := (8 : Int32)) hx hb dX0_backAcross_44 (by decide +kernel) ?_
                    refine cx_imul hx hb y9 8 dX0_backAcross_46 ?_
                    refine lv_iload hx hb dX0_backAcross_47 (lv_at hl 6 rfl) ?_
                    refine cx_iadd hx hb (y9 * 8) u9 dX0_backAcross_49 ?_
                    refine cx_lald hx hb hK hP 5 4 rfl rfl (y9 * 8 + u9) (by omega) (by decide) dX0_backAcross_50 ?_
                    refine lv_lmul hx hb dX0_backAcross_51 ?_
                    refine lv_ladd hx hb dX0_backAcross_52 ?_
                    refine lv_lstore (lv' := [(5, .long ((sumL (fun u9 => (wvN sp u9 x9).toInt64 * g (y9 * 8 + u9)) u9) + (((wvN sp u9 x9).toInt64) * (g (y9 * 8 + u9))))), (0, .ref (x 0)), (1, .int (nI nn)), (2, .int (nI sp)), (3, .int (nI y9)), (4, .int (nI x9)), (7, .int (nI u9))]) hx hb dX0_backAcross_53 hl (by decide) rfl (fun ls hl => ?_)
                    refine lv_iinc (v := nI (u9 + 1)) (lv' := [(7, .int (nI (u9 + 1))), (5, .long ((sumL (fun u9 => (wvN sp u9 x9).toInt64 * g (y9 * 8 + u9)) u9) + (((wvN sp u9 x9).toInt64) * (g (y9 * 8 + u9))))), (0, .ref (x 0)), (1, .int (nI nn)), (2, .int (nI sp)), (3, .int (nI y9)), (4, .int (nI x9))]) hx hb dX0_backAcross_55 hl (k := 6) rfl (by show nI u9 + 1 = nI (u9 + 1); exact nI_add u9 1) (by decide) rfl (fun ls hl => ?_)
                    refine lv_goto (tgt := 22) hx hb dX0_backAcross_58 (by decide) ?_
                    exact ih22 (u9 + 1) _ _ _ (by omega) (by omega) hP hD hS (lv_sub hl [2, 3, 4, 5, 6, 1, 0] rfl)
              exact L22 _ 0 _ _ _ (Nat.lt_succ_self _) (Nat.zero_le _) hP hD hS (lv_sub hl [2, 3, 4, 5, 6, 1, 0] rfl)
        exact L10 _ 0 w9 _ _ _ (Nat.lt_succ_self _) (Nat.zero_le _) (by
      intro a b ha9 hb9
      rw [hw9 a b ha9 hb9]
      by_cases hq : a < y9 ∧ b < nn
      · rw [if_pos hq, if_pos (by omega)]
      · rw [if_neg hq, if_neg (by omega)]) hP hD hS (lv_sub hl [1, 2, 3, 4, 0] rfl)
  exact L2 _ 0 f2 _ _ _ (Nat.lt_succ_self _) (Nat.zero_le _) (fun a b _ _ => by rw [if_neg (by omega)]) hP hD hS (lv_sub hl [1, 2, 3, 0] rfl)
end
section
theorem dX0_put_0 : decode cX0_put 0 = .ok (.iload_n 1, 1) := by decide +kernel
theorem dX0_put_1 : decode cX0_put 1 = .ok (.invokestatic 26, 3) := by decide +kernel
theorem dX0_put_4 : decode cX0_put 4 = .ok (.ifCond .ne 13, 3) := by decide +kernel
theorem dX0_put_7 : decode cX0_put 7 = .ok (.new 30, 3) := by decide +kernel
theorem dX0_put_10 : decode cX0_put 10 = .ok (.dup, 1) := by decide +kernel
theorem dX0_put_11 : decode cX0_put 11 = .ok (.ldc 32, 2) := by decide +kernel
theorem dX0_put_13 : decode cX0_put 13 = .ok (.invokespecial 34, 3) := by decide +kernel
theorem dX0_put_16 : decode cX0_put 16 = .ok (.athrow, 1) := by decide +kernel
theorem dX0_put_17 : decode cX0_put 17 = .ok (.iload_n 2, 1) := by decide +kernel
theorem dX0_put_18 : decode cX0_put 18 = .ok (.sipush (-32768), 3) := by decide +kernel
theorem dX0_put_21 : decode cX0_put 21 = .ok (.if_icmp .lt 10, 3) := by decide +kernel
theorem dX0_put_24 : decode cX0_put 24 = .ok (.iload_n 2, 1) := by decide +kernel
theorem dX0_put_25 : decode cX0_put 25 = .ok (.sipush 32767, 3) := by decide +kernel
theorem dX0_put_28 : decode cX0_put 28 = .ok (.if_icmp .le 13, 3) := by decide +kernel
theorem dX0_put_31 : decode cX0_put 31 = .ok (.new 37, 3) := by decide +kernel
theorem dX0_put_34 : decode cX0_put 34 = .ok (.dup, 1) := by decide +kernel
theorem dX0_put_35 : decode cX0_put 35 = .ok (.ldc 39, 2) := by decide +kernel
theorem dX0_put_37 : decode cX0_put 37 = .ok (.invokespecial 41, 3) := by decide +kernel
theorem dX0_put_40 : decode cX0_put 40 = .ok (.athrow, 1) := by decide +kernel
theorem dX0_put_41 : decode cX0_put 41 = .ok (.aload_n 0, 1) := by decide +kernel
theorem dX0_put_42 : decode cX0_put 42 = .ok (.getfield 9, 3) := by decide +kernel
theorem dX0_put_45 : decode cX0_put 45 = .ok (.getstatic 42, 3) := by decide +kernel
theorem dX0_put_48 : decode cX0_put 48 = .ok (.iload_n 1, 1) := by decide +kernel
theorem dX0_put_49 : decode cX0_put 49 = .ok (.iaload, 1) := by decide +kernel
theorem dX0_put_50 : decode cX0_put 50 = .ok (.iload_n 2, 1) := by decide +kernel
theorem dX0_put_51 : decode cX0_put 51 = .ok (.iastore, 1) := by decide +kernel
theorem dX0_put_52 : decode cX0_put 52 = .ok (.return_, 1) := by decide +kernel
theorem dX0_step_0 : decode cX0_step 0 = .ok (.iload_n 1, 1) := by decide +kernel
theorem dX0_step_1 : decode cX0_step 1 = .ok (.invokestatic 26, 3) := by decide +kernel
theorem dX0_step_4 : decode cX0_step 4 = .ok (.ifCond .ne 13, 3) := by decide +kernel
theorem dX0_step_7 : decode cX0_step 7 = .ok (.new 30, 3) := by decide +kernel
theorem dX0_step_10 : decode cX0_step 10 = .ok (.dup, 1) := by decide +kernel
theorem dX0_step_11 : decode cX0_step 11 = .ok (.ldc 32, 2) := by decide +kernel
theorem dX0_step_13 : decode cX0_step 13 = .ok (.invokespecial 34, 3) := by decide +kernel
theorem dX0_step_16 : decode cX0_step 16 = .ok (.athrow, 1) := by decide +kernel
theorem dX0_step_17 : decode cX0_step 17 = .ok (.iload_n 2, 1) := by decide +kernel
theorem dX0_step_18 : decode cX0_step 18 = .ok (.iconst 1, 1) := by decide +kernel
theorem dX0_step_19 : decode cX0_step 19 = .ok (.if_icmp .lt 10, 3) := by decide +kernel
theorem dX0_step_22 : decode cX0_step 22 = .ok (.iload_n 2, 1) := by decide +kernel
theorem dX0_step_23 : decode cX0_step 23 = .ok (.sipush 255, 3) := by decide +kernel
theorem dX0_step_26 : decode cX0_step 26 = .ok (.if_icmp .le 13, 3) := by decide +kernel
theorem dX0_step_29 : decode cX0_step 29 = .ok (.new 37, 3) := by decide +kernel
theorem dX0_step_32 : decode cX0_step 32 = .ok (.dup, 1) := by decide +kernel
theorem dX0_step_33 : decode cX0_step 33 = .ok (.ldc 45, 2) := by decide +kernel
theorem dX0_step_35 : decode cX0_step 35 = .ok (.invokespecial 41, 3) := by decide +kernel
theorem dX0_step_38 : decode cX0_step 38 = .ok (.athrow, 1) := by decide +kernel
theorem dX0_step_39 : decode cX0_step 39 = .ok (.aload_n 0, 1) := by decide +kernel
theorem dX0_step_40 : decode cX0_step 40 = .ok (.getfield 13, 3) := by decide +kernel
theorem dX0_step_43 : decode cX0_step 43 = .ok (.getstatic 42, 3) := by decide +kernel
theorem dX0_step_46 : decode cX0_step 46 = .ok (.iload_n 1, 1) := by decide +kernel
theorem dX0_step_47 : decode cX0_step 47 = .ok (.iaload, 1) := by decide +kernel
theorem dX0_step_48 : decode cX0_step 48 = .ok (.iload_n 2, 1) := by decide +kernel
theorem dX0_step_49 : decode cX0_step 49 = .ok (.iastore, 1) := by decide +kernel
theorem dX0_step_50 : decode cX0_step 50 = .ok (.return_, 1) := by decide +kernel
theorem dX0_steps_0 : decode cX0_steps 0 = .ok (.iload_n 1, 1) := by decide +kernel
theorem dX0_steps_1 : decode cX0_steps 1 = .ok (.iconst 1, 1) := by decide +kernel
theorem dX0_steps_2 : decode cX0_steps 2 = .ok (.if_icmp .lt 32, 3) := by decide +kernel
theorem dX0_steps_5 : decode cX0_steps 5 = .ok (.iload_n 1, 1) := by decide +kernel
theorem dX0_steps_6 : decode cX0_steps 6 = .ok (.sipush 255, 3) := by decide +kernel
theorem dX0_steps_9 : decode cX0_steps 9 = .ok (.if_icmp .gt 25, 3) := by decide +kernel
theorem dX0_steps_12 : decode cX0_steps 12 = .ok (.iload_n 2, 1) := by decide +kernel
theorem dX0_steps_13 : decode cX0_steps 13 = .ok (.ifCond .lt 21, 3) := by decide +kernel
theorem dX0_steps_16 : decode cX0_steps 16 = .ok (.iload_n 2, 1) := by decide +kernel
theorem dX0_steps_17 : decode cX0_steps 17 = .ok (.bipush 32, 2) := by decide +kernel
theorem dX0_steps_19 : decode cX0_steps 19 = .ok (.if_icmp .gt 15, 3) := by decide +kernel
theorem dX0_steps_22 : decode cX0_steps 22 = .ok (.iload_n 3, 1) := by decide +kernel
theorem dX0_steps_23 : decode cX0_steps 23 = .ok (.iconst 1, 1) := by decide +kernel
theorem dX0_steps_24 : decode cX0_steps 24 = .ok (.if_icmp .lt 10, 3) := by decide +kernel
theorem dX0_steps_27 : decode cX0_steps 27 = .ok (.iload_n 3, 1) := by decide +kernel
theorem dX0_steps_28 : decode cX0_steps 28 = .ok (.sipush 5000, 3) := by decide +kernel
theorem dX0_steps_31 : decode cX0_steps 31 = .ok (.if_icmp .le 13, 3) := by decide +kernel
theorem dX0_steps_34 : decode cX0_steps 34 = .ok (.new 37, 3) := by decide +kernel
theorem dX0_steps_37 : decode cX0_steps 37 = .ok (.dup, 1) := by decide +kernel
theorem dX0_steps_38 : decode cX0_steps 38 = .ok (.ldc 47, 2) := by decide +kernel
theorem dX0_steps_40 : decode cX0_steps 40 = .ok (.invokespecial 41, 3) := by decide +kernel
theorem dX0_steps_43 : decode cX0_steps 43 = .ok (.athrow, 1) := by decide +kernel
theorem dX0_steps_44 : decode cX0_steps 44 = .ok (.iconst 0, 1) := by decide +kernel
theorem dX0_steps_45 : decode cX0_steps 45 = .ok (.istore 4, 2) := by decide +kernel
theorem dX0_steps_47 : decode cX0_steps 47 = .ok (.iload 4, 2) := by decide +kernel
theorem dX0_steps_49 : decode cX0_steps 49 = .ok (.bipush 8, 2) := by decide +kernel
theorem dX0_steps_51 : decode cX0_steps 51 = .ok (.if_icmp .ge 67, 3) := by decide +kernel
theorem dX0_steps_54 : decode cX0_steps 54 = .ok (.iconst 0, 1) := by decide +kernel
theorem dX0_steps_55 : decode cX0_steps 55 = .ok (.istore 5, 2) := by decide +kernel
theorem dX0_steps_57 : decode cX0_steps 57 = .ok (.iload 5, 2) := by decide +kernel
theorem dX0_steps_59 : decode cX0_steps 59 = .ok (.bipush 8, 2) := by decide +kernel
theorem dX0_steps_61 : decode cX0_steps 61 = .ok (.if_icmp .ge 51, 3) := by decide +kernel
theorem dX0_steps_64 : decode cX0_steps 64 = .ok (.iload_n 1, 1) := by decide +kernel
theorem dX0_steps_65 : decode cX0_steps 65 = .ok (.iload_n 2, 1) := by decide +kernel
theorem dX0_steps_66 : decode cX0_steps 66 = .ok (.iload 5, 2) := by decide +kernel
theorem dX0_steps_68 : decode cX0_steps 68 = .ok (.iload 4, 2) := by decide +kernel
theorem dX0_steps_70 : decode cX0_steps 70 = .ok (.iadd, 1) := by decide +kernel
theorem dX0_steps_71 : decode cX0_steps 71 = .ok (.imul, 1) := by decide +kernel
theorem dX0_steps_72 : decode cX0_steps 72 = .ok (.iadd, 1) := by decide +kernel
theorem dX0_steps_73 : decode cX0_steps 73 = .ok (.iload_n 3, 1) := by decide +kernel
theorem dX0_steps_74 : decode cX0_steps 74 = .ok (.imul, 1) := by decide +kernel
theorem dX0_steps_75 : decode cX0_steps 75 = .ok (.bipush 50, 2) := by decide +kernel
theorem dX0_steps_77 : decode cX0_steps 77 = .ok (.iadd, 1) := by decide +kernel
theorem dX0_steps_78 : decode cX0_steps 78 = .ok (.bipush 100, 2) := by decide +kernel
theorem dX0_steps_80 : decode cX0_steps 80 = .ok (.idiv, 1) := by decide +kernel
theorem dX0_steps_81 : decode cX0_steps 81 = .ok (.istore 6, 2) := by decide +kernel
theorem dX0_steps_83 : decode cX0_steps 83 = .ok (.aload_n 0, 1) := by decide +kernel
theorem dX0_steps_84 : decode cX0_steps 84 = .ok (.getfield 13, 3) := by decide +kernel
theorem dX0_steps_87 : decode cX0_steps 87 = .ok (.iload 4, 2) := by decide +kernel
theorem dX0_steps_89 : decode cX0_steps 89 = .ok (.bipush 8, 2) := by decide +kernel
theorem dX0_steps_91 : decode cX0_steps 91 = .ok (.imul, 1) := by decide +kernel
theorem dX0_steps_92 : decode cX0_steps 92 = .ok (.iload 5, 2) := by decide +kernel
theorem dX0_steps_94 : decode cX0_steps 94 = .ok (.iadd, 1) := by decide +kernel
theorem dX0_steps_95 : decode cX0_steps 95 = .ok (.iload 6, 2) := by decide +kernel
theorem dX0_steps_97 : decode cX0_steps 97 = .ok (.i2l, 1) := by decide +kernel
theorem dX0_steps_98 : decode cX0_steps 98 = .ok (.iconst 1, 1) := by decide +kernel
theorem dX0_steps_99 : decode cX0_steps 99 = .ok (.sipush 255, 3) := by decide +kernel
theorem dX0_steps_102 : decode cX0_steps 102 = .ok (.invokestatic 49, 3) := by decide +kernel
theorem dX0_steps_105 : decode cX0_steps 105 = .ok (.iastore, 1) := by decide +kernel
theorem dX0_steps_106 : decode cX0_steps 106 = .ok (.iinc 5 1, 3) := by decide +kernel
theorem dX0_steps_109 : decode cX0_steps 109 = .ok (.goto (-52), 3) := by decide +kernel
theorem dX0_steps_112 : decode cX0_steps 112 = .ok (.iinc 4 1, 3) := by decide +kernel
theorem dX0_steps_115 : decode cX0_steps 115 = .ok (.goto (-68), 3) := by decide +kernel
theorem dX0_steps_118 : decode cX0_steps 118 = .ok (.return_, 1) := by decide +kernel
theorem dX0_row_0 : decode cX0_row 0 = .ok (.iload_n 1, 1) := by decide +kernel
theorem dX0_row_1 : decode cX0_row 1 = .ok (.invokestatic 53, 3) := by decide +kernel
theorem dX0_row_4 : decode cX0_row 4 = .ok (.ifCond .ne 13, 3) := by decide +kernel
theorem dX0_row_7 : decode cX0_row 7 = .ok (.new 30, 3) := by decide +kernel
theorem dX0_row_10 : decode cX0_row 10 = .ok (.dup, 1) := by decide +kernel
theorem dX0_row_11 : decode cX0_row 11 = .ok (.ldc 56, 2) := by decide +kernel
theorem dX0_row_13 : decode cX0_row 13 = .ok (.invokespecial 34, 3) := by decide +kernel
theorem dX0_row_16 : decode cX0_row 16 = .ok (.athrow, 1) := by decide +kernel
theorem dX0_row_17 : decode cX0_row 17 = .ok (.iconst 0, 1) := by decide +kernel
theorem dX0_row_18 : decode cX0_row 18 = .ok (.istore 4, 2) := by decide +kernel
theorem dX0_row_20 : decode cX0_row 20 = .ok (.iload 4, 2) := by decide +kernel
theorem dX0_row_22 : decode cX0_row 22 = .ok (.bipush 8, 2) := by decide +kernel
theorem dX0_row_24 : decode cX0_row 24 = .ok (.if_icmp .ge 36, 3) := by decide +kernel
theorem dX0_row_27 : decode cX0_row 27 = .ok (.aload_n 0, 1) := by decide +kernel
theorem dX0_row_28 : decode cX0_row 28 = .ok (.getfield 16, 3) := by decide +kernel
theorem dX0_row_31 : decode cX0_row 31 = .ok (.iload_n 1, 1) := by decide +kernel
theorem dX0_row_32 : decode cX0_row 32 = .ok (.bipush 8, 2) := by decide +kernel
theorem dX0_row_34 : decode cX0_row 34 = .ok (.imul, 1) := by decide +kernel
theorem dX0_row_35 : decode cX0_row 35 = .ok (.iload 4, 2) := by decide +kernel
theorem dX0_row_37 : decode cX0_row 37 = .ok (.iadd, 1) := by decide +kernel
theorem dX0_row_38 : decode cX0_row 38 = .ok (.lload_n 2, 1) := by decide +kernel
theorem dX0_row_39 : decode cX0_row 39 = .ok (.bipush 56, 2) := by decide +kernel
theorem dX0_row_41 : decode cX0_row 41 = .ok (.bipush 8, 2) := by decide +kernel
theorem dX0_row_43 : decode cX0_row 43 = .ok (.iload 4, 2) := by decide +kernel
theorem dX0_row_45 : decode cX0_row 45 = .ok (.imul, 1) := by decide +kernel
theorem dX0_row_46 : decode cX0_row 46 = .ok (.isub, 1) := by decide +kernel
theorem dX0_row_47 : decode cX0_row 47 = .ok (.lushr, 1) := by decide +kernel
theorem dX0_row_48 : decode cX0_row 48 = .ok (.l2i, 1) := by decide +kernel
theorem dX0_row_49 : decode cX0_row 49 = .ok (.sipush 255, 3) := by decide +kernel
theorem dX0_row_52 : decode cX0_row 52 = .ok (.iand, 1) := by decide +kernel
theorem dX0_row_53 : decode cX0_row 53 = .ok (.iastore, 1) := by decide +kernel
theorem dX0_row_54 : decode cX0_row 54 = .ok (.iinc 4 1, 3) := by decide +kernel
theorem dX0_row_57 : decode cX0_row 57 = .ok (.goto (-37), 3) := by decide +kernel
theorem dX0_row_60 : decode cX0_row 60 = .ok (.return_, 1) := by decide +kernel
set_option maxHeartbeats 4000000 in
set_option maxRecDepth 100000 in
/-- put -/
theorem m_put (l : Launch) (hl9 : l.stackTraces = false) (D : va_G) (x : Nat → Nat) (cd : Nat → ClassId) (f0 f1 f2 f3 : Nat → Int32) (g : Nat → Int64) (q v9 : Int32) (sz : Nat) : vx_Met l yX0_put wsX0_put ({ frames := 6, cells := 1, slots := 6, locals := 82 } : Room) (va_Pc [.ref (x 0), .int q, .int v9] (crw D (cw x cd f0 f1 f2 f3 g) (cty cd) sz)) (va_Qv (fun (u : Nat → Int32) => (0 ≤ q.toInt ∧ q.toInt < 64) ∧ (-32768 ≤ v9.toInt ∧ v9.toInt ≤ 32767) ∧ u = upd f0 (cCn q.toInt.toNat) v9) (fun (u : Nat → Int32) (t : State) => crB D (cw x cd u f1 f2 f3 g) (cty cd) (va_A (cw x cd f0 f1 f2 f3 g) sz) t) (va_A (cw x cd f0 f1 f2 f3 g) sz)) (vx_X (fun (_ : Unit) => True) (fun (E : String) (_ : Unit) (_ : State) => (E = "java/lang/IndexOutOfBoundsException" ∧ ¬ (0 ≤ q.toInt ∧ q.toInt < 64)) ∨ (E = "java/lang/IllegalArgumentException" ∧ (0 ≤ q.toInt ∧ q.toInt < 64) ∧ ¬ (-32768 ≤ v9.toInt ∧ v9.toInt ≤ 32767))) (fun _ => False)) 1 6 (va_A (cw x cd f0 f1 f2 f3 g) sz) := by
  refine vx_ofW (cc := cX0_put) (maxL := 3) (ret := none) (by decide) rfl ?_
  intro p e s m args below meth c s₁ B hml htab hv
  obtain ⟨rfl, hsz, hP, hK, hD0, hTb⟩ := hv
  have hx := B.exec
  have hb := B.bytes
  have hr := B.returns
  have hts : ∀ w ∈ wA, w.before _ s = true := fun w h => atoms_spec (ws := wsX0_put) B.pre w (List.mem_cons_of_mem _ h)
  have hown : s.vm.findClass RX0 = some m.cls := findClass_of_methodNamed B.named
  have hlocks := B.notSynchronized
  subst hsz
  have hD := hD0.self (sz := s.heap.size)
  generalize hAe : va_A (cw x cd f0 f1 f2 f3 g) s.heap.size = A at hD hTb ⊢
  have hA : ∀ q : Nat, s.heap.size ≤ q → A q := fun q h => by rw [← hAe]; exact Or.inr h
  have hS : va_S A s.heap s.heap [] := va_S.rf
  have hin0 := inA0
  have hf9 := (hts _ wm_28)
  obtain ⟨⟨t0, hZ0, hT0⟩, ⟨t1, hZ1, hT1⟩, ⟨t2, hZ2, hT2⟩, hXU, hXN, ⟨hXc_i, hXc_a, hXd1, hXd2, hXd3⟩, hXstr, -⟩ := id hTb
  have hl := lv_entry ([.ref (x 0), .int q, .int v9]) (n := 3) (Nat.le_of_ble_eq_true rfl)
  rw [lg_entry_eq]
  generalize (lg_sl ([.ref (x 0), .int q, .int v9]) ++ List.replicate (3 - (lg_sl ([.ref (x 0), .int q, .int v9])).length) Slot.unset).toArray = ls at hl ⊢
  have hl : lv_has ls 3 [(0, .ref (x 0)), (1, .int q), (2, .int v9)] := hl
  refine lv_iload_n hx hb dX0_put_0 rfl (lv_at hl 1 rfl) ?_
  refine vp_callSi (W.runS (As := [.int q]) (rest := []) ⟨hx, hb, hml, hown, hts⟩ (m_isPlace l D q) (va_cwS 1 hts (gw_S wm_126 wm_127 wm_12 wm_128) rfl rfl rfl (by decide +kernel) ⟨Nat.le_of_ble_eq_true rfl, Nat.le_of_ble_eq_true rfl⟩) ⟨cro_blind, fun U hU hW => ⟨rfl, cro_at (hP.sub (ws' := []) [] rfl) (hK.sub (tys' := []) [] rfl) hTb hS hU hW⟩⟩ rfl rfl hl.1 rfl (lv_room (Nat.le_of_ble_eq_true rfl)) dX0_put_1 ⟨Nat.le_of_ble_eq_true rfl, Nat.le_of_ble_eq_true rfl⟩) (fun r_1 hr_1 => ?_)
  rcases hr_1 with ⟨rfl, ha9, hb9⟩ | ⟨rfl, ha9⟩
  · refine cx_if_ne (i := 1) (j := 0) (tgt := 17) hx hb (by decide +kernel) rfl dX0_put_4 (by decide) (fun c_2 => ?_) (fun c_2 => absurd c_2 (by decide))
    obtain ⟨j9, hj9, hej⟩ := cx_ofN (x := q) (n := 64) (by omega) (by omega) (by decide)
    have e_3 : q = nI j9 := hej
    rw [e_3] at hl
    refine lv_iload_n hx hb dX0_put_17 rfl (lv_at hl 2 rfl) ?_
    refine lv_sipush (v := (-32768 : Int32)) hx hb dX0_put_18 (by decide +kernel) ?_
    refine cx_icmp_lt (i := v9.toInt) (j := (-32768)) (tgt := 31) hx hb rfl (by decide +kernel) dX0_put_21 (by decide) (fun c_4 => ?_) (fun c_4 => ?_)
    · obtain ⟨sa9, hstr⟩ := hXstr.2.1
      exact vx_throwS (own := RX0) (cls := "java/lang/IllegalArgumentException") (names := ["java/lang/RuntimeException", "java/lang/Exception"]) hx hb hl9 hown (by decide +kernel) (by decide +kernel) (hts _ wm_196) (hts _ wm_18) hstr (vx_hat (L := vx_atS RX0 41 "java/lang/IllegalArgumentException" ["java/lang/RuntimeException", "java/lang/Exception"]) (B := [.castable "java/lang/IllegalArgumentException" "java/lang/IllegalArgumentException", .declares ⟨"java/lang/RuntimeException", "<init>", "(Ljava/lang/String;)V"⟩, .declares ⟨"java/lang/Exception", "<init>", "(Ljava/lang/String;)V"⟩, .declares ⟨"java/lang/Throwable", "<init>", "(Ljava/lang/String;)V"⟩]) (fun w hw => hts w (hat_a w hw)) hatB_a (vx_c (va_Nw.use rfl hXc_a) (vx_c (va_Nw.use rfl hXd1) (vx_c (va_Nw.use rfl hXd2) (vx_c (va_Nw.use rfl hXd3) (vx_n)))))) hatG_a hXU hXN hS (hl.1.trans hml.symm) dX0_put_31 dX0_put_34 dX0_put_35 dX0_put_37 dX0_put_40 (fun x9 h9 => (htab x9 h9).elim) (Nat.le_of_ble_eq_true rfl) (Nat.le_of_ble_eq_true rfl) (Nat.le_of_ble_eq_true rfl) (Nat.le_of_ble_eq_true rfl) hlocks (fun t ha hsz hk => ⟨(), trivial, Or.inr ⟨rfl, by omega⟩, hsz, fun q h1 _ => hk q h1⟩) hS.2.2 (Nat.le_of_ble_eq_true rfl) (Nat.le_of_ble_eq_true rfl)
    · refine lv_iload_n hx hb dX0_put_24 rfl (lv_at hl 2 rfl) ?_
      refine lv_sipush (v := (32767 : Int32)) hx hb dX0_put_25 (by decide +kernel) ?_
      refine cx_icmp_le (i := v9.toInt) (j := 32767) (tgt := 41) hx hb rfl (by decide +kernel) dX0_put_28 (by decide) (fun c_5 => ?_) (fun c_5 => ?_)
      · refine lv_aload_n hx hb dX0_put_41 rfl (lv_at hl 0 rfl) ?_
        refine va_get (D := D) (ci := 0) (v := .ref (x 1)) (C := RX0) (T := TX0) (N := 5) hx hb hts hin0 hown hK hP 0 rfl rfl 0 (by decide) hf9 (fun _ h9 => h9) rfl dX0_put_42 ?_
        refine va_gets (v := .ref t2) hx hb hZ2 hS hown (hts _ wm_108) (fun _ h9 => h9) dX0_put_45 ?_
        refine lv_iload_n hx hb dX0_put_48 rfl (lv_at hl 1 rfl) ?_
        refine cx_ti hx hb hT2 hS j9 (by omega) (by decide) dX0_put_49 ?_
        refine lv_iload_n hx hb dX0_put_50 rfl (lv_at hl 2 rfl) ?_
        refine cx_iast hx hb hK hP hD hS 1 0 rfl rfl (cCn j9) (cCn_lt j9 (by omega)) (by decide) dX0_put_51 (fun H locs hP hD hS => ?_)
        have hP : va_P D vwCl (cw x cd (upd f0 (cCn j9) v9) f1 f2 f3 g) H := hP
        have hD : va_D A (cw x cd (upd f0 (cCn j9) v9) f1 f2 f3 g) := hD
        refine W.widen (k := 1) (n := 6) (Nat.zero_le _) (Nat.zero_le _) (vx_ret ?_)
        exact W.vret hx hb hr (fun t ht hW => ⟨⟨upd f0 (cCn j9) v9, rfl, ⟨by omega, by omega, by rw [hej, cx_toNat (by omega)]⟩, by rw [ht]; exact hP, va_K.moved hW.alike hK, hD⟩, hS.F ht⟩) hS.2.2 dX0_put_52
      · obtain ⟨sa9, hstr⟩ := hXstr.2.1
        exact vx_throwS (own := RX0) (cls := "java/lang/IllegalArgumentException") (names := ["java/lang/RuntimeException", "java/lang/Exception"]) hx hb hl9 hown (by decide +kernel) (by decide +kernel) (hts _ wm_196) (hts _ wm_18) hstr (vx_hat (L := vx_atS RX0 41 "java/lang/IllegalArgumentException" ["java/lang/RuntimeException", "java/lang/Exception"]) (B := [.castable "java/lang/IllegalArgumentException" "java/lang/IllegalArgumentException", .declares ⟨"java/lang/RuntimeException", "<init>", "(Ljava/lang/String;)V"⟩, .declares ⟨"java/lang/Exception", "<init>", "(Ljava/lang/String;)V"⟩, .declares ⟨"java/lang/Throwable", "<init>", "(Ljava/lang/String;)V"⟩]) (fun w hw => hts w (hat_a w hw)) hatB_a (vx_c (va_Nw.use rfl hXc_a) (vx_c (va_Nw.use rfl hXd1) (vx_c (va_Nw.use rfl hXd2) (vx_c (va_Nw.use rfl hXd3) (vx_n)))))) hatG_a hXU hXN hS (hl.1.trans hml.symm) dX0_put_31 dX0_put_34 dX0_put_35 dX0_put_37 dX0_put_40 (fun x9 h9 => (htab x9 h9).elim) (Nat.le_of_ble_eq_true rfl) (Nat.le_of_ble_eq_true rfl) (Nat.le_of_ble_eq_true rfl) (Nat.le_of_ble_eq_true rfl) hlocks (fun t ha hsz hk => ⟨(), trivial, Or.inr ⟨rfl, by omega⟩, hsz, fun q h1 _ => hk q h1⟩) hS.2.2 (Nat.le_of_ble_eq_true rfl) (Nat.le_of_ble_eq_true rfl)
  · refine cx_if_ne (i := 0) (j := 0) (tgt := 17) hx hb (by decide +kernel) rfl dX0_put_4 (by decide) (fun c_6 => absurd c_6 (by decide)) (fun c_6 => ?_)
    obtain ⟨sa9, hstr⟩ := hXstr.1
    exact vx_throwS (own := RX0) (cls := "java/lang/IndexOutOfBoundsException") (names := ["java/lang/RuntimeException", "java/lang/Exception"]) hx hb hl9 hown (by decide +kernel) (by decide +kernel) (hts _ wm_129) (hts _ wm_17) hstr (vx_hat (L := vx_atS RX0 34 "java/lang/IndexOutOfBoundsException" ["java/lang/RuntimeException", "java/lang/Exception"]) (B := [.castable "java/lang/IndexOutOfBoundsException" "java/lang/IndexOutOfBoundsException", .declares ⟨"java/lang/RuntimeException", "<init>", "(Ljava/lang/String;)V"⟩, .declares ⟨"java/lang/Exception", "<init>", "(Ljava/lang/String;)V"⟩, .declares ⟨"java/lang/Throwable", "<init>", "(Ljava/lang/String;)V"⟩]) (fun w hw => hts w (hat_i w hw)) hatB_i (vx_c (va_Nw.use rfl hXc_i) (vx_c (va_Nw.use rfl hXd1) (vx_c (va_Nw.use rfl hXd2) (vx_c (va_Nw.use rfl hXd3) (vx_n)))))) hatG_i hXU hXN hS (hl.1.trans hml.symm) dX0_put_7 dX0_put_10 dX0_put_11 dX0_put_13 dX0_put_16 (fun x9 h9 => (htab x9 h9).elim) (Nat.le_of_ble_eq_true rfl) (Nat.le_of_ble_eq_true rfl) (Nat.le_of_ble_eq_true rfl) (Nat.le_of_ble_eq_true rfl) hlocks (fun t ha hsz hk => ⟨(), trivial, Or.inl ⟨rfl, by omega⟩, hsz, fun q h1 _ => hk q h1⟩) hS.2.2 (Nat.le_of_ble_eq_true rfl) (Nat.le_of_ble_eq_true rfl)
set_option maxHeartbeats 4000000 in
set_option maxRecDepth 100000 in
/-- step -/
theorem m_step (l : Launch) (hl9 : l.stackTraces = false) (D : va_G) (x : Nat → Nat) (cd : Nat → ClassId) (f0 f1 f2 f3 : Nat → Int32) (g : Nat → Int64) (q v9 : Int32) (sz : Nat) : vx_Met l yX0_step wsX0_step ({ frames := 6, cells := 1, slots := 6, locals := 82 } : Room) (va_Pc [.ref (x 0), .int q, .int v9] (crw D (cw x cd f0 f1 f2 f3 g) (cty cd) sz)) (va_Qv (fun (u : Nat → Int32) => (0 ≤ q.toInt ∧ q.toInt < 64) ∧ (1 ≤ v9.toInt ∧ v9.toInt ≤ 255) ∧ u = upd f1 (cCn q.toInt.toNat) v9) (fun (u : Nat → Int32) (t : State) => crB D (cw x cd f0 u f2 f3 g) (cty cd) (va_A (cw x cd f0 f1 f2 f3 g) sz) t) (va_A (cw x cd f0 f1 f2 f3 g) sz)) (vx_X (fun (_ : Unit) => True) (fun (E : String) (_ : Unit) (_ : State) => (E = "java/lang/IndexOutOfBoundsException" ∧ ¬ (0 ≤ q.toInt ∧ q.toInt < 64)) ∨ (E = "java/lang/IllegalArgumentException" ∧ (0 ≤ q.toInt ∧ q.toInt < 64) ∧ ¬ (1 ≤ v9.toInt ∧ v9.toInt ≤ 255))) (fun _ => False)) 1 6 (va_A (cw x cd f0 f1 f2 f3 g) sz) := by
  refine vx_ofW (cc := cX0_step) (maxL := 3) (ret := none) (by decide) rfl ?_
  intro p e s m args below meth c s₁ B hml htab hv
  obtain ⟨rfl, hsz, hP, hK, hD0, hTb⟩ := hv
  have hx := B.exec
  have hb := B.bytes
  have hr := B.returns
  have hts : ∀ w ∈ wA, w.before _ s = true := fun w h => atoms_spec (ws := wsX0_step) B.pre w (List.mem_cons_of_mem _ h)
  have hown : s.vm.findClass RX0 = some m.cls := findClass_of_methodNamed B.named
  have hlocks := B.notSynchronized
  subst hsz
  have hD := hD0.self (sz := s.heap.size)
  generalize hAe : va_A (cw x cd f0 f1 f2 f3 g) s.heap.size = A at hD hTb ⊢
  have hA : ∀ q : Nat, s.heap.size ≤ q → A q := fun q h => by rw [← hAe]; exact Or.inr h
  have hS : va_S A s.heap s.heap [] := va_S.rf
  have hin0 := inA0
  have hf13 := (hts _ wm_29)
  obtain ⟨⟨t0, hZ0, hT0⟩, ⟨t1, hZ1, hT1⟩, ⟨t2, hZ2, hT2⟩, hXU, hXN, ⟨hXc_i, hXc_a, hXd1, hXd2, hXd3⟩, hXstr, -⟩ := id hTb
  have hl := lv_entry ([.ref (x 0), .int q, .int v9]) (n := 3) (Nat.le_of_ble_eq_true rfl)
  rw [lg_entry_eq]
  generalize (lg_sl ([.ref (x 0), .int q, .int v9]) ++ List.replicate (3 - (lg_sl ([.ref (x 0), .int q, .int v9])).length) Slot.unset).toArray = ls at hl ⊢
  have hl : lv_has ls 3 [(0, .ref (x 0)), (1, .int q), (2, .int v9)] := hl
  refine lv_iload_n hx hb dX0_step_0 rfl (lv_at hl 1 rfl) ?_
  refine vp_callSi (W.runS (As := [.int q]) (rest := []) ⟨hx, hb, hml, hown, hts⟩ (m_isPlace l D q) (va_cwS 1 hts (gw_S wm_126 wm_127 wm_12 wm_128) rfl rfl rfl (by decide +kernel) ⟨Nat.le_of_ble_eq_true rfl, Nat.le_of_ble_eq_true rfl⟩) ⟨cro_blind, fun U hU hW => ⟨rfl, cro_at (hP.sub (ws' := []) [] rfl) (hK.sub (tys' := []) [] rfl) hTb hS hU hW⟩⟩ rfl rfl hl.1 rfl (lv_room (Nat.le_of_ble_eq_true rfl)) dX0_step_1 ⟨Nat.le_of_ble_eq_true rfl, Nat.le_of_ble_eq_true rfl⟩) (fun r_1 hr_1 => ?_)
  rcases hr_1 with ⟨rfl, ha9, hb9⟩ | ⟨rfl, ha9⟩
  · refine cx_if_ne (i := 1) (j := 0) (tgt := 17) hx hb (by decide +kernel) rfl dX0_step_4 (by decide) (fun c_2 => ?_) (fun c_2 => absurd c_2 (by decide))
    obtain ⟨j9, hj9, hej⟩ := cx_ofN (x := q) (n := 64) (by omega) (by omega) (by decide)
    have e_3 : q = nI j9 := hej
    rw [e_3] at hl
    refine lv_iload_n hx hb dX0_step_17 rfl (lv_at hl 2 rfl) ?_
    refine lv_iconst (v := (1 : Int32)) hx hb dX0_step_18 (by decide +kernel) ?_
    refine cx_icmp_lt (i := v9.toInt) (j := 1) (tgt := 29) hx hb rfl (by decide +kernel) dX0_step_19 (by decide) (fun c_4 => ?_) (fun c_4 => ?_)
    · obtain ⟨sa9, hstr⟩ := hXstr.2.2.1
      exact vx_throwS (own := RX0) (cls := "java/lang/IllegalArgumentException") (names := ["java/lang/RuntimeException", "java/lang/Exception"]) hx hb hl9 hown (by decide +kernel) (by decide +kernel) (hts _ wm_196) (hts _ wm_18) hstr (vx_hat (L := vx_atS RX0 41 "java/lang/IllegalArgumentException" ["java/lang/RuntimeException", "java/lang/Exception"]) (B := [.castable "java/lang/IllegalArgumentException" "java/lang/IllegalArgumentException", .declares ⟨"java/lang/RuntimeException", "<init>", "(Ljava/lang/String;)V"⟩, .declares ⟨"java/lang/Exception", "<init>", "(Ljava/lang/String;)V"⟩, .declares ⟨"java/lang/Throwable", "<init>", "(Ljava/lang/String;)V"⟩]) (fun w hw => hts w (hat_a w hw)) hatB_a (vx_c (va_Nw.use rfl hXc_a) (vx_c (va_Nw.use rfl hXd1) (vx_c (va_Nw.use rfl hXd2) (vx_c (va_Nw.use rfl hXd3) (vx_n)))))) hatG_a hXU hXN hS (hl.1.trans hml.symm) dX0_step_29 dX0_step_32 dX0_step_33 dX0_step_35 dX0_step_38 (fun x9 h9 => (htab x9 h9).elim) (Nat.le_of_ble_eq_true rfl) (Nat.le_of_ble_eq_true rfl) (Nat.le_of_ble_eq_true rfl) (Nat.le_of_ble_eq_true rfl) hlocks (fun t ha hsz hk => ⟨(), trivial, Or.inr ⟨rfl, by omega⟩, hsz, fun q h1 _ => hk q h1⟩) hS.2.2 (Nat.le_of_ble_eq_true rfl) (Nat.le_of_ble_eq_true rfl)
    · refine lv_iload_n hx hb dX0_step_22 rfl (lv_at hl 2 rfl) ?_
      refine lv_sipush (v := (255 : Int32)) hx hb dX0_step_23 (by decide +kernel) ?_
      refine cx_icmp_le (i := v9.toInt) (j := 255) (tgt := 39) hx hb rfl (by decide +kernel) dX0_step_26 (by decide) (fun c_5 => ?_) (fun c_5 => ?_)
      · refine lv_aload_n hx hb dX0_step_39 rfl (lv_at hl 0 rfl) ?_
        refine va_get (D := D) (ci := 0) (v := .ref (x 2)) (C := RX0) (T := TX0) (N := 5) hx hb hts hin0 hown hK hP 0 rfl rfl 1 (by decide) hf13 (fun _ h9 => h9) rfl dX0_step_40 ?_
        refine va_gets (v := .ref t2) hx hb hZ2 hS hown (hts _ wm_108) (fun _ h9 => h9) dX0_step_43 ?_
        refine lv_iload_n hx hb dX0_step_46 rfl (lv_at hl 1 rfl) ?_
        refine cx_ti hx hb hT2 hS j9 (by omega) (by decide) dX0_step_47 ?_
        refine lv_iload_n hx hb dX0_step_48 rfl (lv_at hl 2 rfl) ?_
        refine cx_iast hx hb hK hP hD hS 2 1 rfl rfl (cCn j9) (cCn_lt j9 (by omega)) (by decide) dX0_step_49 (fun H locs hP hD hS => ?_)
        have hP : va_P D vwCl (cw x cd f0 (upd f1 (cCn j9) v9) f2 f3 g) H := hP
        have hD : va_D A (cw x cd f0 (upd f1 (cCn j9) v9) f2 f3 g) := hD
        refine W.widen (k := 1) (n := 6) (Nat.zero_le _) (Nat.zero_le _) (vx_ret ?_)
        exact W.vret hx hb hr (fun t ht hW => ⟨⟨upd f1 (cCn j9) v9, rfl, ⟨by omega, by omega, by rw [hej, cx_toNat (by omega)]⟩, by rw [ht]; exact hP, va_K.moved hW.alike hK, hD⟩, hS.F ht⟩) hS.2.2 dX0_step_50
      · obtain ⟨sa9, hstr⟩ := hXstr.2.2.1
        exact vx_throwS (own := RX0) (cls := "java/lang/IllegalArgumentException") (names := ["java/lang/RuntimeException", "java/lang/Exception"]) hx hb hl9 hown (by decide +kernel) (by decide +kernel) (hts _ wm_196) (hts _ wm_18) hstr (vx_hat (L := vx_atS RX0 41 "java/lang/IllegalArgumentException" ["java/lang/RuntimeException", "java/lang/Exception"]) (B := [.castable "java/lang/IllegalArgumentException" "java/lang/IllegalArgumentException", .declares ⟨"java/lang/RuntimeException", "<init>", "(Ljava/lang/String;)V"⟩, .declares ⟨"java/lang/Exception", "<init>", "(Ljava/lang/String;)V"⟩, .declares ⟨"java/lang/Throwable", "<init>", "(Ljava/lang/String;)V"⟩]) (fun w hw => hts w (hat_a w hw)) hatB_a (vx_c (va_Nw.use rfl hXc_a) (vx_c (va_Nw.use rfl hXd1) (vx_c (va_Nw.use rfl hXd2) (vx_c (va_Nw.use rfl hXd3) (vx_n)))))) hatG_a hXU hXN hS (hl.1.trans hml.symm) dX0_step_29 dX0_step_32 dX0_step_33 dX0_step_35 dX0_step_38 (fun x9 h9 => (htab x9 h9).elim) (Nat.le_of_ble_eq_true rfl) (Nat.le_of_ble_eq_true rfl) (Nat.le_of_ble_eq_true rfl) (Nat.le_of_ble_eq_true rfl) hlocks (fun t ha hsz hk => ⟨(), trivial, Or.inr ⟨rfl, by omega⟩, hsz, fun q h1 _ => hk q h1⟩) hS.2.2 (Nat.le_of_ble_eq_true rfl) (Nat.le_of_ble_eq_true rfl)
  · refine cx_if_ne (i := 0) (j := 0) (tgt := 17) hx hb (by decide +kernel) rfl dX0_step_4 (by decide) (fun c_6 => absurd c_6 (by decide)) (fun c_6 => ?_)
    obtain ⟨sa9, hstr⟩ := hXstr.1
    exact vx_throwS (own := RX0) (cls := "java/lang/IndexOutOfBoundsException") (names := ["java/lang/RuntimeException", "java/lang/Exception"]) hx hb hl9 hown (by decide +kernel) (by decide +kernel) (hts _ wm_129) (hts _ wm_17) hstr (vx_hat (L := vx_atS RX0 34 "java/lang/IndexOutOfBoundsException" ["java/lang/RuntimeException", "java/lang/Exception"]) (B := [.castable "java/lang/IndexOutOfBoundsException" "java/lang/IndexOutOfBoundsException", .declares ⟨"java/lang/RuntimeException", "<init>", "(Ljava/lang/String;)V"⟩, .declares ⟨"java/lang/Exception", "<init>", "(Ljava/lang/String;)V"⟩, .declares ⟨"java/lang/Throwable", "<init>", "(Ljava/lang/String;)V"⟩]) (fun w hw => hts w (hat_i w hw)) hatB_i (vx_c (va_Nw.use rfl hXc_i) (vx_c (va_Nw.use rfl hXd1) (vx_c (va_Nw.use rfl hXd2) (vx_c (va_Nw.use rfl hXd3) (vx_n)))))) hatG_i hXU hXN hS (hl.1.trans hml.symm) dX0_step_7 dX0_step_10 dX0_step_11 dX0_step_13 dX0_step_16 (fun x9 h9 => (htab x9 h9).elim) (Nat.le_of_ble_eq_true rfl) (Nat.le_of_ble_eq_true rfl) (Nat.le_of_ble_eq_true rfl) (Nat.le_of_ble_eq_true rfl) hlocks (fun t ha hsz hk => ⟨(), trivial, Or.inl ⟨rfl, by omega⟩, hsz, fun q h1 _ => hk q h1⟩) hS.2.2 (Nat.le_of_ble_eq_true rfl) (Nat.le_of_ble_eq_true rfl)
set_option maxHeartbeats 4000000 in
set_option maxRecDepth 100000 in
/-- steps -/
theorem m_steps (l : Launch) (hl9 : l.stackTraces = false) (D : va_G) (x : Nat → Nat) (cd : Nat → ClassId) (f0 f1 f2 f3 : Nat → Int32) (g : Nat → Int64) (b9 s9 p9 : Int32) (sz : Nat) : vx_Met l yX0_steps wsX0_steps ({ frames := 6, cells := 1, slots := 6, locals := 82 } : Room) (va_Pc [.ref (x 0), .int b9, .int s9, .int p9] (crw D (cw x cd f0 f1 f2 f3 g) (cty cd) sz)) (va_Qv (fun (u : Nat → Int32) => ((1 ≤ b9.toInt ∧ b9.toInt ≤ 255) ∧ (0 ≤ s9.toInt ∧ s9.toInt ≤ 32) ∧ (1 ≤ p9.toInt ∧ p9.toInt ≤ 5000)) ∧ ∀ a b, a < 8 → b < 8 → u (a * 8 + b) = stV b9 s9 p9 a b) (fun (u : Nat → Int32) (t : State) => crB D (cw x cd f0 u f2 f3 g) (cty cd) (va_A (cw x cd f0 f1 f2 f3 g) sz) t) (va_A (cw x cd f0 f1 f2 f3 g) sz)) (vx_X (fun (_ : Unit) => True) (fun (E : String) (_ : Unit) (_ : State) => (E = "java/lang/IllegalArgumentException" ∧ ¬ ((1 ≤ b9.toInt ∧ b9.toInt ≤ 255) ∧ (0 ≤ s9.toInt ∧ s9.toInt ≤ 32) ∧ (1 ≤ p9.toInt ∧ p9.toInt ≤ 5000)))) (fun _ => False)) 1 6 (va_A (cw x cd f0 f1 f2 f3 g) sz) := by
  refine vx_ofW (cc := cX0_steps) (maxL := 7) (ret := none) (by decide) rfl ?_
  intro p e s m args below meth c s₁ B hml htab hv
  obtain ⟨rfl, hsz, hP, hK, hD0, hTb⟩ := hv
  have hx := B.exec
  have hb := B.bytes
  have hr := B.returns
  have hts : ∀ w ∈ wA, w.before _ s = true := fun w h => atoms_spec (ws := wsX0_steps) B.pre w (List.mem_cons_of_mem _ h)
  have hown : s.vm.findClass RX0 = some m.cls := findClass_of_methodNamed B.named
  have hlocks := B.notSynchronized
  subst hsz
  have hD := hD0.self (sz := s.heap.size)
  generalize hAe : va_A (cw x cd f0 f1 f2 f3 g) s.heap.size = A at hD hTb ⊢
  have hA : ∀ q : Nat, s.heap.size ≤ q → A q := fun q h => by rw [← hAe]; exact Or.inr h
  have hS : va_S A s.heap s.heap [] := va_S.rf
  have hin0 := inA0
  have hf13 := (hts _ wm_29)
  obtain ⟨⟨t0, hZ0, hT0⟩, ⟨t1, hZ1, hT1⟩, ⟨t2, hZ2, hT2⟩, hXU, hXN, ⟨hXc_i, hXc_a, hXd1, hXd2, hXd3⟩, hXstr, -⟩ := id hTb
  have hl := lv_entry ([.ref (x 0), .int b9, .int s9, .int p9]) (n := 7) (Nat.le_of_ble_eq_true rfl)
  rw [lg_entry_eq]
  generalize (lg_sl ([.ref (x 0), .int b9, .int s9, .int p9]) ++ List.replicate (7 - (lg_sl ([.ref (x 0), .int b9, .int s9, .int p9])).length) Slot.unset).toArray = ls at hl ⊢
  have hl : lv_has ls 7 [(0, .ref (x 0)), (1, .int b9), (2, .int s9), (3, .int p9)] := hl
  refine lv_iload_n hx hb dX0_steps_0 rfl (lv_at hl 1 rfl) ?_
  refine lv_iconst (v := (1 : Int32)) hx hb dX0_steps_1 (by decide +kernel) ?_
  refine cx_icmp_lt (i := b9.toInt) (j := 1) (tgt := 34) hx hb rfl (by decide +kernel) dX0_steps_2 (by decide) (fun c_1 => ?_) (fun c_1 => ?_)
  · obtain ⟨sa9, hstr⟩ := hXstr.2.2.2.1
    exact vx_throwS (own := RX0) (cls := "java/lang/IllegalArgumentException") (names := ["java/lang/RuntimeException", "java/lang/Exception"]) hx hb hl9 hown (by decide +kernel) (by decide +kernel) (hts _ wm_196) (hts _ wm_18) hstr (vx_hat (L := vx_atS RX0 41 "java/lang/IllegalArgumentException" ["java/lang/RuntimeException", "java/lang/Exception"]) (B := [.castable "java/lang/IllegalArgumentException" "java/lang/IllegalArgumentException", .declares ⟨"java/lang/RuntimeException", "<init>", "(Ljava/lang/String;)V"⟩, .declares ⟨"java/lang/Exception", "<init>", "(Ljava/lang/String;)V"⟩, .declares ⟨"java/lang/Throwable", "<init>", "(Ljava/lang/String;)V"⟩]) (fun w hw => hts w (hat_a w hw)) hatB_a (vx_c (va_Nw.use rfl hXc_a) (vx_c (va_Nw.use rfl hXd1) (vx_c (va_Nw.use rfl hXd2) (vx_c (va_Nw.use rfl hXd3) (vx_n)))))) hatG_a hXU hXN hS (hl.1.trans hml.symm) dX0_steps_34 dX0_steps_37 dX0_steps_38 dX0_steps_40 dX0_steps_43 (fun x9 h9 => (htab x9 h9).elim) (Nat.le_of_ble_eq_true rfl) (Nat.le_of_ble_eq_true rfl) (Nat.le_of_ble_eq_true rfl) (Nat.le_of_ble_eq_true rfl) hlocks (fun t ha hsz hk => ⟨(), trivial, ⟨rfl, by omega⟩, hsz, fun q h1 _ => hk q h1⟩) hS.2.2 (Nat.le_of_ble_eq_true rfl) (Nat.le_of_ble_eq_true rfl)
  · refine lv_iload_n hx hb dX0_steps_5 rfl (lv_at hl 1 rfl) ?_
    refine lv_sipush (v := (255 : Int32)) hx hb dX0_steps_6 (by decide +kernel) ?_
    refine cx_icmp_gt (i := b9.toInt) (j := 255) (tgt := 34) hx hb rfl (by decide +kernel) dX0_steps_9 (by decide) (fun c_2 => ?_) (fun c_2 => ?_)
    · obtain ⟨sa9, hstr⟩ := hXstr.2.2.2.1
      exact vx_throwS (own := RX0) (cls := "java/lang/IllegalArgumentException") (names := ["java/lang/RuntimeException", "java/lang/Exception"]) hx hb hl9 hown (by decide +kernel) (by decide +kernel) (hts _ wm_196) (hts _ wm_18) hstr (vx_hat (L := vx_atS RX0 41 "java/lang/IllegalArgumentException" ["java/lang/RuntimeException", "java/lang/Exception"]) (B := [.castable "java/lang/IllegalArgumentException" "java/lang/IllegalArgumentException", .declares ⟨"java/lang/RuntimeException", "<init>", "(Ljava/lang/String;)V"⟩, .declares ⟨"java/lang/Exception", "<init>", "(Ljava/lang/String;)V"⟩, .declares ⟨"java/lang/Throwable", "<init>", "(Ljava/lang/String;)V"⟩]) (fun w hw => hts w (hat_a w hw)) hatB_a (vx_c (va_Nw.use rfl hXc_a) (vx_c (va_Nw.use rfl hXd1) (vx_c (va_Nw.use rfl hXd2) (vx_c (va_Nw.use rfl hXd3) (vx_n)))))) hatG_a hXU hXN hS (hl.1.trans hml.symm) dX0_steps_34 dX0_steps_37 dX0_steps_38 dX0_steps_40 dX0_steps_43 (fun x9 h9 => (htab x9 h9).elim) (Nat.le_of_ble_eq_true rfl) (Nat.le_of_ble_eq_true rfl) (Nat.le_of_ble_eq_true rfl) (Nat.le_of_ble_eq_true rfl) hlocks (fun t ha hsz hk => ⟨(), trivial, ⟨rfl, by omega⟩, hsz, fun q h1 _ => hk q h1⟩) hS.2.2 (Nat.le_of_ble_eq_true rfl) (Nat.le_of_ble_eq_true rfl)
    · refine lv_iload_n hx hb dX0_steps_12 rfl (lv_at hl 2 rfl) ?_
      refine cx_if_lt (i := s9.toInt) (j := 0) (tgt := 34) hx hb rfl rfl dX0_steps_13 (by decide) (fun c_3 => ?_) (fun c_3 => ?_)
      · obtain ⟨sa9, hstr⟩ := hXstr.2.2.2.1
        exact vx_throwS (own := RX0) (cls := "java/lang/IllegalArgumentException") (names := ["java/lang/RuntimeException", "java/lang/Exception"]) hx hb hl9 hown (by decide +kernel) (by decide +kernel) (hts _ wm_196) (hts _ wm_18) hstr (vx_hat (L := vx_atS RX0 41 "java/lang/IllegalArgumentException" ["java/lang/RuntimeException", "java/lang/Exception"]) (B := [.castable "java/lang/IllegalArgumentException" "java/lang/IllegalArgumentException", .declares ⟨"java/lang/RuntimeException", "<init>", "(Ljava/lang/String;)V"⟩, .declares ⟨"java/lang/Exception", "<init>", "(Ljava/lang/String;)V"⟩, .declares ⟨"java/lang/Throwable", "<init>", "(Ljava/lang/String;)V"⟩]) (fun w hw => hts w (hat_a w hw)) hatB_a (vx_c (va_Nw.use rfl hXc_a) (vx_c (va_Nw.use rfl hXd1) (vx_c (va_Nw.use rfl hXd2) (vx_c (va_Nw.use rfl hXd3) (vx_n)))))) hatG_a hXU hXN hS (hl.1.trans hml.symm) dX0_steps_34 dX0_steps_37 dX0_steps_38 dX0_steps_40 dX0_steps_43 (fun x9 h9 => (htab x9 h9).elim) (Nat.le_of_ble_eq_true rfl) (Nat.le_of_ble_eq_true rfl) (Nat.le_of_ble_eq_true rfl) (Nat.le_of_ble_eq_true rfl) hlocks (fun t ha hsz hk => ⟨(), trivial, ⟨rfl, by omega⟩, hsz, fun q h1 _ => hk q h1⟩) hS.2.2 (Nat.le_of_ble_eq_true rfl) (Nat.le_of_ble_eq_true rfl)
      · refine lv_iload_n hx hb dX0_steps_16 rfl (lv_at hl 2 rfl) ?_
        refine lv_bipush (v := (32 : Int32)) hx hb dX0_steps_17 (by decide +kernel) ?_
        refine cx_icmp_gt (i := s9.toInt) (j := 32) (tgt := 34) hx hb rfl (by decide +kernel) dX0_steps_19 (by decide) (fun c_4 => ?_) (fun c_4 => ?_)
        · obtain ⟨sa9, hstr⟩ := hXstr.2.2.2.1
          exact vx_throwS (own := RX0) (cls := "java/lang/IllegalArgumentException") (names := ["java/lang/RuntimeException", "java/lang/Exception"]) hx hb hl9 hown (by decide +kernel) (by decide +kernel) (hts _ wm_196) (hts _ wm_18) hstr (vx_hat (L := vx_atS RX0 41 "java/lang/IllegalArgumentException" ["java/lang/RuntimeException", "java/lang/Exception"]) (B := [.castable "java/lang/IllegalArgumentException" "java/lang/IllegalArgumentException", .declares ⟨"java/lang/RuntimeException", "<init>", "(Ljava/lang/String;)V"⟩, .declares ⟨"java/lang/Exception", "<init>", "(Ljava/lang/String;)V"⟩, .declares ⟨"java/lang/Throwable", "<init>", "(Ljava/lang/String;)V"⟩]) (fun w hw => hts w (hat_a w hw)) hatB_a (vx_c (va_Nw.use rfl hXc_a) (vx_c (va_Nw.use rfl hXd1) (vx_c (va_Nw.use rfl hXd2) (vx_c (va_Nw.use rfl hXd3) (vx_n)))))) hatG_a hXU hXN hS (hl.1.trans hml.symm) dX0_steps_34 dX0_steps_37 dX0_steps_38 dX0_steps_40 dX0_steps_43 (fun x9 h9 => (htab x9 h9).elim) (Nat.le_of_ble_eq_true rfl) (Nat.le_of_ble_eq_true rfl) (Nat.le_of_ble_eq_true rfl) (Nat.le_of_ble_eq_true rfl) hlocks (fun t ha hsz hk => ⟨(), trivial, ⟨rfl, by omega⟩, hsz, fun q h1 _ => hk q h1⟩) hS.2.2 (Nat.le_of_ble_eq_true rfl) (Nat.le_of_ble_eq_true rfl)
        · refine lv_iload_n hx hb dX0_steps_22 rfl (lv_at hl 3 rfl) ?_
          refine lv_iconst (v := (1 : Int32)) hx hb dX0_steps_23 (by decide +kernel) ?_
          refine cx_icmp_lt (i := p9.toInt) (j := 1) (tgt := 34) hx hb rfl (by decide +kernel) dX0_steps_24 (by decide) (fun c_5 => ?_) (fun c_5 => ?_)
          · obtain ⟨sa9, hstr⟩ := hXstr.2.2.2.1
            exact vx_throwS (own := RX0) (cls := "java/lang/IllegalArgumentException") (names := ["java/lang/RuntimeException", "java/lang/Exception"]) hx hb hl9 hown (by decide +kernel) (by decide +kernel) (hts _ wm_196) (hts _ wm_18) hstr (vx_hat (L := vx_atS RX0 41 "java/lang/IllegalArgumentException" ["java/lang/RuntimeException", "java/lang/Exception"]) (B := [.castable "java/lang/IllegalArgumentException" "java/lang/IllegalArgumentException", .declares ⟨"java/lang/RuntimeException", "<init>", "(Ljava/lang/String;)V"⟩, .declares ⟨"java/lang/Exception", "<init>", "(Ljava/lang/String;)V"⟩, .declares ⟨"java/lang/Throwable", "<init>", "(Ljava/lang/String;)V"⟩]) (fun w hw => hts w (hat_a w hw)) hatB_a (vx_c (va_Nw.use rfl hXc_a) (vx_c (va_Nw.use rfl hXd1) (vx_c (va_Nw.use rfl hXd2) (vx_c (va_Nw.use rfl hXd3) (vx_n)))))) hatG_a hXU hXN hS (hl.1.trans hml.symm) dX0_steps_34 dX0_steps_37 dX0_steps_38 dX0_steps_40 dX0_steps_43 (fun x9 h9 => (htab x9 h9).elim) (Nat.le_of_ble_eq_true rfl) (Nat.le_of_ble_eq_true rfl) (Nat.le_of_ble_eq_true rfl) (Nat.le_of_ble_eq_true rfl) hlocks (fun t ha hsz hk => ⟨(), trivial, ⟨rfl, by omega⟩, hsz, fun q h1 _ => hk q h1⟩) hS.2.2 (Nat.le_of_ble_eq_true rfl) (Nat.le_of_ble_eq_true rfl)
          · refine lv_iload_n hx hb dX0_steps_27 rfl (lv_at hl 3 rfl) ?_
            refine lv_sipush (v := (5000 : Int32)) hx hb dX0_steps_28 (by decide +kernel) ?_
            refine cx_icmp_le (i := p9.toInt) (j := 5000) (tgt := 44) hx hb rfl (by decide +kernel) dX0_steps_31 (by decide) (fun c_6 => ?_) (fun c_6 => ?_)
            · refine lv_iconst (v := (0 : Int32)) hx hb dX0_steps_44 (by decide +kernel) ?_
              refine lv_istore (lv' := [(4, .int (0 : Int32)), (0, .ref (x 0)), (1, .int b9), (2, .int s9), (3, .int p9)]) hx hb dX0_steps_45 hl (by decide) rfl (fun ls hl => ?_)
              have L47 : ∀ (n : Nat) (y9 : Nat) (w9 : Nat → Int32) (H : Heap) (locs : List Loc) (ls : Array Slot), (8 - y9) < n → (y9 ≤ 8) → (∀ a b, a < y9 → b < 8 → w9 (a * 8 + b) = stV b9 s9 p9 a b) → va_P D vwCl (cw x cd f0 w9 f2 f3 g) H → va_D A (cw x cd f0 w9 f2 f3 g) → va_S A s.heap H locs → lv_has ls 7 [(0, .ref (x 0)), (1, .int b9), (2, .int s9), (3, .int p9), (4, .int (nI y9))] → W p l e ((headSpec wsX0_steps ({ frames := 6, cells := 1, slots := 6, locals := 82 } : Room)).room) s m (([.ref (x 0), .int b9, .int s9, .int p9] : List Value).toArray) below meth c H locs 0 0 (vx_MQ below (va_Qv (fun (u : Nat → Int32) => ((1 ≤ b9.toInt ∧ b9.toInt ≤ 255) ∧ (0 ≤ s9.toInt ∧ s9.toInt ≤ 32) ∧ (1 ≤ p9.toInt ∧ p9.toInt ≤ 5000)) ∧ ∀ a b, a < 8 → b < 8 → u (a * 8 + b) = stV b9 s9 p9 a b) (fun (u : Nat → Int32) (t : State) => crB D (cw x cd f0 u f2 f3 g) (cty cd) A t) A) (vx_X (fun (_ : Unit) => True) (fun (E : String) (_ : Unit) (_ : State) => (E = "java/lang/IllegalArgumentException" ∧ ¬ ((1 ≤ b9.toInt ∧ b9.toInt ≤ 255) ∧ (0 ≤ s9.toInt ∧ s9.toInt ≤ 32) ∧ (1 ≤ p9.toInt ∧ p9.toInt ≤ 5000)))) (fun _ => False)) ([.ref (x 0), .int b9, .int s9, .int p9] : List Value).toArray s 1 6 A) (F0 m 47 ls []) := by
                intro n
                induction n with
                | zero =>
                  intro y9 w9 H locs ls hn
                  exact absurd hn (Nat.not_lt_zero _)
                | succ n ih47 =>
                  intro y9 w9 H locs ls hn47 hy9 hw9 hP hD hS hl
                  refine lv_iload hx hb dX0_steps_47 (lv_at hl 4 rfl) ?_
                  refine lv_bipush (v := (8 : Int32)) hx hb dX0_steps_49 (by decide +kernel) ?_
                  refine cx_icmp_ge (i := ((y9 : Nat) : Int)) (j := 8) (tgt := 118) hx hb (nI_toInt (by omega)) (by decide +kernel) dX0_steps_51 (by decide) (fun c_7 => ?_) (fun c_7 => ?_)
                  · refine W.widen (k := 1) (n := 6) (Nat.zero_le _) (Nat.zero_le _) (vx_ret ?_)
                    exact W.vret hx hb hr (fun t ht hW => ⟨⟨w9, rfl, (by obtain rfl : y9 = 8 := (by omega); exact ⟨by omega, hw9⟩), by rw [ht]; exact hP, va_K.moved hW.alike hK, hD⟩, hS.F ht⟩) hS.2.2 dX0_steps_118
                  · refine lv_iconst (v := (0 : Int32)) hx hb dX0_steps_54 (by decide +kernel) ?_
                    refine lv_istore (lv' := [(5, .int (0 : Int32)), (0, .ref (x 0)), (1, .int b9), (2, .int s9), (3, .int p9), (4, .int (nI y9))]) hx hb dX0_steps_55 hl (by decide) rfl (fun ls hl => ?_)
                    have L57 : ∀ (n : Nat) (x9 : Nat) (w9 : Nat → Int32) (H : Heap) (locs : List Loc) (ls : Array Slot), (8 - x9) < n → (x9 ≤ 8) → (∀ a b, (a < y9 ∨ (a = y9 ∧ b < x9)) → b < 8 → w9 (a * 8 + b) = stV b9 s9 p9 a b) → va_P D vwCl (cw x cd f0 w9 f2 f3 g) H → va_D A (cw x cd f0 w9 f2 f3 g) → va_S A s.heap H locs → lv_has ls 7 [(0, .ref (x 0)), (1, .int b9), (2, .int s9), (3, .int p9), (4, .int (nI y9)), (5, .int (nI x9))] → W p l e ((headSpec wsX0_steps ({ frames := 6, cells := 1, slots := 6, locals := 82 } : Room)).room) s m (([.ref (x 0), .int b9, .int s9, .int p9] : List Value).toArray) below meth c H locs 0 0 (vx_MQ below (va_Qv (fun (u : Nat → Int32) => ((1 ≤ b9.toInt ∧ b9.toInt ≤ 255) ∧ (0 ≤ s9.toInt ∧ s9.toInt ≤ 32) ∧ (1 ≤ p9.toInt ∧ p9.toInt ≤ 5000)) ∧ ∀ a b, a < 8 → b < 8 → u (a * 8 + b) = stV b9 s9 p9 a b) (fun (u : Nat → Int32) (t : State) => crB D (cw x cd f0 u f2 f3 g) (cty cd) A t) A) (vx_X (fun (_ : Unit) => True) (fun (E : String) (_ : Unit) (_ : State) => (E = "java/lang/IllegalArgumentException" ∧ ¬ ((1 ≤ b9.toInt ∧ b9.toInt ≤ 255) ∧ (0 ≤ s9.toInt ∧ s9.toInt ≤ 32) ∧ (1 ≤ p9.toInt ∧ p9.toInt ≤ 5000)))) (fun _ => False)) ([.ref (x 0), .int b9, .int s9, .int p9] : List Value).toArray s 1 6 A) (F0 m 57 ls []) := by
                      intro n
                      induction n with
                      | zero =>
                        intro x9 w9 H locs ls hn
                        exact absurd hn (Nat.not_lt_zero _)
                      | succ n ih57 =>
                        intro x9 w9 H locs ls hn57 hx9 hv9 hP hD hS hl
                        refine lv_iload hx hb dX0_steps_57 (lv_at hl 5 rfl) ?_
                        refine lv_bipush (v := (8 : Int32)) hx hb dX0_steps_59 (by decide +kernel) ?_
                        refine cx_icmp_ge (i := ((x9 : Nat) : Int)) (j := 8) (tgt := 112) hx hb (nI_toInt (by omega)) (by decide +kernel) dX0_steps_61 (by decide) (fun c_8 => ?_) (fun c_8 => ?_)
                        · refine lv_iinc (v := nI (y9 + 1)) (lv' := [(4, .int (nI (y9 + 1))), (0, .ref (x 0)), (1, .int b9), (2, .int s9), (3, .int p9), (5, .int (nI x9))]) hx hb dX0_steps_112 hl (k := 4) rfl (by show nI y9 + 1 = nI (y9 + 1); exact nI_add y9 1) (by decide) rfl (fun ls hl => ?_)
                          refine lv_goto (tgt := 47) hx hb dX0_steps_115 (by decide) ?_
                          exact ih47 (y9 + 1) w9 _ _ _ (by omega) (by omega) (fun a b ha9 hb9 => hv9 a b (by omega) hb9) hP hD hS (lv_sub hl [1, 2, 3, 4, 0] rfl)
                        · refine lv_iload_n hx hb dX0_steps_64 rfl (lv_at hl 1 rfl) ?_
                          refine lv_iload_n hx hb dX0_steps_65 rfl (lv_at hl 2 rfl) ?_
                          refine lv_iload hx hb dX0_steps_66 (lv_at hl 5 rfl) ?_
                          refine lv_iload hx hb dX0_steps_68 (lv_at hl 4 rfl) ?_
                          refine cx_iadd hx hb x9 y9 dX0_steps_70 ?_
                          refine lv_imul hx hb dX0_steps_71 ?_
                          refine lv_iadd hx hb dX0_steps_72 ?_
                          refine lv_iload_n hx hb dX0_steps_73 rfl (lv_at hl 3 rfl) ?_
                          refine lv_imul hx hb dX0_steps_74 ?_
                          refine lv_bipush (v := (50 : Int32)) hx hb dX0_steps_75 (by decide +kernel) ?_
                          refine lv_iadd hx hb dX0_steps_77 ?_
                          refine lv_bipush (v := (100 : Int32)) hx hb dX0_steps_78 (by decide +kernel) ?_
                          refine lv_idiv hx hb dX0_steps_80 (by decide) ?_
                          refine lv_istore (lv' := [(6, .int ((((b9 + (s9 * (nI (x9 + y9)))) * p9) + (50 : Int32)) / (100 : Int32))), (0, .ref (x 0)), (1, .int b9), (2, .int s9), (3, .int p9), (4, .int (nI y9)), (5, .int (nI x9))]) hx hb dX0_steps_81 hl (by decide) rfl (fun ls hl => ?_)
                          refine lv_aload_n hx hb dX0_steps_83 rfl (lv_at hl 1 rfl) ?_
                          refine va_get (D := D) (ci := 0) (v := .ref (x 2)) (C := RX0) (T := TX0) (N := 5) hx hb hts hin0 hown hK hP 0 rfl rfl 1 (by decide) hf13 (fun _ h9 => h9) rfl dX0_steps_84 ?_
                          refine lv_iload hx hb dX0_steps_87 (lv_at hl 5 rfl) ?_
                          refine lv_bipush (v := (8 : Int32)) hx hb dX0_steps_89 (by decide +kernel) ?_
                          refine cx_imul hx hb y9 8 dX0_steps_91 ?_
                          refine lv_iload hx hb dX0_steps_92 (lv_at hl 6 rfl) ?_
                          refine cx_iadd hx hb (y9 * 8) x9 dX0_steps_94 ?_
                          refine lv_iload hx hb dX0_steps_95 (lv_at hl 0 rfl) ?_
                          refine lv_i2l hx hb dX0_steps_97 rfl ?_
                          refine lv_iconst (v := (1 : Int32)) hx hb dX0_steps_98 (by decide +kernel) ?_
                          refine lv_sipush (v := (255 : Int32)) hx hb dX0_steps_99 (by decide +kernel) ?_
                          refine vp_callSi (W.runS (As := [.long (((((b9 + (s9 * (nI (x9 + y9)))) * p9) + (50 : Int32)) / (100 : Int32)).toInt64), .int (1 : Int32), .int (255 : Int32)]) (rest := [.int (nI (y9 * 8 + x9)), .ref (x 2)]) ⟨hx, hb, hml, hown, hts⟩ (m_clamped l D (((((b9 + (s9 * (nI (x9 + y9)))) * p9) + (50 : Int32)) / (100 : Int32)).toInt64) (1 : Int32) (255 : Int32)) (va_cwS 3 hts (gw_S wm_228 wm_229 wm_12 wm_230) rfl rfl rfl (by decide +kernel) ⟨Nat.le_of_ble_eq_true rfl, Nat.le_of_ble_eq_true rfl⟩) ⟨cro_blind, fun U hU hW => ⟨rfl, cro_at (hP.sub (ws' := []) [] rfl) (hK.sub (tys' := []) [] rfl) hTb hS hU hW⟩⟩ rfl rfl hl.1 rfl (lv_room (Nat.le_of_ble_eq_true rfl)) dX0_steps_102 ⟨Nat.le_of_ble_eq_true rfl, Nat.le_of_ble_eq_true rfl⟩) (fun r_9 hr_9 => ?_)
                          rw [hr_9]
                          refine cx_iast hx hb hK hP hD hS 2 1 rfl rfl (y9 * 8 + x9) (by omega) (by decide) dX0_steps_105 (fun H locs hP hD hS => ?_)
                          have hP : va_P D vwCl (cw x cd f0 (upd w9 (y9 * 8 + x9) (clampV (((((b9 + (s9 * (nI (x9 + y9)))) * p9) + (50 : Int32)) / (100 : Int32)).toInt64) (1 : Int32) (255 : Int32))) f2 f3 g) H := hP
                          have hD : va_D A (cw x cd f0 (upd w9 (y9 * 8 + x9) (clampV (((((b9 + (s9 * (nI (x9 + y9)))) * p9) + (50 : Int32)) / (100 : Int32)).toInt64) (1 : Int32) (255 : Int32))) f2 f3 g) := hD
                          refine lv_iinc (v := nI (x9 + 1)) (lv' := [(5, .int (nI (x9 + 1))), (6, .int ((((b9 + (s9 * (nI (x9 + y9)))) * p9) + (50 : Int32)) / (100 : Int32))), (0, .ref (x 0)), (1, .int b9), (2, .int s9), (3, .int p9), (4, .int (nI y9))]) hx hb dX0_steps_106 hl (k := 6) rfl (by show nI x9 + 1 = nI (x9 + 1); exact nI_add x9 1) (by decide) rfl (fun ls hl => ?_)
                          refine lv_goto (tgt := 57) hx hb dX0_steps_109 (by decide) ?_
                          exact ih57 (x9 + 1) (upd w9 (y9 * 8 + x9) (clampV (((((b9 + (s9 * (nI (x9 + y9)))) * p9) + (50 : Int32)) / (100 : Int32)).toInt64) (1 : Int32) (255 : Int32))) _ _ _ (by omega) (by omega) (by
                              intro a b ha9 hb9
                              by_cases hq : a * 8 + b = y9 * 8 + x9
                              · obtain rfl : y9 = a := by omega
                                obtain rfl : x9 = b := by omega
                                exact pk_us
                              · rw [pk_un hq]; exact hv9 a b (by omega) hb9) hP hD hS (lv_sub hl [2, 3, 4, 5, 6, 0] rfl)
                    exact L57 _ 0 w9 _ _ _ (Nat.lt_succ_self _) (Nat.zero_le _) (fun a b ha9 hb9 => hw9 a b (by omega) hb9) hP hD hS (lv_sub hl [1, 2, 3, 4, 5, 0] rfl)
              exact L47 _ 0 f1 _ _ _ (Nat.lt_succ_self _) (Nat.zero_le _) (fun a b ha9 => absurd ha9 (Nat.not_lt_zero a)) hP hD hS (lv_sub hl [1, 2, 3, 4, 0] rfl)
            · obtain ⟨sa9, hstr⟩ := hXstr.2.2.2.1
              exact vx_throwS (own := RX0) (cls := "java/lang/IllegalArgumentException") (names := ["java/lang/RuntimeException", "java/lang/Exception"]) hx hb hl9 hown (by decide +kernel) (by decide +kernel) (hts _ wm_196) (hts _ wm_18) hstr (vx_hat (L := vx_atS RX0 41 "java/lang/IllegalArgumentException" ["java/lang/RuntimeException", "java/lang/Exception"]) (B := [.castable "java/lang/IllegalArgumentException" "java/lang/IllegalArgumentException", .declares ⟨"java/lang/RuntimeException", "<init>", "(Ljava/lang/String;)V"⟩, .declares ⟨"java/lang/Exception", "<init>", "(Ljava/lang/String;)V"⟩, .declares ⟨"java/lang/Throwable", "<init>", "(Ljava/lang/String;)V"⟩]) (fun w hw => hts w (hat_a w hw)) hatB_a (vx_c (va_Nw.use rfl hXc_a) (vx_c (va_Nw.use rfl hXd1) (vx_c (va_Nw.use rfl hXd2) (vx_c (va_Nw.use rfl hXd3) (vx_n)))))) hatG_a hXU hXN hS (hl.1.trans hml.symm) dX0_steps_34 dX0_steps_37 dX0_steps_38 dX0_steps_40 dX0_steps_43 (fun x9 h9 => (htab x9 h9).elim) (Nat.le_of_ble_eq_true rfl) (Nat.le_of_ble_eq_true rfl) (Nat.le_of_ble_eq_true rfl) (Nat.le_of_ble_eq_true rfl) hlocks (fun t ha hsz hk => ⟨(), trivial, ⟨rfl, by omega⟩, hsz, fun q h1 _ => hk q h1⟩) hS.2.2 (Nat.le_of_ble_eq_true rfl) (Nat.le_of_ble_eq_true rfl)
set_option maxHeartbeats 4000000 in
set_option maxRecDepth 100000 in
/-- row -/
theorem m_row (l : Launch) (hl9 : l.stackTraces = false) (D : va_G) (x : Nat → Nat) (cd : Nat → ClassId) (f0 f1 f2 f3 : Nat → Int32) (g : Nat → Int64) (q : Int32) (e9 : Int64) (sz : Nat) : vx_Met l yX0_row wsX0_row ({ frames := 6, cells := 1, slots := 6, locals := 82 } : Room) (va_Pc [.ref (x 0), .int q, .long e9] (crw D (cw x cd f0 f1 f2 f3 g) (cty cd) sz)) (va_Qv (fun (u : Nat → Int32) => (0 ≤ q.toInt ∧ q.toInt < 8) ∧ ∀ a b, a < 8 → b < 8 → u (a * 8 + b) = if a = q.toInt.toNat then rowV e9 b else f2 (a * 8 + b)) (fun (u : Nat → Int32) (t : State) => crB D (cw x cd f0 f1 u f3 g) (cty cd) (va_A (cw x cd f0 f1 f2 f3 g) sz) t) (va_A (cw x cd f0 f1 f2 f3 g) sz)) (vx_X (fun (_ : Unit) => True) (fun (E : String) (_ : Unit) (_ : State) => (E = "java/lang/IndexOutOfBoundsException" ∧ ¬ (0 ≤ q.toInt ∧ q.toInt < 8))) (fun _ => False)) 1 6 (va_A (cw x cd f0 f1 f2 f3 g) sz) := by
  refine vx_ofW (cc := cX0_row) (maxL := 5) (ret := none) (by decide) rfl ?_
  intro p e s m args below meth c s₁ B hml htab hv
  obtain ⟨rfl, hsz, hP, hK, hD0, hTb⟩ := hv
  have hx := B.exec
  have hb := B.bytes
  have hr := B.returns
  have hts : ∀ w ∈ wA, w.before _ s = true := fun w h => atoms_spec (ws := wsX0_row) B.pre w (List.mem_cons_of_mem _ h)
  have hown : s.vm.findClass RX0 = some m.cls := findClass_of_methodNamed B.named
  have hlocks := B.notSynchronized
  subst hsz
  have hD := hD0.self (sz := s.heap.size)
  generalize hAe : va_A (cw x cd f0 f1 f2 f3 g) s.heap.size = A at hD hTb ⊢
  have hA : ∀ q : Nat, s.heap.size ≤ q → A q := fun q h => by rw [← hAe]; exact Or.inr h
  have hS : va_S A s.heap s.heap [] := va_S.rf
  have hin0 := inA0
  have hf16 := (hts _ wm_30)
  obtain ⟨⟨t0, hZ0, hT0⟩, ⟨t1, hZ1, hT1⟩, ⟨t2, hZ2, hT2⟩, hXU, hXN, ⟨hXc_i, hXc_a, hXd1, hXd2, hXd3⟩, hXstr, -⟩ := id hTb
  have hl := lv_entry ([.ref (x 0), .int q, .long e9]) (n := 5) (Nat.le_of_ble_eq_true rfl)
  rw [lg_entry_eq]
  generalize (lg_sl ([.ref (x 0), .int q, .long e9]) ++ List.replicate (5 - (lg_sl ([.ref (x 0), .int q, .long e9])).length) Slot.unset).toArray = ls at hl ⊢
  have hl : lv_has ls 5 [(0, .ref (x 0)), (1, .int q), (2, .long e9)] := hl
  refine lv_iload_n hx hb dX0_row_0 rfl (lv_at hl 1 rfl) ?_
  refine vp_callSi (W.runS (As := [.int q]) (rest := []) ⟨hx, hb, hml, hown, hts⟩ (m_isLine l D q) (va_cwS 1 hts (gw_S wm_91 wm_92 wm_12 wm_93) rfl rfl rfl (by decide +kernel) ⟨Nat.le_of_ble_eq_true rfl, Nat.le_of_ble_eq_true rfl⟩) ⟨cro_blind, fun U hU hW => ⟨rfl, cro_at (hP.sub (ws' := []) [] rfl) (hK.sub (tys' := []) [] rfl) hTb hS hU hW⟩⟩ rfl rfl hl.1 rfl (lv_room (Nat.le_of_ble_eq_true rfl)) dX0_row_1 ⟨Nat.le_of_ble_eq_true rfl, Nat.le_of_ble_eq_true rfl⟩) (fun r_1 hr_1 => ?_)
  rcases hr_1 with ⟨rfl, ha9, hb9⟩ | ⟨rfl, ha9⟩
  · refine cx_if_ne (i := 1) (j := 0) (tgt := 17) hx hb (by decide +kernel) rfl dX0_row_4 (by decide) (fun c_2 => ?_) (fun c_2 => absurd c_2 (by decide))
    obtain ⟨j9, hj9, hej⟩ := cx_ofN (x := q) (n := 8) (by omega) (by omega) (by decide)
    have e_3 : q = nI j9 := hej
    rw [e_3] at hl
    refine lv_iconst (v := (0 : Int32)) hx hb dX0_row_17 (by decide +kernel) ?_
    refine lv_istore (lv' := [(4, .int (0 : Int32)), (0, .ref (x 0)), (1, .int (nI j9)), (2, .long e9)]) hx hb dX0_row_18 hl (by decide) rfl (fun ls hl => ?_)
    have L20 : ∀ (n : Nat) (x9 : Nat) (w9 : Nat → Int32) (H : Heap) (locs : List Loc) (ls : Array Slot), (8 - x9) < n → (x9 ≤ 8) → (∀ a b, a < 8 → b < 8 → w9 (a * 8 + b) = if a = j9 ∧ b < x9 then rowV e9 b else f2 (a * 8 + b)) → va_P D vwCl (cw x cd f0 f1 w9 f3 g) H → va_D A (cw x cd f0 f1 w9 f3 g) → va_S A s.heap H locs → lv_has ls 5 [(0, .ref (x 0)), (1, .int (nI j9)), (2, .long e9), (4, .int (nI x9))] → W p l e ((headSpec wsX0_row ({ frames := 6, cells := 1, slots := 6, locals := 82 } : Room)).room) s m (([.ref (x 0), .int q, .long e9] : List Value).toArray) below meth c H locs 0 0 (vx_MQ below (va_Qv (fun (u : Nat → Int32) => (0 ≤ q.toInt ∧ q.toInt < 8) ∧ ∀ a b, a < 8 → b < 8 → u (a * 8 + b) = if a = q.toInt.toNat then rowV e9 b else f2 (a * 8 + b)) (fun (u : Nat → Int32) (t : State) => crB D (cw x cd f0 f1 u f3 g) (cty cd) A t) A) (vx_X (fun (_ : Unit) => True) (fun (E : String) (_ : Unit) (_ : State) => (E = "java/lang/IndexOutOfBoundsException" ∧ ¬ (0 ≤ q.toInt ∧ q.toInt < 8))) (fun _ => False)) ([.ref (x 0), .int q, .long e9] : List Value).toArray s 1 6 A) (F0 m 20 ls []) := by
      intro n
      induction n with
      | zero =>
        intro x9 w9 H locs ls hn
        exact absurd hn (Nat.not_lt_zero _)
      | succ n ih20 =>
        intro x9 w9 H locs ls hn20 hx9 hw9 hP hD hS hl
        refine lv_iload hx hb dX0_row_20 (lv_at hl 3 rfl) ?_
        refine lv_bipush (v := (8 : Int32)) hx hb dX0_row_22 (by decide +kernel) ?_
        refine cx_icmp_ge (i := ((x9 : Nat) : Int)) (j := 8) (tgt := 60) hx hb (nI_toInt (by omega)) (by decide +kernel) dX0_row_24 (by decide) (fun c_4 => ?_) (fun c_4 => ?_)
        · refine W.widen (k := 1) (n := 6) (Nat.zero_le _) (Nat.zero_le _) (vx_ret ?_)
          exact W.vret hx hb hr (fun t ht hW => ⟨⟨w9, rfl, (by
                                           obtain rfl : x9 = 8 := by omega
                                           refine ⟨by omega, fun a b ha9 hb9 => ?_⟩
                                           rw [hw9 a b ha9 hb9, hej, cx_toNat (by omega)]
                                           by_cases hz : a = j9
                                           · rw [if_pos hz, if_pos (by omega)]
                                           · rw [if_neg hz, if_neg (by omega)]), by rw [ht]; exact hP, va_K.moved hW.alike hK, hD⟩, hS.F ht⟩) hS.2.2 dX0_row_60
        · refine lv_aload_n hx hb dX0_row_27 rfl (lv_at hl 0 rfl) ?_
          refine va_get (D := D) (ci := 0) (v := .ref (x 3)) (C := RX0) (T := TX0) (N := 5) hx hb hts hin0 hown hK hP 0 rfl rfl 2 (by decide) hf16 (fun _ h9 => h9) rfl dX0_row_28 ?_
          refine lv_iload_n hx hb dX0_row_31 rfl (lv_at hl 1 rfl) ?_
          refine lv_bipush (v := (8 : Int32)) hx hb dX0_row_32 (by decide +kernel) ?_
          refine cx_imul hx hb j9 8 dX0_row_34 ?_
          refine lv_iload hx hb dX0_row_35 (lv_at hl 3 rfl) ?_
          refine cx_iadd hx hb (j9 * 8) x9 dX0_row_37 ?_
          refine lv_lload_n hx hb dX0_row_38 rfl (lv_at hl 2 rfl) ?_
          refine lv_bipush (v := (56 : Int32)) hx hb dX0_row_39 (by decide +kernel) ?_
          refine lv_bipush (v := (8 : Int32)) hx hb dX0_row_41 (by decide +kernel) ?_
          refine lv_iload hx hb dX0_row_43 (lv_at hl 3 rfl) ?_
          refine cx_imul hx hb 8 x9 dX0_row_45 ?_
          refine cx_isub hx hb 56 (8 * x9) (by omega) dX0_row_46 ?_
          refine lv_lushr hx hb dX0_row_47 rfl ?_
          refine lv_l2i hx hb dX0_row_48 rfl ?_
          refine lv_sipush (v := (255 : Int32)) hx hb dX0_row_49 (by decide +kernel) ?_
          refine lv_iand hx hb dX0_row_52 ?_
          refine cx_iast hx hb hK hP hD hS 3 2 rfl rfl (j9 * 8 + x9) (by omega) (by decide) dX0_row_53 (fun H locs hP hD hS => ?_)
          have hP : va_P D vwCl (cw x cd f0 f1 (upd w9 (j9 * 8 + x9) ((((e9.toUInt64 >>> ((nI (56 - (8 * x9))).toInt64.toUInt64 &&& Int64.toUInt64 63)).toInt64).toInt32) &&& (255 : Int32))) f3 g) H := hP
          have hD : va_D A (cw x cd f0 f1 (upd w9 (j9 * 8 + x9) ((((e9.toUInt64 >>> ((nI (56 - (8 * x9))).toInt64.toUInt64 &&& Int64.toUInt64 63)).toInt64).toInt32) &&& (255 : Int32))) f3 g) := hD
          refine lv_iinc (v := nI (x9 + 1)) (lv' := [(4, .int (nI (x9 + 1))), (0, .ref (x 0)), (1, .int (nI j9)), (2, .long e9)]) hx hb dX0_row_54 hl (k := 3) rfl (by show nI x9 + 1 = nI (x9 + 1); exact nI_add x9 1) (by decide) rfl (fun ls hl => ?_)
          refine lv_goto (tgt := 20) hx hb dX0_row_57 (by decide) ?_
          exact ih20 (x9 + 1) (upd w9 (j9 * 8 + x9) ((((e9.toUInt64 >>> ((nI (56 - (8 * x9))).toInt64.toUInt64 &&& Int64.toUInt64 63)).toInt64).toInt32) &&& (255 : Int32))) _ _ _ (by omega) (by omega) (by
              intro a b ha9 hb9
              by_cases hq : a * 8 + b = j9 * 8 + x9
              · obtain rfl : j9 = a := by omega
                obtain rfl : x9 = b := by omega
                rw [if_pos (by omega)]; exact pk_us
              · rw [pk_un hq, hw9 a b ha9 hb9]
                by_cases hz : a = j9 ∧ b < x9
                · rw [if_pos hz, if_pos (by omega)]
                · rw [if_neg hz, if_neg (by omega)]) hP hD hS (lv_sub hl [1, 2, 3, 0] rfl)
    exact L20 _ 0 f2 _ _ _ (Nat.lt_succ_self _) (Nat.zero_le _) (fun a b _ _ => by rw [if_neg (by omega)]) hP hD hS (lv_sub hl [1, 2, 3, 0] rfl)
  · refine cx_if_ne (i := 0) (j := 0) (tgt := 17) hx hb (by decide +kernel) rfl dX0_row_4 (by decide) (fun c_5 => absurd c_5 (by decide)) (fun c_5 => ?_)
    obtain ⟨sa9, hstr⟩ := hXstr.2.2.2.2.1
    exact vx_throwS (own := RX0) (cls := "java/lang/IndexOutOfBoundsException") (names := ["java/lang/RuntimeException", "java/lang/Exception"]) hx hb hl9 hown (by decide +kernel) (by decide +kernel) (hts _ wm_129) (hts _ wm_17) hstr (vx_hat (L := vx_atS RX0 34 "java/lang/IndexOutOfBoundsException" ["java/lang/RuntimeException", "java/lang/Exception"]) (B := [.castable "java/lang/IndexOutOfBoundsException" "java/lang/IndexOutOfBoundsException", .declares ⟨"java/lang/RuntimeException", "<init>", "(Ljava/lang/String;)V"⟩, .declares ⟨"java/lang/Exception", "<init>", "(Ljava/lang/String;)V"⟩, .declares ⟨"java/lang/Throwable", "<init>", "(Ljava/lang/String;)V"⟩]) (fun w hw => hts w (hat_i w hw)) hatB_i (vx_c (va_Nw.use rfl hXc_i) (vx_c (va_Nw.use rfl hXd1) (vx_c (va_Nw.use rfl hXd2) (vx_c (va_Nw.use rfl hXd3) (vx_n)))))) hatG_i hXU hXN hS (hl.1.trans hml.symm) dX0_row_7 dX0_row_10 dX0_row_11 dX0_row_13 dX0_row_16 (fun x9 h9 => (htab x9 h9).elim) (Nat.le_of_ble_eq_true rfl) (Nat.le_of_ble_eq_true rfl) (Nat.le_of_ble_eq_true rfl) (Nat.le_of_ble_eq_true rfl) hlocks (fun t ha hsz hk => ⟨(), trivial, ⟨rfl, by omega⟩, hsz, fun q h1 _ => hk q h1⟩) hS.2.2 (Nat.le_of_ble_eq_true rfl) (Nat.le_of_ble_eq_true rfl)
end
section
theorem dX0_back_0 : decode cX0_back 0 = .ok (.iload_n 1, 1) := by decide +kernel
theorem dX0_back_1 : decode cX0_back 1 = .ok (.invokestatic 58, 3) := by decide +kernel
theorem dX0_back_4 : decode cX0_back 4 = .ok (.istore_n 2, 1) := by decide +kernel
theorem dX0_back_5 : decode cX0_back 5 = .ok (.iload_n 2, 1) := by decide +kernel
theorem dX0_back_6 : decode cX0_back 6 = .ok (.ifCond .ne 13, 3) := by decide +kernel
theorem dX0_back_9 : decode cX0_back 9 = .ok (.new 37, 3) := by decide +kernel
theorem dX0_back_12 : decode cX0_back 12 = .ok (.dup, 1) := by decide +kernel
theorem dX0_back_13 : decode cX0_back 13 = .ok (.ldc 62, 2) := by decide +kernel
theorem dX0_back_15 : decode cX0_back 15 = .ok (.invokespecial 41, 3) := by decide +kernel
theorem dX0_back_18 : decode cX0_back 18 = .ok (.athrow, 1) := by decide +kernel
theorem dX0_back_19 : decode cX0_back 19 = .ok (.aload_n 0, 1) := by decide +kernel
theorem dX0_back_20 : decode cX0_back 20 = .ok (.iload_n 1, 1) := by decide +kernel
theorem dX0_back_21 : decode cX0_back 21 = .ok (.iload_n 2, 1) := by decide +kernel
theorem dX0_back_22 : decode cX0_back 22 = .ok (.invokevirtual 64, 3) := by decide +kernel
theorem dX0_back_25 : decode cX0_back 25 = .ok (.lstore_n 3, 1) := by decide +kernel
theorem dX0_back_26 : decode cX0_back 26 = .ok (.aload_n 0, 1) := by decide +kernel
theorem dX0_back_27 : decode cX0_back 27 = .ok (.iload_n 1, 1) := by decide +kernel
theorem dX0_back_28 : decode cX0_back 28 = .ok (.iload_n 2, 1) := by decide +kernel
theorem dX0_back_29 : decode cX0_back 29 = .ok (.invokevirtual 68, 3) := by decide +kernel
theorem dX0_back_32 : decode cX0_back 32 = .ok (.lload_n 3, 1) := by decide +kernel
theorem dX0_back_33 : decode cX0_back 33 = .ok (.lreturn, 1) := by decide +kernel
theorem dX0_error_0 : decode cX0_error 0 = .ok (.iload_n 1, 1) := by decide +kernel
theorem dX0_error_1 : decode cX0_error 1 = .ok (.iconst 1, 1) := by decide +kernel
theorem dX0_error_2 : decode cX0_error 2 = .ok (.if_icmp .lt 9, 3) := by decide +kernel
theorem dX0_error_5 : decode cX0_error 5 = .ok (.iload_n 1, 1) := by decide +kernel
theorem dX0_error_6 : decode cX0_error 6 = .ok (.bipush 8, 2) := by decide +kernel
theorem dX0_error_8 : decode cX0_error 8 = .ok (.if_icmp .le 13, 3) := by decide +kernel
theorem dX0_error_11 : decode cX0_error 11 = .ok (.new 37, 3) := by decide +kernel
theorem dX0_error_14 : decode cX0_error 14 = .ok (.dup, 1) := by decide +kernel
theorem dX0_error_15 : decode cX0_error 15 = .ok (.ldc 87, 2) := by decide +kernel
theorem dX0_error_17 : decode cX0_error 17 = .ok (.invokespecial 41, 3) := by decide +kernel
theorem dX0_error_20 : decode cX0_error 20 = .ok (.athrow, 1) := by decide +kernel
theorem dX0_error_21 : decode cX0_error 21 = .ok (.iconst 0, 1) := by decide +kernel
theorem dX0_error_22 : decode cX0_error 22 = .ok (.istore_n 2, 1) := by decide +kernel
theorem dX0_error_23 : decode cX0_error 23 = .ok (.iconst 0, 1) := by decide +kernel
theorem dX0_error_24 : decode cX0_error 24 = .ok (.istore_n 3, 1) := by decide +kernel
theorem dX0_error_25 : decode cX0_error 25 = .ok (.iload_n 3, 1) := by decide +kernel
theorem dX0_error_26 : decode cX0_error 26 = .ok (.iload_n 1, 1) := by decide +kernel
theorem dX0_error_27 : decode cX0_error 27 = .ok (.if_icmp .ge 59, 3) := by decide +kernel
theorem dX0_error_30 : decode cX0_error 30 = .ok (.iconst 0, 1) := by decide +kernel
theorem dX0_error_31 : decode cX0_error 31 = .ok (.istore 4, 2) := by decide +kernel
theorem dX0_error_33 : decode cX0_error 33 = .ok (.iload 4, 2) := by decide +kernel
theorem dX0_error_35 : decode cX0_error 35 = .ok (.iload_n 1, 1) := by decide +kernel
theorem dX0_error_36 : decode cX0_error 36 = .ok (.if_icmp .ge 44, 3) := by decide +kernel
theorem dX0_error_39 : decode cX0_error 39 = .ok (.aload_n 0, 1) := by decide +kernel
theorem dX0_error_40 : decode cX0_error 40 = .ok (.getfield 16, 3) := by decide +kernel
theorem dX0_error_43 : decode cX0_error 43 = .ok (.iload_n 3, 1) := by decide +kernel
theorem dX0_error_44 : decode cX0_error 44 = .ok (.bipush 8, 2) := by decide +kernel
theorem dX0_error_46 : decode cX0_error 46 = .ok (.imul, 1) := by decide +kernel
theorem dX0_error_47 : decode cX0_error 47 = .ok (.iload 4, 2) := by decide +kernel
theorem dX0_error_49 : decode cX0_error 49 = .ok (.iadd, 1) := by decide +kernel
theorem dX0_error_50 : decode cX0_error 50 = .ok (.iaload, 1) := by decide +kernel
theorem dX0_error_51 : decode cX0_error 51 = .ok (.aload_n 0, 1) := by decide +kernel
theorem dX0_error_52 : decode cX0_error 52 = .ok (.getfield 19, 3) := by decide +kernel
theorem dX0_error_55 : decode cX0_error 55 = .ok (.iload_n 3, 1) := by decide +kernel
theorem dX0_error_56 : decode cX0_error 56 = .ok (.bipush 8, 2) := by decide +kernel
theorem dX0_error_58 : decode cX0_error 58 = .ok (.imul, 1) := by decide +kernel
theorem dX0_error_59 : decode cX0_error 59 = .ok (.iload 4, 2) := by decide +kernel
theorem dX0_error_61 : decode cX0_error 61 = .ok (.iadd, 1) := by decide +kernel
theorem dX0_error_62 : decode cX0_error 62 = .ok (.iaload, 1) := by decide +kernel
theorem dX0_error_63 : decode cX0_error 63 = .ok (.isub, 1) := by decide +kernel
theorem dX0_error_64 : decode cX0_error 64 = .ok (.istore 5, 2) := by decide +kernel
theorem dX0_error_66 : decode cX0_error 66 = .ok (.iload_n 2, 1) := by decide +kernel
theorem dX0_error_67 : decode cX0_error 67 = .ok (.iload 5, 2) := by decide +kernel
theorem dX0_error_69 : decode cX0_error 69 = .ok (.iload 5, 2) := by decide +kernel
theorem dX0_error_71 : decode cX0_error 71 = .ok (.imul, 1) := by decide +kernel
theorem dX0_error_72 : decode cX0_error 72 = .ok (.iadd, 1) := by decide +kernel
theorem dX0_error_73 : decode cX0_error 73 = .ok (.istore_n 2, 1) := by decide +kernel
theorem dX0_error_74 : decode cX0_error 74 = .ok (.iinc 4 1, 3) := by decide +kernel
theorem dX0_error_77 : decode cX0_error 77 = .ok (.goto (-44), 3) := by decide +kernel
theorem dX0_error_80 : decode cX0_error 80 = .ok (.iinc 3 1, 3) := by decide +kernel
theorem dX0_error_83 : decode cX0_error 83 = .ok (.goto (-58), 3) := by decide +kernel
theorem dX0_error_86 : decode cX0_error 86 = .ok (.iload_n 2, 1) := by decide +kernel
theorem dX0_error_87 : decode cX0_error 87 = .ok (.ireturn, 1) := by decide +kernel
theorem dX0_at_0 : decode cX0_at 0 = .ok (.iload_n 1, 1) := by decide +kernel
theorem dX0_at_1 : decode cX0_at 1 = .ok (.invokestatic 26, 3) := by decide +kernel
theorem dX0_at_4 : decode cX0_at 4 = .ok (.ifCond .eq 12, 3) := by decide +kernel
theorem dX0_at_7 : decode cX0_at 7 = .ok (.iload_n 2, 1) := by decide +kernel
theorem dX0_at_8 : decode cX0_at 8 = .ok (.ifCond .lt 8, 3) := by decide +kernel
theorem dX0_at_11 : decode cX0_at 11 = .ok (.iload_n 2, 1) := by decide +kernel
theorem dX0_at_12 : decode cX0_at 12 = .ok (.iconst 3, 1) := by decide +kernel
theorem dX0_at_13 : decode cX0_at 13 = .ok (.if_icmp .le 13, 3) := by decide +kernel
theorem dX0_at_16 : decode cX0_at 16 = .ok (.new 30, 3) := by decide +kernel
theorem dX0_at_19 : decode cX0_at 19 = .ok (.dup, 1) := by decide +kernel
theorem dX0_at_20 : decode cX0_at 20 = .ok (.ldc 89, 2) := by decide +kernel
theorem dX0_at_22 : decode cX0_at 22 = .ok (.invokespecial 34, 3) := by decide +kernel
theorem dX0_at_25 : decode cX0_at 25 = .ok (.athrow, 1) := by decide +kernel
theorem dX0_at_26 : decode cX0_at 26 = .ok (.getstatic 42, 3) := by decide +kernel
theorem dX0_at_29 : decode cX0_at 29 = .ok (.iload_n 1, 1) := by decide +kernel
theorem dX0_at_30 : decode cX0_at 30 = .ok (.iaload, 1) := by decide +kernel
theorem dX0_at_31 : decode cX0_at 31 = .ok (.istore_n 3, 1) := by decide +kernel
theorem dX0_at_32 : decode cX0_at 32 = .ok (.iload_n 2, 1) := by decide +kernel
theorem dX0_at_33 : decode cX0_at 33 = .ok (.tableswitch 45 0 2 #[27, 34, 41], 27) := by decide +kernel
theorem dX0_at_60 : decode cX0_at 60 = .ok (.aload_n 0, 1) := by decide +kernel
theorem dX0_at_61 : decode cX0_at 61 = .ok (.getfield 9, 3) := by decide +kernel
theorem dX0_at_64 : decode cX0_at 64 = .ok (.iload_n 3, 1) := by decide +kernel
theorem dX0_at_65 : decode cX0_at 65 = .ok (.iaload, 1) := by decide +kernel
theorem dX0_at_66 : decode cX0_at 66 = .ok (.ireturn, 1) := by decide +kernel
theorem dX0_at_67 : decode cX0_at 67 = .ok (.aload_n 0, 1) := by decide +kernel
theorem dX0_at_68 : decode cX0_at 68 = .ok (.getfield 13, 3) := by decide +kernel
theorem dX0_at_71 : decode cX0_at 71 = .ok (.iload_n 3, 1) := by decide +kernel
theorem dX0_at_72 : decode cX0_at 72 = .ok (.iaload, 1) := by decide +kernel
theorem dX0_at_73 : decode cX0_at 73 = .ok (.ireturn, 1) := by decide +kernel
theorem dX0_at_74 : decode cX0_at 74 = .ok (.iload_n 3, 1) := by decide +kernel
theorem dX0_at_75 : decode cX0_at 75 = .ok (.iconst 3, 1) := by decide +kernel
theorem dX0_at_76 : decode cX0_at 76 = .ok (.ishr, 1) := by decide +kernel
theorem dX0_at_77 : decode cX0_at 77 = .ok (.ireturn, 1) := by decide +kernel
theorem dX0_at_78 : decode cX0_at 78 = .ok (.iload_n 3, 1) := by decide +kernel
theorem dX0_at_79 : decode cX0_at 79 = .ok (.bipush 7, 2) := by decide +kernel
theorem dX0_at_81 : decode cX0_at 81 = .ok (.iand, 1) := by decide +kernel
theorem dX0_at_82 : decode cX0_at 82 = .ok (.ireturn, 1) := by decide +kernel
theorem dX0_exact_0 : decode cX0_exact 0 = .ok (.iload_n 1, 1) := by decide +kernel
theorem dX0_exact_1 : decode cX0_exact 1 = .ok (.invokestatic 53, 3) := by decide +kernel
theorem dX0_exact_4 : decode cX0_exact 4 = .ok (.ifCond .eq 10, 3) := by decide +kernel
theorem dX0_exact_7 : decode cX0_exact 7 = .ok (.iload_n 2, 1) := by decide +kernel
theorem dX0_exact_8 : decode cX0_exact 8 = .ok (.invokestatic 53, 3) := by decide +kernel
theorem dX0_exact_11 : decode cX0_exact 11 = .ok (.ifCond .ne 13, 3) := by decide +kernel
theorem dX0_exact_14 : decode cX0_exact 14 = .ok (.new 30, 3) := by decide +kernel
theorem dX0_exact_17 : decode cX0_exact 17 = .ok (.dup, 1) := by decide +kernel
theorem dX0_exact_18 : decode cX0_exact 18 = .ok (.ldc 32, 2) := by decide +kernel
theorem dX0_exact_20 : decode cX0_exact 20 = .ok (.invokespecial 34, 3) := by decide +kernel
theorem dX0_exact_23 : decode cX0_exact 23 = .ok (.athrow, 1) := by decide +kernel
theorem dX0_exact_24 : decode cX0_exact 24 = .ok (.aload_n 0, 1) := by decide +kernel
theorem dX0_exact_25 : decode cX0_exact 25 = .ok (.iload_n 1, 1) := by decide +kernel
theorem dX0_exact_26 : decode cX0_exact 26 = .ok (.invokevirtual 72, 3) := by decide +kernel
theorem dX0_exact_29 : decode cX0_exact 29 = .ok (.aload_n 0, 1) := by decide +kernel
theorem dX0_exact_30 : decode cX0_exact 30 = .ok (.iload_n 1, 1) := by decide +kernel
theorem dX0_exact_31 : decode cX0_exact 31 = .ok (.iload_n 2, 1) := by decide +kernel
theorem dX0_exact_32 : decode cX0_exact 32 = .ok (.invokevirtual 76, 3) := by decide +kernel
theorem dX0_exact_35 : decode cX0_exact 35 = .ok (.ireturn, 1) := by decide +kernel
theorem dX0_wave_0 : decode cX0_wave 0 = .ok (.iload_n 1, 1) := by decide +kernel
theorem dX0_wave_1 : decode cX0_wave 1 = .ok (.invokestatic 58, 3) := by decide +kernel
theorem dX0_wave_4 : decode cX0_wave 4 = .ok (.istore 4, 2) := by decide +kernel
theorem dX0_wave_6 : decode cX0_wave 6 = .ok (.iload 4, 2) := by decide +kernel
theorem dX0_wave_8 : decode cX0_wave 8 = .ok (.ifCond .eq 21, 3) := by decide +kernel
theorem dX0_wave_11 : decode cX0_wave 11 = .ok (.iload_n 2, 1) := by decide +kernel
theorem dX0_wave_12 : decode cX0_wave 12 = .ok (.ifCond .lt 17, 3) := by decide +kernel
theorem dX0_wave_15 : decode cX0_wave 15 = .ok (.iload_n 2, 1) := by decide +kernel
theorem dX0_wave_16 : decode cX0_wave 16 = .ok (.iload_n 1, 1) := by decide +kernel
theorem dX0_wave_17 : decode cX0_wave 17 = .ok (.if_icmp .ge 12, 3) := by decide +kernel
theorem dX0_wave_20 : decode cX0_wave 20 = .ok (.iload_n 3, 1) := by decide +kernel
theorem dX0_wave_21 : decode cX0_wave 21 = .ok (.ifCond .lt 8, 3) := by decide +kernel
theorem dX0_wave_24 : decode cX0_wave 24 = .ok (.iload_n 3, 1) := by decide +kernel
theorem dX0_wave_25 : decode cX0_wave 25 = .ok (.iload_n 1, 1) := by decide +kernel
theorem dX0_wave_26 : decode cX0_wave 26 = .ok (.if_icmp .lt 13, 3) := by decide +kernel
theorem dX0_wave_29 : decode cX0_wave 29 = .ok (.new 37, 3) := by decide +kernel
theorem dX0_wave_32 : decode cX0_wave 32 = .ok (.dup, 1) := by decide +kernel
theorem dX0_wave_33 : decode cX0_wave 33 = .ok (.ldc 94, 2) := by decide +kernel
theorem dX0_wave_35 : decode cX0_wave 35 = .ok (.invokespecial 41, 3) := by decide +kernel
theorem dX0_wave_38 : decode cX0_wave 38 = .ok (.athrow, 1) := by decide +kernel
theorem dX0_wave_39 : decode cX0_wave 39 = .ok (.iload 4, 2) := by decide +kernel
theorem dX0_wave_41 : decode cX0_wave 41 = .ok (.iload_n 2, 1) := by decide +kernel
theorem dX0_wave_42 : decode cX0_wave 42 = .ok (.iload_n 3, 1) := by decide +kernel
theorem dX0_wave_43 : decode cX0_wave 43 = .ok (.invokestatic 96, 3) := by decide +kernel
theorem dX0_wave_46 : decode cX0_wave 46 = .ok (.ireturn, 1) := by decide +kernel
set_option maxHeartbeats 4000000 in
set_option maxRecDepth 100000 in
/-- back -/
theorem m_back (l : Launch) (hl9 : l.stackTraces = false) (D : va_G) (x : Nat → Nat) (cd : Nat → ClassId) (f0 f1 f2 f3 : Nat → Int32) (g : Nat → Int64) (q : Int32) (sz : Nat) : vx_Met l yX0_back wsX0_back ({ frames := 6, cells := 1, slots := 6, locals := 82 } : Room) (va_Pc [.ref (x 0), .int q] (crw D (cw x cd f0 f1 f2 f3 g) (cty cd) sz)) (va_Ql (fun (r : Int64) (u9 : (Nat → Int32) × (Nat → Int64)) => match u9 with | (u, g8) => szOk q ∧ r = bG (bP (8 / q.toInt.toNat) q.toInt.toNat f0 f1) q.toInt.toNat q.toInt.toNat ∧ ∀ a b, a < 8 → b < 8 → u (a * 8 + b) = if a < q.toInt.toNat ∧ b < q.toInt.toNat then bS (8 / q.toInt.toNat) q.toInt.toNat (bP (8 / q.toInt.toNat) q.toInt.toNat f0 f1) a b else f2 (a * 8 + b)) (fun (u9 : (Nat → Int32) × (Nat → Int64)) (t : State) => match u9 with | (u, g8) => crB D (cw x cd f0 f1 u f3 g8) (cty cd) (va_A (cw x cd f0 f1 f2 f3 g) sz) t) (va_A (cw x cd f0 f1 f2 f3 g) sz)) (vx_X (fun (_ : Unit) => True) (fun (E : String) (_ : Unit) (_ : State) => (E = "java/lang/IllegalArgumentException" ∧ ¬ szOk q)) (fun _ => False)) 1 6 (va_A (cw x cd f0 f1 f2 f3 g) sz) := by
  refine vx_ofW (cc := cX0_back) (maxL := 5) (ret := some .long) (by decide) rfl ?_
  intro p e s m args below meth c s₁ B hml htab hv
  obtain ⟨rfl, hsz, hP, hK, hD0, hTb⟩ := hv
  have hx := B.exec
  have hb := B.bytes
  have hr := B.returns
  have hts : ∀ w ∈ wA, w.before _ s = true := fun w h => atoms_spec (ws := wsX0_back) B.pre w (List.mem_cons_of_mem _ h)
  have hown : s.vm.findClass RX0 = some m.cls := findClass_of_methodNamed B.named
  have hlocks := B.notSynchronized
  subst hsz
  have hD := hD0.self (sz := s.heap.size)
  generalize hAe : va_A (cw x cd f0 f1 f2 f3 g) s.heap.size = A at hD hTb ⊢
  have hA : ∀ q : Nat, s.heap.size ≤ q → A q := fun q h => by rw [← hAe]; exact Or.inr h
  have hS : va_S A s.heap s.heap [] := va_S.rf
  obtain ⟨⟨t0, hZ0, hT0⟩, ⟨t1, hZ1, hT1⟩, ⟨t2, hZ2, hT2⟩, hXU, hXN, ⟨hXc_i, hXc_a, hXd1, hXd2, hXd3⟩, hXstr, -⟩ := id hTb
  have hl := lv_entry ([.ref (x 0), .int q]) (n := 5) (Nat.le_of_ble_eq_true rfl)
  rw [lg_entry_eq]
  generalize (lg_sl ([.ref (x 0), .int q]) ++ List.replicate (5 - (lg_sl ([.ref (x 0), .int q])).length) Slot.unset).toArray = ls at hl ⊢
  have hl : lv_has ls 5 [(0, .ref (x 0)), (1, .int q)] := hl
  refine lv_iload_n hx hb dX0_back_0 rfl (lv_at hl 1 rfl) ?_
  refine vp_callSi (W.runS (As := [.int q]) (rest := []) ⟨hx, hb, hml, hown, hts⟩ (m_spreadOf l D q) (va_cwS 1 hts (gw_S wm_246 wm_247 wm_12 wm_248) rfl rfl rfl (by decide +kernel) ⟨Nat.le_of_ble_eq_true rfl, Nat.le_of_ble_eq_true rfl⟩) ⟨cro_blind, fun U hU hW => ⟨rfl, cro_at (hP.sub (ws' := []) [] rfl) (hK.sub (tys' := []) [] rfl) hTb hS hU hW⟩⟩ rfl rfl hl.1 rfl (lv_room (Nat.le_of_ble_eq_true rfl)) dX0_back_1 ⟨Nat.le_of_ble_eq_true rfl, Nat.le_of_ble_eq_true rfl⟩) (fun r_1 hr_1 => ?_)
  rcases hr_1 with ⟨nn, sp, hsz9, rfl⟩ | ⟨rfl, hno9⟩
  · obtain ⟨hbn, hbs, hbp, hq1, hq2, hq3⟩ := isSz_facts hsz9
    obtain ⟨heq9, -⟩ := hsz9
    have e_2 : q = nI nn := heq9
    rw [e_2] at hl
    refine lv_istore_n (lv' := [(2, .int (nI sp)), (0, .ref (x 0)), (1, .int (nI nn))]) hx hb dX0_back_4 rfl hl (by decide) rfl (fun ls hl => ?_)
    refine lv_iload_n hx hb dX0_back_5 rfl (lv_at hl 0 rfl) ?_
    refine cx_if_ne (i := ((sp : Nat) : Int)) (j := 0) (tgt := 19) hx hb (nI_toInt (by omega)) rfl dX0_back_6 (by decide) (fun c_3 => ?_) (fun c_3 => ?_)
    · refine lv_aload_n hx hb dX0_back_19 rfl (lv_at hl 1 rfl) ?_
      refine lv_iload_n hx hb dX0_back_20 rfl (lv_at hl 2 rfl) ?_
      refine lv_iload_n hx hb dX0_back_21 rfl (lv_at hl 0 rfl) ?_
      have hFc := va_free (wc := cw x cd f0 f1 f2 f3 g) hD hS hA [0, 1, 2, 3, 4, 5] rfl
      refine va_calll (va_runV (As := [.int (nI nn), .int (nI sp)]) (rest := []) ⟨hx, hb, hml, hown, hts⟩ (m_backDown l D x cd f0 f1 f2 f3 g nn sp (by omega) (by omega) _) (cwV 2 hts (gw_V wm_250 wm_252 wm_6 wm_12 wm_253) rfl rfl rfl (by decide +kernel) ⟨Nat.le_of_ble_eq_true rfl, Nat.le_of_ble_eq_true rfl⟩) ⟨crw_blind, va_recv hK hP (ci := 0) (q0 := 0) rfl rfl, fun U hU hW => ⟨rfl, crw_at hP hK hD hTb hS hFc hU hW⟩⟩ rfl rfl hl.1 rfl (lv_room (Nat.le_of_ble_eq_true rfl)) dX0_back_22 ⟨Nat.le_of_ble_eq_true rfl, Nat.le_of_ble_eq_true rfl⟩) hS (fun q _ h => hFc q h) hFc (fun r_4 u9 t H1 locs ht hvm hw_5 hB hz1 hk1 hS => ?_)
      obtain ⟨g_6, rfl⟩ : ∃ z, z = u9 := ⟨_, rfl⟩
      obtain ⟨hP1, hK1, hD1⟩ := hB
      rw [ht] at hP1
      have hP : va_P D vwCl (cw x cd f0 f1 f2 f3 g_6) H1 := hP1
      have hD : va_D A (cw x cd f0 f1 f2 f3 g_6) := hD1.weaken (fun _ _ _ h => hFc _ h)
      try dsimp only at hw_5
      clear hFc hP1 hD1 hK1 hk1 hz1 ht hvm
      generalize H1 = H at hP hS ⊢
      refine lv_lstore_n (lv' := [(3, .long r_4), (2, .int (nI sp)), (0, .ref (x 0)), (1, .int (nI nn))]) hx hb dX0_back_25 rfl hl (by decide) rfl (fun ls hl => ?_)
      refine lv_aload_n hx hb dX0_back_26 rfl (lv_at hl 2 rfl) ?_
      refine lv_iload_n hx hb dX0_back_27 rfl (lv_at hl 3 rfl) ?_
      refine lv_iload_n hx hb dX0_back_28 rfl (lv_at hl 1 rfl) ?_
      have hFc := va_free (wc := cw x cd f0 f1 f2 f3 g_6) hD hS hA [0, 1, 2, 3, 4, 5] rfl
      refine va_callv (va_runV (As := [.int (nI nn), .int (nI sp)]) (rest := []) ⟨hx, hb, hml, hown, hts⟩ (m_backAcross l D x cd f0 f1 f2 f3 g_6 nn sp (by omega) (by omega) _) (cwV 2 hts (gw_V wm_260 wm_262 wm_7 wm_12 wm_263) rfl rfl rfl (by decide +kernel) ⟨Nat.le_of_ble_eq_true rfl, Nat.le_of_ble_eq_true rfl⟩) ⟨crw_blind, va_recv hK hP (ci := 0) (q0 := 0) rfl rfl, fun U hU hW => ⟨rfl, crw_at hP hK hD hTb hS hFc hU hW⟩⟩ rfl rfl hl.1 rfl (lv_room (Nat.le_of_ble_eq_true rfl)) dX0_back_29 ⟨Nat.le_of_ble_eq_true rfl, Nat.le_of_ble_eq_true rfl⟩) hS (fun q _ h => hFc q h) hFc (fun u9 t H1 locs ht hvm hw_8 hB hz1 hk1 hS => ?_)
      obtain ⟨f_9, rfl⟩ : ∃ z, z = u9 := ⟨_, rfl⟩
      obtain ⟨hP1, hK1, hD1⟩ := hB
      rw [ht] at hP1
      have hP : va_P D vwCl (cw x cd f0 f1 f_9 f3 g_6) H1 := hP1
      have hD : va_D A (cw x cd f0 f1 f_9 f3 g_6) := hD1.weaken (fun _ _ _ h => hFc _ h)
      try dsimp only at hw_8
      clear hFc hP1 hD1 hK1 hk1 hz1 ht hvm
      generalize H1 = H at hP hS ⊢
      refine lv_lload_n hx hb dX0_back_32 rfl (lv_at hl 0 rfl) ?_
      refine W.widen (k := 1) (n := 6) (Nat.zero_le _) (Nat.zero_le _) (vx_ret ?_)
      exact W.lret (v := r_4) hx hb hr (fun t ht hW => ⟨⟨r_4, (f_9, g_6), rfl, (by
                                           rw [hq1, hq2]
                                           refine ⟨hq3, hw_5.1, fun a b ha9 hb9 => ?_⟩
                                           rw [hw_8 a b ha9 hb9]
                                           by_cases hz : a < nn ∧ b < nn
                                           · rw [if_pos hz, if_pos hz]
                                             exact bS_congr (fun c9 hc9 => hw_5.2 a c9 hz.1 hc9)
                                           · rw [if_neg hz, if_neg hz]), by rw [ht]; exact hP, va_K.moved hW.alike hK, hD⟩, hS.F ht⟩) hS.2.2 dX0_back_33
    · obtain ⟨sa9, hstr⟩ := hXstr.2.2.2.2.2.1
      exact vx_throwS (own := RX0) (cls := "java/lang/IllegalArgumentException") (names := ["java/lang/RuntimeException", "java/lang/Exception"]) hx hb hl9 hown (by decide +kernel) (by decide +kernel) (hts _ wm_196) (hts _ wm_18) hstr (vx_hat (L := vx_atS RX0 41 "java/lang/IllegalArgumentException" ["java/lang/RuntimeException", "java/lang/Exception"]) (B := [.castable "java/lang/IllegalArgumentException" "java/lang/IllegalArgumentException", .declares ⟨"java/lang/RuntimeException", "<init>", "(Ljava/lang/String;)V"⟩, .declares ⟨"java/lang/Exception", "<init>", "(Ljava/lang/String;)V"⟩, .declares ⟨"java/lang/Throwable", "<init>", "(Ljava/lang/String;)V"⟩]) (fun w hw => hts w (hat_a w hw)) hatB_a (vx_c (va_Nw.use rfl hXc_a) (vx_c (va_Nw.use rfl hXd1) (vx_c (va_Nw.use rfl hXd2) (vx_c (va_Nw.use rfl hXd3) (vx_n)))))) hatG_a hXU hXN hS (hl.1.trans hml.symm) dX0_back_9 dX0_back_12 dX0_back_13 dX0_back_15 dX0_back_18 (fun x9 h9 => (htab x9 h9).elim) (Nat.le_of_ble_eq_true rfl) (Nat.le_of_ble_eq_true rfl) (Nat.le_of_ble_eq_true rfl) (Nat.le_of_ble_eq_true rfl) hlocks (fun t ha hsz hk => ⟨(), trivial, ⟨rfl, by unfold szOk; omega⟩, hsz, fun q h1 _ => hk q h1⟩) hS.2.2 (Nat.le_of_ble_eq_true rfl) (Nat.le_of_ble_eq_true rfl)
  · unfold noSz at hno9
    refine lv_istore_n (lv' := [(2, .int (0 : Int32)), (0, .ref (x 0)), (1, .int q)]) hx hb dX0_back_4 rfl hl (by decide) rfl (fun ls hl => ?_)
    refine lv_iload_n hx hb dX0_back_5 rfl (lv_at hl 0 rfl) ?_
    refine cx_if_ne (i := 0) (j := 0) (tgt := 19) hx hb (by decide +kernel) rfl dX0_back_6 (by decide) (fun c_10 => absurd c_10 (by decide)) (fun c_10 => ?_)
    obtain ⟨sa9, hstr⟩ := hXstr.2.2.2.2.2.1
    exact vx_throwS (own := RX0) (cls := "java/lang/IllegalArgumentException") (names := ["java/lang/RuntimeException", "java/lang/Exception"]) hx hb hl9 hown (by decide +kernel) (by decide +kernel) (hts _ wm_196) (hts _ wm_18) hstr (vx_hat (L := vx_atS RX0 41 "java/lang/IllegalArgumentException" ["java/lang/RuntimeException", "java/lang/Exception"]) (B := [.castable "java/lang/IllegalArgumentException" "java/lang/IllegalArgumentException", .declares ⟨"java/lang/RuntimeException", "<init>", "(Ljava/lang/String;)V"⟩, .declares ⟨"java/lang/Exception", "<init>", "(Ljava/lang/String;)V"⟩, .declares ⟨"java/lang/Throwable", "<init>", "(Ljava/lang/String;)V"⟩]) (fun w hw => hts w (hat_a w hw)) hatB_a (vx_c (va_Nw.use rfl hXc_a) (vx_c (va_Nw.use rfl hXd1) (vx_c (va_Nw.use rfl hXd2) (vx_c (va_Nw.use rfl hXd3) (vx_n)))))) hatG_a hXU hXN hS (hl.1.trans hml.symm) dX0_back_9 dX0_back_12 dX0_back_13 dX0_back_15 dX0_back_18 (fun x9 h9 => (htab x9 h9).elim) (Nat.le_of_ble_eq_true rfl) (Nat.le_of_ble_eq_true rfl) (Nat.le_of_ble_eq_true rfl) (Nat.le_of_ble_eq_true rfl) hlocks (fun t ha hsz hk => ⟨(), trivial, ⟨rfl, by unfold szOk; omega⟩, hsz, fun q h1 _ => hk q h1⟩) hS.2.2 (Nat.le_of_ble_eq_true rfl) (Nat.le_of_ble_eq_true rfl)
set_option maxHeartbeats 4000000 in
set_option maxRecDepth 100000 in
/-- error -/
theorem m_error (l : Launch) (hl9 : l.stackTraces = false) (D : va_G) (x : Nat → Nat) (cd : Nat → ClassId) (f0 f1 f2 f3 : Nat → Int32) (g : Nat → Int64) (q : Int32) : vx_Met l yX0_error wsX0_error ({ frames := 6, cells := 1, slots := 6, locals := 82 } : Room) (va_Pc [.ref (x 0), .int q] (cro D (cw x cd f0 f1 f2 f3 g) (cty cd))) (va_Qi (fun (r : Int32) (_ : Unit) => (1 ≤ q.toInt ∧ q.toInt ≤ 8) ∧ r = erY f2 f3 q.toInt.toNat q.toInt.toNat) (fun (_ : Unit) (_ : State) => True) (fun _ => False)) (vx_X (fun (_ : Unit) => True) (fun (E : String) (_ : Unit) (_ : State) => (E = "java/lang/IllegalArgumentException" ∧ ¬ (1 ≤ q.toInt ∧ q.toInt ≤ 8))) (fun _ => False)) 1 6 (fun _ => False) := by
  refine vx_ofW (cc := cX0_error) (maxL := 6) (ret := some .int) (by decide) rfl ?_
  intro p e s m args below meth c s₁ B hml htab hv
  obtain ⟨rfl, hP, hK, hTb⟩ := hv
  have hx := B.exec
  have hb := B.bytes
  have hr := B.returns
  have hts : ∀ w ∈ wA, w.before _ s = true := fun w h => atoms_spec (ws := wsX0_error) B.pre w (List.mem_cons_of_mem _ h)
  have hown : s.vm.findClass RX0 = some m.cls := findClass_of_methodNamed B.named
  have hlocks := B.notSynchronized
  have hS : va_S (fun _ => False) s.heap s.heap [] := va_S.rf
  have hin0 := inA0
  have hf16 := (hts _ wm_30)
  have hf19 := (hts _ wm_31)
  obtain ⟨⟨t0, hZ0, hT0⟩, ⟨t1, hZ1, hT1⟩, ⟨t2, hZ2, hT2⟩, hXU, hXN, ⟨hXc_i, hXc_a, hXd1, hXd2, hXd3⟩, hXstr, -⟩ := id hTb
  have hl := lv_entry ([.ref (x 0), .int q]) (n := 6) (Nat.le_of_ble_eq_true rfl)
  rw [lg_entry_eq]
  generalize (lg_sl ([.ref (x 0), .int q]) ++ List.replicate (6 - (lg_sl ([.ref (x 0), .int q])).length) Slot.unset).toArray = ls at hl ⊢
  have hl : lv_has ls 6 [(0, .ref (x 0)), (1, .int q)] := hl
  refine lv_iload_n hx hb dX0_error_0 rfl (lv_at hl 1 rfl) ?_
  refine lv_iconst (v := (1 : Int32)) hx hb dX0_error_1 (by decide +kernel) ?_
  refine cx_icmp_lt (i := q.toInt) (j := 1) (tgt := 11) hx hb rfl (by decide +kernel) dX0_error_2 (by decide) (fun c_1 => ?_) (fun c_1 => ?_)
  · obtain ⟨sa9, hstr⟩ := hXstr.2.2.2.2.2.2.1
    exact vx_throwS (own := RX0) (cls := "java/lang/IllegalArgumentException") (names := ["java/lang/RuntimeException", "java/lang/Exception"]) hx hb hl9 hown (by decide +kernel) (by decide +kernel) (hts _ wm_196) (hts _ wm_18) hstr (vx_hat (L := vx_atS RX0 41 "java/lang/IllegalArgumentException" ["java/lang/RuntimeException", "java/lang/Exception"]) (B := [.castable "java/lang/IllegalArgumentException" "java/lang/IllegalArgumentException", .declares ⟨"java/lang/RuntimeException", "<init>", "(Ljava/lang/String;)V"⟩, .declares ⟨"java/lang/Exception", "<init>", "(Ljava/lang/String;)V"⟩, .declares ⟨"java/lang/Throwable", "<init>", "(Ljava/lang/String;)V"⟩]) (fun w hw => hts w (hat_a w hw)) hatB_a (vx_c (va_Nw.use rfl hXc_a) (vx_c (va_Nw.use rfl hXd1) (vx_c (va_Nw.use rfl hXd2) (vx_c (va_Nw.use rfl hXd3) (vx_n)))))) hatG_a hXU hXN hS (hl.1.trans hml.symm) dX0_error_11 dX0_error_14 dX0_error_15 dX0_error_17 dX0_error_20 (fun x9 h9 => (htab x9 h9).elim) (Nat.le_of_ble_eq_true rfl) (Nat.le_of_ble_eq_true rfl) (Nat.le_of_ble_eq_true rfl) (Nat.le_of_ble_eq_true rfl) hlocks (fun t ha hsz hk => ⟨(), trivial, ⟨rfl, by omega⟩, hsz, fun q h1 _ => hk q h1⟩) hS.2.2 (Nat.le_of_ble_eq_true rfl) (Nat.le_of_ble_eq_true rfl)
  · refine lv_iload_n hx hb dX0_error_5 rfl (lv_at hl 1 rfl) ?_
    refine lv_bipush (v := (8 : Int32)) hx hb dX0_error_6 (by decide +kernel) ?_
    refine cx_icmp_le (i := q.toInt) (j := 8) (tgt := 21) hx hb rfl (by decide +kernel) dX0_error_8 (by decide) (fun c_2 => ?_) (fun c_2 => ?_)
    · obtain ⟨nn, hn9, hej⟩ := cx_ofN (x := q) (n := 9) (by omega) (by omega) (by decide)
      have e_3 : q = nI nn := hej
      rw [e_3] at hl
      refine lv_iconst (v := (0 : Int32)) hx hb dX0_error_21 (by decide +kernel) ?_
      refine lv_istore_n (lv' := [(2, .int (0 : Int32)), (0, .ref (x 0)), (1, .int (nI nn))]) hx hb dX0_error_22 rfl hl (by decide) rfl (fun ls hl => ?_)
      refine lv_iconst (v := (0 : Int32)) hx hb dX0_error_23 (by decide +kernel) ?_
      refine lv_istore_n (lv' := [(3, .int (0 : Int32)), (2, .int (0 : Int32)), (0, .ref (x 0)), (1, .int (nI nn))]) hx hb dX0_error_24 rfl hl (by decide) rfl (fun ls hl => ?_)
      have L25 : ∀ (n : Nat) (y9 : Nat) (ls : Array Slot), (nn - y9) < n → (y9 ≤ nn) → lv_has ls 6 [(0, .ref (x 0)), (1, .int (nI nn)), (2, .int (erY f2 f3 nn y9)), (3, .int (nI y9))] → W p l e ((headSpec wsX0_error ({ frames := 6, cells := 1, slots := 6, locals := 82 } : Room)).room) s m (([.ref (x 0), .int q] : List Value).toArray) below meth c s.heap [] 0 0 (vx_MQ below (va_Qi (fun (r : Int32) (_ : Unit) => (1 ≤ q.toInt ∧ q.toInt ≤ 8) ∧ r = erY f2 f3 q.toInt.toNat q.toInt.toNat) (fun (_ : Unit) (_ : State) => True) (fun _ => False)) (vx_X (fun (_ : Unit) => True) (fun (E : String) (_ : Unit) (_ : State) => (E = "java/lang/IllegalArgumentException" ∧ ¬ (1 ≤ q.toInt ∧ q.toInt ≤ 8))) (fun _ => False)) ([.ref (x 0), .int q] : List Value).toArray s 1 6 (fun _ => False)) (F0 m 25 ls []) := by
        intro n
        induction n with
        | zero =>
          intro y9 ls hn
          exact absurd hn (Nat.not_lt_zero _)
        | succ n ih25 =>
          intro y9 ls hn25 hy9 hl
          refine lv_iload_n hx hb dX0_error_25 rfl (lv_at hl 3 rfl) ?_
          refine lv_iload_n hx hb dX0_error_26 rfl (lv_at hl 1 rfl) ?_
          refine cx_icmp_ge (i := ((y9 : Nat) : Int)) (j := ((nn : Nat) : Int)) (tgt := 86) hx hb (nI_toInt (by omega)) (nI_toInt (by omega)) dX0_error_27 (by decide) (fun c_4 => ?_) (fun c_4 => ?_)
          · refine lv_iload_n hx hb dX0_error_86 rfl (lv_at hl 2 rfl) ?_
            refine W.widen (k := 1) (n := 6) (Nat.zero_le _) (Nat.zero_le _) (vx_ret ?_)
            exact W.iret (v := erY f2 f3 nn y9) hx hb hr (fun t ht hW => ⟨⟨erY f2 f3 nn y9, (), rfl, (by obtain rfl : nn = y9 := (by omega); exact ⟨by omega, by rw [hej, cx_toNat (by omega)]⟩), trivial⟩, hS.F ht⟩) hS.2.2 dX0_error_87
          · refine lv_iconst (v := (0 : Int32)) hx hb dX0_error_30 (by decide +kernel) ?_
            refine lv_istore (lv' := [(4, .int (0 : Int32)), (0, .ref (x 0)), (1, .int (nI nn)), (2, .int (erY f2 f3 nn y9)), (3, .int (nI y9))]) hx hb dX0_error_31 hl (by decide) rfl (fun ls hl => ?_)
            have L33 : ∀ (n : Nat) (x9 : Nat) (ls : Array Slot), (nn - x9) < n → (x9 ≤ nn) → lv_has ls 6 [(0, .ref (x 0)), (1, .int (nI nn)), (2, .int (erX f2 f3 y9 (erY f2 f3 nn y9) x9)), (3, .int (nI y9)), (4, .int (nI x9))] → W p l e ((headSpec wsX0_error ({ frames := 6, cells := 1, slots := 6, locals := 82 } : Room)).room) s m (([.ref (x 0), .int q] : List Value).toArray) below meth c s.heap [] 0 0 (vx_MQ below (va_Qi (fun (r : Int32) (_ : Unit) => (1 ≤ q.toInt ∧ q.toInt ≤ 8) ∧ r = erY f2 f3 q.toInt.toNat q.toInt.toNat) (fun (_ : Unit) (_ : State) => True) (fun _ => False)) (vx_X (fun (_ : Unit) => True) (fun (E : String) (_ : Unit) (_ : State) => (E = "java/lang/IllegalArgumentException" ∧ ¬ (1 ≤ q.toInt ∧ q.toInt ≤ 8))) (fun _ => False)) ([.ref (x 0), .int q] : List Value).toArray s 1 6 (fun _ => False)) (F0 m 33 ls []) := by
              intro n
              induction n with
              | zero =>
                intro x9 ls hn
                exact absurd hn (Nat.not_lt_zero _)
              | succ n ih33 =>
                intro x9 ls hn33 hx9 hl
                refine lv_iload hx hb dX0_error_33 (lv_at hl 4 rfl) ?_
                refine lv_iload_n hx hb dX0_error_35 rfl (lv_at hl 1 rfl) ?_
                refine cx_icmp_ge (i := ((x9 : Nat) : Int)) (j := ((nn : Nat) : Int)) (tgt := 80) hx hb (nI_toInt (by omega)) (nI_toInt (by omega)) dX0_error_36 (by decide) (fun c_5 => ?_) (fun c_5 => ?_)
                · refine lv_iinc (v := nI (y9 + 1)) (lv' := [(3, .int (nI (y9 + 1))), (0, .ref (x 0)), (1, .int (nI nn)), (2, .int (erX f2 f3 y9 (erY f2 f3 nn y9) x9)), (4, .int (nI x9))]) hx hb dX0_error_80 hl (k := 3) rfl (by show nI y9 + 1 = nI (y9 + 1); exact nI_add y9 1) (by decide) rfl (fun ls hl => ?_)
                  refine lv_goto (tgt := 25) hx hb dX0_error_83 (by decide) ?_
                  obtain rfl : nn = x9 := by omega
                  exact ih25 (y9 + 1) _ (by omega) (by omega) (lv_sub hl [1, 2, 3, 0] rfl)
                · refine lv_aload_n hx hb dX0_error_39 rfl (lv_at hl 0 rfl) ?_
                  refine va_get (D := D) (ci := 0) (v := .ref (x 3)) (C := RX0) (T := TX0) (N := 5) hx hb hts hin0 hown hK hP 0 rfl rfl 2 (by decide) hf16 (fun _ h9 => h9) rfl dX0_error_40 ?_
                  refine lv_iload_n hx hb dX0_error_43 rfl (lv_at hl 3 rfl) ?_
                  refine lv_bipush (v := (8 : Int32)) hx hb dX0_error_44 (by decide +kernel) ?_
                  refine cx_imul hx hb y9 8 dX0_error_46 ?_
                  refine lv_iload hx hb dX0_error_47 (lv_at hl 4 rfl) ?_
                  refine cx_iadd hx hb (y9 * 8) x9 dX0_error_49 ?_
                  refine cx_iald hx hb hK hP 3 2 rfl rfl (y9 * 8 + x9) (by omega) (by decide) dX0_error_50 ?_
                  refine lv_aload_n hx hb dX0_error_51 rfl (lv_at hl 0 rfl) ?_
                  refine va_get (D := D) (ci := 0) (v := .ref (x 4)) (C := RX0) (T := TX0) (N := 5) hx hb hts hin0 hown hK hP 0 rfl rfl 3 (by decide) hf19 (fun _ h9 => h9) rfl dX0_error_52 ?_
                  refine lv_iload_n hx hb dX0_error_55 rfl (lv_at hl 3 rfl) ?_
                  refine lv_bipush (v := (8 : Int32)) hx hb dX0_error_56 (by decide +kernel) ?_
                  refine cx_imul hx hb y9 8 dX0_error_58 ?_
                  refine lv_iload hx hb dX0_error_59 (lv_at hl 4 rfl) ?_
                  refine cx_iadd hx hb (y9 * 8) x9 dX0_error_61 ?_
                  refine cx_iald hx hb hK hP 4 3 rfl rfl (y9 * 8 + x9) (by omega) (by decide) dX0_error_62 ?_
                  refine lv_isub hx hb dX0_error_63 ?_
                  refine lv_istore (lv' := [(5, .int ((f2 (y9 * 8 + x9)) - (f3 (y9 * 8 + x9)))), (0, .ref (x 0)), (1, .int (nI nn)), (2, .int (erX f2 f3 y9 (erY f2 f3 nn y9) x9)), (3, .int (nI y9)), (4, .int (nI x9))]) hx hb dX0_error_64 hl (by decide) rfl (fun ls hl => ?_)
                  refine lv_iload_n hx hb dX0_error_66 rfl (lv_at hl 3 rfl) ?_
                  refine lv_iload hx hb dX0_error_67 (lv_at hl 0 rfl) ?_
                  refine lv_iload hx hb dX0_error_69 (lv_at hl 0 rfl) ?_
                  refine lv_imul hx hb dX0_error_71 ?_
                  refine lv_iadd hx hb dX0_error_72 ?_
                  refine lv_istore_n (lv' := [(2, .int ((erX f2 f3 y9 (erY f2 f3 nn y9) x9) + (((f2 (y9 * 8 + x9)) - (f3 (y9 * 8 + x9))) * ((f2 (y9 * 8 + x9)) - (f3 (y9 * 8 + x9)))))), (5, .int ((f2 (y9 * 8 + x9)) - (f3 (y9 * 8 + x9)))), (0, .ref (x 0)), (1, .int (nI nn)), (3, .int (nI y9)), (4, .int (nI x9))]) hx hb dX0_error_73 rfl hl (by decide) rfl (fun ls hl => ?_)
                  refine lv_iinc (v := nI (x9 + 1)) (lv' := [(4, .int (nI (x9 + 1))), (2, .int ((erX f2 f3 y9 (erY f2 f3 nn y9) x9) + (((f2 (y9 * 8 + x9)) - (f3 (y9 * 8 + x9))) * ((f2 (y9 * 8 + x9)) - (f3 (y9 * 8 + x9)))))), (5, .int ((f2 (y9 * 8 + x9)) - (f3 (y9 * 8 + x9)))), (0, .ref (x 0)), (1, .int (nI nn)), (3, .int (nI y9))]) hx hb dX0_error_74 hl (k := 5) rfl (by show nI x9 + 1 = nI (x9 + 1); exact nI_add x9 1) (by decide) rfl (fun ls hl => ?_)
                  refine lv_goto (tgt := 33) hx hb dX0_error_77 (by decide) ?_
                  exact ih33 (x9 + 1) _ (by omega) (by omega) (lv_sub hl [3, 4, 1, 5, 0] rfl)
            exact L33 _ 0 _ (Nat.lt_succ_self _) (Nat.zero_le _) (lv_sub hl [1, 2, 3, 4, 0] rfl)
      exact L25 _ 0 _ (Nat.lt_succ_self _) (Nat.zero_le _) (lv_sub hl [2, 3, 1, 0] rfl)
    · obtain ⟨sa9, hstr⟩ := hXstr.2.2.2.2.2.2.1
      exact vx_throwS (own := RX0) (cls := "java/lang/IllegalArgumentException") (names := ["java/lang/RuntimeException", "java/lang/Exception"]) hx hb hl9 hown (by decide +kernel) (by decide +kernel) (hts _ wm_196) (hts _ wm_18) hstr (vx_hat (L := vx_atS RX0 41 "java/lang/IllegalArgumentException" ["java/lang/RuntimeException", "java/lang/Exception"]) (B := [.castable "java/lang/IllegalArgumentException" "java/lang/IllegalArgumentException", .declares ⟨"java/lang/RuntimeException", "<init>", "(Ljava/lang/String;)V"⟩, .declares ⟨"java/lang/Exception", "<init>", "(Ljava/lang/String;)V"⟩, .declares ⟨"java/lang/Throwable", "<init>", "(Ljava/lang/String;)V"⟩]) (fun w hw => hts w (hat_a w hw)) hatB_a (vx_c (va_Nw.use rfl hXc_a) (vx_c (va_Nw.use rfl hXd1) (vx_c (va_Nw.use rfl hXd2) (vx_c (va_Nw.use rfl hXd3) (vx_n)))))) hatG_a hXU hXN hS (hl.1.trans hml.symm) dX0_error_11 dX0_error_14 dX0_error_15 dX0_error_17 dX0_error_20 (fun x9 h9 => (htab x9 h9).elim) (Nat.le_of_ble_eq_true rfl) (Nat.le_of_ble_eq_true rfl) (Nat.le_of_ble_eq_true rfl) (Nat.le_of_ble_eq_true rfl) hlocks (fun t ha hsz hk => ⟨(), trivial, ⟨rfl, by omega⟩, hsz, fun q h1 _ => hk q h1⟩) hS.2.2 (Nat.le_of_ble_eq_true rfl) (Nat.le_of_ble_eq_true rfl)
set_option maxHeartbeats 4000000 in
set_option maxRecDepth 100000 in
/-- at -/
theorem m_at (l : Launch) (hl9 : l.stackTraces = false) (D : va_G) (x : Nat → Nat) (cd : Nat → ClassId) (f0 f1 f2 f3 : Nat → Int32) (g : Nat → Int64) (q k9 : Int32) : vx_Met l yX0_at wsX0_at ({ frames := 6, cells := 1, slots := 6, locals := 82 } : Room) (va_Pc [.ref (x 0), .int q, .int k9] (cro D (cw x cd f0 f1 f2 f3 g) (cty cd))) (va_Qi (fun (r : Int32) (_ : Unit) => ((0 ≤ q.toInt ∧ q.toInt < 64) ∧ (0 ≤ k9.toInt ∧ k9.toInt ≤ 3)) ∧ r = atV f0 f1 q.toInt.toNat k9) (fun (_ : Unit) (_ : State) => True) (fun _ => False)) (vx_X (fun (_ : Unit) => True) (fun (E : String) (_ : Unit) (_ : State) => (E = "java/lang/IndexOutOfBoundsException" ∧ ¬ ((0 ≤ q.toInt ∧ q.toInt < 64) ∧ (0 ≤ k9.toInt ∧ k9.toInt ≤ 3)))) (fun _ => False)) 1 6 (fun _ => False) := by
  refine vx_ofW (cc := cX0_at) (maxL := 4) (ret := some .int) (by decide) rfl ?_
  intro p e s m args below meth c s₁ B hml htab hv
  obtain ⟨rfl, hP, hK, hTb⟩ := hv
  have hx := B.exec
  have hb := B.bytes
  have hr := B.returns
  have hts : ∀ w ∈ wA, w.before _ s = true := fun w h => atoms_spec (ws := wsX0_at) B.pre w (List.mem_cons_of_mem _ h)
  have hown : s.vm.findClass RX0 = some m.cls := findClass_of_methodNamed B.named
  have hlocks := B.notSynchronized
  have hS : va_S (fun _ => False) s.heap s.heap [] := va_S.rf
  have hin0 := inA0
  have hf9 := (hts _ wm_28)
  have hf13 := (hts _ wm_29)
  obtain ⟨⟨t0, hZ0, hT0⟩, ⟨t1, hZ1, hT1⟩, ⟨t2, hZ2, hT2⟩, hXU, hXN, ⟨hXc_i, hXc_a, hXd1, hXd2, hXd3⟩, hXstr, -⟩ := id hTb
  have hl := lv_entry ([.ref (x 0), .int q, .int k9]) (n := 4) (Nat.le_of_ble_eq_true rfl)
  rw [lg_entry_eq]
  generalize (lg_sl ([.ref (x 0), .int q, .int k9]) ++ List.replicate (4 - (lg_sl ([.ref (x 0), .int q, .int k9])).length) Slot.unset).toArray = ls at hl ⊢
  have hl : lv_has ls 4 [(0, .ref (x 0)), (1, .int q), (2, .int k9)] := hl
  refine lv_iload_n hx hb dX0_at_0 rfl (lv_at hl 1 rfl) ?_
  refine vp_callSi (W.runS (As := [.int q]) (rest := []) ⟨hx, hb, hml, hown, hts⟩ (m_isPlace l D q) (va_cwS 1 hts (gw_S wm_126 wm_127 wm_12 wm_128) rfl rfl rfl (by decide +kernel) ⟨Nat.le_of_ble_eq_true rfl, Nat.le_of_ble_eq_true rfl⟩) ⟨cro_blind, fun U hU hW => ⟨rfl, cro_at (hP.sub (ws' := []) [] rfl) (hK.sub (tys' := []) [] rfl) hTb hS hU hW⟩⟩ rfl rfl hl.1 rfl (lv_room (Nat.le_of_ble_eq_true rfl)) dX0_at_1 ⟨Nat.le_of_ble_eq_true rfl, Nat.le_of_ble_eq_true rfl⟩) (fun r_1 hr_1 => ?_)
  rcases hr_1 with ⟨rfl, ha9, hb9⟩ | ⟨rfl, ha9⟩
  · refine cx_if_eq (i := 1) (j := 0) (tgt := 16) hx hb (by decide +kernel) rfl dX0_at_4 (by decide) (fun c_2 => absurd c_2 (by decide)) (fun c_2 => ?_)
    refine lv_iload_n hx hb dX0_at_7 rfl (lv_at hl 2 rfl) ?_
    refine cx_if_lt (i := k9.toInt) (j := 0) (tgt := 16) hx hb rfl rfl dX0_at_8 (by decide) (fun c_3 => ?_) (fun c_3 => ?_)
    · obtain ⟨sa9, hstr⟩ := hXstr.2.2.2.2.2.2.2.1
      exact vx_throwS (own := RX0) (cls := "java/lang/IndexOutOfBoundsException") (names := ["java/lang/RuntimeException", "java/lang/Exception"]) hx hb hl9 hown (by decide +kernel) (by decide +kernel) (hts _ wm_129) (hts _ wm_17) hstr (vx_hat (L := vx_atS RX0 34 "java/lang/IndexOutOfBoundsException" ["java/lang/RuntimeException", "java/lang/Exception"]) (B := [.castable "java/lang/IndexOutOfBoundsException" "java/lang/IndexOutOfBoundsException", .declares ⟨"java/lang/RuntimeException", "<init>", "(Ljava/lang/String;)V"⟩, .declares ⟨"java/lang/Exception", "<init>", "(Ljava/lang/String;)V"⟩, .declares ⟨"java/lang/Throwable", "<init>", "(Ljava/lang/String;)V"⟩]) (fun w hw => hts w (hat_i w hw)) hatB_i (vx_c (va_Nw.use rfl hXc_i) (vx_c (va_Nw.use rfl hXd1) (vx_c (va_Nw.use rfl hXd2) (vx_c (va_Nw.use rfl hXd3) (vx_n)))))) hatG_i hXU hXN hS (hl.1.trans hml.symm) dX0_at_16 dX0_at_19 dX0_at_20 dX0_at_22 dX0_at_25 (fun x9 h9 => (htab x9 h9).elim) (Nat.le_of_ble_eq_true rfl) (Nat.le_of_ble_eq_true rfl) (Nat.le_of_ble_eq_true rfl) (Nat.le_of_ble_eq_true rfl) hlocks (fun t ha hsz hk => ⟨(), trivial, ⟨rfl, by omega⟩, hsz, fun q h1 _ => hk q h1⟩) hS.2.2 (Nat.le_of_ble_eq_true rfl) (Nat.le_of_ble_eq_true rfl)
    · refine lv_iload_n hx hb dX0_at_11 rfl (lv_at hl 2 rfl) ?_
      refine lv_iconst (v := (3 : Int32)) hx hb dX0_at_12 (by decide +kernel) ?_
      refine cx_icmp_le (i := k9.toInt) (j := 3) (tgt := 26) hx hb rfl (by decide +kernel) dX0_at_13 (by decide) (fun c_4 => ?_) (fun c_4 => ?_)
      · obtain ⟨j9, hj9, hej⟩ := cx_ofN (x := q) (n := 64) (by omega) (by omega) (by decide)
        have e_5 : q = nI j9 := hej
        rw [e_5] at hl
        refine va_gets (v := .ref t2) hx hb hZ2 hS hown (hts _ wm_108) (fun _ h9 => h9) dX0_at_26 ?_
        refine lv_iload_n hx hb dX0_at_29 rfl (lv_at hl 1 rfl) ?_
        refine cx_ti hx hb hT2 hS j9 (by omega) (by decide) dX0_at_30 ?_
        refine lv_istore_n (lv' := [(3, .int (nI (cCn j9))), (0, .ref (x 0)), (1, .int (nI j9)), (2, .int k9)]) hx hb dX0_at_31 rfl hl (by decide) rfl (fun ls hl => ?_)
        refine lv_iload_n hx hb dX0_at_32 rfl (lv_at hl 3 rfl) ?_
        by_cases k_6 : k9.toInt < 0 ∨ 2 < k9.toInt
        · refine cx_tabO (i := k9.toInt) (tgt := 78) hx hb rfl dX0_at_33 k_6 (by decide) ?_
          refine lv_iload_n hx hb dX0_at_78 rfl (lv_at hl 0 rfl) ?_
          refine lv_bipush (v := (7 : Int32)) hx hb dX0_at_79 (by decide +kernel) ?_
          refine lv_iand hx hb dX0_at_81 ?_
          refine W.widen (k := 1) (n := 6) (Nat.zero_le _) (Nat.zero_le _) (vx_ret ?_)
          exact W.iret (v := (nI (cCn j9)) &&& (7 : Int32)) hx hb hr (fun t ht hW => ⟨⟨(nI (cCn j9)) &&& (7 : Int32), (), rfl, ⟨by omega, by unfold atV; rw [hej, cx_toNat (by omega), if_neg (by omega), if_neg (by omega), if_neg (by omega)]⟩, trivial⟩, hS.F ht⟩) hS.2.2 dX0_at_82
        · have k_6 : k9.toInt = 0 ∨ k9.toInt = 1 ∨ k9.toInt = 2 := by omega
          rcases k_6 with k_6 | k_6 | k_6
          · refine cx_tabI (i := k9.toInt) (off := 27) (tgt := 60) hx hb rfl dX0_at_33 (by omega) (by omega) (by rw [k_6]; rfl) (by decide) ?_
            refine lv_aload_n hx hb dX0_at_60 rfl (lv_at hl 1 rfl) ?_
            refine va_get (D := D) (ci := 0) (v := .ref (x 1)) (C := RX0) (T := TX0) (N := 5) hx hb hts hin0 hown hK hP 0 rfl rfl 0 (by decide) hf9 (fun _ h9 => h9) rfl dX0_at_61 ?_
            refine lv_iload_n hx hb dX0_at_64 rfl (lv_at hl 0 rfl) ?_
            refine cx_iald hx hb hK hP 1 0 rfl rfl (cCn j9) (cCn_lt j9 (by omega)) (by decide) dX0_at_65 ?_
            refine W.widen (k := 1) (n := 6) (Nat.zero_le _) (Nat.zero_le _) (vx_ret ?_)
            exact W.iret (v := f0 (cCn j9)) hx hb hr (fun t ht hW => ⟨⟨f0 (cCn j9), (), rfl, ⟨by omega, by unfold atV; rw [hej, cx_toNat (by omega), if_pos (by omega)]⟩, trivial⟩, hS.F ht⟩) hS.2.2 dX0_at_66
          · refine cx_tabI (i := k9.toInt) (off := 34) (tgt := 67) hx hb rfl dX0_at_33 (by omega) (by omega) (by rw [k_6]; rfl) (by decide) ?_
            refine lv_aload_n hx hb dX0_at_67 rfl (lv_at hl 1 rfl) ?_
            refine va_get (D := D) (ci := 0) (v := .ref (x 2)) (C := RX0) (T := TX0) (N := 5) hx hb hts hin0 hown hK hP 0 rfl rfl 1 (by decide) hf13 (fun _ h9 => h9) rfl dX0_at_68 ?_
            refine lv_iload_n hx hb dX0_at_71 rfl (lv_at hl 0 rfl) ?_
            refine cx_iald hx hb hK hP 2 1 rfl rfl (cCn j9) (cCn_lt j9 (by omega)) (by decide) dX0_at_72 ?_
            refine W.widen (k := 1) (n := 6) (Nat.zero_le _) (Nat.zero_le _) (vx_ret ?_)
            exact W.iret (v := f1 (cCn j9)) hx hb hr (fun t ht hW => ⟨⟨f1 (cCn j9), (), rfl, ⟨by omega, by unfold atV; rw [hej, cx_toNat (by omega), if_neg (by omega), if_pos (by omega)]⟩, trivial⟩, hS.F ht⟩) hS.2.2 dX0_at_73
          · refine cx_tabI (i := k9.toInt) (off := 41) (tgt := 74) hx hb rfl dX0_at_33 (by omega) (by omega) (by rw [k_6]; rfl) (by decide) ?_
            refine lv_iload_n hx hb dX0_at_74 rfl (lv_at hl 0 rfl) ?_
            refine lv_iconst (v := (3 : Int32)) hx hb dX0_at_75 (by decide +kernel) ?_
            refine lv_ishr hx hb dX0_at_76 ?_
            refine W.widen (k := 1) (n := 6) (Nat.zero_le _) (Nat.zero_le _) (vx_ret ?_)
            exact W.iret (v := (nI (cCn j9)) >>> ((3 : Int32) &&& 31)) hx hb hr (fun t ht hW => ⟨⟨(nI (cCn j9)) >>> ((3 : Int32) &&& 31), (), rfl, ⟨by omega, by unfold atV; rw [hej, cx_toNat (by omega), if_neg (by omega), if_neg (by omega), if_pos (by omega)]⟩, trivial⟩, hS.F ht⟩) hS.2.2 dX0_at_77
      · obtain ⟨sa9, hstr⟩ := hXstr.2.2.2.2.2.2.2.1
        exact vx_throwS (own := RX0) (cls := "java/lang/IndexOutOfBoundsException") (names := ["java/lang/RuntimeException", "java/lang/Exception"]) hx hb hl9 hown (by decide +kernel) (by decide +kernel) (hts _ wm_129) (hts _ wm_17) hstr (vx_hat (L := vx_atS RX0 34 "java/lang/IndexOutOfBoundsException" ["java/lang/RuntimeException", "java/lang/Exception"]) (B := [.castable "java/lang/IndexOutOfBoundsException" "java/lang/IndexOutOfBoundsException", .declares ⟨"java/lang/RuntimeException", "<init>", "(Ljava/lang/String;)V"⟩, .declares ⟨"java/lang/Exception", "<init>", "(Ljava/lang/String;)V"⟩, .declares ⟨"java/lang/Throwable", "<init>", "(Ljava/lang/String;)V"⟩]) (fun w hw => hts w (hat_i w hw)) hatB_i (vx_c (va_Nw.use rfl hXc_i) (vx_c (va_Nw.use rfl hXd1) (vx_c (va_Nw.use rfl hXd2) (vx_c (va_Nw.use rfl hXd3) (vx_n)))))) hatG_i hXU hXN hS (hl.1.trans hml.symm) dX0_at_16 dX0_at_19 dX0_at_20 dX0_at_22 dX0_at_25 (fun x9 h9 => (htab x9 h9).elim) (Nat.le_of_ble_eq_true rfl) (Nat.le_of_ble_eq_true rfl) (Nat.le_of_ble_eq_true rfl) (Nat.le_of_ble_eq_true rfl) hlocks (fun t ha hsz hk => ⟨(), trivial, ⟨rfl, by omega⟩, hsz, fun q h1 _ => hk q h1⟩) hS.2.2 (Nat.le_of_ble_eq_true rfl) (Nat.le_of_ble_eq_true rfl)
  · refine cx_if_eq (i := 0) (j := 0) (tgt := 16) hx hb (by decide +kernel) rfl dX0_at_4 (by decide) (fun c_7 => ?_) (fun c_7 => absurd c_7 (by decide))
    obtain ⟨sa9, hstr⟩ := hXstr.2.2.2.2.2.2.2.1
    exact vx_throwS (own := RX0) (cls := "java/lang/IndexOutOfBoundsException") (names := ["java/lang/RuntimeException", "java/lang/Exception"]) hx hb hl9 hown (by decide +kernel) (by decide +kernel) (hts _ wm_129) (hts _ wm_17) hstr (vx_hat (L := vx_atS RX0 34 "java/lang/IndexOutOfBoundsException" ["java/lang/RuntimeException", "java/lang/Exception"]) (B := [.castable "java/lang/IndexOutOfBoundsException" "java/lang/IndexOutOfBoundsException", .declares ⟨"java/lang/RuntimeException", "<init>", "(Ljava/lang/String;)V"⟩, .declares ⟨"java/lang/Exception", "<init>", "(Ljava/lang/String;)V"⟩, .declares ⟨"java/lang/Throwable", "<init>", "(Ljava/lang/String;)V"⟩]) (fun w hw => hts w (hat_i w hw)) hatB_i (vx_c (va_Nw.use rfl hXc_i) (vx_c (va_Nw.use rfl hXd1) (vx_c (va_Nw.use rfl hXd2) (vx_c (va_Nw.use rfl hXd3) (vx_n)))))) hatG_i hXU hXN hS (hl.1.trans hml.symm) dX0_at_16 dX0_at_19 dX0_at_20 dX0_at_22 dX0_at_25 (fun x9 h9 => (htab x9 h9).elim) (Nat.le_of_ble_eq_true rfl) (Nat.le_of_ble_eq_true rfl) (Nat.le_of_ble_eq_true rfl) (Nat.le_of_ble_eq_true rfl) hlocks (fun t ha hsz hk => ⟨(), trivial, ⟨rfl, by omega⟩, hsz, fun q h1 _ => hk q h1⟩) hS.2.2 (Nat.le_of_ble_eq_true rfl) (Nat.le_of_ble_eq_true rfl)
set_option maxHeartbeats 4000000 in
set_option maxRecDepth 100000 in
/-- exact -/
theorem m_exact (l : Launch) (hl9 : l.stackTraces = false) (D : va_G) (x : Nat → Nat) (cd : Nat → ClassId) (f0 f1 f2 f3 : Nat → Int32) (g : Nat → Int64) (a9 b9 : Int32) (sz : Nat) : vx_Met l yX0_exact wsX0_exact ({ frames := 6, cells := 1, slots := 6, locals := 82 } : Room) (va_Pc [.ref (x 0), .int a9, .int b9] (crw D (cw x cd f0 f1 f2 f3 g) (cty cd) sz)) (va_Qi (fun (r : Int32) (u : Nat → Int64) => ((0 ≤ a9.toInt ∧ a9.toInt < 8) ∧ (0 ≤ b9.toInt ∧ b9.toInt < 8)) ∧ r = fE (fP f2) a9.toInt.toNat b9.toInt.toNat) (fun (u : Nat → Int64) (t : State) => crB D (cw x cd f0 f1 f2 f3 u) (cty cd) (va_A (cw x cd f0 f1 f2 f3 g) sz) t) (va_A (cw x cd f0 f1 f2 f3 g) sz)) (vx_X (fun (_ : Unit) => True) (fun (E : String) (_ : Unit) (_ : State) => (E = "java/lang/IndexOutOfBoundsException" ∧ ¬ ((0 ≤ a9.toInt ∧ a9.toInt < 8) ∧ (0 ≤ b9.toInt ∧ b9.toInt < 8)))) (fun _ => False)) 1 6 (va_A (cw x cd f0 f1 f2 f3 g) sz) := by
  refine vx_ofW (cc := cX0_exact) (maxL := 3) (ret := some .int) (by decide) rfl ?_
  intro p e s m args below meth c s₁ B hml htab hv
  obtain ⟨rfl, hsz, hP, hK, hD0, hTb⟩ := hv
  have hx := B.exec
  have hb := B.bytes
  have hr := B.returns
  have hts : ∀ w ∈ wA, w.before _ s = true := fun w h => atoms_spec (ws := wsX0_exact) B.pre w (List.mem_cons_of_mem _ h)
  have hown : s.vm.findClass RX0 = some m.cls := findClass_of_methodNamed B.named
  have hlocks := B.notSynchronized
  subst hsz
  have hD := hD0.self (sz := s.heap.size)
  generalize hAe : va_A (cw x cd f0 f1 f2 f3 g) s.heap.size = A at hD hTb ⊢
  have hA : ∀ q : Nat, s.heap.size ≤ q → A q := fun q h => by rw [← hAe]; exact Or.inr h
  have hS : va_S A s.heap s.heap [] := va_S.rf
  obtain ⟨⟨t0, hZ0, hT0⟩, ⟨t1, hZ1, hT1⟩, ⟨t2, hZ2, hT2⟩, hXU, hXN, ⟨hXc_i, hXc_a, hXd1, hXd2, hXd3⟩, hXstr, -⟩ := id hTb
  have hl := lv_entry ([.ref (x 0), .int a9, .int b9]) (n := 3) (Nat.le_of_ble_eq_true rfl)
  rw [lg_entry_eq]
  generalize (lg_sl ([.ref (x 0), .int a9, .int b9]) ++ List.replicate (3 - (lg_sl ([.ref (x 0), .int a9, .int b9])).length) Slot.unset).toArray = ls at hl ⊢
  have hl : lv_has ls 3 [(0, .ref (x 0)), (1, .int a9), (2, .int b9)] := hl
  refine lv_iload_n hx hb dX0_exact_0 rfl (lv_at hl 1 rfl) ?_
  refine vp_callSi (W.runS (As := [.int a9]) (rest := []) ⟨hx, hb, hml, hown, hts⟩ (m_isLine l D a9) (va_cwS 1 hts (gw_S wm_91 wm_92 wm_12 wm_93) rfl rfl rfl (by decide +kernel) ⟨Nat.le_of_ble_eq_true rfl, Nat.le_of_ble_eq_true rfl⟩) ⟨cro_blind, fun U hU hW => ⟨rfl, cro_at (hP.sub (ws' := []) [] rfl) (hK.sub (tys' := []) [] rfl) hTb hS hU hW⟩⟩ rfl rfl hl.1 rfl (lv_room (Nat.le_of_ble_eq_true rfl)) dX0_exact_1 ⟨Nat.le_of_ble_eq_true rfl, Nat.le_of_ble_eq_true rfl⟩) (fun r_1 hr_1 => ?_)
  rcases hr_1 with ⟨rfl, ha9, hb9⟩ | ⟨rfl, ha9⟩
  · refine cx_if_eq (i := 1) (j := 0) (tgt := 14) hx hb (by decide +kernel) rfl dX0_exact_4 (by decide) (fun c_2 => absurd c_2 (by decide)) (fun c_2 => ?_)
    refine lv_iload_n hx hb dX0_exact_7 rfl (lv_at hl 2 rfl) ?_
    refine vp_callSi (W.runS (As := [.int b9]) (rest := []) ⟨hx, hb, hml, hown, hts⟩ (m_isLine l D b9) (va_cwS 1 hts (gw_S wm_91 wm_92 wm_12 wm_93) rfl rfl rfl (by decide +kernel) ⟨Nat.le_of_ble_eq_true rfl, Nat.le_of_ble_eq_true rfl⟩) ⟨cro_blind, fun U hU hW => ⟨rfl, cro_at (hP.sub (ws' := []) [] rfl) (hK.sub (tys' := []) [] rfl) hTb hS hU hW⟩⟩ rfl rfl hl.1 rfl (lv_room (Nat.le_of_ble_eq_true rfl)) dX0_exact_8 ⟨Nat.le_of_ble_eq_true rfl, Nat.le_of_ble_eq_true rfl⟩) (fun r_3 hr_3 => ?_)
    rcases hr_3 with ⟨rfl, ha9, hb9⟩ | ⟨rfl, ha9⟩
    · refine cx_if_ne (i := 1) (j := 0) (tgt := 24) hx hb (by decide +kernel) rfl dX0_exact_11 (by decide) (fun c_4 => ?_) (fun c_4 => absurd c_4 (by decide))
      obtain ⟨a8, hla, hea⟩ := cx_ofN (x := a9) (n := 8) (by omega) (by omega) (by decide)
      obtain ⟨b8, hlb, heb⟩ := cx_ofN (x := b9) (n := 8) (by omega) (by omega) (by decide)
      have e_5 : a9 = nI a8 := hea
      rw [e_5] at hl
      have e_6 : b9 = nI b8 := heb
      rw [e_6] at hl
      refine lv_aload_n hx hb dX0_exact_24 rfl (lv_at hl 0 rfl) ?_
      refine lv_iload_n hx hb dX0_exact_25 rfl (lv_at hl 1 rfl) ?_
      have hFc := va_free (wc := cw x cd f0 f1 f2 f3 g) hD hS hA [0, 1, 2, 3, 4, 5] rfl
      refine va_callv (va_runV (As := [.int (nI a8)]) (rest := []) ⟨hx, hb, hml, hown, hts⟩ (m_forwardDown l D x cd f0 f1 f2 f3 g a8 (by omega) _) (cwV 1 hts (gw_V wm_50 wm_52 wm_0 wm_12 wm_53) rfl rfl rfl (by decide +kernel) ⟨Nat.le_of_ble_eq_true rfl, Nat.le_of_ble_eq_true rfl⟩) ⟨crw_blind, va_recv hK hP (ci := 0) (q0 := 0) rfl rfl, fun U hU hW => ⟨rfl, crw_at hP hK hD hTb hS hFc hU hW⟩⟩ rfl rfl hl.1 rfl (lv_room (Nat.le_of_ble_eq_true rfl)) dX0_exact_26 ⟨Nat.le_of_ble_eq_true rfl, Nat.le_of_ble_eq_true rfl⟩) hS (fun q _ h => hFc q h) hFc (fun u9 t H1 locs ht hvm hw_8 hB hz1 hk1 hS => ?_)
      obtain ⟨g_9, rfl⟩ : ∃ z, z = u9 := ⟨_, rfl⟩
      obtain ⟨hP1, hK1, hD1⟩ := hB
      rw [ht] at hP1
      have hP : va_P D vwCl (cw x cd f0 f1 f2 f3 g_9) H1 := hP1
      have hD : va_D A (cw x cd f0 f1 f2 f3 g_9) := hD1.weaken (fun _ _ _ h => hFc _ h)
      try dsimp only at hw_8
      clear hFc hP1 hD1 hK1 hk1 hz1 ht hvm
      generalize H1 = H at hP hS ⊢
      refine lv_aload_n hx hb dX0_exact_29 rfl (lv_at hl 0 rfl) ?_
      refine lv_iload_n hx hb dX0_exact_30 rfl (lv_at hl 1 rfl) ?_
      refine lv_iload_n hx hb dX0_exact_31 rfl (lv_at hl 2 rfl) ?_
      refine vp_callSi (W.runV (As := [.int (nI a8), .int (nI b8)]) (rest := []) ⟨hx, hb, hml, hown, hts⟩ (m_forwardAcross l D x cd f0 f1 f2 f3 g_9 a8 b8 (by omega) (by omega)) (cwV 2 hts (gw_V wm_65 wm_67 wm_1 wm_12 wm_68) rfl rfl rfl (by decide +kernel) ⟨Nat.le_of_ble_eq_true rfl, Nat.le_of_ble_eq_true rfl⟩) ⟨cro_blind, va_recv hK hP (ci := 0) (q0 := 0) rfl rfl, fun U hU hW => ⟨rfl, cro_at hP hK hTb hS hU hW⟩⟩ rfl rfl hl.1 rfl (lv_room (Nat.le_of_ble_eq_true rfl)) dX0_exact_32 ⟨Nat.le_of_ble_eq_true rfl, Nat.le_of_ble_eq_true rfl⟩) (fun r_10 hr_10 => ?_)
      rw [show fE (fun a9 b9 => g_9 (a9 * 8 + b9)) a8 b8 = fE (fP f2) a8 b8 from fE_congr (fun b hb9 => hw_8 b hb9)] at hr_10
      rw [hr_10]
      refine W.widen (k := 1) (n := 6) (Nat.zero_le _) (Nat.zero_le _) (vx_ret ?_)
      exact W.iret (v := fE (fP f2) a8 b8) hx hb hr (fun t ht hW => ⟨⟨fE (fP f2) a8 b8, g_9, rfl, ⟨by omega, by rw [hea, heb, cx_toNat (by omega), cx_toNat (by omega)]⟩, by rw [ht]; exact hP, va_K.moved hW.alike hK, hD⟩, hS.F ht⟩) hS.2.2 dX0_exact_35
    · refine cx_if_ne (i := 0) (j := 0) (tgt := 24) hx hb (by decide +kernel) rfl dX0_exact_11 (by decide) (fun c_11 => absurd c_11 (by decide)) (fun c_11 => ?_)
      obtain ⟨sa9, hstr⟩ := hXstr.1
      exact vx_throwS (own := RX0) (cls := "java/lang/IndexOutOfBoundsException") (names := ["java/lang/RuntimeException", "java/lang/Exception"]) hx hb hl9 hown (by decide +kernel) (by decide +kernel) (hts _ wm_129) (hts _ wm_17) hstr (vx_hat (L := vx_atS RX0 34 "java/lang/IndexOutOfBoundsException" ["java/lang/RuntimeException", "java/lang/Exception"]) (B := [.castable "java/lang/IndexOutOfBoundsException" "java/lang/IndexOutOfBoundsException", .declares ⟨"java/lang/RuntimeException", "<init>", "(Ljava/lang/String;)V"⟩, .declares ⟨"java/lang/Exception", "<init>", "(Ljava/lang/String;)V"⟩, .declares ⟨"java/lang/Throwable", "<init>", "(Ljava/lang/String;)V"⟩]) (fun w hw => hts w (hat_i w hw)) hatB_i (vx_c (va_Nw.use rfl hXc_i) (vx_c (va_Nw.use rfl hXd1) (vx_c (va_Nw.use rfl hXd2) (vx_c (va_Nw.use rfl hXd3) (vx_n)))))) hatG_i hXU hXN hS (hl.1.trans hml.symm) dX0_exact_14 dX0_exact_17 dX0_exact_18 dX0_exact_20 dX0_exact_23 (fun x9 h9 => (htab x9 h9).elim) (Nat.le_of_ble_eq_true rfl) (Nat.le_of_ble_eq_true rfl) (Nat.le_of_ble_eq_true rfl) (Nat.le_of_ble_eq_true rfl) hlocks (fun t ha hsz hk => ⟨(), trivial, ⟨rfl, by omega⟩, hsz, fun q h1 _ => hk q h1⟩) hS.2.2 (Nat.le_of_ble_eq_true rfl) (Nat.le_of_ble_eq_true rfl)
  · refine cx_if_eq (i := 0) (j := 0) (tgt := 14) hx hb (by decide +kernel) rfl dX0_exact_4 (by decide) (fun c_12 => ?_) (fun c_12 => absurd c_12 (by decide))
    obtain ⟨sa9, hstr⟩ := hXstr.1
    exact vx_throwS (own := RX0) (cls := "java/lang/IndexOutOfBoundsException") (names := ["java/lang/RuntimeException", "java/lang/Exception"]) hx hb hl9 hown (by decide +kernel) (by decide +kernel) (hts _ wm_129) (hts _ wm_17) hstr (vx_hat (L := vx_atS RX0 34 "java/lang/IndexOutOfBoundsException" ["java/lang/RuntimeException", "java/lang/Exception"]) (B := [.castable "java/lang/IndexOutOfBoundsException" "java/lang/IndexOutOfBoundsException", .declares ⟨"java/lang/RuntimeException", "<init>", "(Ljava/lang/String;)V"⟩, .declares ⟨"java/lang/Exception", "<init>", "(Ljava/lang/String;)V"⟩, .declares ⟨"java/lang/Throwable", "<init>", "(Ljava/lang/String;)V"⟩]) (fun w hw => hts w (hat_i w hw)) hatB_i (vx_c (va_Nw.use rfl hXc_i) (vx_c (va_Nw.use rfl hXd1) (vx_c (va_Nw.use rfl hXd2) (vx_c (va_Nw.use rfl hXd3) (vx_n)))))) hatG_i hXU hXN hS (hl.1.trans hml.symm) dX0_exact_14 dX0_exact_17 dX0_exact_18 dX0_exact_20 dX0_exact_23 (fun x9 h9 => (htab x9 h9).elim) (Nat.le_of_ble_eq_true rfl) (Nat.le_of_ble_eq_true rfl) (Nat.le_of_ble_eq_true rfl) (Nat.le_of_ble_eq_true rfl) hlocks (fun t ha hsz hk => ⟨(), trivial, ⟨rfl, by omega⟩, hsz, fun q h1 _ => hk q h1⟩) hS.2.2 (Nat.le_of_ble_eq_true rfl) (Nat.le_of_ble_eq_true rfl)
set_option maxHeartbeats 4000000 in
set_option maxRecDepth 100000 in
/-- wave -/
theorem m_wave (l : Launch) (hl9 : l.stackTraces = false) (D : va_G) (x : Nat → Nat) (cd : Nat → ClassId) (f0 f1 f2 f3 : Nat → Int32) (g : Nat → Int64) (q u8 x8 : Int32) : vx_Met l yX0_wave wsX0_wave ({ frames := 6, cells := 1, slots := 6, locals := 82 } : Room) (va_Pc [.ref (x 0), .int q, .int u8, .int x8] (cro D (cw x cd f0 f1 f2 f3 g) (cty cd))) (va_Qi (fun (r : Int32) (_ : Unit) => (szOk q ∧ (0 ≤ u8.toInt ∧ u8.toInt < q.toInt) ∧ (0 ≤ x8.toInt ∧ x8.toInt < q.toInt)) ∧ r = wvN (8 / q.toInt.toNat) u8.toInt.toNat x8.toInt.toNat) (fun (_ : Unit) (_ : State) => True) (fun _ => False)) (vx_X (fun (_ : Unit) => True) (fun (E : String) (_ : Unit) (_ : State) => (E = "java/lang/IllegalArgumentException" ∧ ¬ (szOk q ∧ (0 ≤ u8.toInt ∧ u8.toInt < q.toInt) ∧ (0 ≤ x8.toInt ∧ x8.toInt < q.toInt)))) (fun _ => False)) 1 6 (fun _ => False) := by
  refine vx_ofW (cc := cX0_wave) (maxL := 5) (ret := some .int) (by decide) rfl ?_
  intro p e s m args below meth c s₁ B hml htab hv
  obtain ⟨rfl, hP, hK, hTb⟩ := hv
  have hx := B.exec
  have hb := B.bytes
  have hr := B.returns
  have hts : ∀ w ∈ wA, w.before _ s = true := fun w h => atoms_spec (ws := wsX0_wave) B.pre w (List.mem_cons_of_mem _ h)
  have hown : s.vm.findClass RX0 = some m.cls := findClass_of_methodNamed B.named
  have hlocks := B.notSynchronized
  have hS : va_S (fun _ => False) s.heap s.heap [] := va_S.rf
  obtain ⟨⟨t0, hZ0, hT0⟩, ⟨t1, hZ1, hT1⟩, ⟨t2, hZ2, hT2⟩, hXU, hXN, ⟨hXc_i, hXc_a, hXd1, hXd2, hXd3⟩, hXstr, -⟩ := id hTb
  have hl := lv_entry ([.ref (x 0), .int q, .int u8, .int x8]) (n := 5) (Nat.le_of_ble_eq_true rfl)
  rw [lg_entry_eq]
  generalize (lg_sl ([.ref (x 0), .int q, .int u8, .int x8]) ++ List.replicate (5 - (lg_sl ([.ref (x 0), .int q, .int u8, .int x8])).length) Slot.unset).toArray = ls at hl ⊢
  have hl : lv_has ls 5 [(0, .ref (x 0)), (1, .int q), (2, .int u8), (3, .int x8)] := hl
  refine lv_iload_n hx hb dX0_wave_0 rfl (lv_at hl 1 rfl) ?_
  refine vp_callSi (W.runS (As := [.int q]) (rest := []) ⟨hx, hb, hml, hown, hts⟩ (m_spreadOf l D q) (va_cwS 1 hts (gw_S wm_246 wm_247 wm_12 wm_248) rfl rfl rfl (by decide +kernel) ⟨Nat.le_of_ble_eq_true rfl, Nat.le_of_ble_eq_true rfl⟩) ⟨cro_blind, fun U hU hW => ⟨rfl, cro_at (hP.sub (ws' := []) [] rfl) (hK.sub (tys' := []) [] rfl) hTb hS hU hW⟩⟩ rfl rfl hl.1 rfl (lv_room (Nat.le_of_ble_eq_true rfl)) dX0_wave_1 ⟨Nat.le_of_ble_eq_true rfl, Nat.le_of_ble_eq_true rfl⟩) (fun r_1 hr_1 => ?_)
  rcases hr_1 with ⟨nn, sp, hsz9, rfl⟩ | ⟨rfl, hno9⟩
  · obtain ⟨hbn, hbs, hbp, hq1, hq2, hq3⟩ := isSz_facts hsz9
    obtain ⟨heq9, -⟩ := hsz9
    have e_2 : q = nI nn := heq9
    rw [e_2] at hl
    refine lv_istore (lv' := [(4, .int (nI sp)), (0, .ref (x 0)), (1, .int (nI nn)), (2, .int u8), (3, .int x8)]) hx hb dX0_wave_4 hl (by decide) rfl (fun ls hl => ?_)
    refine lv_iload hx hb dX0_wave_6 (lv_at hl 0 rfl) ?_
    refine cx_if_eq (i := ((sp : Nat) : Int)) (j := 0) (tgt := 29) hx hb (nI_toInt (by omega)) rfl dX0_wave_8 (by decide) (fun c_3 => ?_) (fun c_3 => ?_)
    · obtain ⟨sa9, hstr⟩ := hXstr.2.2.2.2.2.2.2.2
      exact vx_throwS (own := RX0) (cls := "java/lang/IllegalArgumentException") (names := ["java/lang/RuntimeException", "java/lang/Exception"]) hx hb hl9 hown (by decide +kernel) (by decide +kernel) (hts _ wm_196) (hts _ wm_18) hstr (vx_hat (L := vx_atS RX0 41 "java/lang/IllegalArgumentException" ["java/lang/RuntimeException", "java/lang/Exception"]) (B := [.castable "java/lang/IllegalArgumentException" "java/lang/IllegalArgumentException", .declares ⟨"java/lang/RuntimeException", "<init>", "(Ljava/lang/String;)V"⟩, .declares ⟨"java/lang/Exception", "<init>", "(Ljava/lang/String;)V"⟩, .declares ⟨"java/lang/Throwable", "<init>", "(Ljava/lang/String;)V"⟩]) (fun w hw => hts w (hat_a w hw)) hatB_a (vx_c (va_Nw.use rfl hXc_a) (vx_c (va_Nw.use rfl hXd1) (vx_c (va_Nw.use rfl hXd2) (vx_c (va_Nw.use rfl hXd3) (vx_n)))))) hatG_a hXU hXN hS (hl.1.trans hml.symm) dX0_wave_29 dX0_wave_32 dX0_wave_33 dX0_wave_35 dX0_wave_38 (fun x9 h9 => (htab x9 h9).elim) (Nat.le_of_ble_eq_true rfl) (Nat.le_of_ble_eq_true rfl) (Nat.le_of_ble_eq_true rfl) (Nat.le_of_ble_eq_true rfl) hlocks (fun t ha hsz hk => ⟨(), trivial, ⟨rfl, by unfold szOk; omega⟩, hsz, fun q h1 _ => hk q h1⟩) hS.2.2 (Nat.le_of_ble_eq_true rfl) (Nat.le_of_ble_eq_true rfl)
    · refine lv_iload_n hx hb dX0_wave_11 rfl (lv_at hl 3 rfl) ?_
      refine cx_if_lt (i := u8.toInt) (j := 0) (tgt := 29) hx hb rfl rfl dX0_wave_12 (by decide) (fun c_4 => ?_) (fun c_4 => ?_)
      · obtain ⟨sa9, hstr⟩ := hXstr.2.2.2.2.2.2.2.2
        exact vx_throwS (own := RX0) (cls := "java/lang/IllegalArgumentException") (names := ["java/lang/RuntimeException", "java/lang/Exception"]) hx hb hl9 hown (by decide +kernel) (by decide +kernel) (hts _ wm_196) (hts _ wm_18) hstr (vx_hat (L := vx_atS RX0 41 "java/lang/IllegalArgumentException" ["java/lang/RuntimeException", "java/lang/Exception"]) (B := [.castable "java/lang/IllegalArgumentException" "java/lang/IllegalArgumentException", .declares ⟨"java/lang/RuntimeException", "<init>", "(Ljava/lang/String;)V"⟩, .declares ⟨"java/lang/Exception", "<init>", "(Ljava/lang/String;)V"⟩, .declares ⟨"java/lang/Throwable", "<init>", "(Ljava/lang/String;)V"⟩]) (fun w hw => hts w (hat_a w hw)) hatB_a (vx_c (va_Nw.use rfl hXc_a) (vx_c (va_Nw.use rfl hXd1) (vx_c (va_Nw.use rfl hXd2) (vx_c (va_Nw.use rfl hXd3) (vx_n)))))) hatG_a hXU hXN hS (hl.1.trans hml.symm) dX0_wave_29 dX0_wave_32 dX0_wave_33 dX0_wave_35 dX0_wave_38 (fun x9 h9 => (htab x9 h9).elim) (Nat.le_of_ble_eq_true rfl) (Nat.le_of_ble_eq_true rfl) (Nat.le_of_ble_eq_true rfl) (Nat.le_of_ble_eq_true rfl) hlocks (fun t ha hsz hk => ⟨(), trivial, ⟨rfl, by unfold szOk; omega⟩, hsz, fun q h1 _ => hk q h1⟩) hS.2.2 (Nat.le_of_ble_eq_true rfl) (Nat.le_of_ble_eq_true rfl)
      · refine lv_iload_n hx hb dX0_wave_15 rfl (lv_at hl 3 rfl) ?_
        refine lv_iload_n hx hb dX0_wave_16 rfl (lv_at hl 2 rfl) ?_
        refine cx_icmp_ge (i := u8.toInt) (j := ((nn : Nat) : Int)) (tgt := 29) hx hb rfl (nI_toInt (by omega)) dX0_wave_17 (by decide) (fun c_5 => ?_) (fun c_5 => ?_)
        · obtain ⟨sa9, hstr⟩ := hXstr.2.2.2.2.2.2.2.2
          exact vx_throwS (own := RX0) (cls := "java/lang/IllegalArgumentException") (names := ["java/lang/RuntimeException", "java/lang/Exception"]) hx hb hl9 hown (by decide +kernel) (by decide +kernel) (hts _ wm_196) (hts _ wm_18) hstr (vx_hat (L := vx_atS RX0 41 "java/lang/IllegalArgumentException" ["java/lang/RuntimeException", "java/lang/Exception"]) (B := [.castable "java/lang/IllegalArgumentException" "java/lang/IllegalArgumentException", .declares ⟨"java/lang/RuntimeException", "<init>", "(Ljava/lang/String;)V"⟩, .declares ⟨"java/lang/Exception", "<init>", "(Ljava/lang/String;)V"⟩, .declares ⟨"java/lang/Throwable", "<init>", "(Ljava/lang/String;)V"⟩]) (fun w hw => hts w (hat_a w hw)) hatB_a (vx_c (va_Nw.use rfl hXc_a) (vx_c (va_Nw.use rfl hXd1) (vx_c (va_Nw.use rfl hXd2) (vx_c (va_Nw.use rfl hXd3) (vx_n)))))) hatG_a hXU hXN hS (hl.1.trans hml.symm) dX0_wave_29 dX0_wave_32 dX0_wave_33 dX0_wave_35 dX0_wave_38 (fun x9 h9 => (htab x9 h9).elim) (Nat.le_of_ble_eq_true rfl) (Nat.le_of_ble_eq_true rfl) (Nat.le_of_ble_eq_true rfl) (Nat.le_of_ble_eq_true rfl) hlocks (fun t ha hsz hk => ⟨(), trivial, ⟨rfl, by unfold szOk; omega⟩, hsz, fun q h1 _ => hk q h1⟩) hS.2.2 (Nat.le_of_ble_eq_true rfl) (Nat.le_of_ble_eq_true rfl)
        · refine lv_iload_n hx hb dX0_wave_20 rfl (lv_at hl 4 rfl) ?_
          refine cx_if_lt (i := x8.toInt) (j := 0) (tgt := 29) hx hb rfl rfl dX0_wave_21 (by decide) (fun c_6 => ?_) (fun c_6 => ?_)
          · obtain ⟨sa9, hstr⟩ := hXstr.2.2.2.2.2.2.2.2
            exact vx_throwS (own := RX0) (cls := "java/lang/IllegalArgumentException") (names := ["java/lang/RuntimeException", "java/lang/Exception"]) hx hb hl9 hown (by decide +kernel) (by decide +kernel) (hts _ wm_196) (hts _ wm_18) hstr (vx_hat (L := vx_atS RX0 41 "java/lang/IllegalArgumentException" ["java/lang/RuntimeException", "java/lang/Exception"]) (B := [.castable "java/lang/IllegalArgumentException" "java/lang/IllegalArgumentException", .declares ⟨"java/lang/RuntimeException", "<init>", "(Ljava/lang/String;)V"⟩, .declares ⟨"java/lang/Exception", "<init>", "(Ljava/lang/String;)V"⟩, .declares ⟨"java/lang/Throwable", "<init>", "(Ljava/lang/String;)V"⟩]) (fun w hw => hts w (hat_a w hw)) hatB_a (vx_c (va_Nw.use rfl hXc_a) (vx_c (va_Nw.use rfl hXd1) (vx_c (va_Nw.use rfl hXd2) (vx_c (va_Nw.use rfl hXd3) (vx_n)))))) hatG_a hXU hXN hS (hl.1.trans hml.symm) dX0_wave_29 dX0_wave_32 dX0_wave_33 dX0_wave_35 dX0_wave_38 (fun x9 h9 => (htab x9 h9).elim) (Nat.le_of_ble_eq_true rfl) (Nat.le_of_ble_eq_true rfl) (Nat.le_of_ble_eq_true rfl) (Nat.le_of_ble_eq_true rfl) hlocks (fun t ha hsz hk => ⟨(), trivial, ⟨rfl, by unfold szOk; omega⟩, hsz, fun q h1 _ => hk q h1⟩) hS.2.2 (Nat.le_of_ble_eq_true rfl) (Nat.le_of_ble_eq_true rfl)
          · refine lv_iload_n hx hb dX0_wave_24 rfl (lv_at hl 4 rfl) ?_
            refine lv_iload_n hx hb dX0_wave_25 rfl (lv_at hl 2 rfl) ?_
            refine cx_icmp_lt (i := x8.toInt) (j := ((nn : Nat) : Int)) (tgt := 39) hx hb rfl (nI_toInt (by omega)) dX0_wave_26 (by decide) (fun c_7 => ?_) (fun c_7 => ?_)
            · obtain ⟨uu, hlu, heu⟩ := cx_ofN (x := u8) (n := 8) (by omega) (by omega) (by decide)
              obtain ⟨xx, hlx, hex⟩ := cx_ofN (x := x8) (n := 8) (by omega) (by omega) (by decide)
              have e_8 : u8 = nI uu := heu
              rw [e_8] at hl
              have e_9 : x8 = nI xx := hex
              rw [e_9] at hl
              refine lv_iload hx hb dX0_wave_39 (lv_at hl 0 rfl) ?_
              refine lv_iload_n hx hb dX0_wave_41 rfl (lv_at hl 3 rfl) ?_
              refine lv_iload_n hx hb dX0_wave_42 rfl (lv_at hl 4 rfl) ?_
              refine vp_callSi (W.runS (As := [.int (nI sp), .int (nI uu), .int (nI xx)]) (rest := []) ⟨hx, hb, hml, hown, hts⟩ (m_waveAt l D sp uu xx (by omega) (by omega) (by omega)) (va_cwS 3 hts (gw_S wm_54 wm_55 wm_12 wm_56) rfl rfl rfl (by decide +kernel) ⟨Nat.le_of_ble_eq_true rfl, Nat.le_of_ble_eq_true rfl⟩) ⟨cro_blind, fun U hU hW => ⟨rfl, cro_at (hP.sub (ws' := []) [] rfl) (hK.sub (tys' := []) [] rfl) hTb hS hU hW⟩⟩ rfl rfl hl.1 rfl (lv_room (Nat.le_of_ble_eq_true rfl)) dX0_wave_43 ⟨Nat.le_of_ble_eq_true rfl, Nat.le_of_ble_eq_true rfl⟩) (fun r_10 hr_10 => ?_)
              rw [hr_10]
              refine W.widen (k := 1) (n := 6) (Nat.zero_le _) (Nat.zero_le _) (vx_ret ?_)
              exact W.iret (v := wvN sp uu xx) hx hb hr (fun t ht hW => ⟨⟨wvN sp uu xx, (), rfl, ⟨⟨hq3, by omega, by omega⟩, by rw [hq1, hq2, heu, hex, cx_toNat (by omega), cx_toNat (by omega)]⟩, trivial⟩, hS.F ht⟩) hS.2.2 dX0_wave_46
            · obtain ⟨sa9, hstr⟩ := hXstr.2.2.2.2.2.2.2.2
              exact vx_throwS (own := RX0) (cls := "java/lang/IllegalArgumentException") (names := ["java/lang/RuntimeException", "java/lang/Exception"]) hx hb hl9 hown (by decide +kernel) (by decide +kernel) (hts _ wm_196) (hts _ wm_18) hstr (vx_hat (L := vx_atS RX0 41 "java/lang/IllegalArgumentException" ["java/lang/RuntimeException", "java/lang/Exception"]) (B := [.castable "java/lang/IllegalArgumentException" "java/lang/IllegalArgumentException", .declares ⟨"java/lang/RuntimeException", "<init>", "(Ljava/lang/String;)V"⟩, .declares ⟨"java/lang/Exception", "<init>", "(Ljava/lang/String;)V"⟩, .declares ⟨"java/lang/Throwable", "<init>", "(Ljava/lang/String;)V"⟩]) (fun w hw => hts w (hat_a w hw)) hatB_a (vx_c (va_Nw.use rfl hXc_a) (vx_c (va_Nw.use rfl hXd1) (vx_c (va_Nw.use rfl hXd2) (vx_c (va_Nw.use rfl hXd3) (vx_n)))))) hatG_a hXU hXN hS (hl.1.trans hml.symm) dX0_wave_29 dX0_wave_32 dX0_wave_33 dX0_wave_35 dX0_wave_38 (fun x9 h9 => (htab x9 h9).elim) (Nat.le_of_ble_eq_true rfl) (Nat.le_of_ble_eq_true rfl) (Nat.le_of_ble_eq_true rfl) (Nat.le_of_ble_eq_true rfl) hlocks (fun t ha hsz hk => ⟨(), trivial, ⟨rfl, by unfold szOk; omega⟩, hsz, fun q h1 _ => hk q h1⟩) hS.2.2 (Nat.le_of_ble_eq_true rfl) (Nat.le_of_ble_eq_true rfl)
  · unfold noSz at hno9
    refine lv_istore (lv' := [(4, .int (0 : Int32)), (0, .ref (x 0)), (1, .int q), (2, .int u8), (3, .int x8)]) hx hb dX0_wave_4 hl (by decide) rfl (fun ls hl => ?_)
    refine lv_iload hx hb dX0_wave_6 (lv_at hl 0 rfl) ?_
    refine cx_if_eq (i := 0) (j := 0) (tgt := 29) hx hb (by decide +kernel) rfl dX0_wave_8 (by decide) (fun c_11 => ?_) (fun c_11 => absurd c_11 (by decide))
    obtain ⟨sa9, hstr⟩ := hXstr.2.2.2.2.2.2.2.2
    exact vx_throwS (own := RX0) (cls := "java/lang/IllegalArgumentException") (names := ["java/lang/RuntimeException", "java/lang/Exception"]) hx hb hl9 hown (by decide +kernel) (by decide +kernel) (hts _ wm_196) (hts _ wm_18) hstr (vx_hat (L := vx_atS RX0 41 "java/lang/IllegalArgumentException" ["java/lang/RuntimeException", "java/lang/Exception"]) (B := [.castable "java/lang/IllegalArgumentException" "java/lang/IllegalArgumentException", .declares ⟨"java/lang/RuntimeException", "<init>", "(Ljava/lang/String;)V"⟩, .declares ⟨"java/lang/Exception", "<init>", "(Ljava/lang/String;)V"⟩, .declares ⟨"java/lang/Throwable", "<init>", "(Ljava/lang/String;)V"⟩]) (fun w hw => hts w (hat_a w hw)) hatB_a (vx_c (va_Nw.use rfl hXc_a) (vx_c (va_Nw.use rfl hXd1) (vx_c (va_Nw.use rfl hXd2) (vx_c (va_Nw.use rfl hXd3) (vx_n)))))) hatG_a hXU hXN hS (hl.1.trans hml.symm) dX0_wave_29 dX0_wave_32 dX0_wave_33 dX0_wave_35 dX0_wave_38 (fun x9 h9 => (htab x9 h9).elim) (Nat.le_of_ble_eq_true rfl) (Nat.le_of_ble_eq_true rfl) (Nat.le_of_ble_eq_true rfl) (Nat.le_of_ble_eq_true rfl) hlocks (fun t ha hsz hk => ⟨(), trivial, ⟨rfl, by unfold szOk; omega⟩, hsz, fun q h1 _ => hk q h1⟩) hS.2.2 (Nat.le_of_ble_eq_true rfl) (Nat.le_of_ble_eq_true rfl)
end
section
theorem dX0_init_0 : decode cX0_init 0 = .ok (.aload_n 0, 1) := by decide +kernel
theorem dX0_init_1 : decode cX0_init 1 = .ok (.invokespecial 1, 3) := by decide +kernel
theorem dX0_init_4 : decode cX0_init 4 = .ok (.aload_n 0, 1) := by decide +kernel
theorem dX0_init_5 : decode cX0_init 5 = .ok (.bipush 64, 2) := by decide +kernel
theorem dX0_init_7 : decode cX0_init 7 = .ok (.newarray .int, 2) := by decide +kernel
theorem dX0_init_9 : decode cX0_init 9 = .ok (.putfield 9, 3) := by decide +kernel
theorem dX0_init_12 : decode cX0_init 12 = .ok (.aload_n 0, 1) := by decide +kernel
theorem dX0_init_13 : decode cX0_init 13 = .ok (.bipush 64, 2) := by decide +kernel
theorem dX0_init_15 : decode cX0_init 15 = .ok (.newarray .int, 2) := by decide +kernel
theorem dX0_init_17 : decode cX0_init 17 = .ok (.putfield 13, 3) := by decide +kernel
theorem dX0_init_20 : decode cX0_init 20 = .ok (.aload_n 0, 1) := by decide +kernel
theorem dX0_init_21 : decode cX0_init 21 = .ok (.bipush 64, 2) := by decide +kernel
theorem dX0_init_23 : decode cX0_init 23 = .ok (.newarray .int, 2) := by decide +kernel
theorem dX0_init_25 : decode cX0_init 25 = .ok (.putfield 16, 3) := by decide +kernel
theorem dX0_init_28 : decode cX0_init 28 = .ok (.aload_n 0, 1) := by decide +kernel
theorem dX0_init_29 : decode cX0_init 29 = .ok (.bipush 64, 2) := by decide +kernel
theorem dX0_init_31 : decode cX0_init 31 = .ok (.newarray .int, 2) := by decide +kernel
theorem dX0_init_33 : decode cX0_init 33 = .ok (.putfield 19, 3) := by decide +kernel
theorem dX0_init_36 : decode cX0_init 36 = .ok (.aload_n 0, 1) := by decide +kernel
theorem dX0_init_37 : decode cX0_init 37 = .ok (.bipush 64, 2) := by decide +kernel
theorem dX0_init_39 : decode cX0_init 39 = .ok (.newarray .long, 2) := by decide +kernel
theorem dX0_init_41 : decode cX0_init 41 = .ok (.putfield 22, 3) := by decide +kernel
theorem dX0_init_44 : decode cX0_init 44 = .ok (.iconst 0, 1) := by decide +kernel
theorem dX0_init_45 : decode cX0_init 45 = .ok (.istore_n 1, 1) := by decide +kernel
theorem dX0_init_46 : decode cX0_init 46 = .ok (.iload_n 1, 1) := by decide +kernel
theorem dX0_init_47 : decode cX0_init 47 = .ok (.bipush 64, 2) := by decide +kernel
theorem dX0_init_49 : decode cX0_init 49 = .ok (.if_icmp .ge 16, 3) := by decide +kernel
theorem dX0_init_52 : decode cX0_init 52 = .ok (.aload_n 0, 1) := by decide +kernel
theorem dX0_init_53 : decode cX0_init 53 = .ok (.getfield 13, 3) := by decide +kernel
theorem dX0_init_56 : decode cX0_init 56 = .ok (.iload_n 1, 1) := by decide +kernel
theorem dX0_init_57 : decode cX0_init 57 = .ok (.iconst 1, 1) := by decide +kernel
theorem dX0_init_58 : decode cX0_init 58 = .ok (.iastore, 1) := by decide +kernel
theorem dX0_init_59 : decode cX0_init 59 = .ok (.iinc 1 1, 3) := by decide +kernel
theorem dX0_init_62 : decode cX0_init 62 = .ok (.goto (-16), 3) := by decide +kernel
theorem dX0_init_65 : decode cX0_init 65 = .ok (.return_, 1) := by decide +kernel
set_option maxHeartbeats 4000000 in
set_option maxRecDepth 100000 in
/-- a new object -/
theorem m_init (l : Launch) (D : va_G) (h0 sz : Nat) : Met l yX0_init wsX0_init ({ frames := 1, cells := 5, slots := 320, locals := 12 } : Room) (va_Pc [.ref h0] (crw D ([(h0, .inr (0, [.null, .null, .null, .null, .null]))]) [] sz)) (va_Qv (fun (u : (Nat → Nat) × (Nat → ClassId) × (Nat → Int32)) => u.1 0 = h0 ∧ ∀ j, j < 64 → u.2.2 j = 1) (fun (u : (Nat → Nat) × (Nat → ClassId) × (Nat → Int32)) (t : State) => crB D (cw u.1 u.2.1 (fun _ => 0) u.2.2 (fun _ => 0) (fun _ => 0) (fun _ => 0)) (cty u.2.1) (va_A ([(h0, .inr (0, [.null, .null, .null, .null, .null]))]) sz) t) (va_A ([(h0, .inr (0, [.null, .null, .null, .null, .null]))]) sz)) 5 320 (va_A ([(h0, .inr (0, [.null, .null, .null, .null, .null]))]) sz) := by
  refine Met.ofW (cc := cX0_init) (maxL := 2) (ret := none) (by decide) rfl ?_
  intro p e s m args below meth c s₁ B hml hv
  obtain ⟨rfl, hsz, hP, hK, hD0, hTb⟩ := hv
  have hx := B.exec
  have hb := B.bytes
  have hr := B.returns
  have hts : ∀ w ∈ wA, w.before _ s = true := fun w h => atoms_spec (ws := wsX0_init) B.pre w (List.mem_cons_of_mem _ h)
  have hown : s.vm.findClass RX0 = some m.cls := findClass_of_methodNamed B.named
  have hlocks := B.notSynchronized
  have hin : meth.name = "<init>" := (name_of_methodNamed B.named B.method).1
  subst hsz
  have hD := hD0.self (sz := s.heap.size)
  generalize hAe : va_A ([(h0, .inr (0, [.null, .null, .null, .null, .null]))]) s.heap.size = A at hD hTb ⊢
  have hA : ∀ q : Nat, s.heap.size ≤ q → A q := fun q h => by rw [← hAe]; exact Or.inr h
  have hS : va_S A s.heap s.heap [] := va_S.rf
  have hin0 := inA0
  have hf9 := (hts _ wm_28)
  have hf13 := (hts _ wm_29)
  have hf16 := (hts _ wm_30)
  have hf19 := (hts _ wm_31)
  have hf22 := (hts _ wm_32)
  have hl := lv_entry ([.ref h0]) (n := 2) (Nat.le_of_ble_eq_true rfl)
  rw [lg_entry_eq]
  generalize (lg_sl ([.ref h0]) ++ List.replicate (2 - (lg_sl ([.ref h0])).length) Slot.unset).toArray = ls at hl ⊢
  have hl : lv_has ls 2 [(0, .ref h0)] := hl
  refine lv_aload_n hx hb dX0_init_0 rfl (lv_at hl 0 rfl) ?_
  refine W.objInit hx hb hown (hts _ wm_25) (hts _ wm_26) (hts _ wm_27) rfl (by rw [hml]; exact hl.1) rfl dX0_init_1 (Nat.le_of_ble_eq_true rfl) (Nat.le_of_ble_eq_true rfl) ?_
  refine W.eq (g2 := F0 m 4 ls []) rfl ?_
  refine lv_aload_n hx hb dX0_init_4 rfl (lv_at hl 0 rfl) ?_
  refine lv_bipush (v := (64 : Int32)) hx hb dX0_init_5 (by decide +kernel) ?_
  refine va_newa (atype := .int) (ty := .int) (N' := 64) (a0 := (64, .inl (fun _ => 0))) hx hb (hts _ wm_44) rfl hK hP hD hS hA (fun cA => rfl) (by decide) (by decide) (by decide) (Nat.le_of_ble_eq_true rfl) (Nat.le_of_ble_eq_true rfl) dX0_init_7 (fun q1 c1 H hK hP hD hS => ?_)
  have hP : va_P D vwCl ([(h0, .inr (0, [.null, .null, .null, .null, .null])), (q1, .inl (c1, 64, .inl (fun _ => 0)))]) H := hP
  have hD : va_D A ([(h0, .inr (0, [.null, .null, .null, .null, .null])), (q1, .inl (c1, 64, .inl (fun _ => 0)))]) := hD
  have hK : va_K D vwCl [(c1, .int)] s := hK
  refine va_putF (D := D) (ci := 0) (v := .ref q1) (ty := .array .int) (C := RX0) (T := TX0) (N := 5) hx hb hts hin0 tyX0 tyX0_ok nmX0 hown hK hP hD hS 0 rfl rfl 0 (by decide) hf9 (fun _ h9 => h9) rfl hin rfl (by decide +kernel) rfl rfl (Nat.le_of_ble_eq_true rfl) dX0_init_9 (fun H locs hP hD hS => ?_)
  have hP : va_P D vwCl ([(h0, .inr (0, [.ref q1, .null, .null, .null, .null])), (q1, .inl (c1, 64, .inl (fun _ => 0)))]) H := hP
  have hD : va_D A ([(h0, .inr (0, [.ref q1, .null, .null, .null, .null])), (q1, .inl (c1, 64, .inl (fun _ => 0)))]) := hD
  refine lv_aload_n hx hb dX0_init_12 rfl (lv_at hl 0 rfl) ?_
  refine lv_bipush (v := (64 : Int32)) hx hb dX0_init_13 (by decide +kernel) ?_
  refine va_newa (atype := .int) (ty := .int) (N' := 64) (a0 := (64, .inl (fun _ => 0))) hx hb (hts _ wm_44) rfl hK hP hD hS hA (fun cA => rfl) (by decide) (by decide) (by decide) (Nat.le_of_ble_eq_true rfl) (Nat.le_of_ble_eq_true rfl) dX0_init_15 (fun q2 c2 H hK hP hD hS => ?_)
  have hP : va_P D vwCl ([(h0, .inr (0, [.ref q1, .null, .null, .null, .null])), (q1, .inl (c1, 64, .inl (fun _ => 0))), (q2, .inl (c2, 64, .inl (fun _ => 0)))]) H := hP
  have hD : va_D A ([(h0, .inr (0, [.ref q1, .null, .null, .null, .null])), (q1, .inl (c1, 64, .inl (fun _ => 0))), (q2, .inl (c2, 64, .inl (fun _ => 0)))]) := hD
  have hK : va_K D vwCl [(c1, .int), (c2, .int)] s := hK
  refine va_putF (D := D) (ci := 0) (v := .ref q2) (ty := .array .int) (C := RX0) (T := TX0) (N := 5) hx hb hts hin0 tyX0 tyX0_ok nmX0 hown hK hP hD hS 0 rfl rfl 1 (by decide) hf13 (fun _ h9 => h9) rfl hin rfl (by decide +kernel) rfl rfl (Nat.le_of_ble_eq_true rfl) dX0_init_17 (fun H locs hP hD hS => ?_)
  have hP : va_P D vwCl ([(h0, .inr (0, [.ref q1, .ref q2, .null, .null, .null])), (q1, .inl (c1, 64, .inl (fun _ => 0))), (q2, .inl (c2, 64, .inl (fun _ => 0)))]) H := hP
  have hD : va_D A ([(h0, .inr (0, [.ref q1, .ref q2, .null, .null, .null])), (q1, .inl (c1, 64, .inl (fun _ => 0))), (q2, .inl (c2, 64, .inl (fun _ => 0)))]) := hD
  refine lv_aload_n hx hb dX0_init_20 rfl (lv_at hl 0 rfl) ?_
  refine lv_bipush (v := (64 : Int32)) hx hb dX0_init_21 (by decide +kernel) ?_
  refine va_newa (atype := .int) (ty := .int) (N' := 64) (a0 := (64, .inl (fun _ => 0))) hx hb (hts _ wm_44) rfl hK hP hD hS hA (fun cA => rfl) (by decide) (by decide) (by decide) (Nat.le_of_ble_eq_true rfl) (Nat.le_of_ble_eq_true rfl) dX0_init_23 (fun q3 c3 H hK hP hD hS => ?_)
  have hP : va_P D vwCl ([(h0, .inr (0, [.ref q1, .ref q2, .null, .null, .null])), (q1, .inl (c1, 64, .inl (fun _ => 0))), (q2, .inl (c2, 64, .inl (fun _ => 0))), (q3, .inl (c3, 64, .inl (fun _ => 0)))]) H := hP
  have hD : va_D A ([(h0, .inr (0, [.ref q1, .ref q2, .null, .null, .null])), (q1, .inl (c1, 64, .inl (fun _ => 0))), (q2, .inl (c2, 64, .inl (fun _ => 0))), (q3, .inl (c3, 64, .inl (fun _ => 0)))]) := hD
  have hK : va_K D vwCl [(c1, .int), (c2, .int), (c3, .int)] s := hK
  refine va_putF (D := D) (ci := 0) (v := .ref q3) (ty := .array .int) (C := RX0) (T := TX0) (N := 5) hx hb hts hin0 tyX0 tyX0_ok nmX0 hown hK hP hD hS 0 rfl rfl 2 (by decide) hf16 (fun _ h9 => h9) rfl hin rfl (by decide +kernel) rfl rfl (Nat.le_of_ble_eq_true rfl) dX0_init_25 (fun H locs hP hD hS => ?_)
  have hP : va_P D vwCl ([(h0, .inr (0, [.ref q1, .ref q2, .ref q3, .null, .null])), (q1, .inl (c1, 64, .inl (fun _ => 0))), (q2, .inl (c2, 64, .inl (fun _ => 0))), (q3, .inl (c3, 64, .inl (fun _ => 0)))]) H := hP
  have hD : va_D A ([(h0, .inr (0, [.ref q1, .ref q2, .ref q3, .null, .null])), (q1, .inl (c1, 64, .inl (fun _ => 0))), (q2, .inl (c2, 64, .inl (fun _ => 0))), (q3, .inl (c3, 64, .inl (fun _ => 0)))]) := hD
  refine lv_aload_n hx hb dX0_init_28 rfl (lv_at hl 0 rfl) ?_
  refine lv_bipush (v := (64 : Int32)) hx hb dX0_init_29 (by decide +kernel) ?_
  refine va_newa (atype := .int) (ty := .int) (N' := 64) (a0 := (64, .inl (fun _ => 0))) hx hb (hts _ wm_44) rfl hK hP hD hS hA (fun cA => rfl) (by decide) (by decide) (by decide) (Nat.le_of_ble_eq_true rfl) (Nat.le_of_ble_eq_true rfl) dX0_init_31 (fun q4 c4 H hK hP hD hS => ?_)
  have hP : va_P D vwCl ([(h0, .inr (0, [.ref q1, .ref q2, .ref q3, .null, .null])), (q1, .inl (c1, 64, .inl (fun _ => 0))), (q2, .inl (c2, 64, .inl (fun _ => 0))), (q3, .inl (c3, 64, .inl (fun _ => 0))), (q4, .inl (c4, 64, .inl (fun _ => 0)))]) H := hP
  have hD : va_D A ([(h0, .inr (0, [.ref q1, .ref q2, .ref q3, .null, .null])), (q1, .inl (c1, 64, .inl (fun _ => 0))), (q2, .inl (c2, 64, .inl (fun _ => 0))), (q3, .inl (c3, 64, .inl (fun _ => 0))), (q4, .inl (c4, 64, .inl (fun _ => 0)))]) := hD
  have hK : va_K D vwCl [(c1, .int), (c2, .int), (c3, .int), (c4, .int)] s := hK
  refine va_putF (D := D) (ci := 0) (v := .ref q4) (ty := .array .int) (C := RX0) (T := TX0) (N := 5) hx hb hts hin0 tyX0 tyX0_ok nmX0 hown hK hP hD hS 0 rfl rfl 3 (by decide) hf19 (fun _ h9 => h9) rfl hin rfl (by decide +kernel) rfl rfl (Nat.le_of_ble_eq_true rfl) dX0_init_33 (fun H locs hP hD hS => ?_)
  have hP : va_P D vwCl ([(h0, .inr (0, [.ref q1, .ref q2, .ref q3, .ref q4, .null])), (q1, .inl (c1, 64, .inl (fun _ => 0))), (q2, .inl (c2, 64, .inl (fun _ => 0))), (q3, .inl (c3, 64, .inl (fun _ => 0))), (q4, .inl (c4, 64, .inl (fun _ => 0)))]) H := hP
  have hD : va_D A ([(h0, .inr (0, [.ref q1, .ref q2, .ref q3, .ref q4, .null])), (q1, .inl (c1, 64, .inl (fun _ => 0))), (q2, .inl (c2, 64, .inl (fun _ => 0))), (q3, .inl (c3, 64, .inl (fun _ => 0))), (q4, .inl (c4, 64, .inl (fun _ => 0)))]) := hD
  refine lv_aload_n hx hb dX0_init_36 rfl (lv_at hl 0 rfl) ?_
  refine lv_bipush (v := (64 : Int32)) hx hb dX0_init_37 (by decide +kernel) ?_
  refine va_newa (atype := .long) (ty := .long) (N' := 64) (a0 := (64, .inr (.inl (fun _ => 0)))) hx hb (hts _ wm_45) rfl hK hP hD hS hA (fun cA => rfl) (by decide) (by decide) (by decide) (Nat.le_of_ble_eq_true rfl) (Nat.le_of_ble_eq_true rfl) dX0_init_39 (fun q5 c5 H hK hP hD hS => ?_)
  have hP : va_P D vwCl ([(h0, .inr (0, [.ref q1, .ref q2, .ref q3, .ref q4, .null])), (q1, .inl (c1, 64, .inl (fun _ => 0))), (q2, .inl (c2, 64, .inl (fun _ => 0))), (q3, .inl (c3, 64, .inl (fun _ => 0))), (q4, .inl (c4, 64, .inl (fun _ => 0))), (q5, .inl (c5, 64, .inr (.inl (fun _ => 0))))]) H := hP
  have hD : va_D A ([(h0, .inr (0, [.ref q1, .ref q2, .ref q3, .ref q4, .null])), (q1, .inl (c1, 64, .inl (fun _ => 0))), (q2, .inl (c2, 64, .inl (fun _ => 0))), (q3, .inl (c3, 64, .inl (fun _ => 0))), (q4, .inl (c4, 64, .inl (fun _ => 0))), (q5, .inl (c5, 64, .inr (.inl (fun _ => 0))))]) := hD
  have hK : va_K D vwCl [(c1, .int), (c2, .int), (c3, .int), (c4, .int), (c5, .long)] s := hK
  refine va_putF (D := D) (ci := 0) (v := .ref q5) (ty := .array .long) (C := RX0) (T := TX0) (N := 5) hx hb hts hin0 tyX0 tyX0_ok nmX0 hown hK hP hD hS 0 rfl rfl 4 (by decide) hf22 (fun _ h9 => h9) rfl hin rfl (by decide +kernel) rfl rfl (Nat.le_of_ble_eq_true rfl) dX0_init_41 (fun H locs hP hD hS => ?_)
  have hP : va_P D vwCl ([(h0, .inr (0, [.ref q1, .ref q2, .ref q3, .ref q4, .ref q5])), (q1, .inl (c1, 64, .inl (fun _ => 0))), (q2, .inl (c2, 64, .inl (fun _ => 0))), (q3, .inl (c3, 64, .inl (fun _ => 0))), (q4, .inl (c4, 64, .inl (fun _ => 0))), (q5, .inl (c5, 64, .inr (.inl (fun _ => 0))))]) H := hP
  have hD : va_D A ([(h0, .inr (0, [.ref q1, .ref q2, .ref q3, .ref q4, .ref q5])), (q1, .inl (c1, 64, .inl (fun _ => 0))), (q2, .inl (c2, 64, .inl (fun _ => 0))), (q3, .inl (c3, 64, .inl (fun _ => 0))), (q4, .inl (c4, 64, .inl (fun _ => 0))), (q5, .inl (c5, 64, .inr (.inl (fun _ => 0))))]) := hD
  refine lv_iconst (v := (0 : Int32)) hx hb dX0_init_44 (by decide +kernel) ?_
  refine lv_istore_n (lv' := [(1, .int (0 : Int32)), (0, .ref h0)]) hx hb dX0_init_45 rfl hl (by decide) rfl (fun ls hl => ?_)
  have L46 : ∀ (n : Nat) (i9 : Nat) (w9 : Nat → Int32) (H : Heap) (locs : List Loc) (ls : Array Slot), (64 - i9) < n → (i9 ≤ 64) → (∀ j, j < i9 → w9 j = 1) → va_P D vwCl ([(h0, .inr (0, [.ref q1, .ref q2, .ref q3, .ref q4, .ref q5])), (q1, .inl (c1, 64, .inl (fun _ => 0))), (q2, .inl (c2, 64, .inl w9)), (q3, .inl (c3, 64, .inl (fun _ => 0))), (q4, .inl (c4, 64, .inl (fun _ => 0))), (q5, .inl (c5, 64, .inr (.inl (fun _ => 0))))]) H → va_D A ([(h0, .inr (0, [.ref q1, .ref q2, .ref q3, .ref q4, .ref q5])), (q1, .inl (c1, 64, .inl (fun _ => 0))), (q2, .inl (c2, 64, .inl w9)), (q3, .inl (c3, 64, .inl (fun _ => 0))), (q4, .inl (c4, 64, .inl (fun _ => 0))), (q5, .inl (c5, 64, .inr (.inl (fun _ => 0))))]) → va_S A s.heap H locs → lv_has ls 2 [(0, .ref h0), (1, .int (nI i9))] → W p l e ((headSpec wsX0_init ({ frames := 1, cells := 5, slots := 320, locals := 12 } : Room)).room) s m (([.ref h0] : List Value).toArray) below meth c H locs 5 320 (MQ below (va_Qv (fun (u : (Nat → Nat) × (Nat → ClassId) × (Nat → Int32)) => u.1 0 = h0 ∧ ∀ j, j < 64 → u.2.2 j = 1) (fun (u : (Nat → Nat) × (Nat → ClassId) × (Nat → Int32)) (t : State) => crB D (cw u.1 u.2.1 (fun _ => 0) u.2.2 (fun _ => 0) (fun _ => 0) (fun _ => 0)) (cty u.2.1) A t) A) ([.ref h0] : List Value).toArray s 5 320 A) (F0 m 46 ls []) := by
    intro n
    induction n with
    | zero =>
      intro i9 w9 H locs ls hn
      exact absurd hn (Nat.not_lt_zero _)
    | succ n ih46 =>
      intro i9 w9 H locs ls hn46 hi9 hw9 hP hD hS hl
      refine lv_iload_n hx hb dX0_init_46 rfl (lv_at hl 1 rfl) ?_
      refine lv_bipush (v := (64 : Int32)) hx hb dX0_init_47 (by decide +kernel) ?_
      refine cx_icmp_ge (i := ((i9 : Nat) : Int)) (j := 64) (tgt := 65) hx hb (nI_toInt (by omega)) (by decide +kernel) dX0_init_49 (by decide) (fun c_1 => ?_) (fun c_1 => ?_)
      · exact W.vret hx hb hr (fun t ht hW => ⟨⟨((fun k => match k with | 0 => h0 | 1 => q1 | 2 => q2 | 3 => q3 | 4 => q4 | _ => q5), (fun k => match k with | 1 => c1 | 2 => c2 | 3 => c3 | 4 => c4 | _ => c5), w9), rfl, ⟨rfl, (by obtain rfl : i9 = 64 := (by omega); exact hw9)⟩, by rw [ht]; exact hP, va_K.moved hW.alike hK, hD⟩, hS.F ht⟩) hS.2.2 dX0_init_65
      · refine lv_aload_n hx hb dX0_init_52 rfl (lv_at hl 0 rfl) ?_
        refine va_get (D := D) (ci := 0) (v := .ref q2) (C := RX0) (T := TX0) (N := 5) hx hb hts hin0 hown hK hP 0 rfl rfl 1 (by decide) hf13 (fun _ h9 => h9) rfl dX0_init_53 ?_
        refine lv_iload_n hx hb dX0_init_56 rfl (lv_at hl 1 rfl) ?_
        refine lv_iconst (v := (1 : Int32)) hx hb dX0_init_57 (by decide +kernel) ?_
        refine cx_iast hx hb hK hP hD hS 2 1 rfl rfl i9 (by omega) (by decide) dX0_init_58 (fun H locs hP hD hS => ?_)
        have hP : va_P D vwCl ([(h0, .inr (0, [.ref q1, .ref q2, .ref q3, .ref q4, .ref q5])), (q1, .inl (c1, 64, .inl (fun _ => 0))), (q2, .inl (c2, 64, .inl (upd w9 i9 (1 : Int32)))), (q3, .inl (c3, 64, .inl (fun _ => 0))), (q4, .inl (c4, 64, .inl (fun _ => 0))), (q5, .inl (c5, 64, .inr (.inl (fun _ => 0))))]) H := hP
        have hD : va_D A ([(h0, .inr (0, [.ref q1, .ref q2, .ref q3, .ref q4, .ref q5])), (q1, .inl (c1, 64, .inl (fun _ => 0))), (q2, .inl (c2, 64, .inl (upd w9 i9 (1 : Int32)))), (q3, .inl (c3, 64, .inl (fun _ => 0))), (q4, .inl (c4, 64, .inl (fun _ => 0))), (q5, .inl (c5, 64, .inr (.inl (fun _ => 0))))]) := hD
        refine lv_iinc (v := nI (i9 + 1)) (lv' := [(1, .int (nI (i9 + 1))), (0, .ref h0)]) hx hb dX0_init_59 hl (k := 1) rfl (by show nI i9 + 1 = nI (i9 + 1); exact nI_add i9 1) (by decide) rfl (fun ls hl => ?_)
        refine lv_goto (tgt := 46) hx hb dX0_init_62 (by decide) ?_
        exact ih46 (i9 + 1) (upd w9 i9 (1 : Int32)) _ _ _ (by omega) (by omega) (upd_step (P := fun (j : Nat) (v : Int32) => v = 1) hw9 rfl) hP hD hS (lv_sub hl [1, 0] rfl)
  exact L46 _ 0 (fun _ => 0) _ _ _ (Nat.lt_succ_self _) (Nat.zero_le _) (fun j hj => absurd hj (Nat.not_lt_zero j)) hP hD hS (lv_sub hl [1, 0] rfl)
end
section
theorem dL_put_0 : decode cL_put 0 = .ok (.aload_n 0, 1) := by decide +kernel
theorem dL_put_1 : decode cL_put 1 = .ok (.iload_n 1, 1) := by decide +kernel
theorem dL_put_2 : decode cL_put 2 = .ok (.iload_n 2, 1) := by decide +kernel
theorem dL_put_3 : decode cL_put 3 = .ok (.invokevirtual 7, 3) := by decide +kernel
theorem dL_put_6 : decode cL_put 6 = .ok (.goto 9, 3) := by decide +kernel
theorem dL_put_9 : decode cL_put 9 = .ok (.astore_n 3, 1) := by decide +kernel
theorem dL_put_10 : decode cL_put 10 = .ok (.iconst 1, 1) := by decide +kernel
theorem dL_put_11 : decode cL_put 11 = .ok (.ireturn, 1) := by decide +kernel
theorem dL_put_12 : decode cL_put 12 = .ok (.astore_n 3, 1) := by decide +kernel
theorem dL_put_13 : decode cL_put 13 = .ok (.iconst 2, 1) := by decide +kernel
theorem dL_put_14 : decode cL_put 14 = .ok (.ireturn, 1) := by decide +kernel
theorem dL_put_15 : decode cL_put 15 = .ok (.iconst 0, 1) := by decide +kernel
theorem dL_put_16 : decode cL_put 16 = .ok (.ireturn, 1) := by decide +kernel
theorem dL_step_0 : decode cL_step 0 = .ok (.aload_n 0, 1) := by decide +kernel
theorem dL_step_1 : decode cL_step 1 = .ok (.iload_n 1, 1) := by decide +kernel
theorem dL_step_2 : decode cL_step 2 = .ok (.iload_n 2, 1) := by decide +kernel
theorem dL_step_3 : decode cL_step 3 = .ok (.invokevirtual 17, 3) := by decide +kernel
theorem dL_step_6 : decode cL_step 6 = .ok (.goto 9, 3) := by decide +kernel
theorem dL_step_9 : decode cL_step 9 = .ok (.astore_n 3, 1) := by decide +kernel
theorem dL_step_10 : decode cL_step 10 = .ok (.iconst 1, 1) := by decide +kernel
theorem dL_step_11 : decode cL_step 11 = .ok (.ireturn, 1) := by decide +kernel
theorem dL_step_12 : decode cL_step 12 = .ok (.astore_n 3, 1) := by decide +kernel
theorem dL_step_13 : decode cL_step 13 = .ok (.iconst 2, 1) := by decide +kernel
theorem dL_step_14 : decode cL_step 14 = .ok (.ireturn, 1) := by decide +kernel
theorem dL_step_15 : decode cL_step 15 = .ok (.iconst 0, 1) := by decide +kernel
theorem dL_step_16 : decode cL_step 16 = .ok (.ireturn, 1) := by decide +kernel
theorem dL_steps_0 : decode cL_steps 0 = .ok (.aload_n 0, 1) := by decide +kernel
theorem dL_steps_1 : decode cL_steps 1 = .ok (.iload_n 1, 1) := by decide +kernel
theorem dL_steps_2 : decode cL_steps 2 = .ok (.iload_n 2, 1) := by decide +kernel
theorem dL_steps_3 : decode cL_steps 3 = .ok (.iload_n 3, 1) := by decide +kernel
theorem dL_steps_4 : decode cL_steps 4 = .ok (.invokevirtual 20, 3) := by decide +kernel
theorem dL_steps_7 : decode cL_steps 7 = .ok (.goto 7, 3) := by decide +kernel
theorem dL_steps_10 : decode cL_steps 10 = .ok (.astore 4, 2) := by decide +kernel
theorem dL_steps_12 : decode cL_steps 12 = .ok (.iconst 1, 1) := by decide +kernel
theorem dL_steps_13 : decode cL_steps 13 = .ok (.ireturn, 1) := by decide +kernel
theorem dL_steps_14 : decode cL_steps 14 = .ok (.iconst 0, 1) := by decide +kernel
theorem dL_steps_15 : decode cL_steps 15 = .ok (.ireturn, 1) := by decide +kernel
theorem dL_row_0 : decode cL_row 0 = .ok (.aload_n 0, 1) := by decide +kernel
theorem dL_row_1 : decode cL_row 1 = .ok (.iload_n 1, 1) := by decide +kernel
theorem dL_row_2 : decode cL_row 2 = .ok (.lload_n 2, 1) := by decide +kernel
theorem dL_row_3 : decode cL_row 3 = .ok (.invokevirtual 24, 3) := by decide +kernel
theorem dL_row_6 : decode cL_row 6 = .ok (.goto 7, 3) := by decide +kernel
theorem dL_row_9 : decode cL_row 9 = .ok (.astore 4, 2) := by decide +kernel
theorem dL_row_11 : decode cL_row 11 = .ok (.iconst 1, 1) := by decide +kernel
theorem dL_row_12 : decode cL_row 12 = .ok (.ireturn, 1) := by decide +kernel
theorem dL_row_13 : decode cL_row 13 = .ok (.iconst 0, 1) := by decide +kernel
theorem dL_row_14 : decode cL_row 14 = .ok (.ireturn, 1) := by decide +kernel
theorem dL_back_0 : decode cL_back 0 = .ok (.aload_n 2, 1) := by decide +kernel
theorem dL_back_1 : decode cL_back 1 = .ok (.iconst 0, 1) := by decide +kernel
theorem dL_back_2 : decode cL_back 2 = .ok (.aload_n 0, 1) := by decide +kernel
theorem dL_back_3 : decode cL_back 3 = .ok (.iload_n 1, 1) := by decide +kernel
theorem dL_back_4 : decode cL_back 4 = .ok (.invokevirtual 28, 3) := by decide +kernel
theorem dL_back_7 : decode cL_back 7 = .ok (.lastore, 1) := by decide +kernel
theorem dL_back_8 : decode cL_back 8 = .ok (.goto 6, 3) := by decide +kernel
theorem dL_back_11 : decode cL_back 11 = .ok (.astore_n 3, 1) := by decide +kernel
theorem dL_back_12 : decode cL_back 12 = .ok (.iconst 1, 1) := by decide +kernel
theorem dL_back_13 : decode cL_back 13 = .ok (.ireturn, 1) := by decide +kernel
theorem dL_back_14 : decode cL_back 14 = .ok (.iconst 0, 1) := by decide +kernel
theorem dL_back_15 : decode cL_back 15 = .ok (.ireturn, 1) := by decide +kernel
theorem dL_error_0 : decode cL_error 0 = .ok (.aload_n 2, 1) := by decide +kernel
theorem dL_error_1 : decode cL_error 1 = .ok (.iconst 0, 1) := by decide +kernel
theorem dL_error_2 : decode cL_error 2 = .ok (.aload_n 0, 1) := by decide +kernel
theorem dL_error_3 : decode cL_error 3 = .ok (.iload_n 1, 1) := by decide +kernel
theorem dL_error_4 : decode cL_error 4 = .ok (.invokevirtual 32, 3) := by decide +kernel
theorem dL_error_7 : decode cL_error 7 = .ok (.i2l, 1) := by decide +kernel
theorem dL_error_8 : decode cL_error 8 = .ok (.lastore, 1) := by decide +kernel
theorem dL_error_9 : decode cL_error 9 = .ok (.goto 6, 3) := by decide +kernel
theorem dL_error_12 : decode cL_error 12 = .ok (.astore_n 3, 1) := by decide +kernel
theorem dL_error_13 : decode cL_error 13 = .ok (.iconst 1, 1) := by decide +kernel
theorem dL_error_14 : decode cL_error 14 = .ok (.ireturn, 1) := by decide +kernel
theorem dL_error_15 : decode cL_error 15 = .ok (.iconst 0, 1) := by decide +kernel
theorem dL_error_16 : decode cL_error 16 = .ok (.ireturn, 1) := by decide +kernel
theorem dL_at_0 : decode cL_at 0 = .ok (.aload_n 3, 1) := by decide +kernel
theorem dL_at_1 : decode cL_at 1 = .ok (.iconst 0, 1) := by decide +kernel
theorem dL_at_2 : decode cL_at 2 = .ok (.aload_n 0, 1) := by decide +kernel
theorem dL_at_3 : decode cL_at 3 = .ok (.iload_n 1, 1) := by decide +kernel
theorem dL_at_4 : decode cL_at 4 = .ok (.iload_n 2, 1) := by decide +kernel
theorem dL_at_5 : decode cL_at 5 = .ok (.invokevirtual 36, 3) := by decide +kernel
theorem dL_at_8 : decode cL_at 8 = .ok (.i2l, 1) := by decide +kernel
theorem dL_at_9 : decode cL_at 9 = .ok (.lastore, 1) := by decide +kernel
theorem dL_at_10 : decode cL_at 10 = .ok (.goto 7, 3) := by decide +kernel
theorem dL_at_13 : decode cL_at 13 = .ok (.astore 4, 2) := by decide +kernel
theorem dL_at_15 : decode cL_at 15 = .ok (.iconst 1, 1) := by decide +kernel
theorem dL_at_16 : decode cL_at 16 = .ok (.ireturn, 1) := by decide +kernel
theorem dL_at_17 : decode cL_at 17 = .ok (.iconst 0, 1) := by decide +kernel
theorem dL_at_18 : decode cL_at 18 = .ok (.ireturn, 1) := by decide +kernel
theorem dL_exact_0 : decode cL_exact 0 = .ok (.aload_n 3, 1) := by decide +kernel
theorem dL_exact_1 : decode cL_exact 1 = .ok (.iconst 0, 1) := by decide +kernel
theorem dL_exact_2 : decode cL_exact 2 = .ok (.aload_n 0, 1) := by decide +kernel
theorem dL_exact_3 : decode cL_exact 3 = .ok (.iload_n 1, 1) := by decide +kernel
theorem dL_exact_4 : decode cL_exact 4 = .ok (.iload_n 2, 1) := by decide +kernel
theorem dL_exact_5 : decode cL_exact 5 = .ok (.invokevirtual 40, 3) := by decide +kernel
theorem dL_exact_8 : decode cL_exact 8 = .ok (.i2l, 1) := by decide +kernel
theorem dL_exact_9 : decode cL_exact 9 = .ok (.lastore, 1) := by decide +kernel
theorem dL_exact_10 : decode cL_exact 10 = .ok (.goto 7, 3) := by decide +kernel
theorem dL_exact_13 : decode cL_exact 13 = .ok (.astore 4, 2) := by decide +kernel
theorem dL_exact_15 : decode cL_exact 15 = .ok (.iconst 1, 1) := by decide +kernel
theorem dL_exact_16 : decode cL_exact 16 = .ok (.ireturn, 1) := by decide +kernel
theorem dL_exact_17 : decode cL_exact 17 = .ok (.iconst 0, 1) := by decide +kernel
theorem dL_exact_18 : decode cL_exact 18 = .ok (.ireturn, 1) := by decide +kernel
theorem dL_wave_0 : decode cL_wave 0 = .ok (.aload 4, 2) := by decide +kernel
theorem dL_wave_2 : decode cL_wave 2 = .ok (.iconst 0, 1) := by decide +kernel
theorem dL_wave_3 : decode cL_wave 3 = .ok (.aload_n 0, 1) := by decide +kernel
theorem dL_wave_4 : decode cL_wave 4 = .ok (.iload_n 1, 1) := by decide +kernel
theorem dL_wave_5 : decode cL_wave 5 = .ok (.iload_n 2, 1) := by decide +kernel
theorem dL_wave_6 : decode cL_wave 6 = .ok (.iload_n 3, 1) := by decide +kernel
theorem dL_wave_7 : decode cL_wave 7 = .ok (.invokevirtual 43, 3) := by decide +kernel
theorem dL_wave_10 : decode cL_wave 10 = .ok (.i2l, 1) := by decide +kernel
theorem dL_wave_11 : decode cL_wave 11 = .ok (.lastore, 1) := by decide +kernel
theorem dL_wave_12 : decode cL_wave 12 = .ok (.goto 7, 3) := by decide +kernel
theorem dL_wave_15 : decode cL_wave 15 = .ok (.astore 5, 2) := by decide +kernel
theorem dL_wave_17 : decode cL_wave 17 = .ok (.iconst 1, 1) := by decide +kernel
theorem dL_wave_18 : decode cL_wave 18 = .ok (.ireturn, 1) := by decide +kernel
theorem dL_wave_19 : decode cL_wave 19 = .ok (.iconst 0, 1) := by decide +kernel
theorem dL_wave_20 : decode cL_wave 20 = .ok (.ireturn, 1) := by decide +kernel
set_option maxHeartbeats 4000000 in
set_option maxRecDepth 100000 in
/-- put, and what it throws -/
theorem k_put (l : Launch) (hl9 : l.stackTraces = false) (D : va_G) (x : Nat → Nat) (cd : Nat → ClassId) (f0 f1 f2 f3 : Nat → Int32) (g : Nat → Int64) (q v9 : Int32) (sz : Nat) : Met l yL_put wsL_put ({ frames := 7, cells := 1, slots := 6, locals := 104 } : Room) (va_Pc [.ref (x 0), .int q, .int v9] (crw D (cw x cd f0 f1 f2 f3 g) (cty cd) sz)) (va_Qi (fun (r : Int32) (u : Nat → Int32) => (r = 0 ∧ (0 ≤ q.toInt ∧ q.toInt < 64) ∧ (-32768 ≤ v9.toInt ∧ v9.toInt ≤ 32767) ∧ u = upd f0 (cCn q.toInt.toNat) v9) ∨ (r = 1 ∧ ¬ (0 ≤ q.toInt ∧ q.toInt < 64) ∧ u = f0) ∨ (r = 2 ∧ (0 ≤ q.toInt ∧ q.toInt < 64) ∧ ¬ (-32768 ≤ v9.toInt ∧ v9.toInt ≤ 32767) ∧ u = f0)) (fun (u : Nat → Int32) (t : State) => crB D (cw x cd u f1 f2 f3 g) (cty cd) (va_A (cw x cd f0 f1 f2 f3 g) sz) t) (va_A (cw x cd f0 f1 f2 f3 g) sz)) 1 6 (va_A (cw x cd f0 f1 f2 f3 g) sz) := by
  refine va_MetW (cc := cL_put) (maxL := 4) (ret := some .int) (by decide) rfl ?_
  intro p e s m args below meth c s₁ B hml hv
  obtain ⟨rfl, hsz, hP, hK, hD0, hTb⟩ := hv
  have hx := B.exec
  have hb := B.bytes
  have hr := B.returns
  have hts : ∀ w ∈ wA, w.before _ s = true := fun w h => atoms_spec (ws := wsL_put) B.pre w (List.mem_cons_of_mem _ h)
  have hown : s.vm.findClass RL = some m.cls := findClass_of_methodNamed B.named
  have hlocks := B.notSynchronized
  have hTab := vx_table (x := yL_put) B (hts _ wm_119)
  subst hsz
  have hD := hD0.self (sz := s.heap.size)
  generalize hAe : va_A (cw x cd f0 f1 f2 f3 g) s.heap.size = A at hD hTb ⊢
  have hA : ∀ q : Nat, s.heap.size ≤ q → A q := fun q h => by rw [← hAe]; exact Or.inr h
  have hS : va_S A s.heap s.heap [] := va_S.rf
  obtain ⟨-, -, -, -, -, ⟨hXc_i, hXc_a, -⟩, -, hNca⟩ := id hTb
  have hl := lv_entry ([.ref (x 0), .int q, .int v9]) (n := 4) (Nat.le_of_ble_eq_true rfl)
  rw [lg_entry_eq]
  generalize (lg_sl ([.ref (x 0), .int q, .int v9]) ++ List.replicate (4 - (lg_sl ([.ref (x 0), .int q, .int v9])).length) Slot.unset).toArray = ls at hl ⊢
  have hl : lv_has ls 4 [(0, .ref (x 0)), (1, .int q), (2, .int v9)] := hl
  refine lv_aload_n hx hb dL_put_0 rfl (lv_at hl 0 rfl) ?_
  refine lv_iload_n hx hb dL_put_1 rfl (lv_at hl 1 rfl) ?_
  refine lv_iload_n hx hb dL_put_2 rfl (lv_at hl 2 rfl) ?_
  have hFc := va_free (wc := cw x cd f0 f1 f2 f3 g) hD hS hA [0, 1, 2, 3, 4, 5] rfl
  refine vx_callv (vx_runV (As := [.int q, .int v9]) (rest := []) ⟨hx, hb, hml, hown, hts⟩ (m_put l hl9 D x cd f0 f1 f2 f3 g q v9 _) (cwV 2 hts (gw_V wm_122 wm_123 wm_124 wm_12 wm_125) rfl rfl rfl (by decide +kernel) ⟨Nat.le_of_ble_eq_true rfl, Nat.le_of_ble_eq_true rfl⟩) ⟨crw_blind, va_recv hK hP (ci := 0) (q0 := 0) rfl rfl, fun U hU hW => ⟨rfl, crw_at (hP.sub (ws' := cw x cd f0 f1 f2 f3 g) [0, 1, 2, 3, 4, 5] rfl) (hK.sub (tys' := cty cd) [0, 1, 2, 3, 4] rfl) (hD.sub (ws' := cw x cd f0 f1 f2 f3 g) [0, 1, 2, 3, 4, 5] (by decide) rfl) hTb hS hFc hU hW⟩⟩ rfl rfl hl.1 rfl (lv_room (Nat.le_of_ble_eq_true rfl)) dL_put_3 ⟨Nat.le_of_ble_eq_true rfl, Nat.le_of_ble_eq_true rfl⟩) hS (fun q _ h => hFc q h) hFc (fun q _ h => h.elim) (fun E9 ce9 q9 u9 t H1 locs ht hvm hpx hB hz1 hk1 hS hce hcv hcl => ?_) (fun u9 t H1 locs ht hvm hw hB hz1 hk1 hS => ?_)
  · have hP : va_P D vwCl (cw x cd f0 f1 f2 f3 g) H1 := hP.kept (fun k q hq => hk1 q.1 (hP k q hq).lt (fun h => h))
    rcases hB with ⟨rfl, hc9⟩ | ⟨rfl, hc9⟩
    · refine vx_catch (own := RL) (name := "java/lang/IndexOutOfBoundsException") (E := "java/lang/IndexOutOfBoundsException") hown [] ⟨0, 6, 9, 13⟩ [⟨0, 6, 12, 15⟩] (by rw [hTab]; rfl) (fun z hz => nomatch hz) (by decide) (by decide) (hts _ wm_120) (va_Nw.use rfl hXc_i) hce hcv hcl ?_
      refine lv_astore_n (lv' := [(3, .ref q9), (0, .ref (x 0)), (1, .int q), (2, .int v9)]) hx hb dL_put_9 rfl hl (by decide) rfl (fun ls hl => ?_)
      refine lv_iconst (v := (1 : Int32)) hx hb dL_put_10 (by decide +kernel) ?_
      exact W.iret (v := (1 : Int32)) hx hb hr (fun t ht hW => ⟨⟨(1 : Int32), f0, rfl, Or.inr (Or.inl ⟨rfl, hc9, rfl⟩), by rw [ht]; exact hP, va_K.moved hW.alike hK, hD⟩, hS.F ht⟩) hS.2.2 dL_put_11
    · refine vx_catch (own := RL) (name := "java/lang/IllegalArgumentException") (E := "java/lang/IllegalArgumentException") hown [⟨0, 6, 9, 13⟩] ⟨0, 6, 12, 15⟩ [] (by rw [hTab]; rfl) (fun z hz => by
          rw [List.mem_singleton] at hz
          subst hz
          exact Or.inr ⟨by decide, "java/lang/IndexOutOfBoundsException", (hts _ wm_120), hNca⟩) (by decide) (by decide) (hts _ wm_121) (va_Nw.use rfl hXc_a) hce hcv hcl ?_
      refine lv_astore_n (lv' := [(3, .ref q9), (0, .ref (x 0)), (1, .int q), (2, .int v9)]) hx hb dL_put_12 rfl hl (by decide) rfl (fun ls hl => ?_)
      refine lv_iconst (v := (2 : Int32)) hx hb dL_put_13 (by decide +kernel) ?_
      exact W.iret (v := (2 : Int32)) hx hb hr (fun t ht hW => ⟨⟨(2 : Int32), f0, rfl, Or.inr (Or.inr ⟨rfl, hc9.1, hc9.2, rfl⟩), by rw [ht]; exact hP, va_K.moved hW.alike hK, hD⟩, hS.F ht⟩) hS.2.2 dL_put_14
  · obtain ⟨uu, rfl⟩ : ∃ z, z = u9 := ⟨_, rfl⟩
    obtain ⟨hP1, hK1, hD1⟩ := hB
    rw [ht] at hP1
    obtain ⟨hP, hD⟩ := va_join (wr := []) (w1 := cw x cd uu f1 f2 f3 g) hP hD [0, 1, 2, 3, 4, 5] [] rfl rfl (by decide) (by decide) hk1 hFc hP1 hD1
    have hP : va_P D vwCl (cw x cd uu f1 f2 f3 g) H1 := hP
    have hD : va_D A (cw x cd uu f1 f2 f3 g) := hD
    try dsimp only at hw
    refine lv_goto (tgt := 15) hx hb dL_put_6 (by decide) ?_
    refine lv_iconst (v := (0 : Int32)) hx hb dL_put_15 (by decide +kernel) ?_
    exact W.iret (v := (0 : Int32)) hx hb hr (fun t ht hW => ⟨⟨(0 : Int32), uu, rfl, Or.inl ⟨rfl, hw⟩, by rw [ht]; exact hP, va_K.moved hW.alike hK, hD⟩, hS.F ht⟩) hS.2.2 dL_put_16
set_option maxHeartbeats 4000000 in
set_option maxRecDepth 100000 in
/-- step, and what it throws -/
theorem k_step (l : Launch) (hl9 : l.stackTraces = false) (D : va_G) (x : Nat → Nat) (cd : Nat → ClassId) (f0 f1 f2 f3 : Nat → Int32) (g : Nat → Int64) (q v9 : Int32) (sz : Nat) : Met l yL_step wsL_step ({ frames := 7, cells := 1, slots := 6, locals := 104 } : Room) (va_Pc [.ref (x 0), .int q, .int v9] (crw D (cw x cd f0 f1 f2 f3 g) (cty cd) sz)) (va_Qi (fun (r : Int32) (u : Nat → Int32) => (r = 0 ∧ (0 ≤ q.toInt ∧ q.toInt < 64) ∧ (1 ≤ v9.toInt ∧ v9.toInt ≤ 255) ∧ u = upd f1 (cCn q.toInt.toNat) v9) ∨ (r = 1 ∧ ¬ (0 ≤ q.toInt ∧ q.toInt < 64) ∧ u = f1) ∨ (r = 2 ∧ (0 ≤ q.toInt ∧ q.toInt < 64) ∧ ¬ (1 ≤ v9.toInt ∧ v9.toInt ≤ 255) ∧ u = f1)) (fun (u : Nat → Int32) (t : State) => crB D (cw x cd f0 u f2 f3 g) (cty cd) (va_A (cw x cd f0 f1 f2 f3 g) sz) t) (va_A (cw x cd f0 f1 f2 f3 g) sz)) 1 6 (va_A (cw x cd f0 f1 f2 f3 g) sz) := by
  refine va_MetW (cc := cL_step) (maxL := 4) (ret := some .int) (by decide) rfl ?_
  intro p e s m args below meth c s₁ B hml hv
  obtain ⟨rfl, hsz, hP, hK, hD0, hTb⟩ := hv
  have hx := B.exec
  have hb := B.bytes
  have hr := B.returns
  have hts : ∀ w ∈ wA, w.before _ s = true := fun w h => atoms_spec (ws := wsL_step) B.pre w (List.mem_cons_of_mem _ h)
  have hown : s.vm.findClass RL = some m.cls := findClass_of_methodNamed B.named
  have hlocks := B.notSynchronized
  have hTab := vx_table (x := yL_step) B (hts _ wm_214)
  subst hsz
  have hD := hD0.self (sz := s.heap.size)
  generalize hAe : va_A (cw x cd f0 f1 f2 f3 g) s.heap.size = A at hD hTb ⊢
  have hA : ∀ q : Nat, s.heap.size ≤ q → A q := fun q h => by rw [← hAe]; exact Or.inr h
  have hS : va_S A s.heap s.heap [] := va_S.rf
  obtain ⟨-, -, -, -, -, ⟨hXc_i, hXc_a, -⟩, -, hNca⟩ := id hTb
  have hl := lv_entry ([.ref (x 0), .int q, .int v9]) (n := 4) (Nat.le_of_ble_eq_true rfl)
  rw [lg_entry_eq]
  generalize (lg_sl ([.ref (x 0), .int q, .int v9]) ++ List.replicate (4 - (lg_sl ([.ref (x 0), .int q, .int v9])).length) Slot.unset).toArray = ls at hl ⊢
  have hl : lv_has ls 4 [(0, .ref (x 0)), (1, .int q), (2, .int v9)] := hl
  refine lv_aload_n hx hb dL_step_0 rfl (lv_at hl 0 rfl) ?_
  refine lv_iload_n hx hb dL_step_1 rfl (lv_at hl 1 rfl) ?_
  refine lv_iload_n hx hb dL_step_2 rfl (lv_at hl 2 rfl) ?_
  have hFc := va_free (wc := cw x cd f0 f1 f2 f3 g) hD hS hA [0, 1, 2, 3, 4, 5] rfl
  refine vx_callv (vx_runV (As := [.int q, .int v9]) (rest := []) ⟨hx, hb, hml, hown, hts⟩ (m_step l hl9 D x cd f0 f1 f2 f3 g q v9 _) (cwV 2 hts (gw_V wm_215 wm_216 wm_217 wm_12 wm_218) rfl rfl rfl (by decide +kernel) ⟨Nat.le_of_ble_eq_true rfl, Nat.le_of_ble_eq_true rfl⟩) ⟨crw_blind, va_recv hK hP (ci := 0) (q0 := 0) rfl rfl, fun U hU hW => ⟨rfl, crw_at (hP.sub (ws' := cw x cd f0 f1 f2 f3 g) [0, 1, 2, 3, 4, 5] rfl) (hK.sub (tys' := cty cd) [0, 1, 2, 3, 4] rfl) (hD.sub (ws' := cw x cd f0 f1 f2 f3 g) [0, 1, 2, 3, 4, 5] (by decide) rfl) hTb hS hFc hU hW⟩⟩ rfl rfl hl.1 rfl (lv_room (Nat.le_of_ble_eq_true rfl)) dL_step_3 ⟨Nat.le_of_ble_eq_true rfl, Nat.le_of_ble_eq_true rfl⟩) hS (fun q _ h => hFc q h) hFc (fun q _ h => h.elim) (fun E9 ce9 q9 u9 t H1 locs ht hvm hpx hB hz1 hk1 hS hce hcv hcl => ?_) (fun u9 t H1 locs ht hvm hw hB hz1 hk1 hS => ?_)
  · have hP : va_P D vwCl (cw x cd f0 f1 f2 f3 g) H1 := hP.kept (fun k q hq => hk1 q.1 (hP k q hq).lt (fun h => h))
    rcases hB with ⟨rfl, hc9⟩ | ⟨rfl, hc9⟩
    · refine vx_catch (own := RL) (name := "java/lang/IndexOutOfBoundsException") (E := "java/lang/IndexOutOfBoundsException") hown [] ⟨0, 6, 9, 13⟩ [⟨0, 6, 12, 15⟩] (by rw [hTab]; rfl) (fun z hz => nomatch hz) (by decide) (by decide) (hts _ wm_120) (va_Nw.use rfl hXc_i) hce hcv hcl ?_
      refine lv_astore_n (lv' := [(3, .ref q9), (0, .ref (x 0)), (1, .int q), (2, .int v9)]) hx hb dL_step_9 rfl hl (by decide) rfl (fun ls hl => ?_)
      refine lv_iconst (v := (1 : Int32)) hx hb dL_step_10 (by decide +kernel) ?_
      exact W.iret (v := (1 : Int32)) hx hb hr (fun t ht hW => ⟨⟨(1 : Int32), f1, rfl, Or.inr (Or.inl ⟨rfl, hc9, rfl⟩), by rw [ht]; exact hP, va_K.moved hW.alike hK, hD⟩, hS.F ht⟩) hS.2.2 dL_step_11
    · refine vx_catch (own := RL) (name := "java/lang/IllegalArgumentException") (E := "java/lang/IllegalArgumentException") hown [⟨0, 6, 9, 13⟩] ⟨0, 6, 12, 15⟩ [] (by rw [hTab]; rfl) (fun z hz => by
          rw [List.mem_singleton] at hz
          subst hz
          exact Or.inr ⟨by decide, "java/lang/IndexOutOfBoundsException", (hts _ wm_120), hNca⟩) (by decide) (by decide) (hts _ wm_121) (va_Nw.use rfl hXc_a) hce hcv hcl ?_
      refine lv_astore_n (lv' := [(3, .ref q9), (0, .ref (x 0)), (1, .int q), (2, .int v9)]) hx hb dL_step_12 rfl hl (by decide) rfl (fun ls hl => ?_)
      refine lv_iconst (v := (2 : Int32)) hx hb dL_step_13 (by decide +kernel) ?_
      exact W.iret (v := (2 : Int32)) hx hb hr (fun t ht hW => ⟨⟨(2 : Int32), f1, rfl, Or.inr (Or.inr ⟨rfl, hc9.1, hc9.2, rfl⟩), by rw [ht]; exact hP, va_K.moved hW.alike hK, hD⟩, hS.F ht⟩) hS.2.2 dL_step_14
  · obtain ⟨uu, rfl⟩ : ∃ z, z = u9 := ⟨_, rfl⟩
    obtain ⟨hP1, hK1, hD1⟩ := hB
    rw [ht] at hP1
    obtain ⟨hP, hD⟩ := va_join (wr := []) (w1 := cw x cd f0 uu f2 f3 g) hP hD [0, 1, 2, 3, 4, 5] [] rfl rfl (by decide) (by decide) hk1 hFc hP1 hD1
    have hP : va_P D vwCl (cw x cd f0 uu f2 f3 g) H1 := hP
    have hD : va_D A (cw x cd f0 uu f2 f3 g) := hD
    try dsimp only at hw
    refine lv_goto (tgt := 15) hx hb dL_step_6 (by decide) ?_
    refine lv_iconst (v := (0 : Int32)) hx hb dL_step_15 (by decide +kernel) ?_
    exact W.iret (v := (0 : Int32)) hx hb hr (fun t ht hW => ⟨⟨(0 : Int32), uu, rfl, Or.inl ⟨rfl, hw⟩, by rw [ht]; exact hP, va_K.moved hW.alike hK, hD⟩, hS.F ht⟩) hS.2.2 dL_step_16
set_option maxHeartbeats 4000000 in
set_option maxRecDepth 100000 in
/-- steps, and what it throws -/
theorem k_steps (l : Launch) (hl9 : l.stackTraces = false) (D : va_G) (x : Nat → Nat) (cd : Nat → ClassId) (f0 f1 f2 f3 : Nat → Int32) (g : Nat → Int64) (b9 s9 p9 : Int32) (sz : Nat) : Met l yL_steps wsL_steps ({ frames := 7, cells := 1, slots := 6, locals := 108 } : Room) (va_Pc [.ref (x 0), .int b9, .int s9, .int p9] (crw D (cw x cd f0 f1 f2 f3 g) (cty cd) sz)) (va_Qi (fun (r : Int32) (u : Nat → Int32) => (r = 0 ∧ ((1 ≤ b9.toInt ∧ b9.toInt ≤ 255) ∧ (0 ≤ s9.toInt ∧ s9.toInt ≤ 32) ∧ (1 ≤ p9.toInt ∧ p9.toInt ≤ 5000)) ∧ ∀ a b, a < 8 → b < 8 → u (a * 8 + b) = stV b9 s9 p9 a b) ∨ (r = 1 ∧ ¬ ((1 ≤ b9.toInt ∧ b9.toInt ≤ 255) ∧ (0 ≤ s9.toInt ∧ s9.toInt ≤ 32) ∧ (1 ≤ p9.toInt ∧ p9.toInt ≤ 5000)) ∧ u = f1)) (fun (u : Nat → Int32) (t : State) => crB D (cw x cd f0 u f2 f3 g) (cty cd) (va_A (cw x cd f0 f1 f2 f3 g) sz) t) (va_A (cw x cd f0 f1 f2 f3 g) sz)) 1 6 (va_A (cw x cd f0 f1 f2 f3 g) sz) := by
  refine va_MetW (cc := cL_steps) (maxL := 5) (ret := some .int) (by decide) rfl ?_
  intro p e s m args below meth c s₁ B hml hv
  obtain ⟨rfl, hsz, hP, hK, hD0, hTb⟩ := hv
  have hx := B.exec
  have hb := B.bytes
  have hr := B.returns
  have hts : ∀ w ∈ wA, w.before _ s = true := fun w h => atoms_spec (ws := wsL_steps) B.pre w (List.mem_cons_of_mem _ h)
  have hown : s.vm.findClass RL = some m.cls := findClass_of_methodNamed B.named
  have hlocks := B.notSynchronized
  have hTab := vx_table (x := yL_steps) B (hts _ wm_222)
  subst hsz
  have hD := hD0.self (sz := s.heap.size)
  generalize hAe : va_A (cw x cd f0 f1 f2 f3 g) s.heap.size = A at hD hTb ⊢
  have hA : ∀ q : Nat, s.heap.size ≤ q → A q := fun q h => by rw [← hAe]; exact Or.inr h
  have hS : va_S A s.heap s.heap [] := va_S.rf
  obtain ⟨-, -, -, -, -, ⟨hXc_i, hXc_a, -⟩, -, hNca⟩ := id hTb
  have hl := lv_entry ([.ref (x 0), .int b9, .int s9, .int p9]) (n := 5) (Nat.le_of_ble_eq_true rfl)
  rw [lg_entry_eq]
  generalize (lg_sl ([.ref (x 0), .int b9, .int s9, .int p9]) ++ List.replicate (5 - (lg_sl ([.ref (x 0), .int b9, .int s9, .int p9])).length) Slot.unset).toArray = ls at hl ⊢
  have hl : lv_has ls 5 [(0, .ref (x 0)), (1, .int b9), (2, .int s9), (3, .int p9)] := hl
  refine lv_aload_n hx hb dL_steps_0 rfl (lv_at hl 0 rfl) ?_
  refine lv_iload_n hx hb dL_steps_1 rfl (lv_at hl 1 rfl) ?_
  refine lv_iload_n hx hb dL_steps_2 rfl (lv_at hl 2 rfl) ?_
  refine lv_iload_n hx hb dL_steps_3 rfl (lv_at hl 3 rfl) ?_
  have hFc := va_free (wc := cw x cd f0 f1 f2 f3 g) hD hS hA [0, 1, 2, 3, 4, 5] rfl
  refine vx_callv (vx_runV (As := [.int b9, .int s9, .int p9]) (rest := []) ⟨hx, hb, hml, hown, hts⟩ (m_steps l hl9 D x cd f0 f1 f2 f3 g b9 s9 p9 _) (cwV 3 hts (gw_V wm_223 wm_224 wm_225 wm_12 wm_226) rfl rfl rfl (by decide +kernel) ⟨Nat.le_of_ble_eq_true rfl, Nat.le_of_ble_eq_true rfl⟩) ⟨crw_blind, va_recv hK hP (ci := 0) (q0 := 0) rfl rfl, fun U hU hW => ⟨rfl, crw_at (hP.sub (ws' := cw x cd f0 f1 f2 f3 g) [0, 1, 2, 3, 4, 5] rfl) (hK.sub (tys' := cty cd) [0, 1, 2, 3, 4] rfl) (hD.sub (ws' := cw x cd f0 f1 f2 f3 g) [0, 1, 2, 3, 4, 5] (by decide) rfl) hTb hS hFc hU hW⟩⟩ rfl rfl hl.1 rfl (lv_room (Nat.le_of_ble_eq_true rfl)) dL_steps_4 ⟨Nat.le_of_ble_eq_true rfl, Nat.le_of_ble_eq_true rfl⟩) hS (fun q _ h => hFc q h) hFc (fun q _ h => h.elim) (fun E9 ce9 q9 u9 t H1 locs ht hvm hpx hB hz1 hk1 hS hce hcv hcl => ?_) (fun u9 t H1 locs ht hvm hw hB hz1 hk1 hS => ?_)
  · have hP : va_P D vwCl (cw x cd f0 f1 f2 f3 g) H1 := hP.kept (fun k q hq => hk1 q.1 (hP k q hq).lt (fun h => h))
    obtain ⟨rfl, hc9⟩ := hB
    refine vx_catch (own := RL) (name := "java/lang/IllegalArgumentException") (E := "java/lang/IllegalArgumentException") hown [] ⟨0, 7, 10, 15⟩ [] (by rw [hTab]; rfl) (fun z hz => nomatch hz) (by decide) (by decide) (hts _ wm_121) (va_Nw.use rfl hXc_a) hce hcv hcl ?_
    refine lv_astore (lv' := [(4, .ref q9), (0, .ref (x 0)), (1, .int b9), (2, .int s9), (3, .int p9)]) hx hb dL_steps_10 hl (by decide) rfl (fun ls hl => ?_)
    refine lv_iconst (v := (1 : Int32)) hx hb dL_steps_12 (by decide +kernel) ?_
    exact W.iret (v := (1 : Int32)) hx hb hr (fun t ht hW => ⟨⟨(1 : Int32), f1, rfl, Or.inr ⟨rfl, hc9, rfl⟩, by rw [ht]; exact hP, va_K.moved hW.alike hK, hD⟩, hS.F ht⟩) hS.2.2 dL_steps_13
  · obtain ⟨uu, rfl⟩ : ∃ z, z = u9 := ⟨_, rfl⟩
    obtain ⟨hP1, hK1, hD1⟩ := hB
    rw [ht] at hP1
    obtain ⟨hP, hD⟩ := va_join (wr := []) (w1 := cw x cd f0 uu f2 f3 g) hP hD [0, 1, 2, 3, 4, 5] [] rfl rfl (by decide) (by decide) hk1 hFc hP1 hD1
    have hP : va_P D vwCl (cw x cd f0 uu f2 f3 g) H1 := hP
    have hD : va_D A (cw x cd f0 uu f2 f3 g) := hD
    try dsimp only at hw
    refine lv_goto (tgt := 14) hx hb dL_steps_7 (by decide) ?_
    refine lv_iconst (v := (0 : Int32)) hx hb dL_steps_14 (by decide +kernel) ?_
    exact W.iret (v := (0 : Int32)) hx hb hr (fun t ht hW => ⟨⟨(0 : Int32), uu, rfl, Or.inl ⟨rfl, hw.1, hw.2⟩, by rw [ht]; exact hP, va_K.moved hW.alike hK, hD⟩, hS.F ht⟩) hS.2.2 dL_steps_15
set_option maxHeartbeats 4000000 in
set_option maxRecDepth 100000 in
/-- row, and what it throws -/
theorem k_row (l : Launch) (hl9 : l.stackTraces = false) (D : va_G) (x : Nat → Nat) (cd : Nat → ClassId) (f0 f1 f2 f3 : Nat → Int32) (g : Nat → Int64) (q : Int32) (e9 : Int64) (sz : Nat) : Met l yL_row wsL_row ({ frames := 7, cells := 1, slots := 6, locals := 106 } : Room) (va_Pc [.ref (x 0), .int q, .long e9] (crw D (cw x cd f0 f1 f2 f3 g) (cty cd) sz)) (va_Qi (fun (r : Int32) (u : Nat → Int32) => (r = 0 ∧ (0 ≤ q.toInt ∧ q.toInt < 8) ∧ ∀ a b, a < 8 → b < 8 → u (a * 8 + b) = if a = q.toInt.toNat then rowV e9 b else f2 (a * 8 + b)) ∨ (r = 1 ∧ ¬ (0 ≤ q.toInt ∧ q.toInt < 8) ∧ u = f2)) (fun (u : Nat → Int32) (t : State) => crB D (cw x cd f0 f1 u f3 g) (cty cd) (va_A (cw x cd f0 f1 f2 f3 g) sz) t) (va_A (cw x cd f0 f1 f2 f3 g) sz)) 1 6 (va_A (cw x cd f0 f1 f2 f3 g) sz) := by
  refine va_MetW (cc := cL_row) (maxL := 5) (ret := some .int) (by decide) rfl ?_
  intro p e s m args below meth c s₁ B hml hv
  obtain ⟨rfl, hsz, hP, hK, hD0, hTb⟩ := hv
  have hx := B.exec
  have hb := B.bytes
  have hr := B.returns
  have hts : ∀ w ∈ wA, w.before _ s = true := fun w h => atoms_spec (ws := wsL_row) B.pre w (List.mem_cons_of_mem _ h)
  have hown : s.vm.findClass RL = some m.cls := findClass_of_methodNamed B.named
  have hlocks := B.notSynchronized
  have hTab := vx_table (x := yL_row) B (hts _ wm_233)
  subst hsz
  have hD := hD0.self (sz := s.heap.size)
  generalize hAe : va_A (cw x cd f0 f1 f2 f3 g) s.heap.size = A at hD hTb ⊢
  have hA : ∀ q : Nat, s.heap.size ≤ q → A q := fun q h => by rw [← hAe]; exact Or.inr h
  have hS : va_S A s.heap s.heap [] := va_S.rf
  obtain ⟨-, -, -, -, -, ⟨hXc_i, hXc_a, -⟩, -, hNca⟩ := id hTb
  have hl := lv_entry ([.ref (x 0), .int q, .long e9]) (n := 5) (Nat.le_of_ble_eq_true rfl)
  rw [lg_entry_eq]
  generalize (lg_sl ([.ref (x 0), .int q, .long e9]) ++ List.replicate (5 - (lg_sl ([.ref (x 0), .int q, .long e9])).length) Slot.unset).toArray = ls at hl ⊢
  have hl : lv_has ls 5 [(0, .ref (x 0)), (1, .int q), (2, .long e9)] := hl
  refine lv_aload_n hx hb dL_row_0 rfl (lv_at hl 0 rfl) ?_
  refine lv_iload_n hx hb dL_row_1 rfl (lv_at hl 1 rfl) ?_
  refine lv_lload_n hx hb dL_row_2 rfl (lv_at hl 2 rfl) ?_
  have hFc := va_free (wc := cw x cd f0 f1 f2 f3 g) hD hS hA [0, 1, 2, 3, 4, 5] rfl
  refine vx_callv (vx_runV (As := [.int q, .long e9]) (rest := []) ⟨hx, hb, hml, hown, hts⟩ (m_row l hl9 D x cd f0 f1 f2 f3 g q e9 _) (cwV 2 hts (gw_V wm_234 wm_235 wm_236 wm_12 wm_237) rfl rfl rfl (by decide +kernel) ⟨Nat.le_of_ble_eq_true rfl, Nat.le_of_ble_eq_true rfl⟩) ⟨crw_blind, va_recv hK hP (ci := 0) (q0 := 0) rfl rfl, fun U hU hW => ⟨rfl, crw_at (hP.sub (ws' := cw x cd f0 f1 f2 f3 g) [0, 1, 2, 3, 4, 5] rfl) (hK.sub (tys' := cty cd) [0, 1, 2, 3, 4] rfl) (hD.sub (ws' := cw x cd f0 f1 f2 f3 g) [0, 1, 2, 3, 4, 5] (by decide) rfl) hTb hS hFc hU hW⟩⟩ rfl rfl hl.1 rfl (lv_room (Nat.le_of_ble_eq_true rfl)) dL_row_3 ⟨Nat.le_of_ble_eq_true rfl, Nat.le_of_ble_eq_true rfl⟩) hS (fun q _ h => hFc q h) hFc (fun q _ h => h.elim) (fun E9 ce9 q9 u9 t H1 locs ht hvm hpx hB hz1 hk1 hS hce hcv hcl => ?_) (fun u9 t H1 locs ht hvm hw hB hz1 hk1 hS => ?_)
  · have hP : va_P D vwCl (cw x cd f0 f1 f2 f3 g) H1 := hP.kept (fun k q hq => hk1 q.1 (hP k q hq).lt (fun h => h))
    obtain ⟨rfl, hc9⟩ := hB
    refine vx_catch (own := RL) (name := "java/lang/IndexOutOfBoundsException") (E := "java/lang/IndexOutOfBoundsException") hown [] ⟨0, 6, 9, 13⟩ [] (by rw [hTab]; rfl) (fun z hz => nomatch hz) (by decide) (by decide) (hts _ wm_120) (va_Nw.use rfl hXc_i) hce hcv hcl ?_
    refine lv_astore (lv' := [(4, .ref q9), (0, .ref (x 0)), (1, .int q), (2, .long e9)]) hx hb dL_row_9 hl (by decide) rfl (fun ls hl => ?_)
    refine lv_iconst (v := (1 : Int32)) hx hb dL_row_11 (by decide +kernel) ?_
    exact W.iret (v := (1 : Int32)) hx hb hr (fun t ht hW => ⟨⟨(1 : Int32), f2, rfl, Or.inr ⟨rfl, hc9, rfl⟩, by rw [ht]; exact hP, va_K.moved hW.alike hK, hD⟩, hS.F ht⟩) hS.2.2 dL_row_12
  · obtain ⟨uu, rfl⟩ : ∃ z, z = u9 := ⟨_, rfl⟩
    obtain ⟨hP1, hK1, hD1⟩ := hB
    rw [ht] at hP1
    obtain ⟨hP, hD⟩ := va_join (wr := []) (w1 := cw x cd f0 f1 uu f3 g) hP hD [0, 1, 2, 3, 4, 5] [] rfl rfl (by decide) (by decide) hk1 hFc hP1 hD1
    have hP : va_P D vwCl (cw x cd f0 f1 uu f3 g) H1 := hP
    have hD : va_D A (cw x cd f0 f1 uu f3 g) := hD
    try dsimp only at hw
    refine lv_goto (tgt := 13) hx hb dL_row_6 (by decide) ?_
    refine lv_iconst (v := (0 : Int32)) hx hb dL_row_13 (by decide +kernel) ?_
    exact W.iret (v := (0 : Int32)) hx hb hr (fun t ht hW => ⟨⟨(0 : Int32), uu, rfl, Or.inl ⟨rfl, hw.1, hw.2⟩, by rw [ht]; exact hP, va_K.moved hW.alike hK, hD⟩, hS.F ht⟩) hS.2.2 dL_row_14
set_option maxHeartbeats 4000000 in
set_option maxRecDepth 100000 in
/-- back, and what it throws -/
theorem k_back (l : Launch) (hl9 : l.stackTraces = false) (D : va_G) (x : Nat → Nat) (cd : Nat → ClassId) (f0 f1 f2 f3 : Nat → Int32) (g : Nat → Int64) (ow : Nat) (co : ClassId) (o : Nat → Int64) (q : Int32) (sz : Nat) : Met l yL_back wsL_back ({ frames := 7, cells := 1, slots := 6, locals := 106 } : Room) (va_Pc [.ref (x 0), .int q, .ref ow] (crw D (cwo x cd f0 f1 f2 f3 g ow co o) (cty cd ++ [(co, .long)]) sz)) (va_Qi (fun (r : Int32) (u9 : (Nat → Int32) × (Nat → Int64) × (Nat → Int64)) => match u9 with | (u, g8, o9) => (r = 0 ∧ szOk q ∧ o9 0 = bG (bP (8 / q.toInt.toNat) q.toInt.toNat f0 f1) q.toInt.toNat q.toInt.toNat ∧ ∀ a b, a < 8 → b < 8 → u (a * 8 + b) = if a < q.toInt.toNat ∧ b < q.toInt.toNat then bS (8 / q.toInt.toNat) q.toInt.toNat (bP (8 / q.toInt.toNat) q.toInt.toNat f0 f1) a b else f2 (a * 8 + b)) ∨ (r = 1 ∧ ¬ szOk q ∧ u = f2)) (fun (u9 : (Nat → Int32) × (Nat → Int64) × (Nat → Int64)) (t : State) => match u9 with | (u, g8, o9) => crB D (cwo x cd f0 f1 u f3 g8 ow co o9) (cty cd ++ [(co, .long)]) (va_A (cwo x cd f0 f1 f2 f3 g ow co o) sz) t) (va_A (cwo x cd f0 f1 f2 f3 g ow co o) sz)) 1 6 (va_A (cwo x cd f0 f1 f2 f3 g ow co o) sz) := by
  refine va_MetW (cc := cL_back) (maxL := 4) (ret := some .int) (by decide) rfl ?_
  intro p e s m args below meth c s₁ B hml hv
  obtain ⟨rfl, hsz, hP, hK, hD0, hTb⟩ := hv
  have hx := B.exec
  have hb := B.bytes
  have hr := B.returns
  have hts : ∀ w ∈ wA, w.before _ s = true := fun w h => atoms_spec (ws := wsL_back) B.pre w (List.mem_cons_of_mem _ h)
  have hown : s.vm.findClass RL = some m.cls := findClass_of_methodNamed B.named
  have hlocks := B.notSynchronized
  have hTab := vx_table (x := yL_back) B (hts _ wm_241)
  subst hsz
  have hD := hD0.self (sz := s.heap.size)
  generalize hAe : va_A (cwo x cd f0 f1 f2 f3 g ow co o) s.heap.size = A at hD hTb ⊢
  have hA : ∀ q : Nat, s.heap.size ≤ q → A q := fun q h => by rw [← hAe]; exact Or.inr h
  have hS : va_S A s.heap s.heap [] := va_S.rf
  obtain ⟨-, -, -, -, -, ⟨hXc_i, hXc_a, -⟩, -, hNca⟩ := id hTb
  have hl := lv_entry ([.ref (x 0), .int q, .ref ow]) (n := 4) (Nat.le_of_ble_eq_true rfl)
  rw [lg_entry_eq]
  generalize (lg_sl ([.ref (x 0), .int q, .ref ow]) ++ List.replicate (4 - (lg_sl ([.ref (x 0), .int q, .ref ow])).length) Slot.unset).toArray = ls at hl ⊢
  have hl : lv_has ls 4 [(0, .ref (x 0)), (1, .int q), (2, .ref ow)] := hl
  refine lv_aload_n hx hb dL_back_0 rfl (lv_at hl 2 rfl) ?_
  refine lv_iconst (v := (0 : Int32)) hx hb dL_back_1 (by decide +kernel) ?_
  refine lv_aload_n hx hb dL_back_2 rfl (lv_at hl 0 rfl) ?_
  refine lv_iload_n hx hb dL_back_3 rfl (lv_at hl 1 rfl) ?_
  have hFc := va_free (wc := cw x cd f0 f1 f2 f3 g) hD hS hA [0, 1, 2, 3, 4, 5] rfl
  refine vx_calll (vx_runV (As := [.int q]) (rest := [.int (0 : Int32), .ref ow]) ⟨hx, hb, hml, hown, hts⟩ (m_back l hl9 D x cd f0 f1 f2 f3 g q _) (cwV 1 hts (gw_V wm_242 wm_243 wm_244 wm_12 wm_245) rfl rfl rfl (by decide +kernel) ⟨Nat.le_of_ble_eq_true rfl, Nat.le_of_ble_eq_true rfl⟩) ⟨crw_blind, va_recv hK hP (ci := 0) (q0 := 0) rfl rfl, fun U hU hW => ⟨rfl, crw_at (hP.sub (ws' := cw x cd f0 f1 f2 f3 g) [0, 1, 2, 3, 4, 5] rfl) (hK.sub (tys' := cty cd) [0, 1, 2, 3, 4] rfl) (hD.sub (ws' := cw x cd f0 f1 f2 f3 g) [0, 1, 2, 3, 4, 5] (by decide) rfl) hTb hS hFc hU hW⟩⟩ rfl rfl hl.1 rfl (lv_room (Nat.le_of_ble_eq_true rfl)) dL_back_4 ⟨Nat.le_of_ble_eq_true rfl, Nat.le_of_ble_eq_true rfl⟩) hS (fun q _ h => hFc q h) hFc (fun q _ h => h.elim) (fun E9 ce9 q9 u9 t H1 locs ht hvm hpx hB hz1 hk1 hS hce hcv hcl => ?_) (fun r9 u9 t H1 locs ht hvm hw hB hz1 hk1 hS => ?_)
  · have hP : va_P D vwCl (cwo x cd f0 f1 f2 f3 g ow co o) H1 := hP.kept (fun k q hq => hk1 q.1 (hP k q hq).lt (fun h => h))
    obtain ⟨rfl, hc9⟩ := hB
    refine vx_catch (own := RL) (name := "java/lang/IllegalArgumentException") (E := "java/lang/IllegalArgumentException") hown [] ⟨0, 8, 11, 15⟩ [] (by rw [hTab]; rfl) (fun z hz => nomatch hz) (by decide) (by decide) (hts _ wm_121) (va_Nw.use rfl hXc_a) hce hcv hcl ?_
    refine lv_astore_n (lv' := [(3, .ref q9), (0, .ref (x 0)), (1, .int q), (2, .ref ow)]) hx hb dL_back_11 rfl hl (by decide) rfl (fun ls hl => ?_)
    refine lv_iconst (v := (1 : Int32)) hx hb dL_back_12 (by decide +kernel) ?_
    exact W.iret (v := (1 : Int32)) hx hb hr (fun t ht hW => ⟨⟨(1 : Int32), (f2, g, o), rfl, Or.inr ⟨rfl, hc9, rfl⟩, by rw [ht]; exact hP, va_K.moved hW.alike hK, hD⟩, hS.F ht⟩) hS.2.2 dL_back_13
  · obtain ⟨uu, gg⟩ := u9
    obtain ⟨hP1, hK1, hD1⟩ := hB
    rw [ht] at hP1
    obtain ⟨hP, hD⟩ := va_join (wr := [(ow, .inl (co, 1, .inr (.inl o)))]) (w1 := cw x cd f0 f1 uu f3 gg) hP hD [0, 1, 2, 3, 4, 5] [6] rfl rfl (by decide) (by decide) hk1 hFc hP1 hD1
    have hP : va_P D vwCl (cwo x cd f0 f1 uu f3 gg ow co o) H1 := hP.sub (ws' := cwo x cd f0 f1 uu f3 gg ow co o) [1, 2, 3, 4, 5, 6, 0] rfl
    have hD : va_D A (cwo x cd f0 f1 uu f3 gg ow co o) := hD.sub (ws' := cwo x cd f0 f1 uu f3 gg ow co o) [1, 2, 3, 4, 5, 6, 0] (by decide) rfl
    try dsimp only at hw
    refine cx_last hx hb hK hP hD hS 6 5 rfl rfl 0 (by omega) (by decide) dL_back_7 (fun H locs hP hD hS => ?_)
    have hP : va_P D vwCl (cwo x cd f0 f1 uu f3 gg ow co (vp_updL o 0 r9)) H := hP
    have hD : va_D A (cwo x cd f0 f1 uu f3 gg ow co (vp_updL o 0 r9)) := hD
    refine lv_goto (tgt := 14) hx hb dL_back_8 (by decide) ?_
    refine lv_iconst (v := (0 : Int32)) hx hb dL_back_14 (by decide +kernel) ?_
    exact W.iret (v := (0 : Int32)) hx hb hr (fun t ht hW => ⟨⟨(0 : Int32), (uu, gg, vp_updL o 0 r9), rfl, Or.inl ⟨rfl, hw.1, hw.2.1, hw.2.2⟩, by rw [ht]; exact hP, va_K.moved hW.alike hK, hD⟩, hS.F ht⟩) hS.2.2 dL_back_15
set_option maxHeartbeats 4000000 in
set_option maxRecDepth 100000 in
/-- error, and what it throws -/
theorem k_error (l : Launch) (hl9 : l.stackTraces = false) (D : va_G) (x : Nat → Nat) (cd : Nat → ClassId) (f0 f1 f2 f3 : Nat → Int32) (g : Nat → Int64) (ow : Nat) (co : ClassId) (o : Nat → Int64) (q : Int32) (sz : Nat) : Met l yL_error wsL_error ({ frames := 7, cells := 1, slots := 6, locals := 107 } : Room) (va_Pc [.ref (x 0), .int q, .ref ow] (crw D (cwo x cd f0 f1 f2 f3 g ow co o) (cty cd ++ [(co, .long)]) sz)) (va_Qi (fun (r : Int32) (o9 : Nat → Int64) => (r = 0 ∧ ((1 ≤ q.toInt ∧ q.toInt ≤ 8)) ∧ o9 0 = (erY f2 f3 q.toInt.toNat q.toInt.toNat).toInt64) ∨ (r = 1 ∧ ¬ ((1 ≤ q.toInt ∧ q.toInt ≤ 8)))) (fun (o9 : Nat → Int64) (t : State) => crB D (cwo x cd f0 f1 f2 f3 g ow co o9) (cty cd ++ [(co, .long)]) (va_A (cwo x cd f0 f1 f2 f3 g ow co o) sz) t) (va_A (cwo x cd f0 f1 f2 f3 g ow co o) sz)) 1 6 (va_A (cwo x cd f0 f1 f2 f3 g ow co o) sz) := by
  refine va_MetW (cc := cL_error) (maxL := 4) (ret := some .int) (by decide) rfl ?_
  intro p e s m args below meth c s₁ B hml hv
  obtain ⟨rfl, hsz, hP, hK, hD0, hTb⟩ := hv
  have hx := B.exec
  have hb := B.bytes
  have hr := B.returns
  have hts : ∀ w ∈ wA, w.before _ s = true := fun w h => atoms_spec (ws := wsL_error) B.pre w (List.mem_cons_of_mem _ h)
  have hown : s.vm.findClass RL = some m.cls := findClass_of_methodNamed B.named
  have hlocks := B.notSynchronized
  have hTab := vx_table (x := yL_error) B (hts _ wm_267)
  subst hsz
  have hD := hD0.self (sz := s.heap.size)
  generalize hAe : va_A (cwo x cd f0 f1 f2 f3 g ow co o) s.heap.size = A at hD hTb ⊢
  have hA : ∀ q : Nat, s.heap.size ≤ q → A q := fun q h => by rw [← hAe]; exact Or.inr h
  have hS : va_S A s.heap s.heap [] := va_S.rf
  obtain ⟨-, -, -, -, -, ⟨hXc_i, hXc_a, -⟩, -, hNca⟩ := id hTb
  have hl := lv_entry ([.ref (x 0), .int q, .ref ow]) (n := 4) (Nat.le_of_ble_eq_true rfl)
  rw [lg_entry_eq]
  generalize (lg_sl ([.ref (x 0), .int q, .ref ow]) ++ List.replicate (4 - (lg_sl ([.ref (x 0), .int q, .ref ow])).length) Slot.unset).toArray = ls at hl ⊢
  have hl : lv_has ls 4 [(0, .ref (x 0)), (1, .int q), (2, .ref ow)] := hl
  refine lv_aload_n hx hb dL_error_0 rfl (lv_at hl 2 rfl) ?_
  refine lv_iconst (v := (0 : Int32)) hx hb dL_error_1 (by decide +kernel) ?_
  refine lv_aload_n hx hb dL_error_2 rfl (lv_at hl 0 rfl) ?_
  refine lv_iload_n hx hb dL_error_3 rfl (lv_at hl 1 rfl) ?_
  refine vx_calli (vx_runV (As := [.int q]) (rest := [.int (0 : Int32), .ref ow]) ⟨hx, hb, hml, hown, hts⟩ (m_error l hl9 D x cd f0 f1 f2 f3 g q) (cwV 1 hts (gw_V wm_268 wm_269 wm_270 wm_12 wm_271) rfl rfl rfl (by decide +kernel) ⟨Nat.le_of_ble_eq_true rfl, Nat.le_of_ble_eq_true rfl⟩) ⟨cro_blind, va_recv hK hP (ci := 0) (q0 := 0) rfl rfl, fun U hU hW => ⟨rfl, cro_at (hP.sub (ws' := cw x cd f0 f1 f2 f3 g) [0, 1, 2, 3, 4, 5] rfl) (hK.sub (tys' := cty cd) [0, 1, 2, 3, 4] rfl) hTb hS hU hW⟩⟩ rfl rfl hl.1 rfl (lv_room (Nat.le_of_ble_eq_true rfl)) dL_error_4 ⟨Nat.le_of_ble_eq_true rfl, Nat.le_of_ble_eq_true rfl⟩) hS (fun q _ h => h.elim) (fun q h => h.elim) (fun q _ h => h.elim) (fun E9 ce9 q9 u9 t H1 locs ht hvm hpx hB hz1 hk1 hS hce hcv hcl => ?_) (fun r9 u9 t H1 locs ht hvm hw hB hz1 hk1 hS => ?_)
  · have hP : va_P D vwCl (cwo x cd f0 f1 f2 f3 g ow co o) H1 := hP.kept (fun k q hq => hk1 q.1 (hP k q hq).lt (fun h => h))
    obtain ⟨rfl, hc9⟩ := hB
    refine vx_catch (own := RL) (name := "java/lang/IllegalArgumentException") (E := "java/lang/IllegalArgumentException") hown [] ⟨0, 9, 12, 15⟩ [] (by rw [hTab]; rfl) (fun z hz => nomatch hz) (by decide) (by decide) (hts _ wm_121) (va_Nw.use rfl hXc_a) hce hcv hcl ?_
    refine lv_astore_n (lv' := [(3, .ref q9), (0, .ref (x 0)), (1, .int q), (2, .ref ow)]) hx hb dL_error_12 rfl hl (by decide) rfl (fun ls hl => ?_)
    refine lv_iconst (v := (1 : Int32)) hx hb dL_error_13 (by decide +kernel) ?_
    exact W.iret (v := (1 : Int32)) hx hb hr (fun t ht hW => ⟨⟨(1 : Int32), o, rfl, Or.inr ⟨rfl, hc9⟩, by rw [ht]; exact hP, va_K.moved hW.alike hK, hD⟩, hS.F ht⟩) hS.2.2 dL_error_14
  · have hP : va_P D vwCl (cwo x cd f0 f1 f2 f3 g ow co o) H1 := hP.kept (fun k q hq => hk1 q.1 (hP k q hq).lt (fun h => h))
    refine lv_i2l hx hb dL_error_7 rfl ?_
    refine cx_last hx hb hK hP hD hS 6 5 rfl rfl 0 (by omega) (by decide) dL_error_8 (fun H locs hP hD hS => ?_)
    have hP : va_P D vwCl (cwo x cd f0 f1 f2 f3 g ow co (vp_updL o 0 r9.toInt64)) H := hP
    have hD : va_D A (cwo x cd f0 f1 f2 f3 g ow co (vp_updL o 0 r9.toInt64)) := hD
    refine lv_goto (tgt := 15) hx hb dL_error_9 (by decide) ?_
    refine lv_iconst (v := (0 : Int32)) hx hb dL_error_15 (by decide +kernel) ?_
    exact W.iret (v := (0 : Int32)) hx hb hr (fun t ht hW => ⟨⟨(0 : Int32), vp_updL o 0 r9.toInt64, rfl, Or.inl ⟨rfl, hw.1, by rw [← hw.2]; rfl⟩, by rw [ht]; exact hP, va_K.moved hW.alike hK, hD⟩, hS.F ht⟩) hS.2.2 dL_error_16
set_option maxHeartbeats 4000000 in
set_option maxRecDepth 100000 in
/-- at, and what it throws -/
theorem k_at (l : Launch) (hl9 : l.stackTraces = false) (D : va_G) (x : Nat → Nat) (cd : Nat → ClassId) (f0 f1 f2 f3 : Nat → Int32) (g : Nat → Int64) (ow : Nat) (co : ClassId) (o : Nat → Int64) (q k9 : Int32) (sz : Nat) : Met l yL_at wsL_at ({ frames := 7, cells := 1, slots := 6, locals := 105 } : Room) (va_Pc [.ref (x 0), .int q, .int k9, .ref ow] (crw D (cwo x cd f0 f1 f2 f3 g ow co o) (cty cd ++ [(co, .long)]) sz)) (va_Qi (fun (r : Int32) (o9 : Nat → Int64) => (r = 0 ∧ ((0 ≤ q.toInt ∧ q.toInt < 64) ∧ (0 ≤ k9.toInt ∧ k9.toInt ≤ 3)) ∧ o9 0 = (atV f0 f1 q.toInt.toNat k9).toInt64) ∨ (r = 1 ∧ ¬ ((0 ≤ q.toInt ∧ q.toInt < 64) ∧ (0 ≤ k9.toInt ∧ k9.toInt ≤ 3)))) (fun (o9 : Nat → Int64) (t : State) => crB D (cwo x cd f0 f1 f2 f3 g ow co o9) (cty cd ++ [(co, .long)]) (va_A (cwo x cd f0 f1 f2 f3 g ow co o) sz) t) (va_A (cwo x cd f0 f1 f2 f3 g ow co o) sz)) 1 6 (va_A (cwo x cd f0 f1 f2 f3 g ow co o) sz) := by
  refine va_MetW (cc := cL_at) (maxL := 5) (ret := some .int) (by decide) rfl ?_
  intro p e s m args below meth c s₁ B hml hv
  obtain ⟨rfl, hsz, hP, hK, hD0, hTb⟩ := hv
  have hx := B.exec
  have hb := B.bytes
  have hr := B.returns
  have hts : ∀ w ∈ wA, w.before _ s = true := fun w h => atoms_spec (ws := wsL_at) B.pre w (List.mem_cons_of_mem _ h)
  have hown : s.vm.findClass RL = some m.cls := findClass_of_methodNamed B.named
  have hlocks := B.notSynchronized
  have hTab := vx_table (x := yL_at) B (hts _ wm_275)
  subst hsz
  have hD := hD0.self (sz := s.heap.size)
  generalize hAe : va_A (cwo x cd f0 f1 f2 f3 g ow co o) s.heap.size = A at hD hTb ⊢
  have hA : ∀ q : Nat, s.heap.size ≤ q → A q := fun q h => by rw [← hAe]; exact Or.inr h
  have hS : va_S A s.heap s.heap [] := va_S.rf
  obtain ⟨-, -, -, -, -, ⟨hXc_i, hXc_a, -⟩, -, hNca⟩ := id hTb
  have hl := lv_entry ([.ref (x 0), .int q, .int k9, .ref ow]) (n := 5) (Nat.le_of_ble_eq_true rfl)
  rw [lg_entry_eq]
  generalize (lg_sl ([.ref (x 0), .int q, .int k9, .ref ow]) ++ List.replicate (5 - (lg_sl ([.ref (x 0), .int q, .int k9, .ref ow])).length) Slot.unset).toArray = ls at hl ⊢
  have hl : lv_has ls 5 [(0, .ref (x 0)), (1, .int q), (2, .int k9), (3, .ref ow)] := hl
  refine lv_aload_n hx hb dL_at_0 rfl (lv_at hl 3 rfl) ?_
  refine lv_iconst (v := (0 : Int32)) hx hb dL_at_1 (by decide +kernel) ?_
  refine lv_aload_n hx hb dL_at_2 rfl (lv_at hl 0 rfl) ?_
  refine lv_iload_n hx hb dL_at_3 rfl (lv_at hl 1 rfl) ?_
  refine lv_iload_n hx hb dL_at_4 rfl (lv_at hl 2 rfl) ?_
  refine vx_calli (vx_runV (As := [.int q, .int k9]) (rest := [.int (0 : Int32), .ref ow]) ⟨hx, hb, hml, hown, hts⟩ (m_at l hl9 D x cd f0 f1 f2 f3 g q k9) (cwV 2 hts (gw_V wm_276 wm_277 wm_278 wm_12 wm_279) rfl rfl rfl (by decide +kernel) ⟨Nat.le_of_ble_eq_true rfl, Nat.le_of_ble_eq_true rfl⟩) ⟨cro_blind, va_recv hK hP (ci := 0) (q0 := 0) rfl rfl, fun U hU hW => ⟨rfl, cro_at (hP.sub (ws' := cw x cd f0 f1 f2 f3 g) [0, 1, 2, 3, 4, 5] rfl) (hK.sub (tys' := cty cd) [0, 1, 2, 3, 4] rfl) hTb hS hU hW⟩⟩ rfl rfl hl.1 rfl (lv_room (Nat.le_of_ble_eq_true rfl)) dL_at_5 ⟨Nat.le_of_ble_eq_true rfl, Nat.le_of_ble_eq_true rfl⟩) hS (fun q _ h => h.elim) (fun q h => h.elim) (fun q _ h => h.elim) (fun E9 ce9 q9 u9 t H1 locs ht hvm hpx hB hz1 hk1 hS hce hcv hcl => ?_) (fun r9 u9 t H1 locs ht hvm hw hB hz1 hk1 hS => ?_)
  · have hP : va_P D vwCl (cwo x cd f0 f1 f2 f3 g ow co o) H1 := hP.kept (fun k q hq => hk1 q.1 (hP k q hq).lt (fun h => h))
    obtain ⟨rfl, hc9⟩ := hB
    refine vx_catch (own := RL) (name := "java/lang/IndexOutOfBoundsException") (E := "java/lang/IndexOutOfBoundsException") hown [] ⟨0, 10, 13, 13⟩ [] (by rw [hTab]; rfl) (fun z hz => nomatch hz) (by decide) (by decide) (hts _ wm_120) (va_Nw.use rfl hXc_i) hce hcv hcl ?_
    refine lv_astore (lv' := [(4, .ref q9), (0, .ref (x 0)), (1, .int q), (2, .int k9), (3, .ref ow)]) hx hb dL_at_13 hl (by decide) rfl (fun ls hl => ?_)
    refine lv_iconst (v := (1 : Int32)) hx hb dL_at_15 (by decide +kernel) ?_
    exact W.iret (v := (1 : Int32)) hx hb hr (fun t ht hW => ⟨⟨(1 : Int32), o, rfl, Or.inr ⟨rfl, hc9⟩, by rw [ht]; exact hP, va_K.moved hW.alike hK, hD⟩, hS.F ht⟩) hS.2.2 dL_at_16
  · have hP : va_P D vwCl (cwo x cd f0 f1 f2 f3 g ow co o) H1 := hP.kept (fun k q hq => hk1 q.1 (hP k q hq).lt (fun h => h))
    refine lv_i2l hx hb dL_at_8 rfl ?_
    refine cx_last hx hb hK hP hD hS 6 5 rfl rfl 0 (by omega) (by decide) dL_at_9 (fun H locs hP hD hS => ?_)
    have hP : va_P D vwCl (cwo x cd f0 f1 f2 f3 g ow co (vp_updL o 0 r9.toInt64)) H := hP
    have hD : va_D A (cwo x cd f0 f1 f2 f3 g ow co (vp_updL o 0 r9.toInt64)) := hD
    refine lv_goto (tgt := 17) hx hb dL_at_10 (by decide) ?_
    refine lv_iconst (v := (0 : Int32)) hx hb dL_at_17 (by decide +kernel) ?_
    exact W.iret (v := (0 : Int32)) hx hb hr (fun t ht hW => ⟨⟨(0 : Int32), vp_updL o 0 r9.toInt64, rfl, Or.inl ⟨rfl, hw.1, by rw [← hw.2]; rfl⟩, by rw [ht]; exact hP, va_K.moved hW.alike hK, hD⟩, hS.F ht⟩) hS.2.2 dL_at_18
set_option maxHeartbeats 4000000 in
set_option maxRecDepth 100000 in
/-- exact, and what it throws -/
theorem k_exact (l : Launch) (hl9 : l.stackTraces = false) (D : va_G) (x : Nat → Nat) (cd : Nat → ClassId) (f0 f1 f2 f3 : Nat → Int32) (g : Nat → Int64) (ow : Nat) (co : ClassId) (o : Nat → Int64) (a9 b9 : Int32) (sz : Nat) : Met l yL_exact wsL_exact ({ frames := 7, cells := 1, slots := 6, locals := 104 } : Room) (va_Pc [.ref (x 0), .int a9, .int b9, .ref ow] (crw D (cwo x cd f0 f1 f2 f3 g ow co o) (cty cd ++ [(co, .long)]) sz)) (va_Qi (fun (r : Int32) (u9 : (Nat → Int64) × (Nat → Int64)) => match u9 with | (g8, o9) => (r = 0 ∧ ((0 ≤ a9.toInt ∧ a9.toInt < 8) ∧ (0 ≤ b9.toInt ∧ b9.toInt < 8)) ∧ o9 0 = (fE (fP f2) a9.toInt.toNat b9.toInt.toNat).toInt64) ∨ (r = 1 ∧ ¬ ((0 ≤ a9.toInt ∧ a9.toInt < 8) ∧ (0 ≤ b9.toInt ∧ b9.toInt < 8)))) (fun (u9 : (Nat → Int64) × (Nat → Int64)) (t : State) => match u9 with | (g8, o9) => crB D (cwo x cd f0 f1 f2 f3 g8 ow co o9) (cty cd ++ [(co, .long)]) (va_A (cwo x cd f0 f1 f2 f3 g ow co o) sz) t) (va_A (cwo x cd f0 f1 f2 f3 g ow co o) sz)) 1 6 (va_A (cwo x cd f0 f1 f2 f3 g ow co o) sz) := by
  refine va_MetW (cc := cL_exact) (maxL := 5) (ret := some .int) (by decide) rfl ?_
  intro p e s m args below meth c s₁ B hml hv
  obtain ⟨rfl, hsz, hP, hK, hD0, hTb⟩ := hv
  have hx := B.exec
  have hb := B.bytes
  have hr := B.returns
  have hts : ∀ w ∈ wA, w.before _ s = true := fun w h => atoms_spec (ws := wsL_exact) B.pre w (List.mem_cons_of_mem _ h)
  have hown : s.vm.findClass RL = some m.cls := findClass_of_methodNamed B.named
  have hlocks := B.notSynchronized
  have hTab := vx_table (x := yL_exact) B (hts _ wm_283)
  subst hsz
  have hD := hD0.self (sz := s.heap.size)
  generalize hAe : va_A (cwo x cd f0 f1 f2 f3 g ow co o) s.heap.size = A at hD hTb ⊢
  have hA : ∀ q : Nat, s.heap.size ≤ q → A q := fun q h => by rw [← hAe]; exact Or.inr h
  have hS : va_S A s.heap s.heap [] := va_S.rf
  obtain ⟨-, -, -, -, -, ⟨hXc_i, hXc_a, -⟩, -, hNca⟩ := id hTb
  have hl := lv_entry ([.ref (x 0), .int a9, .int b9, .ref ow]) (n := 5) (Nat.le_of_ble_eq_true rfl)
  rw [lg_entry_eq]
  generalize (lg_sl ([.ref (x 0), .int a9, .int b9, .ref ow]) ++ List.replicate (5 - (lg_sl ([.ref (x 0), .int a9, .int b9, .ref ow])).length) Slot.unset).toArray = ls at hl ⊢
  have hl : lv_has ls 5 [(0, .ref (x 0)), (1, .int a9), (2, .int b9), (3, .ref ow)] := hl
  refine lv_aload_n hx hb dL_exact_0 rfl (lv_at hl 3 rfl) ?_
  refine lv_iconst (v := (0 : Int32)) hx hb dL_exact_1 (by decide +kernel) ?_
  refine lv_aload_n hx hb dL_exact_2 rfl (lv_at hl 0 rfl) ?_
  refine lv_iload_n hx hb dL_exact_3 rfl (lv_at hl 1 rfl) ?_
  refine lv_iload_n hx hb dL_exact_4 rfl (lv_at hl 2 rfl) ?_
  have hFc := va_free (wc := cw x cd f0 f1 f2 f3 g) hD hS hA [0, 1, 2, 3, 4, 5] rfl
  refine vx_calli (vx_runV (As := [.int a9, .int b9]) (rest := [.int (0 : Int32), .ref ow]) ⟨hx, hb, hml, hown, hts⟩ (m_exact l hl9 D x cd f0 f1 f2 f3 g a9 b9 _) (cwV 2 hts (gw_V wm_284 wm_285 wm_286 wm_12 wm_287) rfl rfl rfl (by decide +kernel) ⟨Nat.le_of_ble_eq_true rfl, Nat.le_of_ble_eq_true rfl⟩) ⟨crw_blind, va_recv hK hP (ci := 0) (q0 := 0) rfl rfl, fun U hU hW => ⟨rfl, crw_at (hP.sub (ws' := cw x cd f0 f1 f2 f3 g) [0, 1, 2, 3, 4, 5] rfl) (hK.sub (tys' := cty cd) [0, 1, 2, 3, 4] rfl) (hD.sub (ws' := cw x cd f0 f1 f2 f3 g) [0, 1, 2, 3, 4, 5] (by decide) rfl) hTb hS hFc hU hW⟩⟩ rfl rfl hl.1 rfl (lv_room (Nat.le_of_ble_eq_true rfl)) dL_exact_5 ⟨Nat.le_of_ble_eq_true rfl, Nat.le_of_ble_eq_true rfl⟩) hS (fun q _ h => hFc q h) hFc (fun q _ h => h.elim) (fun E9 ce9 q9 u9 t H1 locs ht hvm hpx hB hz1 hk1 hS hce hcv hcl => ?_) (fun r9 u9 t H1 locs ht hvm hw hB hz1 hk1 hS => ?_)
  · have hP : va_P D vwCl (cwo x cd f0 f1 f2 f3 g ow co o) H1 := hP.kept (fun k q hq => hk1 q.1 (hP k q hq).lt (fun h => h))
    obtain ⟨rfl, hc9⟩ := hB
    refine vx_catch (own := RL) (name := "java/lang/IndexOutOfBoundsException") (E := "java/lang/IndexOutOfBoundsException") hown [] ⟨0, 10, 13, 13⟩ [] (by rw [hTab]; rfl) (fun z hz => nomatch hz) (by decide) (by decide) (hts _ wm_120) (va_Nw.use rfl hXc_i) hce hcv hcl ?_
    refine lv_astore (lv' := [(4, .ref q9), (0, .ref (x 0)), (1, .int a9), (2, .int b9), (3, .ref ow)]) hx hb dL_exact_13 hl (by decide) rfl (fun ls hl => ?_)
    refine lv_iconst (v := (1 : Int32)) hx hb dL_exact_15 (by decide +kernel) ?_
    exact W.iret (v := (1 : Int32)) hx hb hr (fun t ht hW => ⟨⟨(1 : Int32), (g, o), rfl, Or.inr ⟨rfl, hc9⟩, by rw [ht]; exact hP, va_K.moved hW.alike hK, hD⟩, hS.F ht⟩) hS.2.2 dL_exact_16
  · obtain ⟨gg, rfl⟩ : ∃ z, z = u9 := ⟨_, rfl⟩
    obtain ⟨hP1, hK1, hD1⟩ := hB
    rw [ht] at hP1
    obtain ⟨hP, hD⟩ := va_join (wr := [(ow, .inl (co, 1, .inr (.inl o)))]) (w1 := cw x cd f0 f1 f2 f3 gg) hP hD [0, 1, 2, 3, 4, 5] [6] rfl rfl (by decide) (by decide) hk1 hFc hP1 hD1
    have hP : va_P D vwCl (cwo x cd f0 f1 f2 f3 gg ow co o) H1 := hP.sub (ws' := cwo x cd f0 f1 f2 f3 gg ow co o) [1, 2, 3, 4, 5, 6, 0] rfl
    have hD : va_D A (cwo x cd f0 f1 f2 f3 gg ow co o) := hD.sub (ws' := cwo x cd f0 f1 f2 f3 gg ow co o) [1, 2, 3, 4, 5, 6, 0] (by decide) rfl
    try dsimp only at hw
    refine lv_i2l hx hb dL_exact_8 rfl ?_
    refine cx_last hx hb hK hP hD hS 6 5 rfl rfl 0 (by omega) (by decide) dL_exact_9 (fun H locs hP hD hS => ?_)
    have hP : va_P D vwCl (cwo x cd f0 f1 f2 f3 gg ow co (vp_updL o 0 r9.toInt64)) H := hP
    have hD : va_D A (cwo x cd f0 f1 f2 f3 gg ow co (vp_updL o 0 r9.toInt64)) := hD
    refine lv_goto (tgt := 17) hx hb dL_exact_10 (by decide) ?_
    refine lv_iconst (v := (0 : Int32)) hx hb dL_exact_17 (by decide +kernel) ?_
    exact W.iret (v := (0 : Int32)) hx hb hr (fun t ht hW => ⟨⟨(0 : Int32), (gg, vp_updL o 0 r9.toInt64), rfl, Or.inl ⟨rfl, hw.1, by rw [← hw.2]; rfl⟩, by rw [ht]; exact hP, va_K.moved hW.alike hK, hD⟩, hS.F ht⟩) hS.2.2 dL_exact_18
set_option maxHeartbeats 4000000 in
set_option maxRecDepth 100000 in
/-- wave, and what it throws -/
theorem k_wave (l : Launch) (hl9 : l.stackTraces = false) (D : va_G) (x : Nat → Nat) (cd : Nat → ClassId) (f0 f1 f2 f3 : Nat → Int32) (g : Nat → Int64) (ow : Nat) (co : ClassId) (o : Nat → Int64) (q u8 x8 : Int32) (sz : Nat) : Met l yL_wave wsL_wave ({ frames := 7, cells := 1, slots := 6, locals := 106 } : Room) (va_Pc [.ref (x 0), .int q, .int u8, .int x8, .ref ow] (crw D (cwo x cd f0 f1 f2 f3 g ow co o) (cty cd ++ [(co, .long)]) sz)) (va_Qi (fun (r : Int32) (o9 : Nat → Int64) => (r = 0 ∧ (szOk q ∧ (0 ≤ u8.toInt ∧ u8.toInt < q.toInt) ∧ (0 ≤ x8.toInt ∧ x8.toInt < q.toInt)) ∧ o9 0 = (wvN (8 / q.toInt.toNat) u8.toInt.toNat x8.toInt.toNat).toInt64) ∨ (r = 1 ∧ ¬ (szOk q ∧ (0 ≤ u8.toInt ∧ u8.toInt < q.toInt) ∧ (0 ≤ x8.toInt ∧ x8.toInt < q.toInt)))) (fun (o9 : Nat → Int64) (t : State) => crB D (cwo x cd f0 f1 f2 f3 g ow co o9) (cty cd ++ [(co, .long)]) (va_A (cwo x cd f0 f1 f2 f3 g ow co o) sz) t) (va_A (cwo x cd f0 f1 f2 f3 g ow co o) sz)) 1 6 (va_A (cwo x cd f0 f1 f2 f3 g ow co o) sz) := by
  refine va_MetW (cc := cL_wave) (maxL := 6) (ret := some .int) (by decide) rfl ?_
  intro p e s m args below meth c s₁ B hml hv
  obtain ⟨rfl, hsz, hP, hK, hD0, hTb⟩ := hv
  have hx := B.exec
  have hb := B.bytes
  have hr := B.returns
  have hts : ∀ w ∈ wA, w.before _ s = true := fun w h => atoms_spec (ws := wsL_wave) B.pre w (List.mem_cons_of_mem _ h)
  have hown : s.vm.findClass RL = some m.cls := findClass_of_methodNamed B.named
  have hlocks := B.notSynchronized
  have hTab := vx_table (x := yL_wave) B (hts _ wm_290)
  subst hsz
  have hD := hD0.self (sz := s.heap.size)
  generalize hAe : va_A (cwo x cd f0 f1 f2 f3 g ow co o) s.heap.size = A at hD hTb ⊢
  have hA : ∀ q : Nat, s.heap.size ≤ q → A q := fun q h => by rw [← hAe]; exact Or.inr h
  have hS : va_S A s.heap s.heap [] := va_S.rf
  obtain ⟨-, -, -, -, -, ⟨hXc_i, hXc_a, -⟩, -, hNca⟩ := id hTb
  have hl := lv_entry ([.ref (x 0), .int q, .int u8, .int x8, .ref ow]) (n := 6) (Nat.le_of_ble_eq_true rfl)
  rw [lg_entry_eq]
  generalize (lg_sl ([.ref (x 0), .int q, .int u8, .int x8, .ref ow]) ++ List.replicate (6 - (lg_sl ([.ref (x 0), .int q, .int u8, .int x8, .ref ow])).length) Slot.unset).toArray = ls at hl ⊢
  have hl : lv_has ls 6 [(0, .ref (x 0)), (1, .int q), (2, .int u8), (3, .int x8), (4, .ref ow)] := hl
  refine lv_aload hx hb dL_wave_0 (lv_at hl 4 rfl) ?_
  refine lv_iconst (v := (0 : Int32)) hx hb dL_wave_2 (by decide +kernel) ?_
  refine lv_aload_n hx hb dL_wave_3 rfl (lv_at hl 0 rfl) ?_
  refine lv_iload_n hx hb dL_wave_4 rfl (lv_at hl 1 rfl) ?_
  refine lv_iload_n hx hb dL_wave_5 rfl (lv_at hl 2 rfl) ?_
  refine lv_iload_n hx hb dL_wave_6 rfl (lv_at hl 3 rfl) ?_
  refine vx_calli (vx_runV (As := [.int q, .int u8, .int x8]) (rest := [.int (0 : Int32), .ref ow]) ⟨hx, hb, hml, hown, hts⟩ (m_wave l hl9 D x cd f0 f1 f2 f3 g q u8 x8) (cwV 3 hts (gw_V wm_291 wm_292 wm_293 wm_12 wm_294) rfl rfl rfl (by decide +kernel) ⟨Nat.le_of_ble_eq_true rfl, Nat.le_of_ble_eq_true rfl⟩) ⟨cro_blind, va_recv hK hP (ci := 0) (q0 := 0) rfl rfl, fun U hU hW => ⟨rfl, cro_at (hP.sub (ws' := cw x cd f0 f1 f2 f3 g) [0, 1, 2, 3, 4, 5] rfl) (hK.sub (tys' := cty cd) [0, 1, 2, 3, 4] rfl) hTb hS hU hW⟩⟩ rfl rfl hl.1 rfl (lv_room (Nat.le_of_ble_eq_true rfl)) dL_wave_7 ⟨Nat.le_of_ble_eq_true rfl, Nat.le_of_ble_eq_true rfl⟩) hS (fun q _ h => h.elim) (fun q h => h.elim) (fun q _ h => h.elim) (fun E9 ce9 q9 u9 t H1 locs ht hvm hpx hB hz1 hk1 hS hce hcv hcl => ?_) (fun r9 u9 t H1 locs ht hvm hw hB hz1 hk1 hS => ?_)
  · have hP : va_P D vwCl (cwo x cd f0 f1 f2 f3 g ow co o) H1 := hP.kept (fun k q hq => hk1 q.1 (hP k q hq).lt (fun h => h))
    obtain ⟨rfl, hc9⟩ := hB
    refine vx_catch (own := RL) (name := "java/lang/IllegalArgumentException") (E := "java/lang/IllegalArgumentException") hown [] ⟨0, 12, 15, 15⟩ [] (by rw [hTab]; rfl) (fun z hz => nomatch hz) (by decide) (by decide) (hts _ wm_121) (va_Nw.use rfl hXc_a) hce hcv hcl ?_
    refine lv_astore (lv' := [(5, .ref q9), (0, .ref (x 0)), (1, .int q), (2, .int u8), (3, .int x8), (4, .ref ow)]) hx hb dL_wave_15 hl (by decide) rfl (fun ls hl => ?_)
    refine lv_iconst (v := (1 : Int32)) hx hb dL_wave_17 (by decide +kernel) ?_
    exact W.iret (v := (1 : Int32)) hx hb hr (fun t ht hW => ⟨⟨(1 : Int32), o, rfl, Or.inr ⟨rfl, hc9⟩, by rw [ht]; exact hP, va_K.moved hW.alike hK, hD⟩, hS.F ht⟩) hS.2.2 dL_wave_18
  · have hP : va_P D vwCl (cwo x cd f0 f1 f2 f3 g ow co o) H1 := hP.kept (fun k q hq => hk1 q.1 (hP k q hq).lt (fun h => h))
    refine lv_i2l hx hb dL_wave_10 rfl ?_
    refine cx_last hx hb hK hP hD hS 6 5 rfl rfl 0 (by omega) (by decide) dL_wave_11 (fun H locs hP hD hS => ?_)
    have hP : va_P D vwCl (cwo x cd f0 f1 f2 f3 g ow co (vp_updL o 0 r9.toInt64)) H := hP
    have hD : va_D A (cwo x cd f0 f1 f2 f3 g ow co (vp_updL o 0 r9.toInt64)) := hD
    refine lv_goto (tgt := 19) hx hb dL_wave_12 (by decide) ?_
    refine lv_iconst (v := (0 : Int32)) hx hb dL_wave_19 (by decide +kernel) ?_
    exact W.iret (v := (0 : Int32)) hx hb hr (fun t ht hW => ⟨⟨(0 : Int32), vp_updL o 0 r9.toInt64, rfl, Or.inl ⟨rfl, hw.1, by rw [← hw.2]; rfl⟩, by rw [ht]; exact hP, va_K.moved hW.alike hK, hD⟩, hS.F ht⟩) hS.2.2 dL_wave_20
end
section
abbrev mw (y : Nat → Nat) (ce : Nat → ClassId) (th : Int32) (r0 r1 r2 r3 dn ac : Nat → Int32) (sm : Nat → Int64) : va_W := [(y 0, .inr (1, [.int th, .ref (y 1), .ref (y 2), .ref (y 3), .ref (y 4), .ref (y 5), .ref (y 6), .ref (y 7)])), (y 1, .inl (ce 1, 64, .inl r0)), (y 2, .inl (ce 2, 64, .inl r1)), (y 3, .inl (ce 3, 64, .inl r2)), (y 4, .inl (ce 4, 64, .inl r3)), (y 5, .inl (ce 5, 64, .inl dn)), (y 6, .inl (ce 6, 64, .inl ac)), (y 7, .inl (ce 7, 64, .inr (.inl sm)))]
abbrev mty (ce : Nat → ClassId) : List (ClassId × FieldType) := [(ce 1, .int), (ce 2, .int), (ce 3, .int), (ce 4, .int), (ce 5, .int), (ce 6, .int), (ce 7, .long)]
/-- what the reference computes in an order of its own -/
def ordR (dn ac : Nat → Int32) (a b : Int32) : Nat → Int32
  | 0 => -1
  | k + 1 => if (dn k).toInt = a.toInt ∧ (ac k).toInt = b.toInt then nI k else ordR dn ac a b k
def dnOk (dn ac : Nat → Int32) : Prop := ∀ j, j < 64 → dn j = nI (cCn j / 8) ∧ ac j = nI (cCn j % 8)
def cN (sp nn : Nat) (r0 r1 : Nat → Int32) (y u : Nat) : Int64 := rdL (sumL (fun v => (wvN sp v y).toInt64 * (r0 (cPn (v * 8 + u))).toInt64 * (r1 (cPn (v * 8 + u))).toInt64) nn) 11
def eP (r2 : Nat → Int32) (v x : Nat) : Int64 := rdL (sumL (fun y => (wvN 1 v y).toInt64 * (r2 (y * 8 + x) - 128).toInt64) 8) 11
def eN (r2 : Nat → Int32) (v u : Nat) : Int64 := rdL (sumL (fun x => (wvN 1 u x).toInt64 * eP r2 v x) 8) 17
def mostV (v m : Int64) : Int64 := if m.toInt < v.toInt then v else if m.toInt < (-v).toInt then -v else m
def abR (e : Int64) : Int64 := if e.toInt < 0 then -e else e
def amtR (e : Int64) (st : Int32) : Int64 := (abR e * 2 + st.toInt64) / (2 * st.toInt64)
def nearR (e : Int64) (st : Int32) : Int32 := (if e.toInt < 0 then -amtR e st else amtR e st).toInt32
def erR (r2 r3 : Nat → Int32) (n : Nat) : Nat → Int32
  | 0 => 0
  | k + 1 => erR r2 r3 n k + (if k / 8 < n ∧ k % 8 < n then (r2 k - r3 k) * (r2 k - r3 k) else 0)
def absR (x : Int32) : Int32 := if x.toInt < 0 then -x else x
def lookR (r0 r1 r2 : Nat → Int32) (q : Int32) : Int32 := if q.toInt = 0 then cntI r0 64 else if q.toInt = 1 then lastI r0 64 else if q.toInt = 2 then sumI r1 64 else if q.toInt = 3 then sumI r2 64 else if q.toInt = 4 then sumI (fun j => absR (r0 j)) 64 else -1
def rowR (e : Int64) (x : Nat) : Int32 := ((e >>> ((nI (56 - 8 * x)).toInt64 &&& 63)) &&& 255).toInt32
def atR (r0 r1 : Nat → Int32) (j : Nat) (k : Int32) : Int32 := if k.toInt = 0 then r0 j else if k.toInt = 1 then r1 j else if k.toInt = 2 then nI (cCn j / 8) else nI (cCn j % 8)
theorem orderV_nat {a b : Nat} (ha : a < 8) (hb : b < 8) : orderV (nI a) (nI b) = nI (cPn (a * 8 + b)) := by
  have h1 : (nI a).toInt = (a : Int) := nI_toInt (by omega)
  have h2 : (nI b).toInt = (b : Int) := nI_toInt (by omega)
  unfold orderV
  rw [if_pos (by omega), h1, h2]
  rfl
theorem ordR_z {dn ac : Nat → Int32} {a b : Int32} {k : Nat} (h : ¬ ((dn k).toInt = a.toInt ∧ (ac k).toInt = b.toInt)) : ordR dn ac a b k = ordR dn ac a b (k + 1) := by
  show _ = (if (dn k).toInt = a.toInt ∧ (ac k).toInt = b.toInt then nI k else ordR dn ac a b k)
  rw [if_neg h]
theorem ordR_s {dn ac : Nat → Int32} {a b : Int32} {k : Nat} (h : (dn k).toInt = a.toInt ∧ (ac k).toInt = b.toInt) : nI k = ordR dn ac a b (k + 1) := by
  show _ = (if (dn k).toInt = a.toInt ∧ (ac k).toInt = b.toInt then nI k else ordR dn ac a b k)
  rw [if_pos h]
theorem ordR_none {dn ac : Nat → Int32} {a b : Int32} : ∀ {k : Nat}, (∀ j, j < k → ¬ ((dn j).toInt = a.toInt ∧ (ac j).toInt = b.toInt)) → ordR dn ac a b k = -1
  | 0, _ => rfl
  | k + 1, h => by
    rw [← ordR_z (h k (Nat.lt_succ_self k))]
    exact ordR_none (fun j hj => h j (Nat.lt_succ_of_lt hj))
theorem ordR_at {dn ac : Nat → Int32} {a b : Int32} {i : Nat} (hi : (dn i).toInt = a.toInt ∧ (ac i).toInt = b.toInt) : ∀ {k : Nat}, i < k → (∀ j, i < j → j < k → ¬ ((dn j).toInt = a.toInt ∧ (ac j).toInt = b.toInt)) → ordR dn ac a b k = nI i
  | 0, h, _ => absurd h (Nat.not_lt_zero i)
  | k + 1, h, hn => by
    by_cases hq : i = k
    · subst hq
      exact (ordR_s hi).symm
    · rw [← ordR_z (hn k (by omega) (Nat.lt_succ_self k))]
      exact ordR_at hi (by omega) (fun j h1 h2 => hn j h1 (Nat.lt_succ_of_lt h2))
theorem cCn_inj : ∀ i, i < 64 → ∀ j, j < 64 → cCn i = cCn j → i = j := by decide +kernel
theorem ordR_eq {dn ac : Nat → Int32} (h : dnOk dn ac) (a b : Int32) : ordR dn ac a b 64 = orderV a b := by
  have hd : ∀ j, j < 64 → (dn j).toInt = ((cCn j / 8 : Nat) : Int) ∧ (ac j).toInt = ((cCn j % 8 : Nat) : Int) := fun j hj => by
    have hc := cCn_lt j hj
    rw [(h j hj).1, (h j hj).2]
    exact ⟨nI_toInt (by omega), nI_toInt (by omega)⟩
  by_cases hr : (0 ≤ a.toInt ∧ a.toInt < 8) ∧ (0 ≤ b.toInt ∧ b.toInt < 8)
  · obtain ⟨a8, ha8, rfl⟩ := cx_ofN (x := a) (n := 8) (by omega) (by omega) (by decide)
    obtain ⟨b8, hb8, rfl⟩ := cx_ofN (x := b) (n := 8) (by omega) (by omega) (by decide)
    rw [orderV_nat ha8 hb8]
    have e1 : (nI a8).toInt = (a8 : Int) := nI_toInt (by omega)
    have e2 : (nI b8).toInt = (b8 : Int) := nI_toInt (by omega)
    have hp : cPn (a8 * 8 + b8) < 64 := cPn_lt _ (by omega)
    have hc : cCn (cPn (a8 * 8 + b8)) = a8 * 8 + b8 := cPC _ (by omega)
    refine ordR_at ?_ hp (fun j h1 h2 hj => ?_)
    · rw [(hd _ hp).1, (hd _ hp).2, hc, e1, e2]
      omega
    · rw [(hd _ h2).1, (hd _ h2).2, e1, e2] at hj
      have : cCn j = cCn (cPn (a8 * 8 + b8)) := by rw [hc]; omega
      have := cCn_inj j h2 _ hp this
      omega
  · unfold orderV
    rw [if_neg hr]
    refine ordR_none (fun j hj hm => hr ?_)
    have hc := cCn_lt j hj
    rw [(hd _ hj).1, (hd _ hj).2] at hm
    omega
theorem maxL_most {v m : Int64} (hm : 0 ≤ m.toInt) : mostV v m = maxL m (absL v) ∧ 0 ≤ (maxL m (absL v)).toInt := by
  unfold mostV maxL absL
  simp only [Int64.lt_iff_toInt_lt]
  have h0 : (0 : Int64).toInt = 0 := rfl
  have hn : 0 ≤ v.toInt → (-v).toInt = -v.toInt := fun h => by
    rw [Int64.toInt_neg, Int.bmod_eq_of_le] <;> (have := v.toInt_lt; omega)
  have hn2 : v.toInt < 0 → ((-v).toInt = -v.toInt ∨ (-v).toInt = v.toInt) := fun h => by
    rw [Int64.toInt_neg]
    by_cases q : v.toInt = -2 ^ 63
    · right; rw [q]; decide
    · left; rw [Int.bmod_eq_of_le] <;> (have := v.le_toInt; omega)
  rw [h0]
  by_cases h1 : 0 < v.toInt
  · have e := hn (by omega)
    rw [if_pos h1]
    by_cases h2 : m.toInt < v.toInt
    · rw [if_pos h2, if_neg (by omega)]; exact ⟨rfl, by omega⟩
    · rw [if_neg h2, e, if_neg (by omega)]
      by_cases h3 : v.toInt < m.toInt
      · rw [if_pos h3]; exact ⟨rfl, by omega⟩
      · rw [if_neg h3]
        have : m = v := Int64.toInt_inj.mp (by omega)
        exact ⟨this, by omega⟩
  · rw [if_neg h1]
    rw [if_neg (show ¬ m.toInt < v.toInt by omega)]
    by_cases h2 : m.toInt < (-v).toInt
    · rw [if_pos h2, if_neg (by omega)]; exact ⟨rfl, by omega⟩
    · rw [if_neg h2]
      by_cases h3 : (-v).toInt < m.toInt
      · rw [if_pos h3]; exact ⟨rfl, by omega⟩
      · rw [if_neg h3]
        have : m = -v := Int64.toInt_inj.mp (by omega)
        exact ⟨this, by omega⟩
theorem clampI_eq (x : Int32) : (if x.toInt < 1 then (1 : Int32) else if 255 < x.toInt then 255 else x) = clampV x.toInt64 1 255 := by
  unfold clampV
  have h1 : x.toInt64.toInt = x.toInt := Int32.toInt_toInt64 x
  have h2 : ((1 : Int32).toInt64).toInt = 1 := by decide +kernel
  have h3 : ((255 : Int32).toInt64).toInt = 255 := by decide +kernel
  rw [h1, h2, h3, Int32.toInt32_toInt64]
end
section
theorem cx_nz {nn sp : Nat} (h0 : nn ≤ 8) (h1 : (nn = 1 ∧ sp = 8) ∨ (nn = 2 ∧ sp = 4) ∨ (nn = 4 ∧ sp = 2) ∨ (nn = 8 ∧ sp = 1)) : ¬ nI nn = 0 := nI_ne0 (by omega) (by omega)
theorem cx_spl {nn sp : Nat} (h1 : (nn = 1 ∧ sp = 8) ∨ (nn = 2 ∧ sp = 4) ∨ (nn = 4 ∧ sp = 2) ∨ (nn = 8 ∧ sp = 1)) : sp ≤ 8 := by omega
theorem cx_8n {nn sp : Nat} (h0 : nn ≤ 8) (h1 : (nn = 1 ∧ sp = 8) ∨ (nn = 2 ∧ sp = 4) ∨ (nn = 4 ∧ sp = 2) ∨ (nn = 8 ∧ sp = 1)) : (8 : Int32) / nI nn = nI sp := by
  rcases h1 with ⟨rfl, rfl⟩ | ⟨rfl, rfl⟩ | ⟨rfl, rfl⟩ | ⟨rfl, rfl⟩ <;> decide +kernel
theorem szOk_cases {q : Int32} (h : szOk q) : ∃ nn sp : Nat, q = nI nn ∧ ((nn = 1 ∧ sp = 8) ∨ (nn = 2 ∧ sp = 4) ∨ (nn = 4 ∧ sp = 2) ∨ (nn = 8 ∧ sp = 1)) := by
  rcases h with h | h | h | h
  · exact ⟨1, 8, Int32.toInt_inj.mp (h.trans (by decide +kernel)), by omega⟩
  · exact ⟨2, 4, Int32.toInt_inj.mp (h.trans (by decide +kernel)), by omega⟩
  · exact ⟨4, 2, Int32.toInt_inj.mp (h.trans (by decide +kernel)), by omega⟩
  · exact ⟨8, 1, Int32.toInt_inj.mp (h.trans (by decide +kernel)), by omega⟩
theorem dX1_isPlace_0 : decode cX1_isPlace 0 = .ok (.iload_n 0, 1) := by decide +kernel
theorem dX1_isPlace_1 : decode cX1_isPlace 1 = .ok (.ifCond .lt 13, 3) := by decide +kernel
theorem dX1_isPlace_4 : decode cX1_isPlace 4 = .ok (.iload_n 0, 1) := by decide +kernel
theorem dX1_isPlace_5 : decode cX1_isPlace 5 = .ok (.bipush 64, 2) := by decide +kernel
theorem dX1_isPlace_7 : decode cX1_isPlace 7 = .ok (.if_icmp .ge 7, 3) := by decide +kernel
theorem dX1_isPlace_10 : decode cX1_isPlace 10 = .ok (.iconst 1, 1) := by decide +kernel
theorem dX1_isPlace_11 : decode cX1_isPlace 11 = .ok (.goto 4, 3) := by decide +kernel
theorem dX1_isPlace_14 : decode cX1_isPlace 14 = .ok (.iconst 0, 1) := by decide +kernel
theorem dX1_isPlace_15 : decode cX1_isPlace 15 = .ok (.ireturn, 1) := by decide +kernel
theorem dX1_isSize_0 : decode cX1_isSize 0 = .ok (.iload_n 0, 1) := by decide +kernel
theorem dX1_isSize_1 : decode cX1_isSize 1 = .ok (.iconst 1, 1) := by decide +kernel
theorem dX1_isSize_2 : decode cX1_isSize 2 = .ok (.if_icmp .eq 19, 3) := by decide +kernel
theorem dX1_isSize_5 : decode cX1_isSize 5 = .ok (.iload_n 0, 1) := by decide +kernel
theorem dX1_isSize_6 : decode cX1_isSize 6 = .ok (.iconst 2, 1) := by decide +kernel
theorem dX1_isSize_7 : decode cX1_isSize 7 = .ok (.if_icmp .eq 14, 3) := by decide +kernel
theorem dX1_isSize_10 : decode cX1_isSize 10 = .ok (.iload_n 0, 1) := by decide +kernel
theorem dX1_isSize_11 : decode cX1_isSize 11 = .ok (.iconst 4, 1) := by decide +kernel
theorem dX1_isSize_12 : decode cX1_isSize 12 = .ok (.if_icmp .eq 9, 3) := by decide +kernel
theorem dX1_isSize_15 : decode cX1_isSize 15 = .ok (.iload_n 0, 1) := by decide +kernel
theorem dX1_isSize_16 : decode cX1_isSize 16 = .ok (.bipush 8, 2) := by decide +kernel
theorem dX1_isSize_18 : decode cX1_isSize 18 = .ok (.if_icmp .ne 7, 3) := by decide +kernel
theorem dX1_isSize_21 : decode cX1_isSize 21 = .ok (.iconst 1, 1) := by decide +kernel
theorem dX1_isSize_22 : decode cX1_isSize 22 = .ok (.goto 4, 3) := by decide +kernel
theorem dX1_isSize_25 : decode cX1_isSize 25 = .ok (.iconst 0, 1) := by decide +kernel
theorem dX1_isSize_26 : decode cX1_isSize 26 = .ok (.ireturn, 1) := by decide +kernel
theorem dX1_k_0 : decode cX1_k 0 = .ok (.iload_n 0, 1) := by decide +kernel
theorem dX1_k_1 : decode cX1_k 1 = .ok (.tableswitch 79 0 7 #[47, 51, 55, 59, 63, 67, 71, 75], 47) := by decide +kernel
theorem dX1_k_48 : decode cX1_k 48 = .ok (.sipush 8192, 3) := by decide +kernel
theorem dX1_k_51 : decode cX1_k 51 = .ok (.ireturn, 1) := by decide +kernel
theorem dX1_k_52 : decode cX1_k 52 = .ok (.sipush 8035, 3) := by decide +kernel
theorem dX1_k_55 : decode cX1_k 55 = .ok (.ireturn, 1) := by decide +kernel
theorem dX1_k_56 : decode cX1_k 56 = .ok (.sipush 7568, 3) := by decide +kernel
theorem dX1_k_59 : decode cX1_k 59 = .ok (.ireturn, 1) := by decide +kernel
theorem dX1_k_60 : decode cX1_k 60 = .ok (.sipush 6811, 3) := by decide +kernel
theorem dX1_k_63 : decode cX1_k 63 = .ok (.ireturn, 1) := by decide +kernel
theorem dX1_k_64 : decode cX1_k 64 = .ok (.sipush 5793, 3) := by decide +kernel
theorem dX1_k_67 : decode cX1_k 67 = .ok (.ireturn, 1) := by decide +kernel
theorem dX1_k_68 : decode cX1_k 68 = .ok (.sipush 4551, 3) := by decide +kernel
theorem dX1_k_71 : decode cX1_k 71 = .ok (.ireturn, 1) := by decide +kernel
theorem dX1_k_72 : decode cX1_k 72 = .ok (.sipush 3135, 3) := by decide +kernel
theorem dX1_k_75 : decode cX1_k 75 = .ok (.ireturn, 1) := by decide +kernel
theorem dX1_k_76 : decode cX1_k 76 = .ok (.sipush 1598, 3) := by decide +kernel
theorem dX1_k_79 : decode cX1_k 79 = .ok (.ireturn, 1) := by decide +kernel
theorem dX1_k_80 : decode cX1_k 80 = .ok (.iconst 0, 1) := by decide +kernel
theorem dX1_k_81 : decode cX1_k 81 = .ok (.ireturn, 1) := by decide +kernel
theorem dX1_waveOf_0 : decode cX1_waveOf 0 = .ok (.iconst 2, 1) := by decide +kernel
theorem dX1_waveOf_1 : decode cX1_waveOf 1 = .ok (.iload_n 2, 1) := by decide +kernel
theorem dX1_waveOf_2 : decode cX1_waveOf 2 = .ok (.imul, 1) := by decide +kernel
theorem dX1_waveOf_3 : decode cX1_waveOf 3 = .ok (.iconst 1, 1) := by decide +kernel
theorem dX1_waveOf_4 : decode cX1_waveOf 4 = .ok (.iadd, 1) := by decide +kernel
theorem dX1_waveOf_5 : decode cX1_waveOf 5 = .ok (.iload_n 1, 1) := by decide +kernel
theorem dX1_waveOf_6 : decode cX1_waveOf 6 = .ok (.imul, 1) := by decide +kernel
theorem dX1_waveOf_7 : decode cX1_waveOf 7 = .ok (.bipush 8, 2) := by decide +kernel
theorem dX1_waveOf_9 : decode cX1_waveOf 9 = .ok (.iload_n 0, 1) := by decide +kernel
theorem dX1_waveOf_10 : decode cX1_waveOf 10 = .ok (.idiv, 1) := by decide +kernel
theorem dX1_waveOf_11 : decode cX1_waveOf 11 = .ok (.imul, 1) := by decide +kernel
theorem dX1_waveOf_12 : decode cX1_waveOf 12 = .ok (.bipush 32, 2) := by decide +kernel
theorem dX1_waveOf_14 : decode cX1_waveOf 14 = .ok (.irem, 1) := by decide +kernel
theorem dX1_waveOf_15 : decode cX1_waveOf 15 = .ok (.istore_n 3, 1) := by decide +kernel
theorem dX1_waveOf_16 : decode cX1_waveOf 16 = .ok (.iload_n 1, 1) := by decide +kernel
theorem dX1_waveOf_17 : decode cX1_waveOf 17 = .ok (.ifCond .ne 10, 3) := by decide +kernel
theorem dX1_waveOf_20 : decode cX1_waveOf 20 = .ok (.iconst 4, 1) := by decide +kernel
theorem dX1_waveOf_21 : decode cX1_waveOf 21 = .ok (.invokestatic 36, 3) := by decide +kernel
theorem dX1_waveOf_24 : decode cX1_waveOf 24 = .ok (.goto 57, 3) := by decide +kernel
theorem dX1_waveOf_27 : decode cX1_waveOf 27 = .ok (.iload_n 3, 1) := by decide +kernel
theorem dX1_waveOf_28 : decode cX1_waveOf 28 = .ok (.bipush 9, 2) := by decide +kernel
theorem dX1_waveOf_30 : decode cX1_waveOf 30 = .ok (.if_icmp .ge 10, 3) := by decide +kernel
theorem dX1_waveOf_33 : decode cX1_waveOf 33 = .ok (.iload_n 3, 1) := by decide +kernel
theorem dX1_waveOf_34 : decode cX1_waveOf 34 = .ok (.invokestatic 36, 3) := by decide +kernel
theorem dX1_waveOf_37 : decode cX1_waveOf 37 = .ok (.goto 44, 3) := by decide +kernel
theorem dX1_waveOf_40 : decode cX1_waveOf 40 = .ok (.iload_n 3, 1) := by decide +kernel
theorem dX1_waveOf_41 : decode cX1_waveOf 41 = .ok (.bipush 17, 2) := by decide +kernel
theorem dX1_waveOf_43 : decode cX1_waveOf 43 = .ok (.if_icmp .ge 14, 3) := by decide +kernel
theorem dX1_waveOf_46 : decode cX1_waveOf 46 = .ok (.bipush 16, 2) := by decide +kernel
theorem dX1_waveOf_48 : decode cX1_waveOf 48 = .ok (.iload_n 3, 1) := by decide +kernel
theorem dX1_waveOf_49 : decode cX1_waveOf 49 = .ok (.isub, 1) := by decide +kernel
theorem dX1_waveOf_50 : decode cX1_waveOf 50 = .ok (.invokestatic 36, 3) := by decide +kernel
theorem dX1_waveOf_53 : decode cX1_waveOf 53 = .ok (.ineg, 1) := by decide +kernel
theorem dX1_waveOf_54 : decode cX1_waveOf 54 = .ok (.goto 27, 3) := by decide +kernel
theorem dX1_waveOf_57 : decode cX1_waveOf 57 = .ok (.iload_n 3, 1) := by decide +kernel
theorem dX1_waveOf_58 : decode cX1_waveOf 58 = .ok (.bipush 25, 2) := by decide +kernel
theorem dX1_waveOf_60 : decode cX1_waveOf 60 = .ok (.if_icmp .ge 14, 3) := by decide +kernel
theorem dX1_waveOf_63 : decode cX1_waveOf 63 = .ok (.iload_n 3, 1) := by decide +kernel
theorem dX1_waveOf_64 : decode cX1_waveOf 64 = .ok (.bipush 16, 2) := by decide +kernel
theorem dX1_waveOf_66 : decode cX1_waveOf 66 = .ok (.isub, 1) := by decide +kernel
theorem dX1_waveOf_67 : decode cX1_waveOf 67 = .ok (.invokestatic 36, 3) := by decide +kernel
theorem dX1_waveOf_70 : decode cX1_waveOf 70 = .ok (.ineg, 1) := by decide +kernel
theorem dX1_waveOf_71 : decode cX1_waveOf 71 = .ok (.goto 10, 3) := by decide +kernel
theorem dX1_waveOf_74 : decode cX1_waveOf 74 = .ok (.bipush 32, 2) := by decide +kernel
theorem dX1_waveOf_76 : decode cX1_waveOf 76 = .ok (.iload_n 3, 1) := by decide +kernel
theorem dX1_waveOf_77 : decode cX1_waveOf 77 = .ok (.isub, 1) := by decide +kernel
theorem dX1_waveOf_78 : decode cX1_waveOf 78 = .ok (.invokestatic 36, 3) := by decide +kernel
theorem dX1_waveOf_81 : decode cX1_waveOf 81 = .ok (.ireturn, 1) := by decide +kernel
theorem dX1_round_0 : decode cX1_round 0 = .ok (.lload_n 0, 1) := by decide +kernel
theorem dX1_round_1 : decode cX1_round 1 = .ok (.lconst 1, 1) := by decide +kernel
theorem dX1_round_2 : decode cX1_round 2 = .ok (.iload_n 2, 1) := by decide +kernel
theorem dX1_round_3 : decode cX1_round 3 = .ok (.iconst 1, 1) := by decide +kernel
theorem dX1_round_4 : decode cX1_round 4 = .ok (.isub, 1) := by decide +kernel
theorem dX1_round_5 : decode cX1_round 5 = .ok (.lshl, 1) := by decide +kernel
theorem dX1_round_6 : decode cX1_round 6 = .ok (.ladd, 1) := by decide +kernel
theorem dX1_round_7 : decode cX1_round 7 = .ok (.iload_n 2, 1) := by decide +kernel
theorem dX1_round_8 : decode cX1_round 8 = .ok (.lshr, 1) := by decide +kernel
theorem dX1_round_9 : decode cX1_round 9 = .ok (.lreturn, 1) := by decide +kernel
theorem dX1_thrown_0 : decode cX1_thrown 0 = .ok (.aload_n 0, 1) := by decide +kernel
theorem dX1_thrown_1 : decode cX1_thrown 1 = .ok (.getfield 32, 3) := by decide +kernel
theorem dX1_thrown_4 : decode cX1_thrown 4 = .ok (.ireturn, 1) := by decide +kernel
theorem dX1_orderOf_0 : decode cX1_orderOf 0 = .ok (.iconst (-1), 1) := by decide +kernel
theorem dX1_orderOf_1 : decode cX1_orderOf 1 = .ok (.istore_n 3, 1) := by decide +kernel
theorem dX1_orderOf_2 : decode cX1_orderOf 2 = .ok (.iconst 0, 1) := by decide +kernel
theorem dX1_orderOf_3 : decode cX1_orderOf 3 = .ok (.istore 4, 2) := by decide +kernel
theorem dX1_orderOf_5 : decode cX1_orderOf 5 = .ok (.iload 4, 2) := by decide +kernel
theorem dX1_orderOf_7 : decode cX1_orderOf 7 = .ok (.bipush 64, 2) := by decide +kernel
theorem dX1_orderOf_9 : decode cX1_orderOf 9 = .ok (.if_icmp .ge 38, 3) := by decide +kernel
theorem dX1_orderOf_12 : decode cX1_orderOf 12 = .ok (.aload_n 0, 1) := by decide +kernel
theorem dX1_orderOf_13 : decode cX1_orderOf 13 = .ok (.getfield 22, 3) := by decide +kernel
theorem dX1_orderOf_16 : decode cX1_orderOf 16 = .ok (.iload 4, 2) := by decide +kernel
theorem dX1_orderOf_18 : decode cX1_orderOf 18 = .ok (.iaload, 1) := by decide +kernel
theorem dX1_orderOf_19 : decode cX1_orderOf 19 = .ok (.iload_n 1, 1) := by decide +kernel
theorem dX1_orderOf_20 : decode cX1_orderOf 20 = .ok (.if_icmp .ne 19, 3) := by decide +kernel
theorem dX1_orderOf_23 : decode cX1_orderOf 23 = .ok (.aload_n 0, 1) := by decide +kernel
theorem dX1_orderOf_24 : decode cX1_orderOf 24 = .ok (.getfield 25, 3) := by decide +kernel
theorem dX1_orderOf_27 : decode cX1_orderOf 27 = .ok (.iload 4, 2) := by decide +kernel
theorem dX1_orderOf_29 : decode cX1_orderOf 29 = .ok (.iaload, 1) := by decide +kernel
theorem dX1_orderOf_30 : decode cX1_orderOf 30 = .ok (.iload_n 2, 1) := by decide +kernel
theorem dX1_orderOf_31 : decode cX1_orderOf 31 = .ok (.if_icmp .ne 8, 3) := by decide +kernel
theorem dX1_orderOf_34 : decode cX1_orderOf 34 = .ok (.iload 4, 2) := by decide +kernel
theorem dX1_orderOf_36 : decode cX1_orderOf 36 = .ok (.goto 4, 3) := by decide +kernel
theorem dX1_orderOf_39 : decode cX1_orderOf 39 = .ok (.iload_n 3, 1) := by decide +kernel
theorem dX1_orderOf_40 : decode cX1_orderOf 40 = .ok (.istore_n 3, 1) := by decide +kernel
theorem dX1_orderOf_41 : decode cX1_orderOf 41 = .ok (.iinc 4 1, 3) := by decide +kernel
theorem dX1_orderOf_44 : decode cX1_orderOf 44 = .ok (.goto (-39), 3) := by decide +kernel
theorem dX1_orderOf_47 : decode cX1_orderOf 47 = .ok (.iload_n 3, 1) := by decide +kernel
theorem dX1_orderOf_48 : decode cX1_orderOf 48 = .ok (.ireturn, 1) := by decide +kernel
theorem dX1_column_0 : decode cX1_column 0 = .ok (.lconst 0, 1) := by decide +kernel
theorem dX1_column_1 : decode cX1_column 1 = .ok (.lstore 4, 2) := by decide +kernel
theorem dX1_column_3 : decode cX1_column 3 = .ok (.iconst 0, 1) := by decide +kernel
theorem dX1_column_4 : decode cX1_column 4 = .ok (.istore 6, 2) := by decide +kernel
theorem dX1_column_6 : decode cX1_column 6 = .ok (.iload 6, 2) := by decide +kernel
theorem dX1_column_8 : decode cX1_column 8 = .ok (.iload_n 1, 1) := by decide +kernel
theorem dX1_column_9 : decode cX1_column 9 = .ok (.if_icmp .ge 49, 3) := by decide +kernel
theorem dX1_column_12 : decode cX1_column 12 = .ok (.aload_n 0, 1) := by decide +kernel
theorem dX1_column_13 : decode cX1_column 13 = .ok (.iload 6, 2) := by decide +kernel
theorem dX1_column_15 : decode cX1_column 15 = .ok (.iload_n 3, 1) := by decide +kernel
theorem dX1_column_16 : decode cX1_column 16 = .ok (.invokevirtual 46, 3) := by decide +kernel
theorem dX1_column_19 : decode cX1_column 19 = .ok (.istore 7, 2) := by decide +kernel
theorem dX1_column_21 : decode cX1_column 21 = .ok (.lload 4, 2) := by decide +kernel
theorem dX1_column_23 : decode cX1_column 23 = .ok (.iload_n 1, 1) := by decide +kernel
theorem dX1_column_24 : decode cX1_column 24 = .ok (.iload 6, 2) := by decide +kernel
theorem dX1_column_26 : decode cX1_column 26 = .ok (.iload_n 2, 1) := by decide +kernel
theorem dX1_column_27 : decode cX1_column 27 = .ok (.invokestatic 50, 3) := by decide +kernel
theorem dX1_column_30 : decode cX1_column 30 = .ok (.i2l, 1) := by decide +kernel
theorem dX1_column_31 : decode cX1_column 31 = .ok (.aload_n 0, 1) := by decide +kernel
theorem dX1_column_32 : decode cX1_column 32 = .ok (.getfield 7, 3) := by decide +kernel
theorem dX1_column_35 : decode cX1_column 35 = .ok (.iload 7, 2) := by decide +kernel
theorem dX1_column_37 : decode cX1_column 37 = .ok (.iaload, 1) := by decide +kernel
theorem dX1_column_38 : decode cX1_column 38 = .ok (.i2l, 1) := by decide +kernel
theorem dX1_column_39 : decode cX1_column 39 = .ok (.lmul, 1) := by decide +kernel
theorem dX1_column_40 : decode cX1_column 40 = .ok (.aload_n 0, 1) := by decide +kernel
theorem dX1_column_41 : decode cX1_column 41 = .ok (.getfield 13, 3) := by decide +kernel
theorem dX1_column_44 : decode cX1_column 44 = .ok (.iload 7, 2) := by decide +kernel
theorem dX1_column_46 : decode cX1_column 46 = .ok (.iaload, 1) := by decide +kernel
theorem dX1_column_47 : decode cX1_column 47 = .ok (.i2l, 1) := by decide +kernel
theorem dX1_column_48 : decode cX1_column 48 = .ok (.lmul, 1) := by decide +kernel
theorem dX1_column_49 : decode cX1_column 49 = .ok (.ladd, 1) := by decide +kernel
theorem dX1_column_50 : decode cX1_column 50 = .ok (.lstore 4, 2) := by decide +kernel
theorem dX1_column_52 : decode cX1_column 52 = .ok (.iinc 6 1, 3) := by decide +kernel
theorem dX1_column_55 : decode cX1_column 55 = .ok (.goto (-49), 3) := by decide +kernel
theorem dX1_column_58 : decode cX1_column 58 = .ok (.lload 4, 2) := by decide +kernel
theorem dX1_column_60 : decode cX1_column 60 = .ok (.bipush 11, 2) := by decide +kernel
theorem dX1_column_62 : decode cX1_column 62 = .ok (.invokestatic 54, 3) := by decide +kernel
theorem dX1_column_65 : decode cX1_column 65 = .ok (.lreturn, 1) := by decide +kernel
theorem dX1_exactOf_0 : decode cX1_exactOf 0 = .ok (.lconst 0, 1) := by decide +kernel
theorem dX1_exactOf_1 : decode cX1_exactOf 1 = .ok (.lstore_n 3, 1) := by decide +kernel
theorem dX1_exactOf_2 : decode cX1_exactOf 2 = .ok (.iconst 0, 1) := by decide +kernel
theorem dX1_exactOf_3 : decode cX1_exactOf 3 = .ok (.istore 5, 2) := by decide +kernel
theorem dX1_exactOf_5 : decode cX1_exactOf 5 = .ok (.iload 5, 2) := by decide +kernel
theorem dX1_exactOf_7 : decode cX1_exactOf 7 = .ok (.bipush 8, 2) := by decide +kernel
theorem dX1_exactOf_9 : decode cX1_exactOf 9 = .ok (.if_icmp .ge 81, 3) := by decide +kernel
theorem dX1_exactOf_12 : decode cX1_exactOf 12 = .ok (.lconst 0, 1) := by decide +kernel
theorem dX1_exactOf_13 : decode cX1_exactOf 13 = .ok (.lstore 6, 2) := by decide +kernel
theorem dX1_exactOf_15 : decode cX1_exactOf 15 = .ok (.iconst 0, 1) := by decide +kernel
theorem dX1_exactOf_16 : decode cX1_exactOf 16 = .ok (.istore 8, 2) := by decide +kernel
theorem dX1_exactOf_18 : decode cX1_exactOf 18 = .ok (.iload 8, 2) := by decide +kernel
theorem dX1_exactOf_20 : decode cX1_exactOf 20 = .ok (.bipush 8, 2) := by decide +kernel
theorem dX1_exactOf_22 : decode cX1_exactOf 22 = .ok (.if_icmp .ge 42, 3) := by decide +kernel
theorem dX1_exactOf_25 : decode cX1_exactOf 25 = .ok (.lload 6, 2) := by decide +kernel
theorem dX1_exactOf_27 : decode cX1_exactOf 27 = .ok (.bipush 8, 2) := by decide +kernel
theorem dX1_exactOf_29 : decode cX1_exactOf 29 = .ok (.iload_n 1, 1) := by decide +kernel
theorem dX1_exactOf_30 : decode cX1_exactOf 30 = .ok (.iload 8, 2) := by decide +kernel
theorem dX1_exactOf_32 : decode cX1_exactOf 32 = .ok (.invokestatic 50, 3) := by decide +kernel
theorem dX1_exactOf_35 : decode cX1_exactOf 35 = .ok (.i2l, 1) := by decide +kernel
theorem dX1_exactOf_36 : decode cX1_exactOf 36 = .ok (.aload_n 0, 1) := by decide +kernel
theorem dX1_exactOf_37 : decode cX1_exactOf 37 = .ok (.getfield 16, 3) := by decide +kernel
theorem dX1_exactOf_40 : decode cX1_exactOf 40 = .ok (.bipush 8, 2) := by decide +kernel
theorem dX1_exactOf_42 : decode cX1_exactOf 42 = .ok (.iload 8, 2) := by decide +kernel
theorem dX1_exactOf_44 : decode cX1_exactOf 44 = .ok (.imul, 1) := by decide +kernel
theorem dX1_exactOf_45 : decode cX1_exactOf 45 = .ok (.iload 5, 2) := by decide +kernel
theorem dX1_exactOf_47 : decode cX1_exactOf 47 = .ok (.iadd, 1) := by decide +kernel
theorem dX1_exactOf_48 : decode cX1_exactOf 48 = .ok (.iaload, 1) := by decide +kernel
theorem dX1_exactOf_49 : decode cX1_exactOf 49 = .ok (.sipush 128, 3) := by decide +kernel
theorem dX1_exactOf_52 : decode cX1_exactOf 52 = .ok (.isub, 1) := by decide +kernel
theorem dX1_exactOf_53 : decode cX1_exactOf 53 = .ok (.i2l, 1) := by decide +kernel
theorem dX1_exactOf_54 : decode cX1_exactOf 54 = .ok (.lmul, 1) := by decide +kernel
theorem dX1_exactOf_55 : decode cX1_exactOf 55 = .ok (.ladd, 1) := by decide +kernel
theorem dX1_exactOf_56 : decode cX1_exactOf 56 = .ok (.lstore 6, 2) := by decide +kernel
theorem dX1_exactOf_58 : decode cX1_exactOf 58 = .ok (.iinc 8 1, 3) := by decide +kernel
theorem dX1_exactOf_61 : decode cX1_exactOf 61 = .ok (.goto (-43), 3) := by decide +kernel
theorem dX1_exactOf_64 : decode cX1_exactOf 64 = .ok (.lload_n 3, 1) := by decide +kernel
theorem dX1_exactOf_65 : decode cX1_exactOf 65 = .ok (.bipush 8, 2) := by decide +kernel
theorem dX1_exactOf_67 : decode cX1_exactOf 67 = .ok (.iload_n 2, 1) := by decide +kernel
theorem dX1_exactOf_68 : decode cX1_exactOf 68 = .ok (.iload 5, 2) := by decide +kernel
theorem dX1_exactOf_70 : decode cX1_exactOf 70 = .ok (.invokestatic 50, 3) := by decide +kernel
theorem dX1_exactOf_73 : decode cX1_exactOf 73 = .ok (.i2l, 1) := by decide +kernel
theorem dX1_exactOf_74 : decode cX1_exactOf 74 = .ok (.lload 6, 2) := by decide +kernel
theorem dX1_exactOf_76 : decode cX1_exactOf 76 = .ok (.bipush 11, 2) := by decide +kernel
theorem dX1_exactOf_78 : decode cX1_exactOf 78 = .ok (.invokestatic 54, 3) := by decide +kernel
theorem dX1_exactOf_81 : decode cX1_exactOf 81 = .ok (.lmul, 1) := by decide +kernel
theorem dX1_exactOf_82 : decode cX1_exactOf 82 = .ok (.ladd, 1) := by decide +kernel
theorem dX1_exactOf_83 : decode cX1_exactOf 83 = .ok (.lstore_n 3, 1) := by decide +kernel
theorem dX1_exactOf_84 : decode cX1_exactOf 84 = .ok (.iinc 5 1, 3) := by decide +kernel
theorem dX1_exactOf_87 : decode cX1_exactOf 87 = .ok (.goto (-82), 3) := by decide +kernel
theorem dX1_exactOf_90 : decode cX1_exactOf 90 = .ok (.lload_n 3, 1) := by decide +kernel
theorem dX1_exactOf_91 : decode cX1_exactOf 91 = .ok (.bipush 17, 2) := by decide +kernel
theorem dX1_exactOf_93 : decode cX1_exactOf 93 = .ok (.invokestatic 54, 3) := by decide +kernel
theorem dX1_exactOf_96 : decode cX1_exactOf 96 = .ok (.lreturn, 1) := by decide +kernel
set_option maxHeartbeats 4000000 in
set_option maxRecDepth 100000 in
/-- the reference: isPlace -/
theorem n_isPlace (l : Launch) (D : va_G) (q : Int32) : Met l yX1_isPlace wsX1_isPlace ({ frames := 0, cells := 0, slots := 0, locals := 0 } : Room) (va_Pc [.int q] (cro D ([]) ([]))) (vp_Si (fun r => (r = 1 ∧ 0 ≤ q.toInt ∧ q.toInt < 64) ∨ (r = 0 ∧ ¬ (0 ≤ q.toInt ∧ q.toInt < 64)))) 0 0 (fun _ => False) := by
  refine Met.ofW (cc := cX1_isPlace) (maxL := 1) (ret := some .boolean) (by decide) rfl ?_
  intro p e s m args below meth c s₁ B hml hv
  obtain ⟨rfl, hP, hK, hTb⟩ := hv
  have hx := B.exec
  have hb := B.bytes
  have hr := B.returns
  have hts : ∀ w ∈ wA, w.before _ s = true := fun w h => atoms_spec (ws := wsX1_isPlace) B.pre w (List.mem_cons_of_mem _ h)
  have hown : s.vm.findClass RX1 = some m.cls := findClass_of_methodNamed B.named
  have hlocks := B.notSynchronized
  have hS : va_S (fun _ => False) s.heap s.heap [] := va_S.rf
  have hl := lv_entry ([.int q]) (n := 1) (Nat.le_of_ble_eq_true rfl)
  rw [lg_entry_eq]
  generalize (lg_sl ([.int q]) ++ List.replicate (1 - (lg_sl ([.int q])).length) Slot.unset).toArray = ls at hl ⊢
  have hl : lv_has ls 1 [(0, .int q)] := hl
  refine lv_iload_n hx hb dX1_isPlace_0 rfl (lv_at hl 0 rfl) ?_
  refine cx_if_lt (i := q.toInt) (j := 0) (tgt := 14) hx hb rfl rfl dX1_isPlace_1 (by decide) (fun c_1 => ?_) (fun c_1 => ?_)
  · refine lv_iconst (v := (0 : Int32)) hx hb dX1_isPlace_14 (by decide +kernel) ?_
    exact W.zret (v := (0 : Int32)) (ty := .boolean) hx hb hr (by decide) (fun t ht hW => ⟨_, rfl, Or.inr ⟨rfl, by omega⟩, ht⟩) (fun _ h9 => by cases h9) dX1_isPlace_15
  · refine lv_iload_n hx hb dX1_isPlace_4 rfl (lv_at hl 0 rfl) ?_
    refine lv_bipush (v := (64 : Int32)) hx hb dX1_isPlace_5 (by decide +kernel) ?_
    refine cx_icmp_ge (i := q.toInt) (j := 64) (tgt := 14) hx hb rfl (by decide +kernel) dX1_isPlace_7 (by decide) (fun c_2 => ?_) (fun c_2 => ?_)
    · refine lv_iconst (v := (0 : Int32)) hx hb dX1_isPlace_14 (by decide +kernel) ?_
      exact W.zret (v := (0 : Int32)) (ty := .boolean) hx hb hr (by decide) (fun t ht hW => ⟨_, rfl, Or.inr ⟨rfl, by omega⟩, ht⟩) (fun _ h9 => by cases h9) dX1_isPlace_15
    · refine lv_iconst (v := (1 : Int32)) hx hb dX1_isPlace_10 (by decide +kernel) ?_
      refine lv_goto (tgt := 15) hx hb dX1_isPlace_11 (by decide) ?_
      exact W.zret (v := (1 : Int32)) (ty := .boolean) hx hb hr (by decide) (fun t ht hW => ⟨_, rfl, Or.inl ⟨rfl, by omega, by omega⟩, ht⟩) (fun _ h9 => by cases h9) dX1_isPlace_15
set_option maxHeartbeats 4000000 in
set_option maxRecDepth 100000 in
/-- the reference: isSize -/
theorem n_isSize (l : Launch) (D : va_G) (q : Int32) : Met l yX1_isSize wsX1_isSize ({ frames := 0, cells := 0, slots := 0, locals := 0 } : Room) (va_Pc [.int q] (cro D ([]) ([]))) (vp_Si (fun r => (r = 1 ∧ szOk q) ∨ (r = 0 ∧ ¬ szOk q))) 0 0 (fun _ => False) := by
  refine Met.ofW (cc := cX1_isSize) (maxL := 1) (ret := some .boolean) (by decide) rfl ?_
  intro p e s m args below meth c s₁ B hml hv
  obtain ⟨rfl, hP, hK, hTb⟩ := hv
  have hx := B.exec
  have hb := B.bytes
  have hr := B.returns
  have hts : ∀ w ∈ wA, w.before _ s = true := fun w h => atoms_spec (ws := wsX1_isSize) B.pre w (List.mem_cons_of_mem _ h)
  have hown : s.vm.findClass RX1 = some m.cls := findClass_of_methodNamed B.named
  have hlocks := B.notSynchronized
  have hS : va_S (fun _ => False) s.heap s.heap [] := va_S.rf
  have hl := lv_entry ([.int q]) (n := 1) (Nat.le_of_ble_eq_true rfl)
  rw [lg_entry_eq]
  generalize (lg_sl ([.int q]) ++ List.replicate (1 - (lg_sl ([.int q])).length) Slot.unset).toArray = ls at hl ⊢
  have hl : lv_has ls 1 [(0, .int q)] := hl
  refine lv_iload_n hx hb dX1_isSize_0 rfl (lv_at hl 0 rfl) ?_
  refine lv_iconst (v := (1 : Int32)) hx hb dX1_isSize_1 (by decide +kernel) ?_
  refine cx_icmp_eq (i := q.toInt) (j := 1) (tgt := 21) hx hb rfl (by decide +kernel) dX1_isSize_2 (by decide) (fun c_1 => ?_) (fun c_1 => ?_)
  · refine lv_iconst (v := (1 : Int32)) hx hb dX1_isSize_21 (by decide +kernel) ?_
    refine lv_goto (tgt := 26) hx hb dX1_isSize_22 (by decide) ?_
    exact W.zret (v := (1 : Int32)) (ty := .boolean) hx hb hr (by decide) (fun t ht hW => ⟨_, rfl, Or.inl ⟨rfl, by unfold szOk; omega⟩, ht⟩) (fun _ h9 => by cases h9) dX1_isSize_26
  · refine lv_iload_n hx hb dX1_isSize_5 rfl (lv_at hl 0 rfl) ?_
    refine lv_iconst (v := (2 : Int32)) hx hb dX1_isSize_6 (by decide +kernel) ?_
    refine cx_icmp_eq (i := q.toInt) (j := 2) (tgt := 21) hx hb rfl (by decide +kernel) dX1_isSize_7 (by decide) (fun c_2 => ?_) (fun c_2 => ?_)
    · refine lv_iconst (v := (1 : Int32)) hx hb dX1_isSize_21 (by decide +kernel) ?_
      refine lv_goto (tgt := 26) hx hb dX1_isSize_22 (by decide) ?_
      exact W.zret (v := (1 : Int32)) (ty := .boolean) hx hb hr (by decide) (fun t ht hW => ⟨_, rfl, Or.inl ⟨rfl, by unfold szOk; omega⟩, ht⟩) (fun _ h9 => by cases h9) dX1_isSize_26
    · refine lv_iload_n hx hb dX1_isSize_10 rfl (lv_at hl 0 rfl) ?_
      refine lv_iconst (v := (4 : Int32)) hx hb dX1_isSize_11 (by decide +kernel) ?_
      refine cx_icmp_eq (i := q.toInt) (j := 4) (tgt := 21) hx hb rfl (by decide +kernel) dX1_isSize_12 (by decide) (fun c_3 => ?_) (fun c_3 => ?_)
      · refine lv_iconst (v := (1 : Int32)) hx hb dX1_isSize_21 (by decide +kernel) ?_
        refine lv_goto (tgt := 26) hx hb dX1_isSize_22 (by decide) ?_
        exact W.zret (v := (1 : Int32)) (ty := .boolean) hx hb hr (by decide) (fun t ht hW => ⟨_, rfl, Or.inl ⟨rfl, by unfold szOk; omega⟩, ht⟩) (fun _ h9 => by cases h9) dX1_isSize_26
      · refine lv_iload_n hx hb dX1_isSize_15 rfl (lv_at hl 0 rfl) ?_
        refine lv_bipush (v := (8 : Int32)) hx hb dX1_isSize_16 (by decide +kernel) ?_
        refine cx_icmp_ne (i := q.toInt) (j := 8) (tgt := 25) hx hb rfl (by decide +kernel) dX1_isSize_18 (by decide) (fun c_4 => ?_) (fun c_4 => ?_)
        · refine lv_iconst (v := (0 : Int32)) hx hb dX1_isSize_25 (by decide +kernel) ?_
          exact W.zret (v := (0 : Int32)) (ty := .boolean) hx hb hr (by decide) (fun t ht hW => ⟨_, rfl, Or.inr ⟨rfl, by unfold szOk; omega⟩, ht⟩) (fun _ h9 => by cases h9) dX1_isSize_26
        · refine lv_iconst (v := (1 : Int32)) hx hb dX1_isSize_21 (by decide +kernel) ?_
          refine lv_goto (tgt := 26) hx hb dX1_isSize_22 (by decide) ?_
          exact W.zret (v := (1 : Int32)) (ty := .boolean) hx hb hr (by decide) (fun t ht hW => ⟨_, rfl, Or.inl ⟨rfl, by unfold szOk; omega⟩, ht⟩) (fun _ h9 => by cases h9) dX1_isSize_26
set_option maxHeartbeats 4000000 in
set_option maxRecDepth 100000 in
/-- the reference: k -/
theorem n_k (l : Launch) (D : va_G) (j9 : Nat) (h1 : j9 ≤ 8) : Met l yX1_k wsX1_k ({ frames := 0, cells := 0, slots := 0, locals := 0 } : Room) (va_Pc [.int (nI j9)] (cro D ([]) ([]))) (vp_Si (fun r => r = cQ j9)) 0 0 (fun _ => False) := by
  refine Met.ofW (cc := cX1_k) (maxL := 1) (ret := some .int) (by decide) rfl ?_
  intro p e s m args below meth c s₁ B hml hv
  obtain ⟨rfl, hP, hK, hTb⟩ := hv
  have hx := B.exec
  have hb := B.bytes
  have hr := B.returns
  have hts : ∀ w ∈ wA, w.before _ s = true := fun w h => atoms_spec (ws := wsX1_k) B.pre w (List.mem_cons_of_mem _ h)
  have hown : s.vm.findClass RX1 = some m.cls := findClass_of_methodNamed B.named
  have hlocks := B.notSynchronized
  have hS : va_S (fun _ => False) s.heap s.heap [] := va_S.rf
  have hl := lv_entry ([.int (nI j9)]) (n := 1) (Nat.le_of_ble_eq_true rfl)
  rw [lg_entry_eq]
  generalize (lg_sl ([.int (nI j9)]) ++ List.replicate (1 - (lg_sl ([.int (nI j9)])).length) Slot.unset).toArray = ls at hl ⊢
  have hl : lv_has ls 1 [(0, .int (nI j9))] := hl
  refine lv_iload_n hx hb dX1_k_0 rfl (lv_at hl 0 rfl) ?_
  by_cases k_1 : ((j9 : Nat) : Int) < 0 ∨ 7 < ((j9 : Nat) : Int)
  · refine cx_tabO (i := ((j9 : Nat) : Int)) (tgt := 80) hx hb (nI_toInt (by omega)) dX1_k_1 k_1 (by decide) ?_
    refine lv_iconst (v := (0 : Int32)) hx hb dX1_k_80 (by decide +kernel) ?_
    exact W.iret (v := (0 : Int32)) hx hb hr (fun t ht hW => ⟨_, rfl, (by obtain rfl : j9 = 8 := (by omega); rfl), ht⟩) (fun _ h9 => by cases h9) dX1_k_81
  · have k_1 : ((j9 : Nat) : Int) = 0 ∨ ((j9 : Nat) : Int) = 1 ∨ ((j9 : Nat) : Int) = 2 ∨ ((j9 : Nat) : Int) = 3 ∨ ((j9 : Nat) : Int) = 4 ∨ ((j9 : Nat) : Int) = 5 ∨ ((j9 : Nat) : Int) = 6 ∨ ((j9 : Nat) : Int) = 7 := by omega
    rcases k_1 with k_1 | k_1 | k_1 | k_1 | k_1 | k_1 | k_1 | k_1
    · refine cx_tabI (i := ((j9 : Nat) : Int)) (off := 47) (tgt := 48) hx hb (nI_toInt (by omega)) dX1_k_1 (by omega) (by omega) (by rw [k_1]; rfl) (by decide) ?_
      refine lv_sipush (v := (8192 : Int32)) hx hb dX1_k_48 (by decide +kernel) ?_
      exact W.iret (v := (8192 : Int32)) hx hb hr (fun t ht hW => ⟨_, rfl, (by obtain rfl : j9 = 0 := (by omega); rfl), ht⟩) (fun _ h9 => by cases h9) dX1_k_51
    · refine cx_tabI (i := ((j9 : Nat) : Int)) (off := 51) (tgt := 52) hx hb (nI_toInt (by omega)) dX1_k_1 (by omega) (by omega) (by rw [k_1]; rfl) (by decide) ?_
      refine lv_sipush (v := (8035 : Int32)) hx hb dX1_k_52 (by decide +kernel) ?_
      exact W.iret (v := (8035 : Int32)) hx hb hr (fun t ht hW => ⟨_, rfl, (by obtain rfl : j9 = 1 := (by omega); rfl), ht⟩) (fun _ h9 => by cases h9) dX1_k_55
    · refine cx_tabI (i := ((j9 : Nat) : Int)) (off := 55) (tgt := 56) hx hb (nI_toInt (by omega)) dX1_k_1 (by omega) (by omega) (by rw [k_1]; rfl) (by decide) ?_
      refine lv_sipush (v := (7568 : Int32)) hx hb dX1_k_56 (by decide +kernel) ?_
      exact W.iret (v := (7568 : Int32)) hx hb hr (fun t ht hW => ⟨_, rfl, (by obtain rfl : j9 = 2 := (by omega); rfl), ht⟩) (fun _ h9 => by cases h9) dX1_k_59
    · refine cx_tabI (i := ((j9 : Nat) : Int)) (off := 59) (tgt := 60) hx hb (nI_toInt (by omega)) dX1_k_1 (by omega) (by omega) (by rw [k_1]; rfl) (by decide) ?_
      refine lv_sipush (v := (6811 : Int32)) hx hb dX1_k_60 (by decide +kernel) ?_
      exact W.iret (v := (6811 : Int32)) hx hb hr (fun t ht hW => ⟨_, rfl, (by obtain rfl : j9 = 3 := (by omega); rfl), ht⟩) (fun _ h9 => by cases h9) dX1_k_63
    · refine cx_tabI (i := ((j9 : Nat) : Int)) (off := 63) (tgt := 64) hx hb (nI_toInt (by omega)) dX1_k_1 (by omega) (by omega) (by rw [k_1]; rfl) (by decide) ?_
      refine lv_sipush (v := (5793 : Int32)) hx hb dX1_k_64 (by decide +kernel) ?_
      exact W.iret (v := (5793 : Int32)) hx hb hr (fun t ht hW => ⟨_, rfl, (by obtain rfl : j9 = 4 := (by omega); rfl), ht⟩) (fun _ h9 => by cases h9) dX1_k_67
    · refine cx_tabI (i := ((j9 : Nat) : Int)) (off := 67) (tgt := 68) hx hb (nI_toInt (by omega)) dX1_k_1 (by omega) (by omega) (by rw [k_1]; rfl) (by decide) ?_
      refine lv_sipush (v := (4551 : Int32)) hx hb dX1_k_68 (by decide +kernel) ?_
      exact W.iret (v := (4551 : Int32)) hx hb hr (fun t ht hW => ⟨_, rfl, (by obtain rfl : j9 = 5 := (by omega); rfl), ht⟩) (fun _ h9 => by cases h9) dX1_k_71
    · refine cx_tabI (i := ((j9 : Nat) : Int)) (off := 71) (tgt := 72) hx hb (nI_toInt (by omega)) dX1_k_1 (by omega) (by omega) (by rw [k_1]; rfl) (by decide) ?_
      refine lv_sipush (v := (3135 : Int32)) hx hb dX1_k_72 (by decide +kernel) ?_
      exact W.iret (v := (3135 : Int32)) hx hb hr (fun t ht hW => ⟨_, rfl, (by obtain rfl : j9 = 6 := (by omega); rfl), ht⟩) (fun _ h9 => by cases h9) dX1_k_75
    · refine cx_tabI (i := ((j9 : Nat) : Int)) (off := 75) (tgt := 76) hx hb (nI_toInt (by omega)) dX1_k_1 (by omega) (by omega) (by rw [k_1]; rfl) (by decide) ?_
      refine lv_sipush (v := (1598 : Int32)) hx hb dX1_k_76 (by decide +kernel) ?_
      exact W.iret (v := (1598 : Int32)) hx hb hr (fun t ht hW => ⟨_, rfl, (by obtain rfl : j9 = 7 := (by omega); rfl), ht⟩) (fun _ h9 => by cases h9) dX1_k_79
set_option maxHeartbeats 4000000 in
set_option maxRecDepth 100000 in
/-- the reference: waveOf -/
theorem n_waveOf (l : Launch) (D : va_G) (nn sp u9 x9 : Nat) (h0 : nn ≤ 8) (h1 : (nn = 1 ∧ sp = 8) ∨ (nn = 2 ∧ sp = 4) ∨ (nn = 4 ∧ sp = 2) ∨ (nn = 8 ∧ sp = 1)) (h2 : u9 < 8) (h3 : x9 < 8) : Met l yX1_waveOf wsX1_waveOf ({ frames := 1, cells := 0, slots := 0, locals := 20 } : Room) (va_Pc [.int (nI nn), .int (nI u9), .int (nI x9)] (cro D ([]) ([]))) (vp_Si (fun r => r = wvN sp u9 x9)) 0 0 (fun _ => False) := by
  refine Met.ofW (cc := cX1_waveOf) (maxL := 4) (ret := some .int) (by decide) rfl ?_
  intro p e s m args below meth c s₁ B hml hv
  obtain ⟨rfl, hP, hK, hTb⟩ := hv
  have hx := B.exec
  have hb := B.bytes
  have hr := B.returns
  have hts : ∀ w ∈ wA, w.before _ s = true := fun w h => atoms_spec (ws := wsX1_waveOf) B.pre w (List.mem_cons_of_mem _ h)
  have hown : s.vm.findClass RX1 = some m.cls := findClass_of_methodNamed B.named
  have hlocks := B.notSynchronized
  have hS : va_S (fun _ => False) s.heap s.heap [] := va_S.rf
  have hl := lv_entry ([.int (nI nn), .int (nI u9), .int (nI x9)]) (n := 4) (Nat.le_of_ble_eq_true rfl)
  rw [lg_entry_eq]
  generalize (lg_sl ([.int (nI nn), .int (nI u9), .int (nI x9)]) ++ List.replicate (4 - (lg_sl ([.int (nI nn), .int (nI u9), .int (nI x9)])).length) Slot.unset).toArray = ls at hl ⊢
  have hl : lv_has ls 4 [(0, .int (nI nn)), (1, .int (nI u9)), (2, .int (nI x9))] := hl
  refine lv_iconst (v := (2 : Int32)) hx hb dX1_waveOf_0 (by decide +kernel) ?_
  refine lv_iload_n hx hb dX1_waveOf_1 rfl (lv_at hl 2 rfl) ?_
  refine cx_imul hx hb 2 x9 dX1_waveOf_2 ?_
  refine lv_iconst (v := (1 : Int32)) hx hb dX1_waveOf_3 (by decide +kernel) ?_
  refine cx_iadd hx hb (2 * x9) 1 dX1_waveOf_4 ?_
  refine lv_iload_n hx hb dX1_waveOf_5 rfl (lv_at hl 1 rfl) ?_
  refine cx_imul hx hb (2 * x9 + 1) u9 dX1_waveOf_6 ?_
  refine lv_bipush (v := (8 : Int32)) hx hb dX1_waveOf_7 (by decide +kernel) ?_
  refine lv_iload_n hx hb dX1_waveOf_9 rfl (lv_at hl 0 rfl) ?_
  refine lv_idiv hx hb dX1_waveOf_10 (cx_nz h0 h1) ?_
  have e_1 : (8 : Int32) / (nI nn) = nI sp := cx_8n h0 h1
  rw [e_1]
  refine cx_imul hx hb ((2 * x9 + 1) * u9) sp dX1_waveOf_11 ?_
  refine lv_bipush (v := (32 : Int32)) hx hb dX1_waveOf_12 (by decide +kernel) ?_
  refine lv_irem hx hb dX1_waveOf_14 (by decide +kernel) ?_
  have e_2 : (nI (((2 * x9 + 1) * u9) * sp)) - (nI (((2 * x9 + 1) * u9) * sp)) / (32 : Int32) * (32 : Int32) = nI ((2 * x9 + 1) * u9 * sp % 32) := pk_rem (Nat.lt_of_le_of_lt (Nat.mul_le_mul (Nat.mul_le_mul (show 2 * x9 + 1 ≤ 15 by omega) (show u9 ≤ 7 by omega)) (cx_spl h1)) (by decide)) (by decide) (by decide)
  rw [e_2]
  refine lv_istore_n (lv' := [(3, .int (nI ((2 * x9 + 1) * u9 * sp % 32))), (0, .int (nI nn)), (1, .int (nI u9)), (2, .int (nI x9))]) hx hb dX1_waveOf_15 rfl hl (by decide) rfl (fun ls hl => ?_)
  refine lv_iload_n hx hb dX1_waveOf_16 rfl (lv_at hl 2 rfl) ?_
  refine cx_if_ne (i := ((u9 : Nat) : Int)) (j := 0) (tgt := 27) hx hb (nI_toInt (by omega)) rfl dX1_waveOf_17 (by decide) (fun c_3 => ?_) (fun c_3 => ?_)
  · refine lv_iload_n hx hb dX1_waveOf_27 rfl (lv_at hl 0 rfl) ?_
    refine lv_bipush (v := (9 : Int32)) hx hb dX1_waveOf_28 (by decide +kernel) ?_
    refine cx_icmp_ge (i := (((2 * x9 + 1) * u9 * sp % 32 : Nat) : Int)) (j := 9) (tgt := 40) hx hb (nI_toInt (by omega)) (by decide +kernel) dX1_waveOf_30 (by decide) (fun c_4 => ?_) (fun c_4 => ?_)
    · refine lv_iload_n hx hb dX1_waveOf_40 rfl (lv_at hl 0 rfl) ?_
      refine lv_bipush (v := (17 : Int32)) hx hb dX1_waveOf_41 (by decide +kernel) ?_
      refine cx_icmp_ge (i := (((2 * x9 + 1) * u9 * sp % 32 : Nat) : Int)) (j := 17) (tgt := 57) hx hb (nI_toInt (by omega)) (by decide +kernel) dX1_waveOf_43 (by decide) (fun c_5 => ?_) (fun c_5 => ?_)
      · refine lv_iload_n hx hb dX1_waveOf_57 rfl (lv_at hl 0 rfl) ?_
        refine lv_bipush (v := (25 : Int32)) hx hb dX1_waveOf_58 (by decide +kernel) ?_
        refine cx_icmp_ge (i := (((2 * x9 + 1) * u9 * sp % 32 : Nat) : Int)) (j := 25) (tgt := 74) hx hb (nI_toInt (by omega)) (by decide +kernel) dX1_waveOf_60 (by decide) (fun c_6 => ?_) (fun c_6 => ?_)
        · refine lv_bipush (v := (32 : Int32)) hx hb dX1_waveOf_74 (by decide +kernel) ?_
          refine lv_iload_n hx hb dX1_waveOf_76 rfl (lv_at hl 0 rfl) ?_
          refine cx_isub hx hb 32 ((2 * x9 + 1) * u9 * sp % 32) (by omega) dX1_waveOf_77 ?_
          refine vp_callSi (W.runS (As := [.int (nI (32 - ((2 * x9 + 1) * u9 * sp % 32)))]) (rest := []) ⟨hx, hb, hml, hown, hts⟩ (n_k l D (32 - ((2 * x9 + 1) * u9 * sp % 32)) (by omega)) (va_cwS 1 hts (gw_S wm_369 wm_370 wm_13 wm_371) rfl rfl rfl (by decide +kernel) ⟨Nat.le_of_ble_eq_true rfl, Nat.le_of_ble_eq_true rfl⟩) ⟨cro_blind, fun U hU hW => ⟨rfl, cro_at (hP.sub (ws' := []) [] rfl) (hK.sub (tys' := []) [] rfl) hTb hS hU hW⟩⟩ rfl rfl hl.1 rfl (lv_room (Nat.le_of_ble_eq_true rfl)) dX1_waveOf_78 ⟨Nat.le_of_ble_eq_true rfl, Nat.le_of_ble_eq_true rfl⟩) (fun r_7 hr_7 => ?_)
          rw [hr_7]
          exact W.iret (v := cQ (32 - ((2 * x9 + 1) * u9 * sp % 32))) hx hb hr (fun t ht hW => ⟨_, rfl, (by unfold wvN cosN; rw [if_neg (by omega), if_neg (by omega), if_neg (by omega), if_neg (by omega)]), ht⟩) (fun _ h9 => by cases h9) dX1_waveOf_81
        · refine lv_iload_n hx hb dX1_waveOf_63 rfl (lv_at hl 0 rfl) ?_
          refine lv_bipush (v := (16 : Int32)) hx hb dX1_waveOf_64 (by decide +kernel) ?_
          refine cx_isub hx hb ((2 * x9 + 1) * u9 * sp % 32) 16 (by omega) dX1_waveOf_66 ?_
          refine vp_callSi (W.runS (As := [.int (nI (((2 * x9 + 1) * u9 * sp % 32) - 16))]) (rest := []) ⟨hx, hb, hml, hown, hts⟩ (n_k l D (((2 * x9 + 1) * u9 * sp % 32) - 16) (by omega)) (va_cwS 1 hts (gw_S wm_369 wm_370 wm_13 wm_371) rfl rfl rfl (by decide +kernel) ⟨Nat.le_of_ble_eq_true rfl, Nat.le_of_ble_eq_true rfl⟩) ⟨cro_blind, fun U hU hW => ⟨rfl, cro_at (hP.sub (ws' := []) [] rfl) (hK.sub (tys' := []) [] rfl) hTb hS hU hW⟩⟩ rfl rfl hl.1 rfl (lv_room (Nat.le_of_ble_eq_true rfl)) dX1_waveOf_67 ⟨Nat.le_of_ble_eq_true rfl, Nat.le_of_ble_eq_true rfl⟩) (fun r_8 hr_8 => ?_)
          rw [hr_8]
          refine lv_ineg hx hb dX1_waveOf_70 ?_
          refine lv_goto (tgt := 81) hx hb dX1_waveOf_71 (by decide) ?_
          exact W.iret (v := -(cQ (((2 * x9 + 1) * u9 * sp % 32) - 16))) hx hb hr (fun t ht hW => ⟨_, rfl, (by unfold wvN cosN; rw [if_neg (by omega), if_neg (by omega), if_neg (by omega), if_pos (by omega)]), ht⟩) (fun _ h9 => by cases h9) dX1_waveOf_81
      · refine lv_bipush (v := (16 : Int32)) hx hb dX1_waveOf_46 (by decide +kernel) ?_
        refine lv_iload_n hx hb dX1_waveOf_48 rfl (lv_at hl 0 rfl) ?_
        refine cx_isub hx hb 16 ((2 * x9 + 1) * u9 * sp % 32) (by omega) dX1_waveOf_49 ?_
        refine vp_callSi (W.runS (As := [.int (nI (16 - ((2 * x9 + 1) * u9 * sp % 32)))]) (rest := []) ⟨hx, hb, hml, hown, hts⟩ (n_k l D (16 - ((2 * x9 + 1) * u9 * sp % 32)) (by omega)) (va_cwS 1 hts (gw_S wm_369 wm_370 wm_13 wm_371) rfl rfl rfl (by decide +kernel) ⟨Nat.le_of_ble_eq_true rfl, Nat.le_of_ble_eq_true rfl⟩) ⟨cro_blind, fun U hU hW => ⟨rfl, cro_at (hP.sub (ws' := []) [] rfl) (hK.sub (tys' := []) [] rfl) hTb hS hU hW⟩⟩ rfl rfl hl.1 rfl (lv_room (Nat.le_of_ble_eq_true rfl)) dX1_waveOf_50 ⟨Nat.le_of_ble_eq_true rfl, Nat.le_of_ble_eq_true rfl⟩) (fun r_9 hr_9 => ?_)
        rw [hr_9]
        refine lv_ineg hx hb dX1_waveOf_53 ?_
        refine lv_goto (tgt := 81) hx hb dX1_waveOf_54 (by decide) ?_
        exact W.iret (v := -(cQ (16 - ((2 * x9 + 1) * u9 * sp % 32)))) hx hb hr (fun t ht hW => ⟨_, rfl, (by unfold wvN cosN; rw [if_neg (by omega), if_neg (by omega), if_pos (by omega)]), ht⟩) (fun _ h9 => by cases h9) dX1_waveOf_81
    · refine lv_iload_n hx hb dX1_waveOf_33 rfl (lv_at hl 0 rfl) ?_
      refine vp_callSi (W.runS (As := [.int (nI ((2 * x9 + 1) * u9 * sp % 32))]) (rest := []) ⟨hx, hb, hml, hown, hts⟩ (n_k l D ((2 * x9 + 1) * u9 * sp % 32) (by omega)) (va_cwS 1 hts (gw_S wm_369 wm_370 wm_13 wm_371) rfl rfl rfl (by decide +kernel) ⟨Nat.le_of_ble_eq_true rfl, Nat.le_of_ble_eq_true rfl⟩) ⟨cro_blind, fun U hU hW => ⟨rfl, cro_at (hP.sub (ws' := []) [] rfl) (hK.sub (tys' := []) [] rfl) hTb hS hU hW⟩⟩ rfl rfl hl.1 rfl (lv_room (Nat.le_of_ble_eq_true rfl)) dX1_waveOf_34 ⟨Nat.le_of_ble_eq_true rfl, Nat.le_of_ble_eq_true rfl⟩) (fun r_10 hr_10 => ?_)
      rw [hr_10]
      refine lv_goto (tgt := 81) hx hb dX1_waveOf_37 (by decide) ?_
      exact W.iret (v := cQ ((2 * x9 + 1) * u9 * sp % 32)) hx hb hr (fun t ht hW => ⟨_, rfl, (by unfold wvN cosN; rw [if_neg (by omega), if_pos (by omega)]), ht⟩) (fun _ h9 => by cases h9) dX1_waveOf_81
  · refine lv_iconst (v := (4 : Int32)) hx hb dX1_waveOf_20 (by decide +kernel) ?_
    refine vp_callSi (W.runS (As := [.int (4 : Int32)]) (rest := []) ⟨hx, hb, hml, hown, hts⟩ (n_k l D 4 (by omega)) (va_cwS 1 hts (gw_S wm_369 wm_370 wm_13 wm_371) rfl rfl rfl (by decide +kernel) ⟨Nat.le_of_ble_eq_true rfl, Nat.le_of_ble_eq_true rfl⟩) ⟨cro_blind, fun U hU hW => ⟨rfl, cro_at (hP.sub (ws' := []) [] rfl) (hK.sub (tys' := []) [] rfl) hTb hS hU hW⟩⟩ rfl rfl hl.1 rfl (lv_room (Nat.le_of_ble_eq_true rfl)) dX1_waveOf_21 ⟨Nat.le_of_ble_eq_true rfl, Nat.le_of_ble_eq_true rfl⟩) (fun r_11 hr_11 => ?_)
    rw [hr_11]
    refine lv_goto (tgt := 81) hx hb dX1_waveOf_24 (by decide) ?_
    exact W.iret (v := cQ 4) hx hb hr (fun t ht hW => ⟨_, rfl, (by unfold wvN; rw [if_pos (by omega)]), ht⟩) (fun _ h9 => by cases h9) dX1_waveOf_81
set_option maxHeartbeats 4000000 in
set_option maxRecDepth 100000 in
/-- the reference: round -/
theorem n_round (l : Launch) (D : va_G) (v9 : Int64) (sh : Int32) : Met l yX1_round wsX1_round ({ frames := 0, cells := 0, slots := 0, locals := 0 } : Room) (va_Pc [.long v9, .int sh] (cro D ([]) ([]))) (vp_Sl (fun r => r = rdL v9 sh)) 0 0 (fun _ => False) := by
  refine Met.ofW (cc := cX1_round) (maxL := 3) (ret := some .long) (by decide) rfl ?_
  intro p e s m args below meth c s₁ B hml hv
  obtain ⟨rfl, hP, hK, hTb⟩ := hv
  have hx := B.exec
  have hb := B.bytes
  have hr := B.returns
  have hts : ∀ w ∈ wA, w.before _ s = true := fun w h => atoms_spec (ws := wsX1_round) B.pre w (List.mem_cons_of_mem _ h)
  have hown : s.vm.findClass RX1 = some m.cls := findClass_of_methodNamed B.named
  have hlocks := B.notSynchronized
  have hS : va_S (fun _ => False) s.heap s.heap [] := va_S.rf
  have hl := lv_entry ([.long v9, .int sh]) (n := 3) (Nat.le_of_ble_eq_true rfl)
  rw [lg_entry_eq]
  generalize (lg_sl ([.long v9, .int sh]) ++ List.replicate (3 - (lg_sl ([.long v9, .int sh])).length) Slot.unset).toArray = ls at hl ⊢
  have hl : lv_has ls 3 [(0, .long v9), (2, .int sh)] := hl
  refine lv_lload_n hx hb dX1_round_0 rfl (lv_at hl 0 rfl) ?_
  refine lv_lconst (v := (1 : Int64)) hx hb dX1_round_1 (by decide +kernel) ?_
  refine lv_iload_n hx hb dX1_round_2 rfl (lv_at hl 1 rfl) ?_
  refine lv_iconst (v := (1 : Int32)) hx hb dX1_round_3 (by decide +kernel) ?_
  refine lv_isub hx hb dX1_round_4 ?_
  refine lv_lshl hx hb dX1_round_5 rfl ?_
  refine lv_ladd hx hb dX1_round_6 ?_
  refine lv_iload_n hx hb dX1_round_7 rfl (lv_at hl 1 rfl) ?_
  refine lv_lshr hx hb dX1_round_8 rfl ?_
  exact W.lret (v := (v9 + ((1 : Int64) <<< ((sh - (1 : Int32)).toInt64 &&& 63))) >>> (sh.toInt64 &&& 63)) hx hb hr (fun t ht hW => ⟨_, rfl, rfl, ht⟩) (fun _ h9 => by cases h9) dX1_round_9
set_option maxHeartbeats 4000000 in
set_option maxRecDepth 100000 in
/-- the reference: thrown -/
theorem n_thrown (l : Launch) (D : va_G) (y : Nat → Nat) (ce : Nat → ClassId) (th : Int32) (r0 r1 r2 r3 dn ac : Nat → Int32) (sm : Nat → Int64) : Met l yX1_thrown wsX1_thrown ({ frames := 0, cells := 0, slots := 0, locals := 0 } : Room) (va_Pc [.ref (y 0)] (cro D (mw y ce th r0 r1 r2 r3 dn ac sm) (mty ce))) (vp_Si (fun r => r = th)) 0 0 (fun _ => False) := by
  refine Met.ofW (cc := cX1_thrown) (maxL := 1) (ret := some .int) (by decide) rfl ?_
  intro p e s m args below meth c s₁ B hml hv
  obtain ⟨rfl, hP, hK, hTb⟩ := hv
  have hx := B.exec
  have hb := B.bytes
  have hr := B.returns
  have hts : ∀ w ∈ wA, w.before _ s = true := fun w h => atoms_spec (ws := wsX1_thrown) B.pre w (List.mem_cons_of_mem _ h)
  have hown : s.vm.findClass RX1 = some m.cls := findClass_of_methodNamed B.named
  have hlocks := B.notSynchronized
  have hS : va_S (fun _ => False) s.heap s.heap [] := va_S.rf
  have hin1 := inA1
  have hf32 := (hts _ wm_302)
  have hl := lv_entry ([.ref (y 0)]) (n := 1) (Nat.le_of_ble_eq_true rfl)
  rw [lg_entry_eq]
  generalize (lg_sl ([.ref (y 0)]) ++ List.replicate (1 - (lg_sl ([.ref (y 0)])).length) Slot.unset).toArray = ls at hl ⊢
  have hl : lv_has ls 1 [(0, .ref (y 0))] := hl
  refine lv_aload_n hx hb dX1_thrown_0 rfl (lv_at hl 0 rfl) ?_
  refine va_get (D := D) (ci := 1) (v := .int th) (C := RX1) (T := TX1) (N := 8) hx hb hts hin1 hown hK hP 0 rfl rfl 0 (by decide) hf32 (fun _ h9 => h9) rfl dX1_thrown_1 ?_
  exact W.iret (v := th) hx hb hr (fun t ht hW => ⟨_, rfl, rfl, ht⟩) (fun _ h9 => by cases h9) dX1_thrown_4
set_option maxHeartbeats 4000000 in
set_option maxRecDepth 100000 in
/-- the reference: orderOf -/
theorem n_orderOf (l : Launch) (D : va_G) (y : Nat → Nat) (ce : Nat → ClassId) (th : Int32) (r0 r1 r2 r3 dn ac : Nat → Int32) (sm : Nat → Int64) (hdn : dnOk dn ac) (a9 b9 : Int32) : Met l yX1_orderOf wsX1_orderOf ({ frames := 0, cells := 0, slots := 0, locals := 0 } : Room) (va_Pc [.ref (y 0), .int a9, .int b9] (cro D (mw y ce th r0 r1 r2 r3 dn ac sm) (mty ce))) (vp_Si (fun r => r = orderV a9 b9)) 0 0 (fun _ => False) := by
  refine Met.ofW (cc := cX1_orderOf) (maxL := 5) (ret := some .int) (by decide) rfl ?_
  intro p e s m args below meth c s₁ B hml hv
  obtain ⟨rfl, hP, hK, hTb⟩ := hv
  have hx := B.exec
  have hb := B.bytes
  have hr := B.returns
  have hts : ∀ w ∈ wA, w.before _ s = true := fun w h => atoms_spec (ws := wsX1_orderOf) B.pre w (List.mem_cons_of_mem _ h)
  have hown : s.vm.findClass RX1 = some m.cls := findClass_of_methodNamed B.named
  have hlocks := B.notSynchronized
  have hS : va_S (fun _ => False) s.heap s.heap [] := va_S.rf
  have hin1 := inA1
  have hf22 := (hts _ wm_307)
  have hf25 := (hts _ wm_308)
  have hl := lv_entry ([.ref (y 0), .int a9, .int b9]) (n := 5) (Nat.le_of_ble_eq_true rfl)
  rw [lg_entry_eq]
  generalize (lg_sl ([.ref (y 0), .int a9, .int b9]) ++ List.replicate (5 - (lg_sl ([.ref (y 0), .int a9, .int b9])).length) Slot.unset).toArray = ls at hl ⊢
  have hl : lv_has ls 5 [(0, .ref (y 0)), (1, .int a9), (2, .int b9)] := hl
  refine lv_iconst (v := (-1 : Int32)) hx hb dX1_orderOf_0 (by decide +kernel) ?_
  refine lv_istore_n (lv' := [(3, .int (-1 : Int32)), (0, .ref (y 0)), (1, .int a9), (2, .int b9)]) hx hb dX1_orderOf_1 rfl hl (by decide) rfl (fun ls hl => ?_)
  refine lv_iconst (v := (0 : Int32)) hx hb dX1_orderOf_2 (by decide +kernel) ?_
  refine lv_istore (lv' := [(4, .int (0 : Int32)), (3, .int (-1 : Int32)), (0, .ref (y 0)), (1, .int a9), (2, .int b9)]) hx hb dX1_orderOf_3 hl (by decide) rfl (fun ls hl => ?_)
  have L5 : ∀ (n : Nat) (k9 : Nat) (ls : Array Slot), (64 - k9) < n → (k9 ≤ 64) → lv_has ls 5 [(0, .ref (y 0)), (1, .int a9), (2, .int b9), (3, .int (ordR dn ac a9 b9 k9)), (4, .int (nI k9))] → W p l e ((headSpec wsX1_orderOf ({ frames := 0, cells := 0, slots := 0, locals := 0 } : Room)).room) s m (([.ref (y 0), .int a9, .int b9] : List Value).toArray) below meth c s.heap [] 0 0 (MQ below (vp_Si (fun r => r = orderV a9 b9)) ([.ref (y 0), .int a9, .int b9] : List Value).toArray s 0 0 (fun _ => False)) (F0 m 5 ls []) := by
    intro n
    induction n with
    | zero =>
      intro k9 ls hn
      exact absurd hn (Nat.not_lt_zero _)
    | succ n ih5 =>
      intro k9 ls hn5 hk9 hl
      refine lv_iload hx hb dX1_orderOf_5 (lv_at hl 4 rfl) ?_
      refine lv_bipush (v := (64 : Int32)) hx hb dX1_orderOf_7 (by decide +kernel) ?_
      refine cx_icmp_ge (i := ((k9 : Nat) : Int)) (j := 64) (tgt := 47) hx hb (nI_toInt (by omega)) (by decide +kernel) dX1_orderOf_9 (by decide) (fun c_1 => ?_) (fun c_1 => ?_)
      · refine lv_iload_n hx hb dX1_orderOf_47 rfl (lv_at hl 3 rfl) ?_
        exact W.iret (v := ordR dn ac a9 b9 k9) hx hb hr (fun t ht hW => ⟨_, rfl, (by obtain rfl : k9 = 64 := (by omega); exact ordR_eq hdn a9 b9), ht⟩) (fun _ h9 => by cases h9) dX1_orderOf_48
      · refine lv_aload_n hx hb dX1_orderOf_12 rfl (lv_at hl 0 rfl) ?_
        refine va_get (D := D) (ci := 1) (v := .ref (y 5)) (C := RX1) (T := TX1) (N := 8) hx hb hts hin1 hown hK hP 0 rfl rfl 5 (by decide) hf22 (fun _ h9 => h9) rfl dX1_orderOf_13 ?_
        refine lv_iload hx hb dX1_orderOf_16 (lv_at hl 4 rfl) ?_
        refine cx_iald hx hb hK hP 5 4 rfl rfl k9 (by omega) (by decide) dX1_orderOf_18 ?_
        refine lv_iload_n hx hb dX1_orderOf_19 rfl (lv_at hl 1 rfl) ?_
        refine cx_icmp_ne (i := (dn k9).toInt) (j := a9.toInt) (tgt := 39) hx hb rfl rfl dX1_orderOf_20 (by decide) (fun c_2 => ?_) (fun c_2 => ?_)
        · refine lv_iload_n hx hb dX1_orderOf_39 rfl (lv_at hl 3 rfl) ?_
          refine lv_istore_n (lv' := [(3, .int (ordR dn ac a9 b9 k9)), (0, .ref (y 0)), (1, .int a9), (2, .int b9), (4, .int (nI k9))]) hx hb dX1_orderOf_40 rfl hl (by decide) rfl (fun ls hl => ?_)
          refine lv_iinc (v := nI (k9 + 1)) (lv' := [(4, .int (nI (k9 + 1))), (3, .int (ordR dn ac a9 b9 k9)), (0, .ref (y 0)), (1, .int a9), (2, .int b9)]) hx hb dX1_orderOf_41 hl (k := 4) rfl (by show nI k9 + 1 = nI (k9 + 1); exact nI_add k9 1) (by decide) rfl (fun ls hl => ?_)
          refine lv_goto (tgt := 5) hx hb dX1_orderOf_44 (by decide) ?_
          have e_3 : ordR dn ac a9 b9 k9 = ordR dn ac a9 b9 (k9 + 1) := ordR_z (fun q => c_2 q.1)
          rw [e_3] at hl
          exact ih5 (k9 + 1) _ (by omega) (by omega) (lv_sub hl [2, 3, 4, 1, 0] rfl)
        · refine lv_aload_n hx hb dX1_orderOf_23 rfl (lv_at hl 0 rfl) ?_
          refine va_get (D := D) (ci := 1) (v := .ref (y 6)) (C := RX1) (T := TX1) (N := 8) hx hb hts hin1 hown hK hP 0 rfl rfl 6 (by decide) hf25 (fun _ h9 => h9) rfl dX1_orderOf_24 ?_
          refine lv_iload hx hb dX1_orderOf_27 (lv_at hl 4 rfl) ?_
          refine cx_iald hx hb hK hP 6 5 rfl rfl k9 (by omega) (by decide) dX1_orderOf_29 ?_
          refine lv_iload_n hx hb dX1_orderOf_30 rfl (lv_at hl 2 rfl) ?_
          refine cx_icmp_ne (i := (ac k9).toInt) (j := b9.toInt) (tgt := 39) hx hb rfl rfl dX1_orderOf_31 (by decide) (fun c_4 => ?_) (fun c_4 => ?_)
          · refine lv_iload_n hx hb dX1_orderOf_39 rfl (lv_at hl 3 rfl) ?_
            refine lv_istore_n (lv' := [(3, .int (ordR dn ac a9 b9 k9)), (0, .ref (y 0)), (1, .int a9), (2, .int b9), (4, .int (nI k9))]) hx hb dX1_orderOf_40 rfl hl (by decide) rfl (fun ls hl => ?_)
            refine lv_iinc (v := nI (k9 + 1)) (lv' := [(4, .int (nI (k9 + 1))), (3, .int (ordR dn ac a9 b9 k9)), (0, .ref (y 0)), (1, .int a9), (2, .int b9)]) hx hb dX1_orderOf_41 hl (k := 4) rfl (by show nI k9 + 1 = nI (k9 + 1); exact nI_add k9 1) (by decide) rfl (fun ls hl => ?_)
            refine lv_goto (tgt := 5) hx hb dX1_orderOf_44 (by decide) ?_
            have e_5 : ordR dn ac a9 b9 k9 = ordR dn ac a9 b9 (k9 + 1) := ordR_z (fun q => c_4 q.2)
            rw [e_5] at hl
            exact ih5 (k9 + 1) _ (by omega) (by omega) (lv_sub hl [2, 3, 4, 1, 0] rfl)
          · refine lv_iload hx hb dX1_orderOf_34 (lv_at hl 4 rfl) ?_
            refine lv_goto (tgt := 40) hx hb dX1_orderOf_36 (by decide) ?_
            refine lv_istore_n (lv' := [(3, .int (nI k9)), (0, .ref (y 0)), (1, .int a9), (2, .int b9), (4, .int (nI k9))]) hx hb dX1_orderOf_40 rfl hl (by decide) rfl (fun ls hl => ?_)
            refine lv_iinc (v := nI (k9 + 1)) (lv' := [(4, .int (nI (k9 + 1))), (3, .int (nI k9)), (0, .ref (y 0)), (1, .int a9), (2, .int b9)]) hx hb dX1_orderOf_41 hl (k := 4) rfl (by show nI k9 + 1 = nI (k9 + 1); exact nI_add k9 1) (by decide) rfl (fun ls hl => ?_)
            refine lv_goto (tgt := 5) hx hb dX1_orderOf_44 (by decide) ?_
            have e_6 : nI k9 = ordR dn ac a9 b9 (k9 + 1) := ordR_s ⟨c_2, c_4⟩
            rw [e_6] at hl
            exact ih5 (k9 + 1) _ (by omega) (by omega) (lv_sub hl [2, 3, 4, 1, 0] rfl)
  exact L5 _ 0 _ (Nat.lt_succ_self _) (Nat.zero_le _) (lv_sub hl [2, 3, 4, 1, 0] rfl)
set_option maxHeartbeats 4000000 in
set_option maxRecDepth 100000 in
/-- the reference: column -/
theorem n_column (l : Launch) (D : va_G) (y : Nat → Nat) (ce : Nat → ClassId) (th : Int32) (r0 r1 r2 r3 dn ac : Nat → Int32) (sm : Nat → Int64) (hdn : dnOk dn ac) (nn sp y9 u9 : Nat) (h0 : nn ≤ 8) (h1 : (nn = 1 ∧ sp = 8) ∨ (nn = 2 ∧ sp = 4) ∨ (nn = 4 ∧ sp = 2) ∨ (nn = 8 ∧ sp = 1)) (h2 : y9 < 8) (h3 : u9 < 8) : Met l yX1_column wsX1_column ({ frames := 2, cells := 0, slots := 0, locals := 43 } : Room) (va_Pc [.ref (y 0), .int (nI nn), .int (nI y9), .int (nI u9)] (cro D (mw y ce th r0 r1 r2 r3 dn ac sm) (mty ce))) (vp_Sl (fun r => r = cN sp nn r0 r1 y9 u9)) 0 0 (fun _ => False) := by
  refine Met.ofW (cc := cX1_column) (maxL := 8) (ret := some .long) (by decide) rfl ?_
  intro p e s m args below meth c s₁ B hml hv
  obtain ⟨rfl, hP, hK, hTb⟩ := hv
  have hx := B.exec
  have hb := B.bytes
  have hr := B.returns
  have hts : ∀ w ∈ wA, w.before _ s = true := fun w h => atoms_spec (ws := wsX1_column) B.pre w (List.mem_cons_of_mem _ h)
  have hown : s.vm.findClass RX1 = some m.cls := findClass_of_methodNamed B.named
  have hlocks := B.notSynchronized
  have hS : va_S (fun _ => False) s.heap s.heap [] := va_S.rf
  have hin1 := inA1
  have hf7 := (hts _ wm_303)
  have hf13 := (hts _ wm_304)
  have hl := lv_entry ([.ref (y 0), .int (nI nn), .int (nI y9), .int (nI u9)]) (n := 8) (Nat.le_of_ble_eq_true rfl)
  rw [lg_entry_eq]
  generalize (lg_sl ([.ref (y 0), .int (nI nn), .int (nI y9), .int (nI u9)]) ++ List.replicate (8 - (lg_sl ([.ref (y 0), .int (nI nn), .int (nI y9), .int (nI u9)])).length) Slot.unset).toArray = ls at hl ⊢
  have hl : lv_has ls 8 [(0, .ref (y 0)), (1, .int (nI nn)), (2, .int (nI y9)), (3, .int (nI u9))] := hl
  refine lv_lconst (v := (0 : Int64)) hx hb dX1_column_0 (by decide +kernel) ?_
  refine lv_lstore (lv' := [(4, .long (0 : Int64)), (0, .ref (y 0)), (1, .int (nI nn)), (2, .int (nI y9)), (3, .int (nI u9))]) hx hb dX1_column_1 hl (by decide) rfl (fun ls hl => ?_)
  refine lv_iconst (v := (0 : Int32)) hx hb dX1_column_3 (by decide +kernel) ?_
  refine lv_istore (lv' := [(6, .int (0 : Int32)), (4, .long (0 : Int64)), (0, .ref (y 0)), (1, .int (nI nn)), (2, .int (nI y9)), (3, .int (nI u9))]) hx hb dX1_column_4 hl (by decide) rfl (fun ls hl => ?_)
  have L6 : ∀ (n : Nat) (v9 : Nat) (ls : Array Slot), (nn - v9) < n → (v9 ≤ nn) → lv_has ls 8 [(0, .ref (y 0)), (1, .int (nI nn)), (2, .int (nI y9)), (3, .int (nI u9)), (4, .long (sumL (fun v9 => (wvN sp v9 y9).toInt64 * (r0 (cPn (v9 * 8 + u9))).toInt64 * (r1 (cPn (v9 * 8 + u9))).toInt64) v9)), (6, .int (nI v9))] → W p l e ((headSpec wsX1_column ({ frames := 2, cells := 0, slots := 0, locals := 43 } : Room)).room) s m (([.ref (y 0), .int (nI nn), .int (nI y9), .int (nI u9)] : List Value).toArray) below meth c s.heap [] 0 0 (MQ below (vp_Sl (fun r => r = cN sp nn r0 r1 y9 u9)) ([.ref (y 0), .int (nI nn), .int (nI y9), .int (nI u9)] : List Value).toArray s 0 0 (fun _ => False)) (F0 m 6 ls []) := by
    intro n
    induction n with
    | zero =>
      intro v9 ls hn
      exact absurd hn (Nat.not_lt_zero _)
    | succ n ih6 =>
      intro v9 ls hn6 hv9 hl
      refine lv_iload hx hb dX1_column_6 (lv_at hl 5 rfl) ?_
      refine lv_iload_n hx hb dX1_column_8 rfl (lv_at hl 1 rfl) ?_
      refine cx_icmp_ge (i := ((v9 : Nat) : Int)) (j := ((nn : Nat) : Int)) (tgt := 58) hx hb (nI_toInt (by omega)) (nI_toInt (by omega)) dX1_column_9 (by decide) (fun c_1 => ?_) (fun c_1 => ?_)
      · refine lv_lload hx hb dX1_column_58 (lv_at hl 4 rfl) ?_
        refine lv_bipush (v := (11 : Int32)) hx hb dX1_column_60 (by decide +kernel) ?_
        refine vp_callSl (W.runS (As := [.long (sumL (fun v9 => (wvN sp v9 y9).toInt64 * (r0 (cPn (v9 * 8 + u9))).toInt64 * (r1 (cPn (v9 * 8 + u9))).toInt64) v9), .int (11 : Int32)]) (rest := []) ⟨hx, hb, hml, hown, hts⟩ (n_round l D (sumL (fun v9 => (wvN sp v9 y9).toInt64 * (r0 (cPn (v9 * 8 + u9))).toInt64 * (r1 (cPn (v9 * 8 + u9))).toInt64) v9) (11 : Int32)) (va_cwS 2 hts (gw_S wm_372 wm_373 wm_13 wm_374) rfl rfl rfl (by decide +kernel) ⟨Nat.le_of_ble_eq_true rfl, Nat.le_of_ble_eq_true rfl⟩) ⟨cro_blind, fun U hU hW => ⟨rfl, cro_at (hP.sub (ws' := []) [] rfl) (hK.sub (tys' := []) [] rfl) hTb hS hU hW⟩⟩ rfl rfl hl.1 rfl (lv_room (Nat.le_of_ble_eq_true rfl)) dX1_column_62 ⟨Nat.le_of_ble_eq_true rfl, Nat.le_of_ble_eq_true rfl⟩) (fun r_2 hr_2 => ?_)
        rw [hr_2]
        exact W.lret (v := rdL (sumL (fun v9 => (wvN sp v9 y9).toInt64 * (r0 (cPn (v9 * 8 + u9))).toInt64 * (r1 (cPn (v9 * 8 + u9))).toInt64) v9) (11 : Int32)) hx hb hr (fun t ht hW => ⟨_, rfl, (by obtain rfl : nn = v9 := (by omega); rfl), ht⟩) (fun _ h9 => by cases h9) dX1_column_65
      · refine lv_aload_n hx hb dX1_column_12 rfl (lv_at hl 0 rfl) ?_
        refine lv_iload hx hb dX1_column_13 (lv_at hl 5 rfl) ?_
        refine lv_iload_n hx hb dX1_column_15 rfl (lv_at hl 3 rfl) ?_
        refine vp_callSi (W.runV (As := [.int (nI v9), .int (nI u9)]) (rest := []) ⟨hx, hb, hml, hown, hts⟩ (n_orderOf l D y ce th r0 r1 r2 r3 dn ac sm hdn (nI v9) (nI u9)) (cwV 2 hts (gw_V wm_362 wm_364 wm_9 wm_13 wm_365) rfl rfl rfl (by decide +kernel) ⟨Nat.le_of_ble_eq_true rfl, Nat.le_of_ble_eq_true rfl⟩) ⟨cro_blind, va_recv hK hP (ci := 1) (q0 := 0) rfl rfl, fun U hU hW => ⟨rfl, cro_at hP hK hTb hS hU hW⟩⟩ rfl rfl hl.1 rfl (lv_room (Nat.le_of_ble_eq_true rfl)) dX1_column_16 ⟨Nat.le_of_ble_eq_true rfl, Nat.le_of_ble_eq_true rfl⟩) (fun r_3 hr_3 => ?_)
        rw [orderV_nat (by omega) (by omega)] at hr_3
        rw [hr_3]
        refine lv_istore (lv' := [(7, .int (nI (cPn (v9 * 8 + u9)))), (0, .ref (y 0)), (1, .int (nI nn)), (2, .int (nI y9)), (3, .int (nI u9)), (4, .long (sumL (fun v9 => (wvN sp v9 y9).toInt64 * (r0 (cPn (v9 * 8 + u9))).toInt64 * (r1 (cPn (v9 * 8 + u9))).toInt64) v9)), (6, .int (nI v9))]) hx hb dX1_column_19 hl (by decide) rfl (fun ls hl => ?_)
        refine lv_lload hx hb dX1_column_21 (lv_at hl 5 rfl) ?_
        refine lv_iload_n hx hb dX1_column_23 rfl (lv_at hl 2 rfl) ?_
        refine lv_iload hx hb dX1_column_24 (lv_at hl 6 rfl) ?_
        refine lv_iload_n hx hb dX1_column_26 rfl (lv_at hl 3 rfl) ?_
        refine vp_callSi (W.runS (As := [.int (nI nn), .int (nI v9), .int (nI y9)]) (rest := [.long (sumL (fun v9 => (wvN sp v9 y9).toInt64 * (r0 (cPn (v9 * 8 + u9))).toInt64 * (r1 (cPn (v9 * 8 + u9))).toInt64) v9)]) ⟨hx, hb, hml, hown, hts⟩ (n_waveOf l D nn sp v9 y9 (by omega) h1 (by omega) (by omega)) (va_cwS 3 hts (gw_S wm_366 wm_367 wm_13 wm_368) rfl rfl rfl (by decide +kernel) ⟨Nat.le_of_ble_eq_true rfl, Nat.le_of_ble_eq_true rfl⟩) ⟨cro_blind, fun U hU hW => ⟨rfl, cro_at (hP.sub (ws' := []) [] rfl) (hK.sub (tys' := []) [] rfl) hTb hS hU hW⟩⟩ rfl rfl hl.1 rfl (lv_room (Nat.le_of_ble_eq_true rfl)) dX1_column_27 ⟨Nat.le_of_ble_eq_true rfl, Nat.le_of_ble_eq_true rfl⟩) (fun r_4 hr_4 => ?_)
        rw [hr_4]
        refine lv_i2l hx hb dX1_column_30 rfl ?_
        refine lv_aload_n hx hb dX1_column_31 rfl (lv_at hl 1 rfl) ?_
        refine va_get (D := D) (ci := 1) (v := .ref (y 1)) (C := RX1) (T := TX1) (N := 8) hx hb hts hin1 hown hK hP 0 rfl rfl 1 (by decide) hf7 (fun _ h9 => h9) rfl dX1_column_32 ?_
        refine lv_iload hx hb dX1_column_35 (lv_at hl 0 rfl) ?_
        refine cx_iald hx hb hK hP 1 0 rfl rfl (cPn (v9 * 8 + u9)) (cPn_lt _ (by omega)) (by decide) dX1_column_37 ?_
        refine lv_i2l hx hb dX1_column_38 rfl ?_
        refine lv_lmul hx hb dX1_column_39 ?_
        refine lv_aload_n hx hb dX1_column_40 rfl (lv_at hl 1 rfl) ?_
        refine va_get (D := D) (ci := 1) (v := .ref (y 2)) (C := RX1) (T := TX1) (N := 8) hx hb hts hin1 hown hK hP 0 rfl rfl 2 (by decide) hf13 (fun _ h9 => h9) rfl dX1_column_41 ?_
        refine lv_iload hx hb dX1_column_44 (lv_at hl 0 rfl) ?_
        refine cx_iald hx hb hK hP 2 1 rfl rfl (cPn (v9 * 8 + u9)) (cPn_lt _ (by omega)) (by decide) dX1_column_46 ?_
        refine lv_i2l hx hb dX1_column_47 rfl ?_
        refine lv_lmul hx hb dX1_column_48 ?_
        refine lv_ladd hx hb dX1_column_49 ?_
        refine lv_lstore (lv' := [(4, .long ((sumL (fun v9 => (wvN sp v9 y9).toInt64 * (r0 (cPn (v9 * 8 + u9))).toInt64 * (r1 (cPn (v9 * 8 + u9))).toInt64) v9) + ((((wvN sp v9 y9).toInt64) * ((r0 (cPn (v9 * 8 + u9))).toInt64)) * ((r1 (cPn (v9 * 8 + u9))).toInt64)))), (7, .int (nI (cPn (v9 * 8 + u9)))), (0, .ref (y 0)), (1, .int (nI nn)), (2, .int (nI y9)), (3, .int (nI u9)), (6, .int (nI v9))]) hx hb dX1_column_50 hl (by decide) rfl (fun ls hl => ?_)
        refine lv_iinc (v := nI (v9 + 1)) (lv' := [(6, .int (nI (v9 + 1))), (4, .long ((sumL (fun v9 => (wvN sp v9 y9).toInt64 * (r0 (cPn (v9 * 8 + u9))).toInt64 * (r1 (cPn (v9 * 8 + u9))).toInt64) v9) + ((((wvN sp v9 y9).toInt64) * ((r0 (cPn (v9 * 8 + u9))).toInt64)) * ((r1 (cPn (v9 * 8 + u9))).toInt64)))), (7, .int (nI (cPn (v9 * 8 + u9)))), (0, .ref (y 0)), (1, .int (nI nn)), (2, .int (nI y9)), (3, .int (nI u9))]) hx hb dX1_column_52 hl (k := 6) rfl (by show nI v9 + 1 = nI (v9 + 1); exact nI_add v9 1) (by decide) rfl (fun ls hl => ?_)
        refine lv_goto (tgt := 6) hx hb dX1_column_55 (by decide) ?_
        exact ih6 (v9 + 1) _ (by omega) (by omega) (lv_sub hl [3, 4, 5, 6, 1, 0] rfl)
  exact L6 _ 0 _ (Nat.lt_succ_self _) (Nat.zero_le _) (lv_sub hl [2, 3, 4, 5, 1, 0] rfl)
set_option maxHeartbeats 4000000 in
set_option maxRecDepth 100000 in
/-- the reference: exactOf -/
theorem n_exactOf (l : Launch) (D : va_G) (y : Nat → Nat) (ce : Nat → ClassId) (th : Int32) (r0 r1 r2 r3 dn ac : Nat → Int32) (sm : Nat → Int64) (v9 u9 : Nat) (h1 : v9 < 8) (h2 : u9 < 8) : Met l yX1_exactOf wsX1_exactOf ({ frames := 2, cells := 0, slots := 0, locals := 43 } : Room) (va_Pc [.ref (y 0), .int (nI v9), .int (nI u9)] (cro D (mw y ce th r0 r1 r2 r3 dn ac sm) (mty ce))) (vp_Sl (fun r => r = eN r2 v9 u9)) 0 0 (fun _ => False) := by
  refine Met.ofW (cc := cX1_exactOf) (maxL := 9) (ret := some .long) (by decide) rfl ?_
  intro p e s m args below meth c s₁ B hml hv
  obtain ⟨rfl, hP, hK, hTb⟩ := hv
  have hx := B.exec
  have hb := B.bytes
  have hr := B.returns
  have hts : ∀ w ∈ wA, w.before _ s = true := fun w h => atoms_spec (ws := wsX1_exactOf) B.pre w (List.mem_cons_of_mem _ h)
  have hown : s.vm.findClass RX1 = some m.cls := findClass_of_methodNamed B.named
  have hlocks := B.notSynchronized
  have hS : va_S (fun _ => False) s.heap s.heap [] := va_S.rf
  have hin1 := inA1
  have hf16 := (hts _ wm_305)
  have hl := lv_entry ([.ref (y 0), .int (nI v9), .int (nI u9)]) (n := 9) (Nat.le_of_ble_eq_true rfl)
  rw [lg_entry_eq]
  generalize (lg_sl ([.ref (y 0), .int (nI v9), .int (nI u9)]) ++ List.replicate (9 - (lg_sl ([.ref (y 0), .int (nI v9), .int (nI u9)])).length) Slot.unset).toArray = ls at hl ⊢
  have hl : lv_has ls 9 [(0, .ref (y 0)), (1, .int (nI v9)), (2, .int (nI u9))] := hl
  refine lv_lconst (v := (0 : Int64)) hx hb dX1_exactOf_0 (by decide +kernel) ?_
  refine lv_lstore_n (lv' := [(3, .long (0 : Int64)), (0, .ref (y 0)), (1, .int (nI v9)), (2, .int (nI u9))]) hx hb dX1_exactOf_1 rfl hl (by decide) rfl (fun ls hl => ?_)
  refine lv_iconst (v := (0 : Int32)) hx hb dX1_exactOf_2 (by decide +kernel) ?_
  refine lv_istore (lv' := [(5, .int (0 : Int32)), (3, .long (0 : Int64)), (0, .ref (y 0)), (1, .int (nI v9)), (2, .int (nI u9))]) hx hb dX1_exactOf_3 hl (by decide) rfl (fun ls hl => ?_)
  have L5 : ∀ (n : Nat) (x9 : Nat) (ls : Array Slot), (8 - x9) < n → (x9 ≤ 8) → lv_has ls 9 [(0, .ref (y 0)), (1, .int (nI v9)), (2, .int (nI u9)), (3, .long (sumL (fun x9 => (wvN 1 u9 x9).toInt64 * eP r2 v9 x9) x9)), (5, .int (nI x9))] → W p l e ((headSpec wsX1_exactOf ({ frames := 2, cells := 0, slots := 0, locals := 43 } : Room)).room) s m (([.ref (y 0), .int (nI v9), .int (nI u9)] : List Value).toArray) below meth c s.heap [] 0 0 (MQ below (vp_Sl (fun r => r = eN r2 v9 u9)) ([.ref (y 0), .int (nI v9), .int (nI u9)] : List Value).toArray s 0 0 (fun _ => False)) (F0 m 5 ls []) := by
    intro n
    induction n with
    | zero =>
      intro x9 ls hn
      exact absurd hn (Nat.not_lt_zero _)
    | succ n ih5 =>
      intro x9 ls hn5 hx9 hl
      refine lv_iload hx hb dX1_exactOf_5 (lv_at hl 4 rfl) ?_
      refine lv_bipush (v := (8 : Int32)) hx hb dX1_exactOf_7 (by decide +kernel) ?_
      refine cx_icmp_ge (i := ((x9 : Nat) : Int)) (j := 8) (tgt := 90) hx hb (nI_toInt (by omega)) (by decide +kernel) dX1_exactOf_9 (by decide) (fun c_1 => ?_) (fun c_1 => ?_)
      · refine lv_lload_n hx hb dX1_exactOf_90 rfl (lv_at hl 3 rfl) ?_
        refine lv_bipush (v := (17 : Int32)) hx hb dX1_exactOf_91 (by decide +kernel) ?_
        refine vp_callSl (W.runS (As := [.long (sumL (fun x9 => (wvN 1 u9 x9).toInt64 * eP r2 v9 x9) x9), .int (17 : Int32)]) (rest := []) ⟨hx, hb, hml, hown, hts⟩ (n_round l D (sumL (fun x9 => (wvN 1 u9 x9).toInt64 * eP r2 v9 x9) x9) (17 : Int32)) (va_cwS 2 hts (gw_S wm_372 wm_373 wm_13 wm_374) rfl rfl rfl (by decide +kernel) ⟨Nat.le_of_ble_eq_true rfl, Nat.le_of_ble_eq_true rfl⟩) ⟨cro_blind, fun U hU hW => ⟨rfl, cro_at (hP.sub (ws' := []) [] rfl) (hK.sub (tys' := []) [] rfl) hTb hS hU hW⟩⟩ rfl rfl hl.1 rfl (lv_room (Nat.le_of_ble_eq_true rfl)) dX1_exactOf_93 ⟨Nat.le_of_ble_eq_true rfl, Nat.le_of_ble_eq_true rfl⟩) (fun r_2 hr_2 => ?_)
        rw [hr_2]
        exact W.lret (v := rdL (sumL (fun x9 => (wvN 1 u9 x9).toInt64 * eP r2 v9 x9) x9) (17 : Int32)) hx hb hr (fun t ht hW => ⟨_, rfl, (by obtain rfl : x9 = 8 := (by omega); rfl), ht⟩) (fun _ h9 => by cases h9) dX1_exactOf_96
      · refine lv_lconst (v := (0 : Int64)) hx hb dX1_exactOf_12 (by decide +kernel) ?_
        refine lv_lstore (lv' := [(6, .long (0 : Int64)), (0, .ref (y 0)), (1, .int (nI v9)), (2, .int (nI u9)), (3, .long (sumL (fun x9 => (wvN 1 u9 x9).toInt64 * eP r2 v9 x9) x9)), (5, .int (nI x9))]) hx hb dX1_exactOf_13 hl (by decide) rfl (fun ls hl => ?_)
        refine lv_iconst (v := (0 : Int32)) hx hb dX1_exactOf_15 (by decide +kernel) ?_
        refine lv_istore (lv' := [(8, .int (0 : Int32)), (6, .long (0 : Int64)), (0, .ref (y 0)), (1, .int (nI v9)), (2, .int (nI u9)), (3, .long (sumL (fun x9 => (wvN 1 u9 x9).toInt64 * eP r2 v9 x9) x9)), (5, .int (nI x9))]) hx hb dX1_exactOf_16 hl (by decide) rfl (fun ls hl => ?_)
        have L18 : ∀ (n : Nat) (y9 : Nat) (ls : Array Slot), (8 - y9) < n → (y9 ≤ 8) → lv_has ls 9 [(0, .ref (y 0)), (1, .int (nI v9)), (2, .int (nI u9)), (3, .long (sumL (fun x9 => (wvN 1 u9 x9).toInt64 * eP r2 v9 x9) x9)), (5, .int (nI x9)), (6, .long (sumL (fun y9 => (wvN 1 v9 y9).toInt64 * (r2 (y9 * 8 + x9) - 128).toInt64) y9)), (8, .int (nI y9))] → W p l e ((headSpec wsX1_exactOf ({ frames := 2, cells := 0, slots := 0, locals := 43 } : Room)).room) s m (([.ref (y 0), .int (nI v9), .int (nI u9)] : List Value).toArray) below meth c s.heap [] 0 0 (MQ below (vp_Sl (fun r => r = eN r2 v9 u9)) ([.ref (y 0), .int (nI v9), .int (nI u9)] : List Value).toArray s 0 0 (fun _ => False)) (F0 m 18 ls []) := by
          intro n
          induction n with
          | zero =>
            intro y9 ls hn
            exact absurd hn (Nat.not_lt_zero _)
          | succ n ih18 =>
            intro y9 ls hn18 hy9 hl
            refine lv_iload hx hb dX1_exactOf_18 (lv_at hl 6 rfl) ?_
            refine lv_bipush (v := (8 : Int32)) hx hb dX1_exactOf_20 (by decide +kernel) ?_
            refine cx_icmp_ge (i := ((y9 : Nat) : Int)) (j := 8) (tgt := 64) hx hb (nI_toInt (by omega)) (by decide +kernel) dX1_exactOf_22 (by decide) (fun c_3 => ?_) (fun c_3 => ?_)
            · refine lv_lload_n hx hb dX1_exactOf_64 rfl (lv_at hl 3 rfl) ?_
              refine lv_bipush (v := (8 : Int32)) hx hb dX1_exactOf_65 (by decide +kernel) ?_
              refine lv_iload_n hx hb dX1_exactOf_67 rfl (lv_at hl 2 rfl) ?_
              refine lv_iload hx hb dX1_exactOf_68 (lv_at hl 4 rfl) ?_
              refine vp_callSi (W.runS (As := [.int (8 : Int32), .int (nI u9), .int (nI x9)]) (rest := [.long (sumL (fun x9 => (wvN 1 u9 x9).toInt64 * eP r2 v9 x9) x9)]) ⟨hx, hb, hml, hown, hts⟩ (n_waveOf l D 8 1 u9 x9 (by omega) (by omega) (by omega) (by omega)) (va_cwS 3 hts (gw_S wm_366 wm_367 wm_13 wm_368) rfl rfl rfl (by decide +kernel) ⟨Nat.le_of_ble_eq_true rfl, Nat.le_of_ble_eq_true rfl⟩) ⟨cro_blind, fun U hU hW => ⟨rfl, cro_at (hP.sub (ws' := []) [] rfl) (hK.sub (tys' := []) [] rfl) hTb hS hU hW⟩⟩ rfl rfl hl.1 rfl (lv_room (Nat.le_of_ble_eq_true rfl)) dX1_exactOf_70 ⟨Nat.le_of_ble_eq_true rfl, Nat.le_of_ble_eq_true rfl⟩) (fun r_4 hr_4 => ?_)
              rw [hr_4]
              refine lv_i2l hx hb dX1_exactOf_73 rfl ?_
              refine lv_lload hx hb dX1_exactOf_74 (lv_at hl 5 rfl) ?_
              refine lv_bipush (v := (11 : Int32)) hx hb dX1_exactOf_76 (by decide +kernel) ?_
              refine vp_callSl (W.runS (As := [.long (sumL (fun y9 => (wvN 1 v9 y9).toInt64 * (r2 (y9 * 8 + x9) - 128).toInt64) y9), .int (11 : Int32)]) (rest := [.long ((wvN 1 u9 x9).toInt64), .long (sumL (fun x9 => (wvN 1 u9 x9).toInt64 * eP r2 v9 x9) x9)]) ⟨hx, hb, hml, hown, hts⟩ (n_round l D (sumL (fun y9 => (wvN 1 v9 y9).toInt64 * (r2 (y9 * 8 + x9) - 128).toInt64) y9) (11 : Int32)) (va_cwS 2 hts (gw_S wm_372 wm_373 wm_13 wm_374) rfl rfl rfl (by decide +kernel) ⟨Nat.le_of_ble_eq_true rfl, Nat.le_of_ble_eq_true rfl⟩) ⟨cro_blind, fun U hU hW => ⟨rfl, cro_at (hP.sub (ws' := []) [] rfl) (hK.sub (tys' := []) [] rfl) hTb hS hU hW⟩⟩ rfl rfl hl.1 rfl (lv_room (Nat.le_of_ble_eq_true rfl)) dX1_exactOf_78 ⟨Nat.le_of_ble_eq_true rfl, Nat.le_of_ble_eq_true rfl⟩) (fun r_5 hr_5 => ?_)
              rw [hr_5]
              refine lv_lmul hx hb dX1_exactOf_81 ?_
              refine lv_ladd hx hb dX1_exactOf_82 ?_
              refine lv_lstore_n (lv' := [(3, .long ((sumL (fun x9 => (wvN 1 u9 x9).toInt64 * eP r2 v9 x9) x9) + (((wvN 1 u9 x9).toInt64) * (rdL (sumL (fun y9 => (wvN 1 v9 y9).toInt64 * (r2 (y9 * 8 + x9) - 128).toInt64) y9) (11 : Int32))))), (0, .ref (y 0)), (1, .int (nI v9)), (2, .int (nI u9)), (5, .int (nI x9)), (6, .long (sumL (fun y9 => (wvN 1 v9 y9).toInt64 * (r2 (y9 * 8 + x9) - 128).toInt64) y9)), (8, .int (nI y9))]) hx hb dX1_exactOf_83 rfl hl (by decide) rfl (fun ls hl => ?_)
              refine lv_iinc (v := nI (x9 + 1)) (lv' := [(5, .int (nI (x9 + 1))), (3, .long ((sumL (fun x9 => (wvN 1 u9 x9).toInt64 * eP r2 v9 x9) x9) + (((wvN 1 u9 x9).toInt64) * (rdL (sumL (fun y9 => (wvN 1 v9 y9).toInt64 * (r2 (y9 * 8 + x9) - 128).toInt64) y9) (11 : Int32))))), (0, .ref (y 0)), (1, .int (nI v9)), (2, .int (nI u9)), (6, .long (sumL (fun y9 => (wvN 1 v9 y9).toInt64 * (r2 (y9 * 8 + x9) - 128).toInt64) y9)), (8, .int (nI y9))]) hx hb dX1_exactOf_84 hl (k := 4) rfl (by show nI x9 + 1 = nI (x9 + 1); exact nI_add x9 1) (by decide) rfl (fun ls hl => ?_)
              refine lv_goto (tgt := 5) hx hb dX1_exactOf_87 (by decide) ?_
              obtain rfl : y9 = 8 := by omega
              exact ih5 (x9 + 1) _ (by omega) (by omega) (lv_sub hl [2, 3, 4, 1, 0] rfl)
            · refine lv_lload hx hb dX1_exactOf_25 (lv_at hl 5 rfl) ?_
              refine lv_bipush (v := (8 : Int32)) hx hb dX1_exactOf_27 (by decide +kernel) ?_
              refine lv_iload_n hx hb dX1_exactOf_29 rfl (lv_at hl 1 rfl) ?_
              refine lv_iload hx hb dX1_exactOf_30 (lv_at hl 6 rfl) ?_
              refine vp_callSi (W.runS (As := [.int (8 : Int32), .int (nI v9), .int (nI y9)]) (rest := [.long (sumL (fun y9 => (wvN 1 v9 y9).toInt64 * (r2 (y9 * 8 + x9) - 128).toInt64) y9)]) ⟨hx, hb, hml, hown, hts⟩ (n_waveOf l D 8 1 v9 y9 (by omega) (by omega) (by omega) (by omega)) (va_cwS 3 hts (gw_S wm_366 wm_367 wm_13 wm_368) rfl rfl rfl (by decide +kernel) ⟨Nat.le_of_ble_eq_true rfl, Nat.le_of_ble_eq_true rfl⟩) ⟨cro_blind, fun U hU hW => ⟨rfl, cro_at (hP.sub (ws' := []) [] rfl) (hK.sub (tys' := []) [] rfl) hTb hS hU hW⟩⟩ rfl rfl hl.1 rfl (lv_room (Nat.le_of_ble_eq_true rfl)) dX1_exactOf_32 ⟨Nat.le_of_ble_eq_true rfl, Nat.le_of_ble_eq_true rfl⟩) (fun r_6 hr_6 => ?_)
              rw [hr_6]
              refine lv_i2l hx hb dX1_exactOf_35 rfl ?_
              refine lv_aload_n hx hb dX1_exactOf_36 rfl (lv_at hl 0 rfl) ?_
              refine va_get (D := D) (ci := 1) (v := .ref (y 3)) (C := RX1) (T := TX1) (N := 8) hx hb hts hin1 hown hK hP 0 rfl rfl 3 (by decide) hf16 (fun _ h9 => h9) rfl dX1_exactOf_37 ?_
              refine lv_bipush (v := (8 : Int32)) hx hb dX1_exactOf_40 (by decide +kernel) ?_
              refine lv_iload hx hb dX1_exactOf_42 (lv_at hl 6 rfl) ?_
              refine cx_imul hx hb 8 y9 dX1_exactOf_44 ?_
              refine lv_iload hx hb dX1_exactOf_45 (lv_at hl 4 rfl) ?_
              refine cx_iadd hx hb (8 * y9) x9 dX1_exactOf_47 ?_
              rw [show 8 * y9 + x9 = y9 * 8 + x9 from by omega]
              refine cx_iald hx hb hK hP 3 2 rfl rfl (y9 * 8 + x9) (by omega) (by decide) dX1_exactOf_48 ?_
              refine lv_sipush (v := (128 : Int32)) hx hb dX1_exactOf_49 (by decide +kernel) ?_
              refine lv_isub hx hb dX1_exactOf_52 ?_
              refine lv_i2l hx hb dX1_exactOf_53 rfl ?_
              refine lv_lmul hx hb dX1_exactOf_54 ?_
              refine lv_ladd hx hb dX1_exactOf_55 ?_
              refine lv_lstore (lv' := [(6, .long ((sumL (fun y9 => (wvN 1 v9 y9).toInt64 * (r2 (y9 * 8 + x9) - 128).toInt64) y9) + (((wvN 1 v9 y9).toInt64) * (((r2 (y9 * 8 + x9)) - (128 : Int32)).toInt64)))), (0, .ref (y 0)), (1, .int (nI v9)), (2, .int (nI u9)), (3, .long (sumL (fun x9 => (wvN 1 u9 x9).toInt64 * eP r2 v9 x9) x9)), (5, .int (nI x9)), (8, .int (nI y9))]) hx hb dX1_exactOf_56 hl (by decide) rfl (fun ls hl => ?_)
              refine lv_iinc (v := nI (y9 + 1)) (lv' := [(8, .int (nI (y9 + 1))), (6, .long ((sumL (fun y9 => (wvN 1 v9 y9).toInt64 * (r2 (y9 * 8 + x9) - 128).toInt64) y9) + (((wvN 1 v9 y9).toInt64) * (((r2 (y9 * 8 + x9)) - (128 : Int32)).toInt64)))), (0, .ref (y 0)), (1, .int (nI v9)), (2, .int (nI u9)), (3, .long (sumL (fun x9 => (wvN 1 u9 x9).toInt64 * eP r2 v9 x9) x9)), (5, .int (nI x9))]) hx hb dX1_exactOf_58 hl (k := 6) rfl (by show nI y9 + 1 = nI (y9 + 1); exact nI_add y9 1) (by decide) rfl (fun ls hl => ?_)
              refine lv_goto (tgt := 18) hx hb dX1_exactOf_61 (by decide) ?_
              exact ih18 (y9 + 1) _ (by omega) (by omega) (lv_sub hl [2, 3, 4, 5, 6, 1, 0] rfl)
        exact L18 _ 0 _ (Nat.lt_succ_self _) (Nat.zero_le _) (lv_sub hl [2, 3, 4, 5, 6, 1, 0] rfl)
  exact L5 _ 0 _ (Nat.lt_succ_self _) (Nat.zero_le _) (lv_sub hl [2, 3, 4, 1, 0] rfl)
end
section
theorem bG1_pos (P : Nat → Nat → Int64) (y : Nat) (g : Int64) (hg : 0 ≤ g.toInt) : ∀ u, 0 ≤ (bG1 P y g u).toInt
  | 0 => hg
  | u + 1 => (maxL_most (v := P y u) (bG1_pos P y g hg u)).2
theorem bG_pos (P : Nat → Nat → Int64) (nn : Nat) : ∀ y, 0 ≤ (bG P nn y).toInt
  | 0 => show (0 : Int) ≤ (0 : Int64).toInt by decide
  | y + 1 => bG1_pos P y _ (bG_pos P nn y) nn
theorem cntI_z0 {f : Nat → Int32} {n : Nat} (h : (f n).toInt = 0) : cntI f n + 0 = cntI f (n + 1) := by
  rw [← cntI_z h]
  exact Int32.add_zero _
theorem cnt_upd {w : Nat → Int32} {k : Nat} {x : Int32} : cntI (upd w k x) k = cntI w k := cntI_congr (fun i hi => pk_un (by omega))
theorem cnt_upd_z {w : Nat → Int32} {k : Nat} {x : Int32} (h : (upd w k x k).toInt = 0) : cntI w k + 0 = cntI (upd w k x) (k + 1) := by
  rw [← cntI_z0 h, cnt_upd]
theorem cnt_upd_s {w : Nat → Int32} {k : Nat} {x : Int32} (h : (upd w k x k).toInt ≠ 0) : cntI w k + 1 = cntI (upd w k x) (k + 1) := by
  rw [← cntI_s h, cnt_upd]
theorem cx_2stL {st : Int32} (h1 : 1 ≤ st.toInt) (h2 : st.toInt ≤ 255) : ¬ (2 : Int64) * st.toInt64 = 0 := by
  intro h
  have h3 := congrArg Int64.toInt h
  have e : st.toInt64.toInt = st.toInt := Int32.toInt_toInt64 st
  rw [Int64.toInt_mul, e, show (2 : Int64).toInt = 2 from rfl, show (0 : Int64).toInt = 0 from rfl, Int.bmod_eq_of_le (by omega) (by omega)] at h3
  omega
theorem smp_i {f : Nat → Int32} {a i : Nat} : (smp f a i <<< ((8 : Int32).toInt64 &&& 63)) ||| (f (a * 8 + i)).toInt64 = smp f a (i + 1) := rfl
theorem cx_i0 : ((0 : Int32).toInt64).toInt = 0 := by decide +kernel
theorem cx_i255 : ((255 : Int32).toInt64).toInt = 255 := by decide +kernel
theorem dX1_clear_0 : decode cX1_clear 0 = .ok (.aload_n 0, 1) := by decide +kernel
theorem dX1_clear_1 : decode cX1_clear 1 = .ok (.iconst 0, 1) := by decide +kernel
theorem dX1_clear_2 : decode cX1_clear 2 = .ok (.putfield 32, 3) := by decide +kernel
theorem dX1_clear_5 : decode cX1_clear 5 = .ok (.iconst 0, 1) := by decide +kernel
theorem dX1_clear_6 : decode cX1_clear 6 = .ok (.istore_n 1, 1) := by decide +kernel
theorem dX1_clear_7 : decode cX1_clear 7 = .ok (.iload_n 1, 1) := by decide +kernel
theorem dX1_clear_8 : decode cX1_clear 8 = .ok (.bipush 64, 2) := by decide +kernel
theorem dX1_clear_10 : decode cX1_clear 10 = .ok (.if_icmp .ge 16, 3) := by decide +kernel
theorem dX1_clear_13 : decode cX1_clear 13 = .ok (.aload_n 0, 1) := by decide +kernel
theorem dX1_clear_14 : decode cX1_clear 14 = .ok (.getfield 7, 3) := by decide +kernel
theorem dX1_clear_17 : decode cX1_clear 17 = .ok (.iload_n 1, 1) := by decide +kernel
theorem dX1_clear_18 : decode cX1_clear 18 = .ok (.iconst 0, 1) := by decide +kernel
theorem dX1_clear_19 : decode cX1_clear 19 = .ok (.iastore, 1) := by decide +kernel
theorem dX1_clear_20 : decode cX1_clear 20 = .ok (.iinc 1 1, 3) := by decide +kernel
theorem dX1_clear_23 : decode cX1_clear 23 = .ok (.goto (-16), 3) := by decide +kernel
theorem dX1_clear_26 : decode cX1_clear 26 = .ok (.return_, 1) := by decide +kernel
theorem dX1_keep_0 : decode cX1_keep 0 = .ok (.aload_n 0, 1) := by decide +kernel
theorem dX1_keep_1 : decode cX1_keep 1 = .ok (.iconst 0, 1) := by decide +kernel
theorem dX1_keep_2 : decode cX1_keep 2 = .ok (.putfield 32, 3) := by decide +kernel
theorem dX1_keep_5 : decode cX1_keep 5 = .ok (.iconst 0, 1) := by decide +kernel
theorem dX1_keep_6 : decode cX1_keep 6 = .ok (.istore_n 1, 1) := by decide +kernel
theorem dX1_keep_7 : decode cX1_keep 7 = .ok (.iload_n 1, 1) := by decide +kernel
theorem dX1_keep_8 : decode cX1_keep 8 = .ok (.bipush 64, 2) := by decide +kernel
theorem dX1_keep_10 : decode cX1_keep 10 = .ok (.if_icmp .ge 21, 3) := by decide +kernel
theorem dX1_keep_13 : decode cX1_keep 13 = .ok (.aload_n 0, 1) := by decide +kernel
theorem dX1_keep_14 : decode cX1_keep 14 = .ok (.getfield 19, 3) := by decide +kernel
theorem dX1_keep_17 : decode cX1_keep 17 = .ok (.iload_n 1, 1) := by decide +kernel
theorem dX1_keep_18 : decode cX1_keep 18 = .ok (.aload_n 0, 1) := by decide +kernel
theorem dX1_keep_19 : decode cX1_keep 19 = .ok (.getfield 16, 3) := by decide +kernel
theorem dX1_keep_22 : decode cX1_keep 22 = .ok (.iload_n 1, 1) := by decide +kernel
theorem dX1_keep_23 : decode cX1_keep 23 = .ok (.iaload, 1) := by decide +kernel
theorem dX1_keep_24 : decode cX1_keep 24 = .ok (.iastore, 1) := by decide +kernel
theorem dX1_keep_25 : decode cX1_keep 25 = .ok (.iinc 1 1, 3) := by decide +kernel
theorem dX1_keep_28 : decode cX1_keep 28 = .ok (.goto (-21), 3) := by decide +kernel
theorem dX1_keep_31 : decode cX1_keep 31 = .ok (.return_, 1) := by decide +kernel
theorem dX1_put_0 : decode cX1_put 0 = .ok (.aload_n 0, 1) := by decide +kernel
theorem dX1_put_1 : decode cX1_put 1 = .ok (.iload_n 1, 1) := by decide +kernel
theorem dX1_put_2 : decode cX1_put 2 = .ok (.invokestatic 40, 3) := by decide +kernel
theorem dX1_put_5 : decode cX1_put 5 = .ok (.ifCond .ne 7, 3) := by decide +kernel
theorem dX1_put_8 : decode cX1_put 8 = .ok (.iconst 1, 1) := by decide +kernel
theorem dX1_put_9 : decode cX1_put 9 = .ok (.goto 22, 3) := by decide +kernel
theorem dX1_put_12 : decode cX1_put 12 = .ok (.iload_n 2, 1) := by decide +kernel
theorem dX1_put_13 : decode cX1_put 13 = .ok (.sipush (-32768), 3) := by decide +kernel
theorem dX1_put_16 : decode cX1_put 16 = .ok (.if_icmp .lt 10, 3) := by decide +kernel
theorem dX1_put_19 : decode cX1_put 19 = .ok (.iload_n 2, 1) := by decide +kernel
theorem dX1_put_20 : decode cX1_put 20 = .ok (.sipush 32767, 3) := by decide +kernel
theorem dX1_put_23 : decode cX1_put 23 = .ok (.if_icmp .le 7, 3) := by decide +kernel
theorem dX1_put_26 : decode cX1_put 26 = .ok (.iconst 2, 1) := by decide +kernel
theorem dX1_put_27 : decode cX1_put 27 = .ok (.goto 4, 3) := by decide +kernel
theorem dX1_put_30 : decode cX1_put 30 = .ok (.iconst 0, 1) := by decide +kernel
theorem dX1_put_31 : decode cX1_put 31 = .ok (.putfield 32, 3) := by decide +kernel
theorem dX1_put_34 : decode cX1_put 34 = .ok (.aload_n 0, 1) := by decide +kernel
theorem dX1_put_35 : decode cX1_put 35 = .ok (.getfield 32, 3) := by decide +kernel
theorem dX1_put_38 : decode cX1_put 38 = .ok (.ifCond .ne 10, 3) := by decide +kernel
theorem dX1_put_41 : decode cX1_put 41 = .ok (.aload_n 0, 1) := by decide +kernel
theorem dX1_put_42 : decode cX1_put 42 = .ok (.getfield 7, 3) := by decide +kernel
theorem dX1_put_45 : decode cX1_put 45 = .ok (.iload_n 1, 1) := by decide +kernel
theorem dX1_put_46 : decode cX1_put 46 = .ok (.iload_n 2, 1) := by decide +kernel
theorem dX1_put_47 : decode cX1_put 47 = .ok (.iastore, 1) := by decide +kernel
theorem dX1_put_48 : decode cX1_put 48 = .ok (.return_, 1) := by decide +kernel
theorem dX1_step_0 : decode cX1_step 0 = .ok (.aload_n 0, 1) := by decide +kernel
theorem dX1_step_1 : decode cX1_step 1 = .ok (.iload_n 1, 1) := by decide +kernel
theorem dX1_step_2 : decode cX1_step 2 = .ok (.invokestatic 40, 3) := by decide +kernel
theorem dX1_step_5 : decode cX1_step 5 = .ok (.ifCond .ne 7, 3) := by decide +kernel
theorem dX1_step_8 : decode cX1_step 8 = .ok (.iconst 1, 1) := by decide +kernel
theorem dX1_step_9 : decode cX1_step 9 = .ok (.goto 20, 3) := by decide +kernel
theorem dX1_step_12 : decode cX1_step 12 = .ok (.iload_n 2, 1) := by decide +kernel
theorem dX1_step_13 : decode cX1_step 13 = .ok (.iconst 1, 1) := by decide +kernel
theorem dX1_step_14 : decode cX1_step 14 = .ok (.if_icmp .lt 10, 3) := by decide +kernel
theorem dX1_step_17 : decode cX1_step 17 = .ok (.iload_n 2, 1) := by decide +kernel
theorem dX1_step_18 : decode cX1_step 18 = .ok (.sipush 255, 3) := by decide +kernel
theorem dX1_step_21 : decode cX1_step 21 = .ok (.if_icmp .le 7, 3) := by decide +kernel
theorem dX1_step_24 : decode cX1_step 24 = .ok (.iconst 2, 1) := by decide +kernel
theorem dX1_step_25 : decode cX1_step 25 = .ok (.goto 4, 3) := by decide +kernel
theorem dX1_step_28 : decode cX1_step 28 = .ok (.iconst 0, 1) := by decide +kernel
theorem dX1_step_29 : decode cX1_step 29 = .ok (.putfield 32, 3) := by decide +kernel
theorem dX1_step_32 : decode cX1_step 32 = .ok (.aload_n 0, 1) := by decide +kernel
theorem dX1_step_33 : decode cX1_step 33 = .ok (.getfield 32, 3) := by decide +kernel
theorem dX1_step_36 : decode cX1_step 36 = .ok (.ifCond .ne 10, 3) := by decide +kernel
theorem dX1_step_39 : decode cX1_step 39 = .ok (.aload_n 0, 1) := by decide +kernel
theorem dX1_step_40 : decode cX1_step 40 = .ok (.getfield 13, 3) := by decide +kernel
theorem dX1_step_43 : decode cX1_step 43 = .ok (.iload_n 1, 1) := by decide +kernel
theorem dX1_step_44 : decode cX1_step 44 = .ok (.iload_n 2, 1) := by decide +kernel
theorem dX1_step_45 : decode cX1_step 45 = .ok (.iastore, 1) := by decide +kernel
theorem dX1_step_46 : decode cX1_step 46 = .ok (.return_, 1) := by decide +kernel
theorem dX1_steps_0 : decode cX1_steps 0 = .ok (.aload_n 0, 1) := by decide +kernel
theorem dX1_steps_1 : decode cX1_steps 1 = .ok (.iload_n 1, 1) := by decide +kernel
theorem dX1_steps_2 : decode cX1_steps 2 = .ok (.iconst 1, 1) := by decide +kernel
theorem dX1_steps_3 : decode cX1_steps 3 = .ok (.if_icmp .lt 32, 3) := by decide +kernel
theorem dX1_steps_6 : decode cX1_steps 6 = .ok (.iload_n 1, 1) := by decide +kernel
theorem dX1_steps_7 : decode cX1_steps 7 = .ok (.sipush 255, 3) := by decide +kernel
theorem dX1_steps_10 : decode cX1_steps 10 = .ok (.if_icmp .gt 25, 3) := by decide +kernel
theorem dX1_steps_13 : decode cX1_steps 13 = .ok (.iload_n 2, 1) := by decide +kernel
theorem dX1_steps_14 : decode cX1_steps 14 = .ok (.ifCond .lt 21, 3) := by decide +kernel
theorem dX1_steps_17 : decode cX1_steps 17 = .ok (.iload_n 2, 1) := by decide +kernel
theorem dX1_steps_18 : decode cX1_steps 18 = .ok (.bipush 32, 2) := by decide +kernel
theorem dX1_steps_20 : decode cX1_steps 20 = .ok (.if_icmp .gt 15, 3) := by decide +kernel
theorem dX1_steps_23 : decode cX1_steps 23 = .ok (.iload_n 3, 1) := by decide +kernel
theorem dX1_steps_24 : decode cX1_steps 24 = .ok (.iconst 1, 1) := by decide +kernel
theorem dX1_steps_25 : decode cX1_steps 25 = .ok (.if_icmp .lt 10, 3) := by decide +kernel
theorem dX1_steps_28 : decode cX1_steps 28 = .ok (.iload_n 3, 1) := by decide +kernel
theorem dX1_steps_29 : decode cX1_steps 29 = .ok (.sipush 5000, 3) := by decide +kernel
theorem dX1_steps_32 : decode cX1_steps 32 = .ok (.if_icmp .le 7, 3) := by decide +kernel
theorem dX1_steps_35 : decode cX1_steps 35 = .ok (.iconst 1, 1) := by decide +kernel
theorem dX1_steps_36 : decode cX1_steps 36 = .ok (.goto 4, 3) := by decide +kernel
theorem dX1_steps_39 : decode cX1_steps 39 = .ok (.iconst 0, 1) := by decide +kernel
theorem dX1_steps_40 : decode cX1_steps 40 = .ok (.putfield 32, 3) := by decide +kernel
theorem dX1_steps_43 : decode cX1_steps 43 = .ok (.iconst 0, 1) := by decide +kernel
theorem dX1_steps_44 : decode cX1_steps 44 = .ok (.istore 4, 2) := by decide +kernel
theorem dX1_steps_46 : decode cX1_steps 46 = .ok (.iload 4, 2) := by decide +kernel
theorem dX1_steps_48 : decode cX1_steps 48 = .ok (.bipush 64, 2) := by decide +kernel
theorem dX1_steps_50 : decode cX1_steps 50 = .ok (.if_icmp .ge 78, 3) := by decide +kernel
theorem dX1_steps_53 : decode cX1_steps 53 = .ok (.aload_n 0, 1) := by decide +kernel
theorem dX1_steps_54 : decode cX1_steps 54 = .ok (.getfield 32, 3) := by decide +kernel
theorem dX1_steps_57 : decode cX1_steps 57 = .ok (.ifCond .ne 71, 3) := by decide +kernel
theorem dX1_steps_60 : decode cX1_steps 60 = .ok (.iload_n 1, 1) := by decide +kernel
theorem dX1_steps_61 : decode cX1_steps 61 = .ok (.iload_n 2, 1) := by decide +kernel
theorem dX1_steps_62 : decode cX1_steps 62 = .ok (.aload_n 0, 1) := by decide +kernel
theorem dX1_steps_63 : decode cX1_steps 63 = .ok (.getfield 22, 3) := by decide +kernel
theorem dX1_steps_66 : decode cX1_steps 66 = .ok (.iload 4, 2) := by decide +kernel
theorem dX1_steps_68 : decode cX1_steps 68 = .ok (.iaload, 1) := by decide +kernel
theorem dX1_steps_69 : decode cX1_steps 69 = .ok (.aload_n 0, 1) := by decide +kernel
theorem dX1_steps_70 : decode cX1_steps 70 = .ok (.getfield 25, 3) := by decide +kernel
theorem dX1_steps_73 : decode cX1_steps 73 = .ok (.iload 4, 2) := by decide +kernel
theorem dX1_steps_75 : decode cX1_steps 75 = .ok (.iaload, 1) := by decide +kernel
theorem dX1_steps_76 : decode cX1_steps 76 = .ok (.iadd, 1) := by decide +kernel
theorem dX1_steps_77 : decode cX1_steps 77 = .ok (.imul, 1) := by decide +kernel
theorem dX1_steps_78 : decode cX1_steps 78 = .ok (.iadd, 1) := by decide +kernel
theorem dX1_steps_79 : decode cX1_steps 79 = .ok (.iload_n 3, 1) := by decide +kernel
theorem dX1_steps_80 : decode cX1_steps 80 = .ok (.imul, 1) := by decide +kernel
theorem dX1_steps_81 : decode cX1_steps 81 = .ok (.bipush 50, 2) := by decide +kernel
theorem dX1_steps_83 : decode cX1_steps 83 = .ok (.iadd, 1) := by decide +kernel
theorem dX1_steps_84 : decode cX1_steps 84 = .ok (.bipush 100, 2) := by decide +kernel
theorem dX1_steps_86 : decode cX1_steps 86 = .ok (.idiv, 1) := by decide +kernel
theorem dX1_steps_87 : decode cX1_steps 87 = .ok (.istore 5, 2) := by decide +kernel
theorem dX1_steps_89 : decode cX1_steps 89 = .ok (.aload_n 0, 1) := by decide +kernel
theorem dX1_steps_90 : decode cX1_steps 90 = .ok (.getfield 13, 3) := by decide +kernel
theorem dX1_steps_93 : decode cX1_steps 93 = .ok (.iload 4, 2) := by decide +kernel
theorem dX1_steps_95 : decode cX1_steps 95 = .ok (.iload 5, 2) := by decide +kernel
theorem dX1_steps_97 : decode cX1_steps 97 = .ok (.iconst 1, 1) := by decide +kernel
theorem dX1_steps_98 : decode cX1_steps 98 = .ok (.if_icmp .ge 7, 3) := by decide +kernel
theorem dX1_steps_101 : decode cX1_steps 101 = .ok (.iconst 1, 1) := by decide +kernel
theorem dX1_steps_102 : decode cX1_steps 102 = .ok (.goto 19, 3) := by decide +kernel
theorem dX1_steps_105 : decode cX1_steps 105 = .ok (.iload 5, 2) := by decide +kernel
theorem dX1_steps_107 : decode cX1_steps 107 = .ok (.sipush 255, 3) := by decide +kernel
theorem dX1_steps_110 : decode cX1_steps 110 = .ok (.if_icmp .le 9, 3) := by decide +kernel
theorem dX1_steps_113 : decode cX1_steps 113 = .ok (.sipush 255, 3) := by decide +kernel
theorem dX1_steps_116 : decode cX1_steps 116 = .ok (.goto 5, 3) := by decide +kernel
theorem dX1_steps_119 : decode cX1_steps 119 = .ok (.iload 5, 2) := by decide +kernel
theorem dX1_steps_121 : decode cX1_steps 121 = .ok (.iastore, 1) := by decide +kernel
theorem dX1_steps_122 : decode cX1_steps 122 = .ok (.iinc 4 1, 3) := by decide +kernel
theorem dX1_steps_125 : decode cX1_steps 125 = .ok (.goto (-79), 3) := by decide +kernel
theorem dX1_steps_128 : decode cX1_steps 128 = .ok (.return_, 1) := by decide +kernel
theorem dX1_row_0 : decode cX1_row 0 = .ok (.aload_n 0, 1) := by decide +kernel
theorem dX1_row_1 : decode cX1_row 1 = .ok (.iload_n 1, 1) := by decide +kernel
theorem dX1_row_2 : decode cX1_row 2 = .ok (.ifCond .lt 9, 3) := by decide +kernel
theorem dX1_row_5 : decode cX1_row 5 = .ok (.iload_n 1, 1) := by decide +kernel
theorem dX1_row_6 : decode cX1_row 6 = .ok (.bipush 7, 2) := by decide +kernel
theorem dX1_row_8 : decode cX1_row 8 = .ok (.if_icmp .le 7, 3) := by decide +kernel
theorem dX1_row_11 : decode cX1_row 11 = .ok (.iconst 1, 1) := by decide +kernel
theorem dX1_row_12 : decode cX1_row 12 = .ok (.goto 4, 3) := by decide +kernel
theorem dX1_row_15 : decode cX1_row 15 = .ok (.iconst 0, 1) := by decide +kernel
theorem dX1_row_16 : decode cX1_row 16 = .ok (.putfield 32, 3) := by decide +kernel
theorem dX1_row_19 : decode cX1_row 19 = .ok (.iconst 0, 1) := by decide +kernel
theorem dX1_row_20 : decode cX1_row 20 = .ok (.istore 4, 2) := by decide +kernel
theorem dX1_row_22 : decode cX1_row 22 = .ok (.iload 4, 2) := by decide +kernel
theorem dX1_row_24 : decode cX1_row 24 = .ok (.bipush 8, 2) := by decide +kernel
theorem dX1_row_26 : decode cX1_row 26 = .ok (.if_icmp .ge 43, 3) := by decide +kernel
theorem dX1_row_29 : decode cX1_row 29 = .ok (.aload_n 0, 1) := by decide +kernel
theorem dX1_row_30 : decode cX1_row 30 = .ok (.getfield 32, 3) := by decide +kernel
theorem dX1_row_33 : decode cX1_row 33 = .ok (.ifCond .ne 36, 3) := by decide +kernel
theorem dX1_row_36 : decode cX1_row 36 = .ok (.aload_n 0, 1) := by decide +kernel
theorem dX1_row_37 : decode cX1_row 37 = .ok (.getfield 16, 3) := by decide +kernel
theorem dX1_row_40 : decode cX1_row 40 = .ok (.bipush 8, 2) := by decide +kernel
theorem dX1_row_42 : decode cX1_row 42 = .ok (.iload_n 1, 1) := by decide +kernel
theorem dX1_row_43 : decode cX1_row 43 = .ok (.imul, 1) := by decide +kernel
theorem dX1_row_44 : decode cX1_row 44 = .ok (.iload 4, 2) := by decide +kernel
theorem dX1_row_46 : decode cX1_row 46 = .ok (.iadd, 1) := by decide +kernel
theorem dX1_row_47 : decode cX1_row 47 = .ok (.lload_n 2, 1) := by decide +kernel
theorem dX1_row_48 : decode cX1_row 48 = .ok (.bipush 56, 2) := by decide +kernel
theorem dX1_row_50 : decode cX1_row 50 = .ok (.bipush 8, 2) := by decide +kernel
theorem dX1_row_52 : decode cX1_row 52 = .ok (.iload 4, 2) := by decide +kernel
theorem dX1_row_54 : decode cX1_row 54 = .ok (.imul, 1) := by decide +kernel
theorem dX1_row_55 : decode cX1_row 55 = .ok (.isub, 1) := by decide +kernel
theorem dX1_row_56 : decode cX1_row 56 = .ok (.lshr, 1) := by decide +kernel
theorem dX1_row_57 : decode cX1_row 57 = .ok (.ldc2_w 44, 3) := by decide +kernel
theorem dX1_row_60 : decode cX1_row 60 = .ok (.land, 1) := by decide +kernel
theorem dX1_row_61 : decode cX1_row 61 = .ok (.l2i, 1) := by decide +kernel
theorem dX1_row_62 : decode cX1_row 62 = .ok (.iastore, 1) := by decide +kernel
theorem dX1_row_63 : decode cX1_row 63 = .ok (.iinc 4 1, 3) := by decide +kernel
theorem dX1_row_66 : decode cX1_row 66 = .ok (.goto (-44), 3) := by decide +kernel
theorem dX1_row_69 : decode cX1_row 69 = .ok (.return_, 1) := by decide +kernel
set_option maxHeartbeats 4000000 in
set_option maxRecDepth 100000 in
/-- the reference: clear -/
theorem n_clear (l : Launch) (D : va_G) (y : Nat → Nat) (ce : Nat → ClassId) (th : Int32) (r0 r1 r2 r3 dn ac : Nat → Int32) (sm : Nat → Int64) (sz : Nat) : Met l yX1_clear wsX1_clear ({ frames := 0, cells := 0, slots := 0, locals := 0 } : Room) (va_Pc [.ref (y 0)] (crw D (mw y ce th r0 r1 r2 r3 dn ac sm) (mty ce) sz)) (va_Qv (fun (u9 : Int32 × (Nat → Int32)) => match u9 with | (t9, u) => t9 = 0 ∧ ∀ j, j < 64 → u j = 0) (fun (u9 : Int32 × (Nat → Int32)) (t : State) => match u9 with | (t9, u) => crB D (mw y ce t9 u r1 r2 r3 dn ac sm) (mty ce) (va_A (mw y ce th r0 r1 r2 r3 dn ac sm) sz) t) (va_A (mw y ce th r0 r1 r2 r3 dn ac sm) sz)) 0 0 (va_A (mw y ce th r0 r1 r2 r3 dn ac sm) sz) := by
  refine Met.ofW (cc := cX1_clear) (maxL := 2) (ret := none) (by decide) rfl ?_
  intro p e s m args below meth c s₁ B hml hv
  obtain ⟨rfl, hsz, hP, hK, hD0, hTb⟩ := hv
  have hx := B.exec
  have hb := B.bytes
  have hr := B.returns
  have hts : ∀ w ∈ wA, w.before _ s = true := fun w h => atoms_spec (ws := wsX1_clear) B.pre w (List.mem_cons_of_mem _ h)
  have hown : s.vm.findClass RX1 = some m.cls := findClass_of_methodNamed B.named
  have hlocks := B.notSynchronized
  subst hsz
  have hD := hD0.self (sz := s.heap.size)
  generalize hAe : va_A (mw y ce th r0 r1 r2 r3 dn ac sm) s.heap.size = A at hD hTb ⊢
  have hA : ∀ q : Nat, s.heap.size ≤ q → A q := fun q h => by rw [← hAe]; exact Or.inr h
  have hS : va_S A s.heap s.heap [] := va_S.rf
  have hin1 := inA1
  have hf32 := (hts _ wm_302)
  have hf7 := (hts _ wm_303)
  have hl := lv_entry ([.ref (y 0)]) (n := 2) (Nat.le_of_ble_eq_true rfl)
  rw [lg_entry_eq]
  generalize (lg_sl ([.ref (y 0)]) ++ List.replicate (2 - (lg_sl ([.ref (y 0)])).length) Slot.unset).toArray = ls at hl ⊢
  have hl : lv_has ls 2 [(0, .ref (y 0))] := hl
  refine lv_aload_n hx hb dX1_clear_0 rfl (lv_at hl 0 rfl) ?_
  refine lv_iconst (v := (0 : Int32)) hx hb dX1_clear_1 (by decide +kernel) ?_
  refine va_put (D := D) (ci := 1) (v := .int (0 : Int32)) (ty := .int) (C := RX1) (T := TX1) (N := 8) hx hb hts hin1 tyX1 tyX1_ok nmX1 hown hK hP hD hS 0 rfl rfl 0 (by decide) hf32 (fun _ h9 => h9) rfl (by decide +kernel) rfl rfl (Nat.le_of_ble_eq_true rfl) dX1_clear_2 (fun H locs hP hD hS => ?_)
  have hP : va_P D vwCl (mw y ce (0 : Int32) r0 r1 r2 r3 dn ac sm) H := hP
  have hD : va_D A (mw y ce (0 : Int32) r0 r1 r2 r3 dn ac sm) := hD
  refine lv_iconst (v := (0 : Int32)) hx hb dX1_clear_5 (by decide +kernel) ?_
  refine lv_istore_n (lv' := [(1, .int (0 : Int32)), (0, .ref (y 0))]) hx hb dX1_clear_6 rfl hl (by decide) rfl (fun ls hl => ?_)
  have L7 : ∀ (n : Nat) (i9 : Nat) (w9 : Nat → Int32) (H : Heap) (locs : List Loc) (ls : Array Slot), (64 - i9) < n → (i9 ≤ 64) → (∀ j, j < i9 → w9 j = 0) → va_P D vwCl (mw y ce (0 : Int32) w9 r1 r2 r3 dn ac sm) H → va_D A (mw y ce (0 : Int32) w9 r1 r2 r3 dn ac sm) → va_S A s.heap H locs → lv_has ls 2 [(0, .ref (y 0)), (1, .int (nI i9))] → W p l e ((headSpec wsX1_clear ({ frames := 0, cells := 0, slots := 0, locals := 0 } : Room)).room) s m (([.ref (y 0)] : List Value).toArray) below meth c H locs 0 0 (MQ below (va_Qv (fun (u9 : Int32 × (Nat → Int32)) => match u9 with | (t9, u) => t9 = 0 ∧ ∀ j, j < 64 → u j = 0) (fun (u9 : Int32 × (Nat → Int32)) (t : State) => match u9 with | (t9, u) => crB D (mw y ce t9 u r1 r2 r3 dn ac sm) (mty ce) A t) A) ([.ref (y 0)] : List Value).toArray s 0 0 A) (F0 m 7 ls []) := by
    intro n
    induction n with
    | zero =>
      intro i9 w9 H locs ls hn
      exact absurd hn (Nat.not_lt_zero _)
    | succ n ih7 =>
      intro i9 w9 H locs ls hn7 hi9 hw9 hP hD hS hl
      refine lv_iload_n hx hb dX1_clear_7 rfl (lv_at hl 1 rfl) ?_
      refine lv_bipush (v := (64 : Int32)) hx hb dX1_clear_8 (by decide +kernel) ?_
      refine cx_icmp_ge (i := ((i9 : Nat) : Int)) (j := 64) (tgt := 26) hx hb (nI_toInt (by omega)) (by decide +kernel) dX1_clear_10 (by decide) (fun c_1 => ?_) (fun c_1 => ?_)
      · exact W.vret hx hb hr (fun t ht hW => ⟨⟨((0 : Int32), w9), rfl, (by obtain rfl : i9 = 64 := (by omega); exact ⟨rfl, hw9⟩), by rw [ht]; exact hP, va_K.moved hW.alike hK, hD⟩, hS.F ht⟩) hS.2.2 dX1_clear_26
      · refine lv_aload_n hx hb dX1_clear_13 rfl (lv_at hl 0 rfl) ?_
        refine va_get (D := D) (ci := 1) (v := .ref (y 1)) (C := RX1) (T := TX1) (N := 8) hx hb hts hin1 hown hK hP 0 rfl rfl 1 (by decide) hf7 (fun _ h9 => h9) rfl dX1_clear_14 ?_
        refine lv_iload_n hx hb dX1_clear_17 rfl (lv_at hl 1 rfl) ?_
        refine lv_iconst (v := (0 : Int32)) hx hb dX1_clear_18 (by decide +kernel) ?_
        refine cx_iast hx hb hK hP hD hS 1 0 rfl rfl i9 (by omega) (by decide) dX1_clear_19 (fun H locs hP hD hS => ?_)
        have hP : va_P D vwCl (mw y ce (0 : Int32) (upd w9 i9 (0 : Int32)) r1 r2 r3 dn ac sm) H := hP
        have hD : va_D A (mw y ce (0 : Int32) (upd w9 i9 (0 : Int32)) r1 r2 r3 dn ac sm) := hD
        refine lv_iinc (v := nI (i9 + 1)) (lv' := [(1, .int (nI (i9 + 1))), (0, .ref (y 0))]) hx hb dX1_clear_20 hl (k := 1) rfl (by show nI i9 + 1 = nI (i9 + 1); exact nI_add i9 1) (by decide) rfl (fun ls hl => ?_)
        refine lv_goto (tgt := 7) hx hb dX1_clear_23 (by decide) ?_
        exact ih7 (i9 + 1) (upd w9 i9 (0 : Int32)) _ _ _ (by omega) (by omega) (upd_step (P := fun (j : Nat) (v : Int32) => v = 0) hw9 rfl) hP hD hS (lv_sub hl [1, 0] rfl)
  exact L7 _ 0 r0 _ _ _ (Nat.lt_succ_self _) (Nat.zero_le _) (fun j hj => absurd hj (Nat.not_lt_zero j)) hP hD hS (lv_sub hl [1, 0] rfl)
set_option maxHeartbeats 4000000 in
set_option maxRecDepth 100000 in
/-- the reference: keep -/
theorem n_keep (l : Launch) (D : va_G) (y : Nat → Nat) (ce : Nat → ClassId) (th : Int32) (r0 r1 r2 r3 dn ac : Nat → Int32) (sm : Nat → Int64) (sz : Nat) : Met l yX1_keep wsX1_keep ({ frames := 0, cells := 0, slots := 0, locals := 0 } : Room) (va_Pc [.ref (y 0)] (crw D (mw y ce th r0 r1 r2 r3 dn ac sm) (mty ce) sz)) (va_Qv (fun (u9 : Int32 × (Nat → Int32)) => match u9 with | (t9, u) => t9 = 0 ∧ ∀ j, j < 64 → u j = r2 j) (fun (u9 : Int32 × (Nat → Int32)) (t : State) => match u9 with | (t9, u) => crB D (mw y ce t9 r0 r1 r2 u dn ac sm) (mty ce) (va_A (mw y ce th r0 r1 r2 r3 dn ac sm) sz) t) (va_A (mw y ce th r0 r1 r2 r3 dn ac sm) sz)) 0 0 (va_A (mw y ce th r0 r1 r2 r3 dn ac sm) sz) := by
  refine Met.ofW (cc := cX1_keep) (maxL := 2) (ret := none) (by decide) rfl ?_
  intro p e s m args below meth c s₁ B hml hv
  obtain ⟨rfl, hsz, hP, hK, hD0, hTb⟩ := hv
  have hx := B.exec
  have hb := B.bytes
  have hr := B.returns
  have hts : ∀ w ∈ wA, w.before _ s = true := fun w h => atoms_spec (ws := wsX1_keep) B.pre w (List.mem_cons_of_mem _ h)
  have hown : s.vm.findClass RX1 = some m.cls := findClass_of_methodNamed B.named
  have hlocks := B.notSynchronized
  subst hsz
  have hD := hD0.self (sz := s.heap.size)
  generalize hAe : va_A (mw y ce th r0 r1 r2 r3 dn ac sm) s.heap.size = A at hD hTb ⊢
  have hA : ∀ q : Nat, s.heap.size ≤ q → A q := fun q h => by rw [← hAe]; exact Or.inr h
  have hS : va_S A s.heap s.heap [] := va_S.rf
  have hin1 := inA1
  have hf32 := (hts _ wm_302)
  have hf19 := (hts _ wm_306)
  have hf16 := (hts _ wm_305)
  have hl := lv_entry ([.ref (y 0)]) (n := 2) (Nat.le_of_ble_eq_true rfl)
  rw [lg_entry_eq]
  generalize (lg_sl ([.ref (y 0)]) ++ List.replicate (2 - (lg_sl ([.ref (y 0)])).length) Slot.unset).toArray = ls at hl ⊢
  have hl : lv_has ls 2 [(0, .ref (y 0))] := hl
  refine lv_aload_n hx hb dX1_keep_0 rfl (lv_at hl 0 rfl) ?_
  refine lv_iconst (v := (0 : Int32)) hx hb dX1_keep_1 (by decide +kernel) ?_
  refine va_put (D := D) (ci := 1) (v := .int (0 : Int32)) (ty := .int) (C := RX1) (T := TX1) (N := 8) hx hb hts hin1 tyX1 tyX1_ok nmX1 hown hK hP hD hS 0 rfl rfl 0 (by decide) hf32 (fun _ h9 => h9) rfl (by decide +kernel) rfl rfl (Nat.le_of_ble_eq_true rfl) dX1_keep_2 (fun H locs hP hD hS => ?_)
  have hP : va_P D vwCl (mw y ce (0 : Int32) r0 r1 r2 r3 dn ac sm) H := hP
  have hD : va_D A (mw y ce (0 : Int32) r0 r1 r2 r3 dn ac sm) := hD
  refine lv_iconst (v := (0 : Int32)) hx hb dX1_keep_5 (by decide +kernel) ?_
  refine lv_istore_n (lv' := [(1, .int (0 : Int32)), (0, .ref (y 0))]) hx hb dX1_keep_6 rfl hl (by decide) rfl (fun ls hl => ?_)
  have L7 : ∀ (n : Nat) (i9 : Nat) (w9 : Nat → Int32) (H : Heap) (locs : List Loc) (ls : Array Slot), (64 - i9) < n → (i9 ≤ 64) → (∀ j, j < i9 → w9 j = r2 j) → va_P D vwCl (mw y ce (0 : Int32) r0 r1 r2 w9 dn ac sm) H → va_D A (mw y ce (0 : Int32) r0 r1 r2 w9 dn ac sm) → va_S A s.heap H locs → lv_has ls 2 [(0, .ref (y 0)), (1, .int (nI i9))] → W p l e ((headSpec wsX1_keep ({ frames := 0, cells := 0, slots := 0, locals := 0 } : Room)).room) s m (([.ref (y 0)] : List Value).toArray) below meth c H locs 0 0 (MQ below (va_Qv (fun (u9 : Int32 × (Nat → Int32)) => match u9 with | (t9, u) => t9 = 0 ∧ ∀ j, j < 64 → u j = r2 j) (fun (u9 : Int32 × (Nat → Int32)) (t : State) => match u9 with | (t9, u) => crB D (mw y ce t9 r0 r1 r2 u dn ac sm) (mty ce) A t) A) ([.ref (y 0)] : List Value).toArray s 0 0 A) (F0 m 7 ls []) := by
    intro n
    induction n with
    | zero =>
      intro i9 w9 H locs ls hn
      exact absurd hn (Nat.not_lt_zero _)
    | succ n ih7 =>
      intro i9 w9 H locs ls hn7 hi9 hw9 hP hD hS hl
      refine lv_iload_n hx hb dX1_keep_7 rfl (lv_at hl 1 rfl) ?_
      refine lv_bipush (v := (64 : Int32)) hx hb dX1_keep_8 (by decide +kernel) ?_
      refine cx_icmp_ge (i := ((i9 : Nat) : Int)) (j := 64) (tgt := 31) hx hb (nI_toInt (by omega)) (by decide +kernel) dX1_keep_10 (by decide) (fun c_1 => ?_) (fun c_1 => ?_)
      · exact W.vret hx hb hr (fun t ht hW => ⟨⟨((0 : Int32), w9), rfl, (by obtain rfl : i9 = 64 := (by omega); exact ⟨rfl, hw9⟩), by rw [ht]; exact hP, va_K.moved hW.alike hK, hD⟩, hS.F ht⟩) hS.2.2 dX1_keep_31
      · refine lv_aload_n hx hb dX1_keep_13 rfl (lv_at hl 0 rfl) ?_
        refine va_get (D := D) (ci := 1) (v := .ref (y 4)) (C := RX1) (T := TX1) (N := 8) hx hb hts hin1 hown hK hP 0 rfl rfl 4 (by decide) hf19 (fun _ h9 => h9) rfl dX1_keep_14 ?_
        refine lv_iload_n hx hb dX1_keep_17 rfl (lv_at hl 1 rfl) ?_
        refine lv_aload_n hx hb dX1_keep_18 rfl (lv_at hl 0 rfl) ?_
        refine va_get (D := D) (ci := 1) (v := .ref (y 3)) (C := RX1) (T := TX1) (N := 8) hx hb hts hin1 hown hK hP 0 rfl rfl 3 (by decide) hf16 (fun _ h9 => h9) rfl dX1_keep_19 ?_
        refine lv_iload_n hx hb dX1_keep_22 rfl (lv_at hl 1 rfl) ?_
        refine cx_iald hx hb hK hP 3 2 rfl rfl i9 (by omega) (by decide) dX1_keep_23 ?_
        refine cx_iast hx hb hK hP hD hS 4 3 rfl rfl i9 (by omega) (by decide) dX1_keep_24 (fun H locs hP hD hS => ?_)
        have hP : va_P D vwCl (mw y ce (0 : Int32) r0 r1 r2 (upd w9 i9 (r2 i9)) dn ac sm) H := hP
        have hD : va_D A (mw y ce (0 : Int32) r0 r1 r2 (upd w9 i9 (r2 i9)) dn ac sm) := hD
        refine lv_iinc (v := nI (i9 + 1)) (lv' := [(1, .int (nI (i9 + 1))), (0, .ref (y 0))]) hx hb dX1_keep_25 hl (k := 1) rfl (by show nI i9 + 1 = nI (i9 + 1); exact nI_add i9 1) (by decide) rfl (fun ls hl => ?_)
        refine lv_goto (tgt := 7) hx hb dX1_keep_28 (by decide) ?_
        exact ih7 (i9 + 1) (upd w9 i9 (r2 i9)) _ _ _ (by omega) (by omega) (upd_step (P := fun (j : Nat) (v : Int32) => v = r2 j) hw9 rfl) hP hD hS (lv_sub hl [1, 0] rfl)
  exact L7 _ 0 r3 _ _ _ (Nat.lt_succ_self _) (Nat.zero_le _) (fun j hj => absurd hj (Nat.not_lt_zero j)) hP hD hS (lv_sub hl [1, 0] rfl)
set_option maxHeartbeats 4000000 in
set_option maxRecDepth 100000 in
/-- the reference: put -/
theorem n_put (l : Launch) (D : va_G) (y : Nat → Nat) (ce : Nat → ClassId) (th : Int32) (r0 r1 r2 r3 dn ac : Nat → Int32) (sm : Nat → Int64) (q v9 : Int32) (sz : Nat) : Met l yX1_put wsX1_put ({ frames := 1, cells := 0, slots := 0, locals := 20 } : Room) (va_Pc [.ref (y 0), .int q, .int v9] (crw D (mw y ce th r0 r1 r2 r3 dn ac sm) (mty ce) sz)) (va_Qv (fun (u9 : Int32 × (Nat → Int32)) => match u9 with | (t9, u) => (t9 = 0 ∧ (0 ≤ q.toInt ∧ q.toInt < 64) ∧ (-32768 ≤ v9.toInt ∧ v9.toInt ≤ 32767) ∧ u = upd r0 q.toInt.toNat v9) ∨ (t9 = 1 ∧ ¬ (0 ≤ q.toInt ∧ q.toInt < 64) ∧ u = r0) ∨ (t9 = 2 ∧ (0 ≤ q.toInt ∧ q.toInt < 64) ∧ ¬ (-32768 ≤ v9.toInt ∧ v9.toInt ≤ 32767) ∧ u = r0)) (fun (u9 : Int32 × (Nat → Int32)) (t : State) => match u9 with | (t9, u) => crB D (mw y ce t9 u r1 r2 r3 dn ac sm) (mty ce) (va_A (mw y ce th r0 r1 r2 r3 dn ac sm) sz) t) (va_A (mw y ce th r0 r1 r2 r3 dn ac sm) sz)) 0 0 (va_A (mw y ce th r0 r1 r2 r3 dn ac sm) sz) := by
  refine Met.ofW (cc := cX1_put) (maxL := 3) (ret := none) (by decide) rfl ?_
  intro p e s m args below meth c s₁ B hml hv
  obtain ⟨rfl, hsz, hP, hK, hD0, hTb⟩ := hv
  have hx := B.exec
  have hb := B.bytes
  have hr := B.returns
  have hts : ∀ w ∈ wA, w.before _ s = true := fun w h => atoms_spec (ws := wsX1_put) B.pre w (List.mem_cons_of_mem _ h)
  have hown : s.vm.findClass RX1 = some m.cls := findClass_of_methodNamed B.named
  have hlocks := B.notSynchronized
  subst hsz
  have hD := hD0.self (sz := s.heap.size)
  generalize hAe : va_A (mw y ce th r0 r1 r2 r3 dn ac sm) s.heap.size = A at hD hTb ⊢
  have hA : ∀ q : Nat, s.heap.size ≤ q → A q := fun q h => by rw [← hAe]; exact Or.inr h
  have hS : va_S A s.heap s.heap [] := va_S.rf
  have hin1 := inA1
  have hf32 := (hts _ wm_302)
  have hf7 := (hts _ wm_303)
  have hl := lv_entry ([.ref (y 0), .int q, .int v9]) (n := 3) (Nat.le_of_ble_eq_true rfl)
  rw [lg_entry_eq]
  generalize (lg_sl ([.ref (y 0), .int q, .int v9]) ++ List.replicate (3 - (lg_sl ([.ref (y 0), .int q, .int v9])).length) Slot.unset).toArray = ls at hl ⊢
  have hl : lv_has ls 3 [(0, .ref (y 0)), (1, .int q), (2, .int v9)] := hl
  refine lv_aload_n hx hb dX1_put_0 rfl (lv_at hl 0 rfl) ?_
  refine lv_iload_n hx hb dX1_put_1 rfl (lv_at hl 1 rfl) ?_
  refine vp_callSi (W.runS (As := [.int q]) (rest := [.ref (y 0)]) ⟨hx, hb, hml, hown, hts⟩ (n_isPlace l D q) (va_cwS 1 hts (gw_S wm_335 wm_336 wm_13 wm_337) rfl rfl rfl (by decide +kernel) ⟨Nat.le_of_ble_eq_true rfl, Nat.le_of_ble_eq_true rfl⟩) ⟨cro_blind, fun U hU hW => ⟨rfl, cro_at (hP.sub (ws' := []) [] rfl) (hK.sub (tys' := []) [] rfl) hTb hS hU hW⟩⟩ rfl rfl hl.1 rfl (lv_room (Nat.le_of_ble_eq_true rfl)) dX1_put_2 ⟨Nat.le_of_ble_eq_true rfl, Nat.le_of_ble_eq_true rfl⟩) (fun r_1 hr_1 => ?_)
  rcases hr_1 with ⟨rfl, ha9, hb9⟩ | ⟨rfl, ha9⟩
  · refine cx_if_ne (i := 1) (j := 0) (tgt := 12) hx hb (by decide +kernel) rfl dX1_put_5 (by decide) (fun c_2 => ?_) (fun c_2 => absurd c_2 (by decide))
    refine lv_iload_n hx hb dX1_put_12 rfl (lv_at hl 2 rfl) ?_
    refine lv_sipush (v := (-32768 : Int32)) hx hb dX1_put_13 (by decide +kernel) ?_
    refine cx_icmp_lt (i := v9.toInt) (j := (-32768)) (tgt := 26) hx hb rfl (by decide +kernel) dX1_put_16 (by decide) (fun c_3 => ?_) (fun c_3 => ?_)
    · refine lv_iconst (v := (2 : Int32)) hx hb dX1_put_26 (by decide +kernel) ?_
      refine lv_goto (tgt := 31) hx hb dX1_put_27 (by decide) ?_
      refine va_put (D := D) (ci := 1) (v := .int (2 : Int32)) (ty := .int) (C := RX1) (T := TX1) (N := 8) hx hb hts hin1 tyX1 tyX1_ok nmX1 hown hK hP hD hS 0 rfl rfl 0 (by decide) hf32 (fun _ h9 => h9) rfl (by decide +kernel) rfl rfl (Nat.le_of_ble_eq_true rfl) dX1_put_31 (fun H locs hP hD hS => ?_)
      have hP : va_P D vwCl (mw y ce (2 : Int32) r0 r1 r2 r3 dn ac sm) H := hP
      have hD : va_D A (mw y ce (2 : Int32) r0 r1 r2 r3 dn ac sm) := hD
      refine lv_aload_n hx hb dX1_put_34 rfl (lv_at hl 0 rfl) ?_
      refine va_get (D := D) (ci := 1) (v := .int (2 : Int32)) (C := RX1) (T := TX1) (N := 8) hx hb hts hin1 hown hK hP 0 rfl rfl 0 (by decide) hf32 (fun _ h9 => h9) rfl dX1_put_35 ?_
      refine cx_if_ne (i := 2) (j := 0) (tgt := 48) hx hb (by decide +kernel) rfl dX1_put_38 (by decide) (fun c_4 => ?_) (fun c_4 => absurd c_4 (by decide))
      exact W.vret hx hb hr (fun t ht hW => ⟨⟨((2 : Int32), r0), rfl, Or.inr (Or.inr ⟨rfl, by omega, by omega, rfl⟩), by rw [ht]; exact hP, va_K.moved hW.alike hK, hD⟩, hS.F ht⟩) hS.2.2 dX1_put_48
    · refine lv_iload_n hx hb dX1_put_19 rfl (lv_at hl 2 rfl) ?_
      refine lv_sipush (v := (32767 : Int32)) hx hb dX1_put_20 (by decide +kernel) ?_
      refine cx_icmp_le (i := v9.toInt) (j := 32767) (tgt := 30) hx hb rfl (by decide +kernel) dX1_put_23 (by decide) (fun c_5 => ?_) (fun c_5 => ?_)
      · refine lv_iconst (v := (0 : Int32)) hx hb dX1_put_30 (by decide +kernel) ?_
        refine va_put (D := D) (ci := 1) (v := .int (0 : Int32)) (ty := .int) (C := RX1) (T := TX1) (N := 8) hx hb hts hin1 tyX1 tyX1_ok nmX1 hown hK hP hD hS 0 rfl rfl 0 (by decide) hf32 (fun _ h9 => h9) rfl (by decide +kernel) rfl rfl (Nat.le_of_ble_eq_true rfl) dX1_put_31 (fun H locs hP hD hS => ?_)
        have hP : va_P D vwCl (mw y ce (0 : Int32) r0 r1 r2 r3 dn ac sm) H := hP
        have hD : va_D A (mw y ce (0 : Int32) r0 r1 r2 r3 dn ac sm) := hD
        refine lv_aload_n hx hb dX1_put_34 rfl (lv_at hl 0 rfl) ?_
        refine va_get (D := D) (ci := 1) (v := .int (0 : Int32)) (C := RX1) (T := TX1) (N := 8) hx hb hts hin1 hown hK hP 0 rfl rfl 0 (by decide) hf32 (fun _ h9 => h9) rfl dX1_put_35 ?_
        refine cx_if_ne (i := 0) (j := 0) (tgt := 48) hx hb (by decide +kernel) rfl dX1_put_38 (by decide) (fun c_6 => absurd c_6 (by decide)) (fun c_6 => ?_)
        obtain ⟨j9, hj9, hej⟩ := cx_ofN (x := q) (n := 64) (by omega) (by omega) (by decide)
        have e_7 : q = nI j9 := hej
        rw [e_7] at hl
        refine lv_aload_n hx hb dX1_put_41 rfl (lv_at hl 0 rfl) ?_
        refine va_get (D := D) (ci := 1) (v := .ref (y 1)) (C := RX1) (T := TX1) (N := 8) hx hb hts hin1 hown hK hP 0 rfl rfl 1 (by decide) hf7 (fun _ h9 => h9) rfl dX1_put_42 ?_
        refine lv_iload_n hx hb dX1_put_45 rfl (lv_at hl 1 rfl) ?_
        refine lv_iload_n hx hb dX1_put_46 rfl (lv_at hl 2 rfl) ?_
        refine cx_iast hx hb hK hP hD hS 1 0 rfl rfl j9 (by omega) (by decide) dX1_put_47 (fun H locs hP hD hS => ?_)
        have hP : va_P D vwCl (mw y ce (0 : Int32) (upd r0 j9 v9) r1 r2 r3 dn ac sm) H := hP
        have hD : va_D A (mw y ce (0 : Int32) (upd r0 j9 v9) r1 r2 r3 dn ac sm) := hD
        exact W.vret hx hb hr (fun t ht hW => ⟨⟨((0 : Int32), upd r0 j9 v9), rfl, Or.inl ⟨rfl, by omega, by omega, by rw [hej, cx_toNat (by omega)]⟩, by rw [ht]; exact hP, va_K.moved hW.alike hK, hD⟩, hS.F ht⟩) hS.2.2 dX1_put_48
      · refine lv_iconst (v := (2 : Int32)) hx hb dX1_put_26 (by decide +kernel) ?_
        refine lv_goto (tgt := 31) hx hb dX1_put_27 (by decide) ?_
        refine va_put (D := D) (ci := 1) (v := .int (2 : Int32)) (ty := .int) (C := RX1) (T := TX1) (N := 8) hx hb hts hin1 tyX1 tyX1_ok nmX1 hown hK hP hD hS 0 rfl rfl 0 (by decide) hf32 (fun _ h9 => h9) rfl (by decide +kernel) rfl rfl (Nat.le_of_ble_eq_true rfl) dX1_put_31 (fun H locs hP hD hS => ?_)
        have hP : va_P D vwCl (mw y ce (2 : Int32) r0 r1 r2 r3 dn ac sm) H := hP
        have hD : va_D A (mw y ce (2 : Int32) r0 r1 r2 r3 dn ac sm) := hD
        refine lv_aload_n hx hb dX1_put_34 rfl (lv_at hl 0 rfl) ?_
        refine va_get (D := D) (ci := 1) (v := .int (2 : Int32)) (C := RX1) (T := TX1) (N := 8) hx hb hts hin1 hown hK hP 0 rfl rfl 0 (by decide) hf32 (fun _ h9 => h9) rfl dX1_put_35 ?_
        refine cx_if_ne (i := 2) (j := 0) (tgt := 48) hx hb (by decide +kernel) rfl dX1_put_38 (by decide) (fun c_8 => ?_) (fun c_8 => absurd c_8 (by decide))
        exact W.vret hx hb hr (fun t ht hW => ⟨⟨((2 : Int32), r0), rfl, Or.inr (Or.inr ⟨rfl, by omega, by omega, rfl⟩), by rw [ht]; exact hP, va_K.moved hW.alike hK, hD⟩, hS.F ht⟩) hS.2.2 dX1_put_48
  · refine cx_if_ne (i := 0) (j := 0) (tgt := 12) hx hb (by decide +kernel) rfl dX1_put_5 (by decide) (fun c_9 => absurd c_9 (by decide)) (fun c_9 => ?_)
    refine lv_iconst (v := (1 : Int32)) hx hb dX1_put_8 (by decide +kernel) ?_
    refine lv_goto (tgt := 31) hx hb dX1_put_9 (by decide) ?_
    refine va_put (D := D) (ci := 1) (v := .int (1 : Int32)) (ty := .int) (C := RX1) (T := TX1) (N := 8) hx hb hts hin1 tyX1 tyX1_ok nmX1 hown hK hP hD hS 0 rfl rfl 0 (by decide) hf32 (fun _ h9 => h9) rfl (by decide +kernel) rfl rfl (Nat.le_of_ble_eq_true rfl) dX1_put_31 (fun H locs hP hD hS => ?_)
    have hP : va_P D vwCl (mw y ce (1 : Int32) r0 r1 r2 r3 dn ac sm) H := hP
    have hD : va_D A (mw y ce (1 : Int32) r0 r1 r2 r3 dn ac sm) := hD
    refine lv_aload_n hx hb dX1_put_34 rfl (lv_at hl 0 rfl) ?_
    refine va_get (D := D) (ci := 1) (v := .int (1 : Int32)) (C := RX1) (T := TX1) (N := 8) hx hb hts hin1 hown hK hP 0 rfl rfl 0 (by decide) hf32 (fun _ h9 => h9) rfl dX1_put_35 ?_
    refine cx_if_ne (i := 1) (j := 0) (tgt := 48) hx hb (by decide +kernel) rfl dX1_put_38 (by decide) (fun c_10 => ?_) (fun c_10 => absurd c_10 (by decide))
    exact W.vret hx hb hr (fun t ht hW => ⟨⟨((1 : Int32), r0), rfl, Or.inr (Or.inl ⟨rfl, by omega, rfl⟩), by rw [ht]; exact hP, va_K.moved hW.alike hK, hD⟩, hS.F ht⟩) hS.2.2 dX1_put_48
set_option maxHeartbeats 4000000 in
set_option maxRecDepth 100000 in
/-- the reference: step -/
theorem n_step (l : Launch) (D : va_G) (y : Nat → Nat) (ce : Nat → ClassId) (th : Int32) (r0 r1 r2 r3 dn ac : Nat → Int32) (sm : Nat → Int64) (q v9 : Int32) (sz : Nat) : Met l yX1_step wsX1_step ({ frames := 1, cells := 0, slots := 0, locals := 20 } : Room) (va_Pc [.ref (y 0), .int q, .int v9] (crw D (mw y ce th r0 r1 r2 r3 dn ac sm) (mty ce) sz)) (va_Qv (fun (u9 : Int32 × (Nat → Int32)) => match u9 with | (t9, u) => (t9 = 0 ∧ (0 ≤ q.toInt ∧ q.toInt < 64) ∧ (1 ≤ v9.toInt ∧ v9.toInt ≤ 255) ∧ u = upd r1 q.toInt.toNat v9) ∨ (t9 = 1 ∧ ¬ (0 ≤ q.toInt ∧ q.toInt < 64) ∧ u = r1) ∨ (t9 = 2 ∧ (0 ≤ q.toInt ∧ q.toInt < 64) ∧ ¬ (1 ≤ v9.toInt ∧ v9.toInt ≤ 255) ∧ u = r1)) (fun (u9 : Int32 × (Nat → Int32)) (t : State) => match u9 with | (t9, u) => crB D (mw y ce t9 r0 u r2 r3 dn ac sm) (mty ce) (va_A (mw y ce th r0 r1 r2 r3 dn ac sm) sz) t) (va_A (mw y ce th r0 r1 r2 r3 dn ac sm) sz)) 0 0 (va_A (mw y ce th r0 r1 r2 r3 dn ac sm) sz) := by
  refine Met.ofW (cc := cX1_step) (maxL := 3) (ret := none) (by decide) rfl ?_
  intro p e s m args below meth c s₁ B hml hv
  obtain ⟨rfl, hsz, hP, hK, hD0, hTb⟩ := hv
  have hx := B.exec
  have hb := B.bytes
  have hr := B.returns
  have hts : ∀ w ∈ wA, w.before _ s = true := fun w h => atoms_spec (ws := wsX1_step) B.pre w (List.mem_cons_of_mem _ h)
  have hown : s.vm.findClass RX1 = some m.cls := findClass_of_methodNamed B.named
  have hlocks := B.notSynchronized
  subst hsz
  have hD := hD0.self (sz := s.heap.size)
  generalize hAe : va_A (mw y ce th r0 r1 r2 r3 dn ac sm) s.heap.size = A at hD hTb ⊢
  have hA : ∀ q : Nat, s.heap.size ≤ q → A q := fun q h => by rw [← hAe]; exact Or.inr h
  have hS : va_S A s.heap s.heap [] := va_S.rf
  have hin1 := inA1
  have hf32 := (hts _ wm_302)
  have hf13 := (hts _ wm_304)
  have hl := lv_entry ([.ref (y 0), .int q, .int v9]) (n := 3) (Nat.le_of_ble_eq_true rfl)
  rw [lg_entry_eq]
  generalize (lg_sl ([.ref (y 0), .int q, .int v9]) ++ List.replicate (3 - (lg_sl ([.ref (y 0), .int q, .int v9])).length) Slot.unset).toArray = ls at hl ⊢
  have hl : lv_has ls 3 [(0, .ref (y 0)), (1, .int q), (2, .int v9)] := hl
  refine lv_aload_n hx hb dX1_step_0 rfl (lv_at hl 0 rfl) ?_
  refine lv_iload_n hx hb dX1_step_1 rfl (lv_at hl 1 rfl) ?_
  refine vp_callSi (W.runS (As := [.int q]) (rest := [.ref (y 0)]) ⟨hx, hb, hml, hown, hts⟩ (n_isPlace l D q) (va_cwS 1 hts (gw_S wm_335 wm_336 wm_13 wm_337) rfl rfl rfl (by decide +kernel) ⟨Nat.le_of_ble_eq_true rfl, Nat.le_of_ble_eq_true rfl⟩) ⟨cro_blind, fun U hU hW => ⟨rfl, cro_at (hP.sub (ws' := []) [] rfl) (hK.sub (tys' := []) [] rfl) hTb hS hU hW⟩⟩ rfl rfl hl.1 rfl (lv_room (Nat.le_of_ble_eq_true rfl)) dX1_step_2 ⟨Nat.le_of_ble_eq_true rfl, Nat.le_of_ble_eq_true rfl⟩) (fun r_1 hr_1 => ?_)
  rcases hr_1 with ⟨rfl, ha9, hb9⟩ | ⟨rfl, ha9⟩
  · refine cx_if_ne (i := 1) (j := 0) (tgt := 12) hx hb (by decide +kernel) rfl dX1_step_5 (by decide) (fun c_2 => ?_) (fun c_2 => absurd c_2 (by decide))
    refine lv_iload_n hx hb dX1_step_12 rfl (lv_at hl 2 rfl) ?_
    refine lv_iconst (v := (1 : Int32)) hx hb dX1_step_13 (by decide +kernel) ?_
    refine cx_icmp_lt (i := v9.toInt) (j := 1) (tgt := 24) hx hb rfl (by decide +kernel) dX1_step_14 (by decide) (fun c_3 => ?_) (fun c_3 => ?_)
    · refine lv_iconst (v := (2 : Int32)) hx hb dX1_step_24 (by decide +kernel) ?_
      refine lv_goto (tgt := 29) hx hb dX1_step_25 (by decide) ?_
      refine va_put (D := D) (ci := 1) (v := .int (2 : Int32)) (ty := .int) (C := RX1) (T := TX1) (N := 8) hx hb hts hin1 tyX1 tyX1_ok nmX1 hown hK hP hD hS 0 rfl rfl 0 (by decide) hf32 (fun _ h9 => h9) rfl (by decide +kernel) rfl rfl (Nat.le_of_ble_eq_true rfl) dX1_step_29 (fun H locs hP hD hS => ?_)
      have hP : va_P D vwCl (mw y ce (2 : Int32) r0 r1 r2 r3 dn ac sm) H := hP
      have hD : va_D A (mw y ce (2 : Int32) r0 r1 r2 r3 dn ac sm) := hD
      refine lv_aload_n hx hb dX1_step_32 rfl (lv_at hl 0 rfl) ?_
      refine va_get (D := D) (ci := 1) (v := .int (2 : Int32)) (C := RX1) (T := TX1) (N := 8) hx hb hts hin1 hown hK hP 0 rfl rfl 0 (by decide) hf32 (fun _ h9 => h9) rfl dX1_step_33 ?_
      refine cx_if_ne (i := 2) (j := 0) (tgt := 46) hx hb (by decide +kernel) rfl dX1_step_36 (by decide) (fun c_4 => ?_) (fun c_4 => absurd c_4 (by decide))
      exact W.vret hx hb hr (fun t ht hW => ⟨⟨((2 : Int32), r1), rfl, Or.inr (Or.inr ⟨rfl, by omega, by omega, rfl⟩), by rw [ht]; exact hP, va_K.moved hW.alike hK, hD⟩, hS.F ht⟩) hS.2.2 dX1_step_46
    · refine lv_iload_n hx hb dX1_step_17 rfl (lv_at hl 2 rfl) ?_
      refine lv_sipush (v := (255 : Int32)) hx hb dX1_step_18 (by decide +kernel) ?_
      refine cx_icmp_le (i := v9.toInt) (j := 255) (tgt := 28) hx hb rfl (by decide +kernel) dX1_step_21 (by decide) (fun c_5 => ?_) (fun c_5 => ?_)
      · refine lv_iconst (v := (0 : Int32)) hx hb dX1_step_28 (by decide +kernel) ?_
        refine va_put (D := D) (ci := 1) (v := .int (0 : Int32)) (ty := .int) (C := RX1) (T := TX1) (N := 8) hx hb hts hin1 tyX1 tyX1_ok nmX1 hown hK hP hD hS 0 rfl rfl 0 (by decide) hf32 (fun _ h9 => h9) rfl (by decide +kernel) rfl rfl (Nat.le_of_ble_eq_true rfl) dX1_step_29 (fun H locs hP hD hS => ?_)
        have hP : va_P D vwCl (mw y ce (0 : Int32) r0 r1 r2 r3 dn ac sm) H := hP
        have hD : va_D A (mw y ce (0 : Int32) r0 r1 r2 r3 dn ac sm) := hD
        refine lv_aload_n hx hb dX1_step_32 rfl (lv_at hl 0 rfl) ?_
        refine va_get (D := D) (ci := 1) (v := .int (0 : Int32)) (C := RX1) (T := TX1) (N := 8) hx hb hts hin1 hown hK hP 0 rfl rfl 0 (by decide) hf32 (fun _ h9 => h9) rfl dX1_step_33 ?_
        refine cx_if_ne (i := 0) (j := 0) (tgt := 46) hx hb (by decide +kernel) rfl dX1_step_36 (by decide) (fun c_6 => absurd c_6 (by decide)) (fun c_6 => ?_)
        obtain ⟨j9, hj9, hej⟩ := cx_ofN (x := q) (n := 64) (by omega) (by omega) (by decide)
        have e_7 : q = nI j9 := hej
        rw [e_7] at hl
        refine lv_aload_n hx hb dX1_step_39 rfl (lv_at hl 0 rfl) ?_
        refine va_get (D := D) (ci := 1) (v := .ref (y 2)) (C := RX1) (T := TX1) (N := 8) hx hb hts hin1 hown hK hP 0 rfl rfl 2 (by decide) hf13 (fun _ h9 => h9) rfl dX1_step_40 ?_
        refine lv_iload_n hx hb dX1_step_43 rfl (lv_at hl 1 rfl) ?_
        refine lv_iload_n hx hb dX1_step_44 rfl (lv_at hl 2 rfl) ?_
        refine cx_iast hx hb hK hP hD hS 2 1 rfl rfl j9 (by omega) (by decide) dX1_step_45 (fun H locs hP hD hS => ?_)
        have hP : va_P D vwCl (mw y ce (0 : Int32) r0 (upd r1 j9 v9) r2 r3 dn ac sm) H := hP
        have hD : va_D A (mw y ce (0 : Int32) r0 (upd r1 j9 v9) r2 r3 dn ac sm) := hD
        exact W.vret hx hb hr (fun t ht hW => ⟨⟨((0 : Int32), upd r1 j9 v9), rfl, Or.inl ⟨rfl, by omega, by omega, by rw [hej, cx_toNat (by omega)]⟩, by rw [ht]; exact hP, va_K.moved hW.alike hK, hD⟩, hS.F ht⟩) hS.2.2 dX1_step_46
      · refine lv_iconst (v := (2 : Int32)) hx hb dX1_step_24 (by decide +kernel) ?_
        refine lv_goto (tgt := 29) hx hb dX1_step_25 (by decide) ?_
        refine va_put (D := D) (ci := 1) (v := .int (2 : Int32)) (ty := .int) (C := RX1) (T := TX1) (N := 8) hx hb hts hin1 tyX1 tyX1_ok nmX1 hown hK hP hD hS 0 rfl rfl 0 (by decide) hf32 (fun _ h9 => h9) rfl (by decide +kernel) rfl rfl (Nat.le_of_ble_eq_true rfl) dX1_step_29 (fun H locs hP hD hS => ?_)
        have hP : va_P D vwCl (mw y ce (2 : Int32) r0 r1 r2 r3 dn ac sm) H := hP
        have hD : va_D A (mw y ce (2 : Int32) r0 r1 r2 r3 dn ac sm) := hD
        refine lv_aload_n hx hb dX1_step_32 rfl (lv_at hl 0 rfl) ?_
        refine va_get (D := D) (ci := 1) (v := .int (2 : Int32)) (C := RX1) (T := TX1) (N := 8) hx hb hts hin1 hown hK hP 0 rfl rfl 0 (by decide) hf32 (fun _ h9 => h9) rfl dX1_step_33 ?_
        refine cx_if_ne (i := 2) (j := 0) (tgt := 46) hx hb (by decide +kernel) rfl dX1_step_36 (by decide) (fun c_8 => ?_) (fun c_8 => absurd c_8 (by decide))
        exact W.vret hx hb hr (fun t ht hW => ⟨⟨((2 : Int32), r1), rfl, Or.inr (Or.inr ⟨rfl, by omega, by omega, rfl⟩), by rw [ht]; exact hP, va_K.moved hW.alike hK, hD⟩, hS.F ht⟩) hS.2.2 dX1_step_46
  · refine cx_if_ne (i := 0) (j := 0) (tgt := 12) hx hb (by decide +kernel) rfl dX1_step_5 (by decide) (fun c_9 => absurd c_9 (by decide)) (fun c_9 => ?_)
    refine lv_iconst (v := (1 : Int32)) hx hb dX1_step_8 (by decide +kernel) ?_
    refine lv_goto (tgt := 29) hx hb dX1_step_9 (by decide) ?_
    refine va_put (D := D) (ci := 1) (v := .int (1 : Int32)) (ty := .int) (C := RX1) (T := TX1) (N := 8) hx hb hts hin1 tyX1 tyX1_ok nmX1 hown hK hP hD hS 0 rfl rfl 0 (by decide) hf32 (fun _ h9 => h9) rfl (by decide +kernel) rfl rfl (Nat.le_of_ble_eq_true rfl) dX1_step_29 (fun H locs hP hD hS => ?_)
    have hP : va_P D vwCl (mw y ce (1 : Int32) r0 r1 r2 r3 dn ac sm) H := hP
    have hD : va_D A (mw y ce (1 : Int32) r0 r1 r2 r3 dn ac sm) := hD
    refine lv_aload_n hx hb dX1_step_32 rfl (lv_at hl 0 rfl) ?_
    refine va_get (D := D) (ci := 1) (v := .int (1 : Int32)) (C := RX1) (T := TX1) (N := 8) hx hb hts hin1 hown hK hP 0 rfl rfl 0 (by decide) hf32 (fun _ h9 => h9) rfl dX1_step_33 ?_
    refine cx_if_ne (i := 1) (j := 0) (tgt := 46) hx hb (by decide +kernel) rfl dX1_step_36 (by decide) (fun c_10 => ?_) (fun c_10 => absurd c_10 (by decide))
    exact W.vret hx hb hr (fun t ht hW => ⟨⟨((1 : Int32), r1), rfl, Or.inr (Or.inl ⟨rfl, by omega, rfl⟩), by rw [ht]; exact hP, va_K.moved hW.alike hK, hD⟩, hS.F ht⟩) hS.2.2 dX1_step_46
set_option maxHeartbeats 4000000 in
set_option maxRecDepth 100000 in
/-- the reference: steps -/
theorem n_steps (l : Launch) (D : va_G) (y : Nat → Nat) (ce : Nat → ClassId) (th : Int32) (r0 r1 r2 r3 dn ac : Nat → Int32) (sm : Nat → Int64) (hdn : dnOk dn ac) (b9 s9 p9 : Int32) (sz : Nat) : Met l yX1_steps wsX1_steps ({ frames := 0, cells := 0, slots := 0, locals := 0 } : Room) (va_Pc [.ref (y 0), .int b9, .int s9, .int p9] (crw D (mw y ce th r0 r1 r2 r3 dn ac sm) (mty ce) sz)) (va_Qv (fun (u9 : Int32 × (Nat → Int32)) => match u9 with | (t9, u) => (t9 = 0 ∧ ((1 ≤ b9.toInt ∧ b9.toInt ≤ 255) ∧ (0 ≤ s9.toInt ∧ s9.toInt ≤ 32) ∧ (1 ≤ p9.toInt ∧ p9.toInt ≤ 5000)) ∧ ∀ j, j < 64 → u j = stV b9 s9 p9 (cCn j / 8) (cCn j % 8)) ∨ (t9 = 1 ∧ ¬ ((1 ≤ b9.toInt ∧ b9.toInt ≤ 255) ∧ (0 ≤ s9.toInt ∧ s9.toInt ≤ 32) ∧ (1 ≤ p9.toInt ∧ p9.toInt ≤ 5000)) ∧ u = r1)) (fun (u9 : Int32 × (Nat → Int32)) (t : State) => match u9 with | (t9, u) => crB D (mw y ce t9 r0 u r2 r3 dn ac sm) (mty ce) (va_A (mw y ce th r0 r1 r2 r3 dn ac sm) sz) t) (va_A (mw y ce th r0 r1 r2 r3 dn ac sm) sz)) 0 0 (va_A (mw y ce th r0 r1 r2 r3 dn ac sm) sz) := by
  refine Met.ofW (cc := cX1_steps) (maxL := 6) (ret := none) (by decide) rfl ?_
  intro p e s m args below meth c s₁ B hml hv
  obtain ⟨rfl, hsz, hP, hK, hD0, hTb⟩ := hv
  have hx := B.exec
  have hb := B.bytes
  have hr := B.returns
  have hts : ∀ w ∈ wA, w.before _ s = true := fun w h => atoms_spec (ws := wsX1_steps) B.pre w (List.mem_cons_of_mem _ h)
  have hown : s.vm.findClass RX1 = some m.cls := findClass_of_methodNamed B.named
  have hlocks := B.notSynchronized
  subst hsz
  have hD := hD0.self (sz := s.heap.size)
  generalize hAe : va_A (mw y ce th r0 r1 r2 r3 dn ac sm) s.heap.size = A at hD hTb ⊢
  have hA : ∀ q : Nat, s.heap.size ≤ q → A q := fun q h => by rw [← hAe]; exact Or.inr h
  have hS : va_S A s.heap s.heap [] := va_S.rf
  have hin1 := inA1
  have hf32 := (hts _ wm_302)
  have hf22 := (hts _ wm_307)
  have hf25 := (hts _ wm_308)
  have hf13 := (hts _ wm_304)
  have hl := lv_entry ([.ref (y 0), .int b9, .int s9, .int p9]) (n := 6) (Nat.le_of_ble_eq_true rfl)
  rw [lg_entry_eq]
  generalize (lg_sl ([.ref (y 0), .int b9, .int s9, .int p9]) ++ List.replicate (6 - (lg_sl ([.ref (y 0), .int b9, .int s9, .int p9])).length) Slot.unset).toArray = ls at hl ⊢
  have hl : lv_has ls 6 [(0, .ref (y 0)), (1, .int b9), (2, .int s9), (3, .int p9)] := hl
  have J40 : ∀ (tv : Int32), ((tv = 0 ∧ (1 ≤ b9.toInt ∧ b9.toInt ≤ 255) ∧ (0 ≤ s9.toInt ∧ s9.toInt ≤ 32) ∧ (1 ≤ p9.toInt ∧ p9.toInt ≤ 5000)) ∨ (tv = 1 ∧ ¬ ((1 ≤ b9.toInt ∧ b9.toInt ≤ 255) ∧ (0 ≤ s9.toInt ∧ s9.toInt ≤ 32) ∧ (1 ≤ p9.toInt ∧ p9.toInt ≤ 5000)))) → W p l e ((headSpec wsX1_steps ({ frames := 0, cells := 0, slots := 0, locals := 0 } : Room)).room) s m (([.ref (y 0), .int b9, .int s9, .int p9] : List Value).toArray) below meth c s.heap [] 0 0 (MQ below (va_Qv (fun (u9 : Int32 × (Nat → Int32)) => match u9 with | (t9, u) => (t9 = 0 ∧ ((1 ≤ b9.toInt ∧ b9.toInt ≤ 255) ∧ (0 ≤ s9.toInt ∧ s9.toInt ≤ 32) ∧ (1 ≤ p9.toInt ∧ p9.toInt ≤ 5000)) ∧ ∀ j, j < 64 → u j = stV b9 s9 p9 (cCn j / 8) (cCn j % 8)) ∨ (t9 = 1 ∧ ¬ ((1 ≤ b9.toInt ∧ b9.toInt ≤ 255) ∧ (0 ≤ s9.toInt ∧ s9.toInt ≤ 32) ∧ (1 ≤ p9.toInt ∧ p9.toInt ≤ 5000)) ∧ u = r1)) (fun (u9 : Int32 × (Nat → Int32)) (t : State) => match u9 with | (t9, u) => crB D (mw y ce t9 r0 u r2 r3 dn ac sm) (mty ce) A t) A) ([.ref (y 0), .int b9, .int s9, .int p9] : List Value).toArray s 0 0 A) (F0 m 40 ls [.int tv, .ref (y 0)]) := by
    intro tv htv
    rcases htv with ⟨rfl, hok⟩ | ⟨rfl, hno⟩
    · skip
      refine va_put (D := D) (ci := 1) (v := .int (0 : Int32)) (ty := .int) (C := RX1) (T := TX1) (N := 8) hx hb hts hin1 tyX1 tyX1_ok nmX1 hown hK hP hD hS 0 rfl rfl 0 (by decide) hf32 (fun _ h9 => h9) rfl (by decide +kernel) rfl rfl (Nat.le_of_ble_eq_true rfl) dX1_steps_40 (fun H locs hP hD hS => ?_)
      have hP : va_P D vwCl (mw y ce (0 : Int32) r0 r1 r2 r3 dn ac sm) H := hP
      have hD : va_D A (mw y ce (0 : Int32) r0 r1 r2 r3 dn ac sm) := hD
      refine lv_iconst (v := (0 : Int32)) hx hb dX1_steps_43 (by decide +kernel) ?_
      refine lv_istore (lv' := [(4, .int (0 : Int32)), (0, .ref (y 0)), (1, .int b9), (2, .int s9), (3, .int p9)]) hx hb dX1_steps_44 hl (by decide) rfl (fun ls hl => ?_)
      have L46 : ∀ (n : Nat) (k9 : Nat) (w9 : Nat → Int32) (H : Heap) (locs : List Loc) (ls : Array Slot), (64 - k9) < n → (k9 ≤ 64) → (∀ j, j < k9 → w9 j = stV b9 s9 p9 (cCn j / 8) (cCn j % 8)) → va_P D vwCl (mw y ce (0 : Int32) r0 w9 r2 r3 dn ac sm) H → va_D A (mw y ce (0 : Int32) r0 w9 r2 r3 dn ac sm) → va_S A s.heap H locs → lv_has ls 6 [(0, .ref (y 0)), (1, .int b9), (2, .int s9), (3, .int p9), (4, .int (nI k9))] → W p l e ((headSpec wsX1_steps ({ frames := 0, cells := 0, slots := 0, locals := 0 } : Room)).room) s m (([.ref (y 0), .int b9, .int s9, .int p9] : List Value).toArray) below meth c H locs 0 0 (MQ below (va_Qv (fun (u9 : Int32 × (Nat → Int32)) => match u9 with | (t9, u) => (t9 = 0 ∧ ((1 ≤ b9.toInt ∧ b9.toInt ≤ 255) ∧ (0 ≤ s9.toInt ∧ s9.toInt ≤ 32) ∧ (1 ≤ p9.toInt ∧ p9.toInt ≤ 5000)) ∧ ∀ j, j < 64 → u j = stV b9 s9 p9 (cCn j / 8) (cCn j % 8)) ∨ (t9 = 1 ∧ ¬ ((1 ≤ b9.toInt ∧ b9.toInt ≤ 255) ∧ (0 ≤ s9.toInt ∧ s9.toInt ≤ 32) ∧ (1 ≤ p9.toInt ∧ p9.toInt ≤ 5000)) ∧ u = r1)) (fun (u9 : Int32 × (Nat → Int32)) (t : State) => match u9 with | (t9, u) => crB D (mw y ce t9 r0 u r2 r3 dn ac sm) (mty ce) A t) A) ([.ref (y 0), .int b9, .int s9, .int p9] : List Value).toArray s 0 0 A) (F0 m 46 ls []) := by
        intro n
        induction n with
        | zero =>
          intro k9 w9 H locs ls hn
          exact absurd hn (Nat.not_lt_zero _)
        | succ n ih46 =>
          intro k9 w9 H locs ls hn46 hk9 hw9 hP hD hS hl
          refine lv_iload hx hb dX1_steps_46 (lv_at hl 4 rfl) ?_
          refine lv_bipush (v := (64 : Int32)) hx hb dX1_steps_48 (by decide +kernel) ?_
          refine cx_icmp_ge (i := ((k9 : Nat) : Int)) (j := 64) (tgt := 128) hx hb (nI_toInt (by omega)) (by decide +kernel) dX1_steps_50 (by decide) (fun c_1 => ?_) (fun c_1 => ?_)
          · exact W.vret hx hb hr (fun t ht hW => ⟨⟨((0 : Int32), w9), rfl, (by obtain rfl : k9 = 64 := (by omega); exact Or.inl ⟨rfl, hok, hw9⟩), by rw [ht]; exact hP, va_K.moved hW.alike hK, hD⟩, hS.F ht⟩) hS.2.2 dX1_steps_128
          · refine lv_aload_n hx hb dX1_steps_53 rfl (lv_at hl 0 rfl) ?_
            refine va_get (D := D) (ci := 1) (v := .int (0 : Int32)) (C := RX1) (T := TX1) (N := 8) hx hb hts hin1 hown hK hP 0 rfl rfl 0 (by decide) hf32 (fun _ h9 => h9) rfl dX1_steps_54 ?_
            refine cx_if_ne (i := 0) (j := 0) (tgt := 128) hx hb (by decide +kernel) rfl dX1_steps_57 (by decide) (fun c_2 => absurd c_2 (by decide)) (fun c_2 => ?_)
            refine lv_iload_n hx hb dX1_steps_60 rfl (lv_at hl 1 rfl) ?_
            refine lv_iload_n hx hb dX1_steps_61 rfl (lv_at hl 2 rfl) ?_
            refine lv_aload_n hx hb dX1_steps_62 rfl (lv_at hl 0 rfl) ?_
            refine va_get (D := D) (ci := 1) (v := .ref (y 5)) (C := RX1) (T := TX1) (N := 8) hx hb hts hin1 hown hK hP 0 rfl rfl 5 (by decide) hf22 (fun _ h9 => h9) rfl dX1_steps_63 ?_
            refine lv_iload hx hb dX1_steps_66 (lv_at hl 4 rfl) ?_
            refine cx_iald hx hb hK hP 5 4 rfl rfl k9 (by omega) (by decide) dX1_steps_68 ?_
            have e_3 : dn k9 = nI (cCn k9 / 8) := (hdn k9 (by omega)).1
            rw [e_3]
            refine lv_aload_n hx hb dX1_steps_69 rfl (lv_at hl 0 rfl) ?_
            refine va_get (D := D) (ci := 1) (v := .ref (y 6)) (C := RX1) (T := TX1) (N := 8) hx hb hts hin1 hown hK hP 0 rfl rfl 6 (by decide) hf25 (fun _ h9 => h9) rfl dX1_steps_70 ?_
            refine lv_iload hx hb dX1_steps_73 (lv_at hl 4 rfl) ?_
            refine cx_iald hx hb hK hP 6 5 rfl rfl k9 (by omega) (by decide) dX1_steps_75 ?_
            have e_4 : ac k9 = nI (cCn k9 % 8) := (hdn k9 (by omega)).2
            rw [e_4]
            refine cx_iadd hx hb (cCn k9 / 8) (cCn k9 % 8) dX1_steps_76 ?_
            rw [show cCn k9 / 8 + (cCn k9 % 8) = cCn k9 % 8 + cCn k9 / 8 from by omega]
            refine lv_imul hx hb dX1_steps_77 ?_
            refine lv_iadd hx hb dX1_steps_78 ?_
            refine lv_iload_n hx hb dX1_steps_79 rfl (lv_at hl 3 rfl) ?_
            refine lv_imul hx hb dX1_steps_80 ?_
            refine lv_bipush (v := (50 : Int32)) hx hb dX1_steps_81 (by decide +kernel) ?_
            refine lv_iadd hx hb dX1_steps_83 ?_
            refine lv_bipush (v := (100 : Int32)) hx hb dX1_steps_84 (by decide +kernel) ?_
            refine lv_idiv hx hb dX1_steps_86 (by decide +kernel) ?_
            refine lv_istore (lv' := [(5, .int ((((b9 + (s9 * (nI (cCn k9 % 8 + cCn k9 / 8)))) * p9) + (50 : Int32)) / (100 : Int32))), (0, .ref (y 0)), (1, .int b9), (2, .int s9), (3, .int p9), (4, .int (nI k9))]) hx hb dX1_steps_87 hl (by decide) rfl (fun ls hl => ?_)
            refine lv_aload_n hx hb dX1_steps_89 rfl (lv_at hl 1 rfl) ?_
            refine va_get (D := D) (ci := 1) (v := .ref (y 2)) (C := RX1) (T := TX1) (N := 8) hx hb hts hin1 hown hK hP 0 rfl rfl 2 (by decide) hf13 (fun _ h9 => h9) rfl dX1_steps_90 ?_
            refine lv_iload hx hb dX1_steps_93 (lv_at hl 5 rfl) ?_
            have J121 : ∀ (tc : Int32), (tc = clampV (((((b9 + (s9 * (nI (cCn k9 % 8 + cCn k9 / 8)))) * p9) + (50 : Int32)) / (100 : Int32))).toInt64 1 255) → W p l e ((headSpec wsX1_steps ({ frames := 0, cells := 0, slots := 0, locals := 0 } : Room)).room) s m (([.ref (y 0), .int b9, .int s9, .int p9] : List Value).toArray) below meth c H locs 0 0 (MQ below (va_Qv (fun (u9 : Int32 × (Nat → Int32)) => match u9 with | (t9, u) => (t9 = 0 ∧ ((1 ≤ b9.toInt ∧ b9.toInt ≤ 255) ∧ (0 ≤ s9.toInt ∧ s9.toInt ≤ 32) ∧ (1 ≤ p9.toInt ∧ p9.toInt ≤ 5000)) ∧ ∀ j, j < 64 → u j = stV b9 s9 p9 (cCn j / 8) (cCn j % 8)) ∨ (t9 = 1 ∧ ¬ ((1 ≤ b9.toInt ∧ b9.toInt ≤ 255) ∧ (0 ≤ s9.toInt ∧ s9.toInt ≤ 32) ∧ (1 ≤ p9.toInt ∧ p9.toInt ≤ 5000)) ∧ u = r1)) (fun (u9 : Int32 × (Nat → Int32)) (t : State) => match u9 with | (t9, u) => crB D (mw y ce t9 r0 u r2 r3 dn ac sm) (mty ce) A t) A) ([.ref (y 0), .int b9, .int s9, .int p9] : List Value).toArray s 0 0 A) (F0 m 121 ls [.int tc, .int (nI k9), .ref (y 2)]) := by
              intro tc hcl
              refine cx_iast hx hb hK hP hD hS 2 1 rfl rfl k9 (by omega) (by decide) dX1_steps_121 (fun H locs hP hD hS => ?_)
              have hP : va_P D vwCl (mw y ce (0 : Int32) r0 (upd w9 k9 tc) r2 r3 dn ac sm) H := hP
              have hD : va_D A (mw y ce (0 : Int32) r0 (upd w9 k9 tc) r2 r3 dn ac sm) := hD
              refine lv_iinc (v := nI (k9 + 1)) (lv' := [(4, .int (nI (k9 + 1))), (5, .int ((((b9 + (s9 * (nI (cCn k9 % 8 + cCn k9 / 8)))) * p9) + (50 : Int32)) / (100 : Int32))), (0, .ref (y 0)), (1, .int b9), (2, .int s9), (3, .int p9)]) hx hb dX1_steps_122 hl (k := 5) rfl (by show nI k9 + 1 = nI (k9 + 1); exact nI_add k9 1) (by decide) rfl (fun ls hl => ?_)
              refine lv_goto (tgt := 46) hx hb dX1_steps_125 (by decide) ?_
              exact ih46 (k9 + 1) (upd w9 k9 tc) _ _ _ (by omega) (by omega) (upd_step (P := fun (j : Nat) (v : Int32) => v = stV b9 s9 p9 (cCn j / 8) (cCn j % 8)) hw9 (by rw [hcl]; rfl)) hP hD hS (lv_sub hl [2, 3, 4, 5, 0] rfl)
            refine lv_iload hx hb dX1_steps_95 (lv_at hl 0 rfl) ?_
            refine lv_iconst (v := (1 : Int32)) hx hb dX1_steps_97 (by decide +kernel) ?_
            refine cx_icmp_ge (i := ((((b9 + (s9 * (nI (cCn k9 % 8 + cCn k9 / 8)))) * p9) + (50 : Int32)) / (100 : Int32)).toInt) (j := 1) (tgt := 105) hx hb rfl (by decide +kernel) dX1_steps_98 (by decide) (fun c_5 => ?_) (fun c_5 => ?_)
            · refine lv_iload hx hb dX1_steps_105 (lv_at hl 0 rfl) ?_
              refine lv_sipush (v := (255 : Int32)) hx hb dX1_steps_107 (by decide +kernel) ?_
              refine cx_icmp_le (i := ((((b9 + (s9 * (nI (cCn k9 % 8 + cCn k9 / 8)))) * p9) + (50 : Int32)) / (100 : Int32)).toInt) (j := 255) (tgt := 119) hx hb rfl (by decide +kernel) dX1_steps_110 (by decide) (fun c_6 => ?_) (fun c_6 => ?_)
              · refine lv_iload hx hb dX1_steps_119 (lv_at hl 0 rfl) ?_
                exact J121 ((((b9 + (s9 * (nI (cCn k9 % 8 + cCn k9 / 8)))) * p9) + (50 : Int32)) / (100 : Int32)) (by rw [← clampI_eq, if_neg (by omega), if_neg (by omega)])
              · refine lv_sipush (v := (255 : Int32)) hx hb dX1_steps_113 (by decide +kernel) ?_
                refine lv_goto (tgt := 121) hx hb dX1_steps_116 (by decide) ?_
                exact J121 (255 : Int32) (by rw [← clampI_eq, if_neg (by omega), if_pos (by omega)])
            · refine lv_iconst (v := (1 : Int32)) hx hb dX1_steps_101 (by decide +kernel) ?_
              refine lv_goto (tgt := 121) hx hb dX1_steps_102 (by decide) ?_
              exact J121 (1 : Int32) (by rw [← clampI_eq, if_pos (by omega)])
      exact L46 _ 0 r1 _ _ _ (Nat.lt_succ_self _) (Nat.zero_le _) (fun j hj => absurd hj (Nat.not_lt_zero j)) hP hD hS (lv_sub hl [1, 2, 3, 4, 0] rfl)
    · skip
      refine va_put (D := D) (ci := 1) (v := .int (1 : Int32)) (ty := .int) (C := RX1) (T := TX1) (N := 8) hx hb hts hin1 tyX1 tyX1_ok nmX1 hown hK hP hD hS 0 rfl rfl 0 (by decide) hf32 (fun _ h9 => h9) rfl (by decide +kernel) rfl rfl (Nat.le_of_ble_eq_true rfl) dX1_steps_40 (fun H locs hP hD hS => ?_)
      have hP : va_P D vwCl (mw y ce (1 : Int32) r0 r1 r2 r3 dn ac sm) H := hP
      have hD : va_D A (mw y ce (1 : Int32) r0 r1 r2 r3 dn ac sm) := hD
      refine lv_iconst (v := (0 : Int32)) hx hb dX1_steps_43 (by decide +kernel) ?_
      refine lv_istore (lv' := [(4, .int (0 : Int32)), (0, .ref (y 0)), (1, .int b9), (2, .int s9), (3, .int p9)]) hx hb dX1_steps_44 hl (by decide) rfl (fun ls hl => ?_)
      refine lv_iload hx hb dX1_steps_46 (lv_at hl 0 rfl) ?_
      refine lv_bipush (v := (64 : Int32)) hx hb dX1_steps_48 (by decide +kernel) ?_
      refine cx_icmp_ge (i := 0) (j := 64) (tgt := 128) hx hb (by decide +kernel) (by decide +kernel) dX1_steps_50 (by decide) (fun c_7 => absurd c_7 (by decide)) (fun c_7 => ?_)
      refine lv_aload_n hx hb dX1_steps_53 rfl (lv_at hl 1 rfl) ?_
      refine va_get (D := D) (ci := 1) (v := .int (1 : Int32)) (C := RX1) (T := TX1) (N := 8) hx hb hts hin1 hown hK hP 0 rfl rfl 0 (by decide) hf32 (fun _ h9 => h9) rfl dX1_steps_54 ?_
      refine cx_if_ne (i := 1) (j := 0) (tgt := 128) hx hb (by decide +kernel) rfl dX1_steps_57 (by decide) (fun c_8 => ?_) (fun c_8 => absurd c_8 (by decide))
      exact W.vret hx hb hr (fun t ht hW => ⟨⟨((1 : Int32), r1), rfl, Or.inr ⟨rfl, hno, rfl⟩, by rw [ht]; exact hP, va_K.moved hW.alike hK, hD⟩, hS.F ht⟩) hS.2.2 dX1_steps_128
  refine lv_aload_n hx hb dX1_steps_0 rfl (lv_at hl 0 rfl) ?_
  refine lv_iload_n hx hb dX1_steps_1 rfl (lv_at hl 1 rfl) ?_
  refine lv_iconst (v := (1 : Int32)) hx hb dX1_steps_2 (by decide +kernel) ?_
  refine cx_icmp_lt (i := b9.toInt) (j := 1) (tgt := 35) hx hb rfl (by decide +kernel) dX1_steps_3 (by decide) (fun c_9 => ?_) (fun c_9 => ?_)
  · refine lv_iconst (v := (1 : Int32)) hx hb dX1_steps_35 (by decide +kernel) ?_
    refine lv_goto (tgt := 40) hx hb dX1_steps_36 (by decide) ?_
    exact J40 (1 : Int32) (Or.inr ⟨rfl, by omega⟩)
  · refine lv_iload_n hx hb dX1_steps_6 rfl (lv_at hl 1 rfl) ?_
    refine lv_sipush (v := (255 : Int32)) hx hb dX1_steps_7 (by decide +kernel) ?_
    refine cx_icmp_gt (i := b9.toInt) (j := 255) (tgt := 35) hx hb rfl (by decide +kernel) dX1_steps_10 (by decide) (fun c_10 => ?_) (fun c_10 => ?_)
    · refine lv_iconst (v := (1 : Int32)) hx hb dX1_steps_35 (by decide +kernel) ?_
      refine lv_goto (tgt := 40) hx hb dX1_steps_36 (by decide) ?_
      exact J40 (1 : Int32) (Or.inr ⟨rfl, by omega⟩)
    · refine lv_iload_n hx hb dX1_steps_13 rfl (lv_at hl 2 rfl) ?_
      refine cx_if_lt (i := s9.toInt) (j := 0) (tgt := 35) hx hb rfl rfl dX1_steps_14 (by decide) (fun c_11 => ?_) (fun c_11 => ?_)
      · refine lv_iconst (v := (1 : Int32)) hx hb dX1_steps_35 (by decide +kernel) ?_
        refine lv_goto (tgt := 40) hx hb dX1_steps_36 (by decide) ?_
        exact J40 (1 : Int32) (Or.inr ⟨rfl, by omega⟩)
      · refine lv_iload_n hx hb dX1_steps_17 rfl (lv_at hl 2 rfl) ?_
        refine lv_bipush (v := (32 : Int32)) hx hb dX1_steps_18 (by decide +kernel) ?_
        refine cx_icmp_gt (i := s9.toInt) (j := 32) (tgt := 35) hx hb rfl (by decide +kernel) dX1_steps_20 (by decide) (fun c_12 => ?_) (fun c_12 => ?_)
        · refine lv_iconst (v := (1 : Int32)) hx hb dX1_steps_35 (by decide +kernel) ?_
          refine lv_goto (tgt := 40) hx hb dX1_steps_36 (by decide) ?_
          exact J40 (1 : Int32) (Or.inr ⟨rfl, by omega⟩)
        · refine lv_iload_n hx hb dX1_steps_23 rfl (lv_at hl 3 rfl) ?_
          refine lv_iconst (v := (1 : Int32)) hx hb dX1_steps_24 (by decide +kernel) ?_
          refine cx_icmp_lt (i := p9.toInt) (j := 1) (tgt := 35) hx hb rfl (by decide +kernel) dX1_steps_25 (by decide) (fun c_13 => ?_) (fun c_13 => ?_)
          · refine lv_iconst (v := (1 : Int32)) hx hb dX1_steps_35 (by decide +kernel) ?_
            refine lv_goto (tgt := 40) hx hb dX1_steps_36 (by decide) ?_
            exact J40 (1 : Int32) (Or.inr ⟨rfl, by omega⟩)
          · refine lv_iload_n hx hb dX1_steps_28 rfl (lv_at hl 3 rfl) ?_
            refine lv_sipush (v := (5000 : Int32)) hx hb dX1_steps_29 (by decide +kernel) ?_
            refine cx_icmp_le (i := p9.toInt) (j := 5000) (tgt := 39) hx hb rfl (by decide +kernel) dX1_steps_32 (by decide) (fun c_14 => ?_) (fun c_14 => ?_)
            · refine lv_iconst (v := (0 : Int32)) hx hb dX1_steps_39 (by decide +kernel) ?_
              exact J40 (0 : Int32) (Or.inl ⟨rfl, by omega⟩)
            · refine lv_iconst (v := (1 : Int32)) hx hb dX1_steps_35 (by decide +kernel) ?_
              refine lv_goto (tgt := 40) hx hb dX1_steps_36 (by decide) ?_
              exact J40 (1 : Int32) (Or.inr ⟨rfl, by omega⟩)
set_option maxHeartbeats 4000000 in
set_option maxRecDepth 100000 in
/-- the reference: row -/
theorem n_row (l : Launch) (D : va_G) (y : Nat → Nat) (ce : Nat → ClassId) (th : Int32) (r0 r1 r2 r3 dn ac : Nat → Int32) (sm : Nat → Int64) (q : Int32) (e9 : Int64) (sz : Nat) : Met l yX1_row wsX1_row ({ frames := 0, cells := 0, slots := 0, locals := 0 } : Room) (va_Pc [.ref (y 0), .int q, .long e9] (crw D (mw y ce th r0 r1 r2 r3 dn ac sm) (mty ce) sz)) (va_Qv (fun (u9 : Int32 × (Nat → Int32)) => match u9 with | (t9, u) => (t9 = 0 ∧ (0 ≤ q.toInt ∧ q.toInt < 8) ∧ ∀ a b, a < 8 → b < 8 → u (a * 8 + b) = if a = q.toInt.toNat then rowR e9 b else r2 (a * 8 + b)) ∨ (t9 = 1 ∧ ¬ (0 ≤ q.toInt ∧ q.toInt < 8) ∧ u = r2)) (fun (u9 : Int32 × (Nat → Int32)) (t : State) => match u9 with | (t9, u) => crB D (mw y ce t9 r0 r1 u r3 dn ac sm) (mty ce) (va_A (mw y ce th r0 r1 r2 r3 dn ac sm) sz) t) (va_A (mw y ce th r0 r1 r2 r3 dn ac sm) sz)) 0 0 (va_A (mw y ce th r0 r1 r2 r3 dn ac sm) sz) := by
  refine Met.ofW (cc := cX1_row) (maxL := 5) (ret := none) (by decide) rfl ?_
  intro p e s m args below meth c s₁ B hml hv
  obtain ⟨rfl, hsz, hP, hK, hD0, hTb⟩ := hv
  have hx := B.exec
  have hb := B.bytes
  have hr := B.returns
  have hts : ∀ w ∈ wA, w.before _ s = true := fun w h => atoms_spec (ws := wsX1_row) B.pre w (List.mem_cons_of_mem _ h)
  have hown : s.vm.findClass RX1 = some m.cls := findClass_of_methodNamed B.named
  have hlocks := B.notSynchronized
  subst hsz
  have hD := hD0.self (sz := s.heap.size)
  generalize hAe : va_A (mw y ce th r0 r1 r2 r3 dn ac sm) s.heap.size = A at hD hTb ⊢
  have hA : ∀ q : Nat, s.heap.size ≤ q → A q := fun q h => by rw [← hAe]; exact Or.inr h
  have hS : va_S A s.heap s.heap [] := va_S.rf
  have hin1 := inA1
  have hf32 := (hts _ wm_302)
  have hf16 := (hts _ wm_305)
  have hl := lv_entry ([.ref (y 0), .int q, .long e9]) (n := 5) (Nat.le_of_ble_eq_true rfl)
  rw [lg_entry_eq]
  generalize (lg_sl ([.ref (y 0), .int q, .long e9]) ++ List.replicate (5 - (lg_sl ([.ref (y 0), .int q, .long e9])).length) Slot.unset).toArray = ls at hl ⊢
  have hl : lv_has ls 5 [(0, .ref (y 0)), (1, .int q), (2, .long e9)] := hl
  have J16 : ∀ (tv : Int32), ((tv = 0 ∧ (0 ≤ q.toInt ∧ q.toInt < 8)) ∨ (tv = 1 ∧ ¬ ((0 ≤ q.toInt ∧ q.toInt < 8)))) → W p l e ((headSpec wsX1_row ({ frames := 0, cells := 0, slots := 0, locals := 0 } : Room)).room) s m (([.ref (y 0), .int q, .long e9] : List Value).toArray) below meth c s.heap [] 0 0 (MQ below (va_Qv (fun (u9 : Int32 × (Nat → Int32)) => match u9 with | (t9, u) => (t9 = 0 ∧ (0 ≤ q.toInt ∧ q.toInt < 8) ∧ ∀ a b, a < 8 → b < 8 → u (a * 8 + b) = if a = q.toInt.toNat then rowR e9 b else r2 (a * 8 + b)) ∨ (t9 = 1 ∧ ¬ (0 ≤ q.toInt ∧ q.toInt < 8) ∧ u = r2)) (fun (u9 : Int32 × (Nat → Int32)) (t : State) => match u9 with | (t9, u) => crB D (mw y ce t9 r0 r1 u r3 dn ac sm) (mty ce) A t) A) ([.ref (y 0), .int q, .long e9] : List Value).toArray s 0 0 A) (F0 m 16 ls [.int tv, .ref (y 0)]) := by
    intro tv htv
    rcases htv with ⟨rfl, hok⟩ | ⟨rfl, hno⟩
    · skip
      obtain ⟨j9, hj9, hej⟩ := cx_ofN (x := q) (n := 8) (by omega) (by omega) (by decide)
      have e_1 : q = nI j9 := hej
      rw [e_1] at hl
      refine va_put (D := D) (ci := 1) (v := .int (0 : Int32)) (ty := .int) (C := RX1) (T := TX1) (N := 8) hx hb hts hin1 tyX1 tyX1_ok nmX1 hown hK hP hD hS 0 rfl rfl 0 (by decide) hf32 (fun _ h9 => h9) rfl (by decide +kernel) rfl rfl (Nat.le_of_ble_eq_true rfl) dX1_row_16 (fun H locs hP hD hS => ?_)
      have hP : va_P D vwCl (mw y ce (0 : Int32) r0 r1 r2 r3 dn ac sm) H := hP
      have hD : va_D A (mw y ce (0 : Int32) r0 r1 r2 r3 dn ac sm) := hD
      refine lv_iconst (v := (0 : Int32)) hx hb dX1_row_19 (by decide +kernel) ?_
      refine lv_istore (lv' := [(4, .int (0 : Int32)), (0, .ref (y 0)), (1, .int (nI j9)), (2, .long e9)]) hx hb dX1_row_20 hl (by decide) rfl (fun ls hl => ?_)
      have L22 : ∀ (n : Nat) (x9 : Nat) (w9 : Nat → Int32) (H : Heap) (locs : List Loc) (ls : Array Slot), (8 - x9) < n → (x9 ≤ 8) → (∀ a b, a < 8 → b < 8 → w9 (a * 8 + b) = if a = j9 ∧ b < x9 then rowR e9 b else r2 (a * 8 + b)) → va_P D vwCl (mw y ce (0 : Int32) r0 r1 w9 r3 dn ac sm) H → va_D A (mw y ce (0 : Int32) r0 r1 w9 r3 dn ac sm) → va_S A s.heap H locs → lv_has ls 5 [(0, .ref (y 0)), (1, .int (nI j9)), (2, .long e9), (4, .int (nI x9))] → W p l e ((headSpec wsX1_row ({ frames := 0, cells := 0, slots := 0, locals := 0 } : Room)).room) s m (([.ref (y 0), .int q, .long e9] : List Value).toArray) below meth c H locs 0 0 (MQ below (va_Qv (fun (u9 : Int32 × (Nat → Int32)) => match u9 with | (t9, u) => (t9 = 0 ∧ (0 ≤ q.toInt ∧ q.toInt < 8) ∧ ∀ a b, a < 8 → b < 8 → u (a * 8 + b) = if a = q.toInt.toNat then rowR e9 b else r2 (a * 8 + b)) ∨ (t9 = 1 ∧ ¬ (0 ≤ q.toInt ∧ q.toInt < 8) ∧ u = r2)) (fun (u9 : Int32 × (Nat → Int32)) (t : State) => match u9 with | (t9, u) => crB D (mw y ce t9 r0 r1 u r3 dn ac sm) (mty ce) A t) A) ([.ref (y 0), .int q, .long e9] : List Value).toArray s 0 0 A) (F0 m 22 ls []) := by
        intro n
        induction n with
        | zero =>
          intro x9 w9 H locs ls hn
          exact absurd hn (Nat.not_lt_zero _)
        | succ n ih22 =>
          intro x9 w9 H locs ls hn22 hx9 hw9 hP hD hS hl
          refine lv_iload hx hb dX1_row_22 (lv_at hl 3 rfl) ?_
          refine lv_bipush (v := (8 : Int32)) hx hb dX1_row_24 (by decide +kernel) ?_
          refine cx_icmp_ge (i := ((x9 : Nat) : Int)) (j := 8) (tgt := 69) hx hb (nI_toInt (by omega)) (by decide +kernel) dX1_row_26 (by decide) (fun c_2 => ?_) (fun c_2 => ?_)
          · exact W.vret hx hb hr (fun t ht hW => ⟨⟨((0 : Int32), w9), rfl, (by
                                           obtain rfl : x9 = 8 := by omega
                                           refine Or.inl ⟨rfl, hok, fun a b ha9 hb9 => ?_⟩
                                           rw [hw9 a b ha9 hb9, hej, cx_toNat (by omega)]
                                           by_cases hz : a = j9
                                           · rw [if_pos hz, if_pos (by omega)]
                                           · rw [if_neg hz, if_neg (by omega)]), by rw [ht]; exact hP, va_K.moved hW.alike hK, hD⟩, hS.F ht⟩) hS.2.2 dX1_row_69
          · refine lv_aload_n hx hb dX1_row_29 rfl (lv_at hl 0 rfl) ?_
            refine va_get (D := D) (ci := 1) (v := .int (0 : Int32)) (C := RX1) (T := TX1) (N := 8) hx hb hts hin1 hown hK hP 0 rfl rfl 0 (by decide) hf32 (fun _ h9 => h9) rfl dX1_row_30 ?_
            refine cx_if_ne (i := 0) (j := 0) (tgt := 69) hx hb (by decide +kernel) rfl dX1_row_33 (by decide) (fun c_3 => absurd c_3 (by decide)) (fun c_3 => ?_)
            refine lv_aload_n hx hb dX1_row_36 rfl (lv_at hl 0 rfl) ?_
            refine va_get (D := D) (ci := 1) (v := .ref (y 3)) (C := RX1) (T := TX1) (N := 8) hx hb hts hin1 hown hK hP 0 rfl rfl 3 (by decide) hf16 (fun _ h9 => h9) rfl dX1_row_37 ?_
            refine lv_bipush (v := (8 : Int32)) hx hb dX1_row_40 (by decide +kernel) ?_
            refine lv_iload_n hx hb dX1_row_42 rfl (lv_at hl 1 rfl) ?_
            refine cx_imul hx hb 8 j9 dX1_row_43 ?_
            refine lv_iload hx hb dX1_row_44 (lv_at hl 3 rfl) ?_
            refine cx_iadd hx hb (8 * j9) x9 dX1_row_46 ?_
            rw [show 8 * j9 + x9 = j9 * 8 + x9 from by omega]
            refine lv_lload_n hx hb dX1_row_47 rfl (lv_at hl 2 rfl) ?_
            refine lv_bipush (v := (56 : Int32)) hx hb dX1_row_48 (by decide +kernel) ?_
            refine lv_bipush (v := (8 : Int32)) hx hb dX1_row_50 (by decide +kernel) ?_
            refine lv_iload hx hb dX1_row_52 (lv_at hl 3 rfl) ?_
            refine cx_imul hx hb 8 x9 dX1_row_54 ?_
            refine cx_isub hx hb 56 (8 * x9) (by omega) dX1_row_55 ?_
            refine lv_lshr hx hb dX1_row_56 rfl ?_
            refine lv_ldc2 (v := (255 : Int64)) hx hb hown (hts _ wm_350) dX1_row_57 ?_
            refine lv_land hx hb dX1_row_60 ?_
            refine lv_l2i hx hb dX1_row_61 rfl ?_
            refine cx_iast hx hb hK hP hD hS 3 2 rfl rfl (j9 * 8 + x9) (by omega) (by decide) dX1_row_62 (fun H locs hP hD hS => ?_)
            have hP : va_P D vwCl (mw y ce (0 : Int32) r0 r1 (upd w9 (j9 * 8 + x9) (((e9 >>> ((nI (56 - (8 * x9))).toInt64 &&& 63)) &&& (255 : Int64)).toInt32)) r3 dn ac sm) H := hP
            have hD : va_D A (mw y ce (0 : Int32) r0 r1 (upd w9 (j9 * 8 + x9) (((e9 >>> ((nI (56 - (8 * x9))).toInt64 &&& 63)) &&& (255 : Int64)).toInt32)) r3 dn ac sm) := hD
            refine lv_iinc (v := nI (x9 + 1)) (lv' := [(4, .int (nI (x9 + 1))), (0, .ref (y 0)), (1, .int (nI j9)), (2, .long e9)]) hx hb dX1_row_63 hl (k := 3) rfl (by show nI x9 + 1 = nI (x9 + 1); exact nI_add x9 1) (by decide) rfl (fun ls hl => ?_)
            refine lv_goto (tgt := 22) hx hb dX1_row_66 (by decide) ?_
            exact ih22 (x9 + 1) (upd w9 (j9 * 8 + x9) (((e9 >>> ((nI (56 - (8 * x9))).toInt64 &&& 63)) &&& (255 : Int64)).toInt32)) _ _ _ (by omega) (by omega) (by
                intro a b ha9 hb9
                by_cases hq : a * 8 + b = j9 * 8 + x9
                · obtain rfl : j9 = a := by omega
                  obtain rfl : x9 = b := by omega
                  rw [if_pos (by omega)]; exact pk_us
                · rw [pk_un hq, hw9 a b ha9 hb9]
                  by_cases hz : a = j9 ∧ b < x9
                  · rw [if_pos hz, if_pos (by omega)]
                  · rw [if_neg hz, if_neg (by omega)]) hP hD hS (lv_sub hl [1, 2, 3, 0] rfl)
      exact L22 _ 0 r2 _ _ _ (Nat.lt_succ_self _) (Nat.zero_le _) (fun a b _ _ => by rw [if_neg (by omega)]) hP hD hS (lv_sub hl [1, 2, 3, 0] rfl)
    · skip
      refine va_put (D := D) (ci := 1) (v := .int (1 : Int32)) (ty := .int) (C := RX1) (T := TX1) (N := 8) hx hb hts hin1 tyX1 tyX1_ok nmX1 hown hK hP hD hS 0 rfl rfl 0 (by decide) hf32 (fun _ h9 => h9) rfl (by decide +kernel) rfl rfl (Nat.le_of_ble_eq_true rfl) dX1_row_16 (fun H locs hP hD hS => ?_)
      have hP : va_P D vwCl (mw y ce (1 : Int32) r0 r1 r2 r3 dn ac sm) H := hP
      have hD : va_D A (mw y ce (1 : Int32) r0 r1 r2 r3 dn ac sm) := hD
      refine lv_iconst (v := (0 : Int32)) hx hb dX1_row_19 (by decide +kernel) ?_
      refine lv_istore (lv' := [(4, .int (0 : Int32)), (0, .ref (y 0)), (1, .int q), (2, .long e9)]) hx hb dX1_row_20 hl (by decide) rfl (fun ls hl => ?_)
      refine lv_iload hx hb dX1_row_22 (lv_at hl 0 rfl) ?_
      refine lv_bipush (v := (8 : Int32)) hx hb dX1_row_24 (by decide +kernel) ?_
      refine cx_icmp_ge (i := 0) (j := 8) (tgt := 69) hx hb (by decide +kernel) (by decide +kernel) dX1_row_26 (by decide) (fun c_4 => absurd c_4 (by decide)) (fun c_4 => ?_)
      refine lv_aload_n hx hb dX1_row_29 rfl (lv_at hl 1 rfl) ?_
      refine va_get (D := D) (ci := 1) (v := .int (1 : Int32)) (C := RX1) (T := TX1) (N := 8) hx hb hts hin1 hown hK hP 0 rfl rfl 0 (by decide) hf32 (fun _ h9 => h9) rfl dX1_row_30 ?_
      refine cx_if_ne (i := 1) (j := 0) (tgt := 69) hx hb (by decide +kernel) rfl dX1_row_33 (by decide) (fun c_5 => ?_) (fun c_5 => absurd c_5 (by decide))
      exact W.vret hx hb hr (fun t ht hW => ⟨⟨((1 : Int32), r2), rfl, Or.inr ⟨rfl, hno, rfl⟩, by rw [ht]; exact hP, va_K.moved hW.alike hK, hD⟩, hS.F ht⟩) hS.2.2 dX1_row_69
  refine lv_aload_n hx hb dX1_row_0 rfl (lv_at hl 0 rfl) ?_
  refine lv_iload_n hx hb dX1_row_1 rfl (lv_at hl 1 rfl) ?_
  refine cx_if_lt (i := q.toInt) (j := 0) (tgt := 11) hx hb rfl rfl dX1_row_2 (by decide) (fun c_6 => ?_) (fun c_6 => ?_)
  · refine lv_iconst (v := (1 : Int32)) hx hb dX1_row_11 (by decide +kernel) ?_
    refine lv_goto (tgt := 16) hx hb dX1_row_12 (by decide) ?_
    exact J16 (1 : Int32) (Or.inr ⟨rfl, by omega⟩)
  · refine lv_iload_n hx hb dX1_row_5 rfl (lv_at hl 1 rfl) ?_
    refine lv_bipush (v := (7 : Int32)) hx hb dX1_row_6 (by decide +kernel) ?_
    refine cx_icmp_le (i := q.toInt) (j := 7) (tgt := 15) hx hb rfl (by decide +kernel) dX1_row_8 (by decide) (fun c_7 => ?_) (fun c_7 => ?_)
    · refine lv_iconst (v := (0 : Int32)) hx hb dX1_row_15 (by decide +kernel) ?_
      exact J16 (0 : Int32) (Or.inl ⟨rfl, by omega⟩)
    · refine lv_iconst (v := (1 : Int32)) hx hb dX1_row_11 (by decide +kernel) ?_
      refine lv_goto (tgt := 16) hx hb dX1_row_12 (by decide) ?_
      exact J16 (1 : Int32) (Or.inr ⟨rfl, by omega⟩)
end
section
theorem dX1_error_0 : decode cX1_error 0 = .ok (.aload_n 0, 1) := by decide +kernel
theorem dX1_error_1 : decode cX1_error 1 = .ok (.iload_n 1, 1) := by decide +kernel
theorem dX1_error_2 : decode cX1_error 2 = .ok (.iconst 1, 1) := by decide +kernel
theorem dX1_error_3 : decode cX1_error 3 = .ok (.if_icmp .lt 9, 3) := by decide +kernel
theorem dX1_error_6 : decode cX1_error 6 = .ok (.iload_n 1, 1) := by decide +kernel
theorem dX1_error_7 : decode cX1_error 7 = .ok (.bipush 8, 2) := by decide +kernel
theorem dX1_error_9 : decode cX1_error 9 = .ok (.if_icmp .le 7, 3) := by decide +kernel
theorem dX1_error_12 : decode cX1_error 12 = .ok (.iconst 1, 1) := by decide +kernel
theorem dX1_error_13 : decode cX1_error 13 = .ok (.goto 4, 3) := by decide +kernel
theorem dX1_error_16 : decode cX1_error 16 = .ok (.iconst 0, 1) := by decide +kernel
theorem dX1_error_17 : decode cX1_error 17 = .ok (.putfield 32, 3) := by decide +kernel
theorem dX1_error_20 : decode cX1_error 20 = .ok (.iconst 0, 1) := by decide +kernel
theorem dX1_error_21 : decode cX1_error 21 = .ok (.istore_n 2, 1) := by decide +kernel
theorem dX1_error_22 : decode cX1_error 22 = .ok (.iconst 0, 1) := by decide +kernel
theorem dX1_error_23 : decode cX1_error 23 = .ok (.istore_n 3, 1) := by decide +kernel
theorem dX1_error_24 : decode cX1_error 24 = .ok (.iload_n 3, 1) := by decide +kernel
theorem dX1_error_25 : decode cX1_error 25 = .ok (.bipush 64, 2) := by decide +kernel
theorem dX1_error_27 : decode cX1_error 27 = .ok (.if_icmp .ge 59, 3) := by decide +kernel
theorem dX1_error_30 : decode cX1_error 30 = .ok (.aload_n 0, 1) := by decide +kernel
theorem dX1_error_31 : decode cX1_error 31 = .ok (.getfield 32, 3) := by decide +kernel
theorem dX1_error_34 : decode cX1_error 34 = .ok (.ifCond .ne 52, 3) := by decide +kernel
theorem dX1_error_37 : decode cX1_error 37 = .ok (.aload_n 0, 1) := by decide +kernel
theorem dX1_error_38 : decode cX1_error 38 = .ok (.getfield 16, 3) := by decide +kernel
theorem dX1_error_41 : decode cX1_error 41 = .ok (.iload_n 3, 1) := by decide +kernel
theorem dX1_error_42 : decode cX1_error 42 = .ok (.iaload, 1) := by decide +kernel
theorem dX1_error_43 : decode cX1_error 43 = .ok (.aload_n 0, 1) := by decide +kernel
theorem dX1_error_44 : decode cX1_error 44 = .ok (.getfield 19, 3) := by decide +kernel
theorem dX1_error_47 : decode cX1_error 47 = .ok (.iload_n 3, 1) := by decide +kernel
theorem dX1_error_48 : decode cX1_error 48 = .ok (.iaload, 1) := by decide +kernel
theorem dX1_error_49 : decode cX1_error 49 = .ok (.isub, 1) := by decide +kernel
theorem dX1_error_50 : decode cX1_error 50 = .ok (.istore 4, 2) := by decide +kernel
theorem dX1_error_52 : decode cX1_error 52 = .ok (.iload_n 2, 1) := by decide +kernel
theorem dX1_error_53 : decode cX1_error 53 = .ok (.iload_n 3, 1) := by decide +kernel
theorem dX1_error_54 : decode cX1_error 54 = .ok (.bipush 8, 2) := by decide +kernel
theorem dX1_error_56 : decode cX1_error 56 = .ok (.idiv, 1) := by decide +kernel
theorem dX1_error_57 : decode cX1_error 57 = .ok (.iload_n 1, 1) := by decide +kernel
theorem dX1_error_58 : decode cX1_error 58 = .ok (.if_icmp .ge 19, 3) := by decide +kernel
theorem dX1_error_61 : decode cX1_error 61 = .ok (.iload_n 3, 1) := by decide +kernel
theorem dX1_error_62 : decode cX1_error 62 = .ok (.bipush 8, 2) := by decide +kernel
theorem dX1_error_64 : decode cX1_error 64 = .ok (.irem, 1) := by decide +kernel
theorem dX1_error_65 : decode cX1_error 65 = .ok (.iload_n 1, 1) := by decide +kernel
theorem dX1_error_66 : decode cX1_error 66 = .ok (.if_icmp .ge 11, 3) := by decide +kernel
theorem dX1_error_69 : decode cX1_error 69 = .ok (.iload 4, 2) := by decide +kernel
theorem dX1_error_71 : decode cX1_error 71 = .ok (.iload 4, 2) := by decide +kernel
theorem dX1_error_73 : decode cX1_error 73 = .ok (.imul, 1) := by decide +kernel
theorem dX1_error_74 : decode cX1_error 74 = .ok (.goto 4, 3) := by decide +kernel
theorem dX1_error_77 : decode cX1_error 77 = .ok (.iconst 0, 1) := by decide +kernel
theorem dX1_error_78 : decode cX1_error 78 = .ok (.iadd, 1) := by decide +kernel
theorem dX1_error_79 : decode cX1_error 79 = .ok (.istore_n 2, 1) := by decide +kernel
theorem dX1_error_80 : decode cX1_error 80 = .ok (.iinc 3 1, 3) := by decide +kernel
theorem dX1_error_83 : decode cX1_error 83 = .ok (.goto (-59), 3) := by decide +kernel
theorem dX1_error_86 : decode cX1_error 86 = .ok (.iload_n 2, 1) := by decide +kernel
theorem dX1_error_87 : decode cX1_error 87 = .ok (.ireturn, 1) := by decide +kernel
theorem dX1_at_0 : decode cX1_at 0 = .ok (.aload_n 0, 1) := by decide +kernel
theorem dX1_at_1 : decode cX1_at 1 = .ok (.iload_n 1, 1) := by decide +kernel
theorem dX1_at_2 : decode cX1_at 2 = .ok (.invokestatic 40, 3) := by decide +kernel
theorem dX1_at_5 : decode cX1_at 5 = .ok (.ifCond .eq 12, 3) := by decide +kernel
theorem dX1_at_8 : decode cX1_at 8 = .ok (.iload_n 2, 1) := by decide +kernel
theorem dX1_at_9 : decode cX1_at 9 = .ok (.ifCond .lt 8, 3) := by decide +kernel
theorem dX1_at_12 : decode cX1_at 12 = .ok (.iload_n 2, 1) := by decide +kernel
theorem dX1_at_13 : decode cX1_at 13 = .ok (.iconst 3, 1) := by decide +kernel
theorem dX1_at_14 : decode cX1_at 14 = .ok (.if_icmp .le 7, 3) := by decide +kernel
theorem dX1_at_17 : decode cX1_at 17 = .ok (.iconst 1, 1) := by decide +kernel
theorem dX1_at_18 : decode cX1_at 18 = .ok (.goto 4, 3) := by decide +kernel
theorem dX1_at_21 : decode cX1_at 21 = .ok (.iconst 0, 1) := by decide +kernel
theorem dX1_at_22 : decode cX1_at 22 = .ok (.putfield 32, 3) := by decide +kernel
theorem dX1_at_25 : decode cX1_at 25 = .ok (.aload_n 0, 1) := by decide +kernel
theorem dX1_at_26 : decode cX1_at 26 = .ok (.getfield 32, 3) := by decide +kernel
theorem dX1_at_29 : decode cX1_at 29 = .ok (.ifCond .le 7, 3) := by decide +kernel
theorem dX1_at_32 : decode cX1_at 32 = .ok (.iconst 0, 1) := by decide +kernel
theorem dX1_at_33 : decode cX1_at 33 = .ok (.goto 50, 3) := by decide +kernel
theorem dX1_at_36 : decode cX1_at 36 = .ok (.iload_n 2, 1) := by decide +kernel
theorem dX1_at_37 : decode cX1_at 37 = .ok (.ifCond .ne 12, 3) := by decide +kernel
theorem dX1_at_40 : decode cX1_at 40 = .ok (.aload_n 0, 1) := by decide +kernel
theorem dX1_at_41 : decode cX1_at 41 = .ok (.getfield 7, 3) := by decide +kernel
theorem dX1_at_44 : decode cX1_at 44 = .ok (.iload_n 1, 1) := by decide +kernel
theorem dX1_at_45 : decode cX1_at 45 = .ok (.iaload, 1) := by decide +kernel
theorem dX1_at_46 : decode cX1_at 46 = .ok (.goto 37, 3) := by decide +kernel
theorem dX1_at_49 : decode cX1_at 49 = .ok (.iload_n 2, 1) := by decide +kernel
theorem dX1_at_50 : decode cX1_at 50 = .ok (.iconst 1, 1) := by decide +kernel
theorem dX1_at_51 : decode cX1_at 51 = .ok (.if_icmp .ne 12, 3) := by decide +kernel
theorem dX1_at_54 : decode cX1_at 54 = .ok (.aload_n 0, 1) := by decide +kernel
theorem dX1_at_55 : decode cX1_at 55 = .ok (.getfield 13, 3) := by decide +kernel
theorem dX1_at_58 : decode cX1_at 58 = .ok (.iload_n 1, 1) := by decide +kernel
theorem dX1_at_59 : decode cX1_at 59 = .ok (.iaload, 1) := by decide +kernel
theorem dX1_at_60 : decode cX1_at 60 = .ok (.goto 23, 3) := by decide +kernel
theorem dX1_at_63 : decode cX1_at 63 = .ok (.iload_n 2, 1) := by decide +kernel
theorem dX1_at_64 : decode cX1_at 64 = .ok (.iconst 2, 1) := by decide +kernel
theorem dX1_at_65 : decode cX1_at 65 = .ok (.if_icmp .ne 12, 3) := by decide +kernel
theorem dX1_at_68 : decode cX1_at 68 = .ok (.aload_n 0, 1) := by decide +kernel
theorem dX1_at_69 : decode cX1_at 69 = .ok (.getfield 22, 3) := by decide +kernel
theorem dX1_at_72 : decode cX1_at 72 = .ok (.iload_n 1, 1) := by decide +kernel
theorem dX1_at_73 : decode cX1_at 73 = .ok (.iaload, 1) := by decide +kernel
theorem dX1_at_74 : decode cX1_at 74 = .ok (.goto 9, 3) := by decide +kernel
theorem dX1_at_77 : decode cX1_at 77 = .ok (.aload_n 0, 1) := by decide +kernel
theorem dX1_at_78 : decode cX1_at 78 = .ok (.getfield 25, 3) := by decide +kernel
theorem dX1_at_81 : decode cX1_at 81 = .ok (.iload_n 1, 1) := by decide +kernel
theorem dX1_at_82 : decode cX1_at 82 = .ok (.iaload, 1) := by decide +kernel
theorem dX1_at_83 : decode cX1_at 83 = .ok (.ireturn, 1) := by decide +kernel
theorem dX1_order_0 : decode cX1_order 0 = .ok (.aload_n 0, 1) := by decide +kernel
theorem dX1_order_1 : decode cX1_order 1 = .ok (.iconst 0, 1) := by decide +kernel
theorem dX1_order_2 : decode cX1_order 2 = .ok (.putfield 32, 3) := by decide +kernel
theorem dX1_order_5 : decode cX1_order 5 = .ok (.aload_n 0, 1) := by decide +kernel
theorem dX1_order_6 : decode cX1_order 6 = .ok (.iload_n 1, 1) := by decide +kernel
theorem dX1_order_7 : decode cX1_order 7 = .ok (.iload_n 2, 1) := by decide +kernel
theorem dX1_order_8 : decode cX1_order 8 = .ok (.invokevirtual 46, 3) := by decide +kernel
theorem dX1_order_11 : decode cX1_order 11 = .ok (.ireturn, 1) := by decide +kernel
theorem dX1_samples_0 : decode cX1_samples 0 = .ok (.aload_n 0, 1) := by decide +kernel
theorem dX1_samples_1 : decode cX1_samples 1 = .ok (.iconst 0, 1) := by decide +kernel
theorem dX1_samples_2 : decode cX1_samples 2 = .ok (.putfield 32, 3) := by decide +kernel
theorem dX1_samples_5 : decode cX1_samples 5 = .ok (.lconst 0, 1) := by decide +kernel
theorem dX1_samples_6 : decode cX1_samples 6 = .ok (.lstore_n 2, 1) := by decide +kernel
theorem dX1_samples_7 : decode cX1_samples 7 = .ok (.iconst 0, 1) := by decide +kernel
theorem dX1_samples_8 : decode cX1_samples 8 = .ok (.istore 4, 2) := by decide +kernel
theorem dX1_samples_10 : decode cX1_samples 10 = .ok (.iload 4, 2) := by decide +kernel
theorem dX1_samples_12 : decode cX1_samples 12 = .ok (.bipush 8, 2) := by decide +kernel
theorem dX1_samples_14 : decode cX1_samples 14 = .ok (.if_icmp .ge 38, 3) := by decide +kernel
theorem dX1_samples_17 : decode cX1_samples 17 = .ok (.iload_n 1, 1) := by decide +kernel
theorem dX1_samples_18 : decode cX1_samples 18 = .ok (.ifCond .lt 34, 3) := by decide +kernel
theorem dX1_samples_21 : decode cX1_samples 21 = .ok (.iload_n 1, 1) := by decide +kernel
theorem dX1_samples_22 : decode cX1_samples 22 = .ok (.bipush 8, 2) := by decide +kernel
theorem dX1_samples_24 : decode cX1_samples 24 = .ok (.if_icmp .ge 28, 3) := by decide +kernel
theorem dX1_samples_27 : decode cX1_samples 27 = .ok (.lload_n 2, 1) := by decide +kernel
theorem dX1_samples_28 : decode cX1_samples 28 = .ok (.bipush 8, 2) := by decide +kernel
theorem dX1_samples_30 : decode cX1_samples 30 = .ok (.lshl, 1) := by decide +kernel
theorem dX1_samples_31 : decode cX1_samples 31 = .ok (.aload_n 0, 1) := by decide +kernel
theorem dX1_samples_32 : decode cX1_samples 32 = .ok (.getfield 16, 3) := by decide +kernel
theorem dX1_samples_35 : decode cX1_samples 35 = .ok (.bipush 8, 2) := by decide +kernel
theorem dX1_samples_37 : decode cX1_samples 37 = .ok (.iload_n 1, 1) := by decide +kernel
theorem dX1_samples_38 : decode cX1_samples 38 = .ok (.imul, 1) := by decide +kernel
theorem dX1_samples_39 : decode cX1_samples 39 = .ok (.iload 4, 2) := by decide +kernel
theorem dX1_samples_41 : decode cX1_samples 41 = .ok (.iadd, 1) := by decide +kernel
theorem dX1_samples_42 : decode cX1_samples 42 = .ok (.iaload, 1) := by decide +kernel
theorem dX1_samples_43 : decode cX1_samples 43 = .ok (.i2l, 1) := by decide +kernel
theorem dX1_samples_44 : decode cX1_samples 44 = .ok (.lor, 1) := by decide +kernel
theorem dX1_samples_45 : decode cX1_samples 45 = .ok (.lstore_n 2, 1) := by decide +kernel
theorem dX1_samples_46 : decode cX1_samples 46 = .ok (.iinc 4 1, 3) := by decide +kernel
theorem dX1_samples_49 : decode cX1_samples 49 = .ok (.goto (-39), 3) := by decide +kernel
theorem dX1_samples_52 : decode cX1_samples 52 = .ok (.lload_n 2, 1) := by decide +kernel
theorem dX1_samples_53 : decode cX1_samples 53 = .ok (.lreturn, 1) := by decide +kernel
theorem dX1_exact_0 : decode cX1_exact 0 = .ok (.aload_n 0, 1) := by decide +kernel
theorem dX1_exact_1 : decode cX1_exact 1 = .ok (.iload_n 1, 1) := by decide +kernel
theorem dX1_exact_2 : decode cX1_exact 2 = .ok (.ifCond .lt 19, 3) := by decide +kernel
theorem dX1_exact_5 : decode cX1_exact 5 = .ok (.iload_n 1, 1) := by decide +kernel
theorem dX1_exact_6 : decode cX1_exact 6 = .ok (.bipush 7, 2) := by decide +kernel
theorem dX1_exact_8 : decode cX1_exact 8 = .ok (.if_icmp .gt 13, 3) := by decide +kernel
theorem dX1_exact_11 : decode cX1_exact 11 = .ok (.iload_n 2, 1) := by decide +kernel
theorem dX1_exact_12 : decode cX1_exact 12 = .ok (.ifCond .lt 9, 3) := by decide +kernel
theorem dX1_exact_15 : decode cX1_exact 15 = .ok (.iload_n 2, 1) := by decide +kernel
theorem dX1_exact_16 : decode cX1_exact 16 = .ok (.bipush 7, 2) := by decide +kernel
theorem dX1_exact_18 : decode cX1_exact 18 = .ok (.if_icmp .le 7, 3) := by decide +kernel
theorem dX1_exact_21 : decode cX1_exact 21 = .ok (.iconst 1, 1) := by decide +kernel
theorem dX1_exact_22 : decode cX1_exact 22 = .ok (.goto 4, 3) := by decide +kernel
theorem dX1_exact_25 : decode cX1_exact 25 = .ok (.iconst 0, 1) := by decide +kernel
theorem dX1_exact_26 : decode cX1_exact 26 = .ok (.putfield 32, 3) := by decide +kernel
theorem dX1_exact_29 : decode cX1_exact 29 = .ok (.aload_n 0, 1) := by decide +kernel
theorem dX1_exact_30 : decode cX1_exact 30 = .ok (.getfield 32, 3) := by decide +kernel
theorem dX1_exact_33 : decode cX1_exact 33 = .ok (.ifCond .le 7, 3) := by decide +kernel
theorem dX1_exact_36 : decode cX1_exact 36 = .ok (.iconst 0, 1) := by decide +kernel
theorem dX1_exact_37 : decode cX1_exact 37 = .ok (.goto 10, 3) := by decide +kernel
theorem dX1_exact_40 : decode cX1_exact 40 = .ok (.aload_n 0, 1) := by decide +kernel
theorem dX1_exact_41 : decode cX1_exact 41 = .ok (.iload_n 1, 1) := by decide +kernel
theorem dX1_exact_42 : decode cX1_exact 42 = .ok (.iload_n 2, 1) := by decide +kernel
theorem dX1_exact_43 : decode cX1_exact 43 = .ok (.invokevirtual 67, 3) := by decide +kernel
theorem dX1_exact_46 : decode cX1_exact 46 = .ok (.l2i, 1) := by decide +kernel
theorem dX1_exact_47 : decode cX1_exact 47 = .ok (.ireturn, 1) := by decide +kernel
theorem dX1_wave_0 : decode cX1_wave 0 = .ok (.aload_n 0, 1) := by decide +kernel
theorem dX1_wave_1 : decode cX1_wave 1 = .ok (.iload_n 1, 1) := by decide +kernel
theorem dX1_wave_2 : decode cX1_wave 2 = .ok (.invokestatic 58, 3) := by decide +kernel
theorem dX1_wave_5 : decode cX1_wave 5 = .ok (.ifCond .eq 25, 3) := by decide +kernel
theorem dX1_wave_8 : decode cX1_wave 8 = .ok (.iload_n 2, 1) := by decide +kernel
theorem dX1_wave_9 : decode cX1_wave 9 = .ok (.ifCond .lt 21, 3) := by decide +kernel
theorem dX1_wave_12 : decode cX1_wave 12 = .ok (.iload_n 2, 1) := by decide +kernel
theorem dX1_wave_13 : decode cX1_wave 13 = .ok (.iload_n 1, 1) := by decide +kernel
theorem dX1_wave_14 : decode cX1_wave 14 = .ok (.if_icmp .ge 16, 3) := by decide +kernel
theorem dX1_wave_17 : decode cX1_wave 17 = .ok (.iload_n 3, 1) := by decide +kernel
theorem dX1_wave_18 : decode cX1_wave 18 = .ok (.ifCond .lt 12, 3) := by decide +kernel
theorem dX1_wave_21 : decode cX1_wave 21 = .ok (.iload_n 3, 1) := by decide +kernel
theorem dX1_wave_22 : decode cX1_wave 22 = .ok (.iload_n 1, 1) := by decide +kernel
theorem dX1_wave_23 : decode cX1_wave 23 = .ok (.if_icmp .ge 7, 3) := by decide +kernel
theorem dX1_wave_26 : decode cX1_wave 26 = .ok (.iconst 0, 1) := by decide +kernel
theorem dX1_wave_27 : decode cX1_wave 27 = .ok (.goto 4, 3) := by decide +kernel
theorem dX1_wave_30 : decode cX1_wave 30 = .ok (.iconst 1, 1) := by decide +kernel
theorem dX1_wave_31 : decode cX1_wave 31 = .ok (.putfield 32, 3) := by decide +kernel
theorem dX1_wave_34 : decode cX1_wave 34 = .ok (.aload_n 0, 1) := by decide +kernel
theorem dX1_wave_35 : decode cX1_wave 35 = .ok (.getfield 32, 3) := by decide +kernel
theorem dX1_wave_38 : decode cX1_wave 38 = .ok (.ifCond .le 7, 3) := by decide +kernel
theorem dX1_wave_41 : decode cX1_wave 41 = .ok (.iconst 0, 1) := by decide +kernel
theorem dX1_wave_42 : decode cX1_wave 42 = .ok (.goto 9, 3) := by decide +kernel
theorem dX1_wave_45 : decode cX1_wave 45 = .ok (.iload_n 1, 1) := by decide +kernel
theorem dX1_wave_46 : decode cX1_wave 46 = .ok (.iload_n 2, 1) := by decide +kernel
theorem dX1_wave_47 : decode cX1_wave 47 = .ok (.iload_n 3, 1) := by decide +kernel
theorem dX1_wave_48 : decode cX1_wave 48 = .ok (.invokestatic 50, 3) := by decide +kernel
theorem dX1_wave_51 : decode cX1_wave 51 = .ok (.ireturn, 1) := by decide +kernel
theorem dX1_look_0 : decode cX1_look 0 = .ok (.aload_n 0, 1) := by decide +kernel
theorem dX1_look_1 : decode cX1_look 1 = .ok (.iconst 0, 1) := by decide +kernel
theorem dX1_look_2 : decode cX1_look 2 = .ok (.putfield 32, 3) := by decide +kernel
theorem dX1_look_5 : decode cX1_look 5 = .ok (.iconst 0, 1) := by decide +kernel
theorem dX1_look_6 : decode cX1_look 6 = .ok (.istore_n 2, 1) := by decide +kernel
theorem dX1_look_7 : decode cX1_look 7 = .ok (.iconst (-1), 1) := by decide +kernel
theorem dX1_look_8 : decode cX1_look 8 = .ok (.istore_n 3, 1) := by decide +kernel
theorem dX1_look_9 : decode cX1_look 9 = .ok (.iconst 0, 1) := by decide +kernel
theorem dX1_look_10 : decode cX1_look 10 = .ok (.istore 4, 2) := by decide +kernel
theorem dX1_look_12 : decode cX1_look 12 = .ok (.iconst 0, 1) := by decide +kernel
theorem dX1_look_13 : decode cX1_look 13 = .ok (.istore 5, 2) := by decide +kernel
theorem dX1_look_15 : decode cX1_look 15 = .ok (.iconst 0, 1) := by decide +kernel
theorem dX1_look_16 : decode cX1_look 16 = .ok (.istore 6, 2) := by decide +kernel
theorem dX1_look_18 : decode cX1_look 18 = .ok (.iconst 0, 1) := by decide +kernel
theorem dX1_look_19 : decode cX1_look 19 = .ok (.istore 7, 2) := by decide +kernel
theorem dX1_look_21 : decode cX1_look 21 = .ok (.iload 7, 2) := by decide +kernel
theorem dX1_look_23 : decode cX1_look 23 = .ok (.bipush 64, 2) := by decide +kernel
theorem dX1_look_25 : decode cX1_look 25 = .ok (.if_icmp .ge 101, 3) := by decide +kernel
theorem dX1_look_28 : decode cX1_look 28 = .ok (.iload_n 2, 1) := by decide +kernel
theorem dX1_look_29 : decode cX1_look 29 = .ok (.aload_n 0, 1) := by decide +kernel
theorem dX1_look_30 : decode cX1_look 30 = .ok (.getfield 7, 3) := by decide +kernel
theorem dX1_look_33 : decode cX1_look 33 = .ok (.iload 7, 2) := by decide +kernel
theorem dX1_look_35 : decode cX1_look 35 = .ok (.iaload, 1) := by decide +kernel
theorem dX1_look_36 : decode cX1_look 36 = .ok (.ifCond .eq 7, 3) := by decide +kernel
theorem dX1_look_39 : decode cX1_look 39 = .ok (.iconst 1, 1) := by decide +kernel
theorem dX1_look_40 : decode cX1_look 40 = .ok (.goto 4, 3) := by decide +kernel
theorem dX1_look_43 : decode cX1_look 43 = .ok (.iconst 0, 1) := by decide +kernel
theorem dX1_look_44 : decode cX1_look 44 = .ok (.iadd, 1) := by decide +kernel
theorem dX1_look_45 : decode cX1_look 45 = .ok (.istore_n 2, 1) := by decide +kernel
theorem dX1_look_46 : decode cX1_look 46 = .ok (.aload_n 0, 1) := by decide +kernel
theorem dX1_look_47 : decode cX1_look 47 = .ok (.getfield 7, 3) := by decide +kernel
theorem dX1_look_50 : decode cX1_look 50 = .ok (.iload 7, 2) := by decide +kernel
theorem dX1_look_52 : decode cX1_look 52 = .ok (.iaload, 1) := by decide +kernel
theorem dX1_look_53 : decode cX1_look 53 = .ok (.ifCond .eq 8, 3) := by decide +kernel
theorem dX1_look_56 : decode cX1_look 56 = .ok (.iload 7, 2) := by decide +kernel
theorem dX1_look_58 : decode cX1_look 58 = .ok (.goto 4, 3) := by decide +kernel
theorem dX1_look_61 : decode cX1_look 61 = .ok (.iload_n 3, 1) := by decide +kernel
theorem dX1_look_62 : decode cX1_look 62 = .ok (.istore_n 3, 1) := by decide +kernel
theorem dX1_look_63 : decode cX1_look 63 = .ok (.iload 4, 2) := by decide +kernel
theorem dX1_look_65 : decode cX1_look 65 = .ok (.aload_n 0, 1) := by decide +kernel
theorem dX1_look_66 : decode cX1_look 66 = .ok (.getfield 13, 3) := by decide +kernel
theorem dX1_look_69 : decode cX1_look 69 = .ok (.iload 7, 2) := by decide +kernel
theorem dX1_look_71 : decode cX1_look 71 = .ok (.iaload, 1) := by decide +kernel
theorem dX1_look_72 : decode cX1_look 72 = .ok (.iadd, 1) := by decide +kernel
theorem dX1_look_73 : decode cX1_look 73 = .ok (.istore 4, 2) := by decide +kernel
theorem dX1_look_75 : decode cX1_look 75 = .ok (.iload 5, 2) := by decide +kernel
theorem dX1_look_77 : decode cX1_look 77 = .ok (.aload_n 0, 1) := by decide +kernel
theorem dX1_look_78 : decode cX1_look 78 = .ok (.getfield 16, 3) := by decide +kernel
theorem dX1_look_81 : decode cX1_look 81 = .ok (.iload 7, 2) := by decide +kernel
theorem dX1_look_83 : decode cX1_look 83 = .ok (.iaload, 1) := by decide +kernel
theorem dX1_look_84 : decode cX1_look 84 = .ok (.iadd, 1) := by decide +kernel
theorem dX1_look_85 : decode cX1_look 85 = .ok (.istore 5, 2) := by decide +kernel
theorem dX1_look_87 : decode cX1_look 87 = .ok (.iload 6, 2) := by decide +kernel
theorem dX1_look_89 : decode cX1_look 89 = .ok (.aload_n 0, 1) := by decide +kernel
theorem dX1_look_90 : decode cX1_look 90 = .ok (.getfield 7, 3) := by decide +kernel
theorem dX1_look_93 : decode cX1_look 93 = .ok (.iload 7, 2) := by decide +kernel
theorem dX1_look_95 : decode cX1_look 95 = .ok (.iaload, 1) := by decide +kernel
theorem dX1_look_96 : decode cX1_look 96 = .ok (.ifCond .ge 14, 3) := by decide +kernel
theorem dX1_look_99 : decode cX1_look 99 = .ok (.aload_n 0, 1) := by decide +kernel
theorem dX1_look_100 : decode cX1_look 100 = .ok (.getfield 7, 3) := by decide +kernel
theorem dX1_look_103 : decode cX1_look 103 = .ok (.iload 7, 2) := by decide +kernel
theorem dX1_look_105 : decode cX1_look 105 = .ok (.iaload, 1) := by decide +kernel
theorem dX1_look_106 : decode cX1_look 106 = .ok (.ineg, 1) := by decide +kernel
theorem dX1_look_107 : decode cX1_look 107 = .ok (.goto 10, 3) := by decide +kernel
theorem dX1_look_110 : decode cX1_look 110 = .ok (.aload_n 0, 1) := by decide +kernel
theorem dX1_look_111 : decode cX1_look 111 = .ok (.getfield 7, 3) := by decide +kernel
theorem dX1_look_114 : decode cX1_look 114 = .ok (.iload 7, 2) := by decide +kernel
theorem dX1_look_116 : decode cX1_look 116 = .ok (.iaload, 1) := by decide +kernel
theorem dX1_look_117 : decode cX1_look 117 = .ok (.iadd, 1) := by decide +kernel
theorem dX1_look_118 : decode cX1_look 118 = .ok (.istore 6, 2) := by decide +kernel
theorem dX1_look_120 : decode cX1_look 120 = .ok (.iinc 7 1, 3) := by decide +kernel
theorem dX1_look_123 : decode cX1_look 123 = .ok (.goto (-102), 3) := by decide +kernel
theorem dX1_look_126 : decode cX1_look 126 = .ok (.iload_n 1, 1) := by decide +kernel
theorem dX1_look_127 : decode cX1_look 127 = .ok (.ifCond .ne 7, 3) := by decide +kernel
theorem dX1_look_130 : decode cX1_look 130 = .ok (.iload_n 2, 1) := by decide +kernel
theorem dX1_look_131 : decode cX1_look 131 = .ok (.goto 43, 3) := by decide +kernel
theorem dX1_look_134 : decode cX1_look 134 = .ok (.iload_n 1, 1) := by decide +kernel
theorem dX1_look_135 : decode cX1_look 135 = .ok (.iconst 1, 1) := by decide +kernel
theorem dX1_look_136 : decode cX1_look 136 = .ok (.if_icmp .ne 7, 3) := by decide +kernel
theorem dX1_look_139 : decode cX1_look 139 = .ok (.iload_n 3, 1) := by decide +kernel
theorem dX1_look_140 : decode cX1_look 140 = .ok (.goto 34, 3) := by decide +kernel
theorem dX1_look_143 : decode cX1_look 143 = .ok (.iload_n 1, 1) := by decide +kernel
theorem dX1_look_144 : decode cX1_look 144 = .ok (.iconst 2, 1) := by decide +kernel
theorem dX1_look_145 : decode cX1_look 145 = .ok (.if_icmp .ne 8, 3) := by decide +kernel
theorem dX1_look_148 : decode cX1_look 148 = .ok (.iload 4, 2) := by decide +kernel
theorem dX1_look_150 : decode cX1_look 150 = .ok (.goto 24, 3) := by decide +kernel
theorem dX1_look_153 : decode cX1_look 153 = .ok (.iload_n 1, 1) := by decide +kernel
theorem dX1_look_154 : decode cX1_look 154 = .ok (.iconst 3, 1) := by decide +kernel
theorem dX1_look_155 : decode cX1_look 155 = .ok (.if_icmp .ne 8, 3) := by decide +kernel
theorem dX1_look_158 : decode cX1_look 158 = .ok (.iload 5, 2) := by decide +kernel
theorem dX1_look_160 : decode cX1_look 160 = .ok (.goto 14, 3) := by decide +kernel
theorem dX1_look_163 : decode cX1_look 163 = .ok (.iload_n 1, 1) := by decide +kernel
theorem dX1_look_164 : decode cX1_look 164 = .ok (.iconst 4, 1) := by decide +kernel
theorem dX1_look_165 : decode cX1_look 165 = .ok (.if_icmp .ne 8, 3) := by decide +kernel
theorem dX1_look_168 : decode cX1_look 168 = .ok (.iload 6, 2) := by decide +kernel
theorem dX1_look_170 : decode cX1_look 170 = .ok (.goto 4, 3) := by decide +kernel
theorem dX1_look_173 : decode cX1_look 173 = .ok (.iconst (-1), 1) := by decide +kernel
theorem dX1_look_174 : decode cX1_look 174 = .ok (.ireturn, 1) := by decide +kernel
set_option maxHeartbeats 4000000 in
set_option maxRecDepth 100000 in
/-- the reference: error -/
theorem n_error (l : Launch) (D : va_G) (y : Nat → Nat) (ce : Nat → ClassId) (th : Int32) (r0 r1 r2 r3 dn ac : Nat → Int32) (sm : Nat → Int64) (q : Int32) (sz : Nat) : Met l yX1_error wsX1_error ({ frames := 0, cells := 0, slots := 0, locals := 0 } : Room) (va_Pc [.ref (y 0), .int q] (crw D (mw y ce th r0 r1 r2 r3 dn ac sm) (mty ce) sz)) (va_Qi (fun (r : Int32) (t9 : Int32) => (t9 = 0 ∧ (1 ≤ q.toInt ∧ q.toInt ≤ 8) ∧ r = erR r2 r3 q.toInt.toNat 64) ∨ (t9 = 1 ∧ ¬ (1 ≤ q.toInt ∧ q.toInt ≤ 8))) (fun (t9 : Int32) (t : State) => crB D (mw y ce t9 r0 r1 r2 r3 dn ac sm) (mty ce) (va_A (mw y ce th r0 r1 r2 r3 dn ac sm) sz) t) (va_A (mw y ce th r0 r1 r2 r3 dn ac sm) sz)) 0 0 (va_A (mw y ce th r0 r1 r2 r3 dn ac sm) sz) := by
  refine Met.ofW (cc := cX1_error) (maxL := 5) (ret := some .int) (by decide) rfl ?_
  intro p e s m args below meth c s₁ B hml hv
  obtain ⟨rfl, hsz, hP, hK, hD0, hTb⟩ := hv
  have hx := B.exec
  have hb := B.bytes
  have hr := B.returns
  have hts : ∀ w ∈ wA, w.before _ s = true := fun w h => atoms_spec (ws := wsX1_error) B.pre w (List.mem_cons_of_mem _ h)
  have hown : s.vm.findClass RX1 = some m.cls := findClass_of_methodNamed B.named
  have hlocks := B.notSynchronized
  subst hsz
  have hD := hD0.self (sz := s.heap.size)
  generalize hAe : va_A (mw y ce th r0 r1 r2 r3 dn ac sm) s.heap.size = A at hD hTb ⊢
  have hA : ∀ q : Nat, s.heap.size ≤ q → A q := fun q h => by rw [← hAe]; exact Or.inr h
  have hS : va_S A s.heap s.heap [] := va_S.rf
  have hin1 := inA1
  have hf32 := (hts _ wm_302)
  have hf16 := (hts _ wm_305)
  have hf19 := (hts _ wm_306)
  have hl := lv_entry ([.ref (y 0), .int q]) (n := 5) (Nat.le_of_ble_eq_true rfl)
  rw [lg_entry_eq]
  generalize (lg_sl ([.ref (y 0), .int q]) ++ List.replicate (5 - (lg_sl ([.ref (y 0), .int q])).length) Slot.unset).toArray = ls at hl ⊢
  have hl : lv_has ls 5 [(0, .ref (y 0)), (1, .int q)] := hl
  have J17 : ∀ (tv : Int32), ((tv = 0 ∧ (1 ≤ q.toInt ∧ q.toInt ≤ 8)) ∨ (tv = 1 ∧ ¬ ((1 ≤ q.toInt ∧ q.toInt ≤ 8)))) → W p l e ((headSpec wsX1_error ({ frames := 0, cells := 0, slots := 0, locals := 0 } : Room)).room) s m (([.ref (y 0), .int q] : List Value).toArray) below meth c s.heap [] 0 0 (MQ below (va_Qi (fun (r : Int32) (t9 : Int32) => (t9 = 0 ∧ (1 ≤ q.toInt ∧ q.toInt ≤ 8) ∧ r = erR r2 r3 q.toInt.toNat 64) ∨ (t9 = 1 ∧ ¬ (1 ≤ q.toInt ∧ q.toInt ≤ 8))) (fun (t9 : Int32) (t : State) => crB D (mw y ce t9 r0 r1 r2 r3 dn ac sm) (mty ce) A t) A) ([.ref (y 0), .int q] : List Value).toArray s 0 0 A) (F0 m 17 ls [.int tv, .ref (y 0)]) := by
    intro tv htv
    rcases htv with ⟨rfl, hok⟩ | ⟨rfl, hno⟩
    · skip
      obtain ⟨nn, hn9, hej⟩ := cx_ofN (x := q) (n := 9) (by omega) (by omega) (by decide)
      have e_1 : q = nI nn := hej
      rw [e_1] at hl
      refine va_put (D := D) (ci := 1) (v := .int (0 : Int32)) (ty := .int) (C := RX1) (T := TX1) (N := 8) hx hb hts hin1 tyX1 tyX1_ok nmX1 hown hK hP hD hS 0 rfl rfl 0 (by decide) hf32 (fun _ h9 => h9) rfl (by decide +kernel) rfl rfl (Nat.le_of_ble_eq_true rfl) dX1_error_17 (fun H locs hP hD hS => ?_)
      have hP : va_P D vwCl (mw y ce (0 : Int32) r0 r1 r2 r3 dn ac sm) H := hP
      have hD : va_D A (mw y ce (0 : Int32) r0 r1 r2 r3 dn ac sm) := hD
      refine lv_iconst (v := (0 : Int32)) hx hb dX1_error_20 (by decide +kernel) ?_
      refine lv_istore_n (lv' := [(2, .int (0 : Int32)), (0, .ref (y 0)), (1, .int (nI nn))]) hx hb dX1_error_21 rfl hl (by decide) rfl (fun ls hl => ?_)
      refine lv_iconst (v := (0 : Int32)) hx hb dX1_error_22 (by decide +kernel) ?_
      refine lv_istore_n (lv' := [(3, .int (0 : Int32)), (2, .int (0 : Int32)), (0, .ref (y 0)), (1, .int (nI nn))]) hx hb dX1_error_23 rfl hl (by decide) rfl (fun ls hl => ?_)
      have L24 : ∀ (n : Nat) (k9 : Nat) (ls : Array Slot), (64 - k9) < n → (k9 ≤ 64) → lv_has ls 5 [(0, .ref (y 0)), (1, .int (nI nn)), (2, .int (erR r2 r3 nn k9)), (3, .int (nI k9))] → W p l e ((headSpec wsX1_error ({ frames := 0, cells := 0, slots := 0, locals := 0 } : Room)).room) s m (([.ref (y 0), .int q] : List Value).toArray) below meth c H locs 0 0 (MQ below (va_Qi (fun (r : Int32) (t9 : Int32) => (t9 = 0 ∧ (1 ≤ q.toInt ∧ q.toInt ≤ 8) ∧ r = erR r2 r3 q.toInt.toNat 64) ∨ (t9 = 1 ∧ ¬ (1 ≤ q.toInt ∧ q.toInt ≤ 8))) (fun (t9 : Int32) (t : State) => crB D (mw y ce t9 r0 r1 r2 r3 dn ac sm) (mty ce) A t) A) ([.ref (y 0), .int q] : List Value).toArray s 0 0 A) (F0 m 24 ls []) := by
        intro n
        induction n with
        | zero =>
          intro k9 ls hn
          exact absurd hn (Nat.not_lt_zero _)
        | succ n ih24 =>
          intro k9 ls hn24 hk9 hl
          refine lv_iload_n hx hb dX1_error_24 rfl (lv_at hl 3 rfl) ?_
          refine lv_bipush (v := (64 : Int32)) hx hb dX1_error_25 (by decide +kernel) ?_
          refine cx_icmp_ge (i := ((k9 : Nat) : Int)) (j := 64) (tgt := 86) hx hb (nI_toInt (by omega)) (by decide +kernel) dX1_error_27 (by decide) (fun c_2 => ?_) (fun c_2 => ?_)
          · refine lv_iload_n hx hb dX1_error_86 rfl (lv_at hl 2 rfl) ?_
            exact W.iret (v := erR r2 r3 nn k9) hx hb hr (fun t ht hW => ⟨⟨erR r2 r3 nn k9, (0 : Int32), rfl, (by obtain rfl : k9 = 64 := (by omega); exact Or.inl ⟨rfl, hok, by rw [hej, cx_toNat (by omega)]⟩), by rw [ht]; exact hP, va_K.moved hW.alike hK, hD⟩, hS.F ht⟩) hS.2.2 dX1_error_87
          · refine lv_aload_n hx hb dX1_error_30 rfl (lv_at hl 0 rfl) ?_
            refine va_get (D := D) (ci := 1) (v := .int (0 : Int32)) (C := RX1) (T := TX1) (N := 8) hx hb hts hin1 hown hK hP 0 rfl rfl 0 (by decide) hf32 (fun _ h9 => h9) rfl dX1_error_31 ?_
            refine cx_if_ne (i := 0) (j := 0) (tgt := 86) hx hb (by decide +kernel) rfl dX1_error_34 (by decide) (fun c_3 => absurd c_3 (by decide)) (fun c_3 => ?_)
            refine lv_aload_n hx hb dX1_error_37 rfl (lv_at hl 0 rfl) ?_
            refine va_get (D := D) (ci := 1) (v := .ref (y 3)) (C := RX1) (T := TX1) (N := 8) hx hb hts hin1 hown hK hP 0 rfl rfl 3 (by decide) hf16 (fun _ h9 => h9) rfl dX1_error_38 ?_
            refine lv_iload_n hx hb dX1_error_41 rfl (lv_at hl 3 rfl) ?_
            refine cx_iald hx hb hK hP 3 2 rfl rfl k9 (by omega) (by decide) dX1_error_42 ?_
            refine lv_aload_n hx hb dX1_error_43 rfl (lv_at hl 0 rfl) ?_
            refine va_get (D := D) (ci := 1) (v := .ref (y 4)) (C := RX1) (T := TX1) (N := 8) hx hb hts hin1 hown hK hP 0 rfl rfl 4 (by decide) hf19 (fun _ h9 => h9) rfl dX1_error_44 ?_
            refine lv_iload_n hx hb dX1_error_47 rfl (lv_at hl 3 rfl) ?_
            refine cx_iald hx hb hK hP 4 3 rfl rfl k9 (by omega) (by decide) dX1_error_48 ?_
            refine lv_isub hx hb dX1_error_49 ?_
            refine lv_istore (lv' := [(4, .int ((r2 k9) - (r3 k9))), (0, .ref (y 0)), (1, .int (nI nn)), (2, .int (erR r2 r3 nn k9)), (3, .int (nI k9))]) hx hb dX1_error_50 hl (by decide) rfl (fun ls hl => ?_)
            refine lv_iload_n hx hb dX1_error_52 rfl (lv_at hl 3 rfl) ?_
            have J78 : ∀ (tc : Int32), (tc = if k9 / 8 < nn ∧ k9 % 8 < nn then ((r2 k9) - (r3 k9)) * ((r2 k9) - (r3 k9)) else 0) → W p l e ((headSpec wsX1_error ({ frames := 0, cells := 0, slots := 0, locals := 0 } : Room)).room) s m (([.ref (y 0), .int q] : List Value).toArray) below meth c H locs 0 0 (MQ below (va_Qi (fun (r : Int32) (t9 : Int32) => (t9 = 0 ∧ (1 ≤ q.toInt ∧ q.toInt ≤ 8) ∧ r = erR r2 r3 q.toInt.toNat 64) ∨ (t9 = 1 ∧ ¬ (1 ≤ q.toInt ∧ q.toInt ≤ 8))) (fun (t9 : Int32) (t : State) => crB D (mw y ce t9 r0 r1 r2 r3 dn ac sm) (mty ce) A t) A) ([.ref (y 0), .int q] : List Value).toArray s 0 0 A) (F0 m 78 ls [.int tc, .int (erR r2 r3 nn k9)]) := by
              intro tc hcl
              refine lv_iadd hx hb dX1_error_78 ?_
              refine lv_istore_n (lv' := [(2, .int ((erR r2 r3 nn k9) + tc)), (4, .int ((r2 k9) - (r3 k9))), (0, .ref (y 0)), (1, .int (nI nn)), (3, .int (nI k9))]) hx hb dX1_error_79 rfl hl (by decide) rfl (fun ls hl => ?_)
              refine lv_iinc (v := nI (k9 + 1)) (lv' := [(3, .int (nI (k9 + 1))), (2, .int ((erR r2 r3 nn k9) + tc)), (4, .int ((r2 k9) - (r3 k9))), (0, .ref (y 0)), (1, .int (nI nn))]) hx hb dX1_error_80 hl (k := 4) rfl (by show nI k9 + 1 = nI (k9 + 1); exact nI_add k9 1) (by decide) rfl (fun ls hl => ?_)
              refine lv_goto (tgt := 24) hx hb dX1_error_83 (by decide) ?_
              have e_4 : (erR r2 r3 nn k9) + tc = erR r2 r3 nn (k9 + 1) := by rw [hcl]; rfl
              rw [e_4] at hl
              exact ih24 (k9 + 1) _ (by omega) (by omega) (lv_sub hl [3, 4, 1, 0] rfl)
            refine lv_iload_n hx hb dX1_error_53 rfl (lv_at hl 4 rfl) ?_
            refine lv_bipush (v := (8 : Int32)) hx hb dX1_error_54 (by decide +kernel) ?_
            refine lv_idiv hx hb dX1_error_56 (by decide) ?_
            have e_5 : (nI k9) / (8 : Int32) = nI (k9 / 8) := pk_div (by omega) (by decide) (by decide)
            rw [e_5]
            refine lv_iload_n hx hb dX1_error_57 rfl (lv_at hl 2 rfl) ?_
            refine cx_icmp_ge (i := ((k9 / 8 : Nat) : Int)) (j := ((nn : Nat) : Int)) (tgt := 77) hx hb (nI_toInt (by omega)) (nI_toInt (by omega)) dX1_error_58 (by decide) (fun c_6 => ?_) (fun c_6 => ?_)
            · refine lv_iconst (v := (0 : Int32)) hx hb dX1_error_77 (by decide +kernel) ?_
              exact J78 (0 : Int32) (by rw [if_neg (by omega)])
            · refine lv_iload_n hx hb dX1_error_61 rfl (lv_at hl 4 rfl) ?_
              refine lv_bipush (v := (8 : Int32)) hx hb dX1_error_62 (by decide +kernel) ?_
              refine lv_irem hx hb dX1_error_64 (by decide) ?_
              have e_7 : (nI k9) - (nI k9) / (8 : Int32) * (8 : Int32) = nI (k9 % 8) := pk_rem (by omega) (by decide) (by decide)
              rw [e_7]
              refine lv_iload_n hx hb dX1_error_65 rfl (lv_at hl 2 rfl) ?_
              refine cx_icmp_ge (i := ((k9 % 8 : Nat) : Int)) (j := ((nn : Nat) : Int)) (tgt := 77) hx hb (nI_toInt (by omega)) (nI_toInt (by omega)) dX1_error_66 (by decide) (fun c_8 => ?_) (fun c_8 => ?_)
              · refine lv_iconst (v := (0 : Int32)) hx hb dX1_error_77 (by decide +kernel) ?_
                exact J78 (0 : Int32) (by rw [if_neg (by omega)])
              · refine lv_iload hx hb dX1_error_69 (lv_at hl 0 rfl) ?_
                refine lv_iload hx hb dX1_error_71 (lv_at hl 0 rfl) ?_
                refine lv_imul hx hb dX1_error_73 ?_
                refine lv_goto (tgt := 78) hx hb dX1_error_74 (by decide) ?_
                exact J78 (((r2 k9) - (r3 k9)) * ((r2 k9) - (r3 k9))) (by rw [if_pos (by omega)])
      exact L24 _ 0 _ (Nat.lt_succ_self _) (Nat.zero_le _) (lv_sub hl [2, 3, 1, 0] rfl)
    · skip
      refine va_put (D := D) (ci := 1) (v := .int (1 : Int32)) (ty := .int) (C := RX1) (T := TX1) (N := 8) hx hb hts hin1 tyX1 tyX1_ok nmX1 hown hK hP hD hS 0 rfl rfl 0 (by decide) hf32 (fun _ h9 => h9) rfl (by decide +kernel) rfl rfl (Nat.le_of_ble_eq_true rfl) dX1_error_17 (fun H locs hP hD hS => ?_)
      have hP : va_P D vwCl (mw y ce (1 : Int32) r0 r1 r2 r3 dn ac sm) H := hP
      have hD : va_D A (mw y ce (1 : Int32) r0 r1 r2 r3 dn ac sm) := hD
      refine lv_iconst (v := (0 : Int32)) hx hb dX1_error_20 (by decide +kernel) ?_
      refine lv_istore_n (lv' := [(2, .int (0 : Int32)), (0, .ref (y 0)), (1, .int q)]) hx hb dX1_error_21 rfl hl (by decide) rfl (fun ls hl => ?_)
      refine lv_iconst (v := (0 : Int32)) hx hb dX1_error_22 (by decide +kernel) ?_
      refine lv_istore_n (lv' := [(3, .int (0 : Int32)), (2, .int (0 : Int32)), (0, .ref (y 0)), (1, .int q)]) hx hb dX1_error_23 rfl hl (by decide) rfl (fun ls hl => ?_)
      refine lv_iload_n hx hb dX1_error_24 rfl (lv_at hl 0 rfl) ?_
      refine lv_bipush (v := (64 : Int32)) hx hb dX1_error_25 (by decide +kernel) ?_
      refine cx_icmp_ge (i := 0) (j := 64) (tgt := 86) hx hb (by decide +kernel) (by decide +kernel) dX1_error_27 (by decide) (fun c_9 => absurd c_9 (by decide)) (fun c_9 => ?_)
      refine lv_aload_n hx hb dX1_error_30 rfl (lv_at hl 2 rfl) ?_
      refine va_get (D := D) (ci := 1) (v := .int (1 : Int32)) (C := RX1) (T := TX1) (N := 8) hx hb hts hin1 hown hK hP 0 rfl rfl 0 (by decide) hf32 (fun _ h9 => h9) rfl dX1_error_31 ?_
      refine cx_if_ne (i := 1) (j := 0) (tgt := 86) hx hb (by decide +kernel) rfl dX1_error_34 (by decide) (fun c_10 => ?_) (fun c_10 => absurd c_10 (by decide))
      refine lv_iload_n hx hb dX1_error_86 rfl (lv_at hl 1 rfl) ?_
      exact W.iret (v := (0 : Int32)) hx hb hr (fun t ht hW => ⟨⟨(0 : Int32), (1 : Int32), rfl, Or.inr ⟨rfl, hno⟩, by rw [ht]; exact hP, va_K.moved hW.alike hK, hD⟩, hS.F ht⟩) hS.2.2 dX1_error_87
  refine lv_aload_n hx hb dX1_error_0 rfl (lv_at hl 0 rfl) ?_
  refine lv_iload_n hx hb dX1_error_1 rfl (lv_at hl 1 rfl) ?_
  refine lv_iconst (v := (1 : Int32)) hx hb dX1_error_2 (by decide +kernel) ?_
  refine cx_icmp_lt (i := q.toInt) (j := 1) (tgt := 12) hx hb rfl (by decide +kernel) dX1_error_3 (by decide) (fun c_11 => ?_) (fun c_11 => ?_)
  · refine lv_iconst (v := (1 : Int32)) hx hb dX1_error_12 (by decide +kernel) ?_
    refine lv_goto (tgt := 17) hx hb dX1_error_13 (by decide) ?_
    exact J17 (1 : Int32) (Or.inr ⟨rfl, by omega⟩)
  · refine lv_iload_n hx hb dX1_error_6 rfl (lv_at hl 1 rfl) ?_
    refine lv_bipush (v := (8 : Int32)) hx hb dX1_error_7 (by decide +kernel) ?_
    refine cx_icmp_le (i := q.toInt) (j := 8) (tgt := 16) hx hb rfl (by decide +kernel) dX1_error_9 (by decide) (fun c_12 => ?_) (fun c_12 => ?_)
    · refine lv_iconst (v := (0 : Int32)) hx hb dX1_error_16 (by decide +kernel) ?_
      exact J17 (0 : Int32) (Or.inl ⟨rfl, by omega⟩)
    · refine lv_iconst (v := (1 : Int32)) hx hb dX1_error_12 (by decide +kernel) ?_
      refine lv_goto (tgt := 17) hx hb dX1_error_13 (by decide) ?_
      exact J17 (1 : Int32) (Or.inr ⟨rfl, by omega⟩)
set_option maxHeartbeats 4000000 in
set_option maxRecDepth 100000 in
/-- the reference: at -/
theorem n_at (l : Launch) (D : va_G) (y : Nat → Nat) (ce : Nat → ClassId) (th : Int32) (r0 r1 r2 r3 dn ac : Nat → Int32) (sm : Nat → Int64) (hdn : dnOk dn ac) (q k9 : Int32) (sz : Nat) : Met l yX1_at wsX1_at ({ frames := 1, cells := 0, slots := 0, locals := 20 } : Room) (va_Pc [.ref (y 0), .int q, .int k9] (crw D (mw y ce th r0 r1 r2 r3 dn ac sm) (mty ce) sz)) (va_Qi (fun (r : Int32) (t9 : Int32) => (t9 = 0 ∧ ((0 ≤ q.toInt ∧ q.toInt < 64) ∧ (0 ≤ k9.toInt ∧ k9.toInt ≤ 3)) ∧ r = atR r0 r1 q.toInt.toNat k9) ∨ (t9 = 1 ∧ ¬ ((0 ≤ q.toInt ∧ q.toInt < 64) ∧ (0 ≤ k9.toInt ∧ k9.toInt ≤ 3)))) (fun (t9 : Int32) (t : State) => crB D (mw y ce t9 r0 r1 r2 r3 dn ac sm) (mty ce) (va_A (mw y ce th r0 r1 r2 r3 dn ac sm) sz) t) (va_A (mw y ce th r0 r1 r2 r3 dn ac sm) sz)) 0 0 (va_A (mw y ce th r0 r1 r2 r3 dn ac sm) sz) := by
  refine Met.ofW (cc := cX1_at) (maxL := 3) (ret := some .int) (by decide) rfl ?_
  intro p e s m args below meth c s₁ B hml hv
  obtain ⟨rfl, hsz, hP, hK, hD0, hTb⟩ := hv
  have hx := B.exec
  have hb := B.bytes
  have hr := B.returns
  have hts : ∀ w ∈ wA, w.before _ s = true := fun w h => atoms_spec (ws := wsX1_at) B.pre w (List.mem_cons_of_mem _ h)
  have hown : s.vm.findClass RX1 = some m.cls := findClass_of_methodNamed B.named
  have hlocks := B.notSynchronized
  subst hsz
  have hD := hD0.self (sz := s.heap.size)
  generalize hAe : va_A (mw y ce th r0 r1 r2 r3 dn ac sm) s.heap.size = A at hD hTb ⊢
  have hA : ∀ q : Nat, s.heap.size ≤ q → A q := fun q h => by rw [← hAe]; exact Or.inr h
  have hS : va_S A s.heap s.heap [] := va_S.rf
  have hin1 := inA1
  have hf32 := (hts _ wm_302)
  have hf7 := (hts _ wm_303)
  have hf13 := (hts _ wm_304)
  have hf22 := (hts _ wm_307)
  have hf25 := (hts _ wm_308)
  have hl := lv_entry ([.ref (y 0), .int q, .int k9]) (n := 3) (Nat.le_of_ble_eq_true rfl)
  rw [lg_entry_eq]
  generalize (lg_sl ([.ref (y 0), .int q, .int k9]) ++ List.replicate (3 - (lg_sl ([.ref (y 0), .int q, .int k9])).length) Slot.unset).toArray = ls at hl ⊢
  have hl : lv_has ls 3 [(0, .ref (y 0)), (1, .int q), (2, .int k9)] := hl
  have J22 : ∀ (tv : Int32), ((tv = 0 ∧ (0 ≤ q.toInt ∧ q.toInt < 64) ∧ (0 ≤ k9.toInt ∧ k9.toInt ≤ 3)) ∨ (tv = 1 ∧ ¬ ((0 ≤ q.toInt ∧ q.toInt < 64) ∧ (0 ≤ k9.toInt ∧ k9.toInt ≤ 3)))) → W p l e ((headSpec wsX1_at ({ frames := 1, cells := 0, slots := 0, locals := 20 } : Room)).room) s m (([.ref (y 0), .int q, .int k9] : List Value).toArray) below meth c s.heap [] 0 0 (MQ below (va_Qi (fun (r : Int32) (t9 : Int32) => (t9 = 0 ∧ ((0 ≤ q.toInt ∧ q.toInt < 64) ∧ (0 ≤ k9.toInt ∧ k9.toInt ≤ 3)) ∧ r = atR r0 r1 q.toInt.toNat k9) ∨ (t9 = 1 ∧ ¬ ((0 ≤ q.toInt ∧ q.toInt < 64) ∧ (0 ≤ k9.toInt ∧ k9.toInt ≤ 3)))) (fun (t9 : Int32) (t : State) => crB D (mw y ce t9 r0 r1 r2 r3 dn ac sm) (mty ce) A t) A) ([.ref (y 0), .int q, .int k9] : List Value).toArray s 0 0 A) (F0 m 22 ls [.int tv, .ref (y 0)]) := by
    intro tv htv
    rcases htv with ⟨rfl, hok⟩ | ⟨rfl, hno⟩
    · skip
      obtain ⟨j9, hj9, hej⟩ := cx_ofN (x := q) (n := 64) (by omega) (by omega) (by decide)
      have e_1 : q = nI j9 := hej
      rw [e_1] at hl
      refine va_put (D := D) (ci := 1) (v := .int (0 : Int32)) (ty := .int) (C := RX1) (T := TX1) (N := 8) hx hb hts hin1 tyX1 tyX1_ok nmX1 hown hK hP hD hS 0 rfl rfl 0 (by decide) hf32 (fun _ h9 => h9) rfl (by decide +kernel) rfl rfl (Nat.le_of_ble_eq_true rfl) dX1_at_22 (fun H locs hP hD hS => ?_)
      have hP : va_P D vwCl (mw y ce (0 : Int32) r0 r1 r2 r3 dn ac sm) H := hP
      have hD : va_D A (mw y ce (0 : Int32) r0 r1 r2 r3 dn ac sm) := hD
      refine lv_aload_n hx hb dX1_at_25 rfl (lv_at hl 0 rfl) ?_
      refine va_get (D := D) (ci := 1) (v := .int (0 : Int32)) (C := RX1) (T := TX1) (N := 8) hx hb hts hin1 hown hK hP 0 rfl rfl 0 (by decide) hf32 (fun _ h9 => h9) rfl dX1_at_26 ?_
      refine cx_if_le (i := 0) (j := 0) (tgt := 36) hx hb (by decide +kernel) rfl dX1_at_29 (by decide) (fun c_2 => ?_) (fun c_2 => absurd c_2 (by decide))
      refine lv_iload_n hx hb dX1_at_36 rfl (lv_at hl 2 rfl) ?_
      refine cx_if_ne (i := k9.toInt) (j := 0) (tgt := 49) hx hb rfl rfl dX1_at_37 (by decide) (fun c_3 => ?_) (fun c_3 => ?_)
      · refine lv_iload_n hx hb dX1_at_49 rfl (lv_at hl 2 rfl) ?_
        refine lv_iconst (v := (1 : Int32)) hx hb dX1_at_50 (by decide +kernel) ?_
        refine cx_icmp_ne (i := k9.toInt) (j := 1) (tgt := 63) hx hb rfl (by decide +kernel) dX1_at_51 (by decide) (fun c_4 => ?_) (fun c_4 => ?_)
        · refine lv_iload_n hx hb dX1_at_63 rfl (lv_at hl 2 rfl) ?_
          refine lv_iconst (v := (2 : Int32)) hx hb dX1_at_64 (by decide +kernel) ?_
          refine cx_icmp_ne (i := k9.toInt) (j := 2) (tgt := 77) hx hb rfl (by decide +kernel) dX1_at_65 (by decide) (fun c_5 => ?_) (fun c_5 => ?_)
          · refine lv_aload_n hx hb dX1_at_77 rfl (lv_at hl 0 rfl) ?_
            refine va_get (D := D) (ci := 1) (v := .ref (y 6)) (C := RX1) (T := TX1) (N := 8) hx hb hts hin1 hown hK hP 0 rfl rfl 6 (by decide) hf25 (fun _ h9 => h9) rfl dX1_at_78 ?_
            refine lv_iload_n hx hb dX1_at_81 rfl (lv_at hl 1 rfl) ?_
            refine cx_iald hx hb hK hP 6 5 rfl rfl j9 (by omega) (by decide) dX1_at_82 ?_
            exact W.iret (v := ac j9) hx hb hr (fun t ht hW => ⟨⟨ac j9, (0 : Int32), rfl, Or.inl ⟨rfl, hok, by unfold atR; rw [hej, cx_toNat (by omega), if_neg (by omega), if_neg (by omega), if_neg (by omega)]; exact (hdn j9 (by omega)).2⟩, by rw [ht]; exact hP, va_K.moved hW.alike hK, hD⟩, hS.F ht⟩) hS.2.2 dX1_at_83
          · refine lv_aload_n hx hb dX1_at_68 rfl (lv_at hl 0 rfl) ?_
            refine va_get (D := D) (ci := 1) (v := .ref (y 5)) (C := RX1) (T := TX1) (N := 8) hx hb hts hin1 hown hK hP 0 rfl rfl 5 (by decide) hf22 (fun _ h9 => h9) rfl dX1_at_69 ?_
            refine lv_iload_n hx hb dX1_at_72 rfl (lv_at hl 1 rfl) ?_
            refine cx_iald hx hb hK hP 5 4 rfl rfl j9 (by omega) (by decide) dX1_at_73 ?_
            refine lv_goto (tgt := 83) hx hb dX1_at_74 (by decide) ?_
            exact W.iret (v := dn j9) hx hb hr (fun t ht hW => ⟨⟨dn j9, (0 : Int32), rfl, Or.inl ⟨rfl, hok, by unfold atR; rw [hej, cx_toNat (by omega), if_neg (by omega), if_neg (by omega), if_pos (by omega)]; exact (hdn j9 (by omega)).1⟩, by rw [ht]; exact hP, va_K.moved hW.alike hK, hD⟩, hS.F ht⟩) hS.2.2 dX1_at_83
        · refine lv_aload_n hx hb dX1_at_54 rfl (lv_at hl 0 rfl) ?_
          refine va_get (D := D) (ci := 1) (v := .ref (y 2)) (C := RX1) (T := TX1) (N := 8) hx hb hts hin1 hown hK hP 0 rfl rfl 2 (by decide) hf13 (fun _ h9 => h9) rfl dX1_at_55 ?_
          refine lv_iload_n hx hb dX1_at_58 rfl (lv_at hl 1 rfl) ?_
          refine cx_iald hx hb hK hP 2 1 rfl rfl j9 (by omega) (by decide) dX1_at_59 ?_
          refine lv_goto (tgt := 83) hx hb dX1_at_60 (by decide) ?_
          exact W.iret (v := r1 j9) hx hb hr (fun t ht hW => ⟨⟨r1 j9, (0 : Int32), rfl, Or.inl ⟨rfl, hok, by unfold atR; rw [hej, cx_toNat (by omega), if_neg (by omega), if_pos (by omega)]⟩, by rw [ht]; exact hP, va_K.moved hW.alike hK, hD⟩, hS.F ht⟩) hS.2.2 dX1_at_83
      · refine lv_aload_n hx hb dX1_at_40 rfl (lv_at hl 0 rfl) ?_
        refine va_get (D := D) (ci := 1) (v := .ref (y 1)) (C := RX1) (T := TX1) (N := 8) hx hb hts hin1 hown hK hP 0 rfl rfl 1 (by decide) hf7 (fun _ h9 => h9) rfl dX1_at_41 ?_
        refine lv_iload_n hx hb dX1_at_44 rfl (lv_at hl 1 rfl) ?_
        refine cx_iald hx hb hK hP 1 0 rfl rfl j9 (by omega) (by decide) dX1_at_45 ?_
        refine lv_goto (tgt := 83) hx hb dX1_at_46 (by decide) ?_
        exact W.iret (v := r0 j9) hx hb hr (fun t ht hW => ⟨⟨r0 j9, (0 : Int32), rfl, Or.inl ⟨rfl, hok, by unfold atR; rw [hej, cx_toNat (by omega), if_pos (by omega)]⟩, by rw [ht]; exact hP, va_K.moved hW.alike hK, hD⟩, hS.F ht⟩) hS.2.2 dX1_at_83
    · skip
      refine va_put (D := D) (ci := 1) (v := .int (1 : Int32)) (ty := .int) (C := RX1) (T := TX1) (N := 8) hx hb hts hin1 tyX1 tyX1_ok nmX1 hown hK hP hD hS 0 rfl rfl 0 (by decide) hf32 (fun _ h9 => h9) rfl (by decide +kernel) rfl rfl (Nat.le_of_ble_eq_true rfl) dX1_at_22 (fun H locs hP hD hS => ?_)
      have hP : va_P D vwCl (mw y ce (1 : Int32) r0 r1 r2 r3 dn ac sm) H := hP
      have hD : va_D A (mw y ce (1 : Int32) r0 r1 r2 r3 dn ac sm) := hD
      refine lv_aload_n hx hb dX1_at_25 rfl (lv_at hl 0 rfl) ?_
      refine va_get (D := D) (ci := 1) (v := .int (1 : Int32)) (C := RX1) (T := TX1) (N := 8) hx hb hts hin1 hown hK hP 0 rfl rfl 0 (by decide) hf32 (fun _ h9 => h9) rfl dX1_at_26 ?_
      refine cx_if_le (i := 1) (j := 0) (tgt := 36) hx hb (by decide +kernel) rfl dX1_at_29 (by decide) (fun c_6 => absurd c_6 (by decide)) (fun c_6 => ?_)
      refine lv_iconst (v := (0 : Int32)) hx hb dX1_at_32 (by decide +kernel) ?_
      refine lv_goto (tgt := 83) hx hb dX1_at_33 (by decide) ?_
      exact W.iret (v := (0 : Int32)) hx hb hr (fun t ht hW => ⟨⟨(0 : Int32), (1 : Int32), rfl, Or.inr ⟨rfl, hno⟩, by rw [ht]; exact hP, va_K.moved hW.alike hK, hD⟩, hS.F ht⟩) hS.2.2 dX1_at_83
  refine lv_aload_n hx hb dX1_at_0 rfl (lv_at hl 0 rfl) ?_
  refine lv_iload_n hx hb dX1_at_1 rfl (lv_at hl 1 rfl) ?_
  refine vp_callSi (W.runS (As := [.int q]) (rest := [.ref (y 0)]) ⟨hx, hb, hml, hown, hts⟩ (n_isPlace l D q) (va_cwS 1 hts (gw_S wm_335 wm_336 wm_13 wm_337) rfl rfl rfl (by decide +kernel) ⟨Nat.le_of_ble_eq_true rfl, Nat.le_of_ble_eq_true rfl⟩) ⟨cro_blind, fun U hU hW => ⟨rfl, cro_at (hP.sub (ws' := []) [] rfl) (hK.sub (tys' := []) [] rfl) hTb hS hU hW⟩⟩ rfl rfl hl.1 rfl (lv_room (Nat.le_of_ble_eq_true rfl)) dX1_at_2 ⟨Nat.le_of_ble_eq_true rfl, Nat.le_of_ble_eq_true rfl⟩) (fun r_7 hr_7 => ?_)
  rcases hr_7 with ⟨rfl, ha9, hb9⟩ | ⟨rfl, ha9⟩
  · refine cx_if_eq (i := 1) (j := 0) (tgt := 17) hx hb (by decide +kernel) rfl dX1_at_5 (by decide) (fun c_8 => absurd c_8 (by decide)) (fun c_8 => ?_)
    refine lv_iload_n hx hb dX1_at_8 rfl (lv_at hl 2 rfl) ?_
    refine cx_if_lt (i := k9.toInt) (j := 0) (tgt := 17) hx hb rfl rfl dX1_at_9 (by decide) (fun c_9 => ?_) (fun c_9 => ?_)
    · refine lv_iconst (v := (1 : Int32)) hx hb dX1_at_17 (by decide +kernel) ?_
      refine lv_goto (tgt := 22) hx hb dX1_at_18 (by decide) ?_
      exact J22 (1 : Int32) (Or.inr ⟨rfl, by omega⟩)
    · refine lv_iload_n hx hb dX1_at_12 rfl (lv_at hl 2 rfl) ?_
      refine lv_iconst (v := (3 : Int32)) hx hb dX1_at_13 (by decide +kernel) ?_
      refine cx_icmp_le (i := k9.toInt) (j := 3) (tgt := 21) hx hb rfl (by decide +kernel) dX1_at_14 (by decide) (fun c_10 => ?_) (fun c_10 => ?_)
      · refine lv_iconst (v := (0 : Int32)) hx hb dX1_at_21 (by decide +kernel) ?_
        exact J22 (0 : Int32) (Or.inl ⟨rfl, by omega⟩)
      · refine lv_iconst (v := (1 : Int32)) hx hb dX1_at_17 (by decide +kernel) ?_
        refine lv_goto (tgt := 22) hx hb dX1_at_18 (by decide) ?_
        exact J22 (1 : Int32) (Or.inr ⟨rfl, by omega⟩)
  · refine cx_if_eq (i := 0) (j := 0) (tgt := 17) hx hb (by decide +kernel) rfl dX1_at_5 (by decide) (fun c_11 => ?_) (fun c_11 => absurd c_11 (by decide))
    refine lv_iconst (v := (1 : Int32)) hx hb dX1_at_17 (by decide +kernel) ?_
    refine lv_goto (tgt := 22) hx hb dX1_at_18 (by decide) ?_
    exact J22 (1 : Int32) (Or.inr ⟨rfl, by omega⟩)
set_option maxHeartbeats 4000000 in
set_option maxRecDepth 100000 in
/-- the reference: order -/
theorem n_order (l : Launch) (D : va_G) (y : Nat → Nat) (ce : Nat → ClassId) (th : Int32) (r0 r1 r2 r3 dn ac : Nat → Int32) (sm : Nat → Int64) (hdn : dnOk dn ac) (a9 b9 : Int32) (sz : Nat) : Met l yX1_order wsX1_order ({ frames := 1, cells := 0, slots := 0, locals := 24 } : Room) (va_Pc [.ref (y 0), .int a9, .int b9] (crw D (mw y ce th r0 r1 r2 r3 dn ac sm) (mty ce) sz)) (va_Qi (fun (r : Int32) (t9 : Int32) => t9 = 0 ∧ r = orderV a9 b9) (fun (t9 : Int32) (t : State) => crB D (mw y ce t9 r0 r1 r2 r3 dn ac sm) (mty ce) (va_A (mw y ce th r0 r1 r2 r3 dn ac sm) sz) t) (va_A (mw y ce th r0 r1 r2 r3 dn ac sm) sz)) 0 0 (va_A (mw y ce th r0 r1 r2 r3 dn ac sm) sz) := by
  refine Met.ofW (cc := cX1_order) (maxL := 3) (ret := some .int) (by decide) rfl ?_
  intro p e s m args below meth c s₁ B hml hv
  obtain ⟨rfl, hsz, hP, hK, hD0, hTb⟩ := hv
  have hx := B.exec
  have hb := B.bytes
  have hr := B.returns
  have hts : ∀ w ∈ wA, w.before _ s = true := fun w h => atoms_spec (ws := wsX1_order) B.pre w (List.mem_cons_of_mem _ h)
  have hown : s.vm.findClass RX1 = some m.cls := findClass_of_methodNamed B.named
  have hlocks := B.notSynchronized
  subst hsz
  have hD := hD0.self (sz := s.heap.size)
  generalize hAe : va_A (mw y ce th r0 r1 r2 r3 dn ac sm) s.heap.size = A at hD hTb ⊢
  have hA : ∀ q : Nat, s.heap.size ≤ q → A q := fun q h => by rw [← hAe]; exact Or.inr h
  have hS : va_S A s.heap s.heap [] := va_S.rf
  have hin1 := inA1
  have hf32 := (hts _ wm_302)
  have hl := lv_entry ([.ref (y 0), .int a9, .int b9]) (n := 3) (Nat.le_of_ble_eq_true rfl)
  rw [lg_entry_eq]
  generalize (lg_sl ([.ref (y 0), .int a9, .int b9]) ++ List.replicate (3 - (lg_sl ([.ref (y 0), .int a9, .int b9])).length) Slot.unset).toArray = ls at hl ⊢
  have hl : lv_has ls 3 [(0, .ref (y 0)), (1, .int a9), (2, .int b9)] := hl
  refine lv_aload_n hx hb dX1_order_0 rfl (lv_at hl 0 rfl) ?_
  refine lv_iconst (v := (0 : Int32)) hx hb dX1_order_1 (by decide +kernel) ?_
  refine va_put (D := D) (ci := 1) (v := .int (0 : Int32)) (ty := .int) (C := RX1) (T := TX1) (N := 8) hx hb hts hin1 tyX1 tyX1_ok nmX1 hown hK hP hD hS 0 rfl rfl 0 (by decide) hf32 (fun _ h9 => h9) rfl (by decide +kernel) rfl rfl (Nat.le_of_ble_eq_true rfl) dX1_order_2 (fun H locs hP hD hS => ?_)
  have hP : va_P D vwCl (mw y ce (0 : Int32) r0 r1 r2 r3 dn ac sm) H := hP
  have hD : va_D A (mw y ce (0 : Int32) r0 r1 r2 r3 dn ac sm) := hD
  refine lv_aload_n hx hb dX1_order_5 rfl (lv_at hl 0 rfl) ?_
  refine lv_iload_n hx hb dX1_order_6 rfl (lv_at hl 1 rfl) ?_
  refine lv_iload_n hx hb dX1_order_7 rfl (lv_at hl 2 rfl) ?_
  refine vp_callSi (W.runV (As := [.int a9, .int b9]) (rest := []) ⟨hx, hb, hml, hown, hts⟩ (n_orderOf l D y ce (0 : Int32) r0 r1 r2 r3 dn ac sm hdn a9 b9) (cwV 2 hts (gw_V wm_362 wm_364 wm_9 wm_13 wm_365) rfl rfl rfl (by decide +kernel) ⟨Nat.le_of_ble_eq_true rfl, Nat.le_of_ble_eq_true rfl⟩) ⟨cro_blind, va_recv hK hP (ci := 1) (q0 := 0) rfl rfl, fun U hU hW => ⟨rfl, cro_at hP hK hTb hS hU hW⟩⟩ rfl rfl hl.1 rfl (lv_room (Nat.le_of_ble_eq_true rfl)) dX1_order_8 ⟨Nat.le_of_ble_eq_true rfl, Nat.le_of_ble_eq_true rfl⟩) (fun r_1 hr_1 => ?_)
  rw [hr_1]
  exact W.iret (v := orderV a9 b9) hx hb hr (fun t ht hW => ⟨⟨orderV a9 b9, (0 : Int32), rfl, ⟨rfl, rfl⟩, by rw [ht]; exact hP, va_K.moved hW.alike hK, hD⟩, hS.F ht⟩) hS.2.2 dX1_order_11
set_option maxHeartbeats 4000000 in
set_option maxRecDepth 100000 in
/-- the reference: samples -/
theorem n_samples (l : Launch) (D : va_G) (y : Nat → Nat) (ce : Nat → ClassId) (th : Int32) (r0 r1 r2 r3 dn ac : Nat → Int32) (sm : Nat → Int64) (q : Int32) (sz : Nat) : Met l yX1_samples wsX1_samples ({ frames := 0, cells := 0, slots := 0, locals := 0 } : Room) (va_Pc [.ref (y 0), .int q] (crw D (mw y ce th r0 r1 r2 r3 dn ac sm) (mty ce) sz)) (va_Ql (fun (r : Int64) (t9 : Int32) => t9 = 0 ∧ r = samplesV r2 q) (fun (t9 : Int32) (t : State) => crB D (mw y ce t9 r0 r1 r2 r3 dn ac sm) (mty ce) (va_A (mw y ce th r0 r1 r2 r3 dn ac sm) sz) t) (va_A (mw y ce th r0 r1 r2 r3 dn ac sm) sz)) 0 0 (va_A (mw y ce th r0 r1 r2 r3 dn ac sm) sz) := by
  refine Met.ofW (cc := cX1_samples) (maxL := 5) (ret := some .long) (by decide) rfl ?_
  intro p e s m args below meth c s₁ B hml hv
  obtain ⟨rfl, hsz, hP, hK, hD0, hTb⟩ := hv
  have hx := B.exec
  have hb := B.bytes
  have hr := B.returns
  have hts : ∀ w ∈ wA, w.before _ s = true := fun w h => atoms_spec (ws := wsX1_samples) B.pre w (List.mem_cons_of_mem _ h)
  have hown : s.vm.findClass RX1 = some m.cls := findClass_of_methodNamed B.named
  have hlocks := B.notSynchronized
  subst hsz
  have hD := hD0.self (sz := s.heap.size)
  generalize hAe : va_A (mw y ce th r0 r1 r2 r3 dn ac sm) s.heap.size = A at hD hTb ⊢
  have hA : ∀ q : Nat, s.heap.size ≤ q → A q := fun q h => by rw [← hAe]; exact Or.inr h
  have hS : va_S A s.heap s.heap [] := va_S.rf
  have hin1 := inA1
  have hf32 := (hts _ wm_302)
  have hf16 := (hts _ wm_305)
  have hl := lv_entry ([.ref (y 0), .int q]) (n := 5) (Nat.le_of_ble_eq_true rfl)
  rw [lg_entry_eq]
  generalize (lg_sl ([.ref (y 0), .int q]) ++ List.replicate (5 - (lg_sl ([.ref (y 0), .int q])).length) Slot.unset).toArray = ls at hl ⊢
  have hl : lv_has ls 5 [(0, .ref (y 0)), (1, .int q)] := hl
  refine lv_aload_n hx hb dX1_samples_0 rfl (lv_at hl 0 rfl) ?_
  refine lv_iconst (v := (0 : Int32)) hx hb dX1_samples_1 (by decide +kernel) ?_
  refine va_put (D := D) (ci := 1) (v := .int (0 : Int32)) (ty := .int) (C := RX1) (T := TX1) (N := 8) hx hb hts hin1 tyX1 tyX1_ok nmX1 hown hK hP hD hS 0 rfl rfl 0 (by decide) hf32 (fun _ h9 => h9) rfl (by decide +kernel) rfl rfl (Nat.le_of_ble_eq_true rfl) dX1_samples_2 (fun H locs hP hD hS => ?_)
  have hP : va_P D vwCl (mw y ce (0 : Int32) r0 r1 r2 r3 dn ac sm) H := hP
  have hD : va_D A (mw y ce (0 : Int32) r0 r1 r2 r3 dn ac sm) := hD
  by_cases hy9 : 0 ≤ q.toInt ∧ q.toInt < 8
  · obtain ⟨a8, hla, hea⟩ := cx_ofN (x := q) (n := 8) (by omega) (by omega) (by decide)
    have e_1 : q = nI a8 := hea
    rw [e_1] at hl
    refine lv_lconst (v := (0 : Int64)) hx hb dX1_samples_5 (by decide +kernel) ?_
    refine lv_lstore_n (lv' := [(2, .long (0 : Int64)), (0, .ref (y 0)), (1, .int (nI a8))]) hx hb dX1_samples_6 rfl hl (by decide) rfl (fun ls hl => ?_)
    refine lv_iconst (v := (0 : Int32)) hx hb dX1_samples_7 (by decide +kernel) ?_
    refine lv_istore (lv' := [(4, .int (0 : Int32)), (2, .long (0 : Int64)), (0, .ref (y 0)), (1, .int (nI a8))]) hx hb dX1_samples_8 hl (by decide) rfl (fun ls hl => ?_)
    have L10 : ∀ (n : Nat) (i9 : Nat) (ls : Array Slot), (8 - i9) < n → (i9 ≤ 8) → lv_has ls 5 [(0, .ref (y 0)), (1, .int (nI a8)), (2, .long (smp r2 a8 i9)), (4, .int (nI i9))] → W p l e ((headSpec wsX1_samples ({ frames := 0, cells := 0, slots := 0, locals := 0 } : Room)).room) s m (([.ref (y 0), .int q] : List Value).toArray) below meth c H locs 0 0 (MQ below (va_Ql (fun (r : Int64) (t9 : Int32) => t9 = 0 ∧ r = samplesV r2 q) (fun (t9 : Int32) (t : State) => crB D (mw y ce t9 r0 r1 r2 r3 dn ac sm) (mty ce) A t) A) ([.ref (y 0), .int q] : List Value).toArray s 0 0 A) (F0 m 10 ls []) := by
      intro n
      induction n with
      | zero =>
        intro i9 ls hn
        exact absurd hn (Nat.not_lt_zero _)
      | succ n ih10 =>
        intro i9 ls hn10 hi9 hl
        refine lv_iload hx hb dX1_samples_10 (lv_at hl 3 rfl) ?_
        refine lv_bipush (v := (8 : Int32)) hx hb dX1_samples_12 (by decide +kernel) ?_
        refine cx_icmp_ge (i := ((i9 : Nat) : Int)) (j := 8) (tgt := 52) hx hb (nI_toInt (by omega)) (by decide +kernel) dX1_samples_14 (by decide) (fun c_2 => ?_) (fun c_2 => ?_)
        · refine lv_lload_n hx hb dX1_samples_52 rfl (lv_at hl 2 rfl) ?_
          exact W.lret (v := smp r2 a8 i9) hx hb hr (fun t ht hW => ⟨⟨smp r2 a8 i9, (0 : Int32), rfl, (by obtain rfl : i9 = 8 := (by omega); exact ⟨rfl, by unfold samplesV; rw [if_pos hy9, hea, cx_toNat (by omega)]⟩), by rw [ht]; exact hP, va_K.moved hW.alike hK, hD⟩, hS.F ht⟩) hS.2.2 dX1_samples_53
        · refine lv_iload_n hx hb dX1_samples_17 rfl (lv_at hl 1 rfl) ?_
          refine cx_if_lt (i := ((a8 : Nat) : Int)) (j := 0) (tgt := 52) hx hb (nI_toInt (by omega)) rfl dX1_samples_18 (by decide) (fun c_3 => absurd c_3 (by omega)) (fun c_3 => ?_)
          refine lv_iload_n hx hb dX1_samples_21 rfl (lv_at hl 1 rfl) ?_
          refine lv_bipush (v := (8 : Int32)) hx hb dX1_samples_22 (by decide +kernel) ?_
          refine cx_icmp_ge (i := ((a8 : Nat) : Int)) (j := 8) (tgt := 52) hx hb (nI_toInt (by omega)) (by decide +kernel) dX1_samples_24 (by decide) (fun c_4 => ?_) (fun c_4 => ?_)
          · refine lv_lload_n hx hb dX1_samples_52 rfl (lv_at hl 2 rfl) ?_
            exact W.lret (v := smp r2 a8 i9) hx hb hr (fun t ht hW => ⟨⟨smp r2 a8 i9, (0 : Int32), rfl, (by obtain rfl : i9 = 8 := (by omega); exact ⟨rfl, by unfold samplesV; rw [if_pos hy9, hea, cx_toNat (by omega)]⟩), by rw [ht]; exact hP, va_K.moved hW.alike hK, hD⟩, hS.F ht⟩) hS.2.2 dX1_samples_53
          · refine lv_lload_n hx hb dX1_samples_27 rfl (lv_at hl 2 rfl) ?_
            refine lv_bipush (v := (8 : Int32)) hx hb dX1_samples_28 (by decide +kernel) ?_
            refine lv_lshl hx hb dX1_samples_30 rfl ?_
            refine lv_aload_n hx hb dX1_samples_31 rfl (lv_at hl 0 rfl) ?_
            refine va_get (D := D) (ci := 1) (v := .ref (y 3)) (C := RX1) (T := TX1) (N := 8) hx hb hts hin1 hown hK hP 0 rfl rfl 3 (by decide) hf16 (fun _ h9 => h9) rfl dX1_samples_32 ?_
            refine lv_bipush (v := (8 : Int32)) hx hb dX1_samples_35 (by decide +kernel) ?_
            refine lv_iload_n hx hb dX1_samples_37 rfl (lv_at hl 1 rfl) ?_
            refine cx_imul hx hb 8 a8 dX1_samples_38 ?_
            refine lv_iload hx hb dX1_samples_39 (lv_at hl 3 rfl) ?_
            refine cx_iadd hx hb (8 * a8) i9 dX1_samples_41 ?_
            rw [show 8 * a8 + i9 = a8 * 8 + i9 from by omega]
            refine cx_iald hx hb hK hP 3 2 rfl rfl (a8 * 8 + i9) (by omega) (by decide) dX1_samples_42 ?_
            refine lv_i2l hx hb dX1_samples_43 rfl ?_
            refine lv_lor hx hb dX1_samples_44 ?_
            refine lv_lstore_n (lv' := [(2, .long (((smp r2 a8 i9) <<< ((8 : Int32).toInt64 &&& 63)) ||| ((r2 (a8 * 8 + i9)).toInt64))), (0, .ref (y 0)), (1, .int (nI a8)), (4, .int (nI i9))]) hx hb dX1_samples_45 rfl hl (by decide) rfl (fun ls hl => ?_)
            refine lv_iinc (v := nI (i9 + 1)) (lv' := [(4, .int (nI (i9 + 1))), (2, .long (((smp r2 a8 i9) <<< ((8 : Int32).toInt64 &&& 63)) ||| ((r2 (a8 * 8 + i9)).toInt64))), (0, .ref (y 0)), (1, .int (nI a8))]) hx hb dX1_samples_46 hl (k := 3) rfl (by show nI i9 + 1 = nI (i9 + 1); exact nI_add i9 1) (by decide) rfl (fun ls hl => ?_)
            refine lv_goto (tgt := 10) hx hb dX1_samples_49 (by decide) ?_
            exact ih10 (i9 + 1) _ (by omega) (by omega) (lv_sub hl [2, 3, 1, 0] rfl)
    exact L10 _ 0 _ (Nat.lt_succ_self _) (Nat.zero_le _) (lv_sub hl [2, 3, 1, 0] rfl)
  · skip
    refine lv_lconst (v := (0 : Int64)) hx hb dX1_samples_5 (by decide +kernel) ?_
    refine lv_lstore_n (lv' := [(2, .long (0 : Int64)), (0, .ref (y 0)), (1, .int q)]) hx hb dX1_samples_6 rfl hl (by decide) rfl (fun ls hl => ?_)
    refine lv_iconst (v := (0 : Int32)) hx hb dX1_samples_7 (by decide +kernel) ?_
    refine lv_istore (lv' := [(4, .int (0 : Int32)), (2, .long (0 : Int64)), (0, .ref (y 0)), (1, .int q)]) hx hb dX1_samples_8 hl (by decide) rfl (fun ls hl => ?_)
    refine lv_iload hx hb dX1_samples_10 (lv_at hl 0 rfl) ?_
    refine lv_bipush (v := (8 : Int32)) hx hb dX1_samples_12 (by decide +kernel) ?_
    refine cx_icmp_ge (i := 0) (j := 8) (tgt := 52) hx hb (by decide +kernel) (by decide +kernel) dX1_samples_14 (by decide) (fun c_5 => absurd c_5 (by decide)) (fun c_5 => ?_)
    refine lv_iload_n hx hb dX1_samples_17 rfl (lv_at hl 3 rfl) ?_
    refine cx_if_lt (i := q.toInt) (j := 0) (tgt := 52) hx hb rfl rfl dX1_samples_18 (by decide) (fun c_6 => ?_) (fun c_6 => ?_)
    · refine lv_lload_n hx hb dX1_samples_52 rfl (lv_at hl 1 rfl) ?_
      exact W.lret (v := (0 : Int64)) hx hb hr (fun t ht hW => ⟨⟨(0 : Int64), (0 : Int32), rfl, ⟨rfl, by unfold samplesV; rw [if_neg hy9]⟩, by rw [ht]; exact hP, va_K.moved hW.alike hK, hD⟩, hS.F ht⟩) hS.2.2 dX1_samples_53
    · refine lv_iload_n hx hb dX1_samples_21 rfl (lv_at hl 3 rfl) ?_
      refine lv_bipush (v := (8 : Int32)) hx hb dX1_samples_22 (by decide +kernel) ?_
      refine cx_icmp_ge (i := q.toInt) (j := 8) (tgt := 52) hx hb rfl (by decide +kernel) dX1_samples_24 (by decide) (fun c_7 => ?_) (fun c_7 => ?_)
      · refine lv_lload_n hx hb dX1_samples_52 rfl (lv_at hl 1 rfl) ?_
        exact W.lret (v := (0 : Int64)) hx hb hr (fun t ht hW => ⟨⟨(0 : Int64), (0 : Int32), rfl, ⟨rfl, by unfold samplesV; rw [if_neg hy9]⟩, by rw [ht]; exact hP, va_K.moved hW.alike hK, hD⟩, hS.F ht⟩) hS.2.2 dX1_samples_53
      · exact absurd (And.intro (by omega) (by omega)) hy9
set_option maxHeartbeats 4000000 in
set_option maxRecDepth 100000 in
/-- the reference: exact -/
theorem n_exact (l : Launch) (D : va_G) (y : Nat → Nat) (ce : Nat → ClassId) (th : Int32) (r0 r1 r2 r3 dn ac : Nat → Int32) (sm : Nat → Int64) (a9 b9 : Int32) (sz : Nat) : Met l yX1_exact wsX1_exact ({ frames := 3, cells := 0, slots := 0, locals := 71 } : Room) (va_Pc [.ref (y 0), .int a9, .int b9] (crw D (mw y ce th r0 r1 r2 r3 dn ac sm) (mty ce) sz)) (va_Qi (fun (r : Int32) (t9 : Int32) => (t9 = 0 ∧ ((0 ≤ a9.toInt ∧ a9.toInt < 8) ∧ (0 ≤ b9.toInt ∧ b9.toInt < 8)) ∧ r = (eN r2 a9.toInt.toNat b9.toInt.toNat).toInt32) ∨ (t9 = 1 ∧ ¬ ((0 ≤ a9.toInt ∧ a9.toInt < 8) ∧ (0 ≤ b9.toInt ∧ b9.toInt < 8)))) (fun (t9 : Int32) (t : State) => crB D (mw y ce t9 r0 r1 r2 r3 dn ac sm) (mty ce) (va_A (mw y ce th r0 r1 r2 r3 dn ac sm) sz) t) (va_A (mw y ce th r0 r1 r2 r3 dn ac sm) sz)) 0 0 (va_A (mw y ce th r0 r1 r2 r3 dn ac sm) sz) := by
  refine Met.ofW (cc := cX1_exact) (maxL := 3) (ret := some .int) (by decide) rfl ?_
  intro p e s m args below meth c s₁ B hml hv
  obtain ⟨rfl, hsz, hP, hK, hD0, hTb⟩ := hv
  have hx := B.exec
  have hb := B.bytes
  have hr := B.returns
  have hts : ∀ w ∈ wA, w.before _ s = true := fun w h => atoms_spec (ws := wsX1_exact) B.pre w (List.mem_cons_of_mem _ h)
  have hown : s.vm.findClass RX1 = some m.cls := findClass_of_methodNamed B.named
  have hlocks := B.notSynchronized
  subst hsz
  have hD := hD0.self (sz := s.heap.size)
  generalize hAe : va_A (mw y ce th r0 r1 r2 r3 dn ac sm) s.heap.size = A at hD hTb ⊢
  have hA : ∀ q : Nat, s.heap.size ≤ q → A q := fun q h => by rw [← hAe]; exact Or.inr h
  have hS : va_S A s.heap s.heap [] := va_S.rf
  have hin1 := inA1
  have hf32 := (hts _ wm_302)
  have hl := lv_entry ([.ref (y 0), .int a9, .int b9]) (n := 3) (Nat.le_of_ble_eq_true rfl)
  rw [lg_entry_eq]
  generalize (lg_sl ([.ref (y 0), .int a9, .int b9]) ++ List.replicate (3 - (lg_sl ([.ref (y 0), .int a9, .int b9])).length) Slot.unset).toArray = ls at hl ⊢
  have hl : lv_has ls 3 [(0, .ref (y 0)), (1, .int a9), (2, .int b9)] := hl
  have J26 : ∀ (tv : Int32), ((tv = 0 ∧ (0 ≤ a9.toInt ∧ a9.toInt < 8) ∧ (0 ≤ b9.toInt ∧ b9.toInt < 8)) ∨ (tv = 1 ∧ ¬ ((0 ≤ a9.toInt ∧ a9.toInt < 8) ∧ (0 ≤ b9.toInt ∧ b9.toInt < 8)))) → W p l e ((headSpec wsX1_exact ({ frames := 3, cells := 0, slots := 0, locals := 71 } : Room)).room) s m (([.ref (y 0), .int a9, .int b9] : List Value).toArray) below meth c s.heap [] 0 0 (MQ below (va_Qi (fun (r : Int32) (t9 : Int32) => (t9 = 0 ∧ ((0 ≤ a9.toInt ∧ a9.toInt < 8) ∧ (0 ≤ b9.toInt ∧ b9.toInt < 8)) ∧ r = (eN r2 a9.toInt.toNat b9.toInt.toNat).toInt32) ∨ (t9 = 1 ∧ ¬ ((0 ≤ a9.toInt ∧ a9.toInt < 8) ∧ (0 ≤ b9.toInt ∧ b9.toInt < 8)))) (fun (t9 : Int32) (t : State) => crB D (mw y ce t9 r0 r1 r2 r3 dn ac sm) (mty ce) A t) A) ([.ref (y 0), .int a9, .int b9] : List Value).toArray s 0 0 A) (F0 m 26 ls [.int tv, .ref (y 0)]) := by
    intro tv htv
    rcases htv with ⟨rfl, hok⟩ | ⟨rfl, hno⟩
    · skip
      obtain ⟨a8, hla, hea⟩ := cx_ofN (x := a9) (n := 8) (by omega) (by omega) (by decide)
      obtain ⟨b8, hlb, heb⟩ := cx_ofN (x := b9) (n := 8) (by omega) (by omega) (by decide)
      have e_1 : a9 = nI a8 := hea
      rw [e_1] at hl
      have e_2 : b9 = nI b8 := heb
      rw [e_2] at hl
      refine va_put (D := D) (ci := 1) (v := .int (0 : Int32)) (ty := .int) (C := RX1) (T := TX1) (N := 8) hx hb hts hin1 tyX1 tyX1_ok nmX1 hown hK hP hD hS 0 rfl rfl 0 (by decide) hf32 (fun _ h9 => h9) rfl (by decide +kernel) rfl rfl (Nat.le_of_ble_eq_true rfl) dX1_exact_26 (fun H locs hP hD hS => ?_)
      have hP : va_P D vwCl (mw y ce (0 : Int32) r0 r1 r2 r3 dn ac sm) H := hP
      have hD : va_D A (mw y ce (0 : Int32) r0 r1 r2 r3 dn ac sm) := hD
      refine lv_aload_n hx hb dX1_exact_29 rfl (lv_at hl 0 rfl) ?_
      refine va_get (D := D) (ci := 1) (v := .int (0 : Int32)) (C := RX1) (T := TX1) (N := 8) hx hb hts hin1 hown hK hP 0 rfl rfl 0 (by decide) hf32 (fun _ h9 => h9) rfl dX1_exact_30 ?_
      refine cx_if_le (i := 0) (j := 0) (tgt := 40) hx hb (by decide +kernel) rfl dX1_exact_33 (by decide) (fun c_3 => ?_) (fun c_3 => absurd c_3 (by decide))
      refine lv_aload_n hx hb dX1_exact_40 rfl (lv_at hl 0 rfl) ?_
      refine lv_iload_n hx hb dX1_exact_41 rfl (lv_at hl 1 rfl) ?_
      refine lv_iload_n hx hb dX1_exact_42 rfl (lv_at hl 2 rfl) ?_
      refine vp_callSl (W.runV (As := [.int (nI a8), .int (nI b8)]) (rest := []) ⟨hx, hb, hml, hown, hts⟩ (n_exactOf l D y ce (0 : Int32) r0 r1 r2 r3 dn ac sm a8 b8 (by omega) (by omega)) (cwV 2 hts (gw_V wm_380 wm_382 wm_10 wm_13 wm_383) rfl rfl rfl (by decide +kernel) ⟨Nat.le_of_ble_eq_true rfl, Nat.le_of_ble_eq_true rfl⟩) ⟨cro_blind, va_recv hK hP (ci := 1) (q0 := 0) rfl rfl, fun U hU hW => ⟨rfl, cro_at hP hK hTb hS hU hW⟩⟩ rfl rfl hl.1 rfl (lv_room (Nat.le_of_ble_eq_true rfl)) dX1_exact_43 ⟨Nat.le_of_ble_eq_true rfl, Nat.le_of_ble_eq_true rfl⟩) (fun r_4 hr_4 => ?_)
      rw [hr_4]
      refine lv_l2i hx hb dX1_exact_46 rfl ?_
      exact W.iret (v := (eN r2 a8 b8).toInt32) hx hb hr (fun t ht hW => ⟨⟨(eN r2 a8 b8).toInt32, (0 : Int32), rfl, Or.inl ⟨rfl, hok, by rw [hea, heb, cx_toNat (by omega), cx_toNat (by omega)]⟩, by rw [ht]; exact hP, va_K.moved hW.alike hK, hD⟩, hS.F ht⟩) hS.2.2 dX1_exact_47
    · skip
      refine va_put (D := D) (ci := 1) (v := .int (1 : Int32)) (ty := .int) (C := RX1) (T := TX1) (N := 8) hx hb hts hin1 tyX1 tyX1_ok nmX1 hown hK hP hD hS 0 rfl rfl 0 (by decide) hf32 (fun _ h9 => h9) rfl (by decide +kernel) rfl rfl (Nat.le_of_ble_eq_true rfl) dX1_exact_26 (fun H locs hP hD hS => ?_)
      have hP : va_P D vwCl (mw y ce (1 : Int32) r0 r1 r2 r3 dn ac sm) H := hP
      have hD : va_D A (mw y ce (1 : Int32) r0 r1 r2 r3 dn ac sm) := hD
      refine lv_aload_n hx hb dX1_exact_29 rfl (lv_at hl 0 rfl) ?_
      refine va_get (D := D) (ci := 1) (v := .int (1 : Int32)) (C := RX1) (T := TX1) (N := 8) hx hb hts hin1 hown hK hP 0 rfl rfl 0 (by decide) hf32 (fun _ h9 => h9) rfl dX1_exact_30 ?_
      refine cx_if_le (i := 1) (j := 0) (tgt := 40) hx hb (by decide +kernel) rfl dX1_exact_33 (by decide) (fun c_5 => absurd c_5 (by decide)) (fun c_5 => ?_)
      refine lv_iconst (v := (0 : Int32)) hx hb dX1_exact_36 (by decide +kernel) ?_
      refine lv_goto (tgt := 47) hx hb dX1_exact_37 (by decide) ?_
      exact W.iret (v := (0 : Int32)) hx hb hr (fun t ht hW => ⟨⟨(0 : Int32), (1 : Int32), rfl, Or.inr ⟨rfl, hno⟩, by rw [ht]; exact hP, va_K.moved hW.alike hK, hD⟩, hS.F ht⟩) hS.2.2 dX1_exact_47
  refine lv_aload_n hx hb dX1_exact_0 rfl (lv_at hl 0 rfl) ?_
  refine lv_iload_n hx hb dX1_exact_1 rfl (lv_at hl 1 rfl) ?_
  refine cx_if_lt (i := a9.toInt) (j := 0) (tgt := 21) hx hb rfl rfl dX1_exact_2 (by decide) (fun c_6 => ?_) (fun c_6 => ?_)
  · refine lv_iconst (v := (1 : Int32)) hx hb dX1_exact_21 (by decide +kernel) ?_
    refine lv_goto (tgt := 26) hx hb dX1_exact_22 (by decide) ?_
    exact J26 (1 : Int32) (Or.inr ⟨rfl, by omega⟩)
  · refine lv_iload_n hx hb dX1_exact_5 rfl (lv_at hl 1 rfl) ?_
    refine lv_bipush (v := (7 : Int32)) hx hb dX1_exact_6 (by decide +kernel) ?_
    refine cx_icmp_gt (i := a9.toInt) (j := 7) (tgt := 21) hx hb rfl (by decide +kernel) dX1_exact_8 (by decide) (fun c_7 => ?_) (fun c_7 => ?_)
    · refine lv_iconst (v := (1 : Int32)) hx hb dX1_exact_21 (by decide +kernel) ?_
      refine lv_goto (tgt := 26) hx hb dX1_exact_22 (by decide) ?_
      exact J26 (1 : Int32) (Or.inr ⟨rfl, by omega⟩)
    · refine lv_iload_n hx hb dX1_exact_11 rfl (lv_at hl 2 rfl) ?_
      refine cx_if_lt (i := b9.toInt) (j := 0) (tgt := 21) hx hb rfl rfl dX1_exact_12 (by decide) (fun c_8 => ?_) (fun c_8 => ?_)
      · refine lv_iconst (v := (1 : Int32)) hx hb dX1_exact_21 (by decide +kernel) ?_
        refine lv_goto (tgt := 26) hx hb dX1_exact_22 (by decide) ?_
        exact J26 (1 : Int32) (Or.inr ⟨rfl, by omega⟩)
      · refine lv_iload_n hx hb dX1_exact_15 rfl (lv_at hl 2 rfl) ?_
        refine lv_bipush (v := (7 : Int32)) hx hb dX1_exact_16 (by decide +kernel) ?_
        refine cx_icmp_le (i := b9.toInt) (j := 7) (tgt := 25) hx hb rfl (by decide +kernel) dX1_exact_18 (by decide) (fun c_9 => ?_) (fun c_9 => ?_)
        · refine lv_iconst (v := (0 : Int32)) hx hb dX1_exact_25 (by decide +kernel) ?_
          exact J26 (0 : Int32) (Or.inl ⟨rfl, by omega⟩)
        · refine lv_iconst (v := (1 : Int32)) hx hb dX1_exact_21 (by decide +kernel) ?_
          refine lv_goto (tgt := 26) hx hb dX1_exact_22 (by decide) ?_
          exact J26 (1 : Int32) (Or.inr ⟨rfl, by omega⟩)
set_option maxHeartbeats 4000000 in
set_option maxRecDepth 100000 in
/-- the reference: wave -/
theorem n_wave (l : Launch) (D : va_G) (y : Nat → Nat) (ce : Nat → ClassId) (th : Int32) (r0 r1 r2 r3 dn ac : Nat → Int32) (sm : Nat → Int64) (q u8 x8 : Int32) (sz : Nat) : Met l yX1_wave wsX1_wave ({ frames := 2, cells := 0, slots := 0, locals := 43 } : Room) (va_Pc [.ref (y 0), .int q, .int u8, .int x8] (crw D (mw y ce th r0 r1 r2 r3 dn ac sm) (mty ce) sz)) (va_Qi (fun (r : Int32) (t9 : Int32) => (t9 = 0 ∧ (szOk q ∧ (0 ≤ u8.toInt ∧ u8.toInt < q.toInt) ∧ (0 ≤ x8.toInt ∧ x8.toInt < q.toInt)) ∧ r = wvN (8 / q.toInt.toNat) u8.toInt.toNat x8.toInt.toNat) ∨ (t9 = 1 ∧ ¬ (szOk q ∧ (0 ≤ u8.toInt ∧ u8.toInt < q.toInt) ∧ (0 ≤ x8.toInt ∧ x8.toInt < q.toInt)))) (fun (t9 : Int32) (t : State) => crB D (mw y ce t9 r0 r1 r2 r3 dn ac sm) (mty ce) (va_A (mw y ce th r0 r1 r2 r3 dn ac sm) sz) t) (va_A (mw y ce th r0 r1 r2 r3 dn ac sm) sz)) 0 0 (va_A (mw y ce th r0 r1 r2 r3 dn ac sm) sz) := by
  refine Met.ofW (cc := cX1_wave) (maxL := 4) (ret := some .int) (by decide) rfl ?_
  intro p e s m args below meth c s₁ B hml hv
  obtain ⟨rfl, hsz, hP, hK, hD0, hTb⟩ := hv
  have hx := B.exec
  have hb := B.bytes
  have hr := B.returns
  have hts : ∀ w ∈ wA, w.before _ s = true := fun w h => atoms_spec (ws := wsX1_wave) B.pre w (List.mem_cons_of_mem _ h)
  have hown : s.vm.findClass RX1 = some m.cls := findClass_of_methodNamed B.named
  have hlocks := B.notSynchronized
  subst hsz
  have hD := hD0.self (sz := s.heap.size)
  generalize hAe : va_A (mw y ce th r0 r1 r2 r3 dn ac sm) s.heap.size = A at hD hTb ⊢
  have hA : ∀ q : Nat, s.heap.size ≤ q → A q := fun q h => by rw [← hAe]; exact Or.inr h
  have hS : va_S A s.heap s.heap [] := va_S.rf
  have hin1 := inA1
  have hf32 := (hts _ wm_302)
  have hl := lv_entry ([.ref (y 0), .int q, .int u8, .int x8]) (n := 4) (Nat.le_of_ble_eq_true rfl)
  rw [lg_entry_eq]
  generalize (lg_sl ([.ref (y 0), .int q, .int u8, .int x8]) ++ List.replicate (4 - (lg_sl ([.ref (y 0), .int q, .int u8, .int x8])).length) Slot.unset).toArray = ls at hl ⊢
  have hl : lv_has ls 4 [(0, .ref (y 0)), (1, .int q), (2, .int u8), (3, .int x8)] := hl
  have J31 : ∀ (tv : Int32), ((tv = 0 ∧ szOk q ∧ (0 ≤ u8.toInt ∧ u8.toInt < q.toInt) ∧ (0 ≤ x8.toInt ∧ x8.toInt < q.toInt)) ∨ (tv = 1 ∧ ¬ (szOk q ∧ (0 ≤ u8.toInt ∧ u8.toInt < q.toInt) ∧ (0 ≤ x8.toInt ∧ x8.toInt < q.toInt)))) → W p l e ((headSpec wsX1_wave ({ frames := 2, cells := 0, slots := 0, locals := 43 } : Room)).room) s m (([.ref (y 0), .int q, .int u8, .int x8] : List Value).toArray) below meth c s.heap [] 0 0 (MQ below (va_Qi (fun (r : Int32) (t9 : Int32) => (t9 = 0 ∧ (szOk q ∧ (0 ≤ u8.toInt ∧ u8.toInt < q.toInt) ∧ (0 ≤ x8.toInt ∧ x8.toInt < q.toInt)) ∧ r = wvN (8 / q.toInt.toNat) u8.toInt.toNat x8.toInt.toNat) ∨ (t9 = 1 ∧ ¬ (szOk q ∧ (0 ≤ u8.toInt ∧ u8.toInt < q.toInt) ∧ (0 ≤ x8.toInt ∧ x8.toInt < q.toInt)))) (fun (t9 : Int32) (t : State) => crB D (mw y ce t9 r0 r1 r2 r3 dn ac sm) (mty ce) A t) A) ([.ref (y 0), .int q, .int u8, .int x8] : List Value).toArray s 0 0 A) (F0 m 31 ls [.int tv, .ref (y 0)]) := by
    intro tv htv
    rcases htv with ⟨rfl, hok⟩ | ⟨rfl, hno⟩
    · skip
      obtain ⟨nn, sp, heq9, hsz9⟩ := szOk_cases hok.1
      obtain ⟨hbn, hbs, hbp, hq1, hq2, hq3⟩ := isSz_facts ⟨heq9, hsz9⟩
      obtain ⟨uu, hlu, heu⟩ := cx_ofN (x := u8) (n := 8) (by omega) (by omega) (by decide)
      obtain ⟨xx, hlx, hex⟩ := cx_ofN (x := x8) (n := 8) (by omega) (by omega) (by decide)
      have e_1 : q = nI nn := heq9
      rw [e_1] at hl
      have e_2 : u8 = nI uu := heu
      rw [e_2] at hl
      have e_3 : x8 = nI xx := hex
      rw [e_3] at hl
      refine va_put (D := D) (ci := 1) (v := .int (0 : Int32)) (ty := .int) (C := RX1) (T := TX1) (N := 8) hx hb hts hin1 tyX1 tyX1_ok nmX1 hown hK hP hD hS 0 rfl rfl 0 (by decide) hf32 (fun _ h9 => h9) rfl (by decide +kernel) rfl rfl (Nat.le_of_ble_eq_true rfl) dX1_wave_31 (fun H locs hP hD hS => ?_)
      have hP : va_P D vwCl (mw y ce (0 : Int32) r0 r1 r2 r3 dn ac sm) H := hP
      have hD : va_D A (mw y ce (0 : Int32) r0 r1 r2 r3 dn ac sm) := hD
      refine lv_aload_n hx hb dX1_wave_34 rfl (lv_at hl 0 rfl) ?_
      refine va_get (D := D) (ci := 1) (v := .int (0 : Int32)) (C := RX1) (T := TX1) (N := 8) hx hb hts hin1 hown hK hP 0 rfl rfl 0 (by decide) hf32 (fun _ h9 => h9) rfl dX1_wave_35 ?_
      refine cx_if_le (i := 0) (j := 0) (tgt := 45) hx hb (by decide +kernel) rfl dX1_wave_38 (by decide) (fun c_4 => ?_) (fun c_4 => absurd c_4 (by decide))
      refine lv_iload_n hx hb dX1_wave_45 rfl (lv_at hl 1 rfl) ?_
      refine lv_iload_n hx hb dX1_wave_46 rfl (lv_at hl 2 rfl) ?_
      refine lv_iload_n hx hb dX1_wave_47 rfl (lv_at hl 3 rfl) ?_
      refine vp_callSi (W.runS (As := [.int (nI nn), .int (nI uu), .int (nI xx)]) (rest := []) ⟨hx, hb, hml, hown, hts⟩ (n_waveOf l D nn sp uu xx (by omega) hsz9 (by omega) (by omega)) (va_cwS 3 hts (gw_S wm_366 wm_367 wm_13 wm_368) rfl rfl rfl (by decide +kernel) ⟨Nat.le_of_ble_eq_true rfl, Nat.le_of_ble_eq_true rfl⟩) ⟨cro_blind, fun U hU hW => ⟨rfl, cro_at (hP.sub (ws' := []) [] rfl) (hK.sub (tys' := []) [] rfl) hTb hS hU hW⟩⟩ rfl rfl hl.1 rfl (lv_room (Nat.le_of_ble_eq_true rfl)) dX1_wave_48 ⟨Nat.le_of_ble_eq_true rfl, Nat.le_of_ble_eq_true rfl⟩) (fun r_5 hr_5 => ?_)
      rw [hr_5]
      exact W.iret (v := wvN sp uu xx) hx hb hr (fun t ht hW => ⟨⟨wvN sp uu xx, (0 : Int32), rfl, Or.inl ⟨rfl, hok, by rw [hq1, hq2, heu, hex, cx_toNat (by omega), cx_toNat (by omega)]⟩, by rw [ht]; exact hP, va_K.moved hW.alike hK, hD⟩, hS.F ht⟩) hS.2.2 dX1_wave_51
    · skip
      refine va_put (D := D) (ci := 1) (v := .int (1 : Int32)) (ty := .int) (C := RX1) (T := TX1) (N := 8) hx hb hts hin1 tyX1 tyX1_ok nmX1 hown hK hP hD hS 0 rfl rfl 0 (by decide) hf32 (fun _ h9 => h9) rfl (by decide +kernel) rfl rfl (Nat.le_of_ble_eq_true rfl) dX1_wave_31 (fun H locs hP hD hS => ?_)
      have hP : va_P D vwCl (mw y ce (1 : Int32) r0 r1 r2 r3 dn ac sm) H := hP
      have hD : va_D A (mw y ce (1 : Int32) r0 r1 r2 r3 dn ac sm) := hD
      refine lv_aload_n hx hb dX1_wave_34 rfl (lv_at hl 0 rfl) ?_
      refine va_get (D := D) (ci := 1) (v := .int (1 : Int32)) (C := RX1) (T := TX1) (N := 8) hx hb hts hin1 hown hK hP 0 rfl rfl 0 (by decide) hf32 (fun _ h9 => h9) rfl dX1_wave_35 ?_
      refine cx_if_le (i := 1) (j := 0) (tgt := 45) hx hb (by decide +kernel) rfl dX1_wave_38 (by decide) (fun c_6 => absurd c_6 (by decide)) (fun c_6 => ?_)
      refine lv_iconst (v := (0 : Int32)) hx hb dX1_wave_41 (by decide +kernel) ?_
      refine lv_goto (tgt := 51) hx hb dX1_wave_42 (by decide) ?_
      exact W.iret (v := (0 : Int32)) hx hb hr (fun t ht hW => ⟨⟨(0 : Int32), (1 : Int32), rfl, Or.inr ⟨rfl, hno⟩, by rw [ht]; exact hP, va_K.moved hW.alike hK, hD⟩, hS.F ht⟩) hS.2.2 dX1_wave_51
  refine lv_aload_n hx hb dX1_wave_0 rfl (lv_at hl 0 rfl) ?_
  refine lv_iload_n hx hb dX1_wave_1 rfl (lv_at hl 1 rfl) ?_
  refine vp_callSi (W.runS (As := [.int q]) (rest := [.ref (y 0)]) ⟨hx, hb, hml, hown, hts⟩ (n_isSize l D q) (va_cwS 1 hts (gw_S wm_355 wm_356 wm_13 wm_357) rfl rfl rfl (by decide +kernel) ⟨Nat.le_of_ble_eq_true rfl, Nat.le_of_ble_eq_true rfl⟩) ⟨cro_blind, fun U hU hW => ⟨rfl, cro_at (hP.sub (ws' := []) [] rfl) (hK.sub (tys' := []) [] rfl) hTb hS hU hW⟩⟩ rfl rfl hl.1 rfl (lv_room (Nat.le_of_ble_eq_true rfl)) dX1_wave_2 ⟨Nat.le_of_ble_eq_true rfl, Nat.le_of_ble_eq_true rfl⟩) (fun r_7 hr_7 => ?_)
  rcases hr_7 with ⟨rfl, hs9⟩ | ⟨rfl, hs9⟩
  · refine cx_if_eq (i := 1) (j := 0) (tgt := 30) hx hb (by decide +kernel) rfl dX1_wave_5 (by decide) (fun c_8 => absurd c_8 (by decide)) (fun c_8 => ?_)
    refine lv_iload_n hx hb dX1_wave_8 rfl (lv_at hl 2 rfl) ?_
    refine cx_if_lt (i := u8.toInt) (j := 0) (tgt := 30) hx hb rfl rfl dX1_wave_9 (by decide) (fun c_9 => ?_) (fun c_9 => ?_)
    · refine lv_iconst (v := (1 : Int32)) hx hb dX1_wave_30 (by decide +kernel) ?_
      exact J31 (1 : Int32) (Or.inr ⟨rfl, fun h9 => by omega⟩)
    · refine lv_iload_n hx hb dX1_wave_12 rfl (lv_at hl 2 rfl) ?_
      refine lv_iload_n hx hb dX1_wave_13 rfl (lv_at hl 1 rfl) ?_
      refine cx_icmp_ge (i := u8.toInt) (j := q.toInt) (tgt := 30) hx hb rfl rfl dX1_wave_14 (by decide) (fun c_10 => ?_) (fun c_10 => ?_)
      · refine lv_iconst (v := (1 : Int32)) hx hb dX1_wave_30 (by decide +kernel) ?_
        exact J31 (1 : Int32) (Or.inr ⟨rfl, fun h9 => by omega⟩)
      · refine lv_iload_n hx hb dX1_wave_17 rfl (lv_at hl 3 rfl) ?_
        refine cx_if_lt (i := x8.toInt) (j := 0) (tgt := 30) hx hb rfl rfl dX1_wave_18 (by decide) (fun c_11 => ?_) (fun c_11 => ?_)
        · refine lv_iconst (v := (1 : Int32)) hx hb dX1_wave_30 (by decide +kernel) ?_
          exact J31 (1 : Int32) (Or.inr ⟨rfl, fun h9 => by omega⟩)
        · refine lv_iload_n hx hb dX1_wave_21 rfl (lv_at hl 3 rfl) ?_
          refine lv_iload_n hx hb dX1_wave_22 rfl (lv_at hl 1 rfl) ?_
          refine cx_icmp_ge (i := x8.toInt) (j := q.toInt) (tgt := 30) hx hb rfl rfl dX1_wave_23 (by decide) (fun c_12 => ?_) (fun c_12 => ?_)
          · refine lv_iconst (v := (1 : Int32)) hx hb dX1_wave_30 (by decide +kernel) ?_
            exact J31 (1 : Int32) (Or.inr ⟨rfl, fun h9 => by omega⟩)
          · refine lv_iconst (v := (0 : Int32)) hx hb dX1_wave_26 (by decide +kernel) ?_
            refine lv_goto (tgt := 31) hx hb dX1_wave_27 (by decide) ?_
            exact J31 (0 : Int32) (Or.inl ⟨rfl, hs9, by omega, by omega⟩)
  · refine cx_if_eq (i := 0) (j := 0) (tgt := 30) hx hb (by decide +kernel) rfl dX1_wave_5 (by decide) (fun c_13 => ?_) (fun c_13 => absurd c_13 (by decide))
    refine lv_iconst (v := (1 : Int32)) hx hb dX1_wave_30 (by decide +kernel) ?_
    exact J31 (1 : Int32) (Or.inr ⟨rfl, fun h9 => hs9 h9.1⟩)
set_option maxHeartbeats 4000000 in
set_option maxRecDepth 100000 in
/-- the reference: look -/
theorem n_look (l : Launch) (D : va_G) (y : Nat → Nat) (ce : Nat → ClassId) (th : Int32) (r0 r1 r2 r3 dn ac : Nat → Int32) (sm : Nat → Int64) (q : Int32) (sz : Nat) : Met l yX1_look wsX1_look ({ frames := 0, cells := 0, slots := 0, locals := 0 } : Room) (va_Pc [.ref (y 0), .int q] (crw D (mw y ce th r0 r1 r2 r3 dn ac sm) (mty ce) sz)) (va_Qi (fun (r : Int32) (t9 : Int32) => t9 = 0 ∧ r = lookR r0 r1 r2 q) (fun (t9 : Int32) (t : State) => crB D (mw y ce t9 r0 r1 r2 r3 dn ac sm) (mty ce) (va_A (mw y ce th r0 r1 r2 r3 dn ac sm) sz) t) (va_A (mw y ce th r0 r1 r2 r3 dn ac sm) sz)) 0 0 (va_A (mw y ce th r0 r1 r2 r3 dn ac sm) sz) := by
  refine Met.ofW (cc := cX1_look) (maxL := 8) (ret := some .int) (by decide) rfl ?_
  intro p e s m args below meth c s₁ B hml hv
  obtain ⟨rfl, hsz, hP, hK, hD0, hTb⟩ := hv
  have hx := B.exec
  have hb := B.bytes
  have hr := B.returns
  have hts : ∀ w ∈ wA, w.before _ s = true := fun w h => atoms_spec (ws := wsX1_look) B.pre w (List.mem_cons_of_mem _ h)
  have hown : s.vm.findClass RX1 = some m.cls := findClass_of_methodNamed B.named
  have hlocks := B.notSynchronized
  subst hsz
  have hD := hD0.self (sz := s.heap.size)
  generalize hAe : va_A (mw y ce th r0 r1 r2 r3 dn ac sm) s.heap.size = A at hD hTb ⊢
  have hA : ∀ q : Nat, s.heap.size ≤ q → A q := fun q h => by rw [← hAe]; exact Or.inr h
  have hS : va_S A s.heap s.heap [] := va_S.rf
  have hin1 := inA1
  have hf32 := (hts _ wm_302)
  have hf7 := (hts _ wm_303)
  have hf13 := (hts _ wm_304)
  have hf16 := (hts _ wm_305)
  have hl := lv_entry ([.ref (y 0), .int q]) (n := 8) (Nat.le_of_ble_eq_true rfl)
  rw [lg_entry_eq]
  generalize (lg_sl ([.ref (y 0), .int q]) ++ List.replicate (8 - (lg_sl ([.ref (y 0), .int q])).length) Slot.unset).toArray = ls at hl ⊢
  have hl : lv_has ls 8 [(0, .ref (y 0)), (1, .int q)] := hl
  refine lv_aload_n hx hb dX1_look_0 rfl (lv_at hl 0 rfl) ?_
  refine lv_iconst (v := (0 : Int32)) hx hb dX1_look_1 (by decide +kernel) ?_
  refine va_put (D := D) (ci := 1) (v := .int (0 : Int32)) (ty := .int) (C := RX1) (T := TX1) (N := 8) hx hb hts hin1 tyX1 tyX1_ok nmX1 hown hK hP hD hS 0 rfl rfl 0 (by decide) hf32 (fun _ h9 => h9) rfl (by decide +kernel) rfl rfl (Nat.le_of_ble_eq_true rfl) dX1_look_2 (fun H locs hP hD hS => ?_)
  have hP : va_P D vwCl (mw y ce (0 : Int32) r0 r1 r2 r3 dn ac sm) H := hP
  have hD : va_D A (mw y ce (0 : Int32) r0 r1 r2 r3 dn ac sm) := hD
  refine lv_iconst (v := (0 : Int32)) hx hb dX1_look_5 (by decide +kernel) ?_
  refine lv_istore_n (lv' := [(2, .int (0 : Int32)), (0, .ref (y 0)), (1, .int q)]) hx hb dX1_look_6 rfl hl (by decide) rfl (fun ls hl => ?_)
  refine lv_iconst (v := (-1 : Int32)) hx hb dX1_look_7 (by decide +kernel) ?_
  refine lv_istore_n (lv' := [(3, .int (-1 : Int32)), (2, .int (0 : Int32)), (0, .ref (y 0)), (1, .int q)]) hx hb dX1_look_8 rfl hl (by decide) rfl (fun ls hl => ?_)
  refine lv_iconst (v := (0 : Int32)) hx hb dX1_look_9 (by decide +kernel) ?_
  refine lv_istore (lv' := [(4, .int (0 : Int32)), (3, .int (-1 : Int32)), (2, .int (0 : Int32)), (0, .ref (y 0)), (1, .int q)]) hx hb dX1_look_10 hl (by decide) rfl (fun ls hl => ?_)
  refine lv_iconst (v := (0 : Int32)) hx hb dX1_look_12 (by decide +kernel) ?_
  refine lv_istore (lv' := [(5, .int (0 : Int32)), (4, .int (0 : Int32)), (3, .int (-1 : Int32)), (2, .int (0 : Int32)), (0, .ref (y 0)), (1, .int q)]) hx hb dX1_look_13 hl (by decide) rfl (fun ls hl => ?_)
  refine lv_iconst (v := (0 : Int32)) hx hb dX1_look_15 (by decide +kernel) ?_
  refine lv_istore (lv' := [(6, .int (0 : Int32)), (5, .int (0 : Int32)), (4, .int (0 : Int32)), (3, .int (-1 : Int32)), (2, .int (0 : Int32)), (0, .ref (y 0)), (1, .int q)]) hx hb dX1_look_16 hl (by decide) rfl (fun ls hl => ?_)
  refine lv_iconst (v := (0 : Int32)) hx hb dX1_look_18 (by decide +kernel) ?_
  refine lv_istore (lv' := [(7, .int (0 : Int32)), (6, .int (0 : Int32)), (5, .int (0 : Int32)), (4, .int (0 : Int32)), (3, .int (-1 : Int32)), (2, .int (0 : Int32)), (0, .ref (y 0)), (1, .int q)]) hx hb dX1_look_19 hl (by decide) rfl (fun ls hl => ?_)
  have L21 : ∀ (n : Nat) (k9 : Nat) (ls : Array Slot), (64 - k9) < n → (k9 ≤ 64) → lv_has ls 8 [(0, .ref (y 0)), (1, .int q), (2, .int (cntI r0 k9)), (3, .int (lastI r0 k9)), (4, .int (sumI r1 k9)), (5, .int (sumI r2 k9)), (6, .int (sumI (fun j => absR (r0 j)) k9)), (7, .int (nI k9))] → W p l e ((headSpec wsX1_look ({ frames := 0, cells := 0, slots := 0, locals := 0 } : Room)).room) s m (([.ref (y 0), .int q] : List Value).toArray) below meth c H locs 0 0 (MQ below (va_Qi (fun (r : Int32) (t9 : Int32) => t9 = 0 ∧ r = lookR r0 r1 r2 q) (fun (t9 : Int32) (t : State) => crB D (mw y ce t9 r0 r1 r2 r3 dn ac sm) (mty ce) A t) A) ([.ref (y 0), .int q] : List Value).toArray s 0 0 A) (F0 m 21 ls []) := by
    intro n
    induction n with
    | zero =>
      intro k9 ls hn
      exact absurd hn (Nat.not_lt_zero _)
    | succ n ih21 =>
      intro k9 ls hn21 hk9 hl
      refine lv_iload hx hb dX1_look_21 (lv_at hl 7 rfl) ?_
      refine lv_bipush (v := (64 : Int32)) hx hb dX1_look_23 (by decide +kernel) ?_
      refine cx_icmp_ge (i := ((k9 : Nat) : Int)) (j := 64) (tgt := 126) hx hb (nI_toInt (by omega)) (by decide +kernel) dX1_look_25 (by decide) (fun c_1 => ?_) (fun c_1 => ?_)
      · refine lv_iload_n hx hb dX1_look_126 rfl (lv_at hl 1 rfl) ?_
        refine cx_if_ne (i := q.toInt) (j := 0) (tgt := 134) hx hb rfl rfl dX1_look_127 (by decide) (fun c_2 => ?_) (fun c_2 => ?_)
        · refine lv_iload_n hx hb dX1_look_134 rfl (lv_at hl 1 rfl) ?_
          refine lv_iconst (v := (1 : Int32)) hx hb dX1_look_135 (by decide +kernel) ?_
          refine cx_icmp_ne (i := q.toInt) (j := 1) (tgt := 143) hx hb rfl (by decide +kernel) dX1_look_136 (by decide) (fun c_3 => ?_) (fun c_3 => ?_)
          · refine lv_iload_n hx hb dX1_look_143 rfl (lv_at hl 1 rfl) ?_
            refine lv_iconst (v := (2 : Int32)) hx hb dX1_look_144 (by decide +kernel) ?_
            refine cx_icmp_ne (i := q.toInt) (j := 2) (tgt := 153) hx hb rfl (by decide +kernel) dX1_look_145 (by decide) (fun c_4 => ?_) (fun c_4 => ?_)
            · refine lv_iload_n hx hb dX1_look_153 rfl (lv_at hl 1 rfl) ?_
              refine lv_iconst (v := (3 : Int32)) hx hb dX1_look_154 (by decide +kernel) ?_
              refine cx_icmp_ne (i := q.toInt) (j := 3) (tgt := 163) hx hb rfl (by decide +kernel) dX1_look_155 (by decide) (fun c_5 => ?_) (fun c_5 => ?_)
              · refine lv_iload_n hx hb dX1_look_163 rfl (lv_at hl 1 rfl) ?_
                refine lv_iconst (v := (4 : Int32)) hx hb dX1_look_164 (by decide +kernel) ?_
                refine cx_icmp_ne (i := q.toInt) (j := 4) (tgt := 173) hx hb rfl (by decide +kernel) dX1_look_165 (by decide) (fun c_6 => ?_) (fun c_6 => ?_)
                · refine lv_iconst (v := (-1 : Int32)) hx hb dX1_look_173 (by decide +kernel) ?_
                  exact W.iret (v := (-1 : Int32)) hx hb hr (fun t ht hW => ⟨⟨(-1 : Int32), (0 : Int32), rfl, (by obtain rfl : k9 = 64 := (by omega); exact ⟨rfl, by unfold lookR; rw [if_neg (by omega), if_neg (by omega), if_neg (by omega), if_neg (by omega), if_neg (by omega)]⟩), by rw [ht]; exact hP, va_K.moved hW.alike hK, hD⟩, hS.F ht⟩) hS.2.2 dX1_look_174
                · refine lv_iload hx hb dX1_look_168 (lv_at hl 6 rfl) ?_
                  refine lv_goto (tgt := 174) hx hb dX1_look_170 (by decide) ?_
                  exact W.iret (v := sumI (fun j => absR (r0 j)) k9) hx hb hr (fun t ht hW => ⟨⟨sumI (fun j => absR (r0 j)) k9, (0 : Int32), rfl, (by obtain rfl : k9 = 64 := (by omega); exact ⟨rfl, by unfold lookR; rw [if_neg (by omega), if_neg (by omega), if_neg (by omega), if_neg (by omega), if_pos (by omega)]⟩), by rw [ht]; exact hP, va_K.moved hW.alike hK, hD⟩, hS.F ht⟩) hS.2.2 dX1_look_174
              · refine lv_iload hx hb dX1_look_158 (lv_at hl 5 rfl) ?_
                refine lv_goto (tgt := 174) hx hb dX1_look_160 (by decide) ?_
                exact W.iret (v := sumI r2 k9) hx hb hr (fun t ht hW => ⟨⟨sumI r2 k9, (0 : Int32), rfl, (by obtain rfl : k9 = 64 := (by omega); exact ⟨rfl, by unfold lookR; rw [if_neg (by omega), if_neg (by omega), if_neg (by omega), if_pos (by omega)]⟩), by rw [ht]; exact hP, va_K.moved hW.alike hK, hD⟩, hS.F ht⟩) hS.2.2 dX1_look_174
            · refine lv_iload hx hb dX1_look_148 (lv_at hl 4 rfl) ?_
              refine lv_goto (tgt := 174) hx hb dX1_look_150 (by decide) ?_
              exact W.iret (v := sumI r1 k9) hx hb hr (fun t ht hW => ⟨⟨sumI r1 k9, (0 : Int32), rfl, (by obtain rfl : k9 = 64 := (by omega); exact ⟨rfl, by unfold lookR; rw [if_neg (by omega), if_neg (by omega), if_pos (by omega)]⟩), by rw [ht]; exact hP, va_K.moved hW.alike hK, hD⟩, hS.F ht⟩) hS.2.2 dX1_look_174
          · refine lv_iload_n hx hb dX1_look_139 rfl (lv_at hl 3 rfl) ?_
            refine lv_goto (tgt := 174) hx hb dX1_look_140 (by decide) ?_
            exact W.iret (v := lastI r0 k9) hx hb hr (fun t ht hW => ⟨⟨lastI r0 k9, (0 : Int32), rfl, (by obtain rfl : k9 = 64 := (by omega); exact ⟨rfl, by unfold lookR; rw [if_neg (by omega), if_pos (by omega)]⟩), by rw [ht]; exact hP, va_K.moved hW.alike hK, hD⟩, hS.F ht⟩) hS.2.2 dX1_look_174
        · refine lv_iload_n hx hb dX1_look_130 rfl (lv_at hl 2 rfl) ?_
          refine lv_goto (tgt := 174) hx hb dX1_look_131 (by decide) ?_
          exact W.iret (v := cntI r0 k9) hx hb hr (fun t ht hW => ⟨⟨cntI r0 k9, (0 : Int32), rfl, (by obtain rfl : k9 = 64 := (by omega); exact ⟨rfl, by unfold lookR; rw [if_pos (by omega)]⟩), by rw [ht]; exact hP, va_K.moved hW.alike hK, hD⟩, hS.F ht⟩) hS.2.2 dX1_look_174
      · refine lv_iload_n hx hb dX1_look_28 rfl (lv_at hl 2 rfl) ?_
        refine lv_aload_n hx hb dX1_look_29 rfl (lv_at hl 0 rfl) ?_
        refine va_get (D := D) (ci := 1) (v := .ref (y 1)) (C := RX1) (T := TX1) (N := 8) hx hb hts hin1 hown hK hP 0 rfl rfl 1 (by decide) hf7 (fun _ h9 => h9) rfl dX1_look_30 ?_
        refine lv_iload hx hb dX1_look_33 (lv_at hl 7 rfl) ?_
        refine cx_iald hx hb hK hP 1 0 rfl rfl k9 (by omega) (by decide) dX1_look_35 ?_
        refine cx_if_eq (i := (r0 k9).toInt) (j := 0) (tgt := 43) hx hb rfl rfl dX1_look_36 (by decide) (fun c_7 => ?_) (fun c_7 => ?_)
        · refine lv_iconst (v := (0 : Int32)) hx hb dX1_look_43 (by decide +kernel) ?_
          refine lv_iadd hx hb dX1_look_44 ?_
          refine lv_istore_n (lv' := [(2, .int ((cntI r0 k9) + (0 : Int32))), (0, .ref (y 0)), (1, .int q), (3, .int (lastI r0 k9)), (4, .int (sumI r1 k9)), (5, .int (sumI r2 k9)), (6, .int (sumI (fun j => absR (r0 j)) k9)), (7, .int (nI k9))]) hx hb dX1_look_45 rfl hl (by decide) rfl (fun ls hl => ?_)
          refine lv_aload_n hx hb dX1_look_46 rfl (lv_at hl 1 rfl) ?_
          refine va_get (D := D) (ci := 1) (v := .ref (y 1)) (C := RX1) (T := TX1) (N := 8) hx hb hts hin1 hown hK hP 0 rfl rfl 1 (by decide) hf7 (fun _ h9 => h9) rfl dX1_look_47 ?_
          refine lv_iload hx hb dX1_look_50 (lv_at hl 7 rfl) ?_
          refine cx_iald hx hb hK hP 1 0 rfl rfl k9 (by omega) (by decide) dX1_look_52 ?_
          refine cx_if_eq (i := (r0 k9).toInt) (j := 0) (tgt := 61) hx hb rfl rfl dX1_look_53 (by decide) (fun c_8 => ?_) (fun c_8 => ?_)
          · refine lv_iload_n hx hb dX1_look_61 rfl (lv_at hl 3 rfl) ?_
            refine lv_istore_n (lv' := [(3, .int (lastI r0 k9)), (2, .int ((cntI r0 k9) + (0 : Int32))), (0, .ref (y 0)), (1, .int q), (4, .int (sumI r1 k9)), (5, .int (sumI r2 k9)), (6, .int (sumI (fun j => absR (r0 j)) k9)), (7, .int (nI k9))]) hx hb dX1_look_62 rfl hl (by decide) rfl (fun ls hl => ?_)
            refine lv_iload hx hb dX1_look_63 (lv_at hl 4 rfl) ?_
            refine lv_aload_n hx hb dX1_look_65 rfl (lv_at hl 2 rfl) ?_
            refine va_get (D := D) (ci := 1) (v := .ref (y 2)) (C := RX1) (T := TX1) (N := 8) hx hb hts hin1 hown hK hP 0 rfl rfl 2 (by decide) hf13 (fun _ h9 => h9) rfl dX1_look_66 ?_
            refine lv_iload hx hb dX1_look_69 (lv_at hl 7 rfl) ?_
            refine cx_iald hx hb hK hP 2 1 rfl rfl k9 (by omega) (by decide) dX1_look_71 ?_
            refine lv_iadd hx hb dX1_look_72 ?_
            refine lv_istore (lv' := [(4, .int ((sumI r1 k9) + (r1 k9))), (3, .int (lastI r0 k9)), (2, .int ((cntI r0 k9) + (0 : Int32))), (0, .ref (y 0)), (1, .int q), (5, .int (sumI r2 k9)), (6, .int (sumI (fun j => absR (r0 j)) k9)), (7, .int (nI k9))]) hx hb dX1_look_73 hl (by decide) rfl (fun ls hl => ?_)
            refine lv_iload hx hb dX1_look_75 (lv_at hl 5 rfl) ?_
            refine lv_aload_n hx hb dX1_look_77 rfl (lv_at hl 3 rfl) ?_
            refine va_get (D := D) (ci := 1) (v := .ref (y 3)) (C := RX1) (T := TX1) (N := 8) hx hb hts hin1 hown hK hP 0 rfl rfl 3 (by decide) hf16 (fun _ h9 => h9) rfl dX1_look_78 ?_
            refine lv_iload hx hb dX1_look_81 (lv_at hl 7 rfl) ?_
            refine cx_iald hx hb hK hP 3 2 rfl rfl k9 (by omega) (by decide) dX1_look_83 ?_
            refine lv_iadd hx hb dX1_look_84 ?_
            refine lv_istore (lv' := [(5, .int ((sumI r2 k9) + (r2 k9))), (4, .int ((sumI r1 k9) + (r1 k9))), (3, .int (lastI r0 k9)), (2, .int ((cntI r0 k9) + (0 : Int32))), (0, .ref (y 0)), (1, .int q), (6, .int (sumI (fun j => absR (r0 j)) k9)), (7, .int (nI k9))]) hx hb dX1_look_85 hl (by decide) rfl (fun ls hl => ?_)
            refine lv_iload hx hb dX1_look_87 (lv_at hl 6 rfl) ?_
            refine lv_aload_n hx hb dX1_look_89 rfl (lv_at hl 4 rfl) ?_
            refine va_get (D := D) (ci := 1) (v := .ref (y 1)) (C := RX1) (T := TX1) (N := 8) hx hb hts hin1 hown hK hP 0 rfl rfl 1 (by decide) hf7 (fun _ h9 => h9) rfl dX1_look_90 ?_
            refine lv_iload hx hb dX1_look_93 (lv_at hl 7 rfl) ?_
            refine cx_iald hx hb hK hP 1 0 rfl rfl k9 (by omega) (by decide) dX1_look_95 ?_
            refine cx_if_ge (i := (r0 k9).toInt) (j := 0) (tgt := 110) hx hb rfl rfl dX1_look_96 (by decide) (fun c_9 => ?_) (fun c_9 => ?_)
            · refine lv_aload_n hx hb dX1_look_110 rfl (lv_at hl 4 rfl) ?_
              refine va_get (D := D) (ci := 1) (v := .ref (y 1)) (C := RX1) (T := TX1) (N := 8) hx hb hts hin1 hown hK hP 0 rfl rfl 1 (by decide) hf7 (fun _ h9 => h9) rfl dX1_look_111 ?_
              refine lv_iload hx hb dX1_look_114 (lv_at hl 7 rfl) ?_
              refine cx_iald hx hb hK hP 1 0 rfl rfl k9 (by omega) (by decide) dX1_look_116 ?_
              refine lv_iadd hx hb dX1_look_117 ?_
              refine lv_istore (lv' := [(6, .int ((sumI (fun j => absR (r0 j)) k9) + (r0 k9))), (5, .int ((sumI r2 k9) + (r2 k9))), (4, .int ((sumI r1 k9) + (r1 k9))), (3, .int (lastI r0 k9)), (2, .int ((cntI r0 k9) + (0 : Int32))), (0, .ref (y 0)), (1, .int q), (7, .int (nI k9))]) hx hb dX1_look_118 hl (by decide) rfl (fun ls hl => ?_)
              refine lv_iinc (v := nI (k9 + 1)) (lv' := [(7, .int (nI (k9 + 1))), (6, .int ((sumI (fun j => absR (r0 j)) k9) + (r0 k9))), (5, .int ((sumI r2 k9) + (r2 k9))), (4, .int ((sumI r1 k9) + (r1 k9))), (3, .int (lastI r0 k9)), (2, .int ((cntI r0 k9) + (0 : Int32))), (0, .ref (y 0)), (1, .int q)]) hx hb dX1_look_120 hl (k := 7) rfl (by show nI k9 + 1 = nI (k9 + 1); exact nI_add k9 1) (by decide) rfl (fun ls hl => ?_)
              refine lv_goto (tgt := 21) hx hb dX1_look_123 (by decide) ?_
              have e_10 : (cntI r0 k9) + (0 : Int32) = cntI r0 (k9 + 1) := cntI_z0 c_7
              rw [e_10] at hl
              have e_11 : lastI r0 k9 = lastI r0 (k9 + 1) := (lastI_z c_8).symm
              rw [e_11] at hl
              have e_12 : (sumI (fun j => absR (r0 j)) k9) + (r0 k9) = sumI (fun j => absR (r0 j)) (k9 + 1) := by show _ = sumI (fun j => absR (r0 j)) k9 + absR (r0 k9); unfold absR; rw [if_neg (by omega)]
              rw [e_12] at hl
              exact ih21 (k9 + 1) _ (by omega) (by omega) (lv_sub hl [6, 7, 5, 4, 3, 2, 1, 0] rfl)
            · refine lv_aload_n hx hb dX1_look_99 rfl (lv_at hl 4 rfl) ?_
              refine va_get (D := D) (ci := 1) (v := .ref (y 1)) (C := RX1) (T := TX1) (N := 8) hx hb hts hin1 hown hK hP 0 rfl rfl 1 (by decide) hf7 (fun _ h9 => h9) rfl dX1_look_100 ?_
              refine lv_iload hx hb dX1_look_103 (lv_at hl 7 rfl) ?_
              refine cx_iald hx hb hK hP 1 0 rfl rfl k9 (by omega) (by decide) dX1_look_105 ?_
              refine lv_ineg hx hb dX1_look_106 ?_
              refine lv_goto (tgt := 117) hx hb dX1_look_107 (by decide) ?_
              refine lv_iadd hx hb dX1_look_117 ?_
              refine lv_istore (lv' := [(6, .int ((sumI (fun j => absR (r0 j)) k9) + (-(r0 k9)))), (5, .int ((sumI r2 k9) + (r2 k9))), (4, .int ((sumI r1 k9) + (r1 k9))), (3, .int (lastI r0 k9)), (2, .int ((cntI r0 k9) + (0 : Int32))), (0, .ref (y 0)), (1, .int q), (7, .int (nI k9))]) hx hb dX1_look_118 hl (by decide) rfl (fun ls hl => ?_)
              refine lv_iinc (v := nI (k9 + 1)) (lv' := [(7, .int (nI (k9 + 1))), (6, .int ((sumI (fun j => absR (r0 j)) k9) + (-(r0 k9)))), (5, .int ((sumI r2 k9) + (r2 k9))), (4, .int ((sumI r1 k9) + (r1 k9))), (3, .int (lastI r0 k9)), (2, .int ((cntI r0 k9) + (0 : Int32))), (0, .ref (y 0)), (1, .int q)]) hx hb dX1_look_120 hl (k := 7) rfl (by show nI k9 + 1 = nI (k9 + 1); exact nI_add k9 1) (by decide) rfl (fun ls hl => ?_)
              refine lv_goto (tgt := 21) hx hb dX1_look_123 (by decide) ?_
              have e_13 : (cntI r0 k9) + (0 : Int32) = cntI r0 (k9 + 1) := cntI_z0 c_7
              rw [e_13] at hl
              have e_14 : lastI r0 k9 = lastI r0 (k9 + 1) := (lastI_z c_8).symm
              rw [e_14] at hl
              have e_15 : (sumI (fun j => absR (r0 j)) k9) + (-(r0 k9)) = sumI (fun j => absR (r0 j)) (k9 + 1) := by show _ = sumI (fun j => absR (r0 j)) k9 + absR (r0 k9); unfold absR; rw [if_pos (by omega)]
              rw [e_15] at hl
              exact ih21 (k9 + 1) _ (by omega) (by omega) (lv_sub hl [6, 7, 5, 4, 3, 2, 1, 0] rfl)
          · refine lv_iload hx hb dX1_look_56 (lv_at hl 7 rfl) ?_
            refine lv_goto (tgt := 62) hx hb dX1_look_58 (by decide) ?_
            refine lv_istore_n (lv' := [(3, .int (nI k9)), (2, .int ((cntI r0 k9) + (0 : Int32))), (0, .ref (y 0)), (1, .int q), (4, .int (sumI r1 k9)), (5, .int (sumI r2 k9)), (6, .int (sumI (fun j => absR (r0 j)) k9)), (7, .int (nI k9))]) hx hb dX1_look_62 rfl hl (by decide) rfl (fun ls hl => ?_)
            refine lv_iload hx hb dX1_look_63 (lv_at hl 4 rfl) ?_
            refine lv_aload_n hx hb dX1_look_65 rfl (lv_at hl 2 rfl) ?_
            refine va_get (D := D) (ci := 1) (v := .ref (y 2)) (C := RX1) (T := TX1) (N := 8) hx hb hts hin1 hown hK hP 0 rfl rfl 2 (by decide) hf13 (fun _ h9 => h9) rfl dX1_look_66 ?_
            refine lv_iload hx hb dX1_look_69 (lv_at hl 7 rfl) ?_
            refine cx_iald hx hb hK hP 2 1 rfl rfl k9 (by omega) (by decide) dX1_look_71 ?_
            refine lv_iadd hx hb dX1_look_72 ?_
            refine lv_istore (lv' := [(4, .int ((sumI r1 k9) + (r1 k9))), (3, .int (nI k9)), (2, .int ((cntI r0 k9) + (0 : Int32))), (0, .ref (y 0)), (1, .int q), (5, .int (sumI r2 k9)), (6, .int (sumI (fun j => absR (r0 j)) k9)), (7, .int (nI k9))]) hx hb dX1_look_73 hl (by decide) rfl (fun ls hl => ?_)
            refine lv_iload hx hb dX1_look_75 (lv_at hl 5 rfl) ?_
            refine lv_aload_n hx hb dX1_look_77 rfl (lv_at hl 3 rfl) ?_
            refine va_get (D := D) (ci := 1) (v := .ref (y 3)) (C := RX1) (T := TX1) (N := 8) hx hb hts hin1 hown hK hP 0 rfl rfl 3 (by decide) hf16 (fun _ h9 => h9) rfl dX1_look_78 ?_
            refine lv_iload hx hb dX1_look_81 (lv_at hl 7 rfl) ?_
            refine cx_iald hx hb hK hP 3 2 rfl rfl k9 (by omega) (by decide) dX1_look_83 ?_
            refine lv_iadd hx hb dX1_look_84 ?_
            refine lv_istore (lv' := [(5, .int ((sumI r2 k9) + (r2 k9))), (4, .int ((sumI r1 k9) + (r1 k9))), (3, .int (nI k9)), (2, .int ((cntI r0 k9) + (0 : Int32))), (0, .ref (y 0)), (1, .int q), (6, .int (sumI (fun j => absR (r0 j)) k9)), (7, .int (nI k9))]) hx hb dX1_look_85 hl (by decide) rfl (fun ls hl => ?_)
            refine lv_iload hx hb dX1_look_87 (lv_at hl 6 rfl) ?_
            refine lv_aload_n hx hb dX1_look_89 rfl (lv_at hl 4 rfl) ?_
            refine va_get (D := D) (ci := 1) (v := .ref (y 1)) (C := RX1) (T := TX1) (N := 8) hx hb hts hin1 hown hK hP 0 rfl rfl 1 (by decide) hf7 (fun _ h9 => h9) rfl dX1_look_90 ?_
            refine lv_iload hx hb dX1_look_93 (lv_at hl 7 rfl) ?_
            refine cx_iald hx hb hK hP 1 0 rfl rfl k9 (by omega) (by decide) dX1_look_95 ?_
            refine cx_if_ge (i := (r0 k9).toInt) (j := 0) (tgt := 110) hx hb rfl rfl dX1_look_96 (by decide) (fun c_16 => ?_) (fun c_16 => ?_)
            · refine lv_aload_n hx hb dX1_look_110 rfl (lv_at hl 4 rfl) ?_
              refine va_get (D := D) (ci := 1) (v := .ref (y 1)) (C := RX1) (T := TX1) (N := 8) hx hb hts hin1 hown hK hP 0 rfl rfl 1 (by decide) hf7 (fun _ h9 => h9) rfl dX1_look_111 ?_
              refine lv_iload hx hb dX1_look_114 (lv_at hl 7 rfl) ?_
              refine cx_iald hx hb hK hP 1 0 rfl rfl k9 (by omega) (by decide) dX1_look_116 ?_
              refine lv_iadd hx hb dX1_look_117 ?_
              refine lv_istore (lv' := [(6, .int ((sumI (fun j => absR (r0 j)) k9) + (r0 k9))), (5, .int ((sumI r2 k9) + (r2 k9))), (4, .int ((sumI r1 k9) + (r1 k9))), (3, .int (nI k9)), (2, .int ((cntI r0 k9) + (0 : Int32))), (0, .ref (y 0)), (1, .int q), (7, .int (nI k9))]) hx hb dX1_look_118 hl (by decide) rfl (fun ls hl => ?_)
              refine lv_iinc (v := nI (k9 + 1)) (lv' := [(7, .int (nI (k9 + 1))), (6, .int ((sumI (fun j => absR (r0 j)) k9) + (r0 k9))), (5, .int ((sumI r2 k9) + (r2 k9))), (4, .int ((sumI r1 k9) + (r1 k9))), (3, .int (nI k9)), (2, .int ((cntI r0 k9) + (0 : Int32))), (0, .ref (y 0)), (1, .int q)]) hx hb dX1_look_120 hl (k := 7) rfl (by show nI k9 + 1 = nI (k9 + 1); exact nI_add k9 1) (by decide) rfl (fun ls hl => ?_)
              refine lv_goto (tgt := 21) hx hb dX1_look_123 (by decide) ?_
              have e_17 : (cntI r0 k9) + (0 : Int32) = cntI r0 (k9 + 1) := cntI_z0 c_7
              rw [e_17] at hl
              have e_18 : nI k9 = lastI r0 (k9 + 1) := (lastI_s c_8).symm
              rw [e_18] at hl
              have e_19 : (sumI (fun j => absR (r0 j)) k9) + (r0 k9) = sumI (fun j => absR (r0 j)) (k9 + 1) := by show _ = sumI (fun j => absR (r0 j)) k9 + absR (r0 k9); unfold absR; rw [if_neg (by omega)]
              rw [e_19] at hl
              exact ih21 (k9 + 1) _ (by omega) (by omega) (lv_sub hl [6, 7, 5, 4, 3, 2, 1, 0] rfl)
            · refine lv_aload_n hx hb dX1_look_99 rfl (lv_at hl 4 rfl) ?_
              refine va_get (D := D) (ci := 1) (v := .ref (y 1)) (C := RX1) (T := TX1) (N := 8) hx hb hts hin1 hown hK hP 0 rfl rfl 1 (by decide) hf7 (fun _ h9 => h9) rfl dX1_look_100 ?_
              refine lv_iload hx hb dX1_look_103 (lv_at hl 7 rfl) ?_
              refine cx_iald hx hb hK hP 1 0 rfl rfl k9 (by omega) (by decide) dX1_look_105 ?_
              refine lv_ineg hx hb dX1_look_106 ?_
              refine lv_goto (tgt := 117) hx hb dX1_look_107 (by decide) ?_
              refine lv_iadd hx hb dX1_look_117 ?_
              refine lv_istore (lv' := [(6, .int ((sumI (fun j => absR (r0 j)) k9) + (-(r0 k9)))), (5, .int ((sumI r2 k9) + (r2 k9))), (4, .int ((sumI r1 k9) + (r1 k9))), (3, .int (nI k9)), (2, .int ((cntI r0 k9) + (0 : Int32))), (0, .ref (y 0)), (1, .int q), (7, .int (nI k9))]) hx hb dX1_look_118 hl (by decide) rfl (fun ls hl => ?_)
              refine lv_iinc (v := nI (k9 + 1)) (lv' := [(7, .int (nI (k9 + 1))), (6, .int ((sumI (fun j => absR (r0 j)) k9) + (-(r0 k9)))), (5, .int ((sumI r2 k9) + (r2 k9))), (4, .int ((sumI r1 k9) + (r1 k9))), (3, .int (nI k9)), (2, .int ((cntI r0 k9) + (0 : Int32))), (0, .ref (y 0)), (1, .int q)]) hx hb dX1_look_120 hl (k := 7) rfl (by show nI k9 + 1 = nI (k9 + 1); exact nI_add k9 1) (by decide) rfl (fun ls hl => ?_)
              refine lv_goto (tgt := 21) hx hb dX1_look_123 (by decide) ?_
              have e_20 : (cntI r0 k9) + (0 : Int32) = cntI r0 (k9 + 1) := cntI_z0 c_7
              rw [e_20] at hl
              have e_21 : nI k9 = lastI r0 (k9 + 1) := (lastI_s c_8).symm
              rw [e_21] at hl
              have e_22 : (sumI (fun j => absR (r0 j)) k9) + (-(r0 k9)) = sumI (fun j => absR (r0 j)) (k9 + 1) := by show _ = sumI (fun j => absR (r0 j)) k9 + absR (r0 k9); unfold absR; rw [if_pos (by omega)]
              rw [e_22] at hl
              exact ih21 (k9 + 1) _ (by omega) (by omega) (lv_sub hl [6, 7, 5, 4, 3, 2, 1, 0] rfl)
        · refine lv_iconst (v := (1 : Int32)) hx hb dX1_look_39 (by decide +kernel) ?_
          refine lv_goto (tgt := 44) hx hb dX1_look_40 (by decide) ?_
          refine lv_iadd hx hb dX1_look_44 ?_
          refine lv_istore_n (lv' := [(2, .int ((cntI r0 k9) + (1 : Int32))), (0, .ref (y 0)), (1, .int q), (3, .int (lastI r0 k9)), (4, .int (sumI r1 k9)), (5, .int (sumI r2 k9)), (6, .int (sumI (fun j => absR (r0 j)) k9)), (7, .int (nI k9))]) hx hb dX1_look_45 rfl hl (by decide) rfl (fun ls hl => ?_)
          refine lv_aload_n hx hb dX1_look_46 rfl (lv_at hl 1 rfl) ?_
          refine va_get (D := D) (ci := 1) (v := .ref (y 1)) (C := RX1) (T := TX1) (N := 8) hx hb hts hin1 hown hK hP 0 rfl rfl 1 (by decide) hf7 (fun _ h9 => h9) rfl dX1_look_47 ?_
          refine lv_iload hx hb dX1_look_50 (lv_at hl 7 rfl) ?_
          refine cx_iald hx hb hK hP 1 0 rfl rfl k9 (by omega) (by decide) dX1_look_52 ?_
          refine cx_if_eq (i := (r0 k9).toInt) (j := 0) (tgt := 61) hx hb rfl rfl dX1_look_53 (by decide) (fun c_23 => ?_) (fun c_23 => ?_)
          · refine lv_iload_n hx hb dX1_look_61 rfl (lv_at hl 3 rfl) ?_
            refine lv_istore_n (lv' := [(3, .int (lastI r0 k9)), (2, .int ((cntI r0 k9) + (1 : Int32))), (0, .ref (y 0)), (1, .int q), (4, .int (sumI r1 k9)), (5, .int (sumI r2 k9)), (6, .int (sumI (fun j => absR (r0 j)) k9)), (7, .int (nI k9))]) hx hb dX1_look_62 rfl hl (by decide) rfl (fun ls hl => ?_)
            refine lv_iload hx hb dX1_look_63 (lv_at hl 4 rfl) ?_
            refine lv_aload_n hx hb dX1_look_65 rfl (lv_at hl 2 rfl) ?_
            refine va_get (D := D) (ci := 1) (v := .ref (y 2)) (C := RX1) (T := TX1) (N := 8) hx hb hts hin1 hown hK hP 0 rfl rfl 2 (by decide) hf13 (fun _ h9 => h9) rfl dX1_look_66 ?_
            refine lv_iload hx hb dX1_look_69 (lv_at hl 7 rfl) ?_
            refine cx_iald hx hb hK hP 2 1 rfl rfl k9 (by omega) (by decide) dX1_look_71 ?_
            refine lv_iadd hx hb dX1_look_72 ?_
            refine lv_istore (lv' := [(4, .int ((sumI r1 k9) + (r1 k9))), (3, .int (lastI r0 k9)), (2, .int ((cntI r0 k9) + (1 : Int32))), (0, .ref (y 0)), (1, .int q), (5, .int (sumI r2 k9)), (6, .int (sumI (fun j => absR (r0 j)) k9)), (7, .int (nI k9))]) hx hb dX1_look_73 hl (by decide) rfl (fun ls hl => ?_)
            refine lv_iload hx hb dX1_look_75 (lv_at hl 5 rfl) ?_
            refine lv_aload_n hx hb dX1_look_77 rfl (lv_at hl 3 rfl) ?_
            refine va_get (D := D) (ci := 1) (v := .ref (y 3)) (C := RX1) (T := TX1) (N := 8) hx hb hts hin1 hown hK hP 0 rfl rfl 3 (by decide) hf16 (fun _ h9 => h9) rfl dX1_look_78 ?_
            refine lv_iload hx hb dX1_look_81 (lv_at hl 7 rfl) ?_
            refine cx_iald hx hb hK hP 3 2 rfl rfl k9 (by omega) (by decide) dX1_look_83 ?_
            refine lv_iadd hx hb dX1_look_84 ?_
            refine lv_istore (lv' := [(5, .int ((sumI r2 k9) + (r2 k9))), (4, .int ((sumI r1 k9) + (r1 k9))), (3, .int (lastI r0 k9)), (2, .int ((cntI r0 k9) + (1 : Int32))), (0, .ref (y 0)), (1, .int q), (6, .int (sumI (fun j => absR (r0 j)) k9)), (7, .int (nI k9))]) hx hb dX1_look_85 hl (by decide) rfl (fun ls hl => ?_)
            refine lv_iload hx hb dX1_look_87 (lv_at hl 6 rfl) ?_
            refine lv_aload_n hx hb dX1_look_89 rfl (lv_at hl 4 rfl) ?_
            refine va_get (D := D) (ci := 1) (v := .ref (y 1)) (C := RX1) (T := TX1) (N := 8) hx hb hts hin1 hown hK hP 0 rfl rfl 1 (by decide) hf7 (fun _ h9 => h9) rfl dX1_look_90 ?_
            refine lv_iload hx hb dX1_look_93 (lv_at hl 7 rfl) ?_
            refine cx_iald hx hb hK hP 1 0 rfl rfl k9 (by omega) (by decide) dX1_look_95 ?_
            refine cx_if_ge (i := (r0 k9).toInt) (j := 0) (tgt := 110) hx hb rfl rfl dX1_look_96 (by decide) (fun c_24 => ?_) (fun c_24 => ?_)
            · refine lv_aload_n hx hb dX1_look_110 rfl (lv_at hl 4 rfl) ?_
              refine va_get (D := D) (ci := 1) (v := .ref (y 1)) (C := RX1) (T := TX1) (N := 8) hx hb hts hin1 hown hK hP 0 rfl rfl 1 (by decide) hf7 (fun _ h9 => h9) rfl dX1_look_111 ?_
              refine lv_iload hx hb dX1_look_114 (lv_at hl 7 rfl) ?_
              refine cx_iald hx hb hK hP 1 0 rfl rfl k9 (by omega) (by decide) dX1_look_116 ?_
              refine lv_iadd hx hb dX1_look_117 ?_
              refine lv_istore (lv' := [(6, .int ((sumI (fun j => absR (r0 j)) k9) + (r0 k9))), (5, .int ((sumI r2 k9) + (r2 k9))), (4, .int ((sumI r1 k9) + (r1 k9))), (3, .int (lastI r0 k9)), (2, .int ((cntI r0 k9) + (1 : Int32))), (0, .ref (y 0)), (1, .int q), (7, .int (nI k9))]) hx hb dX1_look_118 hl (by decide) rfl (fun ls hl => ?_)
              refine lv_iinc (v := nI (k9 + 1)) (lv' := [(7, .int (nI (k9 + 1))), (6, .int ((sumI (fun j => absR (r0 j)) k9) + (r0 k9))), (5, .int ((sumI r2 k9) + (r2 k9))), (4, .int ((sumI r1 k9) + (r1 k9))), (3, .int (lastI r0 k9)), (2, .int ((cntI r0 k9) + (1 : Int32))), (0, .ref (y 0)), (1, .int q)]) hx hb dX1_look_120 hl (k := 7) rfl (by show nI k9 + 1 = nI (k9 + 1); exact nI_add k9 1) (by decide) rfl (fun ls hl => ?_)
              refine lv_goto (tgt := 21) hx hb dX1_look_123 (by decide) ?_
              have e_25 : (cntI r0 k9) + (1 : Int32) = cntI r0 (k9 + 1) := cntI_s c_7
              rw [e_25] at hl
              have e_26 : lastI r0 k9 = lastI r0 (k9 + 1) := (lastI_z c_23).symm
              rw [e_26] at hl
              have e_27 : (sumI (fun j => absR (r0 j)) k9) + (r0 k9) = sumI (fun j => absR (r0 j)) (k9 + 1) := by show _ = sumI (fun j => absR (r0 j)) k9 + absR (r0 k9); unfold absR; rw [if_neg (by omega)]
              rw [e_27] at hl
              exact ih21 (k9 + 1) _ (by omega) (by omega) (lv_sub hl [6, 7, 5, 4, 3, 2, 1, 0] rfl)
            · refine lv_aload_n hx hb dX1_look_99 rfl (lv_at hl 4 rfl) ?_
              refine va_get (D := D) (ci := 1) (v := .ref (y 1)) (C := RX1) (T := TX1) (N := 8) hx hb hts hin1 hown hK hP 0 rfl rfl 1 (by decide) hf7 (fun _ h9 => h9) rfl dX1_look_100 ?_
              refine lv_iload hx hb dX1_look_103 (lv_at hl 7 rfl) ?_
              refine cx_iald hx hb hK hP 1 0 rfl rfl k9 (by omega) (by decide) dX1_look_105 ?_
              refine lv_ineg hx hb dX1_look_106 ?_
              refine lv_goto (tgt := 117) hx hb dX1_look_107 (by decide) ?_
              refine lv_iadd hx hb dX1_look_117 ?_
              refine lv_istore (lv' := [(6, .int ((sumI (fun j => absR (r0 j)) k9) + (-(r0 k9)))), (5, .int ((sumI r2 k9) + (r2 k9))), (4, .int ((sumI r1 k9) + (r1 k9))), (3, .int (lastI r0 k9)), (2, .int ((cntI r0 k9) + (1 : Int32))), (0, .ref (y 0)), (1, .int q), (7, .int (nI k9))]) hx hb dX1_look_118 hl (by decide) rfl (fun ls hl => ?_)
              refine lv_iinc (v := nI (k9 + 1)) (lv' := [(7, .int (nI (k9 + 1))), (6, .int ((sumI (fun j => absR (r0 j)) k9) + (-(r0 k9)))), (5, .int ((sumI r2 k9) + (r2 k9))), (4, .int ((sumI r1 k9) + (r1 k9))), (3, .int (lastI r0 k9)), (2, .int ((cntI r0 k9) + (1 : Int32))), (0, .ref (y 0)), (1, .int q)]) hx hb dX1_look_120 hl (k := 7) rfl (by show nI k9 + 1 = nI (k9 + 1); exact nI_add k9 1) (by decide) rfl (fun ls hl => ?_)
              refine lv_goto (tgt := 21) hx hb dX1_look_123 (by decide) ?_
              have e_28 : (cntI r0 k9) + (1 : Int32) = cntI r0 (k9 + 1) := cntI_s c_7
              rw [e_28] at hl
              have e_29 : lastI r0 k9 = lastI r0 (k9 + 1) := (lastI_z c_23).symm
              rw [e_29] at hl
              have e_30 : (sumI (fun j => absR (r0 j)) k9) + (-(r0 k9)) = sumI (fun j => absR (r0 j)) (k9 + 1) := by show _ = sumI (fun j => absR (r0 j)) k9 + absR (r0 k9); unfold absR; rw [if_pos (by omega)]
              rw [e_30] at hl
              exact ih21 (k9 + 1) _ (by omega) (by omega) (lv_sub hl [6, 7, 5, 4, 3, 2, 1, 0] rfl)
          · refine lv_iload hx hb dX1_look_56 (lv_at hl 7 rfl) ?_
            refine lv_goto (tgt := 62) hx hb dX1_look_58 (by decide) ?_
            refine lv_istore_n (lv' := [(3, .int (nI k9)), (2, .int ((cntI r0 k9) + (1 : Int32))), (0, .ref (y 0)), (1, .int q), (4, .int (sumI r1 k9)), (5, .int (sumI r2 k9)), (6, .int (sumI (fun j => absR (r0 j)) k9)), (7, .int (nI k9))]) hx hb dX1_look_62 rfl hl (by decide) rfl (fun ls hl => ?_)
            refine lv_iload hx hb dX1_look_63 (lv_at hl 4 rfl) ?_
            refine lv_aload_n hx hb dX1_look_65 rfl (lv_at hl 2 rfl) ?_
            refine va_get (D := D) (ci := 1) (v := .ref (y 2)) (C := RX1) (T := TX1) (N := 8) hx hb hts hin1 hown hK hP 0 rfl rfl 2 (by decide) hf13 (fun _ h9 => h9) rfl dX1_look_66 ?_
            refine lv_iload hx hb dX1_look_69 (lv_at hl 7 rfl) ?_
            refine cx_iald hx hb hK hP 2 1 rfl rfl k9 (by omega) (by decide) dX1_look_71 ?_
            refine lv_iadd hx hb dX1_look_72 ?_
            refine lv_istore (lv' := [(4, .int ((sumI r1 k9) + (r1 k9))), (3, .int (nI k9)), (2, .int ((cntI r0 k9) + (1 : Int32))), (0, .ref (y 0)), (1, .int q), (5, .int (sumI r2 k9)), (6, .int (sumI (fun j => absR (r0 j)) k9)), (7, .int (nI k9))]) hx hb dX1_look_73 hl (by decide) rfl (fun ls hl => ?_)
            refine lv_iload hx hb dX1_look_75 (lv_at hl 5 rfl) ?_
            refine lv_aload_n hx hb dX1_look_77 rfl (lv_at hl 3 rfl) ?_
            refine va_get (D := D) (ci := 1) (v := .ref (y 3)) (C := RX1) (T := TX1) (N := 8) hx hb hts hin1 hown hK hP 0 rfl rfl 3 (by decide) hf16 (fun _ h9 => h9) rfl dX1_look_78 ?_
            refine lv_iload hx hb dX1_look_81 (lv_at hl 7 rfl) ?_
            refine cx_iald hx hb hK hP 3 2 rfl rfl k9 (by omega) (by decide) dX1_look_83 ?_
            refine lv_iadd hx hb dX1_look_84 ?_
            refine lv_istore (lv' := [(5, .int ((sumI r2 k9) + (r2 k9))), (4, .int ((sumI r1 k9) + (r1 k9))), (3, .int (nI k9)), (2, .int ((cntI r0 k9) + (1 : Int32))), (0, .ref (y 0)), (1, .int q), (6, .int (sumI (fun j => absR (r0 j)) k9)), (7, .int (nI k9))]) hx hb dX1_look_85 hl (by decide) rfl (fun ls hl => ?_)
            refine lv_iload hx hb dX1_look_87 (lv_at hl 6 rfl) ?_
            refine lv_aload_n hx hb dX1_look_89 rfl (lv_at hl 4 rfl) ?_
            refine va_get (D := D) (ci := 1) (v := .ref (y 1)) (C := RX1) (T := TX1) (N := 8) hx hb hts hin1 hown hK hP 0 rfl rfl 1 (by decide) hf7 (fun _ h9 => h9) rfl dX1_look_90 ?_
            refine lv_iload hx hb dX1_look_93 (lv_at hl 7 rfl) ?_
            refine cx_iald hx hb hK hP 1 0 rfl rfl k9 (by omega) (by decide) dX1_look_95 ?_
            refine cx_if_ge (i := (r0 k9).toInt) (j := 0) (tgt := 110) hx hb rfl rfl dX1_look_96 (by decide) (fun c_31 => ?_) (fun c_31 => ?_)
            · refine lv_aload_n hx hb dX1_look_110 rfl (lv_at hl 4 rfl) ?_
              refine va_get (D := D) (ci := 1) (v := .ref (y 1)) (C := RX1) (T := TX1) (N := 8) hx hb hts hin1 hown hK hP 0 rfl rfl 1 (by decide) hf7 (fun _ h9 => h9) rfl dX1_look_111 ?_
              refine lv_iload hx hb dX1_look_114 (lv_at hl 7 rfl) ?_
              refine cx_iald hx hb hK hP 1 0 rfl rfl k9 (by omega) (by decide) dX1_look_116 ?_
              refine lv_iadd hx hb dX1_look_117 ?_
              refine lv_istore (lv' := [(6, .int ((sumI (fun j => absR (r0 j)) k9) + (r0 k9))), (5, .int ((sumI r2 k9) + (r2 k9))), (4, .int ((sumI r1 k9) + (r1 k9))), (3, .int (nI k9)), (2, .int ((cntI r0 k9) + (1 : Int32))), (0, .ref (y 0)), (1, .int q), (7, .int (nI k9))]) hx hb dX1_look_118 hl (by decide) rfl (fun ls hl => ?_)
              refine lv_iinc (v := nI (k9 + 1)) (lv' := [(7, .int (nI (k9 + 1))), (6, .int ((sumI (fun j => absR (r0 j)) k9) + (r0 k9))), (5, .int ((sumI r2 k9) + (r2 k9))), (4, .int ((sumI r1 k9) + (r1 k9))), (3, .int (nI k9)), (2, .int ((cntI r0 k9) + (1 : Int32))), (0, .ref (y 0)), (1, .int q)]) hx hb dX1_look_120 hl (k := 7) rfl (by show nI k9 + 1 = nI (k9 + 1); exact nI_add k9 1) (by decide) rfl (fun ls hl => ?_)
              refine lv_goto (tgt := 21) hx hb dX1_look_123 (by decide) ?_
              have e_32 : (cntI r0 k9) + (1 : Int32) = cntI r0 (k9 + 1) := cntI_s c_7
              rw [e_32] at hl
              have e_33 : nI k9 = lastI r0 (k9 + 1) := (lastI_s c_23).symm
              rw [e_33] at hl
              have e_34 : (sumI (fun j => absR (r0 j)) k9) + (r0 k9) = sumI (fun j => absR (r0 j)) (k9 + 1) := by show _ = sumI (fun j => absR (r0 j)) k9 + absR (r0 k9); unfold absR; rw [if_neg (by omega)]
              rw [e_34] at hl
              exact ih21 (k9 + 1) _ (by omega) (by omega) (lv_sub hl [6, 7, 5, 4, 3, 2, 1, 0] rfl)
            · refine lv_aload_n hx hb dX1_look_99 rfl (lv_at hl 4 rfl) ?_
              refine va_get (D := D) (ci := 1) (v := .ref (y 1)) (C := RX1) (T := TX1) (N := 8) hx hb hts hin1 hown hK hP 0 rfl rfl 1 (by decide) hf7 (fun _ h9 => h9) rfl dX1_look_100 ?_
              refine lv_iload hx hb dX1_look_103 (lv_at hl 7 rfl) ?_
              refine cx_iald hx hb hK hP 1 0 rfl rfl k9 (by omega) (by decide) dX1_look_105 ?_
              refine lv_ineg hx hb dX1_look_106 ?_
              refine lv_goto (tgt := 117) hx hb dX1_look_107 (by decide) ?_
              refine lv_iadd hx hb dX1_look_117 ?_
              refine lv_istore (lv' := [(6, .int ((sumI (fun j => absR (r0 j)) k9) + (-(r0 k9)))), (5, .int ((sumI r2 k9) + (r2 k9))), (4, .int ((sumI r1 k9) + (r1 k9))), (3, .int (nI k9)), (2, .int ((cntI r0 k9) + (1 : Int32))), (0, .ref (y 0)), (1, .int q), (7, .int (nI k9))]) hx hb dX1_look_118 hl (by decide) rfl (fun ls hl => ?_)
              refine lv_iinc (v := nI (k9 + 1)) (lv' := [(7, .int (nI (k9 + 1))), (6, .int ((sumI (fun j => absR (r0 j)) k9) + (-(r0 k9)))), (5, .int ((sumI r2 k9) + (r2 k9))), (4, .int ((sumI r1 k9) + (r1 k9))), (3, .int (nI k9)), (2, .int ((cntI r0 k9) + (1 : Int32))), (0, .ref (y 0)), (1, .int q)]) hx hb dX1_look_120 hl (k := 7) rfl (by show nI k9 + 1 = nI (k9 + 1); exact nI_add k9 1) (by decide) rfl (fun ls hl => ?_)
              refine lv_goto (tgt := 21) hx hb dX1_look_123 (by decide) ?_
              have e_35 : (cntI r0 k9) + (1 : Int32) = cntI r0 (k9 + 1) := cntI_s c_7
              rw [e_35] at hl
              have e_36 : nI k9 = lastI r0 (k9 + 1) := (lastI_s c_23).symm
              rw [e_36] at hl
              have e_37 : (sumI (fun j => absR (r0 j)) k9) + (-(r0 k9)) = sumI (fun j => absR (r0 j)) (k9 + 1) := by show _ = sumI (fun j => absR (r0 j)) k9 + absR (r0 k9); unfold absR; rw [if_pos (by omega)]
              rw [e_37] at hl
              exact ih21 (k9 + 1) _ (by omega) (by omega) (lv_sub hl [6, 7, 5, 4, 3, 2, 1, 0] rfl)
  exact L21 _ 0 _ (Nat.lt_succ_self _) (Nat.zero_le _) (lv_sub hl [6, 7, 5, 4, 3, 2, 1, 0] rfl)
end
section
theorem dX1_forward_0 : decode cX1_forward 0 = .ok (.aload_n 0, 1) := by decide +kernel
theorem dX1_forward_1 : decode cX1_forward 1 = .ok (.iconst 0, 1) := by decide +kernel
theorem dX1_forward_2 : decode cX1_forward 2 = .ok (.putfield 32, 3) := by decide +kernel
theorem dX1_forward_5 : decode cX1_forward 5 = .ok (.iconst 0, 1) := by decide +kernel
theorem dX1_forward_6 : decode cX1_forward 6 = .ok (.istore_n 1, 1) := by decide +kernel
theorem dX1_forward_7 : decode cX1_forward 7 = .ok (.iconst 0, 1) := by decide +kernel
theorem dX1_forward_8 : decode cX1_forward 8 = .ok (.istore_n 2, 1) := by decide +kernel
theorem dX1_forward_9 : decode cX1_forward 9 = .ok (.iload_n 2, 1) := by decide +kernel
theorem dX1_forward_10 : decode cX1_forward 10 = .ok (.bipush 64, 2) := by decide +kernel
theorem dX1_forward_12 : decode cX1_forward 12 = .ok (.if_icmp .ge 102, 3) := by decide +kernel
theorem dX1_forward_15 : decode cX1_forward 15 = .ok (.aload_n 0, 1) := by decide +kernel
theorem dX1_forward_16 : decode cX1_forward 16 = .ok (.aload_n 0, 1) := by decide +kernel
theorem dX1_forward_17 : decode cX1_forward 17 = .ok (.getfield 22, 3) := by decide +kernel
theorem dX1_forward_20 : decode cX1_forward 20 = .ok (.iload_n 2, 1) := by decide +kernel
theorem dX1_forward_21 : decode cX1_forward 21 = .ok (.iaload, 1) := by decide +kernel
theorem dX1_forward_22 : decode cX1_forward 22 = .ok (.aload_n 0, 1) := by decide +kernel
theorem dX1_forward_23 : decode cX1_forward 23 = .ok (.getfield 25, 3) := by decide +kernel
theorem dX1_forward_26 : decode cX1_forward 26 = .ok (.iload_n 2, 1) := by decide +kernel
theorem dX1_forward_27 : decode cX1_forward 27 = .ok (.iaload, 1) := by decide +kernel
theorem dX1_forward_28 : decode cX1_forward 28 = .ok (.invokevirtual 67, 3) := by decide +kernel
theorem dX1_forward_31 : decode cX1_forward 31 = .ok (.lstore_n 3, 1) := by decide +kernel
theorem dX1_forward_32 : decode cX1_forward 32 = .ok (.lload_n 3, 1) := by decide +kernel
theorem dX1_forward_33 : decode cX1_forward 33 = .ok (.lconst 0, 1) := by decide +kernel
theorem dX1_forward_34 : decode cX1_forward 34 = .ok (.lcmp, 1) := by decide +kernel
theorem dX1_forward_35 : decode cX1_forward 35 = .ok (.ifCond .ge 8, 3) := by decide +kernel
theorem dX1_forward_38 : decode cX1_forward 38 = .ok (.lload_n 3, 1) := by decide +kernel
theorem dX1_forward_39 : decode cX1_forward 39 = .ok (.lneg, 1) := by decide +kernel
theorem dX1_forward_40 : decode cX1_forward 40 = .ok (.goto 4, 3) := by decide +kernel
theorem dX1_forward_43 : decode cX1_forward 43 = .ok (.lload_n 3, 1) := by decide +kernel
theorem dX1_forward_44 : decode cX1_forward 44 = .ok (.ldc2_w 71, 3) := by decide +kernel
theorem dX1_forward_47 : decode cX1_forward 47 = .ok (.lmul, 1) := by decide +kernel
theorem dX1_forward_48 : decode cX1_forward 48 = .ok (.aload_n 0, 1) := by decide +kernel
theorem dX1_forward_49 : decode cX1_forward 49 = .ok (.getfield 13, 3) := by decide +kernel
theorem dX1_forward_52 : decode cX1_forward 52 = .ok (.iload_n 2, 1) := by decide +kernel
theorem dX1_forward_53 : decode cX1_forward 53 = .ok (.iaload, 1) := by decide +kernel
theorem dX1_forward_54 : decode cX1_forward 54 = .ok (.i2l, 1) := by decide +kernel
theorem dX1_forward_55 : decode cX1_forward 55 = .ok (.ladd, 1) := by decide +kernel
theorem dX1_forward_56 : decode cX1_forward 56 = .ok (.ldc2_w 71, 3) := by decide +kernel
theorem dX1_forward_59 : decode cX1_forward 59 = .ok (.aload_n 0, 1) := by decide +kernel
theorem dX1_forward_60 : decode cX1_forward 60 = .ok (.getfield 13, 3) := by decide +kernel
theorem dX1_forward_63 : decode cX1_forward 63 = .ok (.iload_n 2, 1) := by decide +kernel
theorem dX1_forward_64 : decode cX1_forward 64 = .ok (.iaload, 1) := by decide +kernel
theorem dX1_forward_65 : decode cX1_forward 65 = .ok (.i2l, 1) := by decide +kernel
theorem dX1_forward_66 : decode cX1_forward 66 = .ok (.lmul, 1) := by decide +kernel
theorem dX1_forward_67 : decode cX1_forward 67 = .ok (.ldiv, 1) := by decide +kernel
theorem dX1_forward_68 : decode cX1_forward 68 = .ok (.lstore 5, 2) := by decide +kernel
theorem dX1_forward_70 : decode cX1_forward 70 = .ok (.aload_n 0, 1) := by decide +kernel
theorem dX1_forward_71 : decode cX1_forward 71 = .ok (.getfield 7, 3) := by decide +kernel
theorem dX1_forward_74 : decode cX1_forward 74 = .ok (.iload_n 2, 1) := by decide +kernel
theorem dX1_forward_75 : decode cX1_forward 75 = .ok (.lload_n 3, 1) := by decide +kernel
theorem dX1_forward_76 : decode cX1_forward 76 = .ok (.lconst 0, 1) := by decide +kernel
theorem dX1_forward_77 : decode cX1_forward 77 = .ok (.lcmp, 1) := by decide +kernel
theorem dX1_forward_78 : decode cX1_forward 78 = .ok (.ifCond .ge 9, 3) := by decide +kernel
theorem dX1_forward_81 : decode cX1_forward 81 = .ok (.lload 5, 2) := by decide +kernel
theorem dX1_forward_83 : decode cX1_forward 83 = .ok (.lneg, 1) := by decide +kernel
theorem dX1_forward_84 : decode cX1_forward 84 = .ok (.goto 5, 3) := by decide +kernel
theorem dX1_forward_87 : decode cX1_forward 87 = .ok (.lload 5, 2) := by decide +kernel
theorem dX1_forward_89 : decode cX1_forward 89 = .ok (.l2i, 1) := by decide +kernel
theorem dX1_forward_90 : decode cX1_forward 90 = .ok (.iastore, 1) := by decide +kernel
theorem dX1_forward_91 : decode cX1_forward 91 = .ok (.iload_n 1, 1) := by decide +kernel
theorem dX1_forward_92 : decode cX1_forward 92 = .ok (.aload_n 0, 1) := by decide +kernel
theorem dX1_forward_93 : decode cX1_forward 93 = .ok (.getfield 7, 3) := by decide +kernel
theorem dX1_forward_96 : decode cX1_forward 96 = .ok (.iload_n 2, 1) := by decide +kernel
theorem dX1_forward_97 : decode cX1_forward 97 = .ok (.iaload, 1) := by decide +kernel
theorem dX1_forward_98 : decode cX1_forward 98 = .ok (.ifCond .eq 7, 3) := by decide +kernel
theorem dX1_forward_101 : decode cX1_forward 101 = .ok (.iconst 1, 1) := by decide +kernel
theorem dX1_forward_102 : decode cX1_forward 102 = .ok (.goto 4, 3) := by decide +kernel
theorem dX1_forward_105 : decode cX1_forward 105 = .ok (.iconst 0, 1) := by decide +kernel
theorem dX1_forward_106 : decode cX1_forward 106 = .ok (.iadd, 1) := by decide +kernel
theorem dX1_forward_107 : decode cX1_forward 107 = .ok (.istore_n 1, 1) := by decide +kernel
theorem dX1_forward_108 : decode cX1_forward 108 = .ok (.iinc 2 1, 3) := by decide +kernel
theorem dX1_forward_111 : decode cX1_forward 111 = .ok (.goto (-102), 3) := by decide +kernel
theorem dX1_forward_114 : decode cX1_forward 114 = .ok (.iload_n 1, 1) := by decide +kernel
theorem dX1_forward_115 : decode cX1_forward 115 = .ok (.ireturn, 1) := by decide +kernel
theorem dX1_back_0 : decode cX1_back 0 = .ok (.aload_n 0, 1) := by decide +kernel
theorem dX1_back_1 : decode cX1_back 1 = .ok (.iload_n 1, 1) := by decide +kernel
theorem dX1_back_2 : decode cX1_back 2 = .ok (.invokestatic 58, 3) := by decide +kernel
theorem dX1_back_5 : decode cX1_back 5 = .ok (.ifCond .eq 7, 3) := by decide +kernel
theorem dX1_back_8 : decode cX1_back 8 = .ok (.iconst 0, 1) := by decide +kernel
theorem dX1_back_9 : decode cX1_back 9 = .ok (.goto 4, 3) := by decide +kernel
theorem dX1_back_12 : decode cX1_back 12 = .ok (.iconst 1, 1) := by decide +kernel
theorem dX1_back_13 : decode cX1_back 13 = .ok (.putfield 32, 3) := by decide +kernel
theorem dX1_back_16 : decode cX1_back 16 = .ok (.aload_n 0, 1) := by decide +kernel
theorem dX1_back_17 : decode cX1_back 17 = .ok (.getfield 32, 3) := by decide +kernel
theorem dX1_back_20 : decode cX1_back 20 = .ok (.ifCond .le 5, 3) := by decide +kernel
theorem dX1_back_23 : decode cX1_back 23 = .ok (.lconst 0, 1) := by decide +kernel
theorem dX1_back_24 : decode cX1_back 24 = .ok (.lreturn, 1) := by decide +kernel
theorem dX1_back_25 : decode cX1_back 25 = .ok (.lconst 0, 1) := by decide +kernel
theorem dX1_back_26 : decode cX1_back 26 = .ok (.lstore_n 2, 1) := by decide +kernel
theorem dX1_back_27 : decode cX1_back 27 = .ok (.iconst 0, 1) := by decide +kernel
theorem dX1_back_28 : decode cX1_back 28 = .ok (.istore 4, 2) := by decide +kernel
theorem dX1_back_30 : decode cX1_back 30 = .ok (.iload 4, 2) := by decide +kernel
theorem dX1_back_32 : decode cX1_back 32 = .ok (.iload_n 1, 1) := by decide +kernel
theorem dX1_back_33 : decode cX1_back 33 = .ok (.if_icmp .ge 78, 3) := by decide +kernel
theorem dX1_back_36 : decode cX1_back 36 = .ok (.iconst 0, 1) := by decide +kernel
theorem dX1_back_37 : decode cX1_back 37 = .ok (.istore 5, 2) := by decide +kernel
theorem dX1_back_39 : decode cX1_back 39 = .ok (.iload 5, 2) := by decide +kernel
theorem dX1_back_41 : decode cX1_back 41 = .ok (.iload_n 1, 1) := by decide +kernel
theorem dX1_back_42 : decode cX1_back 42 = .ok (.if_icmp .ge 63, 3) := by decide +kernel
theorem dX1_back_45 : decode cX1_back 45 = .ok (.aload_n 0, 1) := by decide +kernel
theorem dX1_back_46 : decode cX1_back 46 = .ok (.iload_n 1, 1) := by decide +kernel
theorem dX1_back_47 : decode cX1_back 47 = .ok (.iload 4, 2) := by decide +kernel
theorem dX1_back_49 : decode cX1_back 49 = .ok (.iload 5, 2) := by decide +kernel
theorem dX1_back_51 : decode cX1_back 51 = .ok (.invokevirtual 61, 3) := by decide +kernel
theorem dX1_back_54 : decode cX1_back 54 = .ok (.lstore 6, 2) := by decide +kernel
theorem dX1_back_56 : decode cX1_back 56 = .ok (.aload_n 0, 1) := by decide +kernel
theorem dX1_back_57 : decode cX1_back 57 = .ok (.getfield 28, 3) := by decide +kernel
theorem dX1_back_60 : decode cX1_back 60 = .ok (.bipush 8, 2) := by decide +kernel
theorem dX1_back_62 : decode cX1_back 62 = .ok (.iload 4, 2) := by decide +kernel
theorem dX1_back_64 : decode cX1_back 64 = .ok (.imul, 1) := by decide +kernel
theorem dX1_back_65 : decode cX1_back 65 = .ok (.iload 5, 2) := by decide +kernel
theorem dX1_back_67 : decode cX1_back 67 = .ok (.iadd, 1) := by decide +kernel
theorem dX1_back_68 : decode cX1_back 68 = .ok (.lload 6, 2) := by decide +kernel
theorem dX1_back_70 : decode cX1_back 70 = .ok (.lastore, 1) := by decide +kernel
theorem dX1_back_71 : decode cX1_back 71 = .ok (.lload 6, 2) := by decide +kernel
theorem dX1_back_73 : decode cX1_back 73 = .ok (.lload_n 2, 1) := by decide +kernel
theorem dX1_back_74 : decode cX1_back 74 = .ok (.lcmp, 1) := by decide +kernel
theorem dX1_back_75 : decode cX1_back 75 = .ok (.ifCond .le 8, 3) := by decide +kernel
theorem dX1_back_78 : decode cX1_back 78 = .ok (.lload 6, 2) := by decide +kernel
theorem dX1_back_80 : decode cX1_back 80 = .ok (.goto 18, 3) := by decide +kernel
theorem dX1_back_83 : decode cX1_back 83 = .ok (.lload 6, 2) := by decide +kernel
theorem dX1_back_85 : decode cX1_back 85 = .ok (.lneg, 1) := by decide +kernel
theorem dX1_back_86 : decode cX1_back 86 = .ok (.lload_n 2, 1) := by decide +kernel
theorem dX1_back_87 : decode cX1_back 87 = .ok (.lcmp, 1) := by decide +kernel
theorem dX1_back_88 : decode cX1_back 88 = .ok (.ifCond .le 9, 3) := by decide +kernel
theorem dX1_back_91 : decode cX1_back 91 = .ok (.lload 6, 2) := by decide +kernel
theorem dX1_back_93 : decode cX1_back 93 = .ok (.lneg, 1) := by decide +kernel
theorem dX1_back_94 : decode cX1_back 94 = .ok (.goto 4, 3) := by decide +kernel
theorem dX1_back_97 : decode cX1_back 97 = .ok (.lload_n 2, 1) := by decide +kernel
theorem dX1_back_98 : decode cX1_back 98 = .ok (.lstore_n 2, 1) := by decide +kernel
theorem dX1_back_99 : decode cX1_back 99 = .ok (.iinc 5 1, 3) := by decide +kernel
theorem dX1_back_102 : decode cX1_back 102 = .ok (.goto (-63), 3) := by decide +kernel
theorem dX1_back_105 : decode cX1_back 105 = .ok (.iinc 4 1, 3) := by decide +kernel
theorem dX1_back_108 : decode cX1_back 108 = .ok (.goto (-78), 3) := by decide +kernel
theorem dX1_back_111 : decode cX1_back 111 = .ok (.iconst 0, 1) := by decide +kernel
theorem dX1_back_112 : decode cX1_back 112 = .ok (.istore 4, 2) := by decide +kernel
theorem dX1_back_114 : decode cX1_back 114 = .ok (.iload 4, 2) := by decide +kernel
theorem dX1_back_116 : decode cX1_back 116 = .ok (.iload_n 1, 1) := by decide +kernel
theorem dX1_back_117 : decode cX1_back 117 = .ok (.if_icmp .ge 125, 3) := by decide +kernel
theorem dX1_back_120 : decode cX1_back 120 = .ok (.iconst 0, 1) := by decide +kernel
theorem dX1_back_121 : decode cX1_back 121 = .ok (.istore 5, 2) := by decide +kernel
theorem dX1_back_123 : decode cX1_back 123 = .ok (.iload 5, 2) := by decide +kernel
theorem dX1_back_125 : decode cX1_back 125 = .ok (.iload_n 1, 1) := by decide +kernel
theorem dX1_back_126 : decode cX1_back 126 = .ok (.if_icmp .ge 110, 3) := by decide +kernel
theorem dX1_back_129 : decode cX1_back 129 = .ok (.lconst 0, 1) := by decide +kernel
theorem dX1_back_130 : decode cX1_back 130 = .ok (.lstore 6, 2) := by decide +kernel
theorem dX1_back_132 : decode cX1_back 132 = .ok (.iconst 0, 1) := by decide +kernel
theorem dX1_back_133 : decode cX1_back 133 = .ok (.istore 8, 2) := by decide +kernel
theorem dX1_back_135 : decode cX1_back 135 = .ok (.iload 8, 2) := by decide +kernel
theorem dX1_back_137 : decode cX1_back 137 = .ok (.iload_n 1, 1) := by decide +kernel
theorem dX1_back_138 : decode cX1_back 138 = .ok (.if_icmp .ge 37, 3) := by decide +kernel
theorem dX1_back_141 : decode cX1_back 141 = .ok (.lload 6, 2) := by decide +kernel
theorem dX1_back_143 : decode cX1_back 143 = .ok (.iload_n 1, 1) := by decide +kernel
theorem dX1_back_144 : decode cX1_back 144 = .ok (.iload 8, 2) := by decide +kernel
theorem dX1_back_146 : decode cX1_back 146 = .ok (.iload 5, 2) := by decide +kernel
theorem dX1_back_148 : decode cX1_back 148 = .ok (.invokestatic 50, 3) := by decide +kernel
theorem dX1_back_151 : decode cX1_back 151 = .ok (.i2l, 1) := by decide +kernel
theorem dX1_back_152 : decode cX1_back 152 = .ok (.aload_n 0, 1) := by decide +kernel
theorem dX1_back_153 : decode cX1_back 153 = .ok (.getfield 28, 3) := by decide +kernel
theorem dX1_back_156 : decode cX1_back 156 = .ok (.bipush 8, 2) := by decide +kernel
theorem dX1_back_158 : decode cX1_back 158 = .ok (.iload 4, 2) := by decide +kernel
theorem dX1_back_160 : decode cX1_back 160 = .ok (.imul, 1) := by decide +kernel
theorem dX1_back_161 : decode cX1_back 161 = .ok (.iload 8, 2) := by decide +kernel
theorem dX1_back_163 : decode cX1_back 163 = .ok (.iadd, 1) := by decide +kernel
theorem dX1_back_164 : decode cX1_back 164 = .ok (.laload, 1) := by decide +kernel
theorem dX1_back_165 : decode cX1_back 165 = .ok (.lmul, 1) := by decide +kernel
theorem dX1_back_166 : decode cX1_back 166 = .ok (.ladd, 1) := by decide +kernel
theorem dX1_back_167 : decode cX1_back 167 = .ok (.lstore 6, 2) := by decide +kernel
theorem dX1_back_169 : decode cX1_back 169 = .ok (.iinc 8 1, 3) := by decide +kernel
theorem dX1_back_172 : decode cX1_back 172 = .ok (.goto (-37), 3) := by decide +kernel
theorem dX1_back_175 : decode cX1_back 175 = .ok (.lload 6, 2) := by decide +kernel
theorem dX1_back_177 : decode cX1_back 177 = .ok (.bipush 17, 2) := by decide +kernel
theorem dX1_back_179 : decode cX1_back 179 = .ok (.invokestatic 54, 3) := by decide +kernel
theorem dX1_back_182 : decode cX1_back 182 = .ok (.ldc2_w 65, 3) := by decide +kernel
theorem dX1_back_185 : decode cX1_back 185 = .ok (.ladd, 1) := by decide +kernel
theorem dX1_back_186 : decode cX1_back 186 = .ok (.lstore 8, 2) := by decide +kernel
theorem dX1_back_188 : decode cX1_back 188 = .ok (.aload_n 0, 1) := by decide +kernel
theorem dX1_back_189 : decode cX1_back 189 = .ok (.getfield 16, 3) := by decide +kernel
theorem dX1_back_192 : decode cX1_back 192 = .ok (.bipush 8, 2) := by decide +kernel
theorem dX1_back_194 : decode cX1_back 194 = .ok (.iload 4, 2) := by decide +kernel
theorem dX1_back_196 : decode cX1_back 196 = .ok (.imul, 1) := by decide +kernel
theorem dX1_back_197 : decode cX1_back 197 = .ok (.iload 5, 2) := by decide +kernel
theorem dX1_back_199 : decode cX1_back 199 = .ok (.iadd, 1) := by decide +kernel
theorem dX1_back_200 : decode cX1_back 200 = .ok (.lload 8, 2) := by decide +kernel
theorem dX1_back_202 : decode cX1_back 202 = .ok (.lconst 0, 1) := by decide +kernel
theorem dX1_back_203 : decode cX1_back 203 = .ok (.lcmp, 1) := by decide +kernel
theorem dX1_back_204 : decode cX1_back 204 = .ok (.ifCond .ge 7, 3) := by decide +kernel
theorem dX1_back_207 : decode cX1_back 207 = .ok (.iconst 0, 1) := by decide +kernel
theorem dX1_back_208 : decode cX1_back 208 = .ok (.goto 21, 3) := by decide +kernel
theorem dX1_back_211 : decode cX1_back 211 = .ok (.lload 8, 2) := by decide +kernel
theorem dX1_back_213 : decode cX1_back 213 = .ok (.ldc2_w 44, 3) := by decide +kernel
theorem dX1_back_216 : decode cX1_back 216 = .ok (.lcmp, 1) := by decide +kernel
theorem dX1_back_217 : decode cX1_back 217 = .ok (.ifCond .le 9, 3) := by decide +kernel
theorem dX1_back_220 : decode cX1_back 220 = .ok (.sipush 255, 3) := by decide +kernel
theorem dX1_back_223 : decode cX1_back 223 = .ok (.goto 6, 3) := by decide +kernel
theorem dX1_back_226 : decode cX1_back 226 = .ok (.lload 8, 2) := by decide +kernel
theorem dX1_back_228 : decode cX1_back 228 = .ok (.l2i, 1) := by decide +kernel
theorem dX1_back_229 : decode cX1_back 229 = .ok (.iastore, 1) := by decide +kernel
theorem dX1_back_230 : decode cX1_back 230 = .ok (.iinc 5 1, 3) := by decide +kernel
theorem dX1_back_233 : decode cX1_back 233 = .ok (.goto (-110), 3) := by decide +kernel
theorem dX1_back_236 : decode cX1_back 236 = .ok (.iinc 4 1, 3) := by decide +kernel
theorem dX1_back_239 : decode cX1_back 239 = .ok (.goto (-125), 3) := by decide +kernel
theorem dX1_back_242 : decode cX1_back 242 = .ok (.lload_n 2, 1) := by decide +kernel
theorem dX1_back_243 : decode cX1_back 243 = .ok (.lreturn, 1) := by decide +kernel
set_option maxHeartbeats 4000000 in
set_option maxRecDepth 100000 in
/-- the reference: forward -/
theorem n_forward (l : Launch) (D : va_G) (y : Nat → Nat) (ce : Nat → ClassId) (th : Int32) (r0 r1 r2 r3 dn ac : Nat → Int32) (sm : Nat → Int64) (hdn : dnOk dn ac) (hst : ∀ j, j < 64 → 1 ≤ (r1 j).toInt ∧ (r1 j).toInt ≤ 255) (sz : Nat) : Met l yX1_forward wsX1_forward ({ frames := 3, cells := 0, slots := 0, locals := 71 } : Room) (va_Pc [.ref (y 0)] (crw D (mw y ce th r0 r1 r2 r3 dn ac sm) (mty ce) sz)) (va_Qi (fun (r : Int32) (u9 : Int32 × (Nat → Int32)) => match u9 with | (t9, u) => t9 = 0 ∧ r = cntI u 64 ∧ ∀ j, j < 64 → u j = nearR (eN r2 (cCn j / 8) (cCn j % 8)) (r1 j)) (fun (u9 : Int32 × (Nat → Int32)) (t : State) => match u9 with | (t9, u) => crB D (mw y ce t9 u r1 r2 r3 dn ac sm) (mty ce) (va_A (mw y ce th r0 r1 r2 r3 dn ac sm) sz) t) (va_A (mw y ce th r0 r1 r2 r3 dn ac sm) sz)) 0 0 (va_A (mw y ce th r0 r1 r2 r3 dn ac sm) sz) := by
  refine Met.ofW (cc := cX1_forward) (maxL := 7) (ret := some .int) (by decide) rfl ?_
  intro p e s m args below meth c s₁ B hml hv
  obtain ⟨rfl, hsz, hP, hK, hD0, hTb⟩ := hv
  have hx := B.exec
  have hb := B.bytes
  have hr := B.returns
  have hts : ∀ w ∈ wA, w.before _ s = true := fun w h => atoms_spec (ws := wsX1_forward) B.pre w (List.mem_cons_of_mem _ h)
  have hown : s.vm.findClass RX1 = some m.cls := findClass_of_methodNamed B.named
  have hlocks := B.notSynchronized
  subst hsz
  have hD := hD0.self (sz := s.heap.size)
  generalize hAe : va_A (mw y ce th r0 r1 r2 r3 dn ac sm) s.heap.size = A at hD hTb ⊢
  have hA : ∀ q : Nat, s.heap.size ≤ q → A q := fun q h => by rw [← hAe]; exact Or.inr h
  have hS : va_S A s.heap s.heap [] := va_S.rf
  have hin1 := inA1
  have hf32 := (hts _ wm_302)
  have hf22 := (hts _ wm_307)
  have hf25 := (hts _ wm_308)
  have hf13 := (hts _ wm_304)
  have hf7 := (hts _ wm_303)
  have hl := lv_entry ([.ref (y 0)]) (n := 7) (Nat.le_of_ble_eq_true rfl)
  rw [lg_entry_eq]
  generalize (lg_sl ([.ref (y 0)]) ++ List.replicate (7 - (lg_sl ([.ref (y 0)])).length) Slot.unset).toArray = ls at hl ⊢
  have hl : lv_has ls 7 [(0, .ref (y 0))] := hl
  refine lv_aload_n hx hb dX1_forward_0 rfl (lv_at hl 0 rfl) ?_
  refine lv_iconst (v := (0 : Int32)) hx hb dX1_forward_1 (by decide +kernel) ?_
  refine va_put (D := D) (ci := 1) (v := .int (0 : Int32)) (ty := .int) (C := RX1) (T := TX1) (N := 8) hx hb hts hin1 tyX1 tyX1_ok nmX1 hown hK hP hD hS 0 rfl rfl 0 (by decide) hf32 (fun _ h9 => h9) rfl (by decide +kernel) rfl rfl (Nat.le_of_ble_eq_true rfl) dX1_forward_2 (fun H locs hP hD hS => ?_)
  have hP : va_P D vwCl (mw y ce (0 : Int32) r0 r1 r2 r3 dn ac sm) H := hP
  have hD : va_D A (mw y ce (0 : Int32) r0 r1 r2 r3 dn ac sm) := hD
  refine lv_iconst (v := (0 : Int32)) hx hb dX1_forward_5 (by decide +kernel) ?_
  refine lv_istore_n (lv' := [(1, .int (0 : Int32)), (0, .ref (y 0))]) hx hb dX1_forward_6 rfl hl (by decide) rfl (fun ls hl => ?_)
  refine lv_iconst (v := (0 : Int32)) hx hb dX1_forward_7 (by decide +kernel) ?_
  refine lv_istore_n (lv' := [(2, .int (0 : Int32)), (1, .int (0 : Int32)), (0, .ref (y 0))]) hx hb dX1_forward_8 rfl hl (by decide) rfl (fun ls hl => ?_)
  have L9 : ∀ (n : Nat) (k9 : Nat) (w9 : Nat → Int32) (H : Heap) (locs : List Loc) (ls : Array Slot), (64 - k9) < n → (k9 ≤ 64) → (∀ j, j < k9 → w9 j = nearR (eN r2 (cCn j / 8) (cCn j % 8)) (r1 j)) → va_P D vwCl (mw y ce (0 : Int32) w9 r1 r2 r3 dn ac sm) H → va_D A (mw y ce (0 : Int32) w9 r1 r2 r3 dn ac sm) → va_S A s.heap H locs → lv_has ls 7 [(0, .ref (y 0)), (1, .int (cntI w9 k9)), (2, .int (nI k9))] → W p l e ((headSpec wsX1_forward ({ frames := 3, cells := 0, slots := 0, locals := 71 } : Room)).room) s m (([.ref (y 0)] : List Value).toArray) below meth c H locs 0 0 (MQ below (va_Qi (fun (r : Int32) (u9 : Int32 × (Nat → Int32)) => match u9 with | (t9, u) => t9 = 0 ∧ r = cntI u 64 ∧ ∀ j, j < 64 → u j = nearR (eN r2 (cCn j / 8) (cCn j % 8)) (r1 j)) (fun (u9 : Int32 × (Nat → Int32)) (t : State) => match u9 with | (t9, u) => crB D (mw y ce t9 u r1 r2 r3 dn ac sm) (mty ce) A t) A) ([.ref (y 0)] : List Value).toArray s 0 0 A) (F0 m 9 ls []) := by
    intro n
    induction n with
    | zero =>
      intro k9 w9 H locs ls hn
      exact absurd hn (Nat.not_lt_zero _)
    | succ n ih9 =>
      intro k9 w9 H locs ls hn9 hk9 hw9 hP hD hS hl
      refine lv_iload_n hx hb dX1_forward_9 rfl (lv_at hl 2 rfl) ?_
      refine lv_bipush (v := (64 : Int32)) hx hb dX1_forward_10 (by decide +kernel) ?_
      refine cx_icmp_ge (i := ((k9 : Nat) : Int)) (j := 64) (tgt := 114) hx hb (nI_toInt (by omega)) (by decide +kernel) dX1_forward_12 (by decide) (fun c_1 => ?_) (fun c_1 => ?_)
      · refine lv_iload_n hx hb dX1_forward_114 rfl (lv_at hl 1 rfl) ?_
        exact W.iret (v := cntI w9 k9) hx hb hr (fun t ht hW => ⟨⟨cntI w9 k9, ((0 : Int32), w9), rfl, (by obtain rfl : k9 = 64 := (by omega); exact ⟨rfl, rfl, hw9⟩), by rw [ht]; exact hP, va_K.moved hW.alike hK, hD⟩, hS.F ht⟩) hS.2.2 dX1_forward_115
      · have hck := cCn_lt k9 (by omega)
        refine lv_aload_n hx hb dX1_forward_15 rfl (lv_at hl 0 rfl) ?_
        refine lv_aload_n hx hb dX1_forward_16 rfl (lv_at hl 0 rfl) ?_
        refine va_get (D := D) (ci := 1) (v := .ref (y 5)) (C := RX1) (T := TX1) (N := 8) hx hb hts hin1 hown hK hP 0 rfl rfl 5 (by decide) hf22 (fun _ h9 => h9) rfl dX1_forward_17 ?_
        refine lv_iload_n hx hb dX1_forward_20 rfl (lv_at hl 2 rfl) ?_
        refine cx_iald hx hb hK hP 5 4 rfl rfl k9 (by omega) (by decide) dX1_forward_21 ?_
        have e_2 : dn k9 = nI (cCn k9 / 8) := (hdn k9 (by omega)).1
        rw [e_2]
        refine lv_aload_n hx hb dX1_forward_22 rfl (lv_at hl 0 rfl) ?_
        refine va_get (D := D) (ci := 1) (v := .ref (y 6)) (C := RX1) (T := TX1) (N := 8) hx hb hts hin1 hown hK hP 0 rfl rfl 6 (by decide) hf25 (fun _ h9 => h9) rfl dX1_forward_23 ?_
        refine lv_iload_n hx hb dX1_forward_26 rfl (lv_at hl 2 rfl) ?_
        refine cx_iald hx hb hK hP 6 5 rfl rfl k9 (by omega) (by decide) dX1_forward_27 ?_
        have e_3 : ac k9 = nI (cCn k9 % 8) := (hdn k9 (by omega)).2
        rw [e_3]
        refine vp_callSl (W.runV (As := [.int (nI (cCn k9 / 8)), .int (nI (cCn k9 % 8))]) (rest := []) ⟨hx, hb, hml, hown, hts⟩ (n_exactOf l D y ce (0 : Int32) w9 r1 r2 r3 dn ac sm (cCn k9 / 8) (cCn k9 % 8) (by omega) (by omega)) (cwV 2 hts (gw_V wm_380 wm_382 wm_10 wm_13 wm_383) rfl rfl rfl (by decide +kernel) ⟨Nat.le_of_ble_eq_true rfl, Nat.le_of_ble_eq_true rfl⟩) ⟨cro_blind, va_recv hK hP (ci := 1) (q0 := 0) rfl rfl, fun U hU hW => ⟨rfl, cro_at hP hK hTb hS hU hW⟩⟩ rfl rfl hl.1 rfl (lv_room (Nat.le_of_ble_eq_true rfl)) dX1_forward_28 ⟨Nat.le_of_ble_eq_true rfl, Nat.le_of_ble_eq_true rfl⟩) (fun r_4 hr_4 => ?_)
        rw [hr_4]
        refine lv_lstore_n (lv' := [(3, .long (eN r2 (cCn k9 / 8) (cCn k9 % 8))), (0, .ref (y 0)), (1, .int (cntI w9 k9)), (2, .int (nI k9))]) hx hb dX1_forward_31 rfl hl (by decide) rfl (fun ls hl => ?_)
        have J44 : ∀ (tv : Int64), (tv = abR (eN r2 (cCn k9 / 8) (cCn k9 % 8))) → W p l e ((headSpec wsX1_forward ({ frames := 3, cells := 0, slots := 0, locals := 71 } : Room)).room) s m (([.ref (y 0)] : List Value).toArray) below meth c H locs 0 0 (MQ below (va_Qi (fun (r : Int32) (u9 : Int32 × (Nat → Int32)) => match u9 with | (t9, u) => t9 = 0 ∧ r = cntI u 64 ∧ ∀ j, j < 64 → u j = nearR (eN r2 (cCn j / 8) (cCn j % 8)) (r1 j)) (fun (u9 : Int32 × (Nat → Int32)) (t : State) => match u9 with | (t9, u) => crB D (mw y ce t9 u r1 r2 r3 dn ac sm) (mty ce) A t) A) ([.ref (y 0)] : List Value).toArray s 0 0 A) (F0 m 44 ls [.long tv]) := by
          intro tv htv
          refine lv_ldc2 (v := (2 : Int64)) hx hb hown (hts _ wm_384) dX1_forward_44 ?_
          refine lv_lmul hx hb dX1_forward_47 ?_
          refine lv_aload_n hx hb dX1_forward_48 rfl (lv_at hl 1 rfl) ?_
          refine va_get (D := D) (ci := 1) (v := .ref (y 2)) (C := RX1) (T := TX1) (N := 8) hx hb hts hin1 hown hK hP 0 rfl rfl 2 (by decide) hf13 (fun _ h9 => h9) rfl dX1_forward_49 ?_
          refine lv_iload_n hx hb dX1_forward_52 rfl (lv_at hl 3 rfl) ?_
          refine cx_iald hx hb hK hP 2 1 rfl rfl k9 (by omega) (by decide) dX1_forward_53 ?_
          refine lv_i2l hx hb dX1_forward_54 rfl ?_
          refine lv_ladd hx hb dX1_forward_55 ?_
          refine lv_ldc2 (v := (2 : Int64)) hx hb hown (hts _ wm_384) dX1_forward_56 ?_
          refine lv_aload_n hx hb dX1_forward_59 rfl (lv_at hl 1 rfl) ?_
          refine va_get (D := D) (ci := 1) (v := .ref (y 2)) (C := RX1) (T := TX1) (N := 8) hx hb hts hin1 hown hK hP 0 rfl rfl 2 (by decide) hf13 (fun _ h9 => h9) rfl dX1_forward_60 ?_
          refine lv_iload_n hx hb dX1_forward_63 rfl (lv_at hl 3 rfl) ?_
          refine cx_iald hx hb hK hP 2 1 rfl rfl k9 (by omega) (by decide) dX1_forward_64 ?_
          refine lv_i2l hx hb dX1_forward_65 rfl ?_
          refine lv_lmul hx hb dX1_forward_66 ?_
          refine lv_ldiv hx hb dX1_forward_67 (cx_2stL (hst k9 (by omega)).1 (hst k9 (by omega)).2) ?_
          refine lv_lstore (lv' := [(5, .long (((tv * (2 : Int64)) + ((r1 k9).toInt64)) / ((2 : Int64) * ((r1 k9).toInt64)))), (3, .long (eN r2 (cCn k9 / 8) (cCn k9 % 8))), (0, .ref (y 0)), (1, .int (cntI w9 k9)), (2, .int (nI k9))]) hx hb dX1_forward_68 hl (by decide) rfl (fun ls hl => ?_)
          have e_5 : ((tv * (2 : Int64)) + ((r1 k9).toInt64)) / ((2 : Int64) * ((r1 k9).toInt64)) = amtR (eN r2 (cCn k9 / 8) (cCn k9 % 8)) (r1 k9) := by rw [htv]; rfl
          rw [e_5] at hl
          refine lv_aload_n hx hb dX1_forward_70 rfl (lv_at hl 2 rfl) ?_
          refine va_get (D := D) (ci := 1) (v := .ref (y 1)) (C := RX1) (T := TX1) (N := 8) hx hb hts hin1 hown hK hP 0 rfl rfl 1 (by decide) hf7 (fun _ h9 => h9) rfl dX1_forward_71 ?_
          refine lv_iload_n hx hb dX1_forward_74 rfl (lv_at hl 4 rfl) ?_
          have J89 : ∀ (tu : Int64), (tu = if (eN r2 (cCn k9 / 8) (cCn k9 % 8)).toInt < 0 then -amtR (eN r2 (cCn k9 / 8) (cCn k9 % 8)) (r1 k9) else amtR (eN r2 (cCn k9 / 8) (cCn k9 % 8)) (r1 k9)) → W p l e ((headSpec wsX1_forward ({ frames := 3, cells := 0, slots := 0, locals := 71 } : Room)).room) s m (([.ref (y 0)] : List Value).toArray) below meth c H locs 0 0 (MQ below (va_Qi (fun (r : Int32) (u9 : Int32 × (Nat → Int32)) => match u9 with | (t9, u) => t9 = 0 ∧ r = cntI u 64 ∧ ∀ j, j < 64 → u j = nearR (eN r2 (cCn j / 8) (cCn j % 8)) (r1 j)) (fun (u9 : Int32 × (Nat → Int32)) (t : State) => match u9 with | (t9, u) => crB D (mw y ce t9 u r1 r2 r3 dn ac sm) (mty ce) A t) A) ([.ref (y 0)] : List Value).toArray s 0 0 A) (F0 m 89 ls [.long tu, .int (nI k9), .ref (y 1)]) := by
            intro tu htu
            refine lv_l2i hx hb dX1_forward_89 rfl ?_
            have e_6 : tu.toInt32 = nearR (eN r2 (cCn k9 / 8) (cCn k9 % 8)) (r1 k9) := by rw [htu]; rfl
            rw [e_6]
            refine cx_iast hx hb hK hP hD hS 1 0 rfl rfl k9 (by omega) (by decide) dX1_forward_90 (fun H locs hP hD hS => ?_)
            have hP : va_P D vwCl (mw y ce (0 : Int32) (upd w9 k9 (nearR (eN r2 (cCn k9 / 8) (cCn k9 % 8)) (r1 k9))) r1 r2 r3 dn ac sm) H := hP
            have hD : va_D A (mw y ce (0 : Int32) (upd w9 k9 (nearR (eN r2 (cCn k9 / 8) (cCn k9 % 8)) (r1 k9))) r1 r2 r3 dn ac sm) := hD
            refine lv_iload_n hx hb dX1_forward_91 rfl (lv_at hl 3 rfl) ?_
            refine lv_aload_n hx hb dX1_forward_92 rfl (lv_at hl 2 rfl) ?_
            refine va_get (D := D) (ci := 1) (v := .ref (y 1)) (C := RX1) (T := TX1) (N := 8) hx hb hts hin1 hown hK hP 0 rfl rfl 1 (by decide) hf7 (fun _ h9 => h9) rfl dX1_forward_93 ?_
            refine lv_iload_n hx hb dX1_forward_96 rfl (lv_at hl 4 rfl) ?_
            refine cx_iald hx hb hK hP 1 0 rfl rfl k9 (by omega) (by decide) dX1_forward_97 ?_
            refine cx_if_eq (i := ((upd w9 k9 (nearR (eN r2 (cCn k9 / 8) (cCn k9 % 8)) (r1 k9))) k9).toInt) (j := 0) (tgt := 105) hx hb rfl rfl dX1_forward_98 (by decide) (fun c_7 => ?_) (fun c_7 => ?_)
            · refine lv_iconst (v := (0 : Int32)) hx hb dX1_forward_105 (by decide +kernel) ?_
              refine lv_iadd hx hb dX1_forward_106 ?_
              refine lv_istore_n (lv' := [(1, .int ((cntI w9 k9) + (0 : Int32))), (5, .long (amtR (eN r2 (cCn k9 / 8) (cCn k9 % 8)) (r1 k9))), (3, .long (eN r2 (cCn k9 / 8) (cCn k9 % 8))), (0, .ref (y 0)), (2, .int (nI k9))]) hx hb dX1_forward_107 rfl hl (by decide) rfl (fun ls hl => ?_)
              refine lv_iinc (v := nI (k9 + 1)) (lv' := [(2, .int (nI (k9 + 1))), (1, .int ((cntI w9 k9) + (0 : Int32))), (5, .long (amtR (eN r2 (cCn k9 / 8) (cCn k9 % 8)) (r1 k9))), (3, .long (eN r2 (cCn k9 / 8) (cCn k9 % 8))), (0, .ref (y 0))]) hx hb dX1_forward_108 hl (k := 4) rfl (by show nI k9 + 1 = nI (k9 + 1); exact nI_add k9 1) (by decide) rfl (fun ls hl => ?_)
              refine lv_goto (tgt := 9) hx hb dX1_forward_111 (by decide) ?_
              have e_8 : (cntI w9 k9) + (0 : Int32) = cntI (upd w9 k9 (nearR (eN r2 (cCn k9 / 8) (cCn k9 % 8)) (r1 k9))) (k9 + 1) := cnt_upd_z c_7
              rw [e_8] at hl
              exact ih9 (k9 + 1) (upd w9 k9 (nearR (eN r2 (cCn k9 / 8) (cCn k9 % 8)) (r1 k9))) _ _ _ (by omega) (by omega) (upd_step (P := fun (j : Nat) (v : Int32) => v = nearR (eN r2 (cCn j / 8) (cCn j % 8)) (r1 j)) hw9 rfl) hP hD hS (lv_sub hl [4, 1, 0] rfl)
            · refine lv_iconst (v := (1 : Int32)) hx hb dX1_forward_101 (by decide +kernel) ?_
              refine lv_goto (tgt := 106) hx hb dX1_forward_102 (by decide) ?_
              refine lv_iadd hx hb dX1_forward_106 ?_
              refine lv_istore_n (lv' := [(1, .int ((cntI w9 k9) + (1 : Int32))), (5, .long (amtR (eN r2 (cCn k9 / 8) (cCn k9 % 8)) (r1 k9))), (3, .long (eN r2 (cCn k9 / 8) (cCn k9 % 8))), (0, .ref (y 0)), (2, .int (nI k9))]) hx hb dX1_forward_107 rfl hl (by decide) rfl (fun ls hl => ?_)
              refine lv_iinc (v := nI (k9 + 1)) (lv' := [(2, .int (nI (k9 + 1))), (1, .int ((cntI w9 k9) + (1 : Int32))), (5, .long (amtR (eN r2 (cCn k9 / 8) (cCn k9 % 8)) (r1 k9))), (3, .long (eN r2 (cCn k9 / 8) (cCn k9 % 8))), (0, .ref (y 0))]) hx hb dX1_forward_108 hl (k := 4) rfl (by show nI k9 + 1 = nI (k9 + 1); exact nI_add k9 1) (by decide) rfl (fun ls hl => ?_)
              refine lv_goto (tgt := 9) hx hb dX1_forward_111 (by decide) ?_
              have e_9 : (cntI w9 k9) + (1 : Int32) = cntI (upd w9 k9 (nearR (eN r2 (cCn k9 / 8) (cCn k9 % 8)) (r1 k9))) (k9 + 1) := cnt_upd_s c_7
              rw [e_9] at hl
              exact ih9 (k9 + 1) (upd w9 k9 (nearR (eN r2 (cCn k9 / 8) (cCn k9 % 8)) (r1 k9))) _ _ _ (by omega) (by omega) (upd_step (P := fun (j : Nat) (v : Int32) => v = nearR (eN r2 (cCn j / 8) (cCn j % 8)) (r1 j)) hw9 rfl) hP hD hS (lv_sub hl [4, 1, 0] rfl)
          refine lv_lload_n hx hb dX1_forward_75 rfl (lv_at hl 1 rfl) ?_
          refine lv_lconst (v := (0 : Int64)) hx hb dX1_forward_76 (by decide +kernel) ?_
          refine cx_lcmp_ge (i := (eN r2 (cCn k9 / 8) (cCn k9 % 8)).toInt) (j := 0) (tgt := 87) hx hb rfl (by decide +kernel) dX1_forward_77 dX1_forward_78 (by decide) (fun c_10 => ?_) (fun c_10 => ?_)
          · refine lv_lload hx hb dX1_forward_87 (lv_at hl 0 rfl) ?_
            exact J89 (amtR (eN r2 (cCn k9 / 8) (cCn k9 % 8)) (r1 k9)) (by rw [if_neg (by omega)])
          · refine lv_lload hx hb dX1_forward_81 (lv_at hl 0 rfl) ?_
            refine lv_lneg hx hb dX1_forward_83 ?_
            refine lv_goto (tgt := 89) hx hb dX1_forward_84 (by decide) ?_
            exact J89 (-(amtR (eN r2 (cCn k9 / 8) (cCn k9 % 8)) (r1 k9))) (by rw [if_pos (by omega)])
        refine lv_lload_n hx hb dX1_forward_32 rfl (lv_at hl 0 rfl) ?_
        refine lv_lconst (v := (0 : Int64)) hx hb dX1_forward_33 (by decide +kernel) ?_
        refine cx_lcmp_ge (i := (eN r2 (cCn k9 / 8) (cCn k9 % 8)).toInt) (j := 0) (tgt := 43) hx hb rfl (by decide +kernel) dX1_forward_34 dX1_forward_35 (by decide) (fun c_11 => ?_) (fun c_11 => ?_)
        · refine lv_lload_n hx hb dX1_forward_43 rfl (lv_at hl 0 rfl) ?_
          exact J44 (eN r2 (cCn k9 / 8) (cCn k9 % 8)) (by unfold abR; rw [if_neg (by omega)])
        · refine lv_lload_n hx hb dX1_forward_38 rfl (lv_at hl 0 rfl) ?_
          refine lv_lneg hx hb dX1_forward_39 ?_
          refine lv_goto (tgt := 44) hx hb dX1_forward_40 (by decide) ?_
          exact J44 (-(eN r2 (cCn k9 / 8) (cCn k9 % 8))) (by unfold abR; rw [if_pos (by omega)])
  exact L9 _ 0 r0 _ _ _ (Nat.lt_succ_self _) (Nat.zero_le _) (fun j hj => absurd hj (Nat.not_lt_zero j)) hP hD hS (lv_sub hl [2, 1, 0] rfl)
set_option maxHeartbeats 4000000 in
set_option maxRecDepth 100000 in
/-- the reference: back -/
theorem n_back (l : Launch) (D : va_G) (y : Nat → Nat) (ce : Nat → ClassId) (th : Int32) (r0 r1 r2 r3 dn ac : Nat → Int32) (sm : Nat → Int64) (hdn : dnOk dn ac) (q : Int32) (sz : Nat) : Met l yX1_back wsX1_back ({ frames := 3, cells := 0, slots := 0, locals := 70 } : Room) (va_Pc [.ref (y 0), .int q] (crw D (mw y ce th r0 r1 r2 r3 dn ac sm) (mty ce) sz)) (va_Ql (fun (r : Int64) (u9 : Int32 × (Nat → Int32) × (Nat → Int64)) => match u9 with | (t9, u, g8) => (t9 = 0 ∧ szOk q ∧ r = bG (cN (8 / q.toInt.toNat) q.toInt.toNat r0 r1) q.toInt.toNat q.toInt.toNat ∧ ∀ a b, a < 8 → b < 8 → u (a * 8 + b) = if a < q.toInt.toNat ∧ b < q.toInt.toNat then bS (8 / q.toInt.toNat) q.toInt.toNat (cN (8 / q.toInt.toNat) q.toInt.toNat r0 r1) a b else r2 (a * 8 + b)) ∨ (t9 = 1 ∧ ¬ szOk q ∧ u = r2)) (fun (u9 : Int32 × (Nat → Int32) × (Nat → Int64)) (t : State) => match u9 with | (t9, u, g8) => crB D (mw y ce t9 r0 r1 u r3 dn ac g8) (mty ce) (va_A (mw y ce th r0 r1 r2 r3 dn ac sm) sz) t) (va_A (mw y ce th r0 r1 r2 r3 dn ac sm) sz)) 0 0 (va_A (mw y ce th r0 r1 r2 r3 dn ac sm) sz) := by
  refine Met.ofW (cc := cX1_back) (maxL := 10) (ret := some .long) (by decide) rfl ?_
  intro p e s m args below meth c s₁ B hml hv
  obtain ⟨rfl, hsz, hP, hK, hD0, hTb⟩ := hv
  have hx := B.exec
  have hb := B.bytes
  have hr := B.returns
  have hts : ∀ w ∈ wA, w.before _ s = true := fun w h => atoms_spec (ws := wsX1_back) B.pre w (List.mem_cons_of_mem _ h)
  have hown : s.vm.findClass RX1 = some m.cls := findClass_of_methodNamed B.named
  have hlocks := B.notSynchronized
  subst hsz
  have hD := hD0.self (sz := s.heap.size)
  generalize hAe : va_A (mw y ce th r0 r1 r2 r3 dn ac sm) s.heap.size = A at hD hTb ⊢
  have hA : ∀ q : Nat, s.heap.size ≤ q → A q := fun q h => by rw [← hAe]; exact Or.inr h
  have hS : va_S A s.heap s.heap [] := va_S.rf
  have hin1 := inA1
  have hf32 := (hts _ wm_302)
  have hf28 := (hts _ wm_309)
  have hf16 := (hts _ wm_305)
  have hl := lv_entry ([.ref (y 0), .int q]) (n := 10) (Nat.le_of_ble_eq_true rfl)
  rw [lg_entry_eq]
  generalize (lg_sl ([.ref (y 0), .int q]) ++ List.replicate (10 - (lg_sl ([.ref (y 0), .int q])).length) Slot.unset).toArray = ls at hl ⊢
  have hl : lv_has ls 10 [(0, .ref (y 0)), (1, .int q)] := hl
  refine lv_aload_n hx hb dX1_back_0 rfl (lv_at hl 0 rfl) ?_
  refine lv_iload_n hx hb dX1_back_1 rfl (lv_at hl 1 rfl) ?_
  refine vp_callSi (W.runS (As := [.int q]) (rest := [.ref (y 0)]) ⟨hx, hb, hml, hown, hts⟩ (n_isSize l D q) (va_cwS 1 hts (gw_S wm_355 wm_356 wm_13 wm_357) rfl rfl rfl (by decide +kernel) ⟨Nat.le_of_ble_eq_true rfl, Nat.le_of_ble_eq_true rfl⟩) ⟨cro_blind, fun U hU hW => ⟨rfl, cro_at (hP.sub (ws' := []) [] rfl) (hK.sub (tys' := []) [] rfl) hTb hS hU hW⟩⟩ rfl rfl hl.1 rfl (lv_room (Nat.le_of_ble_eq_true rfl)) dX1_back_2 ⟨Nat.le_of_ble_eq_true rfl, Nat.le_of_ble_eq_true rfl⟩) (fun r_1 hr_1 => ?_)
  rcases hr_1 with ⟨rfl, hs9⟩ | ⟨rfl, hs9⟩
  · obtain ⟨nn, sp, heq9, hsz9⟩ := szOk_cases hs9
    obtain ⟨hbn, hbs, hbp, hq1, hq2, hq3⟩ := isSz_facts ⟨heq9, hsz9⟩
    have e_2 : q = nI nn := heq9
    rw [e_2] at hl
    refine cx_if_eq (i := 1) (j := 0) (tgt := 12) hx hb (by decide +kernel) rfl dX1_back_5 (by decide) (fun c_3 => absurd c_3 (by decide)) (fun c_3 => ?_)
    refine lv_iconst (v := (0 : Int32)) hx hb dX1_back_8 (by decide +kernel) ?_
    refine lv_goto (tgt := 13) hx hb dX1_back_9 (by decide) ?_
    refine va_put (D := D) (ci := 1) (v := .int (0 : Int32)) (ty := .int) (C := RX1) (T := TX1) (N := 8) hx hb hts hin1 tyX1 tyX1_ok nmX1 hown hK hP hD hS 0 rfl rfl 0 (by decide) hf32 (fun _ h9 => h9) rfl (by decide +kernel) rfl rfl (Nat.le_of_ble_eq_true rfl) dX1_back_13 (fun H locs hP hD hS => ?_)
    have hP : va_P D vwCl (mw y ce (0 : Int32) r0 r1 r2 r3 dn ac sm) H := hP
    have hD : va_D A (mw y ce (0 : Int32) r0 r1 r2 r3 dn ac sm) := hD
    refine lv_aload_n hx hb dX1_back_16 rfl (lv_at hl 0 rfl) ?_
    refine va_get (D := D) (ci := 1) (v := .int (0 : Int32)) (C := RX1) (T := TX1) (N := 8) hx hb hts hin1 hown hK hP 0 rfl rfl 0 (by decide) hf32 (fun _ h9 => h9) rfl dX1_back_17 ?_
    refine cx_if_le (i := 0) (j := 0) (tgt := 25) hx hb (by decide +kernel) rfl dX1_back_20 (by decide) (fun c_4 => ?_) (fun c_4 => absurd c_4 (by decide))
    refine lv_lconst (v := (0 : Int64)) hx hb dX1_back_25 (by decide +kernel) ?_
    refine lv_lstore_n (lv' := [(2, .long (0 : Int64)), (0, .ref (y 0)), (1, .int (nI nn))]) hx hb dX1_back_26 rfl hl (by decide) rfl (fun ls hl => ?_)
    refine lv_iconst (v := (0 : Int32)) hx hb dX1_back_27 (by decide +kernel) ?_
    refine lv_istore (lv' := [(4, .int (0 : Int32)), (2, .long (0 : Int64)), (0, .ref (y 0)), (1, .int (nI nn))]) hx hb dX1_back_28 hl (by decide) rfl (fun ls hl => ?_)
    have L30 : ∀ (n : Nat) (y9 : Nat) (w9 : Nat → Int64) (H : Heap) (locs : List Loc) (ls : Array Slot), (nn - y9) < n → (y9 ≤ nn) → (∀ a b, a < y9 → b < nn → w9 (a * 8 + b) = cN sp nn r0 r1 a b) → va_P D vwCl (mw y ce (0 : Int32) r0 r1 r2 r3 dn ac w9) H → va_D A (mw y ce (0 : Int32) r0 r1 r2 r3 dn ac w9) → va_S A s.heap H locs → lv_has ls 10 [(0, .ref (y 0)), (1, .int (nI nn)), (2, .long (bG (cN sp nn r0 r1) nn y9)), (4, .int (nI y9))] → W p l e ((headSpec wsX1_back ({ frames := 3, cells := 0, slots := 0, locals := 70 } : Room)).room) s m (([.ref (y 0), .int q] : List Value).toArray) below meth c H locs 0 0 (MQ below (va_Ql (fun (r : Int64) (u9 : Int32 × (Nat → Int32) × (Nat → Int64)) => match u9 with | (t9, u, g8) => (t9 = 0 ∧ szOk q ∧ r = bG (cN (8 / q.toInt.toNat) q.toInt.toNat r0 r1) q.toInt.toNat q.toInt.toNat ∧ ∀ a b, a < 8 → b < 8 → u (a * 8 + b) = if a < q.toInt.toNat ∧ b < q.toInt.toNat then bS (8 / q.toInt.toNat) q.toInt.toNat (cN (8 / q.toInt.toNat) q.toInt.toNat r0 r1) a b else r2 (a * 8 + b)) ∨ (t9 = 1 ∧ ¬ szOk q ∧ u = r2)) (fun (u9 : Int32 × (Nat → Int32) × (Nat → Int64)) (t : State) => match u9 with | (t9, u, g8) => crB D (mw y ce t9 r0 r1 u r3 dn ac g8) (mty ce) A t) A) ([.ref (y 0), .int q] : List Value).toArray s 0 0 A) (F0 m 30 ls []) := by
      intro n
      induction n with
      | zero =>
        intro y9 w9 H locs ls hn
        exact absurd hn (Nat.not_lt_zero _)
      | succ n ih30 =>
        intro y9 w9 H locs ls hn30 hy9 hw9 hP hD hS hl
        refine lv_iload hx hb dX1_back_30 (lv_at hl 3 rfl) ?_
        refine lv_iload_n hx hb dX1_back_32 rfl (lv_at hl 1 rfl) ?_
        refine cx_icmp_ge (i := ((y9 : Nat) : Int)) (j := ((nn : Nat) : Int)) (tgt := 111) hx hb (nI_toInt (by omega)) (nI_toInt (by omega)) dX1_back_33 (by decide) (fun c_5 => ?_) (fun c_5 => ?_)
        · have hyn : y9 = nn := by omega
          have hsm : ∀ a b, a < nn → b < nn → w9 (a * 8 + b) = cN sp nn r0 r1 a b := fun a b ha9 hb9 => hw9 a b (by omega) hb9
          have e_6 : bG (cN sp nn r0 r1) nn y9 = bG (cN sp nn r0 r1) nn nn := by rw [hyn]
          rw [e_6] at hl
          refine lv_iconst (v := (0 : Int32)) hx hb dX1_back_111 (by decide +kernel) ?_
          refine lv_istore (lv' := [(4, .int (0 : Int32)), (0, .ref (y 0)), (1, .int (nI nn)), (2, .long (bG (cN sp nn r0 r1) nn nn))]) hx hb dX1_back_112 hl (by decide) rfl (fun ls hl => ?_)
          have L114 : ∀ (n : Nat) (y9 : Nat) (v8 : Nat → Int32) (H : Heap) (locs : List Loc) (ls : Array Slot), (nn - y9) < n → (y9 ≤ nn) → (∀ a b, a < 8 → b < 8 → v8 (a * 8 + b) = if a < y9 ∧ b < nn then bS sp nn (cN sp nn r0 r1) a b else r2 (a * 8 + b)) → va_P D vwCl (mw y ce (0 : Int32) r0 r1 v8 r3 dn ac w9) H → va_D A (mw y ce (0 : Int32) r0 r1 v8 r3 dn ac w9) → va_S A s.heap H locs → lv_has ls 10 [(0, .ref (y 0)), (1, .int (nI nn)), (2, .long (bG (cN sp nn r0 r1) nn nn)), (4, .int (nI y9))] → W p l e ((headSpec wsX1_back ({ frames := 3, cells := 0, slots := 0, locals := 70 } : Room)).room) s m (([.ref (y 0), .int q] : List Value).toArray) below meth c H locs 0 0 (MQ below (va_Ql (fun (r : Int64) (u9 : Int32 × (Nat → Int32) × (Nat → Int64)) => match u9 with | (t9, u, g8) => (t9 = 0 ∧ szOk q ∧ r = bG (cN (8 / q.toInt.toNat) q.toInt.toNat r0 r1) q.toInt.toNat q.toInt.toNat ∧ ∀ a b, a < 8 → b < 8 → u (a * 8 + b) = if a < q.toInt.toNat ∧ b < q.toInt.toNat then bS (8 / q.toInt.toNat) q.toInt.toNat (cN (8 / q.toInt.toNat) q.toInt.toNat r0 r1) a b else r2 (a * 8 + b)) ∨ (t9 = 1 ∧ ¬ szOk q ∧ u = r2)) (fun (u9 : Int32 × (Nat → Int32) × (Nat → Int64)) (t : State) => match u9 with | (t9, u, g8) => crB D (mw y ce t9 r0 r1 u r3 dn ac g8) (mty ce) A t) A) ([.ref (y 0), .int q] : List Value).toArray s 0 0 A) (F0 m 114 ls []) := by
            intro n
            induction n with
            | zero =>
              intro y9 v8 H locs ls hn
              exact absurd hn (Nat.not_lt_zero _)
            | succ n ih114 =>
              intro y9 v8 H locs ls hn114 hy8 hw8 hP hD hS hl
              refine lv_iload hx hb dX1_back_114 (lv_at hl 3 rfl) ?_
              refine lv_iload_n hx hb dX1_back_116 rfl (lv_at hl 1 rfl) ?_
              refine cx_icmp_ge (i := ((y9 : Nat) : Int)) (j := ((nn : Nat) : Int)) (tgt := 242) hx hb (nI_toInt (by omega)) (nI_toInt (by omega)) dX1_back_117 (by decide) (fun c_7 => ?_) (fun c_7 => ?_)
              · refine lv_lload_n hx hb dX1_back_242 rfl (lv_at hl 2 rfl) ?_
                exact W.lret (v := bG (cN sp nn r0 r1) nn nn) hx hb hr (fun t ht hW => ⟨⟨bG (cN sp nn r0 r1) nn nn, ((0 : Int32), v8, w9), rfl, (by
                                           obtain rfl : nn = y9 := by omega
                                           refine Or.inl ⟨rfl, hq3, ?_, ?_⟩
                                           · rw [hq1, hq2]
                                           · rw [hq1, hq2]; exact hw8), by rw [ht]; exact hP, va_K.moved hW.alike hK, hD⟩, hS.F ht⟩) hS.2.2 dX1_back_243
              · refine lv_iconst (v := (0 : Int32)) hx hb dX1_back_120 (by decide +kernel) ?_
                refine lv_istore (lv' := [(5, .int (0 : Int32)), (0, .ref (y 0)), (1, .int (nI nn)), (2, .long (bG (cN sp nn r0 r1) nn nn)), (4, .int (nI y9))]) hx hb dX1_back_121 hl (by decide) rfl (fun ls hl => ?_)
                have L123 : ∀ (n : Nat) (x9 : Nat) (v8 : Nat → Int32) (H : Heap) (locs : List Loc) (ls : Array Slot), (nn - x9) < n → (x9 ≤ nn) → (∀ a b, a < 8 → b < 8 → v8 (a * 8 + b) = if (a < y9 ∧ b < nn) ∨ (a = y9 ∧ b < x9) then bS sp nn (cN sp nn r0 r1) a b else r2 (a * 8 + b)) → va_P D vwCl (mw y ce (0 : Int32) r0 r1 v8 r3 dn ac w9) H → va_D A (mw y ce (0 : Int32) r0 r1 v8 r3 dn ac w9) → va_S A s.heap H locs → lv_has ls 10 [(0, .ref (y 0)), (1, .int (nI nn)), (2, .long (bG (cN sp nn r0 r1) nn nn)), (4, .int (nI y9)), (5, .int (nI x9))] → W p l e ((headSpec wsX1_back ({ frames := 3, cells := 0, slots := 0, locals := 70 } : Room)).room) s m (([.ref (y 0), .int q] : List Value).toArray) below meth c H locs 0 0 (MQ below (va_Ql (fun (r : Int64) (u9 : Int32 × (Nat → Int32) × (Nat → Int64)) => match u9 with | (t9, u, g8) => (t9 = 0 ∧ szOk q ∧ r = bG (cN (8 / q.toInt.toNat) q.toInt.toNat r0 r1) q.toInt.toNat q.toInt.toNat ∧ ∀ a b, a < 8 → b < 8 → u (a * 8 + b) = if a < q.toInt.toNat ∧ b < q.toInt.toNat then bS (8 / q.toInt.toNat) q.toInt.toNat (cN (8 / q.toInt.toNat) q.toInt.toNat r0 r1) a b else r2 (a * 8 + b)) ∨ (t9 = 1 ∧ ¬ szOk q ∧ u = r2)) (fun (u9 : Int32 × (Nat → Int32) × (Nat → Int64)) (t : State) => match u9 with | (t9, u, g8) => crB D (mw y ce t9 r0 r1 u r3 dn ac g8) (mty ce) A t) A) ([.ref (y 0), .int q] : List Value).toArray s 0 0 A) (F0 m 123 ls []) := by
                  intro n
                  induction n with
                  | zero =>
                    intro x9 v8 H locs ls hn
                    exact absurd hn (Nat.not_lt_zero _)
                  | succ n ih123 =>
                    intro x9 v8 H locs ls hn123 hx9 hv8 hP hD hS hl
                    refine lv_iload hx hb dX1_back_123 (lv_at hl 4 rfl) ?_
                    refine lv_iload_n hx hb dX1_back_125 rfl (lv_at hl 1 rfl) ?_
                    refine cx_icmp_ge (i := ((x9 : Nat) : Int)) (j := ((nn : Nat) : Int)) (tgt := 236) hx hb (nI_toInt (by omega)) (nI_toInt (by omega)) dX1_back_126 (by decide) (fun c_8 => ?_) (fun c_8 => ?_)
                    · refine lv_iinc (v := nI (y9 + 1)) (lv' := [(4, .int (nI (y9 + 1))), (0, .ref (y 0)), (1, .int (nI nn)), (2, .long (bG (cN sp nn r0 r1) nn nn)), (5, .int (nI x9))]) hx hb dX1_back_236 hl (k := 3) rfl (by show nI y9 + 1 = nI (y9 + 1); exact nI_add y9 1) (by decide) rfl (fun ls hl => ?_)
                      refine lv_goto (tgt := 114) hx hb dX1_back_239 (by decide) ?_
                      exact ih114 (y9 + 1) v8 _ _ _ (by omega) (by omega) (by
                          intro a b ha9 hb9
                          rw [hv8 a b ha9 hb9]
                          by_cases hq : (a < y9 ∧ b < nn) ∨ (a = y9 ∧ b < x9)
                          · rw [if_pos hq, if_pos (by omega)]
                          · rw [if_neg hq, if_neg (by omega)]) hP hD hS (lv_sub hl [1, 2, 3, 0] rfl)
                    · refine lv_lconst (v := (0 : Int64)) hx hb dX1_back_129 (by decide +kernel) ?_
                      refine lv_lstore (lv' := [(6, .long (0 : Int64)), (0, .ref (y 0)), (1, .int (nI nn)), (2, .long (bG (cN sp nn r0 r1) nn nn)), (4, .int (nI y9)), (5, .int (nI x9))]) hx hb dX1_back_130 hl (by decide) rfl (fun ls hl => ?_)
                      refine lv_iconst (v := (0 : Int32)) hx hb dX1_back_132 (by decide +kernel) ?_
                      refine lv_istore (lv' := [(8, .int (0 : Int32)), (6, .long (0 : Int64)), (0, .ref (y 0)), (1, .int (nI nn)), (2, .long (bG (cN sp nn r0 r1) nn nn)), (4, .int (nI y9)), (5, .int (nI x9))]) hx hb dX1_back_133 hl (by decide) rfl (fun ls hl => ?_)
                      have L135 : ∀ (n : Nat) (u9 : Nat) (H : Heap) (locs : List Loc) (ls : Array Slot), (nn - u9) < n → (u9 ≤ nn) → va_P D vwCl (mw y ce (0 : Int32) r0 r1 v8 r3 dn ac w9) H → va_D A (mw y ce (0 : Int32) r0 r1 v8 r3 dn ac w9) → va_S A s.heap H locs → lv_has ls 10 [(0, .ref (y 0)), (1, .int (nI nn)), (2, .long (bG (cN sp nn r0 r1) nn nn)), (4, .int (nI y9)), (5, .int (nI x9)), (6, .long (sumL (fun u9 => (wvN sp u9 x9).toInt64 * cN sp nn r0 r1 y9 u9) u9)), (8, .int (nI u9))] → W p l e ((headSpec wsX1_back ({ frames := 3, cells := 0, slots := 0, locals := 70 } : Room)).room) s m (([.ref (y 0), .int q] : List Value).toArray) below meth c H locs 0 0 (MQ below (va_Ql (fun (r : Int64) (u9 : Int32 × (Nat → Int32) × (Nat → Int64)) => match u9 with | (t9, u, g8) => (t9 = 0 ∧ szOk q ∧ r = bG (cN (8 / q.toInt.toNat) q.toInt.toNat r0 r1) q.toInt.toNat q.toInt.toNat ∧ ∀ a b, a < 8 → b < 8 → u (a * 8 + b) = if a < q.toInt.toNat ∧ b < q.toInt.toNat then bS (8 / q.toInt.toNat) q.toInt.toNat (cN (8 / q.toInt.toNat) q.toInt.toNat r0 r1) a b else r2 (a * 8 + b)) ∨ (t9 = 1 ∧ ¬ szOk q ∧ u = r2)) (fun (u9 : Int32 × (Nat → Int32) × (Nat → Int64)) (t : State) => match u9 with | (t9, u, g8) => crB D (mw y ce t9 r0 r1 u r3 dn ac g8) (mty ce) A t) A) ([.ref (y 0), .int q] : List Value).toArray s 0 0 A) (F0 m 135 ls []) := by
                        intro n
                        induction n with
                        | zero =>
                          intro u9 H locs ls hn
                          exact absurd hn (Nat.not_lt_zero _)
                        | succ n ih135 =>
                          intro u9 H locs ls hn135 hu8 hP hD hS hl
                          refine lv_iload hx hb dX1_back_135 (lv_at hl 6 rfl) ?_
                          refine lv_iload_n hx hb dX1_back_137 rfl (lv_at hl 1 rfl) ?_
                          refine cx_icmp_ge (i := ((u9 : Nat) : Int)) (j := ((nn : Nat) : Int)) (tgt := 175) hx hb (nI_toInt (by omega)) (nI_toInt (by omega)) dX1_back_138 (by decide) (fun c_9 => ?_) (fun c_9 => ?_)
                          · have hun : u9 = nn := by omega
                            have e_10 : sumL (fun u9 => (wvN sp u9 x9).toInt64 * cN sp nn r0 r1 y9 u9) u9 = sumL (fun u9 => (wvN sp u9 x9).toInt64 * cN sp nn r0 r1 y9 u9) nn := by rw [hun]
                            rw [e_10] at hl
                            refine lv_lload hx hb dX1_back_175 (lv_at hl 5 rfl) ?_
                            refine lv_bipush (v := (17 : Int32)) hx hb dX1_back_177 (by decide +kernel) ?_
                            refine vp_callSl (W.runS (As := [.long (sumL (fun u9 => (wvN sp u9 x9).toInt64 * cN sp nn r0 r1 y9 u9) nn), .int (17 : Int32)]) (rest := []) ⟨hx, hb, hml, hown, hts⟩ (n_round l D (sumL (fun u9 => (wvN sp u9 x9).toInt64 * cN sp nn r0 r1 y9 u9) nn) (17 : Int32)) (va_cwS 2 hts (gw_S wm_372 wm_373 wm_13 wm_374) rfl rfl rfl (by decide +kernel) ⟨Nat.le_of_ble_eq_true rfl, Nat.le_of_ble_eq_true rfl⟩) ⟨cro_blind, fun U hU hW => ⟨rfl, cro_at (hP.sub (ws' := []) [] rfl) (hK.sub (tys' := []) [] rfl) hTb hS hU hW⟩⟩ rfl rfl hl.1 rfl (lv_room (Nat.le_of_ble_eq_true rfl)) dX1_back_179 ⟨Nat.le_of_ble_eq_true rfl, Nat.le_of_ble_eq_true rfl⟩) (fun r_11 hr_11 => ?_)
                            rw [hr_11]
                            refine lv_ldc2 (v := (128 : Int64)) hx hb hown (hts _ wm_375) dX1_back_182 ?_
                            refine lv_ladd hx hb dX1_back_185 ?_
                            refine lv_lstore (lv' := [(8, .long ((rdL (sumL (fun u9 => (wvN sp u9 x9).toInt64 * cN sp nn r0 r1 y9 u9) nn) (17 : Int32)) + (128 : Int64))), (0, .ref (y 0)), (1, .int (nI nn)), (2, .long (bG (cN sp nn r0 r1) nn nn)), (4, .int (nI y9)), (5, .int (nI x9)), (6, .long (sumL (fun u9 => (wvN sp u9 x9).toInt64 * cN sp nn r0 r1 y9 u9) nn))]) hx hb dX1_back_186 hl (by decide) rfl (fun ls hl => ?_)
                            refine lv_aload_n hx hb dX1_back_188 rfl (lv_at hl 1 rfl) ?_
                            refine va_get (D := D) (ci := 1) (v := .ref (y 3)) (C := RX1) (T := TX1) (N := 8) hx hb hts hin1 hown hK hP 0 rfl rfl 3 (by decide) hf16 (fun _ h9 => h9) rfl dX1_back_189 ?_
                            refine lv_bipush (v := (8 : Int32)) hx hb dX1_back_192 (by decide +kernel) ?_
                            refine lv_iload hx hb dX1_back_194 (lv_at hl 4 rfl) ?_
                            refine cx_imul hx hb 8 y9 dX1_back_196 ?_
                            refine lv_iload hx hb dX1_back_197 (lv_at hl 5 rfl) ?_
                            refine cx_iadd hx hb (8 * y9) x9 dX1_back_199 ?_
                            rw [show 8 * y9 + x9 = y9 * 8 + x9 from by omega]
                            have J229 : ∀ (tc : Int32), (tc = clampV ((rdL (sumL (fun u9 => (wvN sp u9 x9).toInt64 * cN sp nn r0 r1 y9 u9) nn) (17 : Int32)) + (128 : Int64)) 0 255) → W p l e ((headSpec wsX1_back ({ frames := 3, cells := 0, slots := 0, locals := 70 } : Room)).room) s m (([.ref (y 0), .int q] : List Value).toArray) below meth c H locs 0 0 (MQ below (va_Ql (fun (r : Int64) (u9 : Int32 × (Nat → Int32) × (Nat → Int64)) => match u9 with | (t9, u, g8) => (t9 = 0 ∧ szOk q ∧ r = bG (cN (8 / q.toInt.toNat) q.toInt.toNat r0 r1) q.toInt.toNat q.toInt.toNat ∧ ∀ a b, a < 8 → b < 8 → u (a * 8 + b) = if a < q.toInt.toNat ∧ b < q.toInt.toNat then bS (8 / q.toInt.toNat) q.toInt.toNat (cN (8 / q.toInt.toNat) q.toInt.toNat r0 r1) a b else r2 (a * 8 + b)) ∨ (t9 = 1 ∧ ¬ szOk q ∧ u = r2)) (fun (u9 : Int32 × (Nat → Int32) × (Nat → Int64)) (t : State) => match u9 with | (t9, u, g8) => crB D (mw y ce t9 r0 r1 u r3 dn ac g8) (mty ce) A t) A) ([.ref (y 0), .int q] : List Value).toArray s 0 0 A) (F0 m 229 ls [.int tc, .int (nI (y9 * 8 + x9)), .ref (y 3)]) := by
                              intro tc hcl
                              refine cx_iast hx hb hK hP hD hS 3 2 rfl rfl (y9 * 8 + x9) (by omega) (by decide) dX1_back_229 (fun H locs hP hD hS => ?_)
                              have hP : va_P D vwCl (mw y ce (0 : Int32) r0 r1 (upd v8 (y9 * 8 + x9) tc) r3 dn ac w9) H := hP
                              have hD : va_D A (mw y ce (0 : Int32) r0 r1 (upd v8 (y9 * 8 + x9) tc) r3 dn ac w9) := hD
                              refine lv_iinc (v := nI (x9 + 1)) (lv' := [(5, .int (nI (x9 + 1))), (8, .long ((rdL (sumL (fun u9 => (wvN sp u9 x9).toInt64 * cN sp nn r0 r1 y9 u9) nn) (17 : Int32)) + (128 : Int64))), (0, .ref (y 0)), (1, .int (nI nn)), (2, .long (bG (cN sp nn r0 r1) nn nn)), (4, .int (nI y9)), (6, .long (sumL (fun u9 => (wvN sp u9 x9).toInt64 * cN sp nn r0 r1 y9 u9) nn))]) hx hb dX1_back_230 hl (k := 5) rfl (by show nI x9 + 1 = nI (x9 + 1); exact nI_add x9 1) (by decide) rfl (fun ls hl => ?_)
                              refine lv_goto (tgt := 123) hx hb dX1_back_233 (by decide) ?_
                              exact ih123 (x9 + 1) (upd v8 (y9 * 8 + x9) tc) _ _ _ (by omega) (by omega) (by
                                  intro a b ha9 hb9
                                  by_cases hq : a * 8 + b = y9 * 8 + x9
                                  · obtain rfl : y9 = a := by omega
                                    obtain rfl : x9 = b := by omega
                                    rw [if_pos (by omega)]; exact pk_us.trans hcl
                                  · rw [pk_un hq, hv8 a b ha9 hb9]
                                    by_cases hz : (a < y9 ∧ b < nn) ∨ (a = y9 ∧ b < x9)
                                    · rw [if_pos hz, if_pos (by omega)]
                                    · rw [if_neg hz, if_neg (by omega)]) hP hD hS (lv_sub hl [2, 3, 4, 5, 0] rfl)
                            refine lv_lload hx hb dX1_back_200 (lv_at hl 0 rfl) ?_
                            refine lv_lconst (v := (0 : Int64)) hx hb dX1_back_202 (by decide +kernel) ?_
                            refine cx_lcmp_ge (i := ((rdL (sumL (fun u9 => (wvN sp u9 x9).toInt64 * cN sp nn r0 r1 y9 u9) nn) (17 : Int32)) + (128 : Int64)).toInt) (j := 0) (tgt := 211) hx hb rfl (by decide +kernel) dX1_back_203 dX1_back_204 (by decide) (fun c_12 => ?_) (fun c_12 => ?_)
                            · refine lv_lload hx hb dX1_back_211 (lv_at hl 0 rfl) ?_
                              refine lv_ldc2 (v := (255 : Int64)) hx hb hown (hts _ wm_350) dX1_back_213 ?_
                              refine cx_lcmp_le (i := ((rdL (sumL (fun u9 => (wvN sp u9 x9).toInt64 * cN sp nn r0 r1 y9 u9) nn) (17 : Int32)) + (128 : Int64)).toInt) (j := 255) (tgt := 226) hx hb rfl (by decide +kernel) dX1_back_216 dX1_back_217 (by decide) (fun c_13 => ?_) (fun c_13 => ?_)
                              · refine lv_lload hx hb dX1_back_226 (lv_at hl 0 rfl) ?_
                                refine lv_l2i hx hb dX1_back_228 rfl ?_
                                exact J229 (((rdL (sumL (fun u9 => (wvN sp u9 x9).toInt64 * cN sp nn r0 r1 y9 u9) nn) (17 : Int32)) + (128 : Int64)).toInt32) (by unfold clampV; rw [cx_i0, cx_i255, if_neg (by omega), if_neg (by omega)])
                              · refine lv_sipush (v := (255 : Int32)) hx hb dX1_back_220 (by decide +kernel) ?_
                                refine lv_goto (tgt := 229) hx hb dX1_back_223 (by decide) ?_
                                exact J229 (255 : Int32) (by unfold clampV; rw [cx_i0, cx_i255, if_neg (by omega), if_pos (by omega)])
                            · refine lv_iconst (v := (0 : Int32)) hx hb dX1_back_207 (by decide +kernel) ?_
                              refine lv_goto (tgt := 229) hx hb dX1_back_208 (by decide) ?_
                              exact J229 (0 : Int32) (by unfold clampV; rw [cx_i0, cx_i255, if_pos (by omega)])
                          · refine lv_lload hx hb dX1_back_141 (lv_at hl 5 rfl) ?_
                            refine lv_iload_n hx hb dX1_back_143 rfl (lv_at hl 1 rfl) ?_
                            refine lv_iload hx hb dX1_back_144 (lv_at hl 6 rfl) ?_
                            refine lv_iload hx hb dX1_back_146 (lv_at hl 4 rfl) ?_
                            refine vp_callSi (W.runS (As := [.int (nI nn), .int (nI u9), .int (nI x9)]) (rest := [.long (sumL (fun u9 => (wvN sp u9 x9).toInt64 * cN sp nn r0 r1 y9 u9) u9)]) ⟨hx, hb, hml, hown, hts⟩ (n_waveOf l D nn sp u9 x9 (by omega) hsz9 (by omega) (by omega)) (va_cwS 3 hts (gw_S wm_366 wm_367 wm_13 wm_368) rfl rfl rfl (by decide +kernel) ⟨Nat.le_of_ble_eq_true rfl, Nat.le_of_ble_eq_true rfl⟩) ⟨cro_blind, fun U hU hW => ⟨rfl, cro_at (hP.sub (ws' := []) [] rfl) (hK.sub (tys' := []) [] rfl) hTb hS hU hW⟩⟩ rfl rfl hl.1 rfl (lv_room (Nat.le_of_ble_eq_true rfl)) dX1_back_148 ⟨Nat.le_of_ble_eq_true rfl, Nat.le_of_ble_eq_true rfl⟩) (fun r_14 hr_14 => ?_)
                            rw [hr_14]
                            refine lv_i2l hx hb dX1_back_151 rfl ?_
                            refine lv_aload_n hx hb dX1_back_152 rfl (lv_at hl 0 rfl) ?_
                            refine va_get (D := D) (ci := 1) (v := .ref (y 7)) (C := RX1) (T := TX1) (N := 8) hx hb hts hin1 hown hK hP 0 rfl rfl 7 (by decide) hf28 (fun _ h9 => h9) rfl dX1_back_153 ?_
                            refine lv_bipush (v := (8 : Int32)) hx hb dX1_back_156 (by decide +kernel) ?_
                            refine lv_iload hx hb dX1_back_158 (lv_at hl 3 rfl) ?_
                            refine cx_imul hx hb 8 y9 dX1_back_160 ?_
                            refine lv_iload hx hb dX1_back_161 (lv_at hl 6 rfl) ?_
                            refine cx_iadd hx hb (8 * y9) u9 dX1_back_163 ?_
                            rw [show 8 * y9 + u9 = y9 * 8 + u9 from by omega]
                            refine cx_lald hx hb hK hP 7 6 rfl rfl (y9 * 8 + u9) (by omega) (by decide) dX1_back_164 ?_
                            have e_15 : w9 (y9 * 8 + u9) = cN sp nn r0 r1 y9 u9 := hsm y9 u9 (by omega) (by omega)
                            rw [e_15]
                            refine lv_lmul hx hb dX1_back_165 ?_
                            refine lv_ladd hx hb dX1_back_166 ?_
                            refine lv_lstore (lv' := [(6, .long ((sumL (fun u9 => (wvN sp u9 x9).toInt64 * cN sp nn r0 r1 y9 u9) u9) + (((wvN sp u9 x9).toInt64) * (cN sp nn r0 r1 y9 u9)))), (0, .ref (y 0)), (1, .int (nI nn)), (2, .long (bG (cN sp nn r0 r1) nn nn)), (4, .int (nI y9)), (5, .int (nI x9)), (8, .int (nI u9))]) hx hb dX1_back_167 hl (by decide) rfl (fun ls hl => ?_)
                            refine lv_iinc (v := nI (u9 + 1)) (lv' := [(8, .int (nI (u9 + 1))), (6, .long ((sumL (fun u9 => (wvN sp u9 x9).toInt64 * cN sp nn r0 r1 y9 u9) u9) + (((wvN sp u9 x9).toInt64) * (cN sp nn r0 r1 y9 u9)))), (0, .ref (y 0)), (1, .int (nI nn)), (2, .long (bG (cN sp nn r0 r1) nn nn)), (4, .int (nI y9)), (5, .int (nI x9))]) hx hb dX1_back_169 hl (k := 6) rfl (by show nI u9 + 1 = nI (u9 + 1); exact nI_add u9 1) (by decide) rfl (fun ls hl => ?_)
                            refine lv_goto (tgt := 135) hx hb dX1_back_172 (by decide) ?_
                            exact ih135 (u9 + 1) _ _ _ (by omega) (by omega) hP hD hS (lv_sub hl [2, 3, 4, 5, 6, 1, 0] rfl)
                      exact L135 _ 0 _ _ _ (Nat.lt_succ_self _) (Nat.zero_le _) hP hD hS (lv_sub hl [2, 3, 4, 5, 6, 1, 0] rfl)
                exact L123 _ 0 v8 _ _ _ (Nat.lt_succ_self _) (Nat.zero_le _) (by
                intro a b ha9 hb9
                rw [hw8 a b ha9 hb9]
                by_cases hq : a < y9 ∧ b < nn
                · rw [if_pos hq, if_pos (by omega)]
                · rw [if_neg hq, if_neg (by omega)]) hP hD hS (lv_sub hl [1, 2, 3, 4, 0] rfl)
          exact L114 _ 0 r2 _ _ _ (Nat.lt_succ_self _) (Nat.zero_le _) (fun a b _ _ => by rw [if_neg (by omega)]) hP hD hS (lv_sub hl [1, 2, 3, 0] rfl)
        · refine lv_iconst (v := (0 : Int32)) hx hb dX1_back_36 (by decide +kernel) ?_
          refine lv_istore (lv' := [(5, .int (0 : Int32)), (0, .ref (y 0)), (1, .int (nI nn)), (2, .long (bG (cN sp nn r0 r1) nn y9)), (4, .int (nI y9))]) hx hb dX1_back_37 hl (by decide) rfl (fun ls hl => ?_)
          have L39 : ∀ (n : Nat) (u9 : Nat) (w9 : Nat → Int64) (H : Heap) (locs : List Loc) (ls : Array Slot), (nn - u9) < n → (u9 ≤ nn) → (∀ a b, (a < y9 ∨ (a = y9 ∧ b < u9)) → b < nn → w9 (a * 8 + b) = cN sp nn r0 r1 a b) → va_P D vwCl (mw y ce (0 : Int32) r0 r1 r2 r3 dn ac w9) H → va_D A (mw y ce (0 : Int32) r0 r1 r2 r3 dn ac w9) → va_S A s.heap H locs → lv_has ls 10 [(0, .ref (y 0)), (1, .int (nI nn)), (2, .long (bG1 (cN sp nn r0 r1) y9 (bG (cN sp nn r0 r1) nn y9) u9)), (4, .int (nI y9)), (5, .int (nI u9))] → W p l e ((headSpec wsX1_back ({ frames := 3, cells := 0, slots := 0, locals := 70 } : Room)).room) s m (([.ref (y 0), .int q] : List Value).toArray) below meth c H locs 0 0 (MQ below (va_Ql (fun (r : Int64) (u9 : Int32 × (Nat → Int32) × (Nat → Int64)) => match u9 with | (t9, u, g8) => (t9 = 0 ∧ szOk q ∧ r = bG (cN (8 / q.toInt.toNat) q.toInt.toNat r0 r1) q.toInt.toNat q.toInt.toNat ∧ ∀ a b, a < 8 → b < 8 → u (a * 8 + b) = if a < q.toInt.toNat ∧ b < q.toInt.toNat then bS (8 / q.toInt.toNat) q.toInt.toNat (cN (8 / q.toInt.toNat) q.toInt.toNat r0 r1) a b else r2 (a * 8 + b)) ∨ (t9 = 1 ∧ ¬ szOk q ∧ u = r2)) (fun (u9 : Int32 × (Nat → Int32) × (Nat → Int64)) (t : State) => match u9 with | (t9, u, g8) => crB D (mw y ce t9 r0 r1 u r3 dn ac g8) (mty ce) A t) A) ([.ref (y 0), .int q] : List Value).toArray s 0 0 A) (F0 m 39 ls []) := by
            intro n
            induction n with
            | zero =>
              intro u9 w9 H locs ls hn
              exact absurd hn (Nat.not_lt_zero _)
            | succ n ih39 =>
              intro u9 w9 H locs ls hn39 hu9 hv9 hP hD hS hl
              refine lv_iload hx hb dX1_back_39 (lv_at hl 4 rfl) ?_
              refine lv_iload_n hx hb dX1_back_41 rfl (lv_at hl 1 rfl) ?_
              refine cx_icmp_ge (i := ((u9 : Nat) : Int)) (j := ((nn : Nat) : Int)) (tgt := 105) hx hb (nI_toInt (by omega)) (nI_toInt (by omega)) dX1_back_42 (by decide) (fun c_16 => ?_) (fun c_16 => ?_)
              · refine lv_iinc (v := nI (y9 + 1)) (lv' := [(4, .int (nI (y9 + 1))), (0, .ref (y 0)), (1, .int (nI nn)), (2, .long (bG1 (cN sp nn r0 r1) y9 (bG (cN sp nn r0 r1) nn y9) u9)), (5, .int (nI u9))]) hx hb dX1_back_105 hl (k := 3) rfl (by show nI y9 + 1 = nI (y9 + 1); exact nI_add y9 1) (by decide) rfl (fun ls hl => ?_)
                refine lv_goto (tgt := 30) hx hb dX1_back_108 (by decide) ?_
                obtain rfl : nn = u9 := by omega
                exact ih30 (y9 + 1) w9 _ _ _ (by omega) (by omega) (fun a b ha9 hb9 => hv9 a b (by omega) hb9) hP hD hS (lv_sub hl [1, 2, 3, 0] rfl)
              · refine lv_aload_n hx hb dX1_back_45 rfl (lv_at hl 0 rfl) ?_
                refine lv_iload_n hx hb dX1_back_46 rfl (lv_at hl 1 rfl) ?_
                refine lv_iload hx hb dX1_back_47 (lv_at hl 3 rfl) ?_
                refine lv_iload hx hb dX1_back_49 (lv_at hl 4 rfl) ?_
                refine vp_callSl (W.runV (As := [.int (nI nn), .int (nI y9), .int (nI u9)]) (rest := []) ⟨hx, hb, hml, hown, hts⟩ (n_column l D y ce (0 : Int32) r0 r1 r2 r3 dn ac w9 hdn nn sp y9 u9 (by omega) hsz9 (by omega) (by omega)) (cwV 3 hts (gw_V wm_358 wm_360 wm_8 wm_13 wm_361) rfl rfl rfl (by decide +kernel) ⟨Nat.le_of_ble_eq_true rfl, Nat.le_of_ble_eq_true rfl⟩) ⟨cro_blind, va_recv hK hP (ci := 1) (q0 := 0) rfl rfl, fun U hU hW => ⟨rfl, cro_at hP hK hTb hS hU hW⟩⟩ rfl rfl hl.1 rfl (lv_room (Nat.le_of_ble_eq_true rfl)) dX1_back_51 ⟨Nat.le_of_ble_eq_true rfl, Nat.le_of_ble_eq_true rfl⟩) (fun r_17 hr_17 => ?_)
                rw [hr_17]
                refine lv_lstore (lv' := [(6, .long (cN sp nn r0 r1 y9 u9)), (0, .ref (y 0)), (1, .int (nI nn)), (2, .long (bG1 (cN sp nn r0 r1) y9 (bG (cN sp nn r0 r1) nn y9) u9)), (4, .int (nI y9)), (5, .int (nI u9))]) hx hb dX1_back_54 hl (by decide) rfl (fun ls hl => ?_)
                refine lv_aload_n hx hb dX1_back_56 rfl (lv_at hl 1 rfl) ?_
                refine va_get (D := D) (ci := 1) (v := .ref (y 7)) (C := RX1) (T := TX1) (N := 8) hx hb hts hin1 hown hK hP 0 rfl rfl 7 (by decide) hf28 (fun _ h9 => h9) rfl dX1_back_57 ?_
                refine lv_bipush (v := (8 : Int32)) hx hb dX1_back_60 (by decide +kernel) ?_
                refine lv_iload hx hb dX1_back_62 (lv_at hl 4 rfl) ?_
                refine cx_imul hx hb 8 y9 dX1_back_64 ?_
                refine lv_iload hx hb dX1_back_65 (lv_at hl 5 rfl) ?_
                refine cx_iadd hx hb (8 * y9) u9 dX1_back_67 ?_
                rw [show 8 * y9 + u9 = y9 * 8 + u9 from by omega]
                refine lv_lload hx hb dX1_back_68 (lv_at hl 0 rfl) ?_
                refine cx_last hx hb hK hP hD hS 7 6 rfl rfl (y9 * 8 + u9) (by omega) (by decide) dX1_back_70 (fun H locs hP hD hS => ?_)
                have hP : va_P D vwCl (mw y ce (0 : Int32) r0 r1 r2 r3 dn ac (vp_updL w9 (y9 * 8 + u9) (cN sp nn r0 r1 y9 u9))) H := hP
                have hD : va_D A (mw y ce (0 : Int32) r0 r1 r2 r3 dn ac (vp_updL w9 (y9 * 8 + u9) (cN sp nn r0 r1 y9 u9))) := hD
                have J98 : ∀ (tv : Int64), (tv = mostV (cN sp nn r0 r1 y9 u9) (bG1 (cN sp nn r0 r1) y9 (bG (cN sp nn r0 r1) nn y9) u9)) → W p l e ((headSpec wsX1_back ({ frames := 3, cells := 0, slots := 0, locals := 70 } : Room)).room) s m (([.ref (y 0), .int q] : List Value).toArray) below meth c H locs 0 0 (MQ below (va_Ql (fun (r : Int64) (u9 : Int32 × (Nat → Int32) × (Nat → Int64)) => match u9 with | (t9, u, g8) => (t9 = 0 ∧ szOk q ∧ r = bG (cN (8 / q.toInt.toNat) q.toInt.toNat r0 r1) q.toInt.toNat q.toInt.toNat ∧ ∀ a b, a < 8 → b < 8 → u (a * 8 + b) = if a < q.toInt.toNat ∧ b < q.toInt.toNat then bS (8 / q.toInt.toNat) q.toInt.toNat (cN (8 / q.toInt.toNat) q.toInt.toNat r0 r1) a b else r2 (a * 8 + b)) ∨ (t9 = 1 ∧ ¬ szOk q ∧ u = r2)) (fun (u9 : Int32 × (Nat → Int32) × (Nat → Int64)) (t : State) => match u9 with | (t9, u, g8) => crB D (mw y ce t9 r0 r1 u r3 dn ac g8) (mty ce) A t) A) ([.ref (y 0), .int q] : List Value).toArray s 0 0 A) (F0 m 98 ls [.long tv]) := by
                  intro tv htv
                  refine lv_lstore_n (lv' := [(2, .long tv), (6, .long (cN sp nn r0 r1 y9 u9)), (0, .ref (y 0)), (1, .int (nI nn)), (4, .int (nI y9)), (5, .int (nI u9))]) hx hb dX1_back_98 rfl hl (by decide) rfl (fun ls hl => ?_)
                  have e_18 : tv = bG1 (cN sp nn r0 r1) y9 (bG (cN sp nn r0 r1) nn y9) (u9 + 1) := htv.trans (maxL_most (bG1_pos _ _ _ (bG_pos _ _ _) _)).1
                  rw [e_18] at hl
                  refine lv_iinc (v := nI (u9 + 1)) (lv' := [(5, .int (nI (u9 + 1))), (2, .long (bG1 (cN sp nn r0 r1) y9 (bG (cN sp nn r0 r1) nn y9) (u9 + 1))), (6, .long (cN sp nn r0 r1 y9 u9)), (0, .ref (y 0)), (1, .int (nI nn)), (4, .int (nI y9))]) hx hb dX1_back_99 hl (k := 5) rfl (by show nI u9 + 1 = nI (u9 + 1); exact nI_add u9 1) (by decide) rfl (fun ls hl => ?_)
                  refine lv_goto (tgt := 39) hx hb dX1_back_102 (by decide) ?_
                  exact ih39 (u9 + 1) (vp_updL w9 (y9 * 8 + u9) (cN sp nn r0 r1 y9 u9)) _ _ _ (by omega) (by omega) (by
                      intro a b ha9 hb9
                      by_cases hq : a * 8 + b = y9 * 8 + u9
                      · obtain rfl : y9 = a := by omega
                        obtain rfl : u9 = b := by omega
                        exact pk_uLs
                      · rw [pk_uLn hq]; exact hv9 a b (by omega) hb9) hP hD hS (lv_sub hl [3, 4, 1, 5, 0] rfl)
                refine lv_lload hx hb dX1_back_71 (lv_at hl 0 rfl) ?_
                refine lv_lload_n hx hb dX1_back_73 rfl (lv_at hl 3 rfl) ?_
                refine cx_lcmp_le (i := (cN sp nn r0 r1 y9 u9).toInt) (j := (bG1 (cN sp nn r0 r1) y9 (bG (cN sp nn r0 r1) nn y9) u9).toInt) (tgt := 83) hx hb rfl rfl dX1_back_74 dX1_back_75 (by decide) (fun c_19 => ?_) (fun c_19 => ?_)
                · refine lv_lload hx hb dX1_back_83 (lv_at hl 0 rfl) ?_
                  refine lv_lneg hx hb dX1_back_85 ?_
                  refine lv_lload_n hx hb dX1_back_86 rfl (lv_at hl 3 rfl) ?_
                  refine cx_lcmp_le (i := (-(cN sp nn r0 r1 y9 u9)).toInt) (j := (bG1 (cN sp nn r0 r1) y9 (bG (cN sp nn r0 r1) nn y9) u9).toInt) (tgt := 97) hx hb rfl rfl dX1_back_87 dX1_back_88 (by decide) (fun c_20 => ?_) (fun c_20 => ?_)
                  · refine lv_lload_n hx hb dX1_back_97 rfl (lv_at hl 3 rfl) ?_
                    exact J98 (bG1 (cN sp nn r0 r1) y9 (bG (cN sp nn r0 r1) nn y9) u9) (by unfold mostV; rw [if_neg (by omega), if_neg (by omega)])
                  · refine lv_lload hx hb dX1_back_91 (lv_at hl 0 rfl) ?_
                    refine lv_lneg hx hb dX1_back_93 ?_
                    refine lv_goto (tgt := 98) hx hb dX1_back_94 (by decide) ?_
                    exact J98 (-(cN sp nn r0 r1 y9 u9)) (by unfold mostV; rw [if_neg (by omega), if_pos (by omega)])
                · refine lv_lload hx hb dX1_back_78 (lv_at hl 0 rfl) ?_
                  refine lv_goto (tgt := 98) hx hb dX1_back_80 (by decide) ?_
                  exact J98 (cN sp nn r0 r1 y9 u9) (by unfold mostV; rw [if_pos (by omega)])
          exact L39 _ 0 w9 _ _ _ (Nat.lt_succ_self _) (Nat.zero_le _) (fun a b ha9 hb9 => hw9 a b (by omega) hb9) hP hD hS (lv_sub hl [1, 2, 3, 4, 0] rfl)
    exact L30 _ 0 sm _ _ _ (Nat.lt_succ_self _) (Nat.zero_le _) (fun a b ha9 => absurd ha9 (Nat.not_lt_zero a)) hP hD hS (lv_sub hl [2, 3, 1, 0] rfl)
  · skip
    refine cx_if_eq (i := 0) (j := 0) (tgt := 12) hx hb (by decide +kernel) rfl dX1_back_5 (by decide) (fun c_21 => ?_) (fun c_21 => absurd c_21 (by decide))
    refine lv_iconst (v := (1 : Int32)) hx hb dX1_back_12 (by decide +kernel) ?_
    refine va_put (D := D) (ci := 1) (v := .int (1 : Int32)) (ty := .int) (C := RX1) (T := TX1) (N := 8) hx hb hts hin1 tyX1 tyX1_ok nmX1 hown hK hP hD hS 0 rfl rfl 0 (by decide) hf32 (fun _ h9 => h9) rfl (by decide +kernel) rfl rfl (Nat.le_of_ble_eq_true rfl) dX1_back_13 (fun H locs hP hD hS => ?_)
    have hP : va_P D vwCl (mw y ce (1 : Int32) r0 r1 r2 r3 dn ac sm) H := hP
    have hD : va_D A (mw y ce (1 : Int32) r0 r1 r2 r3 dn ac sm) := hD
    refine lv_aload_n hx hb dX1_back_16 rfl (lv_at hl 0 rfl) ?_
    refine va_get (D := D) (ci := 1) (v := .int (1 : Int32)) (C := RX1) (T := TX1) (N := 8) hx hb hts hin1 hown hK hP 0 rfl rfl 0 (by decide) hf32 (fun _ h9 => h9) rfl dX1_back_17 ?_
    refine cx_if_le (i := 1) (j := 0) (tgt := 25) hx hb (by decide +kernel) rfl dX1_back_20 (by decide) (fun c_22 => absurd c_22 (by decide)) (fun c_22 => ?_)
    refine lv_lconst (v := (0 : Int64)) hx hb dX1_back_23 (by decide +kernel) ?_
    exact W.lret (v := (0 : Int64)) hx hb hr (fun t ht hW => ⟨⟨(0 : Int64), ((1 : Int32), r2, sm), rfl, Or.inr ⟨rfl, hs9, rfl⟩, by rw [ht]; exact hP, va_K.moved hW.alike hK, hD⟩, hS.F ht⟩) hS.2.2 dX1_back_24
end
