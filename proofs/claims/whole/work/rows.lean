section
-- ===== PART A: goes FIRST, ahead of the names: the tables' words, and 'selects' of the private methods out of them =====
/-- a private method of a class that the tables say can be made, by its rows of tables_1 -/
def lw_okq (q : MethodName × Nat) : Prop := (q.1.cls ≠ "java/lang/invoke/MethodHandle" ∧ q.1.cls ≠ "java/lang/invoke/VarHandle") ∧ Cond.instantiable q.1.cls q.2 ∈ tables_1 ∧ Cond.privateMethod q.1 ∈ tables_1 ∧ Cond.instanceMethod q.1 ∈ tables_1
theorem lw_p0 : lw_okq (⟨"ScoreMachine", "began", "()Z"⟩, 3) := ⟨⟨by decide +kernel, by decide +kernel⟩, List.mem_of_getElem? (i := 14) (by decide +kernel), List.mem_of_getElem? (i := 200) (by decide +kernel), List.mem_of_getElem? (i := 201) (by decide +kernel)⟩
theorem lw_p1 : lw_okq (⟨"ScoreMachine$Board", "tryToIssue", "()I"⟩, 18) := ⟨⟨by decide +kernel, by decide +kernel⟩, List.mem_of_getElem? (i := 118) (by decide +kernel), List.mem_of_getElem? (i := 240) (by decide +kernel), List.mem_of_getElem? (i := 241) (by decide +kernel)⟩
theorem lw_p2 : lw_okq (⟨"ScoreMachine$Board", "lowestFreeUnit", "(I)I"⟩, 18) := ⟨⟨by decide +kernel, by decide +kernel⟩, List.mem_of_getElem? (i := 118) (by decide +kernel), List.mem_of_getElem? (i := 245) (by decide +kernel), List.mem_of_getElem? (i := 246) (by decide +kernel)⟩
theorem lw_p3 : lw_okq (⟨"ScoreMachine$Board", "settleCycles", "(II)V"⟩, 18) := ⟨⟨by decide +kernel, by decide +kernel⟩, List.mem_of_getElem? (i := 118) (by decide +kernel), List.mem_of_getElem? (i := 255) (by decide +kernel), List.mem_of_getElem? (i := 256) (by decide +kernel)⟩
theorem lw_p4 : lw_okq (⟨"ScoreMachine$Board", "keepRow", "(I)V"⟩, 18) := ⟨⟨by decide +kernel, by decide +kernel⟩, List.mem_of_getElem? (i := 118) (by decide +kernel), List.mem_of_getElem? (i := 275) (by decide +kernel), List.mem_of_getElem? (i := 276) (by decide +kernel)⟩
theorem lw_p5 : lw_okq (⟨"ScoreMachine$Board", "noteReading", "(I)V"⟩, 18) := ⟨⟨by decide +kernel, by decide +kernel⟩, List.mem_of_getElem? (i := 118) (by decide +kernel), List.mem_of_getElem? (i := 283) (by decide +kernel), List.mem_of_getElem? (i := 284) (by decide +kernel)⟩
theorem lw_p6 : lw_okq (⟨"ScoreMachine$Board", "noteReader", "(I)V"⟩, 18) := ⟨⟨by decide +kernel, by decide +kernel⟩, List.mem_of_getElem? (i := 118) (by decide +kernel), List.mem_of_getElem? (i := 287) (by decide +kernel), List.mem_of_getElem? (i := 288) (by decide +kernel)⟩
theorem lw_p7 : lw_okq (⟨"ScoreMachine$Board", "noteWriting", "(II)V"⟩, 18) := ⟨⟨by decide +kernel, by decide +kernel⟩, List.mem_of_getElem? (i := 118) (by decide +kernel), List.mem_of_getElem? (i := 291) (by decide +kernel), List.mem_of_getElem? (i := 292) (by decide +kernel)⟩
theorem lw_p8 : lw_okq (⟨"ScoreMachine$PlainMachine", "value", "(I)J"⟩, 4) := ⟨⟨by decide +kernel, by decide +kernel⟩, List.mem_of_getElem? (i := 93) (by decide +kernel), List.mem_of_getElem? (i := 307) (by decide +kernel), List.mem_of_getElem? (i := 308) (by decide +kernel)⟩
theorem lw_p9 : lw_okq (⟨"ScoreMachine$PlainMachine", "placeAfter", "(I)I"⟩, 4) := ⟨⟨by decide +kernel, by decide +kernel⟩, List.mem_of_getElem? (i := 93) (by decide +kernel), List.mem_of_getElem? (i := 316) (by decide +kernel), List.mem_of_getElem? (i := 317) (by decide +kernel)⟩
theorem lw_p10 : lw_okq (⟨"java/lang/Throwable", "fillInStackTrace", "(I)Ljava/lang/Throwable;"⟩, 6) := ⟨⟨by decide +kernel, by decide +kernel⟩, List.mem_of_getElem? (i := 413) (by decide +kernel), List.mem_of_getElem? (i := 411) (by decide +kernel), List.mem_of_getElem? (i := 412) (by decide +kernel)⟩
theorem lw_p11 : lw_okq (⟨"ScoreMachineModel", "code", "()I"⟩, 27) := ⟨⟨by decide +kernel, by decide +kernel⟩, List.mem_of_getElem? (i := 467) (by decide +kernel), List.mem_of_getElem? (i := 594) (by decide +kernel), List.mem_of_getElem? (i := 595) (by decide +kernel)⟩
theorem lw_p12 : lw_okq (⟨"ScoreMachineModel", "issues", "()I"⟩, 27) := ⟨⟨by decide +kernel, by decide +kernel⟩, List.mem_of_getElem? (i := 467) (by decide +kernel), List.mem_of_getElem? (i := 601) (by decide +kernel), List.mem_of_getElem? (i := 602) (by decide +kernel)⟩
theorem lw_p13 : lw_okq (⟨"ScoreMachineModel", "begins", "()I"⟩, 27) := ⟨⟨by decide +kernel, by decide +kernel⟩, List.mem_of_getElem? (i := 467) (by decide +kernel), List.mem_of_getElem? (i := 605) (by decide +kernel), List.mem_of_getElem? (i := 606) (by decide +kernel)⟩
theorem lw_p14 : lw_okq (⟨"ScoreMachineModel", "unitWritten", "(I)I"⟩, 27) := ⟨⟨by decide +kernel, by decide +kernel⟩, List.mem_of_getElem? (i := 467) (by decide +kernel), List.mem_of_getElem? (i := 612) (by decide +kernel), List.mem_of_getElem? (i := 613) (by decide +kernel)⟩
theorem lw_p15 : lw_okq (⟨"ScoreMachineModel", "sameWritten", "()I"⟩, 27) := ⟨⟨by decide +kernel, by decide +kernel⟩, List.mem_of_getElem? (i := 467) (by decide +kernel), List.mem_of_getElem? (i := 616) (by decide +kernel), List.mem_of_getElem? (i := 617) (by decide +kernel)⟩
def lw_privs_1 : List (MethodName × Nat) := [(⟨"ScoreMachine", "began", "()Z"⟩, 3), (⟨"ScoreMachine$Board", "tryToIssue", "()I"⟩, 18), (⟨"ScoreMachine$Board", "lowestFreeUnit", "(I)I"⟩, 18), (⟨"ScoreMachine$Board", "settleCycles", "(II)V"⟩, 18), (⟨"ScoreMachine$Board", "keepRow", "(I)V"⟩, 18), (⟨"ScoreMachine$Board", "noteReading", "(I)V"⟩, 18), (⟨"ScoreMachine$Board", "noteReader", "(I)V"⟩, 18), (⟨"ScoreMachine$Board", "noteWriting", "(II)V"⟩, 18), (⟨"ScoreMachine$PlainMachine", "value", "(I)J"⟩, 4), (⟨"ScoreMachine$PlainMachine", "placeAfter", "(I)I"⟩, 4), (⟨"java/lang/Throwable", "fillInStackTrace", "(I)Ljava/lang/Throwable;"⟩, 6), (⟨"ScoreMachineModel", "code", "()I"⟩, 27), (⟨"ScoreMachineModel", "issues", "()I"⟩, 27), (⟨"ScoreMachineModel", "begins", "()I"⟩, 27), (⟨"ScoreMachineModel", "unitWritten", "(I)I"⟩, 27), (⟨"ScoreMachineModel", "sameWritten", "()I"⟩, 27)]
theorem lw_r1 : ∀ q ∈ lw_privs_1, lw_okq q := List.forall_mem_cons.mpr ⟨lw_p0, List.forall_mem_cons.mpr ⟨lw_p1, List.forall_mem_cons.mpr ⟨lw_p2, List.forall_mem_cons.mpr ⟨lw_p3, List.forall_mem_cons.mpr ⟨lw_p4, List.forall_mem_cons.mpr ⟨lw_p5, List.forall_mem_cons.mpr ⟨lw_p6, List.forall_mem_cons.mpr ⟨lw_p7, List.forall_mem_cons.mpr ⟨lw_p8, List.forall_mem_cons.mpr ⟨lw_p9, List.forall_mem_cons.mpr ⟨lw_p10, List.forall_mem_cons.mpr ⟨lw_p11, List.forall_mem_cons.mpr ⟨lw_p12, List.forall_mem_cons.mpr ⟨lw_p13, List.forall_mem_cons.mpr ⟨lw_p14, List.forall_mem_cons.mpr ⟨lw_p15, fun _ h => absurd h List.not_mem_nil⟩⟩⟩⟩⟩⟩⟩⟩⟩⟩⟩⟩⟩⟩⟩⟩
theorem lw_p16 : lw_okq (⟨"ScoreMachineModel", "issue", "(I)V"⟩, 27) := ⟨⟨by decide +kernel, by decide +kernel⟩, List.mem_of_getElem? (i := 467) (by decide +kernel), List.mem_of_getElem? (i := 623) (by decide +kernel), List.mem_of_getElem? (i := 624) (by decide +kernel)⟩
theorem lw_p17 : lw_okq (⟨"ScoreMachineModel", "registerB", "()I"⟩, 27) := ⟨⟨by decide +kernel, by decide +kernel⟩, List.mem_of_getElem? (i := 467) (by decide +kernel), List.mem_of_getElem? (i := 627) (by decide +kernel), List.mem_of_getElem? (i := 628) (by decide +kernel)⟩
theorem lw_p18 : lw_okq (⟨"ScoreMachineModel", "waited", "(II)I"⟩, 27) := ⟨⟨by decide +kernel, by decide +kernel⟩, List.mem_of_getElem? (i := 467) (by decide +kernel), List.mem_of_getElem? (i := 631) (by decide +kernel), List.mem_of_getElem? (i := 632) (by decide +kernel)⟩
theorem lw_p19 : lw_okq (⟨"ScoreMachineModel", "commit", "(I)V"⟩, 27) := ⟨⟨by decide +kernel, by decide +kernel⟩, List.mem_of_getElem? (i := 467) (by decide +kernel), List.mem_of_getElem? (i := 635) (by decide +kernel), List.mem_of_getElem? (i := 636) (by decide +kernel)⟩
theorem lw_p20 : lw_okq (⟨"ScoreMachineModel", "does", "()J"⟩, 27) := ⟨⟨by decide +kernel, by decide +kernel⟩, List.mem_of_getElem? (i := 467) (by decide +kernel), List.mem_of_getElem? (i := 646) (by decide +kernel), List.mem_of_getElem? (i := 647) (by decide +kernel)⟩
theorem lw_p21 : lw_okq (⟨"ScoreMachineModel", "open", "()I"⟩, 27) := ⟨⟨by decide +kernel, by decide +kernel⟩, List.mem_of_getElem? (i := 467) (by decide +kernel), List.mem_of_getElem? (i := 655) (by decide +kernel), List.mem_of_getElem? (i := 656) (by decide +kernel)⟩
def lw_privs_2 : List (MethodName × Nat) := [(⟨"ScoreMachineModel", "issue", "(I)V"⟩, 27), (⟨"ScoreMachineModel", "registerB", "()I"⟩, 27), (⟨"ScoreMachineModel", "waited", "(II)I"⟩, 27), (⟨"ScoreMachineModel", "commit", "(I)V"⟩, 27), (⟨"ScoreMachineModel", "does", "()J"⟩, 27), (⟨"ScoreMachineModel", "open", "()I"⟩, 27)]
theorem lw_r2 : ∀ q ∈ lw_privs_2, lw_okq q := List.forall_mem_cons.mpr ⟨lw_p16, List.forall_mem_cons.mpr ⟨lw_p17, List.forall_mem_cons.mpr ⟨lw_p18, List.forall_mem_cons.mpr ⟨lw_p19, List.forall_mem_cons.mpr ⟨lw_p20, List.forall_mem_cons.mpr ⟨lw_p21, fun _ h => absurd h List.not_mem_nil⟩⟩⟩⟩⟩⟩
def lw_privs : List (MethodName × Nat) := lw_privs_1 ++ (lw_privs_2)
def lw_tbl : List Cond := k2_sels lw_privs ++ tables_1
theorem lw_privs_ok : ∀ q ∈ lw_privs, lw_okq q := by
  show ∀ q ∈ lw_privs_1 ++ (lw_privs_2), lw_okq q
  exact List.forall_mem_append.mpr ⟨lw_r1, lw_r2⟩
end
section
/-! ===== BEGIN words of one list among another's, by their places ===== -/
theorem goodIn_r {big : List Cond} (ws : List Cond) (ps : List Nat) (hp : ws = ps.filterMap (fun i => big[i]?)) (h : ws.all goodWord = true) : GoodIn big ws := by
  intro w hw
  have h1 := List.all_eq_true.mp h w hw
  rw [hp] at hw
  obtain ⟨i, -, hi⟩ := List.mem_filterMap.mp hw
  have hm : w ∈ big := by first | exact List.mem_of_getElem? hi | exact List.getElem?_mem hi
  exact ⟨hm, good_of_word h1⟩
theorem goodIn_app {big a b : List Cond} (ha : GoodIn big a) (hb : GoodIn big b) : GoodIn big (a ++ b) := fun w h => (List.mem_append.mp h).elim (ha w) (hb w)
theorem goodIn_ca {big a b : List Cond} {c : Cond} (ha : GoodIn big (c :: a)) (hb : GoodIn big b) : GoodIn big (c :: (a ++ b)) := fun w h => (List.mem_cons.mp h).elim (fun e => ha w (List.mem_cons.mpr (Or.inl e))) (fun h => (List.mem_append.mp h).elim (fun h => ha w (List.mem_cons.mpr (Or.inr h))) (hb w))
theorem goodIn_sub {big ws : List Cond} (hm : ∀ w ∈ ws, w ∈ big) (h : ws.all goodWord = true) : GoodIn big ws := fun w hw => ⟨hm w hw, good_of_word (List.all_eq_true.mp h w hw)⟩
/-! ===== END ===== -/

/-! ===== BEGIN exceptions that leave a method, and their catching by the caller (launches without stack traces) ===== -/
section VXA
/-! The laws vx_back, vx_callV, vx_callS, vx_callSW, vx_throw0, vx_throwS follow proofs of the library, with one case more: JvmDerived/Free/Laws.lean (Back.of_free), Shelf42/LK1.lean (callV, callS), Shelf/KitTraced.lean (throwNew0V, throwNewS). -/
/-- where a method has thrown q: the class by its name, the cell, what was written, the world -/
def vx_T (XC : String → State → State → Prop) (st : State) (q : Addr) (t : State) (mc ms : Nat) (free : Addr → Prop) : Prop :=
  ∃ (E : String) (ce : Cell) (L : List Loc), XC E st t ∧ t.heap[q]? = some ce ∧ ce.vm = .none ∧ st.vm.findClass E = some ce.cls ∧ st.WarmedH t.vm ∧ st.sameButNew ({ t with vm := st.vm } : State) L mc ms ∧ ∀ z ∈ L, free z.base
def vx_Q (Qc : Array Value → State → Outcome → State → Prop) (XC : String → State → State → Prop) (mc ms : Nat) (free : Addr → Prop) : Array Value → State → Outcome → State → Prop := fun a st o t =>
  (Qc a st o t ∧ ∃ L, FrameEnd st o t L mc ms ∧ ∀ q ∈ L, free q.base) ∨ ∃ q, o = .threw q ∧ vx_T XC st q t mc ms free
/-- a callee that returns or throws -/
def vx_Met (l : Launch) (y : MethodName) (ws : List Cond) (rm : Room) (Pc : Array Value → State → Prop) (Qc : Array Value → State → Outcome → State → Prop) (XC : String → State → State → Prop) (mc ms : Nat) (free : Addr → Prop) : Prop :=
  MetFree l y (headSpec ws rm) Pc (fun _ _ _ _ _ => True) (vx_Q Qc XC mc ms free)
def vx_Post (XC : String → State → State → Prop) (mc ms : Nat) (free : Addr → Prop) : Pt → Array Value → Addr → Pt → Prop := fun A a q B =>
  ∃ (g : JFrame) (mk : MethodId) (t : State) (L : List Loc) (E : String) (ce : Cell), B.U.heap = t.heap ∧ B.U.vm = t.vm ∧ XC E (A.U.calling g mk a) t ∧ t.heap[q]? = some ce ∧ ce.vm = .none ∧ A.U.vm.findClass E = some ce.cls ∧ B.locs = A.locs ++ L ∧ (∀ z ∈ L, free z.base) ∧ B.cells = A.cells + mc ∧ B.slots = A.slots + ms
def vx_Back (l : Launch) (R : Room) (p : Program) (e : Env) (below : List Frame) (s : State) (sargs : Array Value) (y : MethodName) (len W9 : Nat)
    (Pre : Pt → Array Value → Prop) (Post : Pt → Array Value → Option Value → Pt → Prop) (PostX : Pt → Array Value → Addr → Pt → Prop) : Prop :=
  ∀ (m : MethodId) (meth : Method) (c : Code) (A : Pt) (g : JFrame) (ig : Instr) (mk : MethodId) (a : Array Value),
    Stand p l e R s m sargs below meth c A.U A.locs A.cells A.slots → g.method = m → g.locals.size = c.maxLocals → decode c.code g.pc = .ok (ig, len) →
    2 * g.monitorRoom + (g.stack.map fun v => v.category).sum ≤ W9 → A.U.methodNamed? y = some mk → Pre A a →
    (∃ (v : Option Value) (B : Pt), Stand p l e R s m sargs below meth c B.U B.locs B.cells B.slots ∧ Post A a v B ∧
      Steps p.tables e below (doInvoke e (A.U.setTop g) [] mk a).1 (B.U.setTop { g with pc := g.pc + len, stack := v.toList ++ g.stack })) ∨
    (∃ (q : Addr) (B : Pt), Stand p l e R s m sargs below meth c B.U B.locs B.cells B.slots ∧ PostX A a q B ∧
      Steps p.tables e below (doInvoke e (A.U.setTop g) [] mk a).1 ((B.U.setTop g).pushFrame (.throwing q)))
section Payer
variable {l : Launch} {R : Room} {p : Program} {e : Env} {below : List Frame} {s : State} {sargs : Array Value} {y : MethodName} {len W9 : Nat}
theorem vx_back {ws : List Cond} {rm : Room} {Pc : Array Value → State → Prop} {Qc : Array Value → State → Outcome → State → Prop} {XC : String → State → State → Prop} {mc ms : Nat} {free : Addr → Prop} {bytes : ByteArray} {maxL : Nat} {ret : Option FieldType}
    (hM : vx_Met l y ws rm Pc Qc XC mc ms free) (hblind : FrameBlind Pc) (hrc : rm.cells = mc) (hrs : rm.slots = ms)
    (hframes : rm.frames + 1 ≤ R.frames) (hlocals : W9 + (maxL + 11) + rm.locals ≤ R.locals)
    (hws : ∀ w ∈ ws, ∀ a' U, s.WarmedH U.vm → w.before a' U = true) (hcode : Cond.code y bytes maxL ret ∈ ws) (hinit : ∀ a' U, s.WarmedH U.vm → (Cond.initialized y.cls).before a' U = true) :
    vx_Back l R p e below s sargs y len W9 (PreOf R mc ms Pc) (PostOf Qc mc ms free) (vx_Post XC mc ms free) := by
  intro m meth c A g ig mk a X hg hsize hdg hW hn hp
  have h1 : (headSpec ws rm).pre.before a A.U = true := atoms_intro fun w hw => hws w hw _ _ X.warmed
  have h2 : (Cond.code y bytes maxL ret).before a A.U = true := hws _ hcode _ _ X.warmed
  have h3 : (Cond.initialized y.cls).before a A.U = true := hinit _ _ X.warmed
  have h4 : A.cells + (headSpec ws rm).room.cells ≤ R.cells := by rw [show (headSpec ws rm).room.cells = mc from hrc]; exact hp.1
  have h5 : A.slots + (headSpec ws rm).room.slots ≤ R.slots := by rw [show (headSpec ws rm).room.slots = ms from hrs]; exact hp.2.1
  have hPc : Pc a (A.U.calling g mk a) := hblind _ _ _ _ hp.2.2
  obtain ⟨U, Ls, c0, s0⟩ := A
  dsimp only [Pt.U, Pt.locs, Pt.cells, Pt.slots] at h1 h2 h3 h4 h5 X hn hPc ⊢
  obtain ⟨methY, cY, hmY, hcY, -, hlY, -, -, -, -⟩ := Cond.code_spec hn h2
  obtain ⟨kY, hkY, -⟩ := className_of_methodNamed hn
  have hinitY : kY.init = .initialized := Cond.initialized_spec (findClass_of_methodNamed hn) hkY h3
  have h : At U g.method c below := by rw [hg]; exact X.here
  have hlocals9 : W9 + (maxL + 11) + (headSpec ws rm).room.locals ≤ R.locals := hlocals
  have happ : (headSpec ws rm).appliesLoose y e.platform (U.calling g mk a) = true :=
    Spec.appliesLoose_calling (g := g) h hdg hn hkY hinitY
      (X.room_calling (g := g) (R' := (headSpec ws rm).room) hsize hmY hcY hframes (by rw [hlY]; omega) h4 h5) h1
  obtain ⟨mid, hmid⟩ := h.above
  have hfr : (U.setTop g).frames = (.java g :: mid) ++ below := by rw [State.frames_setTop' g h.top, hmid]; rfl
  obtain ⟨o, s₂, hsteps, -, hend, hq⟩ := Steps.callFree hM p X.admits X.cas X.clock (acts := []) hfr happ hPc trivial
  have hq' : vx_Q Qc XC mc ms free a (U.calling g mk a) o s₂ := hq
  rw [State.frames_setTop' g h.top] at hend
  obtain ⟨g₀, hg0⟩ := Option.isSome_iff_exists.mp h.top
  obtain ⟨r, hr⟩ := State.topJava?_eq_some.mp hg0
  have hr' : (({ U with heap := s₂.heap, slotsUsed := s₂.slotsUsed } : State).setVm s₂.vm).frames = .java g₀ :: r := hr
  rcases hq' with ⟨hqc, L, hfe, hL⟩ | ⟨q, rfl, E, ce, L, hx, hce, hcv, hcl, hW₂, hsm, hL⟩
  · obtain ⟨⟨v, rfl⟩, hW₂, e2, q2, q3, q4, q5, q6⟩ := id hfe
    have e3 : s₂ = ({ (U.calling g mk a).setFrames s₂.frames with heap := s₂.heap, slotsUsed := s₂.slotsUsed } : State).setVm s₂.vm := by
      have : s₂ = ({ s₂ with vm := (U.calling g mk a).vm } : State).setVm s₂.vm := rfl
      rw [e2] at this
      exact this
    obtain ⟨c₂, i₂, len₂, hc₂, hd₂, hf₂⟩ := hend
    have hW' : U.WarmedH s₂.vm := hW₂
    have hcc : c₂ = c := by
      have h1 : s₂.code? g.method = U.code? g.method := by
        rw [State.code?_eq, State.code?_eq, hW'.alike.method?]
      exact Option.some.inj (hc₂.symm.trans (h1.trans h.code))
    subst hcc
    have hlen : len₂ = len := by rw [hdg] at hd₂; cases hd₂; rfl
    subst hlen
    have hs₂ : s₂ = (({ U with heap := s₂.heap, slotsUsed := s₂.slotsUsed } : State).setVm s₂.vm).setTop { g with pc := g.pc + len₂, stack := v.toList ++ g.stack } := by
      refine e3.trans ?_
      rw [hf₂, State.calling_eq h.top, State.setFrames_setFrames, State.setTop_of_frames _ hr', hr]
      rfl
    have hsame : U.sameButNew ({ U with heap := s₂.heap, slotsUsed := s₂.slotsUsed } : State) L mc ms := by
      refine ⟨?_, q2, q3, q4, q5, q6⟩
      obtain ⟨t, ht, -⟩ := State.frames_cons hr
      show ({ U with heap := s₂.heap, slotsUsed := s₂.slotsUsed } : State) = { U.setFrames U.frames with heap := s₂.heap, slotsUsed := s₂.slotsUsed }
      rw [State.setFrames_self ht]
    subst hg
    refine Or.inl ⟨v, ⟨(({ U with heap := s₂.heap, slotsUsed := s₂.slotsUsed } : State).setVm s₂.vm), Ls ++ L, c0 + mc, s0 + ms⟩,
      ⟨X.admits, X.cas, X.clock, X.frames, X.room, X.hears, X.method, X.code, (X.here.setHeapUsed s₂.heap s₂.slotsUsed).setVm hW'.alike, X.tail, State.WarmedH.trans X.warmed hW', X.limits, X.bytes, X.same.trans (hsame.setVm s.vm)⟩,
      ⟨g, mk, s₂, L, rfl, rfl, hqc, rfl, hL, rfl, rfl⟩, ?_⟩
    show Steps p.tables e below _ ((({ U with heap := s₂.heap, slotsUsed := s₂.slotsUsed } : State).setVm s₂.vm).setTop { g with pc := g.pc + len₂, stack := v.toList ++ g.stack })
    rw [← hs₂]
    exact hsteps
  · obtain ⟨e2, q2, q3, q4, q5, q6⟩ := id hsm
    have e3 : s₂ = ({ (U.calling g mk a).setFrames s₂.frames with heap := s₂.heap, slotsUsed := s₂.slotsUsed } : State).setVm s₂.vm := by
      have : s₂ = ({ s₂ with vm := (U.calling g mk a).vm } : State).setVm s₂.vm := rfl
      rw [e2] at this
      exact this
    have hf₂ : s₂.frames = .throwing q :: .java g :: U.frames.tail := hend
    have hW' : U.WarmedH s₂.vm := hW₂
    have hs₂ : s₂ = ((({ U with heap := s₂.heap, slotsUsed := s₂.slotsUsed } : State).setVm s₂.vm).setTop g).pushFrame (.throwing q) := by
      refine e3.trans ?_
      rw [hf₂, State.calling_eq h.top, State.setFrames_setFrames, State.pushFrame, State.frames_setTop _ hr', State.setTop_of_frames _ hr', State.setFrames_setFrames, hr]
      rfl
    have hsame : U.sameButNew ({ U with heap := s₂.heap, slotsUsed := s₂.slotsUsed } : State) L mc ms := by
      refine ⟨?_, q2, q3, q4, q5, q6⟩
      obtain ⟨t, ht, -⟩ := State.frames_cons hr
      show ({ U with heap := s₂.heap, slotsUsed := s₂.slotsUsed } : State) = { U.setFrames U.frames with heap := s₂.heap, slotsUsed := s₂.slotsUsed }
      rw [State.setFrames_self ht]
    subst hg
    refine Or.inr ⟨q, ⟨(({ U with heap := s₂.heap, slotsUsed := s₂.slotsUsed } : State).setVm s₂.vm), Ls ++ L, c0 + mc, s0 + ms⟩,
      ⟨X.admits, X.cas, X.clock, X.frames, X.room, X.hears, X.method, X.code, (X.here.setHeapUsed s₂.heap s₂.slotsUsed).setVm hW'.alike, X.tail, State.WarmedH.trans X.warmed hW', X.limits, X.bytes, X.same.trans (hsame.setVm s.vm)⟩,
      ⟨g, mk, s₂, L, E, ce, rfl, rfl, hx, hce, hcv, hcl, rfl, hL, rfl, rfl⟩, ?_⟩
    show Steps p.tables e below _ (((({ U with heap := s₂.heap, slotsUsed := s₂.slotsUsed } : State).setVm s₂.vm).setTop g).pushFrame (.throwing q))
    rw [← hs₂]
    exact hsteps
end Payer
section Calls
variable {p : Program} {l : Launch} {e : Env} {R : Room} {s : State} {m : MethodId} {args : Array Value} {below : List Frame} {meth : Method} {c : Code} {T : State} {locs : List Loc} {cells slots : Nat}
theorem vx_callV (X : Stand p l e R s m args below meth c T locs cells slots) (hexec : p.tables.exec = Jvm.exec) {own C : String} {index : Nat} {y : MethodName} {bytes : ByteArray} {maxL : Nat} {ret : Option FieldType}
    (hown : s.vm.findClass own = some m.cls) (hlink : (Cond.methodLink own index y).before args s = true) (hinst : (Cond.instanceMethod y).before args s = true) (hsel : (Cond.selects C y y).before args s = true)
    (hcode : (Cond.code y bytes maxL ret).before args s = true) (hy : y.cls ≠ "java/lang/invoke/MethodHandle" ∧ y.cls ≠ "java/lang/invoke/VarHandle")
    {W9 : Nat} {Pre : Pt → Array Value → Prop} {Post : Pt → Array Value → Option Value → Pt → Prop} {PostX : Pt → Array Value → Addr → Pt → Prop} (hK : vx_Back l R p e below s args y 3 W9 Pre Post PostX)
    {b : Addr} {cellB : Cell} (hcell : T.heap[b]? = some cellB) (hobj : cellB.vm.isStatics = false) (hcls : s.vm.findClass C = some cellB.cls)
    {g : JFrame} (hg : g.method = m) (hsize : g.locals.size = c.maxLocals) {argsL rest : List Value} (hlen : ∀ sig, parseMethodDescriptor y.desc = some sig → argsL.length = sig.parameters.length)
    (hstack : g.stack = argsL.reverse ++ .ref b :: rest) (hW : 2 * g.monitorRoom + (rest.map fun v => v.category).sum ≤ W9) (hdg : decode c.code g.pc = .ok (.invokevirtual index, 3))
    (hpre : ∀ vm₁, s.WarmedH vm₁ → Pre ⟨T.setVm vm₁, locs, cells, slots⟩ (Value.ref b :: argsL).toArray) :
    (∃ (v : Option Value) (vm₁ : Vm) (B : Pt), s.WarmedH vm₁ ∧ Stand p l e R s m args below meth c B.U B.locs B.cells B.slots ∧ Post ⟨T.setVm vm₁, locs, cells, slots⟩ (Value.ref b :: argsL).toArray v B ∧
      ∀ target, Steps p.tables e below (B.U.setTop { g with pc := g.pc + 3, stack := v.toList ++ rest }) target → Steps p.tables e below (T.setTop g) target) ∨
    (∃ (q : Addr) (vm₁ : Vm) (B : Pt), s.WarmedH vm₁ ∧ Stand p l e R s m args below meth c B.U B.locs B.cells B.slots ∧ PostX ⟨T.setVm vm₁, locs, cells, slots⟩ (Value.ref b :: argsL).toArray q B ∧
      Steps p.tables e below (T.setTop g) ((B.U.setTop { g with stack := rest }).pushFrame (.throwing q))) := by
  obtain ⟨mk, methM, hnamed, hmethM, hstM, habM⟩ := Cond.instanceMethod_spec hinst
  obtain ⟨methM', cM, hmethM', -, -, -, -, -, -, hsigM⟩ := Cond.code_spec hnamed hcode
  cases hmethM.symm.trans hmethM'
  obtain ⟨c2, r2, m2, q1, q2, q3, q4, kP, hkP, hkPi⟩ := Cond.selects_spec hsel
  cases hcls.symm.trans q1
  cases (State.methodFound?_of_named hnamed hy).symm.trans q2
  cases hnamed.symm.trans q3
  have hselP : selectMethod e.platform s.vm cellB.cls mk = .method mk := by rw [Launch.admits_selectMethod X.admits]; exact q4
  obtain ⟨vm₁, X₁, hstep₁⟩ := X.invokevirtual hexec hown hlink hnamed hmethM hstM hkP hkPi hy (a := b) (cell := cellB) hcell
    (fun z h => by rw [h] at hobj; cases hobj) hselP hmethM habM hkP hkPi (g := g) hg (argsL := argsL) (rest := rest) (hlen _ hsigM) hstack hdg
  rcases hK m meth c ⟨T.setVm vm₁, locs, cells, slots⟩ { g with stack := rest } (.invokevirtual index) mk (Value.ref b :: argsL).toArray X₁ hg hsize hdg hW (X₁.named hnamed) (hpre vm₁ X₁.warmed) with ⟨v, B, X', hpost, hsteps⟩ | ⟨q, B, X', hpost, hsteps⟩
  · exact Or.inl ⟨v, vm₁, B, X₁.warmed, X', hpost, fun target h => hstep₁ _ fun acts => by rw [doInvoke_state]; exact hsteps.trans h⟩
  · exact Or.inr ⟨q, vm₁, B, X₁.warmed, X', hpost, hstep₁ _ fun acts => by rw [doInvoke_state]; exact hsteps⟩
theorem vx_callS (X : Stand p l e R s m args below meth c T locs cells slots) (hexec : p.tables.exec = Jvm.exec) {own : String} {index : Nat} {y : MethodName} {bytes : ByteArray} {maxL : Nat} {ret : Option FieldType}
    (hown : s.vm.findClass own = some m.cls) (hlink : (Cond.methodLink own index y).before args s = true) (hstat : (Cond.static y).before args s = true) (hinit : (Cond.initialized y.cls).before args s = true)
    (hcode : (Cond.code y bytes maxL ret).before args s = true) (hy : y.cls ≠ "java/lang/invoke/MethodHandle" ∧ y.cls ≠ "java/lang/invoke/VarHandle")
    {W9 : Nat} {Pre : Pt → Array Value → Prop} {Post : Pt → Array Value → Option Value → Pt → Prop} {PostX : Pt → Array Value → Addr → Pt → Prop} (hK : vx_Back l R p e below s args y 3 W9 Pre Post PostX)
    {g : JFrame} (hg : g.method = m) (hsize : g.locals.size = c.maxLocals) {argsL rest : List Value} (hlen : ∀ sig, parseMethodDescriptor y.desc = some sig → argsL.length = sig.parameters.length)
    (hstack : g.stack = argsL.reverse ++ rest) (hW : 2 * g.monitorRoom + (rest.map fun v => v.category).sum ≤ W9) (hdg : decode c.code g.pc = .ok (.invokestatic index, 3))
    (hpre : ∀ vm₁, s.WarmedH vm₁ → Pre ⟨T.setVm vm₁, locs, cells, slots⟩ argsL.toArray) :
    (∃ (v : Option Value) (vm₁ : Vm) (B : Pt), s.WarmedH vm₁ ∧ Stand p l e R s m args below meth c B.U B.locs B.cells B.slots ∧ Post ⟨T.setVm vm₁, locs, cells, slots⟩ argsL.toArray v B ∧
      ∀ target, Steps p.tables e below (B.U.setTop { g with pc := g.pc + 3, stack := v.toList ++ rest }) target → Steps p.tables e below (T.setTop g) target) ∨
    (∃ (q : Addr) (vm₁ : Vm) (B : Pt), s.WarmedH vm₁ ∧ Stand p l e R s m args below meth c B.U B.locs B.cells B.slots ∧ PostX ⟨T.setVm vm₁, locs, cells, slots⟩ argsL.toArray q B ∧
      Steps p.tables e below (T.setTop g) ((B.U.setTop { g with stack := rest }).pushFrame (.throwing q))) := by
  obtain ⟨mk, hnamed⟩ := Cond.code_named hcode
  obtain ⟨methM, cM, hmethM, -, -, -, -, -, -, hsigM⟩ := Cond.code_spec hnamed hcode
  have hstatic : methM.isStatic = true := Cond.static_spec hnamed hmethM hstat
  obtain ⟨kP, hkP, -⟩ := className_of_methodNamed hnamed
  have hinitP : kP.init = .initialized := Cond.initialized_spec (findClass_of_methodNamed hnamed) hkP hinit
  obtain ⟨vm₁, X₁, hstep₁⟩ := X.invokestatic hexec hown hlink hnamed hmethM hstatic hkP hinitP hy (g := g) hg (argsL := argsL) (rest := rest) (hlen _ hsigM) hstack hdg
  rcases hK m meth c ⟨T.setVm vm₁, locs, cells, slots⟩ { g with stack := rest } (.invokestatic index) mk argsL.toArray X₁ hg hsize hdg hW (X₁.named hnamed) (hpre vm₁ X₁.warmed) with ⟨v, B, X', hpost, hsteps⟩ | ⟨q, B, X', hpost, hsteps⟩
  · exact Or.inl ⟨v, vm₁, B, X₁.warmed, X', hpost, fun target h => hstep₁ _ fun acts => by rw [doInvoke_state]; exact hsteps.trans h⟩
  · exact Or.inr ⟨q, vm₁, B, X₁.warmed, X', hpost, hstep₁ _ fun acts => by rw [doInvoke_state]; exact hsteps⟩
end Calls
theorem vx_cls {s : State} {T : State} {vm₁ : Vm} {E : String} {k : ClassId} (hW : s.WarmedH vm₁) (h : (T.setVm vm₁).vm.findClass E = some k) : s.vm.findClass E = some k := by
  have h1 : vm₁.findClass E = some k := h
  rw [hW.alike.findClass] at h1
  exact h1
/-- the method's frame g, with q thrown over it -/
def vx_W (p : Program) (l : Launch) (e : Env) (R : Room) (s : State) (m : MethodId) (args : Array Value) (below : List Frame) (meth : Method) (c : Code) (H : Heap) (locs : List Loc) (cells slots : Nat) (Q : State → Prop) (g : JFrame) (q : Addr) : Prop :=
  ∀ T : State, T.heap = H → Stand p l e R s m args below meth c T locs cells slots → ∃ t, Steps p.tables e below ((T.setTop g).pushFrame (.throwing q)) t ∧ Q t
def vx_Run (p : Program) (l : Launch) (e : Env) (R : Room) (s : State) (m : MethodId) (args : Array Value) (below : List Frame) (meth : Method) (c : Code) (H : Heap) (locs : List Loc) (cells slots mc ms : Nat) (g : JFrame) (rest : List Value) (Qa : State → Outcome → State → Prop) (XC : String → State → State → Prop) (free : Addr → Prop) : Prop :=
  ∀ T : State, T.heap = H → Stand p l e R s m args below meth c T locs cells slots →
    (∃ (v : Option Value) (st₀ t T' : State) (L : List Loc), st₀.heap = H ∧ Stand p l e R s m args below meth c T' (locs ++ L) (cells + mc) (slots + ms) ∧ (∀ q ∈ L, free q.base) ∧ T'.heap = t.heap ∧ T'.vm = t.vm ∧ Qa st₀ (.returned v) t ∧
      Goes p e below T g T' { g with pc := g.pc + 3, stack := v.toList ++ rest }) ∨
    (∃ (q : Addr) (st₀ t T' : State) (L : List Loc) (E : String) (ce : Cell), st₀.heap = H ∧ Stand p l e R s m args below meth c T' (locs ++ L) (cells + mc) (slots + ms) ∧ (∀ z ∈ L, free z.base) ∧ T'.heap = t.heap ∧ T'.vm = t.vm ∧ XC E st₀ t ∧ t.heap[q]? = some ce ∧ ce.vm = .none ∧ s.vm.findClass E = some ce.cls ∧
      Steps p.tables e below (T.setTop g) ((T'.setTop { g with stack := rest }).pushFrame (.throwing q)))
def vx_X {S : Type} (px : S → Prop) (B : String → S → State → Prop) (A : Nat → Prop) : String → State → State → Prop := fun E st t => ∃ u : S, px u ∧ B E u t ∧ va_F A st t
section Runs
variable {p : Program} {l : Launch} {e : Env} {R : Room} {s : State} {m : MethodId} {args : Array Value} {below : List Frame} {meth : Method} {c : Code} {H : Heap} {locs : List Loc} {cells slots : Nat}
variable {y : MethodName} {bytes cc : ByteArray} {maxL nL mc ms n index : Nat} {ret : Option FieldType} {ws : List Cond} {rm : Room} {Pc : Array Value → State → Prop} {Qc : Array Value → State → Outcome → State → Prop} {XC : String → State → State → Prop} {free : Addr → Prop} {Ts : List Cond} {own C : String} {b : Addr} {As rest : List Value} {g : JFrame}
theorem vx_callBack (cb : CallB R s args own index y bytes maxL ret ws rm mc ms n) (hM : vx_Met l y ws rm Pc Qc XC mc ms free) (hbl : FrameBlind Pc) : vx_Back l R p e below s args y 3 8 (PreOf R mc ms Pc) (PostOf Qc mc ms free) (vx_Post XC mc ms free) := by
  obtain ⟨hrc, hrs, hfr, hlo, hws, hcw, -, hini, -⟩ := cb
  exact vx_back (bytes := bytes) (maxL := maxL) (ret := ret) hM hbl hrc hrs hfr hlo hws hcw (fun a' U hW => word_at hW (Or.inl (by first | rfl | simp [Cond.onTables, Cond.keeps, Cond.steady])) hini)
theorem vx_runV (S : CallFix p m c cc nL s args Ts own) (hM : vx_Met l y ws rm Pc Qc XC mc ms free) (cw : CallW R s args own C index y bytes maxL ret ws rm mc ms n) (hp : PreV s H C b Pc As)
    (hg : g.method = m) (hn : As.length = n) (hsize : g.locals.size = nL) (hstack : g.stack = As.reverse ++ .ref b :: rest) (hW : 2 * g.monitorRoom + (rest.map fun v => v.category).sum ≤ 8) (hdg : decode cc g.pc = .ok (.invokevirtual index, 3)) (hf : cells + mc ≤ R.cells ∧ slots + ms ≤ R.slots) :
    vx_Run p l e R s m args below meth c H locs cells slots mc ms g rest (Qc (Value.ref b :: As).toArray) XC free := by
  have hK : vx_Back l R p e below s args y 3 8 (PreOf R mc ms Pc) (PostOf Qc mc ms free) (vx_Post XC mc ms free) := vx_callBack cw.1 hM hp.1
  obtain ⟨⟨-, -, -, -, -, -, hcode, -, hy, hlen, hl⟩, hin, hse⟩ := cw
  obtain ⟨hx, hb, hml, ho, -⟩ := S
  obtain ⟨-, ⟨cellB, hcB, hoB, hclB⟩, hPc⟩ := hp
  intro T hT X
  rcases vx_callV X hx (C := C) (bytes := bytes) (maxL := maxL) (ret := ret) ho hl hin hse hcode hy hK (by rw [hT]; exact hcB) hoB hclB hg (hsize.trans hml.symm) (argsL := As) (rest := rest) (fun sig h => hn.trans (hlen sig h)) hstack hW (by rw [hb]; exact hdg)
    (fun vm₁ hW₁ => ⟨hf.1, hf.2, hPc (T.setVm vm₁) hT hW₁⟩) with ⟨v, vm₁, ⟨U', l2, c2, s2⟩, hW₁, X', ⟨g', mk, t, L, e1, e2, hq, h1, hL, h2, h3⟩, st⟩ | ⟨q, vm₁, ⟨U', l2, c2, s2⟩, hW₁, X', ⟨g', mk, t, L, E, ce, e1, e2, hq, hce, hcv, hcl, h1, hL, h2, h3⟩, st⟩
  · dsimp only [Pt.U, Pt.locs, Pt.cells, Pt.slots] at X' e1 e2 h1 h2 h3 st
    subst h1; subst h2; subst h3
    exact Or.inl ⟨v, (T.setVm vm₁).calling g' mk (Value.ref b :: As).toArray, t, U', L, hT, X', hL, e1, e2, hq, st⟩
  · dsimp only [Pt.U, Pt.locs, Pt.cells, Pt.slots] at X' e1 e2 h1 h2 h3 st hcl
    subst h1; subst h2; subst h3
    exact Or.inr ⟨q, (T.setVm vm₁).calling g' mk (Value.ref b :: As).toArray, t, U', L, E, ce, hT, X', hL, e1, e2, hq, hce, hcv, vx_cls hW₁ hcl, st⟩
theorem vx_runS (S : CallFix p m c cc nL s args Ts own) (hM : vx_Met l y ws rm Pc Qc XC mc ms free) (cw : CallB R s args own index y bytes maxL ret ws rm mc ms n ∧ (Cond.static y).before args s = true) (hp : PreS s H Pc As)
    (hg : g.method = m) (hn : As.length = n) (hsize : g.locals.size = nL) (hstack : g.stack = As.reverse ++ rest) (hW : 2 * g.monitorRoom + (rest.map fun v => v.category).sum ≤ 8) (hdg : decode cc g.pc = .ok (.invokestatic index, 3)) (hf : cells + mc ≤ R.cells ∧ slots + ms ≤ R.slots) :
    vx_Run p l e R s m args below meth c H locs cells slots mc ms g rest (Qc As.toArray) XC free := by
  have hK : vx_Back l R p e below s args y 3 8 (PreOf R mc ms Pc) (PostOf Qc mc ms free) (vx_Post XC mc ms free) := vx_callBack cw.1 hM hp.1
  obtain ⟨⟨-, -, -, -, -, -, hcode, hini, hy, hlen, hl⟩, hstt⟩ := cw
  obtain ⟨hx, hb, hml, ho, -⟩ := S
  intro T hT X
  rcases vx_callS X hx (bytes := bytes) (maxL := maxL) (ret := ret) ho hl hstt hini hcode hy hK hg (hsize.trans hml.symm) (argsL := As) (rest := rest) (fun sig h => hn.trans (hlen sig h)) hstack hW (by rw [hb]; exact hdg)
    (fun vm₁ hW₁ => ⟨hf.1, hf.2, hp.2 (T.setVm vm₁) hT hW₁⟩) with ⟨v, vm₁, ⟨U', l2, c2, s2⟩, hW₁, X', ⟨g', mk, t, L, e1, e2, hq, h1, hL, h2, h3⟩, st⟩ | ⟨q, vm₁, ⟨U', l2, c2, s2⟩, hW₁, X', ⟨g', mk, t, L, E, ce, e1, e2, hq, hce, hcv, hcl, h1, hL, h2, h3⟩, st⟩
  · dsimp only [Pt.U, Pt.locs, Pt.cells, Pt.slots] at X' e1 e2 h1 h2 h3 st
    subst h1; subst h2; subst h3
    exact Or.inl ⟨v, (T.setVm vm₁).calling g' mk As.toArray, t, U', L, hT, X', hL, e1, e2, hq, st⟩
  · dsimp only [Pt.U, Pt.locs, Pt.cells, Pt.slots] at X' e1 e2 h1 h2 h3 st hcl
    subst h1; subst h2; subst h3
    exact Or.inr ⟨q, (T.setVm vm₁).calling g' mk As.toArray, t, U', L, E, ce, hT, X', hL, e1, e2, hq, hce, hcv, vx_cls hW₁ hcl, st⟩
end Runs
section Rows
variable {p : Program} {l : Launch} {e : Env} {R : Room} {s : State} {m : MethodId} {args : Array Value} {below : List Frame} {meth : Method} {c : Code} {H : Heap} {locs : List Loc} {cells slots : Nat} {Q : State → Prop}
variable {mc ms : Nat} {free : Addr → Prop} {A0 A1 : Nat → Prop} {H0 : Heap} {a : Array Value} {pc : Nat} {ls : Array Slot} {st0 rest : List Value}
theorem vx_keep {st₀ t T' : State} {L : List Loc} (h0 : st₀.heap = H) (e1 : T'.heap = t.heap) (hS : va_S A0 H0 H locs) (hA : ∀ q, q < H.size → A1 q → A0 q) (hf : ∀ q, free q → A0 q) (hL : ∀ q ∈ L, free q.base) (hF : va_F A1 st₀ t) :
    H.size ≤ T'.heap.size ∧ (∀ q : Nat, q < H.size → ¬ A1 q → T'.heap[q]? = H[q]?) ∧ va_S A0 H0 T'.heap (locs ++ L) := by
  obtain ⟨hz, hk⟩ := hF
  rw [h0] at hz hk
  exact ⟨by rw [e1]; exact hz, fun q h1 h2 => by rw [e1]; exact hk q h1 h2,
    ⟨Nat.le_trans hS.1 (by rw [e1]; exact hz), fun q h1 h2 => by rw [e1, hk q (Nat.lt_of_lt_of_le h1 hS.1) (fun z => h2 (hA q (Nat.lt_of_lt_of_le h1 hS.1) z))]; exact hS.2.1 q h1 h2, fun q hq => by
      rcases List.mem_append.mp hq with h | h
      · exact hS.2.2 q h
      · exact hf _ (hL q h)⟩⟩
theorem vx_calli {S SX : Type} {post : Int32 → S → Prop} {px : SX → Prop} {B : S → State → Prop} {BX : String → SX → State → Prop} {AX : Nat → Prop} (hr : vx_Run p l e R s m args below meth c H locs cells slots mc ms (F0 m pc ls st0) rest (va_Qi post B A1 a) (vx_X px BX AX) free) (hS : va_S A0 H0 H locs) (hA : ∀ q, q < H.size → A1 q → A0 q) (hf : ∀ q, free q → A0 q) (hAX : ∀ q, q < H.size → AX q → A0 q)
    (kx : ∀ (E : String) (ce : Cell) (q9 : Addr) (u : SX) (t : State) (H1 : Heap) (locs1 : List Loc), t.heap = H1 → s.vm.Alike t.vm → px u → BX E u t → H.size ≤ H1.size → (∀ q : Nat, q < H.size → ¬ AX q → H1[q]? = H[q]?) → va_S A0 H0 H1 locs1 → H1[q9]? = some ce → ce.vm = .none → s.vm.findClass E = some ce.cls → vx_W p l e R s m args below meth c H1 locs1 (cells + mc) (slots + ms) Q (F0 m pc ls rest) q9)
    (kk : ∀ (r : Int32) (u : S) (t : State) (H1 : Heap) (locs1 : List Loc), t.heap = H1 → s.vm.Alike t.vm → post r u → B u t → H.size ≤ H1.size → (∀ q : Nat, q < H.size → ¬ A1 q → H1[q]? = H[q]?) → va_S A0 H0 H1 locs1 → W p l e R s m args below meth c H1 locs1 (cells + mc) (slots + ms) Q (F0 m (pc + 3) ls (.int r :: rest))) : W p l e R s m args below meth c H locs cells slots Q (F0 m pc ls st0) := by
  intro T hT X
  rcases hr T hT X with ⟨v, st₀, t, T', L, h0, X', hL, e1, e2, ⟨⟨r, u, hv, hp, hb⟩, hF⟩, st⟩ | ⟨q, st₀, t, T', L, E, ce, h0, X', hL, e1, e2, ⟨u, hp, hb, hF⟩, hce, hcv, hcl, st⟩
  · cases hv
    obtain ⟨k1, k2, k3⟩ := vx_keep h0 e1 hS hA hf hL hF
    obtain ⟨t2, a1, b1⟩ := kk r u t T'.heap (locs ++ L) e1.symm (by rw [← e2]; exact X'.warmed.alike) hp hb k1 k2 k3 T' rfl X'
    exact ⟨t2, st t2 a1, b1⟩
  · obtain ⟨k1, k2, k3⟩ := vx_keep h0 e1 hS hAX hf hL hF
    obtain ⟨t2, a1, b1⟩ := kx E ce q u t T'.heap (locs ++ L) e1.symm (by rw [← e2]; exact X'.warmed.alike) hp hb k1 k2 k3 (by rw [e1]; exact hce) hcv hcl T' rfl X'
    exact ⟨t2, st.trans a1, b1⟩
theorem vx_calll {S SX : Type} {post : Int64 → S → Prop} {px : SX → Prop} {B : S → State → Prop} {BX : String → SX → State → Prop} {AX : Nat → Prop} (hr : vx_Run p l e R s m args below meth c H locs cells slots mc ms (F0 m pc ls st0) rest (va_Ql post B A1 a) (vx_X px BX AX) free) (hS : va_S A0 H0 H locs) (hA : ∀ q, q < H.size → A1 q → A0 q) (hf : ∀ q, free q → A0 q) (hAX : ∀ q, q < H.size → AX q → A0 q)
    (kx : ∀ (E : String) (ce : Cell) (q9 : Addr) (u : SX) (t : State) (H1 : Heap) (locs1 : List Loc), t.heap = H1 → s.vm.Alike t.vm → px u → BX E u t → H.size ≤ H1.size → (∀ q : Nat, q < H.size → ¬ AX q → H1[q]? = H[q]?) → va_S A0 H0 H1 locs1 → H1[q9]? = some ce → ce.vm = .none → s.vm.findClass E = some ce.cls → vx_W p l e R s m args below meth c H1 locs1 (cells + mc) (slots + ms) Q (F0 m pc ls rest) q9)
    (kk : ∀ (r : Int64) (u : S) (t : State) (H1 : Heap) (locs1 : List Loc), t.heap = H1 → s.vm.Alike t.vm → post r u → B u t → H.size ≤ H1.size → (∀ q : Nat, q < H.size → ¬ A1 q → H1[q]? = H[q]?) → va_S A0 H0 H1 locs1 → W p l e R s m args below meth c H1 locs1 (cells + mc) (slots + ms) Q (F0 m (pc + 3) ls (.long r :: rest))) : W p l e R s m args below meth c H locs cells slots Q (F0 m pc ls st0) := by
  intro T hT X
  rcases hr T hT X with ⟨v, st₀, t, T', L, h0, X', hL, e1, e2, ⟨⟨r, u, hv, hp, hb⟩, hF⟩, st⟩ | ⟨q, st₀, t, T', L, E, ce, h0, X', hL, e1, e2, ⟨u, hp, hb, hF⟩, hce, hcv, hcl, st⟩
  · cases hv
    obtain ⟨k1, k2, k3⟩ := vx_keep h0 e1 hS hA hf hL hF
    obtain ⟨t2, a1, b1⟩ := kk r u t T'.heap (locs ++ L) e1.symm (by rw [← e2]; exact X'.warmed.alike) hp hb k1 k2 k3 T' rfl X'
    exact ⟨t2, st t2 a1, b1⟩
  · obtain ⟨k1, k2, k3⟩ := vx_keep h0 e1 hS hAX hf hL hF
    obtain ⟨t2, a1, b1⟩ := kx E ce q u t T'.heap (locs ++ L) e1.symm (by rw [← e2]; exact X'.warmed.alike) hp hb k1 k2 k3 (by rw [e1]; exact hce) hcv hcl T' rfl X'
    exact ⟨t2, st.trans a1, b1⟩
theorem vx_callf {S SX : Type} {post : UInt32 → S → Prop} {px : SX → Prop} {B : S → State → Prop} {BX : String → SX → State → Prop} {AX : Nat → Prop} (hr : vx_Run p l e R s m args below meth c H locs cells slots mc ms (F0 m pc ls st0) rest (va_Qf post B A1 a) (vx_X px BX AX) free) (hS : va_S A0 H0 H locs) (hA : ∀ q, q < H.size → A1 q → A0 q) (hf : ∀ q, free q → A0 q) (hAX : ∀ q, q < H.size → AX q → A0 q)
    (kx : ∀ (E : String) (ce : Cell) (q9 : Addr) (u : SX) (t : State) (H1 : Heap) (locs1 : List Loc), t.heap = H1 → s.vm.Alike t.vm → px u → BX E u t → H.size ≤ H1.size → (∀ q : Nat, q < H.size → ¬ AX q → H1[q]? = H[q]?) → va_S A0 H0 H1 locs1 → H1[q9]? = some ce → ce.vm = .none → s.vm.findClass E = some ce.cls → vx_W p l e R s m args below meth c H1 locs1 (cells + mc) (slots + ms) Q (F0 m pc ls rest) q9)
    (kk : ∀ (r : UInt32) (u : S) (t : State) (H1 : Heap) (locs1 : List Loc), t.heap = H1 → s.vm.Alike t.vm → post r u → B u t → H.size ≤ H1.size → (∀ q : Nat, q < H.size → ¬ A1 q → H1[q]? = H[q]?) → va_S A0 H0 H1 locs1 → W p l e R s m args below meth c H1 locs1 (cells + mc) (slots + ms) Q (F0 m (pc + 3) ls (.float r :: rest))) : W p l e R s m args below meth c H locs cells slots Q (F0 m pc ls st0) := by
  intro T hT X
  rcases hr T hT X with ⟨v, st₀, t, T', L, h0, X', hL, e1, e2, ⟨⟨r, u, hv, hp, hb⟩, hF⟩, st⟩ | ⟨q, st₀, t, T', L, E, ce, h0, X', hL, e1, e2, ⟨u, hp, hb, hF⟩, hce, hcv, hcl, st⟩
  · cases hv
    obtain ⟨k1, k2, k3⟩ := vx_keep h0 e1 hS hA hf hL hF
    obtain ⟨t2, a1, b1⟩ := kk r u t T'.heap (locs ++ L) e1.symm (by rw [← e2]; exact X'.warmed.alike) hp hb k1 k2 k3 T' rfl X'
    exact ⟨t2, st t2 a1, b1⟩
  · obtain ⟨k1, k2, k3⟩ := vx_keep h0 e1 hS hAX hf hL hF
    obtain ⟨t2, a1, b1⟩ := kx E ce q u t T'.heap (locs ++ L) e1.symm (by rw [← e2]; exact X'.warmed.alike) hp hb k1 k2 k3 (by rw [e1]; exact hce) hcv hcl T' rfl X'
    exact ⟨t2, st.trans a1, b1⟩
theorem vx_calld {S SX : Type} {post : UInt64 → S → Prop} {px : SX → Prop} {B : S → State → Prop} {BX : String → SX → State → Prop} {AX : Nat → Prop} (hr : vx_Run p l e R s m args below meth c H locs cells slots mc ms (F0 m pc ls st0) rest (va_Qd post B A1 a) (vx_X px BX AX) free) (hS : va_S A0 H0 H locs) (hA : ∀ q, q < H.size → A1 q → A0 q) (hf : ∀ q, free q → A0 q) (hAX : ∀ q, q < H.size → AX q → A0 q)
    (kx : ∀ (E : String) (ce : Cell) (q9 : Addr) (u : SX) (t : State) (H1 : Heap) (locs1 : List Loc), t.heap = H1 → s.vm.Alike t.vm → px u → BX E u t → H.size ≤ H1.size → (∀ q : Nat, q < H.size → ¬ AX q → H1[q]? = H[q]?) → va_S A0 H0 H1 locs1 → H1[q9]? = some ce → ce.vm = .none → s.vm.findClass E = some ce.cls → vx_W p l e R s m args below meth c H1 locs1 (cells + mc) (slots + ms) Q (F0 m pc ls rest) q9)
    (kk : ∀ (r : UInt64) (u : S) (t : State) (H1 : Heap) (locs1 : List Loc), t.heap = H1 → s.vm.Alike t.vm → post r u → B u t → H.size ≤ H1.size → (∀ q : Nat, q < H.size → ¬ A1 q → H1[q]? = H[q]?) → va_S A0 H0 H1 locs1 → W p l e R s m args below meth c H1 locs1 (cells + mc) (slots + ms) Q (F0 m (pc + 3) ls (.double r :: rest))) : W p l e R s m args below meth c H locs cells slots Q (F0 m pc ls st0) := by
  intro T hT X
  rcases hr T hT X with ⟨v, st₀, t, T', L, h0, X', hL, e1, e2, ⟨⟨r, u, hv, hp, hb⟩, hF⟩, st⟩ | ⟨q, st₀, t, T', L, E, ce, h0, X', hL, e1, e2, ⟨u, hp, hb, hF⟩, hce, hcv, hcl, st⟩
  · cases hv
    obtain ⟨k1, k2, k3⟩ := vx_keep h0 e1 hS hA hf hL hF
    obtain ⟨t2, a1, b1⟩ := kk r u t T'.heap (locs ++ L) e1.symm (by rw [← e2]; exact X'.warmed.alike) hp hb k1 k2 k3 T' rfl X'
    exact ⟨t2, st t2 a1, b1⟩
  · obtain ⟨k1, k2, k3⟩ := vx_keep h0 e1 hS hAX hf hL hF
    obtain ⟨t2, a1, b1⟩ := kx E ce q u t T'.heap (locs ++ L) e1.symm (by rw [← e2]; exact X'.warmed.alike) hp hb k1 k2 k3 (by rw [e1]; exact hce) hcv hcl T' rfl X'
    exact ⟨t2, st.trans a1, b1⟩
theorem vx_callv {S SX : Type} {post : S → Prop} {px : SX → Prop} {B : S → State → Prop} {BX : String → SX → State → Prop} {AX : Nat → Prop} (hr : vx_Run p l e R s m args below meth c H locs cells slots mc ms (F0 m pc ls st0) rest (va_Qv post B A1 a) (vx_X px BX AX) free) (hS : va_S A0 H0 H locs) (hA : ∀ q, q < H.size → A1 q → A0 q) (hf : ∀ q, free q → A0 q) (hAX : ∀ q, q < H.size → AX q → A0 q)
    (kx : ∀ (E : String) (ce : Cell) (q9 : Addr) (u : SX) (t : State) (H1 : Heap) (locs1 : List Loc), t.heap = H1 → s.vm.Alike t.vm → px u → BX E u t → H.size ≤ H1.size → (∀ q : Nat, q < H.size → ¬ AX q → H1[q]? = H[q]?) → va_S A0 H0 H1 locs1 → H1[q9]? = some ce → ce.vm = .none → s.vm.findClass E = some ce.cls → vx_W p l e R s m args below meth c H1 locs1 (cells + mc) (slots + ms) Q (F0 m pc ls rest) q9)
    (kk : ∀ (u : S) (t : State) (H1 : Heap) (locs1 : List Loc), t.heap = H1 → s.vm.Alike t.vm → post u → B u t → H.size ≤ H1.size → (∀ q : Nat, q < H.size → ¬ A1 q → H1[q]? = H[q]?) → va_S A0 H0 H1 locs1 → W p l e R s m args below meth c H1 locs1 (cells + mc) (slots + ms) Q (F0 m (pc + 3) ls (rest))) : W p l e R s m args below meth c H locs cells slots Q (F0 m pc ls st0) := by
  intro T hT X
  rcases hr T hT X with ⟨v, st₀, t, T', L, h0, X', hL, e1, e2, ⟨⟨u, hv, hp, hb⟩, hF⟩, st⟩ | ⟨q, st₀, t, T', L, E, ce, h0, X', hL, e1, e2, ⟨u, hp, hb, hF⟩, hce, hcv, hcl, st⟩
  · cases hv
    obtain ⟨k1, k2, k3⟩ := vx_keep h0 e1 hS hA hf hL hF
    obtain ⟨t2, a1, b1⟩ := kk u t T'.heap (locs ++ L) e1.symm (by rw [← e2]; exact X'.warmed.alike) hp hb k1 k2 k3 T' rfl X'
    exact ⟨t2, st t2 a1, b1⟩
  · obtain ⟨k1, k2, k3⟩ := vx_keep h0 e1 hS hAX hf hL hF
    obtain ⟨t2, a1, b1⟩ := kx E ce q u t T'.heap (locs ++ L) e1.symm (by rw [← e2]; exact X'.warmed.alike) hp hb k1 k2 k3 (by rw [e1]; exact hce) hcv hcl T' rfl X'
    exact ⟨t2, st.trans a1, b1⟩
/-- caught by the row x of this method's table; the rows ahead don't take it -/
theorem vx_catch {own name : String} {E : String} {ce : Cell} {q : Addr} (hown : s.vm.findClass own = some m.cls) (pre : List ExceptionTableEntry) (x : ExceptionTableEntry) (suf : List ExceptionTableEntry) (hsplit : c.exceptionTable.toList = pre ++ x :: suf)
    (hpass : ∀ z ∈ pre, covers z pc = false ∨ (z.catchType ≠ 0 ∧ ∃ nm : String, (Cond.classLink own z.catchType nm).before args s = true ∧ va_Nc E nm s)) (hx : covers x pc = true) (h0 : x.catchType ≠ 0)
    (hlink : (Cond.classLink own x.catchType name).before args s = true) (hcast : (Cond.castable E name).before args s = true) (hcell : H[q]? = some ce) (hv : ce.vm = .none) (hcl : s.vm.findClass E = some ce.cls)
    (kk : W p l e R s m args below meth c H locs cells slots Q (F0 m x.handlerPc ls [.ref q])) : vx_W p l e R s m args below meth c H locs cells slots Q (F0 m pc ls rest) q := by
  intro T hT X
  have hpl : e.platform.magicAccessors = ({} : Platform).magicAccessors := by rw [X.admits.platform]
  obtain ⟨c3, c4, hc3, hc4, hasg⟩ := Cond.castable_spec hcast
  cases Option.some.inj (hc3.symm.trans hcl)
  obtain ⟨c5, hc5, hcl5⟩ := Cond.classLink_spec hown hlink e.platform hpl
  cases Option.some.inj (hc4.symm.trans hc5)
  obtain ⟨vm', X', st⟩ := Jvm.Stand.thenCaughtThrough X q (g := F0 m pc ls rest) rfl (Steps.refl _) (by rw [hT]; exact hcell) (by rw [hv]; rfl) (by obtain ⟨k9, h9, -⟩ := Vm.findClass_spec hcl; exact ⟨k9, h9⟩) pre x suf hsplit
    (fun z hz => by
      rcases hpass z hz with h | ⟨hz0, nm, hl1, hn1⟩
      · exact Or.inl h
      · obtain ⟨c6, hc6, hcl6⟩ := Cond.classLink_spec hown hl1 e.platform hpl
        obtain ⟨a8, b8, h1, h2, h3⟩ := hn1
        cases Option.some.inj (h1.symm.trans hcl)
        cases Option.some.inj (h2.symm.trans hc6)
        exact Or.inr ⟨hz0, _, hcl6, h3⟩) hx (Or.inr ⟨h0, c4, hcl5, hasg⟩)
  obtain ⟨t, a1, b1⟩ := kk (T.setVm vm') hT X'
  exact ⟨t, st.trans a1, b1⟩
end Rows
section Ends
variable {p : Program} {l : Launch} {e : Env} {R : Room} {s : State} {m : MethodId} {args : Array Value} {below : List Frame} {meth : Method} {c : Code} {H : Heap} {locs : List Loc} {cells slots : Nat} {Q : State → Prop}
variable {mc ms : Nat} {free : Addr → Prop} {A0 A1 : Nat → Prop} {H0 : Heap} {a : Array Value} {ls : Array Slot} {st0 rest : List Value}
variable {Qc : Array Value → State → Outcome → State → Prop} {XC : String → State → State → Prop}
/-- what a body that may throw owes at its end -/
def vx_MQ (below : List Frame) (Qc : Array Value → State → Outcome → State → Prop) (XC : String → State → State → Prop) (a : Array Value) (s : State) (mc ms : Nat) (free : Addr → Prop) : State → Prop := fun t =>
  ∃ o, t.status = .running ∧ Ended t below o ∧ vx_Q Qc XC mc ms free a s o t
theorem vx_ret {g : JFrame} {mc ms : Nat} (k : W p l e R s m args below meth c H locs cells slots (MQ below Qc args s mc ms free) g) : W p l e R s m args below meth c H locs cells slots (vx_MQ below Qc XC args s mc ms free) g := by
  intro T hT X
  obtain ⟨t, a1, o, b1, b2, b3, b4⟩ := k T hT X
  exact ⟨t, a1, o, b1, b2, Or.inl ⟨b3, b4⟩⟩
/-- not caught here: it goes on to the caller -/
theorem vx_widen {g : JFrame} {q : Addr} {k n : Nat} (h1 : cells ≤ k) (h2 : slots ≤ n) (kk : vx_W p l e R s m args below meth c H locs k n Q g q) : vx_W p l e R s m args below meth c H locs cells slots Q g q := fun T hT X => kk T hT (stand_widen X h1 h2)
theorem vx_out {pc : Nat} {E : String} {ce : Cell} {q : Addr} {mc ms : Nat} (hout : ∀ x ∈ c.exceptionTable.toList, covers x pc = false) (hlocks : meth.locks = false) (hcell : H[q]? = some ce) (hv : ce.vm = .none) (hcl : s.vm.findClass E = some ce.cls)
    (hx : ∀ t : State, t.heap = H → s.vm.Alike t.vm → XC E s t) (hf : ∀ z ∈ locs, free z.base) (hc : cells ≤ mc) (hs : slots ≤ ms) :
    vx_W p l e R s m args below meth c H locs cells slots (vx_MQ below Qc XC args s mc ms free) (F0 m pc ls rest) q := by
  intro T hT X
  obtain ⟨st1, hrun, hend, hW, hsm⟩ := X.leaveThrown q (g := F0 m pc ls rest) rfl rfl rfl hout hlocks
  have hcell9 : (T.setFrames (.throwing q :: below)).heap[q]? = some ce := by
    show T.heap[q]? = some ce
    rw [hT]; exact hcell
  exact ⟨_, st1, .threw q, hrun, hend, Or.inr ⟨q, rfl, E, ce, locs, hx _ hT hW.alike, hcell9, hv, hcl, hW, hsm.mono hc hs, hf⟩⟩
theorem vx_frame {U : State} {k n : Nat} (h : s.sameButNew ({ U with vm := s.vm } : State) locs k n) : s.heap.size ≤ U.heap.size ∧ ∀ q : Nat, q < s.heap.size → (∀ z ∈ locs, z.base ≠ q) → U.heap[q]? = s.heap[q]? := by
  obtain ⟨-, h2, -, -, -, h6⟩ := h
  refine ⟨h2, fun q hq hz => ?_⟩
  obtain ⟨c9, e1, e2, e3, e4⟩ := h6 q _ (Array.getElem?_eq_getElem hq)
  have hs : c9.slots = (s.heap[q]).slots := Array.ext_getElem? fun i => e4 i fun hm => hz _ hm rfl
  have h9 : c9 = s.heap[q] := by
    rw [hs] at e2
    exact e2
  have e5 : U.heap[q]? = some c9 := e1
  rw [e5, h9, Array.getElem?_eq_getElem hq]
/-- the words of a throw but the four that speak of the heap -/
def vx_no (w : Cond) : Bool := decide (w ≠ .isRef (.static Bundle.tN "UNASSIGNED_STACK" Bundle.steD)) && decide (w ≠ .isRef (.static Bundle.tN "SUPPRESSED_SENTINEL" Bundle.listD)) && decide (w ≠ .laysStatic Bundle.tN "UNASSIGNED_STACK" Bundle.steD) && decide (w ≠ .laysStatic Bundle.tN "SUPPRESSED_SENTINEL" Bundle.listD)
def vx_at0 (own : String) (ic : Nat) (X : String) (names : List String) : List Cond := (Bundle.ownAtoms0 own ic X names).filter vx_no
def vx_atS (own : String) (ic : Nat) (X : String) (names : List String) : List Cond := (Bundle.ownAtoms own ic X names).filter vx_no
/-- a word that the tables alone decide, or a good one -/
def vx_ot (w : Cond) : Bool := w.onTables || goodWord w
theorem vx_ot_at {args a' : Array Value} {s U : State} {w : Cond} (hW : s.WarmedH U.vm) (hvm : s.vm = U.vm) (hg : vx_ot w = true) (h : w.before args s = true) : w.before a' U = true := by
  simp only [vx_ot, Bool.or_eq_true] at hg
  rcases hg with hg | hg
  · exact va_tabs hg hvm h
  · exact word_at hW (good_of_word hg) h
/-- a list's words: the good ones out of the method's own list, the others by premises of their own -/
theorem vx_hat {args : Array Value} {s : State} {L B : List Cond} (h1 : ∀ w ∈ L.filter goodWord, w.before args s = true) (h2 : ∀ w ∈ L.filter (fun w => !goodWord w), w ∈ B) (h3 : ∀ w ∈ B, w.before args s = true) : ∀ w ∈ L, w.before args s = true := by
  intro w hw
  by_cases g : goodWord w = true
  · exact h1 w (List.mem_filter.mpr ⟨hw, g⟩)
  · refine h3 w (h2 w (List.mem_filter.mpr ⟨hw, ?_⟩))
    show (!goodWord w) = true
    cases hgw : goodWord w
    · rfl
    · exact absurd hgw g
theorem vx_c {args : Array Value} {s : State} {w : Cond} {B : List Cond} (h : w.before args s = true) (t : ∀ w ∈ B, w.before args s = true) : ∀ w' ∈ w :: B, w'.before args s = true := fun w' h' => (List.mem_cons.mp h').elim (fun e => by rw [e]; exact h) (t w')
theorem vx_n {args : Array Value} {s : State} : ∀ w ∈ ([] : List Cond), w.before args s = true := fun _ h => nomatch h
theorem vx_own {args : Array Value} {s : State} {L : List Cond} (h1 : ∀ w ∈ L.filter vx_no, w.before args s = true)
    (hU : (Cond.isRef (.static Bundle.tN "UNASSIGNED_STACK" Bundle.steD)).before args s = true) (hN : (Cond.isRef (.static Bundle.tN "SUPPRESSED_SENTINEL" Bundle.listD)).before args s = true)
    (lU : (Cond.laysStatic Bundle.tN "UNASSIGNED_STACK" Bundle.steD).before args s = true) (lN : (Cond.laysStatic Bundle.tN "SUPPRESSED_SENTINEL" Bundle.listD).before args s = true) : ∀ w ∈ L, w.before args s = true := by
  intro w hw
  by_cases e1 : w = .isRef (.static Bundle.tN "UNASSIGNED_STACK" Bundle.steD)
  · rw [e1]; exact hU
  · by_cases e2 : w = .isRef (.static Bundle.tN "SUPPRESSED_SENTINEL" Bundle.listD)
    · rw [e2]; exact hN
    · by_cases e3 : w = .laysStatic Bundle.tN "UNASSIGNED_STACK" Bundle.steD
      · rw [e3]; exact lU
      · by_cases e4 : w = .laysStatic Bundle.tN "SUPPRESSED_SENTINEL" Bundle.listD
        · rw [e4]; exact lN
        · exact h1 w (List.mem_filter.mpr ⟨hw, by unfold vx_no; rw [decide_eq_true e1, decide_eq_true e2, decide_eq_true e3, decide_eq_true e4]; rfl⟩)
/-- where a static field lies, its class's statics cell in H -/
def vx_L (C n d : String) (A : Nat → Prop) (U : State) (H : Heap) : Prop := ∃ (c : ClassId) (k : Class) (i : Nat) (f : Field) (a : Nat) (cell : Cell), U.vm.findClass C = some c ∧ U.fieldFound? C n d = some (c, k, i, f) ∧ f.isStatic = true ∧ k.statics = some a ∧ H[a]? = some cell ∧ cell.vm.isStatics = true ∧ cell.cls = c ∧ f.slot < cell.slots.size ∧ k.staticTypes[f.slot]? = some f.type ∧ ¬ A a
theorem vx_L.moved {C n d : String} {A : Nat → Prop} {u U : State} {H : Heap} (hvm : u.vm.Alike U.vm) (h : vx_L C n d A u H) : vx_L C n d A U H := by
  obtain ⟨c, k, i, f, a, cell, h1, h2, h3, h4, h5, h6, h7, h8, h9, h10⟩ := h
  obtain ⟨k', hi', he⟩ := State.fieldFound?_setVm hvm h2
  exact ⟨c, k', i, f, a, cell, by rw [hvm.findClass]; exact h1, hi', h3, by rw [he]; exact h4, h5, h6, h7, h8, by rw [he]; exact h9, h10⟩
theorem vx_L.kept {C n d : String} {A : Nat → Prop} {U : State} {H H1 : Heap} (h : vx_L C n d A U H) (hq : ∀ a : Nat, a < H.size → ¬ A a → H1[a]? = H[a]?) : vx_L C n d A U H1 := by
  obtain ⟨c, k, i, f, a, cell, h1, h2, h3, h4, h5, h6, h7, h8, h9, h10⟩ := h
  exact ⟨c, k, i, f, a, cell, h1, h2, h3, h4, by rw [hq a (Array.getElem?_eq_some_iff.mp h5).1 h10]; exact h5, h6, h7, h8, h9, h10⟩
theorem vx_L.narrow {C n d : String} {A B : Nat → Prop} {U : State} {H : Heap} (h : vx_L C n d A U H) (hAB : ∀ q, B q → A q) : vx_L C n d B U H := by
  obtain ⟨c, k, i, f, a, cell, h1, h2, h3, h4, h5, h6, h7, h8, h9, h10⟩ := h
  exact ⟨c, k, i, f, a, cell, h1, h2, h3, h4, h5, h6, h7, h8, h9, fun z => h10 (hAB _ z)⟩
theorem vx_L.word {C n d : String} {A : Nat → Prop} {s : State} {args : Array Value} (h : vx_L C n d A s s.heap) : (Cond.laysStatic C n d).before args s = true := by
  obtain ⟨c, k, i, f, a, cell, h1, h2, h3, h4, h5, h6, h7, h8, h9, -⟩ := h
  show (Cond.laysStatic C n d).holds args s none s [] = true
  exact Cond.laysStatic_of h1 h2 h3 h4 h5 h6 h7 h8 h9
/-- .. and what it holds: null or some reference -/
def vx_Zq (C n d : String) (A : Nat → Prop) (U : State) (H : Heap) : Prop := va_Zq C n d A U H ∧ vx_L C n d A U H
theorem vx_Zq.moved {C n d : String} {A : Nat → Prop} {u U : State} {H : Heap} (hvm : u.vm.Alike U.vm) (h : vx_Zq C n d A u H) : vx_Zq C n d A U H := ⟨va_Zq.moved hvm h.1, vx_L.moved hvm h.2⟩
theorem vx_Zq.kept {C n d : String} {A : Nat → Prop} {U : State} {H H1 : Heap} (h : vx_Zq C n d A U H) (hq : ∀ a : Nat, a < H.size → ¬ A a → H1[a]? = H[a]?) : vx_Zq C n d A U H1 := ⟨va_Zq.kept h.1 hq, vx_L.kept h.2 hq⟩
theorem vx_Zq.narrow {C n d : String} {A B : Nat → Prop} {U : State} {H : Heap} (h : vx_Zq C n d A U H) (hAB : ∀ q, B q → A q) : vx_Zq C n d B U H := ⟨va_Zq.narrow h.1 hAB, vx_L.narrow h.2 hAB⟩
theorem vx_Zqof {args : Array Value} {s : State} {C n d : String} {A : Nat → Prop} (hl : (Cond.laysStatic C n d).before args s = true) (hini : (Cond.initialized C).before args s = true) (h : (Cond.isRef (.static C n d)).before args s = true) (hA : ∀ a : Nat, a < s.heap.size → ¬ A a) : vx_Zq C n d A s s.heap := by
  refine ⟨va_Zqof hl hini h hA, ?_⟩
  obtain ⟨c, k, i, f, a, cell, h1, h2, h3, h4, h5, h6, h7, h8, h9⟩ := Cond.laysStatic_spec hl
  exact ⟨c, k, i, f, a, cell, h1, h2, h3, h4, h5, h6, h7, h8, h9, hA a (Array.getElem?_eq_some_iff.mp h5).1⟩
theorem vx_isRef {C n d : String} {v : Value} {A : Nat → Prop} {s : State} {args : Array Value} (h : va_Z C n d v A s s.heap) (hv : v.isRef = true) : (Cond.isRef (.static C n d)).before args s = true := by
  obtain ⟨cf, kf, fi, f, a, cell, h1, h2, h3, h4, h5, h6, h7, -⟩ := h
  have he : (Term.static C n d).eval args s none [] s = some v := by
    simp [Term.eval, State.fieldNamed?, h1, h2, h4, h5, h6, h7]
  simp only [Cond.before, Cond.holds, Cond.value, he]
  cases v <;> simp_all [Value.isRef]
theorem vx_isRefq {C n d : String} {A : Nat → Prop} {s : State} {args : Array Value} (h : va_Zq C n d A s s.heap) : (Cond.isRef (.static C n d)).before args s = true := by
  rcases h with h | ⟨t, h⟩
  · exact vx_isRef h rfl
  · exact vx_isRef h rfl
/-- the same frame, seen from here: as if the method were called anew in this heap -/
theorem vx_rebase {T : State} (X : Stand p l e R s m args below meth c T locs cells slots) {R' : Room} (hf : R'.frames ≤ R.frames) (hl : R'.locals ≤ R.locals) (hc : cells + R'.cells ≤ R.cells) (hs : slots + R'.slots ≤ R.slots) :
    Stand p l e R' ((T.setVm s.vm).setFrames (.invoking m args :: below)) m args below meth c T [] 0 0 := by
  have htop : (T.setVm s.vm).topJava?.isSome := X.here.top
  have hF : ((T.setVm s.vm).setFrames (.invoking m args :: below)).frames = .invoking m args :: below := State.frames_setFrames _ (State.cur_lt_of_top htop)
  obtain ⟨g₀, hg0⟩ := Option.isSome_iff_exists.mp htop
  obtain ⟨r, hr⟩ := State.topJava?_eq_some.mp hg0
  have hl9 : e.platform.stackLimits (T.setVm s.vm).me = e.platform.stackLimits s.me := X.limits
  have hb9 : (T.setVm s.vm).me.stackBytes = s.me.stackBytes := X.bytes
  refine ⟨X.admits, X.cas, X.clock, hF, ?_, X.hears, X.method, X.code, X.here, X.tail, X.warmed, ?_, ?_, ?_⟩
  · have h := X.room
    have hU : ((T.setVm s.vm).setFrames (.invoking m args :: below)).localsInUse = s.localsInUse := by
      rw [State.localsInUse_invoking hF (meth := meth) (c := c) X.method X.code, State.localsInUse_invoking X.frames X.method X.code]
    simp only [State.hasRoom, Bool.and_eq_true, decide_eq_true_eq] at h ⊢
    obtain ⟨⟨⟨⟨h1, h2, h3, h4, h5, h6⟩, h7⟩, h8⟩, h9⟩ := h
    rw [X.frames, List.length_cons] at h2 h3
    have q1 := X.heapSize
    have q2 := X.used
    simp only [hF, hU, List.length_cons, State.stackLimits_setFrames, State.stackBytes_setFrames, hl9, hb9]
    refine ⟨⟨⟨⟨by omega, by omega, by omega, by omega, by omega, h6⟩, ?_⟩, ?_⟩, X.book⟩
    · show T.heap.size + R'.cells ≤ e.platform.maxCells
      omega
    · show T.slotsUsed + R'.slots ≤ e.platform.maxSlots
      omega
  · rw [State.stackLimits_setFrames]; rfl
  · rw [State.stackBytes_setFrames]; rfl
  · refine ⟨?_, Nat.le_refl _, Nat.le_refl _, ?_, ?_, fun a c9 h9 => ⟨c9, h9, rfl, rfl, fun _ _ => rfl⟩⟩
    · obtain ⟨t, ht, -⟩ := State.frames_cons hr
      show T.setVm s.vm = { ((T.setVm s.vm).setFrames (.invoking m args :: below)).setFrames (T.setVm s.vm).frames with heap := T.heap, slotsUsed := T.slotsUsed }
      rw [State.setFrames_setFrames, State.setFrames_self ht]
      rfl
    · show T.slotsUsed = T.slotsUsed + ((T.heap.toList.drop T.heap.size).map (·.slots.size)).sum
      rw [List.drop_eq_nil_of_le (Nat.le_of_eq Array.length_toList)]
      rfl
    · show ((T.heap.toList.drop T.heap.size).map (·.slots.size)).sum ≤ 0
      rw [List.drop_eq_nil_of_le (Nat.le_of_eq Array.length_toList)]
      exact Nat.le_refl _
/-- 'throw new E()': new; dup; invokespecial; athrow -/
theorem vx_throw0 {cc : ByteArray} {pc : Nat} (hexec : p.tables.exec = Jvm.exec) (hb : c.code = cc) (hl : l.stackTraces = false) {own cls : String} {names : List String} {ik ic mc ms : Nat} {A : Nat → Prop}
    (hown : s.vm.findClass own = some m.cls) (hcls : Bundle.fit cls = true) (hnames : ∀ n ∈ names, Bundle.fit n = true)
    (hk : (Cond.classLink own ik cls).before args s = true) (hini : (Cond.initialized cls).before args s = true) (hat : ∀ w ∈ vx_at0 own ic cls names, w.before args s = true)
    (hgood : ∀ w ∈ Cond.classLink own ik cls :: Cond.initialized cls :: vx_at0 own ic cls names, vx_ot w = true)
    (hU : vx_Zq Bundle.tN "UNASSIGNED_STACK" Bundle.steD A s s.heap) (hN : vx_Zq Bundle.tN "SUPPRESSED_SENTINEL" Bundle.listD A s s.heap) (hS : va_S A s.heap H locs) (hsize : ls.size = c.maxLocals)
    (d0 : decode cc pc = .ok (.new ik, 3)) (d3 : decode cc (pc + 3) = .ok (.dup, 1)) (d4 : decode cc (pc + 4) = .ok (.invokespecial ic, 3)) (d7 : decode cc (pc + 7) = .ok (.athrow, 1))
    (hout : ∀ x ∈ c.exceptionTable.toList, covers x (pc + 7) = false)
    (hRframes : names.length + 3 < R.frames) (hRlocals : (rest.map fun v => v.category).sum + (13 * (names.length + 1) + 42) ≤ R.locals) (hRcells : cells + 1 ≤ R.cells) (hRslots : slots + 6 ≤ R.slots) (hlocks : meth.locks = false)
    (hx : ∀ t : State, s.vm.Alike t.vm → H.size ≤ t.heap.size → (∀ q : Nat, q < H.size → t.heap[q]? = H[q]?) → XC cls s t)
    (hf : ∀ z ∈ locs, free z.base) (hc : cells + 1 ≤ mc) (hs : slots + 6 ≤ ms) :
    W p l e R s m args below meth c H locs cells slots (vx_MQ below Qc XC args s mc ms free) (F0 m pc ls rest) := by
  intro T hT X
  have htr : e.platform.stackTraces = false := (show e.platform.stackTraces = l.stackTraces by rw [X.admits.platform]).trans hl
  have Y := vx_rebase X (R' := { frames := R.frames, locals := R.locals, cells := 1, slots := 6 }) (Nat.le_refl _) (Nat.le_refl _) hRcells hRslots
  obtain ⟨s', hA⟩ : ∃ z, z = (T.setVm s.vm).setFrames (.invoking m args :: below) := ⟨_, rfl⟩
  rw [← hA] at Y
  have hvm : s'.vm = s.vm := by rw [hA]; rfl
  have hhp : s'.heap = H := by rw [hA]; exact hT
  have hW0 : s.WarmedH s'.vm := by rw [hvm]; exact State.WarmedH.refl s
  have hat' : ∀ w ∈ vx_at0 own ic cls names, w.before args s' = true := fun w hw => vx_ot_at hW0 hvm.symm (hgood w (List.mem_cons_of_mem _ (List.mem_cons_of_mem _ hw))) (hat w hw)
  have hk' : (Cond.classLink own ik cls).before args s' = true := vx_ot_at hW0 hvm.symm (hgood _ List.mem_cons_self) hk
  have hini' : (Cond.initialized cls).before args s' = true := vx_ot_at hW0 hvm.symm (hgood _ (List.mem_cons_of_mem _ List.mem_cons_self)) hini
  have hU' : vx_Zq Bundle.tN "UNASSIGNED_STACK" Bundle.steD A s' s'.heap := by rw [hhp]; exact vx_Zq.moved hW0.alike (hU.kept hS.2.1)
  have hN' : vx_Zq Bundle.tN "SUPPRESSED_SENTINEL" Bundle.listD A s' s'.heap := by rw [hhp]; exact vx_Zq.moved hW0.alike (hN.kept hS.2.1)
  have h : ∀ w ∈ Bundle.ownAtoms0 own ic cls names, w.before args s' = true := vx_own hat' (vx_isRefq hU'.1) (vx_isRefq hN'.1) hU'.2.word hN'.2.word
  have hown' : s'.vm.findClass own = some m.cls := by rw [hvm]; exact hown
  have hins : (Cond.instantiable cls 6).before args s' = true := h _ (by simp [Bundle.ownAtoms0])
  obtain ⟨vm₁, cX, kX, hfX, hkX, -, -, X₁, st1⟩ := Y.newCold hexec (own := own) (C := cls) (index := ik) (n := 6) hown' hk' hins hini'
    (g := F0 m pc ls rest) rfl (by rw [hb]; exact d0) (Nat.le_refl _) (Nat.le_refl _)
  generalize hT1 : (T.setVm vm₁).pushCell { cls := cX, slots := kX.instanceTypes.map defaultValue, vm := .none } = T1 at X₁ st1
  have hcat : (Value.ref T.heap.size).category = 1 := rfl
  have hcellA : T1.heap[T.heap.size]? = some (freshCell cX kX) := by rw [← hT1]; exact State.heap_pushCell_size _ _
  have d3' : decode c.code (pc + 3) = .ok (.dup, 1) := by rw [hb]; exact d3
  obtain ⟨U, hsteps, hrun, hend, hW, hsame, ce, hce, hO⟩ := X₁.ctorThrow0 hexec htr (own := own) (cls := cls) (names := names) (ic := ic) hown' hcls hnames h (fun x hx => nomatch hx) hfX hkX hcellA (by rw [hhp, hT]; exact Nat.le_refl _)
    (g := { method := m, pc := pc + 4, locals := ls, stack := .ref T.heap.size :: .ref T.heap.size :: rest, locked := none }) rfl hsize rfl rfl (rest := rest) rfl
    (by rw [hb]; exact d4) (by rw [hb]; exact d7) hout hRframes (by simp only [List.map_cons, List.sum_cons, hcat]; omega) hlocks
  obtain ⟨f1, f2⟩ := vx_frame hsame
  rw [hhp] at f1 f2
  have hWs : s.WarmedH U.vm := State.WarmedH.trans hW0 hW
  have hcl : s.vm.findClass cls = some ce.cls := by
    have h9 := hO.cls
    rw [hvm] at h9
    exact h9
  have hall : s.sameButNew ({ U with vm := s.vm } : State) locs mc ms := by
    subst hA
    obtain ⟨e1, e2⟩ := hsame
    rw [State.setFrames_setFrames] at e1
    have h2 : (T.setVm s.vm).sameButNew ({ U with vm := s.vm } : State) [] (0 + 1) (0 + 6) := ⟨e1, e2⟩
    have h3 := X.same.trans h2
    rw [List.append_nil] at h3
    exact h3.mono hc hs
  refine ⟨U, ?_, .threw T.heap.size, hrun, hend, Or.inr ⟨T.heap.size, rfl, cls, ce, locs, hx U hWs.alike f1 (fun q hq => f2 q hq (fun z hz => nomatch hz)), hce, hO.vm, hcl, hWs, hall, hf⟩⟩
  refine st1 _ ?_
  show Steps p.tables e below (T1.setTop { method := m, pc := pc + 3, locals := ls, stack := .ref T.heap.size :: rest, locked := none }) _
  jvm_step X₁.here [X₁.here.top, hexec, d3', Value.category]
  exact hsteps
/-- 'throw new E("text")': new; dup; ldc; invokespecial; athrow -/
theorem vx_throwS {cc : ByteArray} {pc : Nat} (hexec : p.tables.exec = Jvm.exec) (hb : c.code = cc) (hl : l.stackTraces = false) {own cls text : String} {names : List String} {ik is ic mc ms sa : Nat} {A : Nat → Prop}
    (hown : s.vm.findClass own = some m.cls) (hcls : Bundle.fit cls = true) (hnames : ∀ n ∈ names, Bundle.fit n = true)
    (hk : (Cond.classLink own ik cls).before args s = true) (hini : (Cond.initialized cls).before args s = true) (hstr : vk_R own is text sa s) (hat : ∀ w ∈ vx_atS own ic cls names, w.before args s = true)
    (hgood : ∀ w ∈ Cond.classLink own ik cls :: Cond.initialized cls :: vx_atS own ic cls names, vx_ot w = true)
    (hU : vx_Zq Bundle.tN "UNASSIGNED_STACK" Bundle.steD A s s.heap) (hN : vx_Zq Bundle.tN "SUPPRESSED_SENTINEL" Bundle.listD A s s.heap) (hS : va_S A s.heap H locs) (hsize : ls.size = c.maxLocals)
    (d0 : decode cc pc = .ok (.new ik, 3)) (d3 : decode cc (pc + 3) = .ok (.dup, 1)) (d4 : decode cc (pc + 4) = .ok (.ldc is, 2)) (d6 : decode cc (pc + 6) = .ok (.invokespecial ic, 3)) (d9 : decode cc (pc + 9) = .ok (.athrow, 1))
    (hout : ∀ x ∈ c.exceptionTable.toList, covers x (pc + 9) = false)
    (hRframes : names.length + 3 < R.frames) (hRlocals : (rest.map fun v => v.category).sum + (13 * (names.length + 1) + 43) ≤ R.locals) (hRcells : cells + 1 ≤ R.cells) (hRslots : slots + 6 ≤ R.slots) (hlocks : meth.locks = false)
    (hx : ∀ t : State, s.vm.Alike t.vm → H.size ≤ t.heap.size → (∀ q : Nat, q < H.size → t.heap[q]? = H[q]?) → XC cls s t)
    (hf : ∀ z ∈ locs, free z.base) (hc : cells + 1 ≤ mc) (hs : slots + 6 ≤ ms) :
    W p l e R s m args below meth c H locs cells slots (vx_MQ below Qc XC args s mc ms free) (F0 m pc ls rest) := by
  intro T hT X
  have htr : e.platform.stackTraces = false := (show e.platform.stackTraces = l.stackTraces by rw [X.admits.platform]).trans hl
  have Y := vx_rebase X (R' := { frames := R.frames, locals := R.locals, cells := 1, slots := 6 }) (Nat.le_refl _) (Nat.le_refl _) hRcells hRslots
  obtain ⟨s', hA⟩ : ∃ z, z = (T.setVm s.vm).setFrames (.invoking m args :: below) := ⟨_, rfl⟩
  rw [← hA] at Y
  have hvm : s'.vm = s.vm := by rw [hA]; rfl
  have hhp : s'.heap = H := by rw [hA]; exact hT
  have hW0 : s.WarmedH s'.vm := by rw [hvm]; exact State.WarmedH.refl s
  have hat' : ∀ w ∈ vx_atS own ic cls names, w.before args s' = true := fun w hw => vx_ot_at hW0 hvm.symm (hgood w (List.mem_cons_of_mem _ (List.mem_cons_of_mem _ hw))) (hat w hw)
  have hk' : (Cond.classLink own ik cls).before args s' = true := vx_ot_at hW0 hvm.symm (hgood _ List.mem_cons_self) hk
  have hini' : (Cond.initialized cls).before args s' = true := vx_ot_at hW0 hvm.symm (hgood _ (List.mem_cons_of_mem _ List.mem_cons_self)) hini
  have hU' : vx_Zq Bundle.tN "UNASSIGNED_STACK" Bundle.steD A s' s'.heap := by rw [hhp]; exact vx_Zq.moved hW0.alike (hU.kept hS.2.1)
  have hN' : vx_Zq Bundle.tN "SUPPRESSED_SENTINEL" Bundle.listD A s' s'.heap := by rw [hhp]; exact vx_Zq.moved hW0.alike (hN.kept hS.2.1)
  have h : ∀ w ∈ Bundle.ownAtoms own ic cls names, w.before args s' = true := vx_own hat' (vx_isRefq hU'.1) (vx_isRefq hN'.1) hU'.2.word hN'.2.word
  have hown' : s'.vm.findClass own = some m.cls := by rw [hvm]; exact hown
  have hins : (Cond.instantiable cls 6).before args s' = true := h _ (by simp [Bundle.ownAtoms])
  obtain ⟨vm₁, cX, kX, hfX, hkX, -, -, X₁, st1⟩ := Y.newCold hexec (own := own) (C := cls) (index := ik) (n := 6) hown' hk' hins hini'
    (g := F0 m pc ls rest) rfl (by rw [hb]; exact d0) (Nat.le_refl _) (Nat.le_refl _)
  generalize hT1 : (T.setVm vm₁).pushCell { cls := cX, slots := kX.instanceTypes.map defaultValue, vm := .none } = T1 at X₁ st1
  have hcat : (Value.ref T.heap.size).category = 1 := rfl
  have hcellA : T1.heap[T.heap.size]? = some (freshCell cX kX) := by rw [← hT1]; exact State.heap_pushCell_size _ _
  have d3' : decode c.code (pc + 3) = .ok (.dup, 1) := by rw [hb]; exact d3
  have d4' : decode c.code (pc + 4) = .ok (.ldc is, 2) := by rw [hb]; exact d4
  have hstr' : vk_R own is text sa s' := vk_R.warm hW0 hstr
  obtain ⟨U, hsteps, hrun, hend, hW, hsame, ce, hce, hO⟩ := X₁.ctorThrowS hexec htr (own := own) (cls := cls) (names := names) (ic := ic) hown' hcls hnames h (fun x hx => nomatch hx) hfX hkX hcellA (by rw [hhp, hT]; exact Nat.le_refl _) (msg := .ref sa) rfl
    (g := { method := m, pc := pc + 6, locals := ls, stack := .ref sa :: .ref T.heap.size :: .ref T.heap.size :: rest, locked := none }) rfl hsize rfl rfl (rest := rest) rfl
    (by rw [hb]; exact d6) (by rw [hb]; exact d9) hout hRframes (by simp only [List.map_cons, List.sum_cons, hcat]; omega) hlocks
  obtain ⟨f1, f2⟩ := vx_frame hsame
  rw [hhp] at f1 f2
  have hWs : s.WarmedH U.vm := State.WarmedH.trans hW0 hW
  have hcl : s.vm.findClass cls = some ce.cls := by
    have h9 := hO.cls
    rw [hvm] at h9
    exact h9
  have hall : s.sameButNew ({ U with vm := s.vm } : State) locs mc ms := by
    subst hA
    obtain ⟨e1, e2⟩ := hsame
    rw [State.setFrames_setFrames] at e1
    have h2 : (T.setVm s.vm).sameButNew ({ U with vm := s.vm } : State) [] (0 + 1) (0 + 6) := ⟨e1, e2⟩
    have h3 := X.same.trans h2
    rw [List.append_nil] at h3
    exact h3.mono hc hs
  refine ⟨U, ?_, .threw T.heap.size, hrun, hend, Or.inr ⟨T.heap.size, rfl, cls, ce, locs, hx U hWs.alike f1 (fun q hq => f2 q hq (fun z hz => nomatch hz)), hce, hO.vm, hcl, hWs, hall, hf⟩⟩
  refine st1 _ ?_
  show Steps p.tables e below (T1.setTop { method := m, pc := pc + 3, locals := ls, stack := .ref T.heap.size :: rest, locked := none }) _
  jvm_step X₁.here [X₁.here.top, hexec, d3', Value.category]
  exact X₁.ldcString hexec (own := own) (text := text) (index := is) (a := sa) hown' hstr'.1 hstr'.2
    (g := { method := m, pc := pc + 4, locals := ls, stack := .ref T.heap.size :: .ref T.heap.size :: rest, locked := none }) rfl d4' _ hsteps
/-- 'throw new E("text")', the text by a wide index -/
theorem vx_throwSW {cc : ByteArray} {pc : Nat} (hexec : p.tables.exec = Jvm.exec) (hb : c.code = cc) (hl : l.stackTraces = false) {own cls text : String} {names : List String} {ik is ic mc ms sa : Nat} {A : Nat → Prop}
    (hown : s.vm.findClass own = some m.cls) (hcls : Bundle.fit cls = true) (hnames : ∀ n ∈ names, Bundle.fit n = true)
    (hk : (Cond.classLink own ik cls).before args s = true) (hini : (Cond.initialized cls).before args s = true) (hstr : vk_R own is text sa s) (hat : ∀ w ∈ vx_atS own ic cls names, w.before args s = true)
    (hgood : ∀ w ∈ Cond.classLink own ik cls :: Cond.initialized cls :: vx_atS own ic cls names, vx_ot w = true)
    (hU : vx_Zq Bundle.tN "UNASSIGNED_STACK" Bundle.steD A s s.heap) (hN : vx_Zq Bundle.tN "SUPPRESSED_SENTINEL" Bundle.listD A s s.heap) (hS : va_S A s.heap H locs) (hsize : ls.size = c.maxLocals)
    (d0 : decode cc pc = .ok (.new ik, 3)) (d3 : decode cc (pc + 3) = .ok (.dup, 1)) (d4 : decode cc (pc + 4) = .ok (.ldc_w is, 3)) (d7 : decode cc (pc + 7) = .ok (.invokespecial ic, 3)) (d10 : decode cc (pc + 10) = .ok (.athrow, 1))
    (hout : ∀ x ∈ c.exceptionTable.toList, covers x (pc + 10) = false)
    (hRframes : names.length + 3 < R.frames) (hRlocals : (rest.map fun v => v.category).sum + (13 * (names.length + 1) + 43) ≤ R.locals) (hRcells : cells + 1 ≤ R.cells) (hRslots : slots + 6 ≤ R.slots) (hlocks : meth.locks = false)
    (hx : ∀ t : State, s.vm.Alike t.vm → H.size ≤ t.heap.size → (∀ q : Nat, q < H.size → t.heap[q]? = H[q]?) → XC cls s t)
    (hf : ∀ z ∈ locs, free z.base) (hc : cells + 1 ≤ mc) (hs : slots + 6 ≤ ms) :
    W p l e R s m args below meth c H locs cells slots (vx_MQ below Qc XC args s mc ms free) (F0 m pc ls rest) := by
  intro T hT X
  have htr : e.platform.stackTraces = false := (show e.platform.stackTraces = l.stackTraces by rw [X.admits.platform]).trans hl
  have Y := vx_rebase X (R' := { frames := R.frames, locals := R.locals, cells := 1, slots := 6 }) (Nat.le_refl _) (Nat.le_refl _) hRcells hRslots
  obtain ⟨s', hA⟩ : ∃ z, z = (T.setVm s.vm).setFrames (.invoking m args :: below) := ⟨_, rfl⟩
  rw [← hA] at Y
  have hvm : s'.vm = s.vm := by rw [hA]; rfl
  have hhp : s'.heap = H := by rw [hA]; exact hT
  have hW0 : s.WarmedH s'.vm := by rw [hvm]; exact State.WarmedH.refl s
  have hat' : ∀ w ∈ vx_atS own ic cls names, w.before args s' = true := fun w hw => vx_ot_at hW0 hvm.symm (hgood w (List.mem_cons_of_mem _ (List.mem_cons_of_mem _ hw))) (hat w hw)
  have hk' : (Cond.classLink own ik cls).before args s' = true := vx_ot_at hW0 hvm.symm (hgood _ List.mem_cons_self) hk
  have hini' : (Cond.initialized cls).before args s' = true := vx_ot_at hW0 hvm.symm (hgood _ (List.mem_cons_of_mem _ List.mem_cons_self)) hini
  have hU' : vx_Zq Bundle.tN "UNASSIGNED_STACK" Bundle.steD A s' s'.heap := by rw [hhp]; exact vx_Zq.moved hW0.alike (hU.kept hS.2.1)
  have hN' : vx_Zq Bundle.tN "SUPPRESSED_SENTINEL" Bundle.listD A s' s'.heap := by rw [hhp]; exact vx_Zq.moved hW0.alike (hN.kept hS.2.1)
  have h : ∀ w ∈ Bundle.ownAtoms own ic cls names, w.before args s' = true := vx_own hat' (vx_isRefq hU'.1) (vx_isRefq hN'.1) hU'.2.word hN'.2.word
  have hown' : s'.vm.findClass own = some m.cls := by rw [hvm]; exact hown
  have hins : (Cond.instantiable cls 6).before args s' = true := h _ (by simp [Bundle.ownAtoms])
  obtain ⟨vm₁, cX, kX, hfX, hkX, -, -, X₁, st1⟩ := Y.newCold hexec (own := own) (C := cls) (index := ik) (n := 6) hown' hk' hins hini'
    (g := F0 m pc ls rest) rfl (by rw [hb]; exact d0) (Nat.le_refl _) (Nat.le_refl _)
  generalize hT1 : (T.setVm vm₁).pushCell { cls := cX, slots := kX.instanceTypes.map defaultValue, vm := .none } = T1 at X₁ st1
  have hcat : (Value.ref T.heap.size).category = 1 := rfl
  have hcellA : T1.heap[T.heap.size]? = some (freshCell cX kX) := by rw [← hT1]; exact State.heap_pushCell_size _ _
  have d3' : decode c.code (pc + 3) = .ok (.dup, 1) := by rw [hb]; exact d3
  have d4' : decode c.code (pc + 4) = .ok (.ldc_w is, 3) := by rw [hb]; exact d4
  have hstr' : vk_R own is text sa s' := vk_R.warm hW0 hstr
  obtain ⟨U, hsteps, hrun, hend, hW, hsame, ce, hce, hO⟩ := X₁.ctorThrowS hexec htr (own := own) (cls := cls) (names := names) (ic := ic) hown' hcls hnames h (fun x hx => nomatch hx) hfX hkX hcellA (by rw [hhp, hT]; exact Nat.le_refl _) (msg := .ref sa) rfl
    (g := { method := m, pc := pc + 7, locals := ls, stack := .ref sa :: .ref T.heap.size :: .ref T.heap.size :: rest, locked := none }) rfl hsize rfl rfl (rest := rest) rfl
    (by rw [hb]; exact d7) (by rw [hb]; exact d10) hout hRframes (by simp only [List.map_cons, List.sum_cons, hcat]; omega) hlocks
  obtain ⟨f1, f2⟩ := vx_frame hsame
  rw [hhp] at f1 f2
  have hWs : s.WarmedH U.vm := State.WarmedH.trans hW0 hW
  have hcl : s.vm.findClass cls = some ce.cls := by
    have h9 := hO.cls
    rw [hvm] at h9
    exact h9
  have hall : s.sameButNew ({ U with vm := s.vm } : State) locs mc ms := by
    subst hA
    obtain ⟨e1, e2⟩ := hsame
    rw [State.setFrames_setFrames] at e1
    have h2 : (T.setVm s.vm).sameButNew ({ U with vm := s.vm } : State) [] (0 + 1) (0 + 6) := ⟨e1, e2⟩
    have h3 := X.same.trans h2
    rw [List.append_nil] at h3
    exact h3.mono hc hs
  refine ⟨U, ?_, .threw T.heap.size, hrun, hend, Or.inr ⟨T.heap.size, rfl, cls, ce, locs, hx U hWs.alike f1 (fun q hq => f2 q hq (fun z hz => nomatch hz)), hce, hO.vm, hcl, hWs, hall, hf⟩⟩
  refine st1 _ ?_
  show Steps p.tables e below (T1.setTop { method := m, pc := pc + 3, locals := ls, stack := .ref T.heap.size :: rest, locked := none }) _
  jvm_step X₁.here [X₁.here.top, hexec, d3', Value.category]
  exact X₁.ldcStringW hexec (own := own) (text := text) (index := is) (a := sa) hown' hstr'.1 hstr'.2
    (g := { method := m, pc := pc + 4, locals := ls, stack := .ref T.heap.size :: .ref T.heap.size :: rest, locked := none }) rfl d4' _ hsteps
end Ends
section Bodies
variable {l : Launch}
theorem vx_ofW {y : MethodName} {ws ws' : List Cond} {rm : Room} {Pc : Array Value → State → Prop} {Qc : Array Value → State → Outcome → State → Prop} {XC : String → State → State → Prop} {mc ms : Nat} {free : Addr → Prop} {cc : ByteArray} {maxL : Nat} {ret : Option FieldType}
    (hy : plainName y.cls = true) (hw : ws = Cond.code y cc maxL ret :: ws')
    (body : ∀ p e s m args below meth c s₁, BodyLoose p l y (headSpec ws rm) cc maxL ret e s m args below meth c s₁ → c.maxLocals = maxL → (∀ x ∈ c.exceptionTable.toList, False) → Pc args s →
      W p l e (headSpec ws rm).room s m args below meth c s.heap [] 0 0 (vx_MQ below Qc XC args s mc ms free) (entryFrame m args maxL)) : vx_Met l y ws rm Pc Qc XC mc ms free := by
  refine MetFree.of_bodyS (code := cc) (maxLocals := maxL) (ret := ret) hy ?_ ?_
  · intro args s m h hn
    obtain ⟨meth, c, h1, h2, h3, h4, h5, h6, -, -⟩ := Cond.code_spec hn (atoms_spec (ws := ws) h _ (by rw [hw]; exact List.mem_cons_self))
    exact ⟨meth, c, h1, h2, h3, h4, h5, h6⟩
  · intro p e s m args below meth c s₁ B hml hP _
    have hh0 : s₁.heap = s.heap := by rw [B.state]; rfl
    have ht : ∀ x ∈ c.exceptionTable.toList, False := by
      obtain ⟨meth9, c9, h1, h2, -, -, -, -, h7, -⟩ := Cond.code_spec B.named (atoms_spec (ws := ws) B.pre _ (by rw [hw]; exact List.mem_cons_self))
      cases Option.some.inj (h1.symm.trans B.method)
      cases Option.some.inj (h2.symm.trans (Stand.of_body B).code)
      intro x hx
      rw [Array.isEmpty_iff.mp h7] at hx
      cases hx
    obtain ⟨t, a1, o, b1, b2, b3⟩ := body p e s m args below meth c s₁ B hml ht hP s₁ hh0 (Stand.of_body B)
    exact ⟨t, o, a1, b1, b2, b3⟩
/-- the table of a body with handlers -/
theorem vx_table {p : Program} {x y : MethodName} {S : Spec} {cc bytes : ByteArray} {maxL maxL' : Nat} {ret ret' : Option FieldType} {e : Env} {s s₁ : State} {m : MethodId} {args : Array Value} {below : List Frame} {meth : Method} {c : Code} {hh : List (Nat × Nat × Nat × Nat)}
    (B : BodyLoose p l y S cc maxL ret e s m args below meth c s₁) (h : (Cond.codeWith y bytes maxL' ret' hh).before args s = true) : c.exceptionTable.toList = tableOf hh := by
  obtain ⟨m9, meth9, c9, hn9, h1, h2, -, -, h6, -⟩ := Cond.codeWith_spec h
  cases Option.some.inj (hn9.symm.trans B.named)
  cases Option.some.inj (h1.symm.trans B.method)
  cases Option.some.inj (h2.symm.trans (Stand.of_body B).code)
  rw [← h6, table_eq]
end Bodies
end VXA
/-! ===== END ===== -/
/-! ===== BEGIN a static call of a method with an exception table ===== -/
section VXS
variable {p : Program} {l : Launch} {e : Env} {R : Room} {s : State} {m : MethodId} {args : Array Value} {below : List Frame} {meth : Method} {c : Code} {T : State} {H : Heap} {locs : List Loc} {cells slots : Nat}
abbrev vx_CSW (R : Room) (s : State) (args : Array Value) (own : String) (index : Nat) (y : MethodName) (bytes : ByteArray) (maxL : Nat) (ret : Option FieldType) (hh : List (Nat × Nat × Nat × Nat)) (ws : List Cond) (rm : Room) (mc ms n : Nat) : Prop :=
  (rm.cells = mc ∧ rm.slots = ms ∧ rm.frames + 1 ≤ R.frames ∧ 8 + (maxL + 11) + rm.locals ≤ R.locals ∧ (∀ w ∈ ws, ∀ (a' : Array Value) (U : State), s.WarmedH U.vm → w.before a' U = true) ∧ Cond.codeWith y bytes maxL ret hh ∈ ws) ∧
  (Cond.codeWith y bytes maxL ret hh).before args s = true ∧ (Cond.initialized y.cls).before args s = true ∧ (y.cls ≠ "java/lang/invoke/MethodHandle" ∧ y.cls ≠ "java/lang/invoke/VarHandle") ∧
  (∀ sig, parseMethodDescriptor y.desc = some sig → n = sig.parameters.length) ∧ (Cond.methodLink own index y).before args s = true ∧ (Cond.static y).before args s = true
theorem vx_cwSW {own : String} {index maxL mc ms : Nat} {y : MethodName} {bytes : ByteArray} {ret : Option FieldType} {hh : List (Nat × Nat × Nat × Nat)} {Ts ws ws' : List Cond} {rm : Room} (n : Nat) (ht : ∀ w ∈ Ts, w.before args s = true) (hT : GoodIn Ts (va_wsS own index y ws)) (hw : ws = Cond.codeWith y bytes maxL ret hh :: ws') (hrc : rm.cells = mc) (hrs : rm.slots = ms)
    (hd : y.cls ≠ "java/lang/invoke/MethodHandle" ∧ y.cls ≠ "java/lang/invoke/VarHandle" ∧ (parseMethodDescriptor y.desc).map (fun d => d.parameters.length) = some n) (hR : rm.frames + 1 ≤ R.frames ∧ 8 + (maxL + 11) + rm.locals ≤ R.locals) :
    vx_CSW R s args own index y bytes maxL ret hh ws rm mc ms n := by
  have ok : ∀ w ∈ va_wsS own index y ws, w.before args s = true := fun w h => ht w (hT w h).1
  have hG : GoodIn Ts ws := fun w h => hT w (by unfold va_wsS; exact List.mem_append_right _ h)
  have hc : Cond.codeWith y bytes maxL ret hh ∈ ws := by rw [hw]; exact List.mem_cons_self
  refine ⟨⟨hrc, hrs, hR.1, hR.2, pay_in ht hG, hc⟩, ht _ (hG _ hc).1, ok _ (by simp [va_wsS]), ⟨hd.1, hd.2.1⟩, fun sig h => ?_, ok _ (by simp [va_wsS]), ok _ (by simp [va_wsS])⟩
  have h2 := hd.2.2
  rw [h] at h2
  exact (Option.some.inj h2).symm
theorem vx_callSW (X : Stand p l e R s m args below meth c T locs cells slots) (hexec : p.tables.exec = Jvm.exec) {own : String} {index : Nat} {y : MethodName} {bytes : ByteArray} {maxL : Nat} {ret : Option FieldType} {hh : List (Nat × Nat × Nat × Nat)}
    (hown : s.vm.findClass own = some m.cls) (hlink : (Cond.methodLink own index y).before args s = true) (hstat : (Cond.static y).before args s = true) (hinit : (Cond.initialized y.cls).before args s = true)
    (hcode : (Cond.codeWith y bytes maxL ret hh).before args s = true) (hy : y.cls ≠ "java/lang/invoke/MethodHandle" ∧ y.cls ≠ "java/lang/invoke/VarHandle")
    {W9 : Nat} {Pre : Pt → Array Value → Prop} {Post : Pt → Array Value → Option Value → Pt → Prop} (hK : Back l R p e below s args y 3 W9 Pre Post)
    {g : JFrame} (hg : g.method = m) (hsize : g.locals.size = c.maxLocals) {argsL rest : List Value} (hlen : ∀ sig, parseMethodDescriptor y.desc = some sig → argsL.length = sig.parameters.length)
    (hstack : g.stack = argsL.reverse ++ rest) (hW : 2 * g.monitorRoom + (rest.map fun v => v.category).sum ≤ W9) (hdg : decode c.code g.pc = .ok (.invokestatic index, 3))
    (hpre : ∀ vm₁, s.WarmedH vm₁ → Pre ⟨T.setVm vm₁, locs, cells, slots⟩ argsL.toArray) :
    ∃ (v : Option Value) (vm₁ : Vm) (B : Pt), s.WarmedH vm₁ ∧ Stand p l e R s m args below meth c B.U B.locs B.cells B.slots ∧ Post ⟨T.setVm vm₁, locs, cells, slots⟩ argsL.toArray v B ∧
      ∀ target, Steps p.tables e below (B.U.setTop { g with pc := g.pc + 3, stack := v.toList ++ rest }) target → Steps p.tables e below (T.setTop g) target := by
  obtain ⟨mk, methM, cM, hnamed, hmethM, -, -, -, -, -, -, hsigM⟩ := Cond.codeWith_spec hcode
  have hstatic : methM.isStatic = true := Cond.static_spec hnamed hmethM hstat
  obtain ⟨kP, hkP, -⟩ := className_of_methodNamed hnamed
  have hinitP : kP.init = .initialized := Cond.initialized_spec (findClass_of_methodNamed hnamed) hkP hinit
  obtain ⟨vm₁, X₁, hstep₁⟩ := X.invokestatic hexec hown hlink hnamed hmethM hstatic hkP hinitP hy (g := g) hg (argsL := argsL) (rest := rest) (hlen _ hsigM) hstack hdg
  obtain ⟨v, B, X', hpost, hsteps⟩ := hK m meth c ⟨T.setVm vm₁, locs, cells, slots⟩ { g with stack := rest } (.invokestatic index) mk argsL.toArray X₁ hg hsize hdg hW (X₁.named hnamed) (hpre vm₁ X₁.warmed)
  exact ⟨v, vm₁, B, X₁.warmed, X', hpost, fun target h => hstep₁ _ fun acts => by rw [doInvoke_state]; exact hsteps.trans h⟩
theorem vx_runSW {y : MethodName} {bytes cc : ByteArray} {maxL nL mc ms n index : Nat} {ret : Option FieldType} {hh : List (Nat × Nat × Nat × Nat)} {ws : List Cond} {rm : Room} {Pc : Array Value → State → Prop} {Qc : Array Value → State → Outcome → State → Prop} {free : Addr → Prop} {Ts : List Cond} {own : String} {As rest : List Value} {g : JFrame}
    (S : CallFix p m c cc nL s args Ts own) (hM : Met l y ws rm Pc Qc mc ms free) (cw : vx_CSW R s args own index y bytes maxL ret hh ws rm mc ms n) (hp : PreS s H Pc As)
    (hg : g.method = m) (hn : As.length = n) (hsize : g.locals.size = nL) (hstack : g.stack = As.reverse ++ rest) (hW : 2 * g.monitorRoom + (rest.map fun v => v.category).sum ≤ 8) (hdg : decode cc g.pc = .ok (.invokestatic index, 3)) (hf : cells + mc ≤ R.cells ∧ slots + ms ≤ R.slots) :
    va_Run p l e R s m args below meth c H locs cells slots mc ms g rest (Qc As.toArray) (free) := by
  obtain ⟨⟨hrc, hrs, hfr, hlo, hws, hcw⟩, hcode, hini, hy, hlen, hl, hstt⟩ := cw
  have hK : Back l R p e below s args y 3 8 (PreOf R mc ms Pc) (PostOf Qc mc ms free) := va_backW (hh := hh) (bytes := bytes) (maxL := maxL) (ret := ret) hM hp.1 hrc hrs hfr hlo hws hcw (fun a' U hW => word_at hW (Or.inl (by first | rfl | simp [Cond.onTables, Cond.keeps, Cond.steady])) hini)
  obtain ⟨hx, hb, hml, ho, -⟩ := S
  intro T hT X
  obtain ⟨v, vm₁, ⟨U', l2, c2, s2⟩, hW₁, X', ⟨g', mk, t, L, e1, e2, hq, h1, hL, h2, h3⟩, st⟩ := vx_callSW X hx (hh := hh) (bytes := bytes) (maxL := maxL) (ret := ret) ho hl hstt hini hcode hy hK hg (hsize.trans hml.symm) (argsL := As) (rest := rest) (fun sig h => hn.trans (hlen sig h)) hstack hW (by rw [hb]; exact hdg)
    (fun vm₁ hW₁ => ⟨hf.1, hf.2, hp.2 (T.setVm vm₁) hT hW₁⟩)
  dsimp only [Pt.U, Pt.locs, Pt.cells, Pt.slots] at X' e1 e2 h1 h2 h3 st
  subst h1; subst h2; subst h3
  exact ⟨v, (T.setVm vm₁).calling g' mk As.toArray, t, U', L, hT, X', hL, e1, e2, hq, st⟩
/-- not caught here, past rows that name other classes: it goes on to the caller -/
theorem vx_outP {p : Program} {l : Launch} {e : Env} {R : Room} {s : State} {m : MethodId} {args : Array Value} {below : List Frame} {meth : Method} {c : Code} {H : Heap} {locs : List Loc} {cells slots : Nat} {free : Addr → Prop} {ls : Array Slot} {rest : List Value} {Qc : Array Value → State → Outcome → State → Prop} {XC : String → State → State → Prop}
    {pc : Nat} {own E : String} {ce : Cell} {q : Addr} {mc ms : Nat} (hown : s.vm.findClass own = some m.cls) (hlocks : meth.locks = false)
    (hpass : ∀ z ∈ c.exceptionTable.toList, covers z pc = false ∨ (z.catchType ≠ 0 ∧ ∃ nm : String, (Cond.classLink own z.catchType nm).before args s = true ∧ va_Nc E nm s)) (hcell : H[q]? = some ce) (hv : ce.vm = .none) (hcl : s.vm.findClass E = some ce.cls)
    (hx : ∀ t : State, t.heap = H → s.vm.Alike t.vm → XC E s t) (hf : ∀ z ∈ locs, free z.base) (hc : cells ≤ mc) (hs : slots ≤ ms) :
    vx_W p l e R s m args below meth c H locs cells slots (vx_MQ below Qc XC args s mc ms free) (F0 m pc ls rest) q := by
  intro T hT X
  have hpl : e.platform.magicAccessors = ({} : Platform).magicAccessors := by rw [X.admits.platform]
  obtain ⟨vm', hW', X', st⟩ := X.outThrough hlocks q (g := F0 m pc ls rest) rfl rfl rfl (cell := ce) (by rw [hT]; exact hcell) (by rw [hv]; rfl)
    (by obtain ⟨k9, h9, -⟩ := Vm.findClass_spec hcl; exact ⟨k9, h9⟩) (fun z hz => by
      rcases hpass z hz with h | ⟨hz0, nm, hl1, hn1⟩
      · exact Or.inl h
      · obtain ⟨c6, hc6, hcl6⟩ := Cond.classLink_spec hown hl1 e.platform hpl
        obtain ⟨a8, b8, h1, h2, h3⟩ := hn1
        cases Option.some.inj (h1.symm.trans hcl)
        cases Option.some.inj (h2.symm.trans hc6)
        exact Or.inr ⟨hz0, _, hcl6, h3⟩)
  obtain ⟨g₀, hfr⟩ := X'.frames_eq
  have hcell9 : ((T.setVm vm').setFrames (.throwing q :: below)).heap[q]? = some ce := by
    show T.heap[q]? = some ce
    rw [hT]; exact hcell
  have hend : Ended ((T.setVm vm').setFrames (.throwing q :: below)) below (.threw q) := State.frames_setFrames _ (State.cur_lt_of_frames hfr)
  refine ⟨(T.setVm vm').setFrames (.throwing q :: below), ?_, .threw q, X'.here.running, hend, Or.inr ⟨q, rfl, E, ce, locs, hx _ hT (X'.ends _).1.alike, hcell9, hv, hcl, (X'.ends _).1, (X'.ends _).2.mono hc hs, hf⟩⟩
  rw [X.pushThrowing_eq]
  exact st
/-- a thing of a world lies in the heap -/
theorem vx_lt {D : va_G} {cl : List vw_C} {ws : va_W} {H1 : Heap} (h : va_P D cl ws H1) {k : Nat} {q : Nat × va_E} (hk : ws[k]? = some q) : q.1 < H1.size := (h k q hk).lt
end VXS
/-! ===== END ===== -/
/-! ===== BEGIN methods with a table of their own: called by a name, returning or throwing ===== -/
section VXH
/-! vx_backW, vx_callVX, vx_callSX, vx_callVW, vx_runVW, vx_runVX, vx_runSX, vx_ofWH follow the same proofs as their sisters above (Free/Laws.lean, Shelf42/LK1.lean); vx_outP calls Shelf42/NT130.lean (outThrough). -/
section
variable {l : Launch} {R : Room} {p : Program} {e : Env} {below : List Frame} {s : State} {sargs : Array Value} {y : MethodName} {len W9 : Nat}
theorem vx_backW {ws : List Cond} {rm : Room} {Pc : Array Value → State → Prop} {Qc : Array Value → State → Outcome → State → Prop} {XC : String → State → State → Prop} {mc ms : Nat} {free : Addr → Prop} {bytes : ByteArray} {maxL : Nat} {ret : Option FieldType} {hh : List (Nat × Nat × Nat × Nat)}
    (hM : vx_Met l y ws rm Pc Qc XC mc ms free) (hblind : FrameBlind Pc) (hrc : rm.cells = mc) (hrs : rm.slots = ms)
    (hframes : rm.frames + 1 ≤ R.frames) (hlocals : W9 + (maxL + 11) + rm.locals ≤ R.locals)
    (hws : ∀ w ∈ ws, ∀ a' U, s.WarmedH U.vm → w.before a' U = true) (hcode : Cond.codeWith y bytes maxL ret hh ∈ ws) (hinit : ∀ a' U, s.WarmedH U.vm → (Cond.initialized y.cls).before a' U = true) :
    vx_Back l R p e below s sargs y len W9 (PreOf R mc ms Pc) (PostOf Qc mc ms free) (vx_Post XC mc ms free) := by
  intro m meth c A g ig mk a X hg hsize hdg hW hn hp
  have h1 : (headSpec ws rm).pre.before a A.U = true := atoms_intro fun w hw => hws w hw _ _ X.warmed
  have h2 : (Cond.codeWith y bytes maxL ret hh).before a A.U = true := hws _ hcode _ _ X.warmed
  have h3 : (Cond.initialized y.cls).before a A.U = true := hinit _ _ X.warmed
  have h4 : A.cells + (headSpec ws rm).room.cells ≤ R.cells := by rw [show (headSpec ws rm).room.cells = mc from hrc]; exact hp.1
  have h5 : A.slots + (headSpec ws rm).room.slots ≤ R.slots := by rw [show (headSpec ws rm).room.slots = ms from hrs]; exact hp.2.1
  have hPc : Pc a (A.U.calling g mk a) := hblind _ _ _ _ hp.2.2
  obtain ⟨U, Ls, c0, s0⟩ := A
  dsimp only [Pt.U, Pt.locs, Pt.cells, Pt.slots] at h1 h2 h3 h4 h5 X hn hPc ⊢
  obtain ⟨m9, methY, cY, hn9, hmY, hcY, -, hlY, -⟩ := Cond.codeWith_spec h2
  cases Option.some.inj (hn9.symm.trans hn)
  obtain ⟨kY, hkY, -⟩ := className_of_methodNamed hn
  have hinitY : kY.init = .initialized := Cond.initialized_spec (findClass_of_methodNamed hn) hkY h3
  have h : At U g.method c below := by rw [hg]; exact X.here
  have hlocals9 : W9 + (maxL + 11) + (headSpec ws rm).room.locals ≤ R.locals := hlocals
  have happ : (headSpec ws rm).appliesLoose y e.platform (U.calling g mk a) = true :=
    Spec.appliesLoose_calling (g := g) h hdg hn hkY hinitY
      (X.room_calling (g := g) (R' := (headSpec ws rm).room) hsize hmY hcY hframes (by rw [hlY]; omega) h4 h5) h1
  obtain ⟨mid, hmid⟩ := h.above
  have hfr : (U.setTop g).frames = (.java g :: mid) ++ below := by rw [State.frames_setTop' g h.top, hmid]; rfl
  obtain ⟨o, s₂, hsteps, -, hend, hq⟩ := Steps.callFree hM p X.admits X.cas X.clock (acts := []) hfr happ hPc trivial
  have hq' : vx_Q Qc XC mc ms free a (U.calling g mk a) o s₂ := hq
  rw [State.frames_setTop' g h.top] at hend
  obtain ⟨g₀, hg0⟩ := Option.isSome_iff_exists.mp h.top
  obtain ⟨r, hr⟩ := State.topJava?_eq_some.mp hg0
  have hr' : (({ U with heap := s₂.heap, slotsUsed := s₂.slotsUsed } : State).setVm s₂.vm).frames = .java g₀ :: r := hr
  rcases hq' with ⟨hqc, L, hfe, hL⟩ | ⟨q, rfl, E, ce, L, hx, hce, hcv, hcl, hW₂, hsm, hL⟩
  · obtain ⟨⟨v, rfl⟩, hW₂, e2, q2, q3, q4, q5, q6⟩ := id hfe
    have e3 : s₂ = ({ (U.calling g mk a).setFrames s₂.frames with heap := s₂.heap, slotsUsed := s₂.slotsUsed } : State).setVm s₂.vm := by
      have : s₂ = ({ s₂ with vm := (U.calling g mk a).vm } : State).setVm s₂.vm := rfl
      rw [e2] at this
      exact this
    obtain ⟨c₂, i₂, len₂, hc₂, hd₂, hf₂⟩ := hend
    have hW' : U.WarmedH s₂.vm := hW₂
    have hcc : c₂ = c := by
      have h1 : s₂.code? g.method = U.code? g.method := by
        rw [State.code?_eq, State.code?_eq, hW'.alike.method?]
      exact Option.some.inj (hc₂.symm.trans (h1.trans h.code))
    subst hcc
    have hlen : len₂ = len := by rw [hdg] at hd₂; cases hd₂; rfl
    subst hlen
    have hs₂ : s₂ = (({ U with heap := s₂.heap, slotsUsed := s₂.slotsUsed } : State).setVm s₂.vm).setTop { g with pc := g.pc + len₂, stack := v.toList ++ g.stack } := by
      refine e3.trans ?_
      rw [hf₂, State.calling_eq h.top, State.setFrames_setFrames, State.setTop_of_frames _ hr', hr]
      rfl
    have hsame : U.sameButNew ({ U with heap := s₂.heap, slotsUsed := s₂.slotsUsed } : State) L mc ms := by
      refine ⟨?_, q2, q3, q4, q5, q6⟩
      obtain ⟨t, ht, -⟩ := State.frames_cons hr
      show ({ U with heap := s₂.heap, slotsUsed := s₂.slotsUsed } : State) = { U.setFrames U.frames with heap := s₂.heap, slotsUsed := s₂.slotsUsed }
      rw [State.setFrames_self ht]
    subst hg
    refine Or.inl ⟨v, ⟨(({ U with heap := s₂.heap, slotsUsed := s₂.slotsUsed } : State).setVm s₂.vm), Ls ++ L, c0 + mc, s0 + ms⟩,
      ⟨X.admits, X.cas, X.clock, X.frames, X.room, X.hears, X.method, X.code, (X.here.setHeapUsed s₂.heap s₂.slotsUsed).setVm hW'.alike, X.tail, State.WarmedH.trans X.warmed hW', X.limits, X.bytes, X.same.trans (hsame.setVm s.vm)⟩,
      ⟨g, mk, s₂, L, rfl, rfl, hqc, rfl, hL, rfl, rfl⟩, ?_⟩
    show Steps p.tables e below _ ((({ U with heap := s₂.heap, slotsUsed := s₂.slotsUsed } : State).setVm s₂.vm).setTop { g with pc := g.pc + len₂, stack := v.toList ++ g.stack })
    rw [← hs₂]
    exact hsteps
  · obtain ⟨e2, q2, q3, q4, q5, q6⟩ := id hsm
    have e3 : s₂ = ({ (U.calling g mk a).setFrames s₂.frames with heap := s₂.heap, slotsUsed := s₂.slotsUsed } : State).setVm s₂.vm := by
      have : s₂ = ({ s₂ with vm := (U.calling g mk a).vm } : State).setVm s₂.vm := rfl
      rw [e2] at this
      exact this
    have hf₂ : s₂.frames = .throwing q :: .java g :: U.frames.tail := hend
    have hW' : U.WarmedH s₂.vm := hW₂
    have hs₂ : s₂ = ((({ U with heap := s₂.heap, slotsUsed := s₂.slotsUsed } : State).setVm s₂.vm).setTop g).pushFrame (.throwing q) := by
      refine e3.trans ?_
      rw [hf₂, State.calling_eq h.top, State.setFrames_setFrames, State.pushFrame, State.frames_setTop _ hr', State.setTop_of_frames _ hr', State.setFrames_setFrames, hr]
      rfl
    have hsame : U.sameButNew ({ U with heap := s₂.heap, slotsUsed := s₂.slotsUsed } : State) L mc ms := by
      refine ⟨?_, q2, q3, q4, q5, q6⟩
      obtain ⟨t, ht, -⟩ := State.frames_cons hr
      show ({ U with heap := s₂.heap, slotsUsed := s₂.slotsUsed } : State) = { U.setFrames U.frames with heap := s₂.heap, slotsUsed := s₂.slotsUsed }
      rw [State.setFrames_self ht]
    subst hg
    refine Or.inr ⟨q, ⟨(({ U with heap := s₂.heap, slotsUsed := s₂.slotsUsed } : State).setVm s₂.vm), Ls ++ L, c0 + mc, s0 + ms⟩,
      ⟨X.admits, X.cas, X.clock, X.frames, X.room, X.hears, X.method, X.code, (X.here.setHeapUsed s₂.heap s₂.slotsUsed).setVm hW'.alike, X.tail, State.WarmedH.trans X.warmed hW', X.limits, X.bytes, X.same.trans (hsame.setVm s.vm)⟩,
      ⟨g, mk, s₂, L, E, ce, rfl, rfl, hx, hce, hcv, hcl, rfl, hL, rfl, rfl⟩, ?_⟩
    show Steps p.tables e below _ (((({ U with heap := s₂.heap, slotsUsed := s₂.slotsUsed } : State).setVm s₂.vm).setTop g).pushFrame (.throwing q))
    rw [← hs₂]
    exact hsteps
end
variable {p : Program} {l : Launch} {e : Env} {R : Room} {s : State} {m : MethodId} {args : Array Value} {below : List Frame} {meth : Method} {c : Code} {T : State} {H : Heap} {locs : List Loc} {cells slots : Nat}
theorem vx_callVX (X : Stand p l e R s m args below meth c T locs cells slots) (hexec : p.tables.exec = Jvm.exec) {own C : String} {index : Nat} {y : MethodName} {bytes : ByteArray} {maxL : Nat} {ret : Option FieldType} {hh : List (Nat × Nat × Nat × Nat)}
    (hown : s.vm.findClass own = some m.cls) (hlink : (Cond.methodLink own index y).before args s = true) (hinst : (Cond.instanceMethod y).before args s = true) (hsel : (Cond.selects C y y).before args s = true)
    (hcode : (Cond.codeWith y bytes maxL ret hh).before args s = true) (hy : y.cls ≠ "java/lang/invoke/MethodHandle" ∧ y.cls ≠ "java/lang/invoke/VarHandle")
    {W9 : Nat} {Pre : Pt → Array Value → Prop} {Post : Pt → Array Value → Option Value → Pt → Prop} {PostX : Pt → Array Value → Addr → Pt → Prop} (hK : vx_Back l R p e below s args y 3 W9 Pre Post PostX)
    {b : Addr} {cellB : Cell} (hcell : T.heap[b]? = some cellB) (hobj : cellB.vm.isStatics = false) (hcls : s.vm.findClass C = some cellB.cls)
    {g : JFrame} (hg : g.method = m) (hsize : g.locals.size = c.maxLocals) {argsL rest : List Value} (hlen : ∀ sig, parseMethodDescriptor y.desc = some sig → argsL.length = sig.parameters.length)
    (hstack : g.stack = argsL.reverse ++ .ref b :: rest) (hW : 2 * g.monitorRoom + (rest.map fun v => v.category).sum ≤ W9) (hdg : decode c.code g.pc = .ok (.invokevirtual index, 3))
    (hpre : ∀ vm₁, s.WarmedH vm₁ → Pre ⟨T.setVm vm₁, locs, cells, slots⟩ (Value.ref b :: argsL).toArray) :
    (∃ (v : Option Value) (vm₁ : Vm) (B : Pt), s.WarmedH vm₁ ∧ Stand p l e R s m args below meth c B.U B.locs B.cells B.slots ∧ Post ⟨T.setVm vm₁, locs, cells, slots⟩ (Value.ref b :: argsL).toArray v B ∧
      ∀ target, Steps p.tables e below (B.U.setTop { g with pc := g.pc + 3, stack := v.toList ++ rest }) target → Steps p.tables e below (T.setTop g) target) ∨
    (∃ (q : Addr) (vm₁ : Vm) (B : Pt), s.WarmedH vm₁ ∧ Stand p l e R s m args below meth c B.U B.locs B.cells B.slots ∧ PostX ⟨T.setVm vm₁, locs, cells, slots⟩ (Value.ref b :: argsL).toArray q B ∧
      Steps p.tables e below (T.setTop g) ((B.U.setTop { g with stack := rest }).pushFrame (.throwing q))) := by
  obtain ⟨mk, methM, hnamed, hmethM, hstM, habM⟩ := Cond.instanceMethod_spec hinst
  obtain ⟨m8, methM', cM, hn8, hmethM', -, -, -, -, -, -, hsigM⟩ := Cond.codeWith_spec hcode
  cases Option.some.inj (hn8.symm.trans hnamed)
  cases hmethM.symm.trans hmethM'
  obtain ⟨c2, r2, m2, q1, q2, q3, q4, kP, hkP, hkPi⟩ := Cond.selects_spec hsel
  cases hcls.symm.trans q1
  cases (State.methodFound?_of_named hnamed hy).symm.trans q2
  cases hnamed.symm.trans q3
  have hselP : selectMethod e.platform s.vm cellB.cls mk = .method mk := by rw [Launch.admits_selectMethod X.admits]; exact q4
  obtain ⟨vm₁, X₁, hstep₁⟩ := X.invokevirtual hexec hown hlink hnamed hmethM hstM hkP hkPi hy (a := b) (cell := cellB) hcell
    (fun z h => by rw [h] at hobj; cases hobj) hselP hmethM habM hkP hkPi (g := g) hg (argsL := argsL) (rest := rest) (hlen _ hsigM) hstack hdg
  rcases hK m meth c ⟨T.setVm vm₁, locs, cells, slots⟩ { g with stack := rest } (.invokevirtual index) mk (Value.ref b :: argsL).toArray X₁ hg hsize hdg hW (X₁.named hnamed) (hpre vm₁ X₁.warmed) with ⟨v, B, X', hpost, hsteps⟩ | ⟨q, B, X', hpost, hsteps⟩
  · exact Or.inl ⟨v, vm₁, B, X₁.warmed, X', hpost, fun target h => hstep₁ _ fun acts => by rw [doInvoke_state]; exact hsteps.trans h⟩
  · exact Or.inr ⟨q, vm₁, B, X₁.warmed, X', hpost, hstep₁ _ fun acts => by rw [doInvoke_state]; exact hsteps⟩
theorem vx_callSX (X : Stand p l e R s m args below meth c T locs cells slots) (hexec : p.tables.exec = Jvm.exec) {own : String} {index : Nat} {y : MethodName} {bytes : ByteArray} {maxL : Nat} {ret : Option FieldType} {hh : List (Nat × Nat × Nat × Nat)}
    (hown : s.vm.findClass own = some m.cls) (hlink : (Cond.methodLink own index y).before args s = true) (hstat : (Cond.static y).before args s = true) (hinit : (Cond.initialized y.cls).before args s = true)
    (hcode : (Cond.codeWith y bytes maxL ret hh).before args s = true) (hy : y.cls ≠ "java/lang/invoke/MethodHandle" ∧ y.cls ≠ "java/lang/invoke/VarHandle")
    {W9 : Nat} {Pre : Pt → Array Value → Prop} {Post : Pt → Array Value → Option Value → Pt → Prop} {PostX : Pt → Array Value → Addr → Pt → Prop} (hK : vx_Back l R p e below s args y 3 W9 Pre Post PostX)
    {g : JFrame} (hg : g.method = m) (hsize : g.locals.size = c.maxLocals) {argsL rest : List Value} (hlen : ∀ sig, parseMethodDescriptor y.desc = some sig → argsL.length = sig.parameters.length)
    (hstack : g.stack = argsL.reverse ++ rest) (hW : 2 * g.monitorRoom + (rest.map fun v => v.category).sum ≤ W9) (hdg : decode c.code g.pc = .ok (.invokestatic index, 3))
    (hpre : ∀ vm₁, s.WarmedH vm₁ → Pre ⟨T.setVm vm₁, locs, cells, slots⟩ argsL.toArray) :
    (∃ (v : Option Value) (vm₁ : Vm) (B : Pt), s.WarmedH vm₁ ∧ Stand p l e R s m args below meth c B.U B.locs B.cells B.slots ∧ Post ⟨T.setVm vm₁, locs, cells, slots⟩ argsL.toArray v B ∧
      ∀ target, Steps p.tables e below (B.U.setTop { g with pc := g.pc + 3, stack := v.toList ++ rest }) target → Steps p.tables e below (T.setTop g) target) ∨
    (∃ (q : Addr) (vm₁ : Vm) (B : Pt), s.WarmedH vm₁ ∧ Stand p l e R s m args below meth c B.U B.locs B.cells B.slots ∧ PostX ⟨T.setVm vm₁, locs, cells, slots⟩ argsL.toArray q B ∧
      Steps p.tables e below (T.setTop g) ((B.U.setTop { g with stack := rest }).pushFrame (.throwing q))) := by
  obtain ⟨mk, methM, cM, hnamed, hmethM, -, -, -, -, -, -, hsigM⟩ := Cond.codeWith_spec hcode
  have hstatic : methM.isStatic = true := Cond.static_spec hnamed hmethM hstat
  obtain ⟨kP, hkP, -⟩ := className_of_methodNamed hnamed
  have hinitP : kP.init = .initialized := Cond.initialized_spec (findClass_of_methodNamed hnamed) hkP hinit
  obtain ⟨vm₁, X₁, hstep₁⟩ := X.invokestatic hexec hown hlink hnamed hmethM hstatic hkP hinitP hy (g := g) hg (argsL := argsL) (rest := rest) (hlen _ hsigM) hstack hdg
  rcases hK m meth c ⟨T.setVm vm₁, locs, cells, slots⟩ { g with stack := rest } (.invokestatic index) mk argsL.toArray X₁ hg hsize hdg hW (X₁.named hnamed) (hpre vm₁ X₁.warmed) with ⟨v, B, X', hpost, hsteps⟩ | ⟨q, B, X', hpost, hsteps⟩
  · exact Or.inl ⟨v, vm₁, B, X₁.warmed, X', hpost, fun target h => hstep₁ _ fun acts => by rw [doInvoke_state]; exact hsteps.trans h⟩
  · exact Or.inr ⟨q, vm₁, B, X₁.warmed, X', hpost, hstep₁ _ fun acts => by rw [doInvoke_state]; exact hsteps⟩
theorem vx_callVW (X : Stand p l e R s m args below meth c T locs cells slots) (hexec : p.tables.exec = Jvm.exec) {own C : String} {index : Nat} {y : MethodName} {bytes : ByteArray} {maxL : Nat} {ret : Option FieldType} {hh : List (Nat × Nat × Nat × Nat)}
    (hown : s.vm.findClass own = some m.cls) (hlink : (Cond.methodLink own index y).before args s = true) (hinst : (Cond.instanceMethod y).before args s = true) (hsel : (Cond.selects C y y).before args s = true)
    (hcode : (Cond.codeWith y bytes maxL ret hh).before args s = true) (hy : y.cls ≠ "java/lang/invoke/MethodHandle" ∧ y.cls ≠ "java/lang/invoke/VarHandle")
    {W9 : Nat} {Pre : Pt → Array Value → Prop} {Post : Pt → Array Value → Option Value → Pt → Prop} (hK : Back l R p e below s args y 3 W9 Pre Post)
    {b : Addr} {cellB : Cell} (hcell : T.heap[b]? = some cellB) (hobj : cellB.vm.isStatics = false) (hcls : s.vm.findClass C = some cellB.cls)
    {g : JFrame} (hg : g.method = m) (hsize : g.locals.size = c.maxLocals) {argsL rest : List Value} (hlen : ∀ sig, parseMethodDescriptor y.desc = some sig → argsL.length = sig.parameters.length)
    (hstack : g.stack = argsL.reverse ++ .ref b :: rest) (hW : 2 * g.monitorRoom + (rest.map fun v => v.category).sum ≤ W9) (hdg : decode c.code g.pc = .ok (.invokevirtual index, 3))
    (hpre : ∀ vm₁, s.WarmedH vm₁ → Pre ⟨T.setVm vm₁, locs, cells, slots⟩ (Value.ref b :: argsL).toArray) :
    ∃ (v : Option Value) (vm₁ : Vm) (B : Pt), s.WarmedH vm₁ ∧ Stand p l e R s m args below meth c B.U B.locs B.cells B.slots ∧ Post ⟨T.setVm vm₁, locs, cells, slots⟩ (Value.ref b :: argsL).toArray v B ∧
      ∀ target, Steps p.tables e below (B.U.setTop { g with pc := g.pc + 3, stack := v.toList ++ rest }) target → Steps p.tables e below (T.setTop g) target := by
  obtain ⟨mk, methM, hnamed, hmethM, hstM, habM⟩ := Cond.instanceMethod_spec hinst
  obtain ⟨m8, methM', cM, hn8, hmethM', -, -, -, -, -, -, hsigM⟩ := Cond.codeWith_spec hcode
  cases Option.some.inj (hn8.symm.trans hnamed)
  cases hmethM.symm.trans hmethM'
  obtain ⟨c2, r2, m2, q1, q2, q3, q4, kP, hkP, hkPi⟩ := Cond.selects_spec hsel
  cases hcls.symm.trans q1
  cases (State.methodFound?_of_named hnamed hy).symm.trans q2
  cases hnamed.symm.trans q3
  have hselP : selectMethod e.platform s.vm cellB.cls mk = .method mk := by rw [Launch.admits_selectMethod X.admits]; exact q4
  obtain ⟨vm₁, X₁, hstep₁⟩ := X.invokevirtual hexec hown hlink hnamed hmethM hstM hkP hkPi hy (a := b) (cell := cellB) hcell
    (fun z h => by rw [h] at hobj; cases hobj) hselP hmethM habM hkP hkPi (g := g) hg (argsL := argsL) (rest := rest) (hlen _ hsigM) hstack hdg
  obtain ⟨v, B, X', hpost, hsteps⟩ := hK m meth c ⟨T.setVm vm₁, locs, cells, slots⟩ { g with stack := rest } (.invokevirtual index) mk (Value.ref b :: argsL).toArray X₁ hg hsize hdg hW (X₁.named hnamed) (hpre vm₁ X₁.warmed)
  exact ⟨v, vm₁, B, X₁.warmed, X', hpost, fun target h => hstep₁ _ fun acts => by rw [doInvoke_state]; exact hsteps.trans h⟩
abbrev vx_CVW (R : Room) (s : State) (args : Array Value) (own C : String) (index : Nat) (y : MethodName) (bytes : ByteArray) (maxL : Nat) (ret : Option FieldType) (hh : List (Nat × Nat × Nat × Nat)) (ws : List Cond) (rm : Room) (mc ms n : Nat) : Prop :=
  (rm.cells = mc ∧ rm.slots = ms ∧ rm.frames + 1 ≤ R.frames ∧ 8 + (maxL + 11) + rm.locals ≤ R.locals ∧ (∀ w ∈ ws, ∀ (a' : Array Value) (U : State), s.WarmedH U.vm → w.before a' U = true) ∧ Cond.codeWith y bytes maxL ret hh ∈ ws) ∧
  (Cond.codeWith y bytes maxL ret hh).before args s = true ∧ (Cond.initialized y.cls).before args s = true ∧ (y.cls ≠ "java/lang/invoke/MethodHandle" ∧ y.cls ≠ "java/lang/invoke/VarHandle") ∧
  (∀ sig, parseMethodDescriptor y.desc = some sig → n = sig.parameters.length) ∧ (Cond.methodLink own index y).before args s = true ∧ (Cond.instanceMethod y).before args s = true ∧ (Cond.selects C y y).before args s = true
theorem vx_cwVW {own C : String} {index maxL mc ms : Nat} {y : MethodName} {bytes : ByteArray} {ret : Option FieldType} {hh : List (Nat × Nat × Nat × Nat)} {Ts ws ws' : List Cond} {rm : Room} (n : Nat) (ht : ∀ w ∈ Ts, w.before args s = true) (hT : GoodIn Ts (wsV own index C y ws)) (hw : ws = Cond.codeWith y bytes maxL ret hh :: ws') (hrc : rm.cells = mc) (hrs : rm.slots = ms)
    (hd : y.cls = C ∧ y.cls ≠ "java/lang/invoke/MethodHandle" ∧ y.cls ≠ "java/lang/invoke/VarHandle" ∧ (parseMethodDescriptor y.desc).map (fun d => d.parameters.length) = some n) (hR : rm.frames + 1 ≤ R.frames ∧ 8 + (maxL + 11) + rm.locals ≤ R.locals) :
    vx_CVW R s args own C index y bytes maxL ret hh ws rm mc ms n := by
  obtain ⟨hC, hd⟩ := hd
  subst hC
  have ok : ∀ w ∈ wsV own index y.cls y ws, w.before args s = true := fun w h => ht w (hT w h).1
  have hG : GoodIn Ts ws := fun w h => hT w (by unfold wsV; exact List.mem_append_right _ h)
  have hc : Cond.codeWith y bytes maxL ret hh ∈ ws := by rw [hw]; exact List.mem_cons_self
  refine ⟨⟨hrc, hrs, hR.1, hR.2, pay_in ht hG, hc⟩, ht _ (hG _ hc).1, ok _ (by simp [wsV]), ⟨hd.1, hd.2.1⟩, fun sig h => ?_, ok _ (by simp [wsV]), ok _ (by simp [wsV]), ok _ (by simp [wsV])⟩
  have h2 := hd.2.2
  rw [h] at h2
  exact (Option.some.inj h2).symm
theorem vx_runVW {y : MethodName} {bytes cc : ByteArray} {maxL nL mc ms n index : Nat} {ret : Option FieldType} {hh : List (Nat × Nat × Nat × Nat)} {ws : List Cond} {rm : Room} {Pc : Array Value → State → Prop} {Qc : Array Value → State → Outcome → State → Prop} {free : Addr → Prop} {Ts : List Cond} {own C : String} {b : Addr} {As rest : List Value} {g : JFrame}
    (S : CallFix p m c cc nL s args Ts own) (hM : Met l y ws rm Pc Qc mc ms free) (cw : vx_CVW R s args own C index y bytes maxL ret hh ws rm mc ms n) (hp : PreV s H C b Pc As)
    (hg : g.method = m) (hn : As.length = n) (hsize : g.locals.size = nL) (hstack : g.stack = As.reverse ++ .ref b :: rest) (hW : 2 * g.monitorRoom + (rest.map fun v => v.category).sum ≤ 8) (hdg : decode cc g.pc = .ok (.invokevirtual index, 3)) (hf : cells + mc ≤ R.cells ∧ slots + ms ≤ R.slots) :
    va_Run p l e R s m args below meth c H locs cells slots mc ms g rest (Qc (Value.ref b :: As).toArray) free := by
  obtain ⟨⟨hrc, hrs, hfr, hlo, hws, hcw⟩, hcode, hini, hy, hlen, hl, hin, hse⟩ := cw
  have hK : Back l R p e below s args y 3 8 (PreOf R mc ms Pc) (PostOf Qc mc ms free) := va_backW (hh := hh) (bytes := bytes) (maxL := maxL) (ret := ret) hM hp.1 hrc hrs hfr hlo hws hcw (fun a' U hW => word_at hW (Or.inl (by first | rfl | simp [Cond.onTables, Cond.keeps, Cond.steady])) hini)
  obtain ⟨hx, hb, hml, ho, -⟩ := S
  obtain ⟨-, ⟨cellB, hcB, hoB, hclB⟩, hPc⟩ := hp
  intro T hT X
  obtain ⟨v, vm₁, ⟨U', l2, c2, s2⟩, hW₁, X', ⟨g', mk, t, L, e1, e2, hq, h1, hL, h2, h3⟩, st⟩ := vx_callVW X hx (C := C) (hh := hh) (bytes := bytes) (maxL := maxL) (ret := ret) ho hl hin hse hcode hy hK (by rw [hT]; exact hcB) hoB hclB hg (hsize.trans hml.symm) (argsL := As) (rest := rest) (fun sig h => hn.trans (hlen sig h)) hstack hW (by rw [hb]; exact hdg)
    (fun vm₁ hW₁ => ⟨hf.1, hf.2, hPc (T.setVm vm₁) hT hW₁⟩)
  dsimp only [Pt.U, Pt.locs, Pt.cells, Pt.slots] at X' e1 e2 h1 h2 h3 st
  subst h1; subst h2; subst h3
  exact ⟨v, (T.setVm vm₁).calling g' mk (Value.ref b :: As).toArray, t, U', L, hT, X', hL, e1, e2, hq, st⟩
section
variable {y : MethodName} {bytes cc : ByteArray} {maxL nL mc ms n index : Nat} {ret : Option FieldType} {ws : List Cond} {rm : Room} {Pc : Array Value → State → Prop} {Qc : Array Value → State → Outcome → State → Prop} {XC : String → State → State → Prop} {free : Addr → Prop} {Ts : List Cond} {own C : String} {b : Addr} {As rest : List Value} {g : JFrame}
theorem vx_runVX {hh : List (Nat × Nat × Nat × Nat)} (S : CallFix p m c cc nL s args Ts own) (hM : vx_Met l y ws rm Pc Qc XC mc ms free) (cw : vx_CVW R s args own C index y bytes maxL ret hh ws rm mc ms n) (hp : PreV s H C b Pc As)
    (hg : g.method = m) (hn : As.length = n) (hsize : g.locals.size = nL) (hstack : g.stack = As.reverse ++ .ref b :: rest) (hW : 2 * g.monitorRoom + (rest.map fun v => v.category).sum ≤ 8) (hdg : decode cc g.pc = .ok (.invokevirtual index, 3)) (hf : cells + mc ≤ R.cells ∧ slots + ms ≤ R.slots) :
    vx_Run p l e R s m args below meth c H locs cells slots mc ms g rest (Qc (Value.ref b :: As).toArray) XC free := by
  obtain ⟨⟨hrc, hrs, hfr, hlo, hws, hcw⟩, hcode, hini, hy, hlen, hl, hin, hse⟩ := cw
  have hK : vx_Back l R p e below s args y 3 8 (PreOf R mc ms Pc) (PostOf Qc mc ms free) (vx_Post XC mc ms free) := vx_backW (hh := hh) (bytes := bytes) (maxL := maxL) (ret := ret) hM hp.1 hrc hrs hfr hlo hws hcw (fun a' U hW => word_at hW (Or.inl (by first | rfl | simp [Cond.onTables, Cond.keeps, Cond.steady])) hini)
  obtain ⟨hx, hb, hml, ho, -⟩ := S
  obtain ⟨-, ⟨cellB, hcB, hoB, hclB⟩, hPc⟩ := hp
  intro T hT X
  rcases vx_callVX X hx (C := C) (hh := hh) (bytes := bytes) (maxL := maxL) (ret := ret) ho hl hin hse hcode hy hK (by rw [hT]; exact hcB) hoB hclB hg (hsize.trans hml.symm) (argsL := As) (rest := rest) (fun sig h => hn.trans (hlen sig h)) hstack hW (by rw [hb]; exact hdg)
    (fun vm₁ hW₁ => ⟨hf.1, hf.2, hPc (T.setVm vm₁) hT hW₁⟩) with ⟨v, vm₁, ⟨U', l2, c2, s2⟩, hW₁, X', ⟨g', mk, t, L, e1, e2, hq, h1, hL, h2, h3⟩, st⟩ | ⟨q, vm₁, ⟨U', l2, c2, s2⟩, hW₁, X', ⟨g', mk, t, L, E, ce, e1, e2, hq, hce, hcv, hcl, h1, hL, h2, h3⟩, st⟩
  · dsimp only [Pt.U, Pt.locs, Pt.cells, Pt.slots] at X' e1 e2 h1 h2 h3 st
    subst h1; subst h2; subst h3
    exact Or.inl ⟨v, (T.setVm vm₁).calling g' mk (Value.ref b :: As).toArray, t, U', L, hT, X', hL, e1, e2, hq, st⟩
  · dsimp only [Pt.U, Pt.locs, Pt.cells, Pt.slots] at X' e1 e2 h1 h2 h3 st hcl
    subst h1; subst h2; subst h3
    exact Or.inr ⟨q, (T.setVm vm₁).calling g' mk (Value.ref b :: As).toArray, t, U', L, E, ce, hT, X', hL, e1, e2, hq, hce, hcv, vx_cls hW₁ hcl, st⟩
theorem vx_runSX {hh : List (Nat × Nat × Nat × Nat)} (S : CallFix p m c cc nL s args Ts own) (hM : vx_Met l y ws rm Pc Qc XC mc ms free) (cw : vx_CSW R s args own index y bytes maxL ret hh ws rm mc ms n) (hp : PreS s H Pc As)
    (hg : g.method = m) (hn : As.length = n) (hsize : g.locals.size = nL) (hstack : g.stack = As.reverse ++ rest) (hW : 2 * g.monitorRoom + (rest.map fun v => v.category).sum ≤ 8) (hdg : decode cc g.pc = .ok (.invokestatic index, 3)) (hf : cells + mc ≤ R.cells ∧ slots + ms ≤ R.slots) :
    vx_Run p l e R s m args below meth c H locs cells slots mc ms g rest (Qc As.toArray) XC free := by
  obtain ⟨⟨hrc, hrs, hfr, hlo, hws, hcw⟩, hcode, hini, hy, hlen, hl, hstt⟩ := cw
  have hK : vx_Back l R p e below s args y 3 8 (PreOf R mc ms Pc) (PostOf Qc mc ms free) (vx_Post XC mc ms free) := vx_backW (hh := hh) (bytes := bytes) (maxL := maxL) (ret := ret) hM hp.1 hrc hrs hfr hlo hws hcw (fun a' U hW => word_at hW (Or.inl (by first | rfl | simp [Cond.onTables, Cond.keeps, Cond.steady])) hini)
  obtain ⟨hx, hb, hml, ho, -⟩ := S
  intro T hT X
  rcases vx_callSX X hx (hh := hh) (bytes := bytes) (maxL := maxL) (ret := ret) ho hl hstt hini hcode hy hK hg (hsize.trans hml.symm) (argsL := As) (rest := rest) (fun sig h => hn.trans (hlen sig h)) hstack hW (by rw [hb]; exact hdg)
    (fun vm₁ hW₁ => ⟨hf.1, hf.2, hp.2 (T.setVm vm₁) hT hW₁⟩) with ⟨v, vm₁, ⟨U', l2, c2, s2⟩, hW₁, X', ⟨g', mk, t, L, e1, e2, hq, h1, hL, h2, h3⟩, st⟩ | ⟨q, vm₁, ⟨U', l2, c2, s2⟩, hW₁, X', ⟨g', mk, t, L, E, ce, e1, e2, hq, hce, hcv, hcl, h1, hL, h2, h3⟩, st⟩
  · dsimp only [Pt.U, Pt.locs, Pt.cells, Pt.slots] at X' e1 e2 h1 h2 h3 st
    subst h1; subst h2; subst h3
    exact Or.inl ⟨v, (T.setVm vm₁).calling g' mk As.toArray, t, U', L, hT, X', hL, e1, e2, hq, st⟩
  · dsimp only [Pt.U, Pt.locs, Pt.cells, Pt.slots] at X' e1 e2 h1 h2 h3 st hcl
    subst h1; subst h2; subst h3
    exact Or.inr ⟨q, (T.setVm vm₁).calling g' mk As.toArray, t, U', L, E, ce, hT, X', hL, e1, e2, hq, hce, hcv, vx_cls hW₁ hcl, st⟩
end
end VXH
theorem vx_ofWH {l : Launch} {y : MethodName} {ws ws' : List Cond} {rm : Room} {Pc : Array Value → State → Prop} {Qc : Array Value → State → Outcome → State → Prop} {XC : String → State → State → Prop} {mc ms : Nat} {free : Addr → Prop} {cc : ByteArray} {maxL : Nat} {ret : Option FieldType} {hh : List (Nat × Nat × Nat × Nat)}
    (hy : plainName y.cls = true) (hw : ws = Cond.codeWith y cc maxL ret hh :: ws')
    (body : ∀ p e s m args below meth c s₁, BodyLoose p l y (headSpec ws rm) cc maxL ret e s m args below meth c s₁ → c.maxLocals = maxL → Pc args s →
      W p l e (headSpec ws rm).room s m args below meth c s.heap [] 0 0 (vx_MQ below Qc XC args s mc ms free) (entryFrame m args maxL)) : vx_Met l y ws rm Pc Qc XC mc ms free := by
  refine MetFree.of_bodyS (code := cc) (maxLocals := maxL) (ret := ret) hy ?_ ?_
  · intro args s m h hn
    obtain ⟨m9, meth, c, hn9, h1, h2, h3, h4, -, h5, h6, -⟩ := Cond.codeWith_spec (atoms_spec (ws := ws) h _ (by rw [hw]; exact List.mem_cons_self))
    cases hn.symm.trans hn9
    exact ⟨meth, c, h1, h2, h3, h4, h5, h6⟩
  · intro p e s m args below meth c s₁ B hml hP _
    have hh0 : s₁.heap = s.heap := by rw [B.state]; rfl
    obtain ⟨t, a1, o, b1, b2, b3⟩ := body p e s m args below meth c s₁ B hml hP s₁ hh0 (Stand.of_body B)
    exact ⟨t, o, a1, b1, b2, b3⟩
/-! ===== END ===== -/
end
section
/-! ===== BEGIN printed: names, fields, word lists, decode rows ===== -/
def RX0 : String := "ScoreMachine$Board"
def TX0 : u_T := fun k => match k with
  | 0 => ("ScoreMachine$Board", "setup", "LScoreMachine$Setup;", true)
  | 1 => ("ScoreMachine$Board", "plainMachine", "LScoreMachine$PlainMachine;", true)
  | 2 => ("ScoreMachine$Board", "cycle", "I", false)
  | 3 => ("ScoreMachine$Board", "over", "Z", false)
  | 4 => ("ScoreMachine$Board", "issued", "I", false)
  | 5 => ("ScoreMachine$Board", "stalls", "[I", true)
  | 6 => ("ScoreMachine$Board", "writer", "[I", true)
  | 7 => ("ScoreMachine$Board", "writtenAt", "[I", true)
  | 8 => ("ScoreMachine$Board", "heldBefore", "[J", true)
  | 9 => ("ScoreMachine$Board", "readAt", "[I", true)
  | 10 => ("ScoreMachine$Board", "storeCell", "I", false)
  | 11 => ("ScoreMachine$Board", "storeWritten", "I", false)
  | 12 => ("ScoreMachine$Board", "storeBefore", "J", false)
  | 13 => ("ScoreMachine$Board", "branchWritten", "I", false)
  | 14 => ("ScoreMachine$Board", "lastWritten", "I", false)
  | 15 => ("ScoreMachine$Board", "row", "[I", true)
  | 16 => ("ScoreMachine$Board", "unitRows", "[I", true)
  | _ => ("ScoreMachine$Board", "issuedRows", "[I", true)
def tyX0 : Nat → FieldType := fun k => match k with
  | 0 => .object "ScoreMachine$Setup"
  | 1 => .object "ScoreMachine$PlainMachine"
  | 2 => .int
  | 3 => .boolean
  | 4 => .int
  | 5 => .array .int
  | 6 => .array .int
  | 7 => .array .int
  | 8 => .array .long
  | 9 => .array .int
  | 10 => .int
  | 11 => .int
  | 12 => .long
  | 13 => .int
  | 14 => .int
  | 15 => .array .int
  | 16 => .array .int
  | _ => .array .int
abbrev wsX00 : List Cond := u_ws RX0 TX0 18
abbrev cX0_init : ByteArray := prog_2_method_1_code
def yX0_init : MethodName := ⟨RX0, "<init>", "(LScoreMachine$Setup;LScoreMachine$PlainMachine;)V"⟩
abbrev cX0_begin : ByteArray := prog_2_method_2_code
def yX0_begin : MethodName := ⟨RX0, "begin", "()V"⟩
abbrev cX0_goOneCycle : ByteArray := prog_2_method_3_code
def yX0_goOneCycle : MethodName := ⟨RX0, "goOneCycle", "()V"⟩
abbrev cX0_tryToIssue : ByteArray := prog_2_method_4_code
def yX0_tryToIssue : MethodName := ⟨RX0, "tryToIssue", "()I"⟩
abbrev cX0_lowestFreeUnit : ByteArray := prog_2_method_5_code
def yX0_lowestFreeUnit : MethodName := ⟨RX0, "lowestFreeUnit", "(I)I"⟩
abbrev cX0_settleCycles : ByteArray := prog_2_method_6_code
def yX0_settleCycles : MethodName := ⟨RX0, "settleCycles", "(II)V"⟩
abbrev cX0_keepRow : ByteArray := prog_2_method_7_code
def yX0_keepRow : MethodName := ⟨RX0, "keepRow", "(I)V"⟩
abbrev cX0_issuedStart : ByteArray := prog_2_method_8_code
def yX0_issuedStart : MethodName := ⟨RX0, "issuedStart", "(I)I"⟩
abbrev cX0_noteReading : ByteArray := prog_2_method_9_code
def yX0_noteReading : MethodName := ⟨RX0, "noteReading", "(I)V"⟩
abbrev cX0_noteReader : ByteArray := prog_2_method_10_code
def yX0_noteReader : MethodName := ⟨RX0, "noteReader", "(I)V"⟩
abbrev cX0_noteWriting : ByteArray := prog_2_method_11_code
def yX0_noteWriting : MethodName := ⟨RX0, "noteWriting", "(II)V"⟩
abbrev cX0_notWritten : ByteArray := prog_2_method_12_code
def yX0_notWritten : MethodName := ⟨RX0, "notWritten", "()I"⟩
abbrev cX0_registerNow : ByteArray := prog_2_method_13_code
def yX0_registerNow : MethodName := ⟨RX0, "registerNow", "(I)J"⟩
abbrev cX0_memoryNow : ByteArray := prog_2_method_14_code
def yX0_memoryNow : MethodName := ⟨RX0, "memoryNow", "(I)J"⟩
abbrev cX0_tellUnit : ByteArray := prog_2_method_15_code
def yX0_tellUnit : MethodName := ⟨RX0, "tellUnit", "(II)I"⟩
abbrev cX0_tellIssued : ByteArray := prog_2_method_16_code
def yX0_tellIssued : MethodName := ⟨RX0, "tellIssued", "(II)I"⟩
def RX1 : String := "ScoreMachine$PlainMachine"
def TX1 : u_T := fun k => match k with
  | 0 => ("ScoreMachine$PlainMachine", "setup", "LScoreMachine$Setup;", true)
  | 1 => ("ScoreMachine$PlainMachine", "registers", "[J", true)
  | 2 => ("ScoreMachine$PlainMachine", "memory", "[J", true)
  | _ => ("ScoreMachine$PlainMachine", "place", "I", false)
def tyX1 : Nat → FieldType := fun k => match k with
  | 0 => .object "ScoreMachine$Setup"
  | 1 => .array .long
  | 2 => .array .long
  | _ => .int
abbrev wsX10 : List Cond := u_ws RX1 TX1 4
abbrev cX1_init : ByteArray := prog_3_method_1_code
def yX1_init : MethodName := ⟨RX1, "<init>", "(LScoreMachine$Setup;)V"⟩
abbrev cX1_begin : ByteArray := prog_3_method_2_code
def yX1_begin : MethodName := ⟨RX1, "begin", "()V"⟩
abbrev cX1_code : ByteArray := prog_3_method_3_code
def yX1_code : MethodName := ⟨RX1, "code", "()I"⟩
abbrev cX1_cell : ByteArray := prog_3_method_4_code
def yX1_cell : MethodName := ⟨RX1, "cell", "()I"⟩
abbrev cX1_step : ByteArray := prog_3_method_5_code
def yX1_step : MethodName := ⟨RX1, "step", "()V"⟩
abbrev cX1_value : ByteArray := prog_3_method_6_code
def yX1_value : MethodName := ⟨RX1, "value", "(I)J"⟩
abbrev cX1_placeAfter : ByteArray := prog_3_method_7_code
def yX1_placeAfter : MethodName := ⟨RX1, "placeAfter", "(I)I"⟩
abbrev cX1_worked : ByteArray := prog_3_method_8_code
def yX1_worked : MethodName := ⟨RX1, "worked", "(IJJ)J"⟩
def RX2 : String := "ScoreMachine$Setup"
def TX2 : u_T := fun k => match k with
  | 0 => ("ScoreMachine$Setup", "codes", "[I", true)
  | 1 => ("ScoreMachine$Setup", "ds", "[I", true)
  | 2 => ("ScoreMachine$Setup", "as", "[I", true)
  | 3 => ("ScoreMachine$Setup", "bs", "[I", true)
  | 4 => ("ScoreMachine$Setup", "unitsOf", "[I", true)
  | 5 => ("ScoreMachine$Setup", "latencies", "[I", true)
  | 6 => ("ScoreMachine$Setup", "registers", "[J", true)
  | 7 => ("ScoreMachine$Setup", "memory", "[J", true)
  | _ => ("ScoreMachine$Setup", "width", "I", false)
def tyX2 : Nat → FieldType := fun k => match k with
  | 0 => .array .int
  | 1 => .array .int
  | 2 => .array .int
  | 3 => .array .int
  | 4 => .array .int
  | 5 => .array .int
  | 6 => .array .long
  | 7 => .array .long
  | _ => .int
abbrev wsX20 : List Cond := u_ws RX2 TX2 9
abbrev cX2_init : ByteArray := prog_4_method_1_code
def yX2_init : MethodName := ⟨RX2, "<init>", "()V"⟩
abbrev cX2_begin : ByteArray := prog_4_method_2_code
def yX2_begin : MethodName := ⟨RX2, "begin", "()V"⟩
abbrev cX2_registerB : ByteArray := prog_4_method_3_code
def yX2_registerB : MethodName := ⟨RX2, "registerB", "(I)I"⟩
def RX3 : String := "ScoreMachine"
def TX3 : u_T := fun k => match k with
  | 0 => ("ScoreMachine", "setup", "LScoreMachine$Setup;", true)
  | 1 => ("ScoreMachine", "plainMachine", "LScoreMachine$PlainMachine;", true)
  | _ => ("ScoreMachine", "board", "LScoreMachine$Board;", true)
def tyX3 : Nat → FieldType := fun k => match k with
  | 0 => .object "ScoreMachine$Setup"
  | 1 => .object "ScoreMachine$PlainMachine"
  | _ => .object "ScoreMachine$Board"
abbrev wsX30 : List Cond := u_ws RX3 TX3 3
abbrev cX3_init : ByteArray := prog_1_method_1_code
def yX3_init : MethodName := ⟨RX3, "<init>", "()V"⟩
abbrev cX3_put : ByteArray := prog_1_method_2_code
def yX3_put : MethodName := ⟨RX3, "put", "(IIIII)Z"⟩
abbrev cX3_units : ByteArray := prog_1_method_3_code
def yX3_units : MethodName := ⟨RX3, "units", "(II)Z"⟩
abbrev cX3_latency : ByteArray := prog_1_method_4_code
def yX3_latency : MethodName := ⟨RX3, "latency", "(II)Z"⟩
abbrev cX3_width : ByteArray := prog_1_method_5_code
def yX3_width : MethodName := ⟨RX3, "width", "(I)Z"⟩
abbrev cX3_set : ByteArray := prog_1_method_6_code
def yX3_set : MethodName := ⟨RX3, "set", "(IIJ)Z"⟩
abbrev cX3_run : ByteArray := prog_1_method_7_code
def yX3_run : MethodName := ⟨RX3, "run", "(I)I"⟩
abbrev cX3_again : ByteArray := prog_1_method_8_code
def yX3_again : MethodName := ⟨RX3, "again", "()V"⟩
abbrev cX3_clear : ByteArray := prog_1_method_9_code
def yX3_clear : MethodName := ⟨RX3, "clear", "()V"⟩
abbrev cX3_count : ByteArray := prog_1_method_10_code
def yX3_count : MethodName := ⟨RX3, "count", "(I)I"⟩
abbrev cX3_register : ByteArray := prog_1_method_11_code
def yX3_register : MethodName := ⟨RX3, "register", "(I)J"⟩
abbrev cX3_memory : ByteArray := prog_1_method_12_code
def yX3_memory : MethodName := ⟨RX3, "memory", "(I)J"⟩
abbrev cX3_plain : ByteArray := prog_1_method_13_code
def yX3_plain : MethodName := ⟨RX3, "plain", "(II)J"⟩
abbrev cX3_unit : ByteArray := prog_1_method_14_code
def yX3_unit : MethodName := ⟨RX3, "unit", "(III)I"⟩
abbrev cX3_pending : ByteArray := prog_1_method_15_code
def yX3_pending : MethodName := ⟨RX3, "pending", "(I)I"⟩
abbrev cX3_latest : ByteArray := prog_1_method_16_code
def yX3_latest : MethodName := ⟨RX3, "latest", "(II)I"⟩
abbrev cX3_began : ByteArray := prog_1_method_17_code
def yX3_began : MethodName := ⟨RX3, "began", "()Z"⟩
abbrev cX3_within : ByteArray := prog_1_method_18_code
def yX3_within : MethodName := ⟨RX3, "within", "(II)Z"⟩
abbrev cX3_isThere : ByteArray := prog_1_method_19_code
def yX3_isThere : MethodName := ⟨RX3, "isThere", "(II)Z"⟩
abbrev cX3_unitRow : ByteArray := prog_1_method_20_code
def yX3_unitRow : MethodName := ⟨RX3, "unitRow", "(II)I"⟩
abbrev cX3_readsA : ByteArray := prog_1_method_21_code
def yX3_readsA : MethodName := ⟨RX3, "readsA", "(I)Z"⟩
abbrev cX3_readsB : ByteArray := prog_1_method_22_code
def yX3_readsB : MethodName := ⟨RX3, "readsB", "(I)Z"⟩
abbrev cX3_readsD : ByteArray := prog_1_method_23_code
def yX3_readsD : MethodName := ⟨RX3, "readsD", "(I)Z"⟩
abbrev cX3_writesD : ByteArray := prog_1_method_24_code
def yX3_writesD : MethodName := ⟨RX3, "writesD", "(I)Z"⟩
def RX4 : String := "ScoreMachineModel"
def TX4 : u_T := fun k => match k with
  | 0 => ("ScoreMachineModel", "program", "[I", true)
  | 1 => ("ScoreMachineModel", "units", "[I", true)
  | 2 => ("ScoreMachineModel", "latencies", "[I", true)
  | 3 => ("ScoreMachineModel", "width", "I", false)
  | 4 => ("ScoreMachineModel", "firstRegisters", "[J", true)
  | 5 => ("ScoreMachineModel", "firstMemory", "[J", true)
  | 6 => ("ScoreMachineModel", "plainRegisters", "[J", true)
  | 7 => ("ScoreMachineModel", "plainMemory", "[J", true)
  | 8 => ("ScoreMachineModel", "place", "I", false)
  | 9 => ("ScoreMachineModel", "registers", "[J", true)
  | 10 => ("ScoreMachineModel", "memory", "[J", true)
  | 11 => ("ScoreMachineModel", "cycle", "I", false)
  | 12 => ("ScoreMachineModel", "over", "Z", false)
  | 13 => ("ScoreMachineModel", "many", "I", false)
  | 14 => ("ScoreMachineModel", "issuedLast", "I", false)
  | 15 => ("ScoreMachineModel", "issuedThen", "I", false)
  | 16 => ("ScoreMachineModel", "branchWritten", "I", false)
  | 17 => ("ScoreMachineModel", "mostWritten", "I", false)
  | 18 => ("ScoreMachineModel", "stalls", "[I", true)
  | 19 => ("ScoreMachineModel", "writtenOf", "[I", true)
  | 20 => ("ScoreMachineModel", "writerOf", "[I", true)
  | 21 => ("ScoreMachineModel", "readOf", "[I", true)
  | 22 => ("ScoreMachineModel", "unitRow", "[I", true)
  | 23 => ("ScoreMachineModel", "unitValue", "[J", true)
  | 24 => ("ScoreMachineModel", "unitOpen", "[Z", true)
  | 25 => ("ScoreMachineModel", "rows", "[I", true)
  | _ => ("ScoreMachineModel", "thrown", "I", false)
def tyX4 : Nat → FieldType := fun k => match k with
  | 0 => .array .int
  | 1 => .array .int
  | 2 => .array .int
  | 3 => .int
  | 4 => .array .long
  | 5 => .array .long
  | 6 => .array .long
  | 7 => .array .long
  | 8 => .int
  | 9 => .array .long
  | 10 => .array .long
  | 11 => .int
  | 12 => .boolean
  | 13 => .int
  | 14 => .int
  | 15 => .int
  | 16 => .int
  | 17 => .int
  | 18 => .array .int
  | 19 => .array .int
  | 20 => .array .int
  | 21 => .array .int
  | 22 => .array .int
  | 23 => .array .long
  | 24 => .array .boolean
  | 25 => .array .int
  | _ => .int
abbrev wsX40 : List Cond := u_ws RX4 TX4 27
abbrev cX4_init : ByteArray := prog_6_method_1_code
def yX4_init : MethodName := ⟨RX4, "<init>", "()V"⟩
abbrev cX4_thrown : ByteArray := prog_6_method_2_code
def yX4_thrown : MethodName := ⟨RX4, "thrown", "()I"⟩
abbrev cX4_clear : ByteArray := prog_6_method_3_code
def yX4_clear : MethodName := ⟨RX4, "clear", "()V"⟩
abbrev cX4_again : ByteArray := prog_6_method_4_code
def yX4_again : MethodName := ⟨RX4, "again", "()V"⟩
abbrev cX4_put : ByteArray := prog_6_method_5_code
def yX4_put : MethodName := ⟨RX4, "put", "(IIIII)Z"⟩
abbrev cX4_units : ByteArray := prog_6_method_6_code
def yX4_units : MethodName := ⟨RX4, "units", "(II)Z"⟩
abbrev cX4_latency : ByteArray := prog_6_method_7_code
def yX4_latency : MethodName := ⟨RX4, "latency", "(II)Z"⟩
abbrev cX4_width : ByteArray := prog_6_method_8_code
def yX4_width : MethodName := ⟨RX4, "width", "(I)Z"⟩
abbrev cX4_set : ByteArray := prog_6_method_9_code
def yX4_set : MethodName := ⟨RX4, "set", "(IIJ)Z"⟩
abbrev cX4_kindOf : ByteArray := prog_6_method_10_code
def yX4_kindOf : MethodName := ⟨RX4, "kindOf", "(I)I"⟩
abbrev cX4_writes : ByteArray := prog_6_method_11_code
def yX4_writes : MethodName := ⟨RX4, "writes", "(I)Z"⟩
abbrev cX4_readsA : ByteArray := prog_6_method_12_code
def yX4_readsA : MethodName := ⟨RX4, "readsA", "(I)Z"⟩
abbrev cX4_readsB : ByteArray := prog_6_method_13_code
def yX4_readsB : MethodName := ⟨RX4, "readsB", "(I)Z"⟩
abbrev cX4_code : ByteArray := prog_6_method_14_code
def yX4_code : MethodName := ⟨RX4, "code", "()I"⟩
abbrev cX4_registerB : ByteArray := prog_6_method_15_code
def yX4_registerB : MethodName := ⟨RX4, "registerB", "()I"⟩
abbrev cX4_unitWritten : ByteArray := prog_6_method_16_code
def yX4_unitWritten : MethodName := ⟨RX4, "unitWritten", "(I)I"⟩
abbrev cX4_begins : ByteArray := prog_6_method_17_code
def yX4_begins : MethodName := ⟨RX4, "begins", "()I"⟩
abbrev cX4_sameWritten : ByteArray := prog_6_method_18_code
def yX4_sameWritten : MethodName := ⟨RX4, "sameWritten", "()I"⟩
abbrev cX4_greater : ByteArray := prog_6_method_19_code
def yX4_greater : MethodName := ⟨RX4, "greater", "(II)I"⟩
abbrev cX4_issues : ByteArray := prog_6_method_20_code
def yX4_issues : MethodName := ⟨RX4, "issues", "()I"⟩
abbrev cX4_waited : ByteArray := prog_6_method_21_code
def yX4_waited : MethodName := ⟨RX4, "waited", "(II)I"⟩
abbrev cX4_does : ByteArray := prog_6_method_22_code
def yX4_does : MethodName := ⟨RX4, "does", "()J"⟩
abbrev cX4_issue : ByteArray := prog_6_method_23_code
def yX4_issue : MethodName := ⟨RX4, "issue", "(I)V"⟩
abbrev cX4_commit : ByteArray := prog_6_method_24_code
def yX4_commit : MethodName := ⟨RX4, "commit", "(I)V"⟩
abbrev cX4_run : ByteArray := prog_6_method_25_code
def yX4_run : MethodName := ⟨RX4, "run", "(I)I"⟩
abbrev cX4_open : ByteArray := prog_6_method_26_code
def yX4_open : MethodName := ⟨RX4, "open", "()I"⟩
abbrev cX4_count : ByteArray := prog_6_method_27_code
def yX4_count : MethodName := ⟨RX4, "count", "(I)I"⟩
abbrev cX4_register : ByteArray := prog_6_method_28_code
def yX4_register : MethodName := ⟨RX4, "register", "(I)J"⟩
abbrev cX4_memory : ByteArray := prog_6_method_29_code
def yX4_memory : MethodName := ⟨RX4, "memory", "(I)J"⟩
abbrev cX4_plain : ByteArray := prog_6_method_30_code
def yX4_plain : MethodName := ⟨RX4, "plain", "(II)J"⟩
abbrev cX4_unit : ByteArray := prog_6_method_31_code
def yX4_unit : MethodName := ⟨RX4, "unit", "(III)I"⟩
abbrev cX4_pending : ByteArray := prog_6_method_32_code
def yX4_pending : MethodName := ⟨RX4, "pending", "(I)I"⟩
abbrev cX4_latest : ByteArray := prog_6_method_33_code
def yX4_latest : MethodName := ⟨RX4, "latest", "(II)I"⟩
def RJ9 : String := "java/lang/Math"
def TJ9 : u_T := fun k => match k with
  | _ => ("", "", "", false)
def tyJ9 : Nat → FieldType := fun k => match k with
  | _ => .int
abbrev wsJ90 : List Cond := u_ws RJ9 TJ9 0
abbrev cJ9_max_7cf53 : ByteArray := prog_8_method_65_code
def yJ9_max_7cf53 : MethodName := ⟨RJ9, "max", "(II)I"⟩
def RJ0 : String := "java/lang/String"
def TJ0 : u_T := fun k => match k with
  | _ => ("", "", "", false)
def tyJ0 : Nat → FieldType := fun k => match k with
  | _ => .int
abbrev wsJ00 : List Cond := u_ws RJ0 TJ0 0
def RJ10 : String := "java/lang/System"
def TJ10 : u_T := fun k => match k with
  | _ => ("", "", "", false)
def tyJ10 : Nat → FieldType := fun k => match k with
  | _ => .int
abbrev wsJ100 : List Cond := u_ws RJ10 TJ10 0
def RJ7 : String := "java/util/Arrays"
def TJ7 : u_T := fun k => match k with
  | _ => ("", "", "", false)
def tyJ7 : Nat → FieldType := fun k => match k with
  | _ => .int
abbrev wsJ70 : List Cond := u_ws RJ7 TJ7 0
abbrev cJ7_fill_d0a16 : ByteArray := prog_13_method_101_code
def yJ7_fill_d0a16 : MethodName := ⟨RJ7, "fill", "([JJ)V"⟩
abbrev cJ7_fill_53178 : ByteArray := prog_13_method_103_code
def yJ7_fill_53178 : MethodName := ⟨RJ7, "fill", "([II)V"⟩
def RL : String := "ScoreMachineLaw"
abbrev cL_register : ByteArray := method_3_code
def yL_register : MethodName := ⟨RL, "register", "(LScoreMachine;I[J)I"⟩
abbrev cL_memory : ByteArray := method_4_code
def yL_memory : MethodName := ⟨RL, "memory", "(LScoreMachine;I[J)I"⟩
abbrev cL_plain : ByteArray := method_5_code
def yL_plain : MethodName := ⟨RL, "plain", "(LScoreMachine;II[J)I"⟩
abbrev cL_law : ByteArray := code
def yL_law : MethodName := ⟨RL, "law", "([I)Z"⟩
def wsX0_init : List Cond := .code yX0_init cX0_init 3 none :: ([.methodLink RX0 3 objectInit, .instanceMethod objectInit, .code objectInit ⟨#[0xb1]⟩ 1 none, .arrayClass .int, .fieldLink RX0 9 "ScoreMachine$Board" "stalls" "[I", .fieldLink RX0 15 "ScoreMachine$Board" "writer" "[I", .fieldLink RX0 18 "ScoreMachine$Board" "writtenAt" "[I", .arrayClass .long, .fieldLink RX0 21 "ScoreMachine$Board" "heldBefore" "[J", .fieldLink RX0 25 "ScoreMachine$Board" "readAt" "[I", .fieldLink RX0 28 "ScoreMachine$Board" "row" "[I", .fieldLink RX0 31 "ScoreMachine$Board" "unitRows" "[I", .fieldLink RX0 34 "ScoreMachine$Board" "issuedRows" "[I", .fieldLink RX0 37 "ScoreMachine$Board" "setup" "LScoreMachine$Setup;", .fieldLink RX0 41 "ScoreMachine$Board" "plainMachine" "LScoreMachine$PlainMachine;"] ++ wsX00)
def wsJ7_fill_53178 : List Cond := .code yJ7_fill_53178 cJ7_fill_53178 4 none :: ([])
def wsJ7_fill_d0a16 : List Cond := .code yJ7_fill_d0a16 cJ7_fill_d0a16 5 none :: ([])
def wsX0_begin : List Cond := .code yX0_begin cX0_begin 1 none :: ([.fieldLink RX0 45 "ScoreMachine$Board" "cycle" "I", .fieldLink RX0 49 "ScoreMachine$Board" "over" "Z", .fieldLink RX0 53 "ScoreMachine$Board" "issued" "I", .fieldLink RX0 9 "ScoreMachine$Board" "stalls" "[I", .fieldLink RX0 15 "ScoreMachine$Board" "writer" "[I", .fieldLink RX0 18 "ScoreMachine$Board" "writtenAt" "[I", .fieldLink RX0 21 "ScoreMachine$Board" "heldBefore" "[J", .fieldLink RX0 25 "ScoreMachine$Board" "readAt" "[I", .fieldLink RX0 65 "ScoreMachine$Board" "storeCell" "I", .fieldLink RX0 68 "ScoreMachine$Board" "storeWritten" "I", .fieldLink RX0 71 "ScoreMachine$Board" "storeBefore" "J", .fieldLink RX0 75 "ScoreMachine$Board" "branchWritten" "I", .fieldLink RX0 78 "ScoreMachine$Board" "lastWritten" "I", .fieldLink RX0 31 "ScoreMachine$Board" "unitRows" "[I", .fieldLink RX0 34 "ScoreMachine$Board" "issuedRows" "[I", .methodLink RX0 56 yJ7_fill_53178, .static yJ7_fill_53178, .initialized RJ7, .code yJ7_fill_53178 cJ7_fill_53178 4 none, .methodLink RX0 62 yJ7_fill_d0a16, .static yJ7_fill_d0a16, .code yJ7_fill_d0a16 cJ7_fill_d0a16 5 none] ++ wsX00)
def wsX1_code : List Cond := .code yX1_code cX1_code 1 (some .int) :: ([.fieldLink RX1 18 "ScoreMachine$PlainMachine" "setup" "LScoreMachine$Setup;", .fieldLink RX1 36 "ScoreMachine$Setup" "codes" "[I", .fieldLink RX1 32 "ScoreMachine$PlainMachine" "place" "I"] ++ wsX10 ++ wsX20)
def wsX3_unitRow : List Cond := .code yX3_unitRow cX3_unitRow 2 (some .int) :: ([])
def wsX0_lowestFreeUnit : List Cond := .code yX0_lowestFreeUnit cX0_lowestFreeUnit 3 (some .int) :: ([.fieldLink RX0 37 "ScoreMachine$Board" "setup" "LScoreMachine$Setup;", .fieldLink RX0 133 "ScoreMachine$Setup" "unitsOf" "[I", .fieldLink RX0 31 "ScoreMachine$Board" "unitRows" "[I", .fieldLink RX0 45 "ScoreMachine$Board" "cycle" "I", .static yX3_unitRow, .initialized RX3, .code yX3_unitRow cX3_unitRow 2 (some .int)] ++ wsX00 ++ wsX20)
def wsX3_writesD : List Cond := .code yX3_writesD cX3_writesD 1 (some .boolean) :: ([])
def wsX3_readsA : List Cond := .code yX3_readsA cX3_readsA 1 (some .boolean) :: ([])
def wsX3_readsB : List Cond := .code yX3_readsB cX3_readsB 1 (some .boolean) :: ([])
def wsX2_registerB : List Cond := .code yX2_registerB cX2_registerB 2 (some .int) :: ([.fieldLink RX2 21 "ScoreMachine$Setup" "bs" "[I"] ++ wsX20)
def wsX3_readsD : List Cond := .code yX3_readsD cX3_readsD 1 (some .boolean) :: ([])
def wsX0_settleCycles_r1 : List Cond := [Cond.fieldLink RX0 41 "ScoreMachine$Board" "plainMachine" "LScoreMachine$PlainMachine;", Cond.fieldLink RX0 109 "ScoreMachine$PlainMachine" "place" "I", Cond.fieldLink RX0 45 "ScoreMachine$Board" "cycle" "I", Cond.fieldLink RX0 18 "ScoreMachine$Board" "writtenAt" "[I", Cond.fieldLink RX0 37 "ScoreMachine$Board" "setup" "LScoreMachine$Setup;", Cond.fieldLink RX0 139 "ScoreMachine$Setup" "as" "[I", Cond.methodLink RX0 142 Lib.Math.max.name, Cond.static Lib.Math.max.name, Cond.initialized "java/lang/Math", Cond.code Lib.Math.max.name Lib.Math.max.code 2 (some .int), Cond.fieldLink RX0 106 "ScoreMachine$Setup" "ds" "[I", Cond.fieldLink RX0 156 "ScoreMachine$Setup" "latencies" "[I", Cond.fieldLink RX0 25 "ScoreMachine$Board" "readAt" "[I", Cond.fieldLink RX0 28 "ScoreMachine$Board" "row" "[I", Cond.fieldLink RX0 53 "ScoreMachine$Board" "issued" "I", Cond.static yX3_readsA, Cond.initialized RX3, Cond.code yX3_readsA cX3_readsA 1 (some .boolean), Cond.static yX3_readsB, Cond.code yX3_readsB cX3_readsB 1 (some .boolean), Cond.methodLink RX0 150 yX2_registerB, Cond.instanceMethod yX2_registerB, Cond.selects RX2 yX2_registerB yX2_registerB, Cond.initialized RX2]
def wsX0_settleCycles_r2 : List Cond := [Cond.code yX2_registerB cX2_registerB 2 (some .int), Cond.fieldLink RX2 21 "ScoreMachine$Setup" "bs" "[I", Cond.static yX3_readsD, Cond.code yX3_readsD cX3_readsD 1 (some .boolean), Cond.static yX3_writesD, Cond.code yX3_writesD cX3_writesD 1 (some .boolean)]
def wsX0_settleCycles : List Cond := .code yX0_settleCycles cX0_settleCycles 8 none :: ((wsX0_settleCycles_r1 ++ wsX0_settleCycles_r2) ++ wsX00 ++ wsX10 ++ wsX20)
def wsX0_issuedStart : List Cond := .code yX0_issuedStart cX0_issuedStart 1 (some .int) :: ([])
def wsX0_keepRow : List Cond := .code yX0_keepRow cX0_keepRow 2 none :: ([.fieldLink RX0 28 "ScoreMachine$Board" "row" "[I", .fieldLink RX0 31 "ScoreMachine$Board" "unitRows" "[I", .methodLink RX0 159 arraycopyName, .native arraycopyName, .static arraycopyName, .initialized "java/lang/System", .fieldLink RX0 34 "ScoreMachine$Board" "issuedRows" "[I", .fieldLink RX0 53 "ScoreMachine$Board" "issued" "I", .methodLink RX0 165 yX0_issuedStart, .static yX0_issuedStart, .initialized RX0, .code yX0_issuedStart cX0_issuedStart 1 (some .int)] ++ wsX00)
def wsX0_noteReader : List Cond := .code yX0_noteReader cX0_noteReader 2 none :: ([.fieldLink RX0 25 "ScoreMachine$Board" "readAt" "[I", .fieldLink RX0 28 "ScoreMachine$Board" "row" "[I", .methodLink RX0 142 Lib.Math.max.name, .static Lib.Math.max.name, .initialized "java/lang/Math", .code Lib.Math.max.name Lib.Math.max.code 2 (some .int)] ++ wsX00)
def wsX0_noteReading_r1 : List Cond := [Cond.fieldLink RX0 41 "ScoreMachine$Board" "plainMachine" "LScoreMachine$PlainMachine;", Cond.fieldLink RX0 109 "ScoreMachine$PlainMachine" "place" "I", Cond.fieldLink RX0 37 "ScoreMachine$Board" "setup" "LScoreMachine$Setup;", Cond.fieldLink RX0 139 "ScoreMachine$Setup" "as" "[I", Cond.fieldLink RX0 106 "ScoreMachine$Setup" "ds" "[I", Cond.static yX3_readsA, Cond.initialized RX3, Cond.code yX3_readsA cX3_readsA 1 (some .boolean), Cond.methodLink RX0 168 yX0_noteReader, Cond.instanceMethod yX0_noteReader, Cond.selects RX0 yX0_noteReader yX0_noteReader, Cond.initialized RX0, Cond.code yX0_noteReader cX0_noteReader 2 none, Cond.fieldLink RX0 25 "ScoreMachine$Board" "readAt" "[I", Cond.fieldLink RX0 28 "ScoreMachine$Board" "row" "[I", Cond.methodLink RX0 142 Lib.Math.max.name, Cond.static Lib.Math.max.name, Cond.initialized "java/lang/Math", Cond.code Lib.Math.max.name Lib.Math.max.code 2 (some .int), Cond.static yX3_readsB, Cond.code yX3_readsB cX3_readsB 1 (some .boolean), Cond.methodLink RX0 150 yX2_registerB, Cond.instanceMethod yX2_registerB, Cond.selects RX2 yX2_registerB yX2_registerB]
def wsX0_noteReading_r2 : List Cond := [Cond.initialized RX2, Cond.code yX2_registerB cX2_registerB 2 (some .int), Cond.fieldLink RX2 21 "ScoreMachine$Setup" "bs" "[I", Cond.static yX3_readsD, Cond.code yX3_readsD cX3_readsD 1 (some .boolean)]
def wsX0_noteReading : List Cond := .code yX0_noteReading cX0_noteReading 3 none :: ((wsX0_noteReading_r1 ++ wsX0_noteReading_r2) ++ wsX00 ++ wsX10 ++ wsX20)
def wsX1_cell : List Cond := .code yX1_cell cX1_cell 3 (some .int) :: ([.fieldLink RX1 9 "ScoreMachine$PlainMachine" "registers" "[J", .fieldLink RX1 18 "ScoreMachine$PlainMachine" "setup" "LScoreMachine$Setup;", .fieldLink RX1 40 "ScoreMachine$Setup" "as" "[I", .fieldLink RX1 32 "ScoreMachine$PlainMachine" "place" "I", .fieldLink RX1 43 "ScoreMachine$Setup" "bs" "[I", .constantLong RX1 46 (255)] ++ wsX10 ++ wsX20)
def wsX0_noteWriting_r1 : List Cond := [Cond.fieldLink RX0 28 "ScoreMachine$Board" "row" "[I", Cond.fieldLink RX0 78 "ScoreMachine$Board" "lastWritten" "I", Cond.methodLink RX0 142 Lib.Math.max.name, Cond.static Lib.Math.max.name, Cond.initialized "java/lang/Math", Cond.code Lib.Math.max.name Lib.Math.max.code 2 (some .int), Cond.fieldLink RX0 75 "ScoreMachine$Board" "branchWritten" "I", Cond.fieldLink RX0 41 "ScoreMachine$Board" "plainMachine" "LScoreMachine$PlainMachine;", Cond.fieldLink RX0 65 "ScoreMachine$Board" "storeCell" "I", Cond.fieldLink RX0 68 "ScoreMachine$Board" "storeWritten" "I", Cond.fieldLink RX0 174 "ScoreMachine$PlainMachine" "memory" "[J", Cond.fieldLink RX0 71 "ScoreMachine$Board" "storeBefore" "J", Cond.fieldLink RX0 37 "ScoreMachine$Board" "setup" "LScoreMachine$Setup;", Cond.fieldLink RX0 106 "ScoreMachine$Setup" "ds" "[I", Cond.fieldLink RX0 109 "ScoreMachine$PlainMachine" "place" "I", Cond.fieldLink RX0 15 "ScoreMachine$Board" "writer" "[I", Cond.fieldLink RX0 53 "ScoreMachine$Board" "issued" "I", Cond.fieldLink RX0 18 "ScoreMachine$Board" "writtenAt" "[I", Cond.fieldLink RX0 21 "ScoreMachine$Board" "heldBefore" "[J", Cond.fieldLink RX0 177 "ScoreMachine$PlainMachine" "registers" "[J", Cond.methodLink RX0 171 yX1_cell, Cond.instanceMethod yX1_cell, Cond.selects RX1 yX1_cell yX1_cell, Cond.initialized RX1]
def wsX0_noteWriting_r2 : List Cond := [Cond.code yX1_cell cX1_cell 3 (some .int), Cond.fieldLink RX1 9 "ScoreMachine$PlainMachine" "registers" "[J", Cond.fieldLink RX1 18 "ScoreMachine$PlainMachine" "setup" "LScoreMachine$Setup;", Cond.fieldLink RX1 40 "ScoreMachine$Setup" "as" "[I", Cond.fieldLink RX1 32 "ScoreMachine$PlainMachine" "place" "I", Cond.fieldLink RX1 43 "ScoreMachine$Setup" "bs" "[I", Cond.constantLong RX1 46 (255)]
def wsX0_noteWriting : List Cond := .code yX0_noteWriting cX0_noteWriting 5 none :: ((wsX0_noteWriting_r1 ++ wsX0_noteWriting_r2) ++ wsX00 ++ wsX10 ++ wsX20)
def wsX1_worked : List Cond := .code yX1_worked cX1_worked 5 (some .long) :: ([.constantLong RX1 77 (63)])
def wsX1_value : List Cond := .code yX1_value cX1_value 4 (some .long) :: ([.fieldLink RX1 15 "ScoreMachine$PlainMachine" "memory" "[J", .fieldLink RX1 9 "ScoreMachine$PlainMachine" "registers" "[J", .fieldLink RX1 18 "ScoreMachine$PlainMachine" "setup" "LScoreMachine$Setup;", .fieldLink RX1 40 "ScoreMachine$Setup" "as" "[I", .fieldLink RX1 32 "ScoreMachine$PlainMachine" "place" "I", .fieldLink RX1 43 "ScoreMachine$Setup" "bs" "[I", .methodLink RX1 55 yX1_cell, .instanceMethod yX1_cell, .selects RX1 yX1_cell yX1_cell, .initialized RX1, .code yX1_cell cX1_cell 3 (some .int), .constantLong RX1 46 (255), .methodLink RX1 70 yX2_registerB, .instanceMethod yX2_registerB, .selects RX2 yX2_registerB yX2_registerB, .initialized RX2, .code yX2_registerB cX2_registerB 2 (some .int), .fieldLink RX2 21 "ScoreMachine$Setup" "bs" "[I", .methodLink RX1 73 yX1_worked, .static yX1_worked, .code yX1_worked cX1_worked 5 (some .long), .constantLong RX1 77 (63)] ++ wsX10 ++ wsX20)
def wsX1_placeAfter : List Cond := .code yX1_placeAfter cX1_placeAfter 6 (some .int) :: ([.fieldLink RX1 9 "ScoreMachine$PlainMachine" "registers" "[J", .fieldLink RX1 18 "ScoreMachine$PlainMachine" "setup" "LScoreMachine$Setup;", .fieldLink RX1 40 "ScoreMachine$Setup" "as" "[I", .fieldLink RX1 32 "ScoreMachine$PlainMachine" "place" "I", .fieldLink RX1 43 "ScoreMachine$Setup" "bs" "[I"] ++ wsX10 ++ wsX20)
def wsX1_step_r1 : List Cond := [Cond.fieldLink RX1 18 "ScoreMachine$PlainMachine" "setup" "LScoreMachine$Setup;", Cond.fieldLink RX1 52 "ScoreMachine$Setup" "ds" "[I", Cond.fieldLink RX1 32 "ScoreMachine$PlainMachine" "place" "I", Cond.fieldLink RX1 15 "ScoreMachine$PlainMachine" "memory" "[J", Cond.fieldLink RX1 9 "ScoreMachine$PlainMachine" "registers" "[J", Cond.methodLink RX1 48 yX1_code, Cond.instanceMethod yX1_code, Cond.selects RX1 yX1_code yX1_code, Cond.initialized RX1, Cond.code yX1_code cX1_code 1 (some .int), Cond.fieldLink RX1 36 "ScoreMachine$Setup" "codes" "[I", Cond.methodLink RX1 55 yX1_cell, Cond.instanceMethod yX1_cell, Cond.selects RX1 yX1_cell yX1_cell, Cond.code yX1_cell cX1_cell 3 (some .int), Cond.fieldLink RX1 40 "ScoreMachine$Setup" "as" "[I", Cond.fieldLink RX1 43 "ScoreMachine$Setup" "bs" "[I", Cond.constantLong RX1 46 (255), Cond.static yX3_writesD, Cond.initialized RX3, Cond.code yX3_writesD cX3_writesD 1 (some .boolean), Cond.methodLink RX1 62 yX1_value, Cond.instanceMethod yX1_value, Cond.selects RX1 yX1_value yX1_value]
def wsX1_step_r2 : List Cond := [Cond.code yX1_value cX1_value 4 (some .long), Cond.methodLink RX1 70 yX2_registerB, Cond.instanceMethod yX2_registerB, Cond.selects RX2 yX2_registerB yX2_registerB, Cond.initialized RX2, Cond.code yX2_registerB cX2_registerB 2 (some .int), Cond.fieldLink RX2 21 "ScoreMachine$Setup" "bs" "[I", Cond.methodLink RX1 73 yX1_worked, Cond.static yX1_worked, Cond.code yX1_worked cX1_worked 5 (some .long), Cond.constantLong RX1 77 (63), Cond.methodLink RX1 66 yX1_placeAfter, Cond.instanceMethod yX1_placeAfter, Cond.selects RX1 yX1_placeAfter yX1_placeAfter, Cond.code yX1_placeAfter cX1_placeAfter 6 (some .int)]
def wsX1_step : List Cond := .code yX1_step cX1_step 3 none :: ((wsX1_step_r1 ++ wsX1_step_r2) ++ wsX10 ++ wsX20)
def wsX0_tryToIssue_r1 : List Cond := [Cond.fieldLink RX0 41 "ScoreMachine$Board" "plainMachine" "LScoreMachine$PlainMachine;", Cond.fieldLink RX0 75 "ScoreMachine$Board" "branchWritten" "I", Cond.fieldLink RX0 45 "ScoreMachine$Board" "cycle" "I", Cond.fieldLink RX0 18 "ScoreMachine$Board" "writtenAt" "[I", Cond.fieldLink RX0 37 "ScoreMachine$Board" "setup" "LScoreMachine$Setup;", Cond.fieldLink RX0 106 "ScoreMachine$Setup" "ds" "[I", Cond.fieldLink RX0 109 "ScoreMachine$PlainMachine" "place" "I", Cond.fieldLink RX0 53 "ScoreMachine$Board" "issued" "I", Cond.methodLink RX0 86 yX1_code, Cond.instanceMethod yX1_code, Cond.selects RX1 yX1_code yX1_code, Cond.initialized RX1, Cond.code yX1_code cX1_code 1 (some .int), Cond.fieldLink RX1 18 "ScoreMachine$PlainMachine" "setup" "LScoreMachine$Setup;", Cond.fieldLink RX1 36 "ScoreMachine$Setup" "codes" "[I", Cond.fieldLink RX1 32 "ScoreMachine$PlainMachine" "place" "I", Cond.methodLink RX0 98 yX0_lowestFreeUnit, Cond.instanceMethod yX0_lowestFreeUnit, Cond.selects RX0 yX0_lowestFreeUnit yX0_lowestFreeUnit, Cond.initialized RX0, Cond.code yX0_lowestFreeUnit cX0_lowestFreeUnit 3 (some .int), Cond.fieldLink RX0 133 "ScoreMachine$Setup" "unitsOf" "[I", Cond.fieldLink RX0 31 "ScoreMachine$Board" "unitRows" "[I", Cond.static yX3_unitRow]
def wsX0_tryToIssue_r2 : List Cond := [Cond.initialized RX3, Cond.code yX3_unitRow cX3_unitRow 2 (some .int), Cond.static yX3_writesD, Cond.code yX3_writesD cX3_writesD 1 (some .boolean), Cond.methodLink RX0 112 yX0_settleCycles, Cond.instanceMethod yX0_settleCycles, Cond.selects RX0 yX0_settleCycles yX0_settleCycles, Cond.code yX0_settleCycles cX0_settleCycles 8 none, Cond.fieldLink RX0 139 "ScoreMachine$Setup" "as" "[I", Cond.methodLink RX0 142 Lib.Math.max.name, Cond.static Lib.Math.max.name, Cond.initialized "java/lang/Math", Cond.code Lib.Math.max.name Lib.Math.max.code 2 (some .int), Cond.fieldLink RX0 156 "ScoreMachine$Setup" "latencies" "[I", Cond.fieldLink RX0 25 "ScoreMachine$Board" "readAt" "[I", Cond.fieldLink RX0 28 "ScoreMachine$Board" "row" "[I", Cond.static yX3_readsA, Cond.code yX3_readsA cX3_readsA 1 (some .boolean), Cond.static yX3_readsB, Cond.code yX3_readsB cX3_readsB 1 (some .boolean), Cond.methodLink RX0 150 yX2_registerB, Cond.instanceMethod yX2_registerB, Cond.selects RX2 yX2_registerB yX2_registerB, Cond.initialized RX2]
def wsX0_tryToIssue_r3 : List Cond := [Cond.code yX2_registerB cX2_registerB 2 (some .int), Cond.fieldLink RX2 21 "ScoreMachine$Setup" "bs" "[I", Cond.static yX3_readsD, Cond.code yX3_readsD cX3_readsD 1 (some .boolean), Cond.methodLink RX0 120 yX0_keepRow, Cond.instanceMethod yX0_keepRow, Cond.selects RX0 yX0_keepRow yX0_keepRow, Cond.code yX0_keepRow cX0_keepRow 2 none, Cond.methodLink RX0 159 arraycopyName, Cond.native arraycopyName, Cond.static arraycopyName, Cond.initialized "java/lang/System", Cond.fieldLink RX0 34 "ScoreMachine$Board" "issuedRows" "[I", Cond.methodLink RX0 165 yX0_issuedStart, Cond.static yX0_issuedStart, Cond.code yX0_issuedStart cX0_issuedStart 1 (some .int), Cond.methodLink RX0 124 yX0_noteReading, Cond.instanceMethod yX0_noteReading, Cond.selects RX0 yX0_noteReading yX0_noteReading, Cond.code yX0_noteReading cX0_noteReading 3 none, Cond.methodLink RX0 168 yX0_noteReader, Cond.instanceMethod yX0_noteReader, Cond.selects RX0 yX0_noteReader yX0_noteReader, Cond.code yX0_noteReader cX0_noteReader 2 none]
def wsX0_tryToIssue_r4 : List Cond := [Cond.methodLink RX0 127 yX0_noteWriting, Cond.instanceMethod yX0_noteWriting, Cond.selects RX0 yX0_noteWriting yX0_noteWriting, Cond.code yX0_noteWriting cX0_noteWriting 5 none, Cond.fieldLink RX0 78 "ScoreMachine$Board" "lastWritten" "I", Cond.fieldLink RX0 65 "ScoreMachine$Board" "storeCell" "I", Cond.fieldLink RX0 68 "ScoreMachine$Board" "storeWritten" "I", Cond.fieldLink RX0 174 "ScoreMachine$PlainMachine" "memory" "[J", Cond.fieldLink RX0 71 "ScoreMachine$Board" "storeBefore" "J", Cond.fieldLink RX0 15 "ScoreMachine$Board" "writer" "[I", Cond.fieldLink RX0 21 "ScoreMachine$Board" "heldBefore" "[J", Cond.fieldLink RX0 177 "ScoreMachine$PlainMachine" "registers" "[J", Cond.methodLink RX0 171 yX1_cell, Cond.instanceMethod yX1_cell, Cond.selects RX1 yX1_cell yX1_cell, Cond.code yX1_cell cX1_cell 3 (some .int), Cond.fieldLink RX1 9 "ScoreMachine$PlainMachine" "registers" "[J", Cond.fieldLink RX1 40 "ScoreMachine$Setup" "as" "[I", Cond.fieldLink RX1 43 "ScoreMachine$Setup" "bs" "[I", Cond.constantLong RX1 46 (255), Cond.methodLink RX0 130 yX1_step, Cond.instanceMethod yX1_step, Cond.selects RX1 yX1_step yX1_step, Cond.code yX1_step cX1_step 3 none]
def wsX0_tryToIssue_r5 : List Cond := [Cond.fieldLink RX1 52 "ScoreMachine$Setup" "ds" "[I", Cond.fieldLink RX1 15 "ScoreMachine$PlainMachine" "memory" "[J", Cond.methodLink RX1 48 yX1_code, Cond.methodLink RX1 55 yX1_cell, Cond.methodLink RX1 62 yX1_value, Cond.instanceMethod yX1_value, Cond.selects RX1 yX1_value yX1_value, Cond.code yX1_value cX1_value 4 (some .long), Cond.methodLink RX1 70 yX2_registerB, Cond.methodLink RX1 73 yX1_worked, Cond.static yX1_worked, Cond.code yX1_worked cX1_worked 5 (some .long), Cond.constantLong RX1 77 (63), Cond.methodLink RX1 66 yX1_placeAfter, Cond.instanceMethod yX1_placeAfter, Cond.selects RX1 yX1_placeAfter yX1_placeAfter, Cond.code yX1_placeAfter cX1_placeAfter 6 (some .int)]
def wsX0_tryToIssue : List Cond := .code yX0_tryToIssue cX0_tryToIssue 4 (some .int) :: ((wsX0_tryToIssue_r1 ++ (wsX0_tryToIssue_r2 ++ (wsX0_tryToIssue_r3 ++ (wsX0_tryToIssue_r4 ++ wsX0_tryToIssue_r5)))) ++ wsX00 ++ wsX20 ++ wsX10)
def wsX0_goOneCycle_r1 : List Cond := [Cond.fieldLink RX0 45 "ScoreMachine$Board" "cycle" "I", Cond.fieldLink RX0 37 "ScoreMachine$Board" "setup" "LScoreMachine$Setup;", Cond.fieldLink RX0 81 "ScoreMachine$Setup" "width" "I", Cond.fieldLink RX0 41 "ScoreMachine$Board" "plainMachine" "LScoreMachine$PlainMachine;", Cond.fieldLink RX0 78 "ScoreMachine$Board" "lastWritten" "I", Cond.fieldLink RX0 49 "ScoreMachine$Board" "over" "Z", Cond.fieldLink RX0 9 "ScoreMachine$Board" "stalls" "[I", Cond.methodLink RX0 86 yX1_code, Cond.instanceMethod yX1_code, Cond.selects RX1 yX1_code yX1_code, Cond.initialized RX1, Cond.code yX1_code cX1_code 1 (some .int), Cond.fieldLink RX1 18 "ScoreMachine$PlainMachine" "setup" "LScoreMachine$Setup;", Cond.fieldLink RX1 36 "ScoreMachine$Setup" "codes" "[I", Cond.fieldLink RX1 32 "ScoreMachine$PlainMachine" "place" "I", Cond.methodLink RX0 92 yX0_tryToIssue, Cond.instanceMethod yX0_tryToIssue, Cond.selects RX0 yX0_tryToIssue yX0_tryToIssue, Cond.initialized RX0, Cond.code yX0_tryToIssue cX0_tryToIssue 4 (some .int), Cond.fieldLink RX0 75 "ScoreMachine$Board" "branchWritten" "I", Cond.fieldLink RX0 18 "ScoreMachine$Board" "writtenAt" "[I", Cond.fieldLink RX0 106 "ScoreMachine$Setup" "ds" "[I", Cond.fieldLink RX0 109 "ScoreMachine$PlainMachine" "place" "I"]
def wsX0_goOneCycle_r2 : List Cond := [Cond.fieldLink RX0 53 "ScoreMachine$Board" "issued" "I", Cond.methodLink RX0 98 yX0_lowestFreeUnit, Cond.instanceMethod yX0_lowestFreeUnit, Cond.selects RX0 yX0_lowestFreeUnit yX0_lowestFreeUnit, Cond.code yX0_lowestFreeUnit cX0_lowestFreeUnit 3 (some .int), Cond.fieldLink RX0 133 "ScoreMachine$Setup" "unitsOf" "[I", Cond.fieldLink RX0 31 "ScoreMachine$Board" "unitRows" "[I", Cond.static yX3_unitRow, Cond.initialized RX3, Cond.code yX3_unitRow cX3_unitRow 2 (some .int), Cond.static yX3_writesD, Cond.code yX3_writesD cX3_writesD 1 (some .boolean), Cond.methodLink RX0 112 yX0_settleCycles, Cond.instanceMethod yX0_settleCycles, Cond.selects RX0 yX0_settleCycles yX0_settleCycles, Cond.code yX0_settleCycles cX0_settleCycles 8 none, Cond.fieldLink RX0 139 "ScoreMachine$Setup" "as" "[I", Cond.methodLink RX0 142 Lib.Math.max.name, Cond.static Lib.Math.max.name, Cond.initialized "java/lang/Math", Cond.code Lib.Math.max.name Lib.Math.max.code 2 (some .int), Cond.fieldLink RX0 156 "ScoreMachine$Setup" "latencies" "[I", Cond.fieldLink RX0 25 "ScoreMachine$Board" "readAt" "[I", Cond.fieldLink RX0 28 "ScoreMachine$Board" "row" "[I"]
def wsX0_goOneCycle_r3 : List Cond := [Cond.static yX3_readsA, Cond.code yX3_readsA cX3_readsA 1 (some .boolean), Cond.static yX3_readsB, Cond.code yX3_readsB cX3_readsB 1 (some .boolean), Cond.methodLink RX0 150 yX2_registerB, Cond.instanceMethod yX2_registerB, Cond.selects RX2 yX2_registerB yX2_registerB, Cond.initialized RX2, Cond.code yX2_registerB cX2_registerB 2 (some .int), Cond.fieldLink RX2 21 "ScoreMachine$Setup" "bs" "[I", Cond.static yX3_readsD, Cond.code yX3_readsD cX3_readsD 1 (some .boolean), Cond.methodLink RX0 120 yX0_keepRow, Cond.instanceMethod yX0_keepRow, Cond.selects RX0 yX0_keepRow yX0_keepRow, Cond.code yX0_keepRow cX0_keepRow 2 none, Cond.methodLink RX0 159 arraycopyName, Cond.native arraycopyName, Cond.static arraycopyName, Cond.initialized "java/lang/System", Cond.fieldLink RX0 34 "ScoreMachine$Board" "issuedRows" "[I", Cond.methodLink RX0 165 yX0_issuedStart, Cond.static yX0_issuedStart, Cond.code yX0_issuedStart cX0_issuedStart 1 (some .int)]
def wsX0_goOneCycle_r4 : List Cond := [Cond.methodLink RX0 124 yX0_noteReading, Cond.instanceMethod yX0_noteReading, Cond.selects RX0 yX0_noteReading yX0_noteReading, Cond.code yX0_noteReading cX0_noteReading 3 none, Cond.methodLink RX0 168 yX0_noteReader, Cond.instanceMethod yX0_noteReader, Cond.selects RX0 yX0_noteReader yX0_noteReader, Cond.code yX0_noteReader cX0_noteReader 2 none, Cond.methodLink RX0 127 yX0_noteWriting, Cond.instanceMethod yX0_noteWriting, Cond.selects RX0 yX0_noteWriting yX0_noteWriting, Cond.code yX0_noteWriting cX0_noteWriting 5 none, Cond.fieldLink RX0 65 "ScoreMachine$Board" "storeCell" "I", Cond.fieldLink RX0 68 "ScoreMachine$Board" "storeWritten" "I", Cond.fieldLink RX0 174 "ScoreMachine$PlainMachine" "memory" "[J", Cond.fieldLink RX0 71 "ScoreMachine$Board" "storeBefore" "J", Cond.fieldLink RX0 15 "ScoreMachine$Board" "writer" "[I", Cond.fieldLink RX0 21 "ScoreMachine$Board" "heldBefore" "[J", Cond.fieldLink RX0 177 "ScoreMachine$PlainMachine" "registers" "[J", Cond.methodLink RX0 171 yX1_cell, Cond.instanceMethod yX1_cell, Cond.selects RX1 yX1_cell yX1_cell, Cond.code yX1_cell cX1_cell 3 (some .int), Cond.fieldLink RX1 9 "ScoreMachine$PlainMachine" "registers" "[J"]
def wsX0_goOneCycle_r5 : List Cond := [Cond.fieldLink RX1 40 "ScoreMachine$Setup" "as" "[I", Cond.fieldLink RX1 43 "ScoreMachine$Setup" "bs" "[I", Cond.constantLong RX1 46 (255), Cond.methodLink RX0 130 yX1_step, Cond.instanceMethod yX1_step, Cond.selects RX1 yX1_step yX1_step, Cond.code yX1_step cX1_step 3 none, Cond.fieldLink RX1 52 "ScoreMachine$Setup" "ds" "[I", Cond.fieldLink RX1 15 "ScoreMachine$PlainMachine" "memory" "[J", Cond.methodLink RX1 48 yX1_code, Cond.methodLink RX1 55 yX1_cell, Cond.methodLink RX1 62 yX1_value, Cond.instanceMethod yX1_value, Cond.selects RX1 yX1_value yX1_value, Cond.code yX1_value cX1_value 4 (some .long), Cond.methodLink RX1 70 yX2_registerB, Cond.methodLink RX1 73 yX1_worked, Cond.static yX1_worked, Cond.code yX1_worked cX1_worked 5 (some .long), Cond.constantLong RX1 77 (63), Cond.methodLink RX1 66 yX1_placeAfter, Cond.instanceMethod yX1_placeAfter, Cond.selects RX1 yX1_placeAfter yX1_placeAfter, Cond.code yX1_placeAfter cX1_placeAfter 6 (some .int)]
def wsX0_goOneCycle : List Cond := .code yX0_goOneCycle cX0_goOneCycle 3 none :: ((wsX0_goOneCycle_r1 ++ (wsX0_goOneCycle_r2 ++ (wsX0_goOneCycle_r3 ++ (wsX0_goOneCycle_r4 ++ wsX0_goOneCycle_r5)))) ++ wsX00 ++ wsX20 ++ wsX10)
def wsX0_notWritten : List Cond := .code yX0_notWritten cX0_notWritten 3 (some .int) :: ([.fieldLink RX0 31 "ScoreMachine$Board" "unitRows" "[I", .fieldLink RX0 45 "ScoreMachine$Board" "cycle" "I"] ++ wsX00)
def wsX0_registerNow : List Cond := .code yX0_registerNow cX0_registerNow 2 (some .long) :: ([.fieldLink RX0 18 "ScoreMachine$Board" "writtenAt" "[I", .fieldLink RX0 45 "ScoreMachine$Board" "cycle" "I", .fieldLink RX0 21 "ScoreMachine$Board" "heldBefore" "[J", .fieldLink RX0 41 "ScoreMachine$Board" "plainMachine" "LScoreMachine$PlainMachine;", .fieldLink RX0 177 "ScoreMachine$PlainMachine" "registers" "[J"] ++ wsX00 ++ wsX10)
def wsX0_memoryNow : List Cond := .code yX0_memoryNow cX0_memoryNow 2 (some .long) :: ([.fieldLink RX0 65 "ScoreMachine$Board" "storeCell" "I", .fieldLink RX0 68 "ScoreMachine$Board" "storeWritten" "I", .fieldLink RX0 45 "ScoreMachine$Board" "cycle" "I", .fieldLink RX0 71 "ScoreMachine$Board" "storeBefore" "J", .fieldLink RX0 41 "ScoreMachine$Board" "plainMachine" "LScoreMachine$PlainMachine;", .fieldLink RX0 174 "ScoreMachine$PlainMachine" "memory" "[J"] ++ wsX00 ++ wsX10)
def wsX0_tellUnit : List Cond := .code yX0_tellUnit cX0_tellUnit 4 (some .int) :: ([.fieldLink RX0 31 "ScoreMachine$Board" "unitRows" "[I", .fieldLink RX0 45 "ScoreMachine$Board" "cycle" "I"] ++ wsX00)
def wsX0_tellIssued : List Cond := .code yX0_tellIssued cX0_tellIssued 4 (some .int) :: ([.fieldLink RX0 34 "ScoreMachine$Board" "issuedRows" "[I", .fieldLink RX0 45 "ScoreMachine$Board" "cycle" "I", .methodLink RX0 165 yX0_issuedStart, .static yX0_issuedStart, .initialized RX0, .code yX0_issuedStart cX0_issuedStart 1 (some .int)] ++ wsX00)
def wsX1_init : List Cond := .code yX1_init cX1_init 2 none :: ([.methodLink RX1 3 objectInit, .instanceMethod objectInit, .code objectInit ⟨#[0xb1]⟩ 1 none, .arrayClass .long, .fieldLink RX1 9 "ScoreMachine$PlainMachine" "registers" "[J", .fieldLink RX1 15 "ScoreMachine$PlainMachine" "memory" "[J", .fieldLink RX1 18 "ScoreMachine$PlainMachine" "setup" "LScoreMachine$Setup;"] ++ wsX10)
def wsX1_begin : List Cond := .code yX1_begin cX1_begin 1 none :: ([.fieldLink RX1 18 "ScoreMachine$PlainMachine" "setup" "LScoreMachine$Setup;", .fieldLink RX1 22 "ScoreMachine$Setup" "registers" "[J", .fieldLink RX1 9 "ScoreMachine$PlainMachine" "registers" "[J", .methodLink RX1 25 arraycopyName, .native arraycopyName, .static arraycopyName, .initialized "java/lang/System", .fieldLink RX1 31 "ScoreMachine$Setup" "memory" "[J", .fieldLink RX1 15 "ScoreMachine$PlainMachine" "memory" "[J", .fieldLink RX1 32 "ScoreMachine$PlainMachine" "place" "I"] ++ wsX10 ++ wsX20)
def wsX2_begin : List Cond := .code yX2_begin cX2_begin 1 none :: ([.fieldLink RX2 9 "ScoreMachine$Setup" "codes" "[I", .fieldLink RX2 15 "ScoreMachine$Setup" "ds" "[I", .fieldLink RX2 18 "ScoreMachine$Setup" "as" "[I", .fieldLink RX2 21 "ScoreMachine$Setup" "bs" "[I", .fieldLink RX2 24 "ScoreMachine$Setup" "unitsOf" "[I", .fieldLink RX2 27 "ScoreMachine$Setup" "latencies" "[I", .methodLink RX2 49 arraycopyName, .native arraycopyName, .static arraycopyName, .initialized "java/lang/System", .fieldLink RX2 30 "ScoreMachine$Setup" "registers" "[J", .fieldLink RX2 34 "ScoreMachine$Setup" "memory" "[J", .fieldLink RX2 58 "ScoreMachine$Setup" "width" "I", .methodLink RX2 40 yJ7_fill_53178, .static yJ7_fill_53178, .initialized RJ7, .code yJ7_fill_53178 cJ7_fill_53178 4 none, .methodLink RX2 55 yJ7_fill_d0a16, .static yJ7_fill_d0a16, .code yJ7_fill_d0a16 cJ7_fill_d0a16 5 none] ++ wsX20)
def wsX2_init_r1 : List Cond := [Cond.methodLink RX2 3 objectInit, Cond.instanceMethod objectInit, Cond.code objectInit ⟨#[0xb1]⟩ 1 none, Cond.arrayClass .int, Cond.fieldLink RX2 9 "ScoreMachine$Setup" "codes" "[I", Cond.fieldLink RX2 15 "ScoreMachine$Setup" "ds" "[I", Cond.fieldLink RX2 18 "ScoreMachine$Setup" "as" "[I", Cond.fieldLink RX2 21 "ScoreMachine$Setup" "bs" "[I", Cond.fieldLink RX2 24 "ScoreMachine$Setup" "unitsOf" "[I", Cond.fieldLink RX2 27 "ScoreMachine$Setup" "latencies" "[I", Cond.arrayClass .long, Cond.fieldLink RX2 30 "ScoreMachine$Setup" "registers" "[J", Cond.fieldLink RX2 34 "ScoreMachine$Setup" "memory" "[J", Cond.methodLink RX2 37 yX2_begin, Cond.instanceMethod yX2_begin, Cond.selects RX2 yX2_begin yX2_begin, Cond.initialized RX2, Cond.code yX2_begin cX2_begin 1 none, Cond.methodLink RX2 49 arraycopyName, Cond.native arraycopyName, Cond.static arraycopyName, Cond.initialized "java/lang/System", Cond.fieldLink RX2 58 "ScoreMachine$Setup" "width" "I", Cond.methodLink RX2 40 yJ7_fill_53178]
def wsX2_init_r2 : List Cond := [Cond.static yJ7_fill_53178, Cond.initialized RJ7, Cond.code yJ7_fill_53178 cJ7_fill_53178 4 none, Cond.methodLink RX2 55 yJ7_fill_d0a16, Cond.static yJ7_fill_d0a16, Cond.code yJ7_fill_d0a16 cJ7_fill_d0a16 5 none]
def wsX2_init : List Cond := .code yX2_init cX2_init 1 none :: ((wsX2_init_r1 ++ wsX2_init_r2) ++ wsX20)
def wsX3_init_r1 : List Cond := [Cond.methodLink RX3 1 objectInit, Cond.instanceMethod objectInit, Cond.code objectInit ⟨#[0xb1]⟩ 1 none, Cond.classLink RX3 7 RX2, Cond.instantiable RX2 9, Cond.initialized RX2, Cond.fieldLink RX3 10 "ScoreMachine" "setup" "LScoreMachine$Setup;", Cond.classLink RX3 16 RX1, Cond.instantiable RX1 4, Cond.initialized RX1, Cond.fieldLink RX3 21 "ScoreMachine" "plainMachine" "LScoreMachine$PlainMachine;", Cond.classLink RX3 25 RX0, Cond.instantiable RX0 18, Cond.initialized RX0, Cond.fieldLink RX3 30 "ScoreMachine" "board" "LScoreMachine$Board;", Cond.methodLink RX3 9 yX2_init, Cond.instanceMethod yX2_init, Cond.code yX2_init cX2_init 1 none, Cond.methodLink RX2 3 objectInit, Cond.arrayClass .int, Cond.fieldLink RX2 9 "ScoreMachine$Setup" "codes" "[I", Cond.fieldLink RX2 15 "ScoreMachine$Setup" "ds" "[I", Cond.fieldLink RX2 18 "ScoreMachine$Setup" "as" "[I", Cond.fieldLink RX2 21 "ScoreMachine$Setup" "bs" "[I"]
def wsX3_init_r2 : List Cond := [Cond.fieldLink RX2 24 "ScoreMachine$Setup" "unitsOf" "[I", Cond.fieldLink RX2 27 "ScoreMachine$Setup" "latencies" "[I", Cond.arrayClass .long, Cond.fieldLink RX2 30 "ScoreMachine$Setup" "registers" "[J", Cond.fieldLink RX2 34 "ScoreMachine$Setup" "memory" "[J", Cond.methodLink RX2 37 yX2_begin, Cond.instanceMethod yX2_begin, Cond.selects RX2 yX2_begin yX2_begin, Cond.code yX2_begin cX2_begin 1 none, Cond.methodLink RX2 49 arraycopyName, Cond.native arraycopyName, Cond.static arraycopyName, Cond.initialized "java/lang/System", Cond.fieldLink RX2 58 "ScoreMachine$Setup" "width" "I", Cond.methodLink RX2 40 yJ7_fill_53178, Cond.static yJ7_fill_53178, Cond.initialized RJ7, Cond.code yJ7_fill_53178 cJ7_fill_53178 4 none, Cond.methodLink RX2 55 yJ7_fill_d0a16, Cond.static yJ7_fill_d0a16, Cond.code yJ7_fill_d0a16 cJ7_fill_d0a16 5 none, Cond.methodLink RX3 18 yX1_init, Cond.instanceMethod yX1_init, Cond.code yX1_init cX1_init 2 none]
def wsX3_init_r3 : List Cond := [Cond.methodLink RX1 3 objectInit, Cond.fieldLink RX1 9 "ScoreMachine$PlainMachine" "registers" "[J", Cond.fieldLink RX1 15 "ScoreMachine$PlainMachine" "memory" "[J", Cond.fieldLink RX1 18 "ScoreMachine$PlainMachine" "setup" "LScoreMachine$Setup;", Cond.methodLink RX3 27 yX0_init, Cond.instanceMethod yX0_init, Cond.code yX0_init cX0_init 3 none, Cond.methodLink RX0 3 objectInit, Cond.fieldLink RX0 9 "ScoreMachine$Board" "stalls" "[I", Cond.fieldLink RX0 15 "ScoreMachine$Board" "writer" "[I", Cond.fieldLink RX0 18 "ScoreMachine$Board" "writtenAt" "[I", Cond.fieldLink RX0 21 "ScoreMachine$Board" "heldBefore" "[J", Cond.fieldLink RX0 25 "ScoreMachine$Board" "readAt" "[I", Cond.fieldLink RX0 28 "ScoreMachine$Board" "row" "[I", Cond.fieldLink RX0 31 "ScoreMachine$Board" "unitRows" "[I", Cond.fieldLink RX0 34 "ScoreMachine$Board" "issuedRows" "[I", Cond.fieldLink RX0 37 "ScoreMachine$Board" "setup" "LScoreMachine$Setup;", Cond.fieldLink RX0 41 "ScoreMachine$Board" "plainMachine" "LScoreMachine$PlainMachine;"]
def wsX3_init : List Cond := .code yX3_init cX3_init 1 none :: ((wsX3_init_r1 ++ (wsX3_init_r2 ++ wsX3_init_r3)) ++ wsX20 ++ wsX30 ++ wsX10 ++ wsX00)
def wsX3_began : List Cond := .code yX3_began cX3_began 1 (some .boolean) :: ([.fieldLink RX3 30 "ScoreMachine" "board" "LScoreMachine$Board;", .fieldLink RX3 92 "ScoreMachine$Board" "cycle" "I"] ++ wsX30 ++ wsX00)
def wsX3_within : List Cond := .code yX3_within cX3_within 2 (some .boolean) :: ([])
def wsX3_put : List Cond := .code yX3_put cX3_put 6 (some .boolean) :: ([.fieldLink RX3 42 "ScoreMachine" "KIND_OF_CODE" "[I", .fieldLink RX3 10 "ScoreMachine" "setup" "LScoreMachine$Setup;", .fieldLink RX3 46 "ScoreMachine$Setup" "codes" "[I", .fieldLink RX3 49 "ScoreMachine$Setup" "ds" "[I", .fieldLink RX3 52 "ScoreMachine$Setup" "as" "[I", .fieldLink RX3 55 "ScoreMachine$Setup" "bs" "[I", .methodLink RX3 34 yX3_began, .instanceMethod yX3_began, .selects RX3 yX3_began yX3_began, .initialized RX3, .code yX3_began cX3_began 1 (some .boolean), .fieldLink RX3 30 "ScoreMachine" "board" "LScoreMachine$Board;", .fieldLink RX3 92 "ScoreMachine$Board" "cycle" "I", .methodLink RX3 38 yX3_within, .static yX3_within, .code yX3_within cX3_within 2 (some .boolean)] ++ wsX30 ++ wsX20 ++ wsX00)
def wsX3_units : List Cond := .code yX3_units cX3_units 3 (some .boolean) :: ([.fieldLink RX3 10 "ScoreMachine" "setup" "LScoreMachine$Setup;", .fieldLink RX3 58 "ScoreMachine$Setup" "unitsOf" "[I", .methodLink RX3 34 yX3_began, .instanceMethod yX3_began, .selects RX3 yX3_began yX3_began, .initialized RX3, .code yX3_began cX3_began 1 (some .boolean), .fieldLink RX3 30 "ScoreMachine" "board" "LScoreMachine$Board;", .fieldLink RX3 92 "ScoreMachine$Board" "cycle" "I", .methodLink RX3 38 yX3_within, .static yX3_within, .code yX3_within cX3_within 2 (some .boolean)] ++ wsX30 ++ wsX20 ++ wsX00)
def wsX3_latency : List Cond := .code yX3_latency cX3_latency 3 (some .boolean) :: ([.fieldLink RX3 10 "ScoreMachine" "setup" "LScoreMachine$Setup;", .fieldLink RX3 61 "ScoreMachine$Setup" "latencies" "[I", .methodLink RX3 34 yX3_began, .instanceMethod yX3_began, .selects RX3 yX3_began yX3_began, .initialized RX3, .code yX3_began cX3_began 1 (some .boolean), .fieldLink RX3 30 "ScoreMachine" "board" "LScoreMachine$Board;", .fieldLink RX3 92 "ScoreMachine$Board" "cycle" "I", .methodLink RX3 38 yX3_within, .static yX3_within, .code yX3_within cX3_within 2 (some .boolean)] ++ wsX30 ++ wsX20 ++ wsX00)
def wsX3_width : List Cond := .code yX3_width cX3_width 2 (some .boolean) :: ([.fieldLink RX3 10 "ScoreMachine" "setup" "LScoreMachine$Setup;", .fieldLink RX3 64 "ScoreMachine$Setup" "width" "I", .methodLink RX3 34 yX3_began, .instanceMethod yX3_began, .selects RX3 yX3_began yX3_began, .initialized RX3, .code yX3_began cX3_began 1 (some .boolean), .fieldLink RX3 30 "ScoreMachine" "board" "LScoreMachine$Board;", .fieldLink RX3 92 "ScoreMachine$Board" "cycle" "I"] ++ wsX30 ++ wsX20 ++ wsX00)
def wsX3_isThere : List Cond := .code yX3_isThere cX3_isThere 2 (some .boolean) :: ([.methodLink RX3 38 yX3_within, .static yX3_within, .initialized RX3, .code yX3_within cX3_within 2 (some .boolean)])
def wsX3_set : List Cond := .code yX3_set cX3_set 5 (some .boolean) :: ([.fieldLink RX3 10 "ScoreMachine" "setup" "LScoreMachine$Setup;", .fieldLink RX3 71 "ScoreMachine$Setup" "registers" "[J", .fieldLink RX3 21 "ScoreMachine" "plainMachine" "LScoreMachine$PlainMachine;", .fieldLink RX3 75 "ScoreMachine$PlainMachine" "registers" "[J", .fieldLink RX3 76 "ScoreMachine$Setup" "memory" "[J", .fieldLink RX3 79 "ScoreMachine$PlainMachine" "memory" "[J", .methodLink RX3 34 yX3_began, .instanceMethod yX3_began, .selects RX3 yX3_began yX3_began, .initialized RX3, .code yX3_began cX3_began 1 (some .boolean), .fieldLink RX3 30 "ScoreMachine" "board" "LScoreMachine$Board;", .fieldLink RX3 92 "ScoreMachine$Board" "cycle" "I", .methodLink RX3 68 yX3_isThere, .static yX3_isThere, .code yX3_isThere cX3_isThere 2 (some .boolean), .methodLink RX3 38 yX3_within, .static yX3_within, .code yX3_within cX3_within 2 (some .boolean)] ++ wsX30 ++ wsX20 ++ wsX10 ++ wsX00)
def wsX3_run_r1 : List Cond := [Cond.fieldLink RX3 30 "ScoreMachine" "board" "LScoreMachine$Board;", Cond.fieldLink RX3 80 "ScoreMachine$Board" "over" "Z", Cond.methodLink RX3 84 yX0_goOneCycle, Cond.instanceMethod yX0_goOneCycle, Cond.selects RX0 yX0_goOneCycle yX0_goOneCycle, Cond.initialized RX0, Cond.code yX0_goOneCycle cX0_goOneCycle 3 none, Cond.fieldLink RX0 45 "ScoreMachine$Board" "cycle" "I", Cond.fieldLink RX0 37 "ScoreMachine$Board" "setup" "LScoreMachine$Setup;", Cond.fieldLink RX0 81 "ScoreMachine$Setup" "width" "I", Cond.fieldLink RX0 41 "ScoreMachine$Board" "plainMachine" "LScoreMachine$PlainMachine;", Cond.fieldLink RX0 78 "ScoreMachine$Board" "lastWritten" "I", Cond.fieldLink RX0 49 "ScoreMachine$Board" "over" "Z", Cond.fieldLink RX0 9 "ScoreMachine$Board" "stalls" "[I", Cond.methodLink RX0 86 yX1_code, Cond.instanceMethod yX1_code, Cond.selects RX1 yX1_code yX1_code, Cond.initialized RX1, Cond.code yX1_code cX1_code 1 (some .int), Cond.fieldLink RX1 18 "ScoreMachine$PlainMachine" "setup" "LScoreMachine$Setup;", Cond.fieldLink RX1 36 "ScoreMachine$Setup" "codes" "[I", Cond.fieldLink RX1 32 "ScoreMachine$PlainMachine" "place" "I", Cond.methodLink RX0 92 yX0_tryToIssue, Cond.instanceMethod yX0_tryToIssue]
def wsX3_run_r2 : List Cond := [Cond.selects RX0 yX0_tryToIssue yX0_tryToIssue, Cond.code yX0_tryToIssue cX0_tryToIssue 4 (some .int), Cond.fieldLink RX0 75 "ScoreMachine$Board" "branchWritten" "I", Cond.fieldLink RX0 18 "ScoreMachine$Board" "writtenAt" "[I", Cond.fieldLink RX0 106 "ScoreMachine$Setup" "ds" "[I", Cond.fieldLink RX0 109 "ScoreMachine$PlainMachine" "place" "I", Cond.fieldLink RX0 53 "ScoreMachine$Board" "issued" "I", Cond.methodLink RX0 98 yX0_lowestFreeUnit, Cond.instanceMethod yX0_lowestFreeUnit, Cond.selects RX0 yX0_lowestFreeUnit yX0_lowestFreeUnit, Cond.code yX0_lowestFreeUnit cX0_lowestFreeUnit 3 (some .int), Cond.fieldLink RX0 133 "ScoreMachine$Setup" "unitsOf" "[I", Cond.fieldLink RX0 31 "ScoreMachine$Board" "unitRows" "[I", Cond.static yX3_unitRow, Cond.initialized RX3, Cond.code yX3_unitRow cX3_unitRow 2 (some .int), Cond.static yX3_writesD, Cond.code yX3_writesD cX3_writesD 1 (some .boolean), Cond.methodLink RX0 112 yX0_settleCycles, Cond.instanceMethod yX0_settleCycles, Cond.selects RX0 yX0_settleCycles yX0_settleCycles, Cond.code yX0_settleCycles cX0_settleCycles 8 none, Cond.fieldLink RX0 139 "ScoreMachine$Setup" "as" "[I", Cond.methodLink RX0 142 Lib.Math.max.name]
def wsX3_run_r3 : List Cond := [Cond.static Lib.Math.max.name, Cond.initialized "java/lang/Math", Cond.code Lib.Math.max.name Lib.Math.max.code 2 (some .int), Cond.fieldLink RX0 156 "ScoreMachine$Setup" "latencies" "[I", Cond.fieldLink RX0 25 "ScoreMachine$Board" "readAt" "[I", Cond.fieldLink RX0 28 "ScoreMachine$Board" "row" "[I", Cond.static yX3_readsA, Cond.code yX3_readsA cX3_readsA 1 (some .boolean), Cond.static yX3_readsB, Cond.code yX3_readsB cX3_readsB 1 (some .boolean), Cond.methodLink RX0 150 yX2_registerB, Cond.instanceMethod yX2_registerB, Cond.selects RX2 yX2_registerB yX2_registerB, Cond.initialized RX2, Cond.code yX2_registerB cX2_registerB 2 (some .int), Cond.fieldLink RX2 21 "ScoreMachine$Setup" "bs" "[I", Cond.static yX3_readsD, Cond.code yX3_readsD cX3_readsD 1 (some .boolean), Cond.methodLink RX0 120 yX0_keepRow, Cond.instanceMethod yX0_keepRow, Cond.selects RX0 yX0_keepRow yX0_keepRow, Cond.code yX0_keepRow cX0_keepRow 2 none, Cond.methodLink RX0 159 arraycopyName, Cond.native arraycopyName]
def wsX3_run_r4 : List Cond := [Cond.static arraycopyName, Cond.initialized "java/lang/System", Cond.fieldLink RX0 34 "ScoreMachine$Board" "issuedRows" "[I", Cond.methodLink RX0 165 yX0_issuedStart, Cond.static yX0_issuedStart, Cond.code yX0_issuedStart cX0_issuedStart 1 (some .int), Cond.methodLink RX0 124 yX0_noteReading, Cond.instanceMethod yX0_noteReading, Cond.selects RX0 yX0_noteReading yX0_noteReading, Cond.code yX0_noteReading cX0_noteReading 3 none, Cond.methodLink RX0 168 yX0_noteReader, Cond.instanceMethod yX0_noteReader, Cond.selects RX0 yX0_noteReader yX0_noteReader, Cond.code yX0_noteReader cX0_noteReader 2 none, Cond.methodLink RX0 127 yX0_noteWriting, Cond.instanceMethod yX0_noteWriting, Cond.selects RX0 yX0_noteWriting yX0_noteWriting, Cond.code yX0_noteWriting cX0_noteWriting 5 none, Cond.fieldLink RX0 65 "ScoreMachine$Board" "storeCell" "I", Cond.fieldLink RX0 68 "ScoreMachine$Board" "storeWritten" "I", Cond.fieldLink RX0 174 "ScoreMachine$PlainMachine" "memory" "[J", Cond.fieldLink RX0 71 "ScoreMachine$Board" "storeBefore" "J", Cond.fieldLink RX0 15 "ScoreMachine$Board" "writer" "[I", Cond.fieldLink RX0 21 "ScoreMachine$Board" "heldBefore" "[J"]
def wsX3_run_r5 : List Cond := [Cond.fieldLink RX0 177 "ScoreMachine$PlainMachine" "registers" "[J", Cond.methodLink RX0 171 yX1_cell, Cond.instanceMethod yX1_cell, Cond.selects RX1 yX1_cell yX1_cell, Cond.code yX1_cell cX1_cell 3 (some .int), Cond.fieldLink RX1 9 "ScoreMachine$PlainMachine" "registers" "[J", Cond.fieldLink RX1 40 "ScoreMachine$Setup" "as" "[I", Cond.fieldLink RX1 43 "ScoreMachine$Setup" "bs" "[I", Cond.constantLong RX1 46 (255), Cond.methodLink RX0 130 yX1_step, Cond.instanceMethod yX1_step, Cond.selects RX1 yX1_step yX1_step, Cond.code yX1_step cX1_step 3 none, Cond.fieldLink RX1 52 "ScoreMachine$Setup" "ds" "[I", Cond.fieldLink RX1 15 "ScoreMachine$PlainMachine" "memory" "[J", Cond.methodLink RX1 48 yX1_code, Cond.methodLink RX1 55 yX1_cell, Cond.methodLink RX1 62 yX1_value, Cond.instanceMethod yX1_value, Cond.selects RX1 yX1_value yX1_value, Cond.code yX1_value cX1_value 4 (some .long), Cond.methodLink RX1 70 yX2_registerB, Cond.methodLink RX1 73 yX1_worked, Cond.static yX1_worked]
def wsX3_run_r6 : List Cond := [Cond.code yX1_worked cX1_worked 5 (some .long), Cond.constantLong RX1 77 (63), Cond.methodLink RX1 66 yX1_placeAfter, Cond.instanceMethod yX1_placeAfter, Cond.selects RX1 yX1_placeAfter yX1_placeAfter, Cond.code yX1_placeAfter cX1_placeAfter 6 (some .int)]
def wsX3_run : List Cond := .code yX3_run cX3_run 3 (some .int) :: ((wsX3_run_r1 ++ (wsX3_run_r2 ++ (wsX3_run_r3 ++ (wsX3_run_r4 ++ (wsX3_run_r5 ++ wsX3_run_r6))))) ++ wsX30 ++ wsX00 ++ wsX20 ++ wsX10)
def wsX3_again_r1 : List Cond := [Cond.fieldLink RX3 21 "ScoreMachine" "plainMachine" "LScoreMachine$PlainMachine;", Cond.fieldLink RX3 30 "ScoreMachine" "board" "LScoreMachine$Board;", Cond.methodLink RX3 87 yX1_begin, Cond.instanceMethod yX1_begin, Cond.selects RX1 yX1_begin yX1_begin, Cond.initialized RX1, Cond.code yX1_begin cX1_begin 1 none, Cond.fieldLink RX1 18 "ScoreMachine$PlainMachine" "setup" "LScoreMachine$Setup;", Cond.fieldLink RX1 22 "ScoreMachine$Setup" "registers" "[J", Cond.fieldLink RX1 9 "ScoreMachine$PlainMachine" "registers" "[J", Cond.methodLink RX1 25 arraycopyName, Cond.native arraycopyName, Cond.static arraycopyName, Cond.initialized "java/lang/System", Cond.fieldLink RX1 31 "ScoreMachine$Setup" "memory" "[J", Cond.fieldLink RX1 15 "ScoreMachine$PlainMachine" "memory" "[J", Cond.fieldLink RX1 32 "ScoreMachine$PlainMachine" "place" "I", Cond.methodLink RX3 90 yX0_begin, Cond.instanceMethod yX0_begin, Cond.selects RX0 yX0_begin yX0_begin, Cond.initialized RX0, Cond.code yX0_begin cX0_begin 1 none, Cond.fieldLink RX0 45 "ScoreMachine$Board" "cycle" "I", Cond.fieldLink RX0 49 "ScoreMachine$Board" "over" "Z"]
def wsX3_again_r2 : List Cond := [Cond.fieldLink RX0 53 "ScoreMachine$Board" "issued" "I", Cond.fieldLink RX0 9 "ScoreMachine$Board" "stalls" "[I", Cond.fieldLink RX0 15 "ScoreMachine$Board" "writer" "[I", Cond.fieldLink RX0 18 "ScoreMachine$Board" "writtenAt" "[I", Cond.fieldLink RX0 21 "ScoreMachine$Board" "heldBefore" "[J", Cond.fieldLink RX0 25 "ScoreMachine$Board" "readAt" "[I", Cond.fieldLink RX0 65 "ScoreMachine$Board" "storeCell" "I", Cond.fieldLink RX0 68 "ScoreMachine$Board" "storeWritten" "I", Cond.fieldLink RX0 71 "ScoreMachine$Board" "storeBefore" "J", Cond.fieldLink RX0 75 "ScoreMachine$Board" "branchWritten" "I", Cond.fieldLink RX0 78 "ScoreMachine$Board" "lastWritten" "I", Cond.fieldLink RX0 31 "ScoreMachine$Board" "unitRows" "[I", Cond.fieldLink RX0 34 "ScoreMachine$Board" "issuedRows" "[I", Cond.methodLink RX0 56 yJ7_fill_53178, Cond.static yJ7_fill_53178, Cond.initialized RJ7, Cond.code yJ7_fill_53178 cJ7_fill_53178 4 none, Cond.methodLink RX0 62 yJ7_fill_d0a16, Cond.static yJ7_fill_d0a16, Cond.code yJ7_fill_d0a16 cJ7_fill_d0a16 5 none]
def wsX3_again : List Cond := .code yX3_again cX3_again 1 none :: ((wsX3_again_r1 ++ wsX3_again_r2) ++ wsX30 ++ wsX10 ++ wsX20 ++ wsX00)
def wsX3_clear_r1 : List Cond := [Cond.fieldLink RX3 10 "ScoreMachine" "setup" "LScoreMachine$Setup;", Cond.fieldLink RX3 21 "ScoreMachine" "plainMachine" "LScoreMachine$PlainMachine;", Cond.fieldLink RX3 30 "ScoreMachine" "board" "LScoreMachine$Board;", Cond.methodLink RX3 91 yX2_begin, Cond.instanceMethod yX2_begin, Cond.selects RX2 yX2_begin yX2_begin, Cond.initialized RX2, Cond.code yX2_begin cX2_begin 1 none, Cond.fieldLink RX2 9 "ScoreMachine$Setup" "codes" "[I", Cond.fieldLink RX2 15 "ScoreMachine$Setup" "ds" "[I", Cond.fieldLink RX2 18 "ScoreMachine$Setup" "as" "[I", Cond.fieldLink RX2 21 "ScoreMachine$Setup" "bs" "[I", Cond.fieldLink RX2 24 "ScoreMachine$Setup" "unitsOf" "[I", Cond.fieldLink RX2 27 "ScoreMachine$Setup" "latencies" "[I", Cond.methodLink RX2 49 arraycopyName, Cond.native arraycopyName, Cond.static arraycopyName, Cond.initialized "java/lang/System", Cond.fieldLink RX2 30 "ScoreMachine$Setup" "registers" "[J", Cond.fieldLink RX2 34 "ScoreMachine$Setup" "memory" "[J", Cond.fieldLink RX2 58 "ScoreMachine$Setup" "width" "I", Cond.methodLink RX2 40 yJ7_fill_53178, Cond.static yJ7_fill_53178, Cond.initialized RJ7]
def wsX3_clear_r2 : List Cond := [Cond.code yJ7_fill_53178 cJ7_fill_53178 4 none, Cond.methodLink RX2 55 yJ7_fill_d0a16, Cond.static yJ7_fill_d0a16, Cond.code yJ7_fill_d0a16 cJ7_fill_d0a16 5 none, Cond.methodLink RX3 87 yX1_begin, Cond.instanceMethod yX1_begin, Cond.selects RX1 yX1_begin yX1_begin, Cond.initialized RX1, Cond.code yX1_begin cX1_begin 1 none, Cond.fieldLink RX1 18 "ScoreMachine$PlainMachine" "setup" "LScoreMachine$Setup;", Cond.fieldLink RX1 22 "ScoreMachine$Setup" "registers" "[J", Cond.fieldLink RX1 9 "ScoreMachine$PlainMachine" "registers" "[J", Cond.methodLink RX1 25 arraycopyName, Cond.fieldLink RX1 31 "ScoreMachine$Setup" "memory" "[J", Cond.fieldLink RX1 15 "ScoreMachine$PlainMachine" "memory" "[J", Cond.fieldLink RX1 32 "ScoreMachine$PlainMachine" "place" "I", Cond.methodLink RX3 90 yX0_begin, Cond.instanceMethod yX0_begin, Cond.selects RX0 yX0_begin yX0_begin, Cond.initialized RX0, Cond.code yX0_begin cX0_begin 1 none, Cond.fieldLink RX0 45 "ScoreMachine$Board" "cycle" "I", Cond.fieldLink RX0 49 "ScoreMachine$Board" "over" "Z", Cond.fieldLink RX0 53 "ScoreMachine$Board" "issued" "I"]
def wsX3_clear_r3 : List Cond := [Cond.fieldLink RX0 9 "ScoreMachine$Board" "stalls" "[I", Cond.fieldLink RX0 15 "ScoreMachine$Board" "writer" "[I", Cond.fieldLink RX0 18 "ScoreMachine$Board" "writtenAt" "[I", Cond.fieldLink RX0 21 "ScoreMachine$Board" "heldBefore" "[J", Cond.fieldLink RX0 25 "ScoreMachine$Board" "readAt" "[I", Cond.fieldLink RX0 65 "ScoreMachine$Board" "storeCell" "I", Cond.fieldLink RX0 68 "ScoreMachine$Board" "storeWritten" "I", Cond.fieldLink RX0 71 "ScoreMachine$Board" "storeBefore" "J", Cond.fieldLink RX0 75 "ScoreMachine$Board" "branchWritten" "I", Cond.fieldLink RX0 78 "ScoreMachine$Board" "lastWritten" "I", Cond.fieldLink RX0 31 "ScoreMachine$Board" "unitRows" "[I", Cond.fieldLink RX0 34 "ScoreMachine$Board" "issuedRows" "[I", Cond.methodLink RX0 56 yJ7_fill_53178, Cond.methodLink RX0 62 yJ7_fill_d0a16]
def wsX3_clear : List Cond := .code yX3_clear cX3_clear 1 none :: ((wsX3_clear_r1 ++ (wsX3_clear_r2 ++ wsX3_clear_r3)) ++ wsX30 ++ wsX20 ++ wsX10 ++ wsX00)
def wsX3_count : List Cond := .code yX3_count cX3_count 2 (some .int) :: ([.fieldLink RX3 30 "ScoreMachine" "board" "LScoreMachine$Board;", .fieldLink RX3 92 "ScoreMachine$Board" "cycle" "I", .fieldLink RX3 80 "ScoreMachine$Board" "over" "Z", .fieldLink RX3 95 "ScoreMachine$Board" "issued" "I", .fieldLink RX3 102 "ScoreMachine$Board" "stalls" "[I", .fieldLink RX3 105 "ScoreMachine$Board" "branchWritten" "I", .fieldLink RX3 21 "ScoreMachine" "plainMachine" "LScoreMachine$PlainMachine;", .fieldLink RX3 108 "ScoreMachine$PlainMachine" "place" "I", .methodLink RX3 98 yX0_notWritten, .instanceMethod yX0_notWritten, .selects RX0 yX0_notWritten yX0_notWritten, .initialized RX0, .code yX0_notWritten cX0_notWritten 3 (some .int), .fieldLink RX0 31 "ScoreMachine$Board" "unitRows" "[I", .fieldLink RX0 45 "ScoreMachine$Board" "cycle" "I"] ++ wsX30 ++ wsX00 ++ wsX10)
def wsX3_register : List Cond := .code yX3_register cX3_register 2 (some .long) :: ([.classLink RX3 111 "java/util/NoSuchElementException", .initialized "java/util/NoSuchElementException", .fieldLink RX3 30 "ScoreMachine" "board" "LScoreMachine$Board;", .methodLink RX3 38 yX3_within, .static yX3_within, .initialized RX3, .code yX3_within cX3_within 2 (some .boolean), .methodLink RX3 118 yX0_registerNow, .instanceMethod yX0_registerNow, .selects RX0 yX0_registerNow yX0_registerNow, .initialized RX0, .code yX0_registerNow cX0_registerNow 2 (some .long), .fieldLink RX0 18 "ScoreMachine$Board" "writtenAt" "[I", .fieldLink RX0 45 "ScoreMachine$Board" "cycle" "I", .fieldLink RX0 21 "ScoreMachine$Board" "heldBefore" "[J", .fieldLink RX0 41 "ScoreMachine$Board" "plainMachine" "LScoreMachine$PlainMachine;", .fieldLink RX0 177 "ScoreMachine$PlainMachine" "registers" "[J"] ++ wsX30 ++ wsX00 ++ wsX10 ++ (vx_atS RX3 115 "java/util/NoSuchElementException" ["java/lang/RuntimeException", "java/lang/Exception"]).filter goodWord)
def wsX3_memory : List Cond := .code yX3_memory cX3_memory 2 (some .long) :: ([.classLink RX3 111 "java/util/NoSuchElementException", .initialized "java/util/NoSuchElementException", .fieldLink RX3 30 "ScoreMachine" "board" "LScoreMachine$Board;", .methodLink RX3 38 yX3_within, .static yX3_within, .initialized RX3, .code yX3_within cX3_within 2 (some .boolean), .methodLink RX3 124 yX0_memoryNow, .instanceMethod yX0_memoryNow, .selects RX0 yX0_memoryNow yX0_memoryNow, .initialized RX0, .code yX0_memoryNow cX0_memoryNow 2 (some .long), .fieldLink RX0 65 "ScoreMachine$Board" "storeCell" "I", .fieldLink RX0 68 "ScoreMachine$Board" "storeWritten" "I", .fieldLink RX0 45 "ScoreMachine$Board" "cycle" "I", .fieldLink RX0 71 "ScoreMachine$Board" "storeBefore" "J", .fieldLink RX0 41 "ScoreMachine$Board" "plainMachine" "LScoreMachine$PlainMachine;", .fieldLink RX0 174 "ScoreMachine$PlainMachine" "memory" "[J"] ++ wsX30 ++ wsX00 ++ wsX10 ++ (vx_atS RX3 115 "java/util/NoSuchElementException" ["java/lang/RuntimeException", "java/lang/Exception"]).filter goodWord)
def wsX3_plain : List Cond := .code yX3_plain cX3_plain 3 (some .long) :: ([.classLink RX3 111 "java/util/NoSuchElementException", .initialized "java/util/NoSuchElementException", .fieldLink RX3 21 "ScoreMachine" "plainMachine" "LScoreMachine$PlainMachine;", .fieldLink RX3 75 "ScoreMachine$PlainMachine" "registers" "[J", .fieldLink RX3 79 "ScoreMachine$PlainMachine" "memory" "[J", .methodLink RX3 68 yX3_isThere, .static yX3_isThere, .initialized RX3, .code yX3_isThere cX3_isThere 2 (some .boolean), .methodLink RX3 38 yX3_within, .static yX3_within, .code yX3_within cX3_within 2 (some .boolean)] ++ wsX30 ++ wsX10 ++ (vx_atS RX3 115 "java/util/NoSuchElementException" ["java/lang/RuntimeException", "java/lang/Exception"]).filter goodWord)
def wsX3_unit : List Cond := .code yX3_unit cX3_unit 4 (some .int) :: ([.fieldLink RX3 10 "ScoreMachine" "setup" "LScoreMachine$Setup;", .fieldLink RX3 58 "ScoreMachine$Setup" "unitsOf" "[I", .fieldLink RX3 30 "ScoreMachine" "board" "LScoreMachine$Board;", .methodLink RX3 38 yX3_within, .static yX3_within, .initialized RX3, .code yX3_within cX3_within 2 (some .boolean), .methodLink RX3 129 yX3_unitRow, .static yX3_unitRow, .code yX3_unitRow cX3_unitRow 2 (some .int), .methodLink RX3 133 yX0_tellUnit, .instanceMethod yX0_tellUnit, .selects RX0 yX0_tellUnit yX0_tellUnit, .initialized RX0, .code yX0_tellUnit cX0_tellUnit 4 (some .int), .fieldLink RX0 31 "ScoreMachine$Board" "unitRows" "[I", .fieldLink RX0 45 "ScoreMachine$Board" "cycle" "I"] ++ wsX30 ++ wsX20 ++ wsX00)
def wsX3_pending : List Cond := .code yX3_pending cX3_pending 2 (some .int) :: ([.fieldLink RX3 30 "ScoreMachine" "board" "LScoreMachine$Board;", .fieldLink RX3 136 "ScoreMachine$Board" "writtenAt" "[I", .fieldLink RX3 92 "ScoreMachine$Board" "cycle" "I", .fieldLink RX3 139 "ScoreMachine$Board" "writer" "[I", .methodLink RX3 38 yX3_within, .static yX3_within, .initialized RX3, .code yX3_within cX3_within 2 (some .boolean)] ++ wsX30 ++ wsX00)
def wsX3_latest : List Cond := .code yX3_latest cX3_latest 3 (some .int) :: ([.fieldLink RX3 30 "ScoreMachine" "board" "LScoreMachine$Board;", .fieldLink RX3 95 "ScoreMachine$Board" "issued" "I", .methodLink RX3 38 yX3_within, .static yX3_within, .initialized RX3, .code yX3_within cX3_within 2 (some .boolean), .methodLink RX3 142 yX0_tellIssued, .instanceMethod yX0_tellIssued, .selects RX0 yX0_tellIssued yX0_tellIssued, .initialized RX0, .code yX0_tellIssued cX0_tellIssued 4 (some .int), .fieldLink RX0 34 "ScoreMachine$Board" "issuedRows" "[I", .fieldLink RX0 45 "ScoreMachine$Board" "cycle" "I", .methodLink RX0 165 yX0_issuedStart, .static yX0_issuedStart, .code yX0_issuedStart cX0_issuedStart 1 (some .int)] ++ wsX30 ++ wsX00)
def wsX4_again : List Cond := .code yX4_again cX4_again 2 none :: ([.fieldLink RX4 66 "ScoreMachineModel" "thrown" "I", .fieldLink RX4 76 "ScoreMachineModel" "cycle" "I", .fieldLink RX4 79 "ScoreMachineModel" "over" "Z", .fieldLink RX4 83 "ScoreMachineModel" "many" "I", .fieldLink RX4 86 "ScoreMachineModel" "place" "I", .fieldLink RX4 89 "ScoreMachineModel" "issuedLast" "I", .fieldLink RX4 92 "ScoreMachineModel" "issuedThen" "I", .fieldLink RX4 95 "ScoreMachineModel" "branchWritten" "I", .fieldLink RX4 98 "ScoreMachineModel" "mostWritten" "I", .fieldLink RX4 38 "ScoreMachineModel" "stalls" "[I", .fieldLink RX4 26 "ScoreMachineModel" "plainRegisters" "[J", .fieldLink RX4 19 "ScoreMachineModel" "firstRegisters" "[J", .fieldLink RX4 32 "ScoreMachineModel" "registers" "[J", .fieldLink RX4 41 "ScoreMachineModel" "writtenOf" "[I", .fieldLink RX4 44 "ScoreMachineModel" "writerOf" "[I", .fieldLink RX4 47 "ScoreMachineModel" "readOf" "[I", .fieldLink RX4 29 "ScoreMachineModel" "plainMemory" "[J", .fieldLink RX4 23 "ScoreMachineModel" "firstMemory" "[J", .fieldLink RX4 35 "ScoreMachineModel" "memory" "[J", .fieldLink RX4 56 "ScoreMachineModel" "unitOpen" "[Z", .fieldLink RX4 50 "ScoreMachineModel" "unitRow" "[I"] ++ wsX40)
def wsX4_clear_r1 : List Cond := [Cond.fieldLink RX4 66 "ScoreMachineModel" "thrown" "I", Cond.fieldLink RX4 9 "ScoreMachineModel" "program" "[I", Cond.fieldLink RX4 13 "ScoreMachineModel" "units" "[I", Cond.fieldLink RX4 16 "ScoreMachineModel" "latencies" "[I", Cond.fieldLink RX4 70 "ScoreMachineModel" "width" "I", Cond.fieldLink RX4 19 "ScoreMachineModel" "firstRegisters" "[J", Cond.fieldLink RX4 23 "ScoreMachineModel" "firstMemory" "[J", Cond.methodLink RX4 73 yX4_again, Cond.instanceMethod yX4_again, Cond.selects RX4 yX4_again yX4_again, Cond.initialized RX4, Cond.code yX4_again cX4_again 2 none, Cond.fieldLink RX4 76 "ScoreMachineModel" "cycle" "I", Cond.fieldLink RX4 79 "ScoreMachineModel" "over" "Z", Cond.fieldLink RX4 83 "ScoreMachineModel" "many" "I", Cond.fieldLink RX4 86 "ScoreMachineModel" "place" "I", Cond.fieldLink RX4 89 "ScoreMachineModel" "issuedLast" "I", Cond.fieldLink RX4 92 "ScoreMachineModel" "issuedThen" "I", Cond.fieldLink RX4 95 "ScoreMachineModel" "branchWritten" "I", Cond.fieldLink RX4 98 "ScoreMachineModel" "mostWritten" "I", Cond.fieldLink RX4 38 "ScoreMachineModel" "stalls" "[I", Cond.fieldLink RX4 26 "ScoreMachineModel" "plainRegisters" "[J", Cond.fieldLink RX4 32 "ScoreMachineModel" "registers" "[J", Cond.fieldLink RX4 41 "ScoreMachineModel" "writtenOf" "[I"]
def wsX4_clear_r2 : List Cond := [Cond.fieldLink RX4 44 "ScoreMachineModel" "writerOf" "[I", Cond.fieldLink RX4 47 "ScoreMachineModel" "readOf" "[I", Cond.fieldLink RX4 29 "ScoreMachineModel" "plainMemory" "[J", Cond.fieldLink RX4 35 "ScoreMachineModel" "memory" "[J", Cond.fieldLink RX4 56 "ScoreMachineModel" "unitOpen" "[Z", Cond.fieldLink RX4 50 "ScoreMachineModel" "unitRow" "[I"]
def wsX4_clear : List Cond := .code yX4_clear cX4_clear 2 none :: ((wsX4_clear_r1 ++ wsX4_clear_r2) ++ wsX40)
def wsX4_init_r1 : List Cond := [Cond.methodLink RX4 1 objectInit, Cond.instanceMethod objectInit, Cond.code objectInit ⟨#[0xb1]⟩ 1 none, Cond.arrayClass .int, Cond.fieldLink RX4 9 "ScoreMachineModel" "program" "[I", Cond.fieldLink RX4 13 "ScoreMachineModel" "units" "[I", Cond.fieldLink RX4 16 "ScoreMachineModel" "latencies" "[I", Cond.arrayClass .long, Cond.fieldLink RX4 19 "ScoreMachineModel" "firstRegisters" "[J", Cond.fieldLink RX4 23 "ScoreMachineModel" "firstMemory" "[J", Cond.fieldLink RX4 26 "ScoreMachineModel" "plainRegisters" "[J", Cond.fieldLink RX4 29 "ScoreMachineModel" "plainMemory" "[J", Cond.fieldLink RX4 32 "ScoreMachineModel" "registers" "[J", Cond.fieldLink RX4 35 "ScoreMachineModel" "memory" "[J", Cond.fieldLink RX4 38 "ScoreMachineModel" "stalls" "[I", Cond.fieldLink RX4 41 "ScoreMachineModel" "writtenOf" "[I", Cond.fieldLink RX4 44 "ScoreMachineModel" "writerOf" "[I", Cond.fieldLink RX4 47 "ScoreMachineModel" "readOf" "[I", Cond.fieldLink RX4 50 "ScoreMachineModel" "unitRow" "[I", Cond.fieldLink RX4 53 "ScoreMachineModel" "unitValue" "[J", Cond.arrayClass .boolean, Cond.fieldLink RX4 56 "ScoreMachineModel" "unitOpen" "[Z", Cond.fieldLink RX4 60 "ScoreMachineModel" "rows" "[I", Cond.methodLink RX4 63 yX4_clear]
def wsX4_init_r2 : List Cond := [Cond.instanceMethod yX4_clear, Cond.selects RX4 yX4_clear yX4_clear, Cond.initialized RX4, Cond.code yX4_clear cX4_clear 2 none, Cond.fieldLink RX4 66 "ScoreMachineModel" "thrown" "I", Cond.fieldLink RX4 70 "ScoreMachineModel" "width" "I", Cond.methodLink RX4 73 yX4_again, Cond.instanceMethod yX4_again, Cond.selects RX4 yX4_again yX4_again, Cond.code yX4_again cX4_again 2 none, Cond.fieldLink RX4 76 "ScoreMachineModel" "cycle" "I", Cond.fieldLink RX4 79 "ScoreMachineModel" "over" "Z", Cond.fieldLink RX4 83 "ScoreMachineModel" "many" "I", Cond.fieldLink RX4 86 "ScoreMachineModel" "place" "I", Cond.fieldLink RX4 89 "ScoreMachineModel" "issuedLast" "I", Cond.fieldLink RX4 92 "ScoreMachineModel" "issuedThen" "I", Cond.fieldLink RX4 95 "ScoreMachineModel" "branchWritten" "I", Cond.fieldLink RX4 98 "ScoreMachineModel" "mostWritten" "I"]
def wsX4_init : List Cond := .code yX4_init cX4_init 1 none :: ((wsX4_init_r1 ++ wsX4_init_r2) ++ wsX40)
def wsX4_thrown : List Cond := .code yX4_thrown cX4_thrown 1 (some .int) :: ([.fieldLink RX4 66 "ScoreMachineModel" "thrown" "I"] ++ wsX40)
def wsX4_put : List Cond := .code yX4_put cX4_put 6 (some .boolean) :: ([.fieldLink RX4 66 "ScoreMachineModel" "thrown" "I", .fieldLink RX4 76 "ScoreMachineModel" "cycle" "I", .fieldLink RX4 9 "ScoreMachineModel" "program" "[I"] ++ wsX40)
def wsX4_units : List Cond := .code yX4_units cX4_units 3 (some .boolean) :: ([.fieldLink RX4 66 "ScoreMachineModel" "thrown" "I", .fieldLink RX4 76 "ScoreMachineModel" "cycle" "I", .fieldLink RX4 13 "ScoreMachineModel" "units" "[I"] ++ wsX40)
def wsX4_latency : List Cond := .code yX4_latency cX4_latency 3 (some .boolean) :: ([.fieldLink RX4 66 "ScoreMachineModel" "thrown" "I", .fieldLink RX4 76 "ScoreMachineModel" "cycle" "I", .fieldLink RX4 16 "ScoreMachineModel" "latencies" "[I"] ++ wsX40)
def wsX4_width : List Cond := .code yX4_width cX4_width 2 (some .boolean) :: ([.fieldLink RX4 66 "ScoreMachineModel" "thrown" "I", .fieldLink RX4 76 "ScoreMachineModel" "cycle" "I", .fieldLink RX4 70 "ScoreMachineModel" "width" "I"] ++ wsX40)
def wsX4_set : List Cond := .code yX4_set cX4_set 5 (some .boolean) :: ([.fieldLink RX4 66 "ScoreMachineModel" "thrown" "I", .fieldLink RX4 76 "ScoreMachineModel" "cycle" "I", .fieldLink RX4 19 "ScoreMachineModel" "firstRegisters" "[J", .fieldLink RX4 32 "ScoreMachineModel" "registers" "[J", .fieldLink RX4 26 "ScoreMachineModel" "plainRegisters" "[J", .fieldLink RX4 23 "ScoreMachineModel" "firstMemory" "[J", .fieldLink RX4 35 "ScoreMachineModel" "memory" "[J", .fieldLink RX4 29 "ScoreMachineModel" "plainMemory" "[J"] ++ wsX40)
def wsX4_kindOf : List Cond := .code yX4_kindOf cX4_kindOf 1 (some .int) :: ([])
def wsX4_writes : List Cond := .code yX4_writes cX4_writes 1 (some .boolean) :: ([])
def wsX4_readsA : List Cond := .code yX4_readsA cX4_readsA 1 (some .boolean) :: ([])
def wsX4_readsB : List Cond := .code yX4_readsB cX4_readsB 1 (some .boolean) :: ([])
def wsX4_code : List Cond := .code yX4_code cX4_code 1 (some .int) :: ([.fieldLink RX4 9 "ScoreMachineModel" "program" "[I", .fieldLink RX4 86 "ScoreMachineModel" "place" "I"] ++ wsX40)
def wsX4_registerB : List Cond := .code yX4_registerB cX4_registerB 2 (some .int) :: ([.fieldLink RX4 9 "ScoreMachineModel" "program" "[I", .fieldLink RX4 86 "ScoreMachineModel" "place" "I"] ++ wsX40)
def wsX4_unitWritten : List Cond := .code yX4_unitWritten cX4_unitWritten 5 (some .int) :: ([.fieldLink RX4 50 "ScoreMachineModel" "unitRow" "[I", .fieldLink RX4 13 "ScoreMachineModel" "units" "[I"] ++ wsX40)
def wsX4_begins : List Cond := .code yX4_begins cX4_begins 1 (some .int) :: ([.fieldLink RX4 83 "ScoreMachineModel" "many" "I", .fieldLink RX4 92 "ScoreMachineModel" "issuedThen" "I", .fieldLink RX4 70 "ScoreMachineModel" "width" "I", .fieldLink RX4 89 "ScoreMachineModel" "issuedLast" "I"] ++ wsX40)
def wsX4_sameWritten : List Cond := .code yX4_sameWritten cX4_sameWritten 1 (some .int) :: ([.fieldLink RX4 41 "ScoreMachineModel" "writtenOf" "[I", .fieldLink RX4 9 "ScoreMachineModel" "program" "[I", .fieldLink RX4 86 "ScoreMachineModel" "place" "I", .methodLink RX4 101 yX4_code, .instanceMethod yX4_code, .selects RX4 yX4_code yX4_code, .initialized RX4, .code yX4_code cX4_code 1 (some .int), .methodLink RX4 105 yX4_writes, .static yX4_writes, .code yX4_writes cX4_writes 1 (some .boolean)] ++ wsX40)
def wsX4_greater : List Cond := .code yX4_greater cX4_greater 2 (some .int) :: ([])
def wsX4_issues_r1 : List Cond := [Cond.fieldLink RX4 95 "ScoreMachineModel" "branchWritten" "I", Cond.methodLink RX4 109 yX4_begins, Cond.instanceMethod yX4_begins, Cond.selects RX4 yX4_begins yX4_begins, Cond.initialized RX4, Cond.code yX4_begins cX4_begins 1 (some .int), Cond.fieldLink RX4 83 "ScoreMachineModel" "many" "I", Cond.fieldLink RX4 92 "ScoreMachineModel" "issuedThen" "I", Cond.fieldLink RX4 70 "ScoreMachineModel" "width" "I", Cond.fieldLink RX4 89 "ScoreMachineModel" "issuedLast" "I", Cond.methodLink RX4 112 yX4_greater, Cond.static yX4_greater, Cond.code yX4_greater cX4_greater 2 (some .int), Cond.methodLink RX4 101 yX4_code, Cond.instanceMethod yX4_code, Cond.selects RX4 yX4_code yX4_code, Cond.code yX4_code cX4_code 1 (some .int), Cond.fieldLink RX4 9 "ScoreMachineModel" "program" "[I", Cond.fieldLink RX4 86 "ScoreMachineModel" "place" "I", Cond.methodLink RX4 116 yX4_kindOf, Cond.static yX4_kindOf, Cond.code yX4_kindOf cX4_kindOf 1 (some .int), Cond.methodLink RX4 120 yX4_unitWritten, Cond.instanceMethod yX4_unitWritten]
def wsX4_issues_r2 : List Cond := [Cond.selects RX4 yX4_unitWritten yX4_unitWritten, Cond.code yX4_unitWritten cX4_unitWritten 5 (some .int), Cond.fieldLink RX4 50 "ScoreMachineModel" "unitRow" "[I", Cond.fieldLink RX4 13 "ScoreMachineModel" "units" "[I", Cond.methodLink RX4 123 yX4_sameWritten, Cond.instanceMethod yX4_sameWritten, Cond.selects RX4 yX4_sameWritten yX4_sameWritten, Cond.code yX4_sameWritten cX4_sameWritten 1 (some .int), Cond.fieldLink RX4 41 "ScoreMachineModel" "writtenOf" "[I", Cond.methodLink RX4 105 yX4_writes, Cond.static yX4_writes, Cond.code yX4_writes cX4_writes 1 (some .boolean)]
def wsX4_issues : List Cond := .code yX4_issues cX4_issues 2 (some .int) :: ((wsX4_issues_r1 ++ wsX4_issues_r2) ++ wsX40)
def wsX4_waited_r1 : List Cond := [Cond.fieldLink RX4 95 "ScoreMachineModel" "branchWritten" "I", Cond.methodLink RX4 109 yX4_begins, Cond.instanceMethod yX4_begins, Cond.selects RX4 yX4_begins yX4_begins, Cond.initialized RX4, Cond.code yX4_begins cX4_begins 1 (some .int), Cond.fieldLink RX4 83 "ScoreMachineModel" "many" "I", Cond.fieldLink RX4 92 "ScoreMachineModel" "issuedThen" "I", Cond.fieldLink RX4 70 "ScoreMachineModel" "width" "I", Cond.fieldLink RX4 89 "ScoreMachineModel" "issuedLast" "I", Cond.methodLink RX4 101 yX4_code, Cond.instanceMethod yX4_code, Cond.selects RX4 yX4_code yX4_code, Cond.code yX4_code cX4_code 1 (some .int), Cond.fieldLink RX4 9 "ScoreMachineModel" "program" "[I", Cond.fieldLink RX4 86 "ScoreMachineModel" "place" "I", Cond.methodLink RX4 116 yX4_kindOf, Cond.static yX4_kindOf, Cond.code yX4_kindOf cX4_kindOf 1 (some .int), Cond.methodLink RX4 120 yX4_unitWritten, Cond.instanceMethod yX4_unitWritten, Cond.selects RX4 yX4_unitWritten yX4_unitWritten, Cond.code yX4_unitWritten cX4_unitWritten 5 (some .int), Cond.fieldLink RX4 50 "ScoreMachineModel" "unitRow" "[I"]
def wsX4_waited_r2 : List Cond := [Cond.fieldLink RX4 13 "ScoreMachineModel" "units" "[I", Cond.methodLink RX4 112 yX4_greater, Cond.static yX4_greater, Cond.code yX4_greater cX4_greater 2 (some .int), Cond.methodLink RX4 123 yX4_sameWritten, Cond.instanceMethod yX4_sameWritten, Cond.selects RX4 yX4_sameWritten yX4_sameWritten, Cond.code yX4_sameWritten cX4_sameWritten 1 (some .int), Cond.fieldLink RX4 41 "ScoreMachineModel" "writtenOf" "[I", Cond.methodLink RX4 105 yX4_writes, Cond.static yX4_writes, Cond.code yX4_writes cX4_writes 1 (some .boolean)]
def wsX4_waited : List Cond := .code yX4_waited cX4_waited 9 (some .int) :: ((wsX4_waited_r1 ++ wsX4_waited_r2) ++ wsX40)
def wsX4_does : List Cond := .code yX4_does cX4_does 14 (some .long) :: ([.fieldLink RX4 86 "ScoreMachineModel" "place" "I", .fieldLink RX4 26 "ScoreMachineModel" "plainRegisters" "[J", .fieldLink RX4 9 "ScoreMachineModel" "program" "[I", .constantLong RX4 129 (63), .fieldLink RX4 29 "ScoreMachineModel" "plainMemory" "[J", .constantLong RX4 131 (255), .methodLink RX4 126 yX4_registerB, .instanceMethod yX4_registerB, .selects RX4 yX4_registerB yX4_registerB, .initialized RX4, .code yX4_registerB cX4_registerB 2 (some .int)] ++ wsX40)
def wsX4_commit : List Cond := .code yX4_commit cX4_commit 3 none :: ([.fieldLink RX4 56 "ScoreMachineModel" "unitOpen" "[Z", .fieldLink RX4 50 "ScoreMachineModel" "unitRow" "[I", .fieldLink RX4 35 "ScoreMachineModel" "memory" "[J", .fieldLink RX4 53 "ScoreMachineModel" "unitValue" "[J", .fieldLink RX4 32 "ScoreMachineModel" "registers" "[J"] ++ wsX40)
def wsX4_issue_r1 : List Cond := [Cond.fieldLink RX4 9 "ScoreMachineModel" "program" "[I", Cond.fieldLink RX4 86 "ScoreMachineModel" "place" "I", Cond.fieldLink RX4 38 "ScoreMachineModel" "stalls" "[I", Cond.fieldLink RX4 50 "ScoreMachineModel" "unitRow" "[I", Cond.fieldLink RX4 56 "ScoreMachineModel" "unitOpen" "[Z", Cond.fieldLink RX4 41 "ScoreMachineModel" "writtenOf" "[I", Cond.fieldLink RX4 16 "ScoreMachineModel" "latencies" "[I", Cond.fieldLink RX4 47 "ScoreMachineModel" "readOf" "[I", Cond.fieldLink RX4 26 "ScoreMachineModel" "plainRegisters" "[J", Cond.constantLong RX4 131 (255), Cond.fieldLink RX4 83 "ScoreMachineModel" "many" "I", Cond.fieldLink RX4 60 "ScoreMachineModel" "rows" "[I", Cond.fieldLink RX4 53 "ScoreMachineModel" "unitValue" "[J", Cond.fieldLink RX4 44 "ScoreMachineModel" "writerOf" "[I", Cond.fieldLink RX4 29 "ScoreMachineModel" "plainMemory" "[J", Cond.fieldLink RX4 95 "ScoreMachineModel" "branchWritten" "I", Cond.fieldLink RX4 98 "ScoreMachineModel" "mostWritten" "I", Cond.fieldLink RX4 89 "ScoreMachineModel" "issuedLast" "I", Cond.fieldLink RX4 92 "ScoreMachineModel" "issuedThen" "I", Cond.methodLink RX4 101 yX4_code, Cond.instanceMethod yX4_code, Cond.selects RX4 yX4_code yX4_code, Cond.initialized RX4, Cond.code yX4_code cX4_code 1 (some .int)]
def wsX4_issue_r2 : List Cond := [Cond.methodLink RX4 116 yX4_kindOf, Cond.static yX4_kindOf, Cond.code yX4_kindOf cX4_kindOf 1 (some .int), Cond.methodLink RX4 126 yX4_registerB, Cond.instanceMethod yX4_registerB, Cond.selects RX4 yX4_registerB yX4_registerB, Cond.code yX4_registerB cX4_registerB 2 (some .int), Cond.methodLink RX4 133 yX4_waited, Cond.instanceMethod yX4_waited, Cond.selects RX4 yX4_waited yX4_waited, Cond.code yX4_waited cX4_waited 9 (some .int), Cond.methodLink RX4 109 yX4_begins, Cond.instanceMethod yX4_begins, Cond.selects RX4 yX4_begins yX4_begins, Cond.code yX4_begins cX4_begins 1 (some .int), Cond.fieldLink RX4 70 "ScoreMachineModel" "width" "I", Cond.methodLink RX4 120 yX4_unitWritten, Cond.instanceMethod yX4_unitWritten, Cond.selects RX4 yX4_unitWritten yX4_unitWritten, Cond.code yX4_unitWritten cX4_unitWritten 5 (some .int), Cond.fieldLink RX4 13 "ScoreMachineModel" "units" "[I", Cond.methodLink RX4 112 yX4_greater, Cond.static yX4_greater, Cond.code yX4_greater cX4_greater 2 (some .int)]
def wsX4_issue_r3 : List Cond := [Cond.methodLink RX4 123 yX4_sameWritten, Cond.instanceMethod yX4_sameWritten, Cond.selects RX4 yX4_sameWritten yX4_sameWritten, Cond.code yX4_sameWritten cX4_sameWritten 1 (some .int), Cond.methodLink RX4 105 yX4_writes, Cond.static yX4_writes, Cond.code yX4_writes cX4_writes 1 (some .boolean), Cond.methodLink RX4 136 yX4_commit, Cond.instanceMethod yX4_commit, Cond.selects RX4 yX4_commit yX4_commit, Cond.code yX4_commit cX4_commit 3 none, Cond.fieldLink RX4 35 "ScoreMachineModel" "memory" "[J", Cond.fieldLink RX4 32 "ScoreMachineModel" "registers" "[J", Cond.methodLink RX4 140 yX4_readsA, Cond.static yX4_readsA, Cond.code yX4_readsA cX4_readsA 1 (some .boolean), Cond.methodLink RX4 143 yX4_readsB, Cond.static yX4_readsB, Cond.code yX4_readsB cX4_readsB 1 (some .boolean), Cond.methodLink RX4 146 yX4_does, Cond.instanceMethod yX4_does, Cond.selects RX4 yX4_does yX4_does, Cond.code yX4_does cX4_does 14 (some .long), Cond.constantLong RX4 129 (63)]
def wsX4_issue : List Cond := .code yX4_issue cX4_issue 14 none :: ((wsX4_issue_r1 ++ (wsX4_issue_r2 ++ wsX4_issue_r3)) ++ wsX40)
def wsX4_run_r1 : List Cond := [Cond.fieldLink RX4 66 "ScoreMachineModel" "thrown" "I", Cond.fieldLink RX4 79 "ScoreMachineModel" "over" "Z", Cond.fieldLink RX4 76 "ScoreMachineModel" "cycle" "I", Cond.fieldLink RX4 89 "ScoreMachineModel" "issuedLast" "I", Cond.fieldLink RX4 98 "ScoreMachineModel" "mostWritten" "I", Cond.fieldLink RX4 56 "ScoreMachineModel" "unitOpen" "[Z", Cond.fieldLink RX4 50 "ScoreMachineModel" "unitRow" "[I", Cond.methodLink RX4 101 yX4_code, Cond.instanceMethod yX4_code, Cond.selects RX4 yX4_code yX4_code, Cond.initialized RX4, Cond.code yX4_code cX4_code 1 (some .int), Cond.fieldLink RX4 9 "ScoreMachineModel" "program" "[I", Cond.fieldLink RX4 86 "ScoreMachineModel" "place" "I", Cond.methodLink RX4 112 yX4_greater, Cond.static yX4_greater, Cond.code yX4_greater cX4_greater 2 (some .int), Cond.methodLink RX4 150 yX4_issues, Cond.instanceMethod yX4_issues, Cond.selects RX4 yX4_issues yX4_issues, Cond.code yX4_issues cX4_issues 2 (some .int), Cond.fieldLink RX4 95 "ScoreMachineModel" "branchWritten" "I", Cond.methodLink RX4 109 yX4_begins, Cond.instanceMethod yX4_begins]
def wsX4_run_r2 : List Cond := [Cond.selects RX4 yX4_begins yX4_begins, Cond.code yX4_begins cX4_begins 1 (some .int), Cond.fieldLink RX4 83 "ScoreMachineModel" "many" "I", Cond.fieldLink RX4 92 "ScoreMachineModel" "issuedThen" "I", Cond.fieldLink RX4 70 "ScoreMachineModel" "width" "I", Cond.methodLink RX4 116 yX4_kindOf, Cond.static yX4_kindOf, Cond.code yX4_kindOf cX4_kindOf 1 (some .int), Cond.methodLink RX4 120 yX4_unitWritten, Cond.instanceMethod yX4_unitWritten, Cond.selects RX4 yX4_unitWritten yX4_unitWritten, Cond.code yX4_unitWritten cX4_unitWritten 5 (some .int), Cond.fieldLink RX4 13 "ScoreMachineModel" "units" "[I", Cond.methodLink RX4 123 yX4_sameWritten, Cond.instanceMethod yX4_sameWritten, Cond.selects RX4 yX4_sameWritten yX4_sameWritten, Cond.code yX4_sameWritten cX4_sameWritten 1 (some .int), Cond.fieldLink RX4 41 "ScoreMachineModel" "writtenOf" "[I", Cond.methodLink RX4 105 yX4_writes, Cond.static yX4_writes, Cond.code yX4_writes cX4_writes 1 (some .boolean), Cond.methodLink RX4 153 yX4_issue, Cond.instanceMethod yX4_issue, Cond.selects RX4 yX4_issue yX4_issue]
def wsX4_run_r3 : List Cond := [Cond.code yX4_issue cX4_issue 14 none, Cond.fieldLink RX4 38 "ScoreMachineModel" "stalls" "[I", Cond.fieldLink RX4 16 "ScoreMachineModel" "latencies" "[I", Cond.fieldLink RX4 47 "ScoreMachineModel" "readOf" "[I", Cond.fieldLink RX4 26 "ScoreMachineModel" "plainRegisters" "[J", Cond.constantLong RX4 131 (255), Cond.fieldLink RX4 60 "ScoreMachineModel" "rows" "[I", Cond.fieldLink RX4 53 "ScoreMachineModel" "unitValue" "[J", Cond.fieldLink RX4 44 "ScoreMachineModel" "writerOf" "[I", Cond.fieldLink RX4 29 "ScoreMachineModel" "plainMemory" "[J", Cond.methodLink RX4 126 yX4_registerB, Cond.instanceMethod yX4_registerB, Cond.selects RX4 yX4_registerB yX4_registerB, Cond.code yX4_registerB cX4_registerB 2 (some .int), Cond.methodLink RX4 133 yX4_waited, Cond.instanceMethod yX4_waited, Cond.selects RX4 yX4_waited yX4_waited, Cond.code yX4_waited cX4_waited 9 (some .int), Cond.methodLink RX4 136 yX4_commit, Cond.instanceMethod yX4_commit, Cond.selects RX4 yX4_commit yX4_commit, Cond.code yX4_commit cX4_commit 3 none, Cond.fieldLink RX4 35 "ScoreMachineModel" "memory" "[J", Cond.fieldLink RX4 32 "ScoreMachineModel" "registers" "[J"]
def wsX4_run_r4 : List Cond := [Cond.methodLink RX4 140 yX4_readsA, Cond.static yX4_readsA, Cond.code yX4_readsA cX4_readsA 1 (some .boolean), Cond.methodLink RX4 143 yX4_readsB, Cond.static yX4_readsB, Cond.code yX4_readsB cX4_readsB 1 (some .boolean), Cond.methodLink RX4 146 yX4_does, Cond.instanceMethod yX4_does, Cond.selects RX4 yX4_does yX4_does, Cond.code yX4_does cX4_does 14 (some .long), Cond.constantLong RX4 129 (63)]
def wsX4_run : List Cond := .code yX4_run cX4_run 6 (some .int) :: ((wsX4_run_r1 ++ (wsX4_run_r2 ++ (wsX4_run_r3 ++ wsX4_run_r4))) ++ wsX40)
def wsX4_open : List Cond := .code yX4_open cX4_open 3 (some .int) :: ([.fieldLink RX4 56 "ScoreMachineModel" "unitOpen" "[Z"] ++ wsX40)
def wsX4_count_r1 : List Cond := [Cond.fieldLink RX4 66 "ScoreMachineModel" "thrown" "I", Cond.fieldLink RX4 76 "ScoreMachineModel" "cycle" "I", Cond.fieldLink RX4 79 "ScoreMachineModel" "over" "Z", Cond.fieldLink RX4 83 "ScoreMachineModel" "many" "I", Cond.fieldLink RX4 38 "ScoreMachineModel" "stalls" "[I", Cond.fieldLink RX4 95 "ScoreMachineModel" "branchWritten" "I", Cond.fieldLink RX4 86 "ScoreMachineModel" "place" "I", Cond.methodLink RX4 156 yX4_open, Cond.instanceMethod yX4_open, Cond.selects RX4 yX4_open yX4_open, Cond.initialized RX4, Cond.code yX4_open cX4_open 3 (some .int), Cond.fieldLink RX4 56 "ScoreMachineModel" "unitOpen" "[Z", Cond.methodLink RX4 101 yX4_code, Cond.instanceMethod yX4_code, Cond.selects RX4 yX4_code yX4_code, Cond.code yX4_code cX4_code 1 (some .int), Cond.fieldLink RX4 9 "ScoreMachineModel" "program" "[I", Cond.methodLink RX4 133 yX4_waited, Cond.instanceMethod yX4_waited, Cond.selects RX4 yX4_waited yX4_waited, Cond.code yX4_waited cX4_waited 9 (some .int), Cond.methodLink RX4 109 yX4_begins, Cond.instanceMethod yX4_begins]
def wsX4_count_r2 : List Cond := [Cond.selects RX4 yX4_begins yX4_begins, Cond.code yX4_begins cX4_begins 1 (some .int), Cond.fieldLink RX4 92 "ScoreMachineModel" "issuedThen" "I", Cond.fieldLink RX4 70 "ScoreMachineModel" "width" "I", Cond.fieldLink RX4 89 "ScoreMachineModel" "issuedLast" "I", Cond.methodLink RX4 116 yX4_kindOf, Cond.static yX4_kindOf, Cond.code yX4_kindOf cX4_kindOf 1 (some .int), Cond.methodLink RX4 120 yX4_unitWritten, Cond.instanceMethod yX4_unitWritten, Cond.selects RX4 yX4_unitWritten yX4_unitWritten, Cond.code yX4_unitWritten cX4_unitWritten 5 (some .int), Cond.fieldLink RX4 50 "ScoreMachineModel" "unitRow" "[I", Cond.fieldLink RX4 13 "ScoreMachineModel" "units" "[I", Cond.methodLink RX4 112 yX4_greater, Cond.static yX4_greater, Cond.code yX4_greater cX4_greater 2 (some .int), Cond.methodLink RX4 123 yX4_sameWritten, Cond.instanceMethod yX4_sameWritten, Cond.selects RX4 yX4_sameWritten yX4_sameWritten, Cond.code yX4_sameWritten cX4_sameWritten 1 (some .int), Cond.fieldLink RX4 41 "ScoreMachineModel" "writtenOf" "[I", Cond.methodLink RX4 105 yX4_writes, Cond.static yX4_writes]
def wsX4_count_r3 : List Cond := [Cond.code yX4_writes cX4_writes 1 (some .boolean)]
def wsX4_count : List Cond := .code yX4_count cX4_count 2 (some .int) :: ((wsX4_count_r1 ++ (wsX4_count_r2 ++ wsX4_count_r3)) ++ wsX40)
def wsX4_register : List Cond := .code yX4_register cX4_register 2 (some .long) :: ([.fieldLink RX4 66 "ScoreMachineModel" "thrown" "I", .fieldLink RX4 32 "ScoreMachineModel" "registers" "[J"] ++ wsX40)
def wsX4_memory : List Cond := .code yX4_memory cX4_memory 2 (some .long) :: ([.fieldLink RX4 66 "ScoreMachineModel" "thrown" "I", .fieldLink RX4 35 "ScoreMachineModel" "memory" "[J"] ++ wsX40)
def wsX4_plain : List Cond := .code yX4_plain cX4_plain 3 (some .long) :: ([.fieldLink RX4 66 "ScoreMachineModel" "thrown" "I", .fieldLink RX4 26 "ScoreMachineModel" "plainRegisters" "[J", .fieldLink RX4 29 "ScoreMachineModel" "plainMemory" "[J"] ++ wsX40)
def wsX4_unit : List Cond := .code yX4_unit cX4_unit 5 (some .int) :: ([.fieldLink RX4 66 "ScoreMachineModel" "thrown" "I", .fieldLink RX4 13 "ScoreMachineModel" "units" "[I", .fieldLink RX4 56 "ScoreMachineModel" "unitOpen" "[Z", .fieldLink RX4 50 "ScoreMachineModel" "unitRow" "[I", .fieldLink RX4 76 "ScoreMachineModel" "cycle" "I"] ++ wsX40)
def wsX4_pending : List Cond := .code yX4_pending cX4_pending 2 (some .int) :: ([.fieldLink RX4 66 "ScoreMachineModel" "thrown" "I", .fieldLink RX4 41 "ScoreMachineModel" "writtenOf" "[I", .fieldLink RX4 76 "ScoreMachineModel" "cycle" "I", .fieldLink RX4 44 "ScoreMachineModel" "writerOf" "[I"] ++ wsX40)
def wsX4_latest : List Cond := .code yX4_latest cX4_latest 4 (some .int) :: ([.fieldLink RX4 66 "ScoreMachineModel" "thrown" "I", .fieldLink RX4 83 "ScoreMachineModel" "many" "I", .fieldLink RX4 60 "ScoreMachineModel" "rows" "[I", .fieldLink RX4 76 "ScoreMachineModel" "cycle" "I"] ++ wsX40)
def wsJ9_max_7cf53 : List Cond := .code yJ9_max_7cf53 cJ9_max_7cf53 2 (some .int) :: ([])
def wsL_register : List Cond := .codeWith yL_register cL_register 4 (some .int) [(0, 8, 11, 13)] :: ([.classLink RL 13 "java/util/NoSuchElementException", .methodLink RL 7 yX3_register, .instanceMethod yX3_register, .selects RX3 yX3_register yX3_register, .initialized RX3, .code yX3_register cX3_register 2 (some .long), .classLink RX3 111 "java/util/NoSuchElementException", .initialized "java/util/NoSuchElementException", .fieldLink RX3 30 "ScoreMachine" "board" "LScoreMachine$Board;", .methodLink RX3 38 yX3_within, .static yX3_within, .code yX3_within cX3_within 2 (some .boolean), .methodLink RX3 118 yX0_registerNow, .instanceMethod yX0_registerNow, .selects RX0 yX0_registerNow yX0_registerNow, .initialized RX0, .code yX0_registerNow cX0_registerNow 2 (some .long), .fieldLink RX0 18 "ScoreMachine$Board" "writtenAt" "[I", .fieldLink RX0 45 "ScoreMachine$Board" "cycle" "I", .fieldLink RX0 21 "ScoreMachine$Board" "heldBefore" "[J", .fieldLink RX0 41 "ScoreMachine$Board" "plainMachine" "LScoreMachine$PlainMachine;", .fieldLink RX0 177 "ScoreMachine$PlainMachine" "registers" "[J"] ++ wsX30 ++ wsX00 ++ wsX10 ++ (vx_atS RX3 115 "java/util/NoSuchElementException" ["java/lang/RuntimeException", "java/lang/Exception"]).filter goodWord)
def wsL_memory : List Cond := .codeWith yL_memory cL_memory 4 (some .int) [(0, 8, 11, 13)] :: ([.classLink RL 13 "java/util/NoSuchElementException", .methodLink RL 15 yX3_memory, .instanceMethod yX3_memory, .selects RX3 yX3_memory yX3_memory, .initialized RX3, .code yX3_memory cX3_memory 2 (some .long), .classLink RX3 111 "java/util/NoSuchElementException", .initialized "java/util/NoSuchElementException", .fieldLink RX3 30 "ScoreMachine" "board" "LScoreMachine$Board;", .methodLink RX3 38 yX3_within, .static yX3_within, .code yX3_within cX3_within 2 (some .boolean), .methodLink RX3 124 yX0_memoryNow, .instanceMethod yX0_memoryNow, .selects RX0 yX0_memoryNow yX0_memoryNow, .initialized RX0, .code yX0_memoryNow cX0_memoryNow 2 (some .long), .fieldLink RX0 65 "ScoreMachine$Board" "storeCell" "I", .fieldLink RX0 68 "ScoreMachine$Board" "storeWritten" "I", .fieldLink RX0 45 "ScoreMachine$Board" "cycle" "I", .fieldLink RX0 71 "ScoreMachine$Board" "storeBefore" "J", .fieldLink RX0 41 "ScoreMachine$Board" "plainMachine" "LScoreMachine$PlainMachine;", .fieldLink RX0 174 "ScoreMachine$PlainMachine" "memory" "[J"] ++ wsX30 ++ wsX00 ++ wsX10 ++ (vx_atS RX3 115 "java/util/NoSuchElementException" ["java/lang/RuntimeException", "java/lang/Exception"]).filter goodWord)
def wsL_plain : List Cond := .codeWith yL_plain cL_plain 5 (some .int) [(0, 9, 12, 13)] :: ([.classLink RL 13 "java/util/NoSuchElementException", .methodLink RL 18 yX3_plain, .instanceMethod yX3_plain, .selects RX3 yX3_plain yX3_plain, .initialized RX3, .code yX3_plain cX3_plain 3 (some .long), .classLink RX3 111 "java/util/NoSuchElementException", .initialized "java/util/NoSuchElementException", .fieldLink RX3 21 "ScoreMachine" "plainMachine" "LScoreMachine$PlainMachine;", .fieldLink RX3 75 "ScoreMachine$PlainMachine" "registers" "[J", .fieldLink RX3 79 "ScoreMachine$PlainMachine" "memory" "[J", .methodLink RX3 68 yX3_isThere, .static yX3_isThere, .code yX3_isThere cX3_isThere 2 (some .boolean), .methodLink RX3 38 yX3_within, .static yX3_within, .code yX3_within cX3_within 2 (some .boolean)] ++ wsX30 ++ wsX10 ++ (vx_atS RX3 115 "java/util/NoSuchElementException" ["java/lang/RuntimeException", "java/lang/Exception"]).filter goodWord)
def wsL_law0_r1 : List Cond := [Cond.classLink RL 8 RX3, Cond.instantiable RX3 3, Cond.initialized RX3, Cond.classLink RL 23 RX4, Cond.instantiable RX4 27, Cond.initialized RX4, Cond.arrayClass .long, Cond.constantLong RL 45 (4294967295), Cond.methodLink RL 22 yX3_init, Cond.instanceMethod yX3_init, Cond.code yX3_init cX3_init 1 none, Cond.methodLink RX3 1 objectInit, Cond.instanceMethod objectInit, Cond.code objectInit ⟨#[0xb1]⟩ 1 none, Cond.classLink RX3 7 RX2, Cond.instantiable RX2 9, Cond.initialized RX2, Cond.fieldLink RX3 10 "ScoreMachine" "setup" "LScoreMachine$Setup;", Cond.classLink RX3 16 RX1, Cond.instantiable RX1 4, Cond.initialized RX1, Cond.fieldLink RX3 21 "ScoreMachine" "plainMachine" "LScoreMachine$PlainMachine;", Cond.classLink RX3 25 RX0, Cond.instantiable RX0 18]
def wsL_law0_r2 : List Cond := [Cond.initialized RX0, Cond.fieldLink RX3 30 "ScoreMachine" "board" "LScoreMachine$Board;", Cond.methodLink RX3 9 yX2_init, Cond.instanceMethod yX2_init, Cond.code yX2_init cX2_init 1 none, Cond.methodLink RX2 3 objectInit, Cond.arrayClass .int, Cond.fieldLink RX2 9 "ScoreMachine$Setup" "codes" "[I", Cond.fieldLink RX2 15 "ScoreMachine$Setup" "ds" "[I", Cond.fieldLink RX2 18 "ScoreMachine$Setup" "as" "[I", Cond.fieldLink RX2 21 "ScoreMachine$Setup" "bs" "[I", Cond.fieldLink RX2 24 "ScoreMachine$Setup" "unitsOf" "[I", Cond.fieldLink RX2 27 "ScoreMachine$Setup" "latencies" "[I", Cond.fieldLink RX2 30 "ScoreMachine$Setup" "registers" "[J", Cond.fieldLink RX2 34 "ScoreMachine$Setup" "memory" "[J", Cond.methodLink RX2 37 yX2_begin, Cond.instanceMethod yX2_begin, Cond.selects RX2 yX2_begin yX2_begin, Cond.code yX2_begin cX2_begin 1 none, Cond.methodLink RX2 49 arraycopyName, Cond.native arraycopyName, Cond.static arraycopyName, Cond.initialized "java/lang/System", Cond.fieldLink RX2 58 "ScoreMachine$Setup" "width" "I"]
def wsL_law0_r3 : List Cond := [Cond.methodLink RX2 40 yJ7_fill_53178, Cond.static yJ7_fill_53178, Cond.initialized RJ7, Cond.code yJ7_fill_53178 cJ7_fill_53178 4 none, Cond.methodLink RX2 55 yJ7_fill_d0a16, Cond.static yJ7_fill_d0a16, Cond.code yJ7_fill_d0a16 cJ7_fill_d0a16 5 none, Cond.methodLink RX3 18 yX1_init, Cond.instanceMethod yX1_init, Cond.code yX1_init cX1_init 2 none, Cond.methodLink RX1 3 objectInit, Cond.fieldLink RX1 9 "ScoreMachine$PlainMachine" "registers" "[J", Cond.fieldLink RX1 15 "ScoreMachine$PlainMachine" "memory" "[J", Cond.fieldLink RX1 18 "ScoreMachine$PlainMachine" "setup" "LScoreMachine$Setup;", Cond.methodLink RX3 27 yX0_init, Cond.instanceMethod yX0_init, Cond.code yX0_init cX0_init 3 none, Cond.methodLink RX0 3 objectInit, Cond.fieldLink RX0 9 "ScoreMachine$Board" "stalls" "[I", Cond.fieldLink RX0 15 "ScoreMachine$Board" "writer" "[I", Cond.fieldLink RX0 18 "ScoreMachine$Board" "writtenAt" "[I", Cond.fieldLink RX0 21 "ScoreMachine$Board" "heldBefore" "[J", Cond.fieldLink RX0 25 "ScoreMachine$Board" "readAt" "[I", Cond.fieldLink RX0 28 "ScoreMachine$Board" "row" "[I"]
def wsL_law0_r4 : List Cond := [Cond.fieldLink RX0 31 "ScoreMachine$Board" "unitRows" "[I", Cond.fieldLink RX0 34 "ScoreMachine$Board" "issuedRows" "[I", Cond.fieldLink RX0 37 "ScoreMachine$Board" "setup" "LScoreMachine$Setup;", Cond.fieldLink RX0 41 "ScoreMachine$Board" "plainMachine" "LScoreMachine$PlainMachine;", Cond.methodLink RL 25 yX4_init, Cond.instanceMethod yX4_init, Cond.code yX4_init cX4_init 1 none, Cond.methodLink RX4 1 objectInit, Cond.fieldLink RX4 9 "ScoreMachineModel" "program" "[I", Cond.fieldLink RX4 13 "ScoreMachineModel" "units" "[I", Cond.fieldLink RX4 16 "ScoreMachineModel" "latencies" "[I", Cond.fieldLink RX4 19 "ScoreMachineModel" "firstRegisters" "[J", Cond.fieldLink RX4 23 "ScoreMachineModel" "firstMemory" "[J", Cond.fieldLink RX4 26 "ScoreMachineModel" "plainRegisters" "[J", Cond.fieldLink RX4 29 "ScoreMachineModel" "plainMemory" "[J", Cond.fieldLink RX4 32 "ScoreMachineModel" "registers" "[J", Cond.fieldLink RX4 35 "ScoreMachineModel" "memory" "[J", Cond.fieldLink RX4 38 "ScoreMachineModel" "stalls" "[I", Cond.fieldLink RX4 41 "ScoreMachineModel" "writtenOf" "[I", Cond.fieldLink RX4 44 "ScoreMachineModel" "writerOf" "[I", Cond.fieldLink RX4 47 "ScoreMachineModel" "readOf" "[I", Cond.fieldLink RX4 50 "ScoreMachineModel" "unitRow" "[I", Cond.fieldLink RX4 53 "ScoreMachineModel" "unitValue" "[J", Cond.arrayClass .boolean]
def wsL_law0_r5 : List Cond := [Cond.fieldLink RX4 56 "ScoreMachineModel" "unitOpen" "[Z", Cond.fieldLink RX4 60 "ScoreMachineModel" "rows" "[I", Cond.methodLink RX4 63 yX4_clear, Cond.instanceMethod yX4_clear, Cond.selects RX4 yX4_clear yX4_clear, Cond.code yX4_clear cX4_clear 2 none, Cond.fieldLink RX4 66 "ScoreMachineModel" "thrown" "I", Cond.fieldLink RX4 70 "ScoreMachineModel" "width" "I", Cond.methodLink RX4 73 yX4_again, Cond.instanceMethod yX4_again, Cond.selects RX4 yX4_again yX4_again, Cond.code yX4_again cX4_again 2 none, Cond.fieldLink RX4 76 "ScoreMachineModel" "cycle" "I", Cond.fieldLink RX4 79 "ScoreMachineModel" "over" "Z", Cond.fieldLink RX4 83 "ScoreMachineModel" "many" "I", Cond.fieldLink RX4 86 "ScoreMachineModel" "place" "I", Cond.fieldLink RX4 89 "ScoreMachineModel" "issuedLast" "I", Cond.fieldLink RX4 92 "ScoreMachineModel" "issuedThen" "I", Cond.fieldLink RX4 95 "ScoreMachineModel" "branchWritten" "I", Cond.fieldLink RX4 98 "ScoreMachineModel" "mostWritten" "I", Cond.methodLink RL 26 yX3_put, Cond.instanceMethod yX3_put, Cond.selects RX3 yX3_put yX3_put, Cond.code yX3_put cX3_put 6 (some .boolean)]
def wsL_law0_r6 : List Cond := [Cond.fieldLink RX3 42 "ScoreMachine" "KIND_OF_CODE" "[I", Cond.fieldLink RX3 46 "ScoreMachine$Setup" "codes" "[I", Cond.fieldLink RX3 49 "ScoreMachine$Setup" "ds" "[I", Cond.fieldLink RX3 52 "ScoreMachine$Setup" "as" "[I", Cond.fieldLink RX3 55 "ScoreMachine$Setup" "bs" "[I", Cond.methodLink RX3 34 yX3_began, Cond.instanceMethod yX3_began, Cond.selects RX3 yX3_began yX3_began, Cond.code yX3_began cX3_began 1 (some .boolean), Cond.fieldLink RX3 92 "ScoreMachine$Board" "cycle" "I", Cond.methodLink RX3 38 yX3_within, Cond.static yX3_within, Cond.code yX3_within cX3_within 2 (some .boolean), Cond.methodLink RL 30 yX4_put, Cond.instanceMethod yX4_put, Cond.selects RX4 yX4_put yX4_put, Cond.code yX4_put cX4_put 6 (some .boolean), Cond.methodLink RL 31 yX3_units, Cond.instanceMethod yX3_units, Cond.selects RX3 yX3_units yX3_units, Cond.code yX3_units cX3_units 3 (some .boolean), Cond.fieldLink RX3 58 "ScoreMachine$Setup" "unitsOf" "[I", Cond.methodLink RL 35 yX4_units, Cond.instanceMethod yX4_units]
def wsL_law0_r7 : List Cond := [Cond.selects RX4 yX4_units yX4_units, Cond.code yX4_units cX4_units 3 (some .boolean), Cond.methodLink RL 36 yX3_latency, Cond.instanceMethod yX3_latency, Cond.selects RX3 yX3_latency yX3_latency, Cond.code yX3_latency cX3_latency 3 (some .boolean), Cond.fieldLink RX3 61 "ScoreMachine$Setup" "latencies" "[I", Cond.methodLink RL 39 yX4_latency, Cond.instanceMethod yX4_latency, Cond.selects RX4 yX4_latency yX4_latency, Cond.code yX4_latency cX4_latency 3 (some .boolean), Cond.methodLink RL 40 yX3_width, Cond.instanceMethod yX3_width, Cond.selects RX3 yX3_width yX3_width, Cond.code yX3_width cX3_width 2 (some .boolean), Cond.fieldLink RX3 64 "ScoreMachine$Setup" "width" "I", Cond.methodLink RL 44 yX4_width, Cond.instanceMethod yX4_width, Cond.selects RX4 yX4_width yX4_width, Cond.code yX4_width cX4_width 2 (some .boolean), Cond.methodLink RL 47 yX3_set, Cond.instanceMethod yX3_set, Cond.selects RX3 yX3_set yX3_set, Cond.code yX3_set cX3_set 5 (some .boolean)]
def wsL_law0_r8 : List Cond := [Cond.fieldLink RX3 71 "ScoreMachine$Setup" "registers" "[J", Cond.fieldLink RX3 75 "ScoreMachine$PlainMachine" "registers" "[J", Cond.fieldLink RX3 76 "ScoreMachine$Setup" "memory" "[J", Cond.fieldLink RX3 79 "ScoreMachine$PlainMachine" "memory" "[J", Cond.methodLink RX3 68 yX3_isThere, Cond.static yX3_isThere, Cond.code yX3_isThere cX3_isThere 2 (some .boolean), Cond.methodLink RL 51 yX4_set, Cond.instanceMethod yX4_set, Cond.selects RX4 yX4_set yX4_set, Cond.code yX4_set cX4_set 5 (some .boolean), Cond.methodLink RL 52 yX3_run, Cond.instanceMethod yX3_run, Cond.selects RX3 yX3_run yX3_run, Cond.code yX3_run cX3_run 3 (some .int), Cond.fieldLink RX3 80 "ScoreMachine$Board" "over" "Z", Cond.methodLink RX3 84 yX0_goOneCycle, Cond.instanceMethod yX0_goOneCycle, Cond.selects RX0 yX0_goOneCycle yX0_goOneCycle, Cond.code yX0_goOneCycle cX0_goOneCycle 3 none, Cond.fieldLink RX0 45 "ScoreMachine$Board" "cycle" "I", Cond.fieldLink RX0 81 "ScoreMachine$Setup" "width" "I", Cond.fieldLink RX0 78 "ScoreMachine$Board" "lastWritten" "I", Cond.fieldLink RX0 49 "ScoreMachine$Board" "over" "Z"]
def wsL_law0_r9 : List Cond := [Cond.methodLink RX0 86 yX1_code, Cond.instanceMethod yX1_code, Cond.selects RX1 yX1_code yX1_code, Cond.code yX1_code cX1_code 1 (some .int), Cond.fieldLink RX1 36 "ScoreMachine$Setup" "codes" "[I", Cond.fieldLink RX1 32 "ScoreMachine$PlainMachine" "place" "I", Cond.methodLink RX0 92 yX0_tryToIssue, Cond.instanceMethod yX0_tryToIssue, Cond.selects RX0 yX0_tryToIssue yX0_tryToIssue, Cond.code yX0_tryToIssue cX0_tryToIssue 4 (some .int), Cond.fieldLink RX0 75 "ScoreMachine$Board" "branchWritten" "I", Cond.fieldLink RX0 106 "ScoreMachine$Setup" "ds" "[I", Cond.fieldLink RX0 109 "ScoreMachine$PlainMachine" "place" "I", Cond.fieldLink RX0 53 "ScoreMachine$Board" "issued" "I", Cond.methodLink RX0 98 yX0_lowestFreeUnit, Cond.instanceMethod yX0_lowestFreeUnit, Cond.selects RX0 yX0_lowestFreeUnit yX0_lowestFreeUnit, Cond.code yX0_lowestFreeUnit cX0_lowestFreeUnit 3 (some .int), Cond.fieldLink RX0 133 "ScoreMachine$Setup" "unitsOf" "[I", Cond.static yX3_unitRow, Cond.code yX3_unitRow cX3_unitRow 2 (some .int), Cond.static yX3_writesD, Cond.code yX3_writesD cX3_writesD 1 (some .boolean), Cond.methodLink RX0 112 yX0_settleCycles]
def wsL_law0_r10 : List Cond := [Cond.instanceMethod yX0_settleCycles, Cond.selects RX0 yX0_settleCycles yX0_settleCycles, Cond.code yX0_settleCycles cX0_settleCycles 8 none, Cond.fieldLink RX0 139 "ScoreMachine$Setup" "as" "[I", Cond.methodLink RX0 142 Lib.Math.max.name, Cond.static Lib.Math.max.name, Cond.initialized "java/lang/Math", Cond.code Lib.Math.max.name Lib.Math.max.code 2 (some .int), Cond.fieldLink RX0 156 "ScoreMachine$Setup" "latencies" "[I", Cond.static yX3_readsA, Cond.code yX3_readsA cX3_readsA 1 (some .boolean), Cond.static yX3_readsB, Cond.code yX3_readsB cX3_readsB 1 (some .boolean), Cond.methodLink RX0 150 yX2_registerB, Cond.instanceMethod yX2_registerB, Cond.selects RX2 yX2_registerB yX2_registerB, Cond.code yX2_registerB cX2_registerB 2 (some .int), Cond.static yX3_readsD, Cond.code yX3_readsD cX3_readsD 1 (some .boolean), Cond.methodLink RX0 120 yX0_keepRow, Cond.instanceMethod yX0_keepRow, Cond.selects RX0 yX0_keepRow yX0_keepRow, Cond.code yX0_keepRow cX0_keepRow 2 none, Cond.methodLink RX0 159 arraycopyName]
def wsL_law0_r11 : List Cond := [Cond.methodLink RX0 165 yX0_issuedStart, Cond.static yX0_issuedStart, Cond.code yX0_issuedStart cX0_issuedStart 1 (some .int), Cond.methodLink RX0 124 yX0_noteReading, Cond.instanceMethod yX0_noteReading, Cond.selects RX0 yX0_noteReading yX0_noteReading, Cond.code yX0_noteReading cX0_noteReading 3 none, Cond.methodLink RX0 168 yX0_noteReader, Cond.instanceMethod yX0_noteReader, Cond.selects RX0 yX0_noteReader yX0_noteReader, Cond.code yX0_noteReader cX0_noteReader 2 none, Cond.methodLink RX0 127 yX0_noteWriting, Cond.instanceMethod yX0_noteWriting, Cond.selects RX0 yX0_noteWriting yX0_noteWriting, Cond.code yX0_noteWriting cX0_noteWriting 5 none, Cond.fieldLink RX0 65 "ScoreMachine$Board" "storeCell" "I", Cond.fieldLink RX0 68 "ScoreMachine$Board" "storeWritten" "I", Cond.fieldLink RX0 174 "ScoreMachine$PlainMachine" "memory" "[J", Cond.fieldLink RX0 71 "ScoreMachine$Board" "storeBefore" "J", Cond.fieldLink RX0 177 "ScoreMachine$PlainMachine" "registers" "[J", Cond.methodLink RX0 171 yX1_cell, Cond.instanceMethod yX1_cell, Cond.selects RX1 yX1_cell yX1_cell, Cond.code yX1_cell cX1_cell 3 (some .int)]
def wsL_law0_r12 : List Cond := [Cond.fieldLink RX1 40 "ScoreMachine$Setup" "as" "[I", Cond.fieldLink RX1 43 "ScoreMachine$Setup" "bs" "[I", Cond.constantLong RX1 46 (255), Cond.methodLink RX0 130 yX1_step, Cond.instanceMethod yX1_step, Cond.selects RX1 yX1_step yX1_step, Cond.code yX1_step cX1_step 3 none, Cond.fieldLink RX1 52 "ScoreMachine$Setup" "ds" "[I", Cond.methodLink RX1 48 yX1_code, Cond.methodLink RX1 55 yX1_cell, Cond.methodLink RX1 62 yX1_value, Cond.instanceMethod yX1_value, Cond.selects RX1 yX1_value yX1_value, Cond.code yX1_value cX1_value 4 (some .long), Cond.methodLink RX1 70 yX2_registerB, Cond.methodLink RX1 73 yX1_worked, Cond.static yX1_worked, Cond.code yX1_worked cX1_worked 5 (some .long), Cond.constantLong RX1 77 (63), Cond.methodLink RX1 66 yX1_placeAfter, Cond.instanceMethod yX1_placeAfter, Cond.selects RX1 yX1_placeAfter yX1_placeAfter, Cond.code yX1_placeAfter cX1_placeAfter 6 (some .int), Cond.methodLink RL 56 yX4_run]
def wsL_law0_r13 : List Cond := [Cond.instanceMethod yX4_run, Cond.selects RX4 yX4_run yX4_run, Cond.code yX4_run cX4_run 6 (some .int), Cond.methodLink RX4 101 yX4_code, Cond.instanceMethod yX4_code, Cond.selects RX4 yX4_code yX4_code, Cond.code yX4_code cX4_code 1 (some .int), Cond.methodLink RX4 112 yX4_greater, Cond.static yX4_greater, Cond.code yX4_greater cX4_greater 2 (some .int), Cond.methodLink RX4 150 yX4_issues, Cond.instanceMethod yX4_issues, Cond.selects RX4 yX4_issues yX4_issues, Cond.code yX4_issues cX4_issues 2 (some .int), Cond.methodLink RX4 109 yX4_begins, Cond.instanceMethod yX4_begins, Cond.selects RX4 yX4_begins yX4_begins, Cond.code yX4_begins cX4_begins 1 (some .int), Cond.methodLink RX4 116 yX4_kindOf, Cond.static yX4_kindOf, Cond.code yX4_kindOf cX4_kindOf 1 (some .int), Cond.methodLink RX4 120 yX4_unitWritten, Cond.instanceMethod yX4_unitWritten, Cond.selects RX4 yX4_unitWritten yX4_unitWritten]
def wsL_law0_r14 : List Cond := [Cond.code yX4_unitWritten cX4_unitWritten 5 (some .int), Cond.methodLink RX4 123 yX4_sameWritten, Cond.instanceMethod yX4_sameWritten, Cond.selects RX4 yX4_sameWritten yX4_sameWritten, Cond.code yX4_sameWritten cX4_sameWritten 1 (some .int), Cond.methodLink RX4 105 yX4_writes, Cond.static yX4_writes, Cond.code yX4_writes cX4_writes 1 (some .boolean), Cond.methodLink RX4 153 yX4_issue, Cond.instanceMethod yX4_issue, Cond.selects RX4 yX4_issue yX4_issue, Cond.code yX4_issue cX4_issue 14 none, Cond.constantLong RX4 131 (255), Cond.methodLink RX4 126 yX4_registerB, Cond.instanceMethod yX4_registerB, Cond.selects RX4 yX4_registerB yX4_registerB, Cond.code yX4_registerB cX4_registerB 2 (some .int), Cond.methodLink RX4 133 yX4_waited, Cond.instanceMethod yX4_waited, Cond.selects RX4 yX4_waited yX4_waited, Cond.code yX4_waited cX4_waited 9 (some .int), Cond.methodLink RX4 136 yX4_commit, Cond.instanceMethod yX4_commit, Cond.selects RX4 yX4_commit yX4_commit]
def wsL_law0_r15 : List Cond := [Cond.code yX4_commit cX4_commit 3 none, Cond.methodLink RX4 140 yX4_readsA, Cond.static yX4_readsA, Cond.code yX4_readsA cX4_readsA 1 (some .boolean), Cond.methodLink RX4 143 yX4_readsB, Cond.static yX4_readsB, Cond.code yX4_readsB cX4_readsB 1 (some .boolean), Cond.methodLink RX4 146 yX4_does, Cond.instanceMethod yX4_does, Cond.selects RX4 yX4_does yX4_does, Cond.code yX4_does cX4_does 14 (some .long), Cond.constantLong RX4 129 (63), Cond.methodLink RL 57 yX3_again, Cond.instanceMethod yX3_again, Cond.selects RX3 yX3_again yX3_again, Cond.code yX3_again cX3_again 1 none, Cond.methodLink RX3 87 yX1_begin, Cond.instanceMethod yX1_begin, Cond.selects RX1 yX1_begin yX1_begin, Cond.code yX1_begin cX1_begin 1 none, Cond.fieldLink RX1 22 "ScoreMachine$Setup" "registers" "[J", Cond.methodLink RX1 25 arraycopyName, Cond.fieldLink RX1 31 "ScoreMachine$Setup" "memory" "[J", Cond.methodLink RX3 90 yX0_begin]
def wsL_law0_r16 : List Cond := [Cond.instanceMethod yX0_begin, Cond.selects RX0 yX0_begin yX0_begin, Cond.code yX0_begin cX0_begin 1 none, Cond.methodLink RX0 56 yJ7_fill_53178, Cond.methodLink RX0 62 yJ7_fill_d0a16, Cond.methodLink RL 60 yX4_again, Cond.methodLink RL 61 yX3_clear, Cond.instanceMethod yX3_clear, Cond.selects RX3 yX3_clear yX3_clear, Cond.code yX3_clear cX3_clear 1 none, Cond.methodLink RX3 91 yX2_begin, Cond.methodLink RL 64 yX4_clear, Cond.methodLink RL 65 yX3_count, Cond.instanceMethod yX3_count, Cond.selects RX3 yX3_count yX3_count, Cond.code yX3_count cX3_count 2 (some .int), Cond.fieldLink RX3 95 "ScoreMachine$Board" "issued" "I", Cond.fieldLink RX3 102 "ScoreMachine$Board" "stalls" "[I", Cond.fieldLink RX3 105 "ScoreMachine$Board" "branchWritten" "I", Cond.fieldLink RX3 108 "ScoreMachine$PlainMachine" "place" "I", Cond.methodLink RX3 98 yX0_notWritten, Cond.instanceMethod yX0_notWritten, Cond.selects RX0 yX0_notWritten yX0_notWritten, Cond.code yX0_notWritten cX0_notWritten 3 (some .int)]
def wsL_law0_r17 : List Cond := [Cond.methodLink RL 68 yX4_count, Cond.instanceMethod yX4_count, Cond.selects RX4 yX4_count yX4_count, Cond.code yX4_count cX4_count 2 (some .int), Cond.methodLink RX4 156 yX4_open, Cond.instanceMethod yX4_open, Cond.selects RX4 yX4_open yX4_open, Cond.code yX4_open cX4_open 3 (some .int), Cond.methodLink RL 69 yL_register, Cond.static yL_register, Cond.initialized RL, Cond.codeWith yL_register cL_register 4 (some .int) [(0, 8, 11, 13)], Cond.classLink RL 13 "java/util/NoSuchElementException", Cond.methodLink RL 7 yX3_register, Cond.instanceMethod yX3_register, Cond.selects RX3 yX3_register yX3_register, Cond.code yX3_register cX3_register 2 (some .long), Cond.classLink RX3 111 "java/util/NoSuchElementException", Cond.initialized "java/util/NoSuchElementException", Cond.methodLink RX3 118 yX0_registerNow, Cond.instanceMethod yX0_registerNow, Cond.selects RX0 yX0_registerNow yX0_registerNow, Cond.code yX0_registerNow cX0_registerNow 2 (some .long), Cond.methodLink RL 74 yX4_register]
def wsL_law0_r18 : List Cond := [Cond.instanceMethod yX4_register, Cond.selects RX4 yX4_register yX4_register, Cond.code yX4_register cX4_register 2 (some .long), Cond.methodLink RL 75 yX4_thrown, Cond.instanceMethod yX4_thrown, Cond.selects RX4 yX4_thrown yX4_thrown, Cond.code yX4_thrown cX4_thrown 1 (some .int), Cond.methodLink RL 79 yL_memory, Cond.static yL_memory, Cond.codeWith yL_memory cL_memory 4 (some .int) [(0, 8, 11, 13)], Cond.methodLink RL 15 yX3_memory, Cond.instanceMethod yX3_memory, Cond.selects RX3 yX3_memory yX3_memory, Cond.code yX3_memory cX3_memory 2 (some .long), Cond.methodLink RX3 124 yX0_memoryNow, Cond.instanceMethod yX0_memoryNow, Cond.selects RX0 yX0_memoryNow yX0_memoryNow, Cond.code yX0_memoryNow cX0_memoryNow 2 (some .long), Cond.methodLink RL 81 yX4_memory, Cond.instanceMethod yX4_memory, Cond.selects RX4 yX4_memory yX4_memory, Cond.code yX4_memory cX4_memory 2 (some .long), Cond.methodLink RL 82 yL_plain, Cond.static yL_plain]
def wsL_law0_r19 : List Cond := [Cond.codeWith yL_plain cL_plain 5 (some .int) [(0, 9, 12, 13)], Cond.methodLink RL 18 yX3_plain, Cond.instanceMethod yX3_plain, Cond.selects RX3 yX3_plain yX3_plain, Cond.code yX3_plain cX3_plain 3 (some .long), Cond.methodLink RL 85 yX4_plain, Cond.instanceMethod yX4_plain, Cond.selects RX4 yX4_plain yX4_plain, Cond.code yX4_plain cX4_plain 3 (some .long), Cond.methodLink RL 86 yX3_unit, Cond.instanceMethod yX3_unit, Cond.selects RX3 yX3_unit yX3_unit, Cond.code yX3_unit cX3_unit 4 (some .int), Cond.methodLink RX3 129 yX3_unitRow, Cond.methodLink RX3 133 yX0_tellUnit, Cond.instanceMethod yX0_tellUnit, Cond.selects RX0 yX0_tellUnit yX0_tellUnit, Cond.code yX0_tellUnit cX0_tellUnit 4 (some .int), Cond.methodLink RL 90 yX4_unit, Cond.instanceMethod yX4_unit, Cond.selects RX4 yX4_unit yX4_unit, Cond.code yX4_unit cX4_unit 5 (some .int), Cond.methodLink RL 91 yX3_pending, Cond.instanceMethod yX3_pending]
def wsL_law0_r20 : List Cond := [Cond.selects RX3 yX3_pending yX3_pending, Cond.code yX3_pending cX3_pending 2 (some .int), Cond.fieldLink RX3 136 "ScoreMachine$Board" "writtenAt" "[I", Cond.fieldLink RX3 139 "ScoreMachine$Board" "writer" "[I", Cond.methodLink RL 94 yX4_pending, Cond.instanceMethod yX4_pending, Cond.selects RX4 yX4_pending yX4_pending, Cond.code yX4_pending cX4_pending 2 (some .int), Cond.methodLink RL 95 yX3_latest, Cond.instanceMethod yX3_latest, Cond.selects RX3 yX3_latest yX3_latest, Cond.code yX3_latest cX3_latest 3 (some .int), Cond.methodLink RX3 142 yX0_tellIssued, Cond.instanceMethod yX0_tellIssued, Cond.selects RX0 yX0_tellIssued yX0_tellIssued, Cond.code yX0_tellIssued cX0_tellIssued 4 (some .int), Cond.methodLink RL 99 yX4_latest, Cond.instanceMethod yX4_latest, Cond.selects RX4 yX4_latest yX4_latest, Cond.code yX4_latest cX4_latest 4 (some .int)]
def wsL_law0 : List Cond := (wsL_law0_r1 ++ (wsL_law0_r2 ++ (wsL_law0_r3 ++ (wsL_law0_r4 ++ (wsL_law0_r5 ++ (wsL_law0_r6 ++ (wsL_law0_r7 ++ (wsL_law0_r8 ++ (wsL_law0_r9 ++ (wsL_law0_r10 ++ (wsL_law0_r11 ++ (wsL_law0_r12 ++ (wsL_law0_r13 ++ (wsL_law0_r14 ++ (wsL_law0_r15 ++ (wsL_law0_r16 ++ (wsL_law0_r17 ++ (wsL_law0_r18 ++ (wsL_law0_r19 ++ wsL_law0_r20))))))))))))))))))) ++ wsX30 ++ wsX40 ++ wsX20 ++ wsX10 ++ wsX00 ++ ([] : List Cond)
def wsL_law : List Cond := wsL_law0 ++ (vx_atS RX3 115 "java/util/NoSuchElementException" ["java/lang/RuntimeException", "java/lang/Exception"]).filter goodWord
abbrev vwCl : List vw_C := [(RX0, TX0, 18), (RX1, TX1, 4), (RX2, TX2, 9), (RX3, TX3, 3), (RX4, TX4, 27)]

theorem nmX0 : ∀ a, a < 18 → ∀ b, b < 18 → a ≠ b → (TX0 a).2.1 ≠ (TX0 b).2.1 := by decide +kernel
theorem tyX0_ok : ∀ k, k < 18 → parseFieldDescriptor (TX0 k).2.2.1 = some (tyX0 k) := by decide +kernel
theorem nmX1 : ∀ a, a < 4 → ∀ b, b < 4 → a ≠ b → (TX1 a).2.1 ≠ (TX1 b).2.1 := by decide +kernel
theorem tyX1_ok : ∀ k, k < 4 → parseFieldDescriptor (TX1 k).2.2.1 = some (tyX1 k) := by decide +kernel
theorem nmX2 : ∀ a, a < 9 → ∀ b, b < 9 → a ≠ b → (TX2 a).2.1 ≠ (TX2 b).2.1 := by decide +kernel
theorem tyX2_ok : ∀ k, k < 9 → parseFieldDescriptor (TX2 k).2.2.1 = some (tyX2 k) := by decide +kernel
theorem nmX3 : ∀ a, a < 3 → ∀ b, b < 3 → a ≠ b → (TX3 a).2.1 ≠ (TX3 b).2.1 := by decide +kernel
theorem tyX3_ok : ∀ k, k < 3 → parseFieldDescriptor (TX3 k).2.2.1 = some (tyX3 k) := by decide +kernel
theorem nmX4 : ∀ a, a < 27 → ∀ b, b < 27 → a ≠ b → (TX4 a).2.1 ≠ (TX4 b).2.1 := by decide +kernel
theorem tyX4_ok : ∀ k, k < 27 → parseFieldDescriptor (TX4 k).2.2.1 = some (tyX4 k) := by decide +kernel
theorem nmJ9 : ∀ a, a < 0 → ∀ b, b < 0 → a ≠ b → (TJ9 a).2.1 ≠ (TJ9 b).2.1 := by decide +kernel
theorem tyJ9_ok : ∀ k, k < 0 → parseFieldDescriptor (TJ9 k).2.2.1 = some (tyJ9 k) := by decide +kernel
theorem nmJ0 : ∀ a, a < 0 → ∀ b, b < 0 → a ≠ b → (TJ0 a).2.1 ≠ (TJ0 b).2.1 := by decide +kernel
theorem tyJ0_ok : ∀ k, k < 0 → parseFieldDescriptor (TJ0 k).2.2.1 = some (tyJ0 k) := by decide +kernel
theorem nmJ10 : ∀ a, a < 0 → ∀ b, b < 0 → a ≠ b → (TJ10 a).2.1 ≠ (TJ10 b).2.1 := by decide +kernel
theorem tyJ10_ok : ∀ k, k < 0 → parseFieldDescriptor (TJ10 k).2.2.1 = some (tyJ10 k) := by decide +kernel
theorem nmJ7 : ∀ a, a < 0 → ∀ b, b < 0 → a ≠ b → (TJ7 a).2.1 ≠ (TJ7 b).2.1 := by decide +kernel
theorem tyJ7_ok : ∀ k, k < 0 → parseFieldDescriptor (TJ7 k).2.2.1 = some (tyJ7 k) := by decide +kernel
end
section
theorem dX0_init_0 : decode cX0_init 0 = .ok (.aload_n 0, 1) := by decide +kernel
theorem dX0_init_1 : decode cX0_init 1 = .ok (.invokespecial 3, 3) := by decide +kernel
theorem dX0_init_4 : decode cX0_init 4 = .ok (.aload_n 0, 1) := by decide +kernel
theorem dX0_init_5 : decode cX0_init 5 = .ok (.iconst 4, 1) := by decide +kernel
theorem dX0_init_6 : decode cX0_init 6 = .ok (.newarray .int, 2) := by decide +kernel
theorem dX0_init_8 : decode cX0_init 8 = .ok (.putfield 9, 3) := by decide +kernel
theorem dX0_init_11 : decode cX0_init 11 = .ok (.aload_n 0, 1) := by decide +kernel
theorem dX0_init_12 : decode cX0_init 12 = .ok (.bipush 16, 2) := by decide +kernel
theorem dX0_init_14 : decode cX0_init 14 = .ok (.newarray .int, 2) := by decide +kernel
theorem dX0_init_16 : decode cX0_init 16 = .ok (.putfield 15, 3) := by decide +kernel
theorem dX0_init_19 : decode cX0_init 19 = .ok (.aload_n 0, 1) := by decide +kernel
theorem dX0_init_20 : decode cX0_init 20 = .ok (.bipush 16, 2) := by decide +kernel
theorem dX0_init_22 : decode cX0_init 22 = .ok (.newarray .int, 2) := by decide +kernel
theorem dX0_init_24 : decode cX0_init 24 = .ok (.putfield 18, 3) := by decide +kernel
theorem dX0_init_27 : decode cX0_init 27 = .ok (.aload_n 0, 1) := by decide +kernel
theorem dX0_init_28 : decode cX0_init 28 = .ok (.bipush 16, 2) := by decide +kernel
theorem dX0_init_30 : decode cX0_init 30 = .ok (.newarray .long, 2) := by decide +kernel
theorem dX0_init_32 : decode cX0_init 32 = .ok (.putfield 21, 3) := by decide +kernel
theorem dX0_init_35 : decode cX0_init 35 = .ok (.aload_n 0, 1) := by decide +kernel
theorem dX0_init_36 : decode cX0_init 36 = .ok (.bipush 16, 2) := by decide +kernel
theorem dX0_init_38 : decode cX0_init 38 = .ok (.newarray .int, 2) := by decide +kernel
theorem dX0_init_40 : decode cX0_init 40 = .ok (.putfield 25, 3) := by decide +kernel
theorem dX0_init_43 : decode cX0_init 43 = .ok (.aload_n 0, 1) := by decide +kernel
theorem dX0_init_44 : decode cX0_init 44 = .ok (.bipush 6, 2) := by decide +kernel
theorem dX0_init_46 : decode cX0_init 46 = .ok (.newarray .int, 2) := by decide +kernel
theorem dX0_init_48 : decode cX0_init 48 = .ok (.putfield 28, 3) := by decide +kernel
theorem dX0_init_51 : decode cX0_init 51 = .ok (.aload_n 0, 1) := by decide +kernel
theorem dX0_init_52 : decode cX0_init 52 = .ok (.bipush 108, 2) := by decide +kernel
theorem dX0_init_54 : decode cX0_init 54 = .ok (.newarray .int, 2) := by decide +kernel
theorem dX0_init_56 : decode cX0_init 56 = .ok (.putfield 31, 3) := by decide +kernel
theorem dX0_init_59 : decode cX0_init 59 = .ok (.aload_n 0, 1) := by decide +kernel
theorem dX0_init_60 : decode cX0_init 60 = .ok (.sipush 384, 3) := by decide +kernel
theorem dX0_init_63 : decode cX0_init 63 = .ok (.newarray .int, 2) := by decide +kernel
theorem dX0_init_65 : decode cX0_init 65 = .ok (.putfield 34, 3) := by decide +kernel
theorem dX0_init_68 : decode cX0_init 68 = .ok (.aload_n 0, 1) := by decide +kernel
theorem dX0_init_69 : decode cX0_init 69 = .ok (.aload_n 1, 1) := by decide +kernel
theorem dX0_init_70 : decode cX0_init 70 = .ok (.putfield 37, 3) := by decide +kernel
theorem dX0_init_73 : decode cX0_init 73 = .ok (.aload_n 0, 1) := by decide +kernel
theorem dX0_init_74 : decode cX0_init 74 = .ok (.aload_n 2, 1) := by decide +kernel
theorem dX0_init_75 : decode cX0_init 75 = .ok (.putfield 41, 3) := by decide +kernel
theorem dX0_init_78 : decode cX0_init 78 = .ok (.return_, 1) := by decide +kernel
theorem dX0_begin_0 : decode cX0_begin 0 = .ok (.aload_n 0, 1) := by decide +kernel
theorem dX0_begin_1 : decode cX0_begin 1 = .ok (.iconst 0, 1) := by decide +kernel
theorem dX0_begin_2 : decode cX0_begin 2 = .ok (.putfield 45, 3) := by decide +kernel
theorem dX0_begin_5 : decode cX0_begin 5 = .ok (.aload_n 0, 1) := by decide +kernel
theorem dX0_begin_6 : decode cX0_begin 6 = .ok (.iconst 0, 1) := by decide +kernel
theorem dX0_begin_7 : decode cX0_begin 7 = .ok (.putfield 49, 3) := by decide +kernel
theorem dX0_begin_10 : decode cX0_begin 10 = .ok (.aload_n 0, 1) := by decide +kernel
theorem dX0_begin_11 : decode cX0_begin 11 = .ok (.iconst 0, 1) := by decide +kernel
theorem dX0_begin_12 : decode cX0_begin 12 = .ok (.putfield 53, 3) := by decide +kernel
theorem dX0_begin_15 : decode cX0_begin 15 = .ok (.aload_n 0, 1) := by decide +kernel
theorem dX0_begin_16 : decode cX0_begin 16 = .ok (.getfield 9, 3) := by decide +kernel
theorem dX0_begin_19 : decode cX0_begin 19 = .ok (.iconst 0, 1) := by decide +kernel
theorem dX0_begin_20 : decode cX0_begin 20 = .ok (.invokestatic 56, 3) := by decide +kernel
theorem dX0_begin_23 : decode cX0_begin 23 = .ok (.aload_n 0, 1) := by decide +kernel
theorem dX0_begin_24 : decode cX0_begin 24 = .ok (.getfield 15, 3) := by decide +kernel
theorem dX0_begin_27 : decode cX0_begin 27 = .ok (.iconst 0, 1) := by decide +kernel
theorem dX0_begin_28 : decode cX0_begin 28 = .ok (.invokestatic 56, 3) := by decide +kernel
theorem dX0_begin_31 : decode cX0_begin 31 = .ok (.aload_n 0, 1) := by decide +kernel
theorem dX0_begin_32 : decode cX0_begin 32 = .ok (.getfield 18, 3) := by decide +kernel
theorem dX0_begin_35 : decode cX0_begin 35 = .ok (.iconst 0, 1) := by decide +kernel
theorem dX0_begin_36 : decode cX0_begin 36 = .ok (.invokestatic 56, 3) := by decide +kernel
theorem dX0_begin_39 : decode cX0_begin 39 = .ok (.aload_n 0, 1) := by decide +kernel
theorem dX0_begin_40 : decode cX0_begin 40 = .ok (.getfield 21, 3) := by decide +kernel
theorem dX0_begin_43 : decode cX0_begin 43 = .ok (.lconst 0, 1) := by decide +kernel
theorem dX0_begin_44 : decode cX0_begin 44 = .ok (.invokestatic 62, 3) := by decide +kernel
theorem dX0_begin_47 : decode cX0_begin 47 = .ok (.aload_n 0, 1) := by decide +kernel
theorem dX0_begin_48 : decode cX0_begin 48 = .ok (.getfield 25, 3) := by decide +kernel
theorem dX0_begin_51 : decode cX0_begin 51 = .ok (.iconst 0, 1) := by decide +kernel
theorem dX0_begin_52 : decode cX0_begin 52 = .ok (.invokestatic 56, 3) := by decide +kernel
theorem dX0_begin_55 : decode cX0_begin 55 = .ok (.aload_n 0, 1) := by decide +kernel
theorem dX0_begin_56 : decode cX0_begin 56 = .ok (.iconst 0, 1) := by decide +kernel
theorem dX0_begin_57 : decode cX0_begin 57 = .ok (.putfield 65, 3) := by decide +kernel
theorem dX0_begin_60 : decode cX0_begin 60 = .ok (.aload_n 0, 1) := by decide +kernel
theorem dX0_begin_61 : decode cX0_begin 61 = .ok (.iconst 0, 1) := by decide +kernel
theorem dX0_begin_62 : decode cX0_begin 62 = .ok (.putfield 68, 3) := by decide +kernel
theorem dX0_begin_65 : decode cX0_begin 65 = .ok (.aload_n 0, 1) := by decide +kernel
theorem dX0_begin_66 : decode cX0_begin 66 = .ok (.lconst 0, 1) := by decide +kernel
theorem dX0_begin_67 : decode cX0_begin 67 = .ok (.putfield 71, 3) := by decide +kernel
theorem dX0_begin_70 : decode cX0_begin 70 = .ok (.aload_n 0, 1) := by decide +kernel
theorem dX0_begin_71 : decode cX0_begin 71 = .ok (.iconst 0, 1) := by decide +kernel
theorem dX0_begin_72 : decode cX0_begin 72 = .ok (.putfield 75, 3) := by decide +kernel
theorem dX0_begin_75 : decode cX0_begin 75 = .ok (.aload_n 0, 1) := by decide +kernel
theorem dX0_begin_76 : decode cX0_begin 76 = .ok (.iconst 0, 1) := by decide +kernel
theorem dX0_begin_77 : decode cX0_begin 77 = .ok (.putfield 78, 3) := by decide +kernel
theorem dX0_begin_80 : decode cX0_begin 80 = .ok (.aload_n 0, 1) := by decide +kernel
theorem dX0_begin_81 : decode cX0_begin 81 = .ok (.getfield 31, 3) := by decide +kernel
theorem dX0_begin_84 : decode cX0_begin 84 = .ok (.iconst 0, 1) := by decide +kernel
theorem dX0_begin_85 : decode cX0_begin 85 = .ok (.invokestatic 56, 3) := by decide +kernel
theorem dX0_begin_88 : decode cX0_begin 88 = .ok (.aload_n 0, 1) := by decide +kernel
theorem dX0_begin_89 : decode cX0_begin 89 = .ok (.getfield 34, 3) := by decide +kernel
theorem dX0_begin_92 : decode cX0_begin 92 = .ok (.iconst 0, 1) := by decide +kernel
theorem dX0_begin_93 : decode cX0_begin 93 = .ok (.invokestatic 56, 3) := by decide +kernel
theorem dX0_begin_96 : decode cX0_begin 96 = .ok (.return_, 1) := by decide +kernel
theorem dX0_goOneCycle_0 : decode cX0_goOneCycle 0 = .ok (.aload_n 0, 1) := by decide +kernel
theorem dX0_goOneCycle_1 : decode cX0_goOneCycle 1 = .ok (.dup, 1) := by decide +kernel
theorem dX0_goOneCycle_2 : decode cX0_goOneCycle 2 = .ok (.getfield 45, 3) := by decide +kernel
theorem dX0_goOneCycle_5 : decode cX0_goOneCycle 5 = .ok (.iconst 1, 1) := by decide +kernel
theorem dX0_goOneCycle_6 : decode cX0_goOneCycle 6 = .ok (.iadd, 1) := by decide +kernel
theorem dX0_goOneCycle_7 : decode cX0_goOneCycle 7 = .ok (.putfield 45, 3) := by decide +kernel
theorem dX0_goOneCycle_10 : decode cX0_goOneCycle 10 = .ok (.iconst 0, 1) := by decide +kernel
theorem dX0_goOneCycle_11 : decode cX0_goOneCycle 11 = .ok (.istore_n 1, 1) := by decide +kernel
theorem dX0_goOneCycle_12 : decode cX0_goOneCycle 12 = .ok (.iload_n 1, 1) := by decide +kernel
theorem dX0_goOneCycle_13 : decode cX0_goOneCycle 13 = .ok (.aload_n 0, 1) := by decide +kernel
theorem dX0_goOneCycle_14 : decode cX0_goOneCycle 14 = .ok (.getfield 37, 3) := by decide +kernel
theorem dX0_goOneCycle_17 : decode cX0_goOneCycle 17 = .ok (.getfield 81, 3) := by decide +kernel
theorem dX0_goOneCycle_20 : decode cX0_goOneCycle 20 = .ok (.if_icmp .ge 60, 3) := by decide +kernel
theorem dX0_goOneCycle_23 : decode cX0_goOneCycle 23 = .ok (.aload_n 0, 1) := by decide +kernel
theorem dX0_goOneCycle_24 : decode cX0_goOneCycle 24 = .ok (.getfield 41, 3) := by decide +kernel
theorem dX0_goOneCycle_27 : decode cX0_goOneCycle 27 = .ok (.invokevirtual 86, 3) := by decide +kernel
theorem dX0_goOneCycle_30 : decode cX0_goOneCycle 30 = .ok (.ifCond .ne 24, 3) := by decide +kernel
theorem dX0_goOneCycle_33 : decode cX0_goOneCycle 33 = .ok (.aload_n 0, 1) := by decide +kernel
theorem dX0_goOneCycle_34 : decode cX0_goOneCycle 34 = .ok (.aload_n 0, 1) := by decide +kernel
theorem dX0_goOneCycle_35 : decode cX0_goOneCycle 35 = .ok (.getfield 78, 3) := by decide +kernel
theorem dX0_goOneCycle_38 : decode cX0_goOneCycle 38 = .ok (.aload_n 0, 1) := by decide +kernel
theorem dX0_goOneCycle_39 : decode cX0_goOneCycle 39 = .ok (.getfield 45, 3) := by decide +kernel
theorem dX0_goOneCycle_42 : decode cX0_goOneCycle 42 = .ok (.if_icmp .ge 7, 3) := by decide +kernel
theorem dX0_goOneCycle_45 : decode cX0_goOneCycle 45 = .ok (.iconst 1, 1) := by decide +kernel
theorem dX0_goOneCycle_46 : decode cX0_goOneCycle 46 = .ok (.goto 4, 3) := by decide +kernel
theorem dX0_goOneCycle_49 : decode cX0_goOneCycle 49 = .ok (.iconst 0, 1) := by decide +kernel
theorem dX0_goOneCycle_50 : decode cX0_goOneCycle 50 = .ok (.putfield 49, 3) := by decide +kernel
theorem dX0_goOneCycle_53 : decode cX0_goOneCycle 53 = .ok (.return_, 1) := by decide +kernel
theorem dX0_goOneCycle_54 : decode cX0_goOneCycle 54 = .ok (.aload_n 0, 1) := by decide +kernel
theorem dX0_goOneCycle_55 : decode cX0_goOneCycle 55 = .ok (.invokevirtual 92, 3) := by decide +kernel
theorem dX0_goOneCycle_58 : decode cX0_goOneCycle 58 = .ok (.istore_n 2, 1) := by decide +kernel
theorem dX0_goOneCycle_59 : decode cX0_goOneCycle 59 = .ok (.iload_n 2, 1) := by decide +kernel
theorem dX0_goOneCycle_60 : decode cX0_goOneCycle 60 = .ok (.ifCond .eq 14, 3) := by decide +kernel
theorem dX0_goOneCycle_63 : decode cX0_goOneCycle 63 = .ok (.aload_n 0, 1) := by decide +kernel
theorem dX0_goOneCycle_64 : decode cX0_goOneCycle 64 = .ok (.getfield 9, 3) := by decide +kernel
theorem dX0_goOneCycle_67 : decode cX0_goOneCycle 67 = .ok (.iload_n 2, 1) := by decide +kernel
theorem dX0_goOneCycle_68 : decode cX0_goOneCycle 68 = .ok (.dup2, 1) := by decide +kernel
theorem dX0_goOneCycle_69 : decode cX0_goOneCycle 69 = .ok (.iaload, 1) := by decide +kernel
theorem dX0_goOneCycle_70 : decode cX0_goOneCycle 70 = .ok (.iconst 1, 1) := by decide +kernel
theorem dX0_goOneCycle_71 : decode cX0_goOneCycle 71 = .ok (.iadd, 1) := by decide +kernel
theorem dX0_goOneCycle_72 : decode cX0_goOneCycle 72 = .ok (.iastore, 1) := by decide +kernel
theorem dX0_goOneCycle_73 : decode cX0_goOneCycle 73 = .ok (.return_, 1) := by decide +kernel
theorem dX0_goOneCycle_74 : decode cX0_goOneCycle 74 = .ok (.iinc 1 1, 3) := by decide +kernel
theorem dX0_goOneCycle_77 : decode cX0_goOneCycle 77 = .ok (.goto (-65), 3) := by decide +kernel
theorem dX0_goOneCycle_80 : decode cX0_goOneCycle 80 = .ok (.return_, 1) := by decide +kernel
theorem dX0_tryToIssue_0 : decode cX0_tryToIssue 0 = .ok (.aload_n 0, 1) := by decide +kernel
theorem dX0_tryToIssue_1 : decode cX0_tryToIssue 1 = .ok (.getfield 41, 3) := by decide +kernel
theorem dX0_tryToIssue_4 : decode cX0_tryToIssue 4 = .ok (.invokevirtual 86, 3) := by decide +kernel
theorem dX0_tryToIssue_7 : decode cX0_tryToIssue 7 = .ok (.istore_n 1, 1) := by decide +kernel
theorem dX0_tryToIssue_8 : decode cX0_tryToIssue 8 = .ok (.getstatic 95, 3) := by decide +kernel
theorem dX0_tryToIssue_11 : decode cX0_tryToIssue 11 = .ok (.iload_n 1, 1) := by decide +kernel
theorem dX0_tryToIssue_12 : decode cX0_tryToIssue 12 = .ok (.iaload, 1) := by decide +kernel
theorem dX0_tryToIssue_13 : decode cX0_tryToIssue 13 = .ok (.istore_n 2, 1) := by decide +kernel
theorem dX0_tryToIssue_14 : decode cX0_tryToIssue 14 = .ok (.aload_n 0, 1) := by decide +kernel
theorem dX0_tryToIssue_15 : decode cX0_tryToIssue 15 = .ok (.getfield 75, 3) := by decide +kernel
theorem dX0_tryToIssue_18 : decode cX0_tryToIssue 18 = .ok (.aload_n 0, 1) := by decide +kernel
theorem dX0_tryToIssue_19 : decode cX0_tryToIssue 19 = .ok (.getfield 45, 3) := by decide +kernel
theorem dX0_tryToIssue_22 : decode cX0_tryToIssue 22 = .ok (.if_icmp .lt 5, 3) := by decide +kernel
theorem dX0_tryToIssue_25 : decode cX0_tryToIssue 25 = .ok (.iconst 1, 1) := by decide +kernel
theorem dX0_tryToIssue_26 : decode cX0_tryToIssue 26 = .ok (.ireturn, 1) := by decide +kernel
theorem dX0_tryToIssue_27 : decode cX0_tryToIssue 27 = .ok (.aload_n 0, 1) := by decide +kernel
theorem dX0_tryToIssue_28 : decode cX0_tryToIssue 28 = .ok (.iload_n 2, 1) := by decide +kernel
theorem dX0_tryToIssue_29 : decode cX0_tryToIssue 29 = .ok (.invokevirtual 98, 3) := by decide +kernel
theorem dX0_tryToIssue_32 : decode cX0_tryToIssue 32 = .ok (.istore_n 3, 1) := by decide +kernel
theorem dX0_tryToIssue_33 : decode cX0_tryToIssue 33 = .ok (.iload_n 3, 1) := by decide +kernel
theorem dX0_tryToIssue_34 : decode cX0_tryToIssue 34 = .ok (.iconst (-1), 1) := by decide +kernel
theorem dX0_tryToIssue_35 : decode cX0_tryToIssue 35 = .ok (.if_icmp .ne 5, 3) := by decide +kernel
theorem dX0_tryToIssue_38 : decode cX0_tryToIssue 38 = .ok (.iconst 2, 1) := by decide +kernel
theorem dX0_tryToIssue_39 : decode cX0_tryToIssue 39 = .ok (.ireturn, 1) := by decide +kernel
theorem dX0_tryToIssue_40 : decode cX0_tryToIssue 40 = .ok (.iload_n 1, 1) := by decide +kernel
theorem dX0_tryToIssue_41 : decode cX0_tryToIssue 41 = .ok (.invokestatic 102, 3) := by decide +kernel
theorem dX0_tryToIssue_44 : decode cX0_tryToIssue 44 = .ok (.ifCond .eq 32, 3) := by decide +kernel
theorem dX0_tryToIssue_47 : decode cX0_tryToIssue 47 = .ok (.aload_n 0, 1) := by decide +kernel
theorem dX0_tryToIssue_48 : decode cX0_tryToIssue 48 = .ok (.getfield 18, 3) := by decide +kernel
theorem dX0_tryToIssue_51 : decode cX0_tryToIssue 51 = .ok (.aload_n 0, 1) := by decide +kernel
theorem dX0_tryToIssue_52 : decode cX0_tryToIssue 52 = .ok (.getfield 37, 3) := by decide +kernel
theorem dX0_tryToIssue_55 : decode cX0_tryToIssue 55 = .ok (.getfield 106, 3) := by decide +kernel
theorem dX0_tryToIssue_58 : decode cX0_tryToIssue 58 = .ok (.aload_n 0, 1) := by decide +kernel
theorem dX0_tryToIssue_59 : decode cX0_tryToIssue 59 = .ok (.getfield 41, 3) := by decide +kernel
theorem dX0_tryToIssue_62 : decode cX0_tryToIssue 62 = .ok (.getfield 109, 3) := by decide +kernel
theorem dX0_tryToIssue_65 : decode cX0_tryToIssue 65 = .ok (.iaload, 1) := by decide +kernel
theorem dX0_tryToIssue_66 : decode cX0_tryToIssue 66 = .ok (.iaload, 1) := by decide +kernel
theorem dX0_tryToIssue_67 : decode cX0_tryToIssue 67 = .ok (.aload_n 0, 1) := by decide +kernel
theorem dX0_tryToIssue_68 : decode cX0_tryToIssue 68 = .ok (.getfield 45, 3) := by decide +kernel
theorem dX0_tryToIssue_71 : decode cX0_tryToIssue 71 = .ok (.if_icmp .lt 5, 3) := by decide +kernel
theorem dX0_tryToIssue_74 : decode cX0_tryToIssue 74 = .ok (.iconst 3, 1) := by decide +kernel
theorem dX0_tryToIssue_75 : decode cX0_tryToIssue 75 = .ok (.ireturn, 1) := by decide +kernel
theorem dX0_tryToIssue_76 : decode cX0_tryToIssue 76 = .ok (.aload_n 0, 1) := by decide +kernel
theorem dX0_tryToIssue_77 : decode cX0_tryToIssue 77 = .ok (.iload_n 1, 1) := by decide +kernel
theorem dX0_tryToIssue_78 : decode cX0_tryToIssue 78 = .ok (.iload_n 2, 1) := by decide +kernel
theorem dX0_tryToIssue_79 : decode cX0_tryToIssue 79 = .ok (.invokevirtual 112, 3) := by decide +kernel
theorem dX0_tryToIssue_82 : decode cX0_tryToIssue 82 = .ok (.aload_n 0, 1) := by decide +kernel
theorem dX0_tryToIssue_83 : decode cX0_tryToIssue 83 = .ok (.iload_n 2, 1) := by decide +kernel
theorem dX0_tryToIssue_84 : decode cX0_tryToIssue 84 = .ok (.iload_n 3, 1) := by decide +kernel
theorem dX0_tryToIssue_85 : decode cX0_tryToIssue 85 = .ok (.invokestatic 116, 3) := by decide +kernel
theorem dX0_tryToIssue_88 : decode cX0_tryToIssue 88 = .ok (.invokevirtual 120, 3) := by decide +kernel
theorem dX0_tryToIssue_91 : decode cX0_tryToIssue 91 = .ok (.aload_n 0, 1) := by decide +kernel
theorem dX0_tryToIssue_92 : decode cX0_tryToIssue 92 = .ok (.iload_n 1, 1) := by decide +kernel
theorem dX0_tryToIssue_93 : decode cX0_tryToIssue 93 = .ok (.invokevirtual 124, 3) := by decide +kernel
theorem dX0_tryToIssue_96 : decode cX0_tryToIssue 96 = .ok (.aload_n 0, 1) := by decide +kernel
theorem dX0_tryToIssue_97 : decode cX0_tryToIssue 97 = .ok (.iload_n 1, 1) := by decide +kernel
theorem dX0_tryToIssue_98 : decode cX0_tryToIssue 98 = .ok (.iload_n 2, 1) := by decide +kernel
theorem dX0_tryToIssue_99 : decode cX0_tryToIssue 99 = .ok (.invokevirtual 127, 3) := by decide +kernel
theorem dX0_tryToIssue_102 : decode cX0_tryToIssue 102 = .ok (.aload_n 0, 1) := by decide +kernel
theorem dX0_tryToIssue_103 : decode cX0_tryToIssue 103 = .ok (.getfield 41, 3) := by decide +kernel
theorem dX0_tryToIssue_106 : decode cX0_tryToIssue 106 = .ok (.invokevirtual 130, 3) := by decide +kernel
theorem dX0_tryToIssue_109 : decode cX0_tryToIssue 109 = .ok (.aload_n 0, 1) := by decide +kernel
theorem dX0_tryToIssue_110 : decode cX0_tryToIssue 110 = .ok (.dup, 1) := by decide +kernel
theorem dX0_tryToIssue_111 : decode cX0_tryToIssue 111 = .ok (.getfield 53, 3) := by decide +kernel
theorem dX0_tryToIssue_114 : decode cX0_tryToIssue 114 = .ok (.iconst 1, 1) := by decide +kernel
theorem dX0_tryToIssue_115 : decode cX0_tryToIssue 115 = .ok (.iadd, 1) := by decide +kernel
theorem dX0_tryToIssue_116 : decode cX0_tryToIssue 116 = .ok (.putfield 53, 3) := by decide +kernel
theorem dX0_tryToIssue_119 : decode cX0_tryToIssue 119 = .ok (.iconst 0, 1) := by decide +kernel
theorem dX0_tryToIssue_120 : decode cX0_tryToIssue 120 = .ok (.ireturn, 1) := by decide +kernel
theorem dX0_lowestFreeUnit_0 : decode cX0_lowestFreeUnit 0 = .ok (.iconst 0, 1) := by decide +kernel
theorem dX0_lowestFreeUnit_1 : decode cX0_lowestFreeUnit 1 = .ok (.istore_n 2, 1) := by decide +kernel
theorem dX0_lowestFreeUnit_2 : decode cX0_lowestFreeUnit 2 = .ok (.iload_n 2, 1) := by decide +kernel
theorem dX0_lowestFreeUnit_3 : decode cX0_lowestFreeUnit 3 = .ok (.aload_n 0, 1) := by decide +kernel
theorem dX0_lowestFreeUnit_4 : decode cX0_lowestFreeUnit 4 = .ok (.getfield 37, 3) := by decide +kernel
theorem dX0_lowestFreeUnit_7 : decode cX0_lowestFreeUnit 7 = .ok (.getfield 133, 3) := by decide +kernel
theorem dX0_lowestFreeUnit_10 : decode cX0_lowestFreeUnit 10 = .ok (.iload_n 1, 1) := by decide +kernel
theorem dX0_lowestFreeUnit_11 : decode cX0_lowestFreeUnit 11 = .ok (.iaload, 1) := by decide +kernel
theorem dX0_lowestFreeUnit_12 : decode cX0_lowestFreeUnit 12 = .ok (.if_icmp .ge 33, 3) := by decide +kernel
theorem dX0_lowestFreeUnit_15 : decode cX0_lowestFreeUnit 15 = .ok (.aload_n 0, 1) := by decide +kernel
theorem dX0_lowestFreeUnit_16 : decode cX0_lowestFreeUnit 16 = .ok (.getfield 31, 3) := by decide +kernel
theorem dX0_lowestFreeUnit_19 : decode cX0_lowestFreeUnit 19 = .ok (.iload_n 1, 1) := by decide +kernel
theorem dX0_lowestFreeUnit_20 : decode cX0_lowestFreeUnit 20 = .ok (.iload_n 2, 1) := by decide +kernel
theorem dX0_lowestFreeUnit_21 : decode cX0_lowestFreeUnit 21 = .ok (.invokestatic 116, 3) := by decide +kernel
theorem dX0_lowestFreeUnit_24 : decode cX0_lowestFreeUnit 24 = .ok (.bipush 6, 2) := by decide +kernel
theorem dX0_lowestFreeUnit_26 : decode cX0_lowestFreeUnit 26 = .ok (.imul, 1) := by decide +kernel
theorem dX0_lowestFreeUnit_27 : decode cX0_lowestFreeUnit 27 = .ok (.iconst 5, 1) := by decide +kernel
theorem dX0_lowestFreeUnit_28 : decode cX0_lowestFreeUnit 28 = .ok (.iadd, 1) := by decide +kernel
theorem dX0_lowestFreeUnit_29 : decode cX0_lowestFreeUnit 29 = .ok (.iaload, 1) := by decide +kernel
theorem dX0_lowestFreeUnit_30 : decode cX0_lowestFreeUnit 30 = .ok (.aload_n 0, 1) := by decide +kernel
theorem dX0_lowestFreeUnit_31 : decode cX0_lowestFreeUnit 31 = .ok (.getfield 45, 3) := by decide +kernel
theorem dX0_lowestFreeUnit_34 : decode cX0_lowestFreeUnit 34 = .ok (.if_icmp .ge 5, 3) := by decide +kernel
theorem dX0_lowestFreeUnit_37 : decode cX0_lowestFreeUnit 37 = .ok (.iload_n 2, 1) := by decide +kernel
theorem dX0_lowestFreeUnit_38 : decode cX0_lowestFreeUnit 38 = .ok (.ireturn, 1) := by decide +kernel
theorem dX0_lowestFreeUnit_39 : decode cX0_lowestFreeUnit 39 = .ok (.iinc 2 1, 3) := by decide +kernel
theorem dX0_lowestFreeUnit_42 : decode cX0_lowestFreeUnit 42 = .ok (.goto (-40), 3) := by decide +kernel
theorem dX0_lowestFreeUnit_45 : decode cX0_lowestFreeUnit 45 = .ok (.iconst (-1), 1) := by decide +kernel
theorem dX0_lowestFreeUnit_46 : decode cX0_lowestFreeUnit 46 = .ok (.ireturn, 1) := by decide +kernel
theorem dX0_settleCycles_0 : decode cX0_settleCycles 0 = .ok (.aload_n 0, 1) := by decide +kernel
theorem dX0_settleCycles_1 : decode cX0_settleCycles 1 = .ok (.getfield 41, 3) := by decide +kernel
theorem dX0_settleCycles_4 : decode cX0_settleCycles 4 = .ok (.getfield 109, 3) := by decide +kernel
theorem dX0_settleCycles_7 : decode cX0_settleCycles 7 = .ok (.istore_n 3, 1) := by decide +kernel
theorem dX0_settleCycles_8 : decode cX0_settleCycles 8 = .ok (.aload_n 0, 1) := by decide +kernel
theorem dX0_settleCycles_9 : decode cX0_settleCycles 9 = .ok (.getfield 45, 3) := by decide +kernel
theorem dX0_settleCycles_12 : decode cX0_settleCycles 12 = .ok (.istore 4, 2) := by decide +kernel
theorem dX0_settleCycles_14 : decode cX0_settleCycles 14 = .ok (.iload_n 1, 1) := by decide +kernel
theorem dX0_settleCycles_15 : decode cX0_settleCycles 15 = .ok (.invokestatic 136, 3) := by decide +kernel
theorem dX0_settleCycles_18 : decode cX0_settleCycles 18 = .ok (.ifCond .eq 24, 3) := by decide +kernel
theorem dX0_settleCycles_21 : decode cX0_settleCycles 21 = .ok (.iload 4, 2) := by decide +kernel
theorem dX0_settleCycles_23 : decode cX0_settleCycles 23 = .ok (.aload_n 0, 1) := by decide +kernel
theorem dX0_settleCycles_24 : decode cX0_settleCycles 24 = .ok (.getfield 18, 3) := by decide +kernel
theorem dX0_settleCycles_27 : decode cX0_settleCycles 27 = .ok (.aload_n 0, 1) := by decide +kernel
theorem dX0_settleCycles_28 : decode cX0_settleCycles 28 = .ok (.getfield 37, 3) := by decide +kernel
theorem dX0_settleCycles_31 : decode cX0_settleCycles 31 = .ok (.getfield 139, 3) := by decide +kernel
theorem dX0_settleCycles_34 : decode cX0_settleCycles 34 = .ok (.iload_n 3, 1) := by decide +kernel
theorem dX0_settleCycles_35 : decode cX0_settleCycles 35 = .ok (.iaload, 1) := by decide +kernel
theorem dX0_settleCycles_36 : decode cX0_settleCycles 36 = .ok (.iaload, 1) := by decide +kernel
theorem dX0_settleCycles_37 : decode cX0_settleCycles 37 = .ok (.invokestatic 142, 3) := by decide +kernel
theorem dX0_settleCycles_40 : decode cX0_settleCycles 40 = .ok (.istore 4, 2) := by decide +kernel
theorem dX0_settleCycles_42 : decode cX0_settleCycles 42 = .ok (.iload_n 1, 1) := by decide +kernel
theorem dX0_settleCycles_43 : decode cX0_settleCycles 43 = .ok (.invokestatic 147, 3) := by decide +kernel
theorem dX0_settleCycles_46 : decode cX0_settleCycles 46 = .ok (.ifCond .eq 23, 3) := by decide +kernel
theorem dX0_settleCycles_49 : decode cX0_settleCycles 49 = .ok (.iload 4, 2) := by decide +kernel
theorem dX0_settleCycles_51 : decode cX0_settleCycles 51 = .ok (.aload_n 0, 1) := by decide +kernel
theorem dX0_settleCycles_52 : decode cX0_settleCycles 52 = .ok (.getfield 18, 3) := by decide +kernel
theorem dX0_settleCycles_55 : decode cX0_settleCycles 55 = .ok (.aload_n 0, 1) := by decide +kernel
theorem dX0_settleCycles_56 : decode cX0_settleCycles 56 = .ok (.getfield 37, 3) := by decide +kernel
theorem dX0_settleCycles_59 : decode cX0_settleCycles 59 = .ok (.iload_n 3, 1) := by decide +kernel
theorem dX0_settleCycles_60 : decode cX0_settleCycles 60 = .ok (.invokevirtual 150, 3) := by decide +kernel
theorem dX0_settleCycles_63 : decode cX0_settleCycles 63 = .ok (.iaload, 1) := by decide +kernel
theorem dX0_settleCycles_64 : decode cX0_settleCycles 64 = .ok (.invokestatic 142, 3) := by decide +kernel
theorem dX0_settleCycles_67 : decode cX0_settleCycles 67 = .ok (.istore 4, 2) := by decide +kernel
theorem dX0_settleCycles_69 : decode cX0_settleCycles 69 = .ok (.iload_n 1, 1) := by decide +kernel
theorem dX0_settleCycles_70 : decode cX0_settleCycles 70 = .ok (.invokestatic 153, 3) := by decide +kernel
theorem dX0_settleCycles_73 : decode cX0_settleCycles 73 = .ok (.ifCond .eq 24, 3) := by decide +kernel
theorem dX0_settleCycles_76 : decode cX0_settleCycles 76 = .ok (.iload 4, 2) := by decide +kernel
theorem dX0_settleCycles_78 : decode cX0_settleCycles 78 = .ok (.aload_n 0, 1) := by decide +kernel
theorem dX0_settleCycles_79 : decode cX0_settleCycles 79 = .ok (.getfield 18, 3) := by decide +kernel
theorem dX0_settleCycles_82 : decode cX0_settleCycles 82 = .ok (.aload_n 0, 1) := by decide +kernel
theorem dX0_settleCycles_83 : decode cX0_settleCycles 83 = .ok (.getfield 37, 3) := by decide +kernel
theorem dX0_settleCycles_86 : decode cX0_settleCycles 86 = .ok (.getfield 106, 3) := by decide +kernel
theorem dX0_settleCycles_89 : decode cX0_settleCycles 89 = .ok (.iload_n 3, 1) := by decide +kernel
theorem dX0_settleCycles_90 : decode cX0_settleCycles 90 = .ok (.iaload, 1) := by decide +kernel
theorem dX0_settleCycles_91 : decode cX0_settleCycles 91 = .ok (.iaload, 1) := by decide +kernel
theorem dX0_settleCycles_92 : decode cX0_settleCycles 92 = .ok (.invokestatic 142, 3) := by decide +kernel
theorem dX0_settleCycles_95 : decode cX0_settleCycles 95 = .ok (.istore 4, 2) := by decide +kernel
theorem dX0_settleCycles_97 : decode cX0_settleCycles 97 = .ok (.iload 4, 2) := by decide +kernel
theorem dX0_settleCycles_99 : decode cX0_settleCycles 99 = .ok (.iconst 1, 1) := by decide +kernel
theorem dX0_settleCycles_100 : decode cX0_settleCycles 100 = .ok (.iadd, 1) := by decide +kernel
theorem dX0_settleCycles_101 : decode cX0_settleCycles 101 = .ok (.istore 5, 2) := by decide +kernel
theorem dX0_settleCycles_103 : decode cX0_settleCycles 103 = .ok (.iload 5, 2) := by decide +kernel
theorem dX0_settleCycles_105 : decode cX0_settleCycles 105 = .ok (.aload_n 0, 1) := by decide +kernel
theorem dX0_settleCycles_106 : decode cX0_settleCycles 106 = .ok (.getfield 37, 3) := by decide +kernel
theorem dX0_settleCycles_109 : decode cX0_settleCycles 109 = .ok (.getfield 156, 3) := by decide +kernel
theorem dX0_settleCycles_112 : decode cX0_settleCycles 112 = .ok (.iload_n 2, 1) := by decide +kernel
theorem dX0_settleCycles_113 : decode cX0_settleCycles 113 = .ok (.iaload, 1) := by decide +kernel
theorem dX0_settleCycles_114 : decode cX0_settleCycles 114 = .ok (.iadd, 1) := by decide +kernel
theorem dX0_settleCycles_115 : decode cX0_settleCycles 115 = .ok (.istore 6, 2) := by decide +kernel
theorem dX0_settleCycles_117 : decode cX0_settleCycles 117 = .ok (.iload 6, 2) := by decide +kernel
theorem dX0_settleCycles_119 : decode cX0_settleCycles 119 = .ok (.iconst 1, 1) := by decide +kernel
theorem dX0_settleCycles_120 : decode cX0_settleCycles 120 = .ok (.iadd, 1) := by decide +kernel
theorem dX0_settleCycles_121 : decode cX0_settleCycles 121 = .ok (.istore 7, 2) := by decide +kernel
theorem dX0_settleCycles_123 : decode cX0_settleCycles 123 = .ok (.iload_n 1, 1) := by decide +kernel
theorem dX0_settleCycles_124 : decode cX0_settleCycles 124 = .ok (.invokestatic 102, 3) := by decide +kernel
theorem dX0_settleCycles_127 : decode cX0_settleCycles 127 = .ok (.ifCond .eq 26, 3) := by decide +kernel
theorem dX0_settleCycles_130 : decode cX0_settleCycles 130 = .ok (.iload 7, 2) := by decide +kernel
theorem dX0_settleCycles_132 : decode cX0_settleCycles 132 = .ok (.aload_n 0, 1) := by decide +kernel
theorem dX0_settleCycles_133 : decode cX0_settleCycles 133 = .ok (.getfield 25, 3) := by decide +kernel
theorem dX0_settleCycles_136 : decode cX0_settleCycles 136 = .ok (.aload_n 0, 1) := by decide +kernel
theorem dX0_settleCycles_137 : decode cX0_settleCycles 137 = .ok (.getfield 37, 3) := by decide +kernel
theorem dX0_settleCycles_140 : decode cX0_settleCycles 140 = .ok (.getfield 106, 3) := by decide +kernel
theorem dX0_settleCycles_143 : decode cX0_settleCycles 143 = .ok (.iload_n 3, 1) := by decide +kernel
theorem dX0_settleCycles_144 : decode cX0_settleCycles 144 = .ok (.iaload, 1) := by decide +kernel
theorem dX0_settleCycles_145 : decode cX0_settleCycles 145 = .ok (.iaload, 1) := by decide +kernel
theorem dX0_settleCycles_146 : decode cX0_settleCycles 146 = .ok (.iconst 1, 1) := by decide +kernel
theorem dX0_settleCycles_147 : decode cX0_settleCycles 147 = .ok (.iadd, 1) := by decide +kernel
theorem dX0_settleCycles_148 : decode cX0_settleCycles 148 = .ok (.invokestatic 142, 3) := by decide +kernel
theorem dX0_settleCycles_151 : decode cX0_settleCycles 151 = .ok (.istore 7, 2) := by decide +kernel
theorem dX0_settleCycles_153 : decode cX0_settleCycles 153 = .ok (.aload_n 0, 1) := by decide +kernel
theorem dX0_settleCycles_154 : decode cX0_settleCycles 154 = .ok (.getfield 28, 3) := by decide +kernel
theorem dX0_settleCycles_157 : decode cX0_settleCycles 157 = .ok (.iconst 0, 1) := by decide +kernel
theorem dX0_settleCycles_158 : decode cX0_settleCycles 158 = .ok (.iload_n 3, 1) := by decide +kernel
theorem dX0_settleCycles_159 : decode cX0_settleCycles 159 = .ok (.iastore, 1) := by decide +kernel
theorem dX0_settleCycles_160 : decode cX0_settleCycles 160 = .ok (.aload_n 0, 1) := by decide +kernel
theorem dX0_settleCycles_161 : decode cX0_settleCycles 161 = .ok (.getfield 28, 3) := by decide +kernel
theorem dX0_settleCycles_164 : decode cX0_settleCycles 164 = .ok (.iconst 1, 1) := by decide +kernel
theorem dX0_settleCycles_165 : decode cX0_settleCycles 165 = .ok (.aload_n 0, 1) := by decide +kernel
theorem dX0_settleCycles_166 : decode cX0_settleCycles 166 = .ok (.getfield 53, 3) := by decide +kernel
theorem dX0_settleCycles_169 : decode cX0_settleCycles 169 = .ok (.iastore, 1) := by decide +kernel
theorem dX0_settleCycles_170 : decode cX0_settleCycles 170 = .ok (.aload_n 0, 1) := by decide +kernel
theorem dX0_settleCycles_171 : decode cX0_settleCycles 171 = .ok (.getfield 28, 3) := by decide +kernel
theorem dX0_settleCycles_174 : decode cX0_settleCycles 174 = .ok (.iconst 2, 1) := by decide +kernel
theorem dX0_settleCycles_175 : decode cX0_settleCycles 175 = .ok (.aload_n 0, 1) := by decide +kernel
theorem dX0_settleCycles_176 : decode cX0_settleCycles 176 = .ok (.getfield 45, 3) := by decide +kernel
theorem dX0_settleCycles_179 : decode cX0_settleCycles 179 = .ok (.iastore, 1) := by decide +kernel
theorem dX0_settleCycles_180 : decode cX0_settleCycles 180 = .ok (.aload_n 0, 1) := by decide +kernel
theorem dX0_settleCycles_181 : decode cX0_settleCycles 181 = .ok (.getfield 28, 3) := by decide +kernel
theorem dX0_settleCycles_184 : decode cX0_settleCycles 184 = .ok (.iconst 3, 1) := by decide +kernel
theorem dX0_settleCycles_185 : decode cX0_settleCycles 185 = .ok (.iload 5, 2) := by decide +kernel
theorem dX0_settleCycles_187 : decode cX0_settleCycles 187 = .ok (.iastore, 1) := by decide +kernel
theorem dX0_settleCycles_188 : decode cX0_settleCycles 188 = .ok (.aload_n 0, 1) := by decide +kernel
theorem dX0_settleCycles_189 : decode cX0_settleCycles 189 = .ok (.getfield 28, 3) := by decide +kernel
theorem dX0_settleCycles_192 : decode cX0_settleCycles 192 = .ok (.iconst 4, 1) := by decide +kernel
theorem dX0_settleCycles_193 : decode cX0_settleCycles 193 = .ok (.iload 6, 2) := by decide +kernel
theorem dX0_settleCycles_195 : decode cX0_settleCycles 195 = .ok (.iastore, 1) := by decide +kernel
theorem dX0_settleCycles_196 : decode cX0_settleCycles 196 = .ok (.aload_n 0, 1) := by decide +kernel
theorem dX0_settleCycles_197 : decode cX0_settleCycles 197 = .ok (.getfield 28, 3) := by decide +kernel
theorem dX0_settleCycles_200 : decode cX0_settleCycles 200 = .ok (.iconst 5, 1) := by decide +kernel
theorem dX0_settleCycles_201 : decode cX0_settleCycles 201 = .ok (.iload 7, 2) := by decide +kernel
theorem dX0_settleCycles_203 : decode cX0_settleCycles 203 = .ok (.iastore, 1) := by decide +kernel
theorem dX0_settleCycles_204 : decode cX0_settleCycles 204 = .ok (.return_, 1) := by decide +kernel
theorem dX0_keepRow_0 : decode cX0_keepRow 0 = .ok (.aload_n 0, 1) := by decide +kernel
theorem dX0_keepRow_1 : decode cX0_keepRow 1 = .ok (.getfield 28, 3) := by decide +kernel
theorem dX0_keepRow_4 : decode cX0_keepRow 4 = .ok (.iconst 0, 1) := by decide +kernel
theorem dX0_keepRow_5 : decode cX0_keepRow 5 = .ok (.aload_n 0, 1) := by decide +kernel
theorem dX0_keepRow_6 : decode cX0_keepRow 6 = .ok (.getfield 31, 3) := by decide +kernel
theorem dX0_keepRow_9 : decode cX0_keepRow 9 = .ok (.iload_n 1, 1) := by decide +kernel
theorem dX0_keepRow_10 : decode cX0_keepRow 10 = .ok (.bipush 6, 2) := by decide +kernel
theorem dX0_keepRow_12 : decode cX0_keepRow 12 = .ok (.imul, 1) := by decide +kernel
theorem dX0_keepRow_13 : decode cX0_keepRow 13 = .ok (.bipush 6, 2) := by decide +kernel
theorem dX0_keepRow_15 : decode cX0_keepRow 15 = .ok (.invokestatic 159, 3) := by decide +kernel
theorem dX0_keepRow_18 : decode cX0_keepRow 18 = .ok (.aload_n 0, 1) := by decide +kernel
theorem dX0_keepRow_19 : decode cX0_keepRow 19 = .ok (.getfield 28, 3) := by decide +kernel
theorem dX0_keepRow_22 : decode cX0_keepRow 22 = .ok (.iconst 0, 1) := by decide +kernel
theorem dX0_keepRow_23 : decode cX0_keepRow 23 = .ok (.aload_n 0, 1) := by decide +kernel
theorem dX0_keepRow_24 : decode cX0_keepRow 24 = .ok (.getfield 34, 3) := by decide +kernel
theorem dX0_keepRow_27 : decode cX0_keepRow 27 = .ok (.aload_n 0, 1) := by decide +kernel
theorem dX0_keepRow_28 : decode cX0_keepRow 28 = .ok (.getfield 53, 3) := by decide +kernel
theorem dX0_keepRow_31 : decode cX0_keepRow 31 = .ok (.invokestatic 165, 3) := by decide +kernel
theorem dX0_keepRow_34 : decode cX0_keepRow 34 = .ok (.bipush 6, 2) := by decide +kernel
theorem dX0_keepRow_36 : decode cX0_keepRow 36 = .ok (.invokestatic 159, 3) := by decide +kernel
theorem dX0_keepRow_39 : decode cX0_keepRow 39 = .ok (.return_, 1) := by decide +kernel
theorem dX0_issuedStart_0 : decode cX0_issuedStart 0 = .ok (.iload_n 0, 1) := by decide +kernel
theorem dX0_issuedStart_1 : decode cX0_issuedStart 1 = .ok (.bipush 63, 2) := by decide +kernel
theorem dX0_issuedStart_3 : decode cX0_issuedStart 3 = .ok (.iand, 1) := by decide +kernel
theorem dX0_issuedStart_4 : decode cX0_issuedStart 4 = .ok (.bipush 6, 2) := by decide +kernel
theorem dX0_issuedStart_6 : decode cX0_issuedStart 6 = .ok (.imul, 1) := by decide +kernel
theorem dX0_issuedStart_7 : decode cX0_issuedStart 7 = .ok (.ireturn, 1) := by decide +kernel
theorem dX0_noteReading_0 : decode cX0_noteReading 0 = .ok (.aload_n 0, 1) := by decide +kernel
theorem dX0_noteReading_1 : decode cX0_noteReading 1 = .ok (.getfield 41, 3) := by decide +kernel
theorem dX0_noteReading_4 : decode cX0_noteReading 4 = .ok (.getfield 109, 3) := by decide +kernel
theorem dX0_noteReading_7 : decode cX0_noteReading 7 = .ok (.istore_n 2, 1) := by decide +kernel
theorem dX0_noteReading_8 : decode cX0_noteReading 8 = .ok (.iload_n 1, 1) := by decide +kernel
theorem dX0_noteReading_9 : decode cX0_noteReading 9 = .ok (.invokestatic 136, 3) := by decide +kernel
theorem dX0_noteReading_12 : decode cX0_noteReading 12 = .ok (.ifCond .eq 16, 3) := by decide +kernel
theorem dX0_noteReading_15 : decode cX0_noteReading 15 = .ok (.aload_n 0, 1) := by decide +kernel
theorem dX0_noteReading_16 : decode cX0_noteReading 16 = .ok (.aload_n 0, 1) := by decide +kernel
theorem dX0_noteReading_17 : decode cX0_noteReading 17 = .ok (.getfield 37, 3) := by decide +kernel
theorem dX0_noteReading_20 : decode cX0_noteReading 20 = .ok (.getfield 139, 3) := by decide +kernel
theorem dX0_noteReading_23 : decode cX0_noteReading 23 = .ok (.iload_n 2, 1) := by decide +kernel
theorem dX0_noteReading_24 : decode cX0_noteReading 24 = .ok (.iaload, 1) := by decide +kernel
theorem dX0_noteReading_25 : decode cX0_noteReading 25 = .ok (.invokevirtual 168, 3) := by decide +kernel
theorem dX0_noteReading_28 : decode cX0_noteReading 28 = .ok (.iload_n 1, 1) := by decide +kernel
theorem dX0_noteReading_29 : decode cX0_noteReading 29 = .ok (.invokestatic 147, 3) := by decide +kernel
theorem dX0_noteReading_32 : decode cX0_noteReading 32 = .ok (.ifCond .eq 15, 3) := by decide +kernel
theorem dX0_noteReading_35 : decode cX0_noteReading 35 = .ok (.aload_n 0, 1) := by decide +kernel
theorem dX0_noteReading_36 : decode cX0_noteReading 36 = .ok (.aload_n 0, 1) := by decide +kernel
theorem dX0_noteReading_37 : decode cX0_noteReading 37 = .ok (.getfield 37, 3) := by decide +kernel
theorem dX0_noteReading_40 : decode cX0_noteReading 40 = .ok (.iload_n 2, 1) := by decide +kernel
theorem dX0_noteReading_41 : decode cX0_noteReading 41 = .ok (.invokevirtual 150, 3) := by decide +kernel
theorem dX0_noteReading_44 : decode cX0_noteReading 44 = .ok (.invokevirtual 168, 3) := by decide +kernel
theorem dX0_noteReading_47 : decode cX0_noteReading 47 = .ok (.iload_n 1, 1) := by decide +kernel
theorem dX0_noteReading_48 : decode cX0_noteReading 48 = .ok (.invokestatic 153, 3) := by decide +kernel
theorem dX0_noteReading_51 : decode cX0_noteReading 51 = .ok (.ifCond .eq 16, 3) := by decide +kernel
theorem dX0_noteReading_54 : decode cX0_noteReading 54 = .ok (.aload_n 0, 1) := by decide +kernel
theorem dX0_noteReading_55 : decode cX0_noteReading 55 = .ok (.aload_n 0, 1) := by decide +kernel
theorem dX0_noteReading_56 : decode cX0_noteReading 56 = .ok (.getfield 37, 3) := by decide +kernel
theorem dX0_noteReading_59 : decode cX0_noteReading 59 = .ok (.getfield 106, 3) := by decide +kernel
theorem dX0_noteReading_62 : decode cX0_noteReading 62 = .ok (.iload_n 2, 1) := by decide +kernel
theorem dX0_noteReading_63 : decode cX0_noteReading 63 = .ok (.iaload, 1) := by decide +kernel
theorem dX0_noteReading_64 : decode cX0_noteReading 64 = .ok (.invokevirtual 168, 3) := by decide +kernel
theorem dX0_noteReading_67 : decode cX0_noteReading 67 = .ok (.return_, 1) := by decide +kernel
theorem dX0_noteReader_0 : decode cX0_noteReader 0 = .ok (.aload_n 0, 1) := by decide +kernel
theorem dX0_noteReader_1 : decode cX0_noteReader 1 = .ok (.getfield 25, 3) := by decide +kernel
theorem dX0_noteReader_4 : decode cX0_noteReader 4 = .ok (.iload_n 1, 1) := by decide +kernel
theorem dX0_noteReader_5 : decode cX0_noteReader 5 = .ok (.aload_n 0, 1) := by decide +kernel
theorem dX0_noteReader_6 : decode cX0_noteReader 6 = .ok (.getfield 25, 3) := by decide +kernel
theorem dX0_noteReader_9 : decode cX0_noteReader 9 = .ok (.iload_n 1, 1) := by decide +kernel
theorem dX0_noteReader_10 : decode cX0_noteReader 10 = .ok (.iaload, 1) := by decide +kernel
theorem dX0_noteReader_11 : decode cX0_noteReader 11 = .ok (.aload_n 0, 1) := by decide +kernel
theorem dX0_noteReader_12 : decode cX0_noteReader 12 = .ok (.getfield 28, 3) := by decide +kernel
theorem dX0_noteReader_15 : decode cX0_noteReader 15 = .ok (.iconst 3, 1) := by decide +kernel
theorem dX0_noteReader_16 : decode cX0_noteReader 16 = .ok (.iaload, 1) := by decide +kernel
theorem dX0_noteReader_17 : decode cX0_noteReader 17 = .ok (.invokestatic 142, 3) := by decide +kernel
theorem dX0_noteReader_20 : decode cX0_noteReader 20 = .ok (.iastore, 1) := by decide +kernel
theorem dX0_noteReader_21 : decode cX0_noteReader 21 = .ok (.return_, 1) := by decide +kernel
theorem dX0_noteWriting_0 : decode cX0_noteWriting 0 = .ok (.aload_n 0, 1) := by decide +kernel
theorem dX0_noteWriting_1 : decode cX0_noteWriting 1 = .ok (.getfield 28, 3) := by decide +kernel
theorem dX0_noteWriting_4 : decode cX0_noteWriting 4 = .ok (.iconst 5, 1) := by decide +kernel
theorem dX0_noteWriting_5 : decode cX0_noteWriting 5 = .ok (.iaload, 1) := by decide +kernel
theorem dX0_noteWriting_6 : decode cX0_noteWriting 6 = .ok (.istore_n 3, 1) := by decide +kernel
theorem dX0_noteWriting_7 : decode cX0_noteWriting 7 = .ok (.aload_n 0, 1) := by decide +kernel
theorem dX0_noteWriting_8 : decode cX0_noteWriting 8 = .ok (.aload_n 0, 1) := by decide +kernel
theorem dX0_noteWriting_9 : decode cX0_noteWriting 9 = .ok (.getfield 78, 3) := by decide +kernel
theorem dX0_noteWriting_12 : decode cX0_noteWriting 12 = .ok (.iload_n 3, 1) := by decide +kernel
theorem dX0_noteWriting_13 : decode cX0_noteWriting 13 = .ok (.invokestatic 142, 3) := by decide +kernel
theorem dX0_noteWriting_16 : decode cX0_noteWriting 16 = .ok (.putfield 78, 3) := by decide +kernel
theorem dX0_noteWriting_19 : decode cX0_noteWriting 19 = .ok (.iload_n 2, 1) := by decide +kernel
theorem dX0_noteWriting_20 : decode cX0_noteWriting 20 = .ok (.iconst 5, 1) := by decide +kernel
theorem dX0_noteWriting_21 : decode cX0_noteWriting 21 = .ok (.if_icmp .ne 11, 3) := by decide +kernel
theorem dX0_noteWriting_24 : decode cX0_noteWriting 24 = .ok (.aload_n 0, 1) := by decide +kernel
theorem dX0_noteWriting_25 : decode cX0_noteWriting 25 = .ok (.iload_n 3, 1) := by decide +kernel
theorem dX0_noteWriting_26 : decode cX0_noteWriting 26 = .ok (.putfield 75, 3) := by decide +kernel
theorem dX0_noteWriting_29 : decode cX0_noteWriting 29 = .ok (.goto 97, 3) := by decide +kernel
theorem dX0_noteWriting_32 : decode cX0_noteWriting 32 = .ok (.iload_n 1, 1) := by decide +kernel
theorem dX0_noteWriting_33 : decode cX0_noteWriting 33 = .ok (.bipush 15, 2) := by decide +kernel
theorem dX0_noteWriting_35 : decode cX0_noteWriting 35 = .ok (.if_icmp .ne 38, 3) := by decide +kernel
theorem dX0_noteWriting_38 : decode cX0_noteWriting 38 = .ok (.aload_n 0, 1) := by decide +kernel
theorem dX0_noteWriting_39 : decode cX0_noteWriting 39 = .ok (.aload_n 0, 1) := by decide +kernel
theorem dX0_noteWriting_40 : decode cX0_noteWriting 40 = .ok (.getfield 41, 3) := by decide +kernel
theorem dX0_noteWriting_43 : decode cX0_noteWriting 43 = .ok (.invokevirtual 171, 3) := by decide +kernel
theorem dX0_noteWriting_46 : decode cX0_noteWriting 46 = .ok (.putfield 65, 3) := by decide +kernel
theorem dX0_noteWriting_49 : decode cX0_noteWriting 49 = .ok (.aload_n 0, 1) := by decide +kernel
theorem dX0_noteWriting_50 : decode cX0_noteWriting 50 = .ok (.iload_n 3, 1) := by decide +kernel
theorem dX0_noteWriting_51 : decode cX0_noteWriting 51 = .ok (.putfield 68, 3) := by decide +kernel
theorem dX0_noteWriting_54 : decode cX0_noteWriting 54 = .ok (.aload_n 0, 1) := by decide +kernel
theorem dX0_noteWriting_55 : decode cX0_noteWriting 55 = .ok (.aload_n 0, 1) := by decide +kernel
theorem dX0_noteWriting_56 : decode cX0_noteWriting 56 = .ok (.getfield 41, 3) := by decide +kernel
theorem dX0_noteWriting_59 : decode cX0_noteWriting 59 = .ok (.getfield 174, 3) := by decide +kernel
theorem dX0_noteWriting_62 : decode cX0_noteWriting 62 = .ok (.aload_n 0, 1) := by decide +kernel
theorem dX0_noteWriting_63 : decode cX0_noteWriting 63 = .ok (.getfield 65, 3) := by decide +kernel
theorem dX0_noteWriting_66 : decode cX0_noteWriting 66 = .ok (.laload, 1) := by decide +kernel
theorem dX0_noteWriting_67 : decode cX0_noteWriting 67 = .ok (.putfield 71, 3) := by decide +kernel
theorem dX0_noteWriting_70 : decode cX0_noteWriting 70 = .ok (.goto 56, 3) := by decide +kernel
theorem dX0_noteWriting_73 : decode cX0_noteWriting 73 = .ok (.aload_n 0, 1) := by decide +kernel
theorem dX0_noteWriting_74 : decode cX0_noteWriting 74 = .ok (.getfield 37, 3) := by decide +kernel
theorem dX0_noteWriting_77 : decode cX0_noteWriting 77 = .ok (.getfield 106, 3) := by decide +kernel
theorem dX0_noteWriting_80 : decode cX0_noteWriting 80 = .ok (.aload_n 0, 1) := by decide +kernel
theorem dX0_noteWriting_81 : decode cX0_noteWriting 81 = .ok (.getfield 41, 3) := by decide +kernel
theorem dX0_noteWriting_84 : decode cX0_noteWriting 84 = .ok (.getfield 109, 3) := by decide +kernel
theorem dX0_noteWriting_87 : decode cX0_noteWriting 87 = .ok (.iaload, 1) := by decide +kernel
theorem dX0_noteWriting_88 : decode cX0_noteWriting 88 = .ok (.istore 4, 2) := by decide +kernel
theorem dX0_noteWriting_90 : decode cX0_noteWriting 90 = .ok (.aload_n 0, 1) := by decide +kernel
theorem dX0_noteWriting_91 : decode cX0_noteWriting 91 = .ok (.getfield 15, 3) := by decide +kernel
theorem dX0_noteWriting_94 : decode cX0_noteWriting 94 = .ok (.iload 4, 2) := by decide +kernel
theorem dX0_noteWriting_96 : decode cX0_noteWriting 96 = .ok (.aload_n 0, 1) := by decide +kernel
theorem dX0_noteWriting_97 : decode cX0_noteWriting 97 = .ok (.getfield 53, 3) := by decide +kernel
theorem dX0_noteWriting_100 : decode cX0_noteWriting 100 = .ok (.iastore, 1) := by decide +kernel
theorem dX0_noteWriting_101 : decode cX0_noteWriting 101 = .ok (.aload_n 0, 1) := by decide +kernel
theorem dX0_noteWriting_102 : decode cX0_noteWriting 102 = .ok (.getfield 18, 3) := by decide +kernel
theorem dX0_noteWriting_105 : decode cX0_noteWriting 105 = .ok (.iload 4, 2) := by decide +kernel
theorem dX0_noteWriting_107 : decode cX0_noteWriting 107 = .ok (.iload_n 3, 1) := by decide +kernel
theorem dX0_noteWriting_108 : decode cX0_noteWriting 108 = .ok (.iastore, 1) := by decide +kernel
theorem dX0_noteWriting_109 : decode cX0_noteWriting 109 = .ok (.aload_n 0, 1) := by decide +kernel
theorem dX0_noteWriting_110 : decode cX0_noteWriting 110 = .ok (.getfield 21, 3) := by decide +kernel
theorem dX0_noteWriting_113 : decode cX0_noteWriting 113 = .ok (.iload 4, 2) := by decide +kernel
theorem dX0_noteWriting_115 : decode cX0_noteWriting 115 = .ok (.aload_n 0, 1) := by decide +kernel
theorem dX0_noteWriting_116 : decode cX0_noteWriting 116 = .ok (.getfield 41, 3) := by decide +kernel
theorem dX0_noteWriting_119 : decode cX0_noteWriting 119 = .ok (.getfield 177, 3) := by decide +kernel
theorem dX0_noteWriting_122 : decode cX0_noteWriting 122 = .ok (.iload 4, 2) := by decide +kernel
theorem dX0_noteWriting_124 : decode cX0_noteWriting 124 = .ok (.laload, 1) := by decide +kernel
theorem dX0_noteWriting_125 : decode cX0_noteWriting 125 = .ok (.lastore, 1) := by decide +kernel
theorem dX0_noteWriting_126 : decode cX0_noteWriting 126 = .ok (.return_, 1) := by decide +kernel
theorem dX0_notWritten_0 : decode cX0_notWritten 0 = .ok (.iconst 0, 1) := by decide +kernel
theorem dX0_notWritten_1 : decode cX0_notWritten 1 = .ok (.istore_n 1, 1) := by decide +kernel
theorem dX0_notWritten_2 : decode cX0_notWritten 2 = .ok (.iconst 5, 1) := by decide +kernel
theorem dX0_notWritten_3 : decode cX0_notWritten 3 = .ok (.istore_n 2, 1) := by decide +kernel
theorem dX0_notWritten_4 : decode cX0_notWritten 4 = .ok (.iload_n 2, 1) := by decide +kernel
theorem dX0_notWritten_5 : decode cX0_notWritten 5 = .ok (.aload_n 0, 1) := by decide +kernel
theorem dX0_notWritten_6 : decode cX0_notWritten 6 = .ok (.getfield 31, 3) := by decide +kernel
theorem dX0_notWritten_9 : decode cX0_notWritten 9 = .ok (.arraylength, 1) := by decide +kernel
theorem dX0_notWritten_10 : decode cX0_notWritten 10 = .ok (.if_icmp .ge 25, 3) := by decide +kernel
theorem dX0_notWritten_13 : decode cX0_notWritten 13 = .ok (.aload_n 0, 1) := by decide +kernel
theorem dX0_notWritten_14 : decode cX0_notWritten 14 = .ok (.getfield 31, 3) := by decide +kernel
theorem dX0_notWritten_17 : decode cX0_notWritten 17 = .ok (.iload_n 2, 1) := by decide +kernel
theorem dX0_notWritten_18 : decode cX0_notWritten 18 = .ok (.iaload, 1) := by decide +kernel
theorem dX0_notWritten_19 : decode cX0_notWritten 19 = .ok (.aload_n 0, 1) := by decide +kernel
theorem dX0_notWritten_20 : decode cX0_notWritten 20 = .ok (.getfield 45, 3) := by decide +kernel
theorem dX0_notWritten_23 : decode cX0_notWritten 23 = .ok (.if_icmp .le 6, 3) := by decide +kernel
theorem dX0_notWritten_26 : decode cX0_notWritten 26 = .ok (.iinc 1 1, 3) := by decide +kernel
theorem dX0_notWritten_29 : decode cX0_notWritten 29 = .ok (.iinc 2 6, 3) := by decide +kernel
theorem dX0_notWritten_32 : decode cX0_notWritten 32 = .ok (.goto (-28), 3) := by decide +kernel
theorem dX0_notWritten_35 : decode cX0_notWritten 35 = .ok (.iload_n 1, 1) := by decide +kernel
theorem dX0_notWritten_36 : decode cX0_notWritten 36 = .ok (.ireturn, 1) := by decide +kernel
theorem dX0_registerNow_0 : decode cX0_registerNow 0 = .ok (.aload_n 0, 1) := by decide +kernel
theorem dX0_registerNow_1 : decode cX0_registerNow 1 = .ok (.getfield 18, 3) := by decide +kernel
theorem dX0_registerNow_4 : decode cX0_registerNow 4 = .ok (.iload_n 1, 1) := by decide +kernel
theorem dX0_registerNow_5 : decode cX0_registerNow 5 = .ok (.iaload, 1) := by decide +kernel
theorem dX0_registerNow_6 : decode cX0_registerNow 6 = .ok (.aload_n 0, 1) := by decide +kernel
theorem dX0_registerNow_7 : decode cX0_registerNow 7 = .ok (.getfield 45, 3) := by decide +kernel
theorem dX0_registerNow_10 : decode cX0_registerNow 10 = .ok (.if_icmp .le 12, 3) := by decide +kernel
theorem dX0_registerNow_13 : decode cX0_registerNow 13 = .ok (.aload_n 0, 1) := by decide +kernel
theorem dX0_registerNow_14 : decode cX0_registerNow 14 = .ok (.getfield 21, 3) := by decide +kernel
theorem dX0_registerNow_17 : decode cX0_registerNow 17 = .ok (.iload_n 1, 1) := by decide +kernel
theorem dX0_registerNow_18 : decode cX0_registerNow 18 = .ok (.laload, 1) := by decide +kernel
theorem dX0_registerNow_19 : decode cX0_registerNow 19 = .ok (.goto 12, 3) := by decide +kernel
theorem dX0_registerNow_22 : decode cX0_registerNow 22 = .ok (.aload_n 0, 1) := by decide +kernel
theorem dX0_registerNow_23 : decode cX0_registerNow 23 = .ok (.getfield 41, 3) := by decide +kernel
theorem dX0_registerNow_26 : decode cX0_registerNow 26 = .ok (.getfield 177, 3) := by decide +kernel
theorem dX0_registerNow_29 : decode cX0_registerNow 29 = .ok (.iload_n 1, 1) := by decide +kernel
theorem dX0_registerNow_30 : decode cX0_registerNow 30 = .ok (.laload, 1) := by decide +kernel
theorem dX0_registerNow_31 : decode cX0_registerNow 31 = .ok (.lreturn, 1) := by decide +kernel
theorem dX0_memoryNow_0 : decode cX0_memoryNow 0 = .ok (.iload_n 1, 1) := by decide +kernel
theorem dX0_memoryNow_1 : decode cX0_memoryNow 1 = .ok (.aload_n 0, 1) := by decide +kernel
theorem dX0_memoryNow_2 : decode cX0_memoryNow 2 = .ok (.getfield 65, 3) := by decide +kernel
theorem dX0_memoryNow_5 : decode cX0_memoryNow 5 = .ok (.if_icmp .ne 21, 3) := by decide +kernel
theorem dX0_memoryNow_8 : decode cX0_memoryNow 8 = .ok (.aload_n 0, 1) := by decide +kernel
theorem dX0_memoryNow_9 : decode cX0_memoryNow 9 = .ok (.getfield 68, 3) := by decide +kernel
theorem dX0_memoryNow_12 : decode cX0_memoryNow 12 = .ok (.aload_n 0, 1) := by decide +kernel
theorem dX0_memoryNow_13 : decode cX0_memoryNow 13 = .ok (.getfield 45, 3) := by decide +kernel
theorem dX0_memoryNow_16 : decode cX0_memoryNow 16 = .ok (.if_icmp .le 10, 3) := by decide +kernel
theorem dX0_memoryNow_19 : decode cX0_memoryNow 19 = .ok (.aload_n 0, 1) := by decide +kernel
theorem dX0_memoryNow_20 : decode cX0_memoryNow 20 = .ok (.getfield 71, 3) := by decide +kernel
theorem dX0_memoryNow_23 : decode cX0_memoryNow 23 = .ok (.goto 12, 3) := by decide +kernel
theorem dX0_memoryNow_26 : decode cX0_memoryNow 26 = .ok (.aload_n 0, 1) := by decide +kernel
theorem dX0_memoryNow_27 : decode cX0_memoryNow 27 = .ok (.getfield 41, 3) := by decide +kernel
theorem dX0_memoryNow_30 : decode cX0_memoryNow 30 = .ok (.getfield 174, 3) := by decide +kernel
theorem dX0_memoryNow_33 : decode cX0_memoryNow 33 = .ok (.iload_n 1, 1) := by decide +kernel
theorem dX0_memoryNow_34 : decode cX0_memoryNow 34 = .ok (.laload, 1) := by decide +kernel
theorem dX0_memoryNow_35 : decode cX0_memoryNow 35 = .ok (.lreturn, 1) := by decide +kernel
theorem dX0_tellUnit_0 : decode cX0_tellUnit 0 = .ok (.iload_n 1, 1) := by decide +kernel
theorem dX0_tellUnit_1 : decode cX0_tellUnit 1 = .ok (.bipush 6, 2) := by decide +kernel
theorem dX0_tellUnit_3 : decode cX0_tellUnit 3 = .ok (.imul, 1) := by decide +kernel
theorem dX0_tellUnit_4 : decode cX0_tellUnit 4 = .ok (.istore_n 3, 1) := by decide +kernel
theorem dX0_tellUnit_5 : decode cX0_tellUnit 5 = .ok (.aload_n 0, 1) := by decide +kernel
theorem dX0_tellUnit_6 : decode cX0_tellUnit 6 = .ok (.getfield 31, 3) := by decide +kernel
theorem dX0_tellUnit_9 : decode cX0_tellUnit 9 = .ok (.iload_n 3, 1) := by decide +kernel
theorem dX0_tellUnit_10 : decode cX0_tellUnit 10 = .ok (.iconst 5, 1) := by decide +kernel
theorem dX0_tellUnit_11 : decode cX0_tellUnit 11 = .ok (.iadd, 1) := by decide +kernel
theorem dX0_tellUnit_12 : decode cX0_tellUnit 12 = .ok (.iaload, 1) := by decide +kernel
theorem dX0_tellUnit_13 : decode cX0_tellUnit 13 = .ok (.aload_n 0, 1) := by decide +kernel
theorem dX0_tellUnit_14 : decode cX0_tellUnit 14 = .ok (.getfield 45, 3) := by decide +kernel
theorem dX0_tellUnit_17 : decode cX0_tellUnit 17 = .ok (.if_icmp .gt 5, 3) := by decide +kernel
theorem dX0_tellUnit_20 : decode cX0_tellUnit 20 = .ok (.iconst (-1), 1) := by decide +kernel
theorem dX0_tellUnit_21 : decode cX0_tellUnit 21 = .ok (.ireturn, 1) := by decide +kernel
theorem dX0_tellUnit_22 : decode cX0_tellUnit 22 = .ok (.iload_n 2, 1) := by decide +kernel
theorem dX0_tellUnit_23 : decode cX0_tellUnit 23 = .ok (.tableswitch 83 0 2 #[25, 34, 43], 25) := by decide +kernel
theorem dX0_tellUnit_48 : decode cX0_tellUnit 48 = .ok (.aload_n 0, 1) := by decide +kernel
theorem dX0_tellUnit_49 : decode cX0_tellUnit 49 = .ok (.getfield 31, 3) := by decide +kernel
theorem dX0_tellUnit_52 : decode cX0_tellUnit 52 = .ok (.iload_n 3, 1) := by decide +kernel
theorem dX0_tellUnit_53 : decode cX0_tellUnit 53 = .ok (.iconst 0, 1) := by decide +kernel
theorem dX0_tellUnit_54 : decode cX0_tellUnit 54 = .ok (.iadd, 1) := by decide +kernel
theorem dX0_tellUnit_55 : decode cX0_tellUnit 55 = .ok (.iaload, 1) := by decide +kernel
theorem dX0_tellUnit_56 : decode cX0_tellUnit 56 = .ok (.ireturn, 1) := by decide +kernel
theorem dX0_tellUnit_57 : decode cX0_tellUnit 57 = .ok (.aload_n 0, 1) := by decide +kernel
theorem dX0_tellUnit_58 : decode cX0_tellUnit 58 = .ok (.getfield 31, 3) := by decide +kernel
theorem dX0_tellUnit_61 : decode cX0_tellUnit 61 = .ok (.iload_n 3, 1) := by decide +kernel
theorem dX0_tellUnit_62 : decode cX0_tellUnit 62 = .ok (.iconst 1, 1) := by decide +kernel
theorem dX0_tellUnit_63 : decode cX0_tellUnit 63 = .ok (.iadd, 1) := by decide +kernel
theorem dX0_tellUnit_64 : decode cX0_tellUnit 64 = .ok (.iaload, 1) := by decide +kernel
theorem dX0_tellUnit_65 : decode cX0_tellUnit 65 = .ok (.ireturn, 1) := by decide +kernel
theorem dX0_tellUnit_66 : decode cX0_tellUnit 66 = .ok (.aload_n 0, 1) := by decide +kernel
theorem dX0_tellUnit_67 : decode cX0_tellUnit 67 = .ok (.getfield 31, 3) := by decide +kernel
theorem dX0_tellUnit_70 : decode cX0_tellUnit 70 = .ok (.iload_n 3, 1) := by decide +kernel
theorem dX0_tellUnit_71 : decode cX0_tellUnit 71 = .ok (.iconst 4, 1) := by decide +kernel
theorem dX0_tellUnit_72 : decode cX0_tellUnit 72 = .ok (.iadd, 1) := by decide +kernel
theorem dX0_tellUnit_73 : decode cX0_tellUnit 73 = .ok (.iaload, 1) := by decide +kernel
theorem dX0_tellUnit_74 : decode cX0_tellUnit 74 = .ok (.aload_n 0, 1) := by decide +kernel
theorem dX0_tellUnit_75 : decode cX0_tellUnit 75 = .ok (.getfield 45, 3) := by decide +kernel
theorem dX0_tellUnit_78 : decode cX0_tellUnit 78 = .ok (.if_icmp .gt 7, 3) := by decide +kernel
theorem dX0_tellUnit_81 : decode cX0_tellUnit 81 = .ok (.iconst 3, 1) := by decide +kernel
theorem dX0_tellUnit_82 : decode cX0_tellUnit 82 = .ok (.goto 23, 3) := by decide +kernel
theorem dX0_tellUnit_85 : decode cX0_tellUnit 85 = .ok (.aload_n 0, 1) := by decide +kernel
theorem dX0_tellUnit_86 : decode cX0_tellUnit 86 = .ok (.getfield 31, 3) := by decide +kernel
theorem dX0_tellUnit_89 : decode cX0_tellUnit 89 = .ok (.iload_n 3, 1) := by decide +kernel
theorem dX0_tellUnit_90 : decode cX0_tellUnit 90 = .ok (.iconst 3, 1) := by decide +kernel
theorem dX0_tellUnit_91 : decode cX0_tellUnit 91 = .ok (.iadd, 1) := by decide +kernel
theorem dX0_tellUnit_92 : decode cX0_tellUnit 92 = .ok (.iaload, 1) := by decide +kernel
theorem dX0_tellUnit_93 : decode cX0_tellUnit 93 = .ok (.aload_n 0, 1) := by decide +kernel
theorem dX0_tellUnit_94 : decode cX0_tellUnit 94 = .ok (.getfield 45, 3) := by decide +kernel
theorem dX0_tellUnit_97 : decode cX0_tellUnit 97 = .ok (.if_icmp .gt 7, 3) := by decide +kernel
theorem dX0_tellUnit_100 : decode cX0_tellUnit 100 = .ok (.iconst 2, 1) := by decide +kernel
theorem dX0_tellUnit_101 : decode cX0_tellUnit 101 = .ok (.goto 4, 3) := by decide +kernel
theorem dX0_tellUnit_104 : decode cX0_tellUnit 104 = .ok (.iconst 1, 1) := by decide +kernel
theorem dX0_tellUnit_105 : decode cX0_tellUnit 105 = .ok (.ireturn, 1) := by decide +kernel
theorem dX0_tellUnit_106 : decode cX0_tellUnit 106 = .ok (.iconst (-1), 1) := by decide +kernel
theorem dX0_tellUnit_107 : decode cX0_tellUnit 107 = .ok (.ireturn, 1) := by decide +kernel
theorem dX0_tellIssued_0 : decode cX0_tellIssued 0 = .ok (.aload_n 0, 1) := by decide +kernel
theorem dX0_tellIssued_1 : decode cX0_tellIssued 1 = .ok (.getfield 34, 3) := by decide +kernel
theorem dX0_tellIssued_4 : decode cX0_tellIssued 4 = .ok (.iload_n 1, 1) := by decide +kernel
theorem dX0_tellIssued_5 : decode cX0_tellIssued 5 = .ok (.invokestatic 165, 3) := by decide +kernel
theorem dX0_tellIssued_8 : decode cX0_tellIssued 8 = .ok (.iload_n 2, 1) := by decide +kernel
theorem dX0_tellIssued_9 : decode cX0_tellIssued 9 = .ok (.iadd, 1) := by decide +kernel
theorem dX0_tellIssued_10 : decode cX0_tellIssued 10 = .ok (.iaload, 1) := by decide +kernel
theorem dX0_tellIssued_11 : decode cX0_tellIssued 11 = .ok (.istore_n 3, 1) := by decide +kernel
theorem dX0_tellIssued_12 : decode cX0_tellIssued 12 = .ok (.iload_n 2, 1) := by decide +kernel
theorem dX0_tellIssued_13 : decode cX0_tellIssued 13 = .ok (.iconst 2, 1) := by decide +kernel
theorem dX0_tellIssued_14 : decode cX0_tellIssued 14 = .ok (.if_icmp .lt 15, 3) := by decide +kernel
theorem dX0_tellIssued_17 : decode cX0_tellIssued 17 = .ok (.iload_n 3, 1) := by decide +kernel
theorem dX0_tellIssued_18 : decode cX0_tellIssued 18 = .ok (.aload_n 0, 1) := by decide +kernel
theorem dX0_tellIssued_19 : decode cX0_tellIssued 19 = .ok (.getfield 45, 3) := by decide +kernel
theorem dX0_tellIssued_22 : decode cX0_tellIssued 22 = .ok (.if_icmp .le 7, 3) := by decide +kernel
theorem dX0_tellIssued_25 : decode cX0_tellIssued 25 = .ok (.iconst (-1), 1) := by decide +kernel
theorem dX0_tellIssued_26 : decode cX0_tellIssued 26 = .ok (.goto 4, 3) := by decide +kernel
theorem dX0_tellIssued_29 : decode cX0_tellIssued 29 = .ok (.iload_n 3, 1) := by decide +kernel
theorem dX0_tellIssued_30 : decode cX0_tellIssued 30 = .ok (.ireturn, 1) := by decide +kernel
theorem dX1_init_0 : decode cX1_init 0 = .ok (.aload_n 0, 1) := by decide +kernel
theorem dX1_init_1 : decode cX1_init 1 = .ok (.invokespecial 3, 3) := by decide +kernel
theorem dX1_init_4 : decode cX1_init 4 = .ok (.aload_n 0, 1) := by decide +kernel
theorem dX1_init_5 : decode cX1_init 5 = .ok (.bipush 16, 2) := by decide +kernel
theorem dX1_init_7 : decode cX1_init 7 = .ok (.newarray .long, 2) := by decide +kernel
theorem dX1_init_9 : decode cX1_init 9 = .ok (.putfield 9, 3) := by decide +kernel
theorem dX1_init_12 : decode cX1_init 12 = .ok (.aload_n 0, 1) := by decide +kernel
theorem dX1_init_13 : decode cX1_init 13 = .ok (.sipush 256, 3) := by decide +kernel
theorem dX1_init_16 : decode cX1_init 16 = .ok (.newarray .long, 2) := by decide +kernel
theorem dX1_init_18 : decode cX1_init 18 = .ok (.putfield 15, 3) := by decide +kernel
theorem dX1_init_21 : decode cX1_init 21 = .ok (.aload_n 0, 1) := by decide +kernel
theorem dX1_init_22 : decode cX1_init 22 = .ok (.aload_n 1, 1) := by decide +kernel
theorem dX1_init_23 : decode cX1_init 23 = .ok (.putfield 18, 3) := by decide +kernel
theorem dX1_init_26 : decode cX1_init 26 = .ok (.return_, 1) := by decide +kernel
theorem dX1_begin_0 : decode cX1_begin 0 = .ok (.aload_n 0, 1) := by decide +kernel
theorem dX1_begin_1 : decode cX1_begin 1 = .ok (.getfield 18, 3) := by decide +kernel
theorem dX1_begin_4 : decode cX1_begin 4 = .ok (.getfield 22, 3) := by decide +kernel
theorem dX1_begin_7 : decode cX1_begin 7 = .ok (.iconst 0, 1) := by decide +kernel
theorem dX1_begin_8 : decode cX1_begin 8 = .ok (.aload_n 0, 1) := by decide +kernel
theorem dX1_begin_9 : decode cX1_begin 9 = .ok (.getfield 9, 3) := by decide +kernel
theorem dX1_begin_12 : decode cX1_begin 12 = .ok (.iconst 0, 1) := by decide +kernel
theorem dX1_begin_13 : decode cX1_begin 13 = .ok (.bipush 16, 2) := by decide +kernel
theorem dX1_begin_15 : decode cX1_begin 15 = .ok (.invokestatic 25, 3) := by decide +kernel
theorem dX1_begin_18 : decode cX1_begin 18 = .ok (.aload_n 0, 1) := by decide +kernel
theorem dX1_begin_19 : decode cX1_begin 19 = .ok (.getfield 18, 3) := by decide +kernel
theorem dX1_begin_22 : decode cX1_begin 22 = .ok (.getfield 31, 3) := by decide +kernel
theorem dX1_begin_25 : decode cX1_begin 25 = .ok (.iconst 0, 1) := by decide +kernel
theorem dX1_begin_26 : decode cX1_begin 26 = .ok (.aload_n 0, 1) := by decide +kernel
theorem dX1_begin_27 : decode cX1_begin 27 = .ok (.getfield 15, 3) := by decide +kernel
theorem dX1_begin_30 : decode cX1_begin 30 = .ok (.iconst 0, 1) := by decide +kernel
theorem dX1_begin_31 : decode cX1_begin 31 = .ok (.sipush 256, 3) := by decide +kernel
theorem dX1_begin_34 : decode cX1_begin 34 = .ok (.invokestatic 25, 3) := by decide +kernel
theorem dX1_begin_37 : decode cX1_begin 37 = .ok (.aload_n 0, 1) := by decide +kernel
theorem dX1_begin_38 : decode cX1_begin 38 = .ok (.iconst 0, 1) := by decide +kernel
theorem dX1_begin_39 : decode cX1_begin 39 = .ok (.putfield 32, 3) := by decide +kernel
theorem dX1_begin_42 : decode cX1_begin 42 = .ok (.return_, 1) := by decide +kernel
theorem dX1_code_0 : decode cX1_code 0 = .ok (.aload_n 0, 1) := by decide +kernel
theorem dX1_code_1 : decode cX1_code 1 = .ok (.getfield 18, 3) := by decide +kernel
theorem dX1_code_4 : decode cX1_code 4 = .ok (.getfield 36, 3) := by decide +kernel
theorem dX1_code_7 : decode cX1_code 7 = .ok (.aload_n 0, 1) := by decide +kernel
theorem dX1_code_8 : decode cX1_code 8 = .ok (.getfield 32, 3) := by decide +kernel
theorem dX1_code_11 : decode cX1_code 11 = .ok (.iaload, 1) := by decide +kernel
theorem dX1_code_12 : decode cX1_code 12 = .ok (.ireturn, 1) := by decide +kernel
theorem dX1_cell_0 : decode cX1_cell 0 = .ok (.aload_n 0, 1) := by decide +kernel
theorem dX1_cell_1 : decode cX1_cell 1 = .ok (.getfield 9, 3) := by decide +kernel
theorem dX1_cell_4 : decode cX1_cell 4 = .ok (.aload_n 0, 1) := by decide +kernel
theorem dX1_cell_5 : decode cX1_cell 5 = .ok (.getfield 18, 3) := by decide +kernel
theorem dX1_cell_8 : decode cX1_cell 8 = .ok (.getfield 40, 3) := by decide +kernel
theorem dX1_cell_11 : decode cX1_cell 11 = .ok (.aload_n 0, 1) := by decide +kernel
theorem dX1_cell_12 : decode cX1_cell 12 = .ok (.getfield 32, 3) := by decide +kernel
theorem dX1_cell_15 : decode cX1_cell 15 = .ok (.iaload, 1) := by decide +kernel
theorem dX1_cell_16 : decode cX1_cell 16 = .ok (.laload, 1) := by decide +kernel
theorem dX1_cell_17 : decode cX1_cell 17 = .ok (.aload_n 0, 1) := by decide +kernel
theorem dX1_cell_18 : decode cX1_cell 18 = .ok (.getfield 18, 3) := by decide +kernel
theorem dX1_cell_21 : decode cX1_cell 21 = .ok (.getfield 43, 3) := by decide +kernel
theorem dX1_cell_24 : decode cX1_cell 24 = .ok (.aload_n 0, 1) := by decide +kernel
theorem dX1_cell_25 : decode cX1_cell 25 = .ok (.getfield 32, 3) := by decide +kernel
theorem dX1_cell_28 : decode cX1_cell 28 = .ok (.iaload, 1) := by decide +kernel
theorem dX1_cell_29 : decode cX1_cell 29 = .ok (.i2l, 1) := by decide +kernel
theorem dX1_cell_30 : decode cX1_cell 30 = .ok (.ladd, 1) := by decide +kernel
theorem dX1_cell_31 : decode cX1_cell 31 = .ok (.lstore_n 1, 1) := by decide +kernel
theorem dX1_cell_32 : decode cX1_cell 32 = .ok (.lload_n 1, 1) := by decide +kernel
theorem dX1_cell_33 : decode cX1_cell 33 = .ok (.ldc2_w 46, 3) := by decide +kernel
theorem dX1_cell_36 : decode cX1_cell 36 = .ok (.land, 1) := by decide +kernel
theorem dX1_cell_37 : decode cX1_cell 37 = .ok (.l2i, 1) := by decide +kernel
theorem dX1_cell_38 : decode cX1_cell 38 = .ok (.ireturn, 1) := by decide +kernel
theorem dX1_step_0 : decode cX1_step 0 = .ok (.aload_n 0, 1) := by decide +kernel
theorem dX1_step_1 : decode cX1_step 1 = .ok (.invokevirtual 48, 3) := by decide +kernel
theorem dX1_step_4 : decode cX1_step 4 = .ok (.istore_n 1, 1) := by decide +kernel
theorem dX1_step_5 : decode cX1_step 5 = .ok (.aload_n 0, 1) := by decide +kernel
theorem dX1_step_6 : decode cX1_step 6 = .ok (.getfield 18, 3) := by decide +kernel
theorem dX1_step_9 : decode cX1_step 9 = .ok (.getfield 52, 3) := by decide +kernel
theorem dX1_step_12 : decode cX1_step 12 = .ok (.aload_n 0, 1) := by decide +kernel
theorem dX1_step_13 : decode cX1_step 13 = .ok (.getfield 32, 3) := by decide +kernel
theorem dX1_step_16 : decode cX1_step 16 = .ok (.iaload, 1) := by decide +kernel
theorem dX1_step_17 : decode cX1_step 17 = .ok (.istore_n 2, 1) := by decide +kernel
theorem dX1_step_18 : decode cX1_step 18 = .ok (.iload_n 1, 1) := by decide +kernel
theorem dX1_step_19 : decode cX1_step 19 = .ok (.bipush 15, 2) := by decide +kernel
theorem dX1_step_21 : decode cX1_step 21 = .ok (.if_icmp .ne 21, 3) := by decide +kernel
theorem dX1_step_24 : decode cX1_step 24 = .ok (.aload_n 0, 1) := by decide +kernel
theorem dX1_step_25 : decode cX1_step 25 = .ok (.getfield 15, 3) := by decide +kernel
theorem dX1_step_28 : decode cX1_step 28 = .ok (.aload_n 0, 1) := by decide +kernel
theorem dX1_step_29 : decode cX1_step 29 = .ok (.invokevirtual 55, 3) := by decide +kernel
theorem dX1_step_32 : decode cX1_step 32 = .ok (.aload_n 0, 1) := by decide +kernel
theorem dX1_step_33 : decode cX1_step 33 = .ok (.getfield 9, 3) := by decide +kernel
theorem dX1_step_36 : decode cX1_step 36 = .ok (.iload_n 2, 1) := by decide +kernel
theorem dX1_step_37 : decode cX1_step 37 = .ok (.laload, 1) := by decide +kernel
theorem dX1_step_38 : decode cX1_step 38 = .ok (.lastore, 1) := by decide +kernel
theorem dX1_step_39 : decode cX1_step 39 = .ok (.goto 21, 3) := by decide +kernel
theorem dX1_step_42 : decode cX1_step 42 = .ok (.iload_n 1, 1) := by decide +kernel
theorem dX1_step_43 : decode cX1_step 43 = .ok (.invokestatic 58, 3) := by decide +kernel
theorem dX1_step_46 : decode cX1_step 46 = .ok (.ifCond .eq 14, 3) := by decide +kernel
theorem dX1_step_49 : decode cX1_step 49 = .ok (.aload_n 0, 1) := by decide +kernel
theorem dX1_step_50 : decode cX1_step 50 = .ok (.getfield 9, 3) := by decide +kernel
theorem dX1_step_53 : decode cX1_step 53 = .ok (.iload_n 2, 1) := by decide +kernel
theorem dX1_step_54 : decode cX1_step 54 = .ok (.aload_n 0, 1) := by decide +kernel
theorem dX1_step_55 : decode cX1_step 55 = .ok (.iload_n 1, 1) := by decide +kernel
theorem dX1_step_56 : decode cX1_step 56 = .ok (.invokevirtual 62, 3) := by decide +kernel
theorem dX1_step_59 : decode cX1_step 59 = .ok (.lastore, 1) := by decide +kernel
theorem dX1_step_60 : decode cX1_step 60 = .ok (.aload_n 0, 1) := by decide +kernel
theorem dX1_step_61 : decode cX1_step 61 = .ok (.aload_n 0, 1) := by decide +kernel
theorem dX1_step_62 : decode cX1_step 62 = .ok (.iload_n 1, 1) := by decide +kernel
theorem dX1_step_63 : decode cX1_step 63 = .ok (.invokevirtual 66, 3) := by decide +kernel
theorem dX1_step_66 : decode cX1_step 66 = .ok (.putfield 32, 3) := by decide +kernel
theorem dX1_step_69 : decode cX1_step 69 = .ok (.return_, 1) := by decide +kernel
theorem dX1_value_0 : decode cX1_value 0 = .ok (.iload_n 1, 1) := by decide +kernel
theorem dX1_value_1 : decode cX1_value 1 = .ok (.bipush 14, 2) := by decide +kernel
theorem dX1_value_3 : decode cX1_value 3 = .ok (.if_icmp .ne 13, 3) := by decide +kernel
theorem dX1_value_6 : decode cX1_value 6 = .ok (.aload_n 0, 1) := by decide +kernel
theorem dX1_value_7 : decode cX1_value 7 = .ok (.getfield 15, 3) := by decide +kernel
theorem dX1_value_10 : decode cX1_value 10 = .ok (.aload_n 0, 1) := by decide +kernel
theorem dX1_value_11 : decode cX1_value 11 = .ok (.invokevirtual 55, 3) := by decide +kernel
theorem dX1_value_14 : decode cX1_value 14 = .ok (.laload, 1) := by decide +kernel
theorem dX1_value_15 : decode cX1_value 15 = .ok (.lreturn, 1) := by decide +kernel
theorem dX1_value_16 : decode cX1_value 16 = .ok (.aload_n 0, 1) := by decide +kernel
theorem dX1_value_17 : decode cX1_value 17 = .ok (.getfield 9, 3) := by decide +kernel
theorem dX1_value_20 : decode cX1_value 20 = .ok (.aload_n 0, 1) := by decide +kernel
theorem dX1_value_21 : decode cX1_value 21 = .ok (.getfield 18, 3) := by decide +kernel
theorem dX1_value_24 : decode cX1_value 24 = .ok (.getfield 40, 3) := by decide +kernel
theorem dX1_value_27 : decode cX1_value 27 = .ok (.aload_n 0, 1) := by decide +kernel
theorem dX1_value_28 : decode cX1_value 28 = .ok (.getfield 32, 3) := by decide +kernel
theorem dX1_value_31 : decode cX1_value 31 = .ok (.iaload, 1) := by decide +kernel
theorem dX1_value_32 : decode cX1_value 32 = .ok (.laload, 1) := by decide +kernel
theorem dX1_value_33 : decode cX1_value 33 = .ok (.lstore_n 2, 1) := by decide +kernel
theorem dX1_value_34 : decode cX1_value 34 = .ok (.iload_n 1, 1) := by decide +kernel
theorem dX1_value_35 : decode cX1_value 35 = .ok (.bipush 6, 2) := by decide +kernel
theorem dX1_value_37 : decode cX1_value 37 = .ok (.if_icmp .ne 17, 3) := by decide +kernel
theorem dX1_value_40 : decode cX1_value 40 = .ok (.aload_n 0, 1) := by decide +kernel
theorem dX1_value_41 : decode cX1_value 41 = .ok (.getfield 18, 3) := by decide +kernel
theorem dX1_value_44 : decode cX1_value 44 = .ok (.getfield 43, 3) := by decide +kernel
theorem dX1_value_47 : decode cX1_value 47 = .ok (.aload_n 0, 1) := by decide +kernel
theorem dX1_value_48 : decode cX1_value 48 = .ok (.getfield 32, 3) := by decide +kernel
theorem dX1_value_51 : decode cX1_value 51 = .ok (.iaload, 1) := by decide +kernel
theorem dX1_value_52 : decode cX1_value 52 = .ok (.i2l, 1) := by decide +kernel
theorem dX1_value_53 : decode cX1_value 53 = .ok (.lreturn, 1) := by decide +kernel
theorem dX1_value_54 : decode cX1_value 54 = .ok (.iload_n 1, 1) := by decide +kernel
theorem dX1_value_55 : decode cX1_value 55 = .ok (.bipush 7, 2) := by decide +kernel
theorem dX1_value_57 : decode cX1_value 57 = .ok (.if_icmp .ne 19, 3) := by decide +kernel
theorem dX1_value_60 : decode cX1_value 60 = .ok (.lload_n 2, 1) := by decide +kernel
theorem dX1_value_61 : decode cX1_value 61 = .ok (.aload_n 0, 1) := by decide +kernel
theorem dX1_value_62 : decode cX1_value 62 = .ok (.getfield 18, 3) := by decide +kernel
theorem dX1_value_65 : decode cX1_value 65 = .ok (.getfield 43, 3) := by decide +kernel
theorem dX1_value_68 : decode cX1_value 68 = .ok (.aload_n 0, 1) := by decide +kernel
theorem dX1_value_69 : decode cX1_value 69 = .ok (.getfield 32, 3) := by decide +kernel
theorem dX1_value_72 : decode cX1_value 72 = .ok (.iaload, 1) := by decide +kernel
theorem dX1_value_73 : decode cX1_value 73 = .ok (.i2l, 1) := by decide +kernel
theorem dX1_value_74 : decode cX1_value 74 = .ok (.ladd, 1) := by decide +kernel
theorem dX1_value_75 : decode cX1_value 75 = .ok (.lreturn, 1) := by decide +kernel
theorem dX1_value_76 : decode cX1_value 76 = .ok (.iload_n 1, 1) := by decide +kernel
theorem dX1_value_77 : decode cX1_value 77 = .ok (.lload_n 2, 1) := by decide +kernel
theorem dX1_value_78 : decode cX1_value 78 = .ok (.aload_n 0, 1) := by decide +kernel
theorem dX1_value_79 : decode cX1_value 79 = .ok (.getfield 9, 3) := by decide +kernel
theorem dX1_value_82 : decode cX1_value 82 = .ok (.aload_n 0, 1) := by decide +kernel
theorem dX1_value_83 : decode cX1_value 83 = .ok (.getfield 18, 3) := by decide +kernel
theorem dX1_value_86 : decode cX1_value 86 = .ok (.aload_n 0, 1) := by decide +kernel
theorem dX1_value_87 : decode cX1_value 87 = .ok (.getfield 32, 3) := by decide +kernel
theorem dX1_value_90 : decode cX1_value 90 = .ok (.invokevirtual 70, 3) := by decide +kernel
theorem dX1_value_93 : decode cX1_value 93 = .ok (.laload, 1) := by decide +kernel
theorem dX1_value_94 : decode cX1_value 94 = .ok (.invokestatic 73, 3) := by decide +kernel
theorem dX1_value_97 : decode cX1_value 97 = .ok (.lreturn, 1) := by decide +kernel
theorem dX1_placeAfter_0 : decode cX1_placeAfter 0 = .ok (.aload_n 0, 1) := by decide +kernel
theorem dX1_placeAfter_1 : decode cX1_placeAfter 1 = .ok (.getfield 9, 3) := by decide +kernel
theorem dX1_placeAfter_4 : decode cX1_placeAfter 4 = .ok (.aload_n 0, 1) := by decide +kernel
theorem dX1_placeAfter_5 : decode cX1_placeAfter 5 = .ok (.getfield 18, 3) := by decide +kernel
theorem dX1_placeAfter_8 : decode cX1_placeAfter 8 = .ok (.getfield 40, 3) := by decide +kernel
theorem dX1_placeAfter_11 : decode cX1_placeAfter 11 = .ok (.aload_n 0, 1) := by decide +kernel
theorem dX1_placeAfter_12 : decode cX1_placeAfter 12 = .ok (.getfield 32, 3) := by decide +kernel
theorem dX1_placeAfter_15 : decode cX1_placeAfter 15 = .ok (.iaload, 1) := by decide +kernel
theorem dX1_placeAfter_16 : decode cX1_placeAfter 16 = .ok (.laload, 1) := by decide +kernel
theorem dX1_placeAfter_17 : decode cX1_placeAfter 17 = .ok (.lstore_n 2, 1) := by decide +kernel
theorem dX1_placeAfter_18 : decode cX1_placeAfter 18 = .ok (.iload_n 1, 1) := by decide +kernel
theorem dX1_placeAfter_19 : decode cX1_placeAfter 19 = .ok (.bipush 18, 2) := by decide +kernel
theorem dX1_placeAfter_21 : decode cX1_placeAfter 21 = .ok (.if_icmp .eq 27, 3) := by decide +kernel
theorem dX1_placeAfter_24 : decode cX1_placeAfter 24 = .ok (.iload_n 1, 1) := by decide +kernel
theorem dX1_placeAfter_25 : decode cX1_placeAfter 25 = .ok (.bipush 16, 2) := by decide +kernel
theorem dX1_placeAfter_27 : decode cX1_placeAfter 27 = .ok (.if_icmp .ne 9, 3) := by decide +kernel
theorem dX1_placeAfter_30 : decode cX1_placeAfter 30 = .ok (.lload_n 2, 1) := by decide +kernel
theorem dX1_placeAfter_31 : decode cX1_placeAfter 31 = .ok (.lconst 0, 1) := by decide +kernel
theorem dX1_placeAfter_32 : decode cX1_placeAfter 32 = .ok (.lcmp, 1) := by decide +kernel
theorem dX1_placeAfter_33 : decode cX1_placeAfter 33 = .ok (.ifCond .eq 15, 3) := by decide +kernel
theorem dX1_placeAfter_36 : decode cX1_placeAfter 36 = .ok (.iload_n 1, 1) := by decide +kernel
theorem dX1_placeAfter_37 : decode cX1_placeAfter 37 = .ok (.bipush 17, 2) := by decide +kernel
theorem dX1_placeAfter_39 : decode cX1_placeAfter 39 = .ok (.if_icmp .ne 13, 3) := by decide +kernel
theorem dX1_placeAfter_42 : decode cX1_placeAfter 42 = .ok (.lload_n 2, 1) := by decide +kernel
theorem dX1_placeAfter_43 : decode cX1_placeAfter 43 = .ok (.lconst 0, 1) := by decide +kernel
theorem dX1_placeAfter_44 : decode cX1_placeAfter 44 = .ok (.lcmp, 1) := by decide +kernel
theorem dX1_placeAfter_45 : decode cX1_placeAfter 45 = .ok (.ifCond .ge 7, 3) := by decide +kernel
theorem dX1_placeAfter_48 : decode cX1_placeAfter 48 = .ok (.iconst 1, 1) := by decide +kernel
theorem dX1_placeAfter_49 : decode cX1_placeAfter 49 = .ok (.goto 4, 3) := by decide +kernel
theorem dX1_placeAfter_52 : decode cX1_placeAfter 52 = .ok (.iconst 0, 1) := by decide +kernel
theorem dX1_placeAfter_53 : decode cX1_placeAfter 53 = .ok (.istore 4, 2) := by decide +kernel
theorem dX1_placeAfter_55 : decode cX1_placeAfter 55 = .ok (.iload 4, 2) := by decide +kernel
theorem dX1_placeAfter_57 : decode cX1_placeAfter 57 = .ok (.ifCond .eq 18, 3) := by decide +kernel
theorem dX1_placeAfter_60 : decode cX1_placeAfter 60 = .ok (.aload_n 0, 1) := by decide +kernel
theorem dX1_placeAfter_61 : decode cX1_placeAfter 61 = .ok (.getfield 18, 3) := by decide +kernel
theorem dX1_placeAfter_64 : decode cX1_placeAfter 64 = .ok (.getfield 43, 3) := by decide +kernel
theorem dX1_placeAfter_67 : decode cX1_placeAfter 67 = .ok (.aload_n 0, 1) := by decide +kernel
theorem dX1_placeAfter_68 : decode cX1_placeAfter 68 = .ok (.getfield 32, 3) := by decide +kernel
theorem dX1_placeAfter_71 : decode cX1_placeAfter 71 = .ok (.iaload, 1) := by decide +kernel
theorem dX1_placeAfter_72 : decode cX1_placeAfter 72 = .ok (.goto 9, 3) := by decide +kernel
theorem dX1_placeAfter_75 : decode cX1_placeAfter 75 = .ok (.aload_n 0, 1) := by decide +kernel
theorem dX1_placeAfter_76 : decode cX1_placeAfter 76 = .ok (.getfield 32, 3) := by decide +kernel
theorem dX1_placeAfter_79 : decode cX1_placeAfter 79 = .ok (.iconst 1, 1) := by decide +kernel
theorem dX1_placeAfter_80 : decode cX1_placeAfter 80 = .ok (.iadd, 1) := by decide +kernel
theorem dX1_placeAfter_81 : decode cX1_placeAfter 81 = .ok (.istore 5, 2) := by decide +kernel
theorem dX1_placeAfter_83 : decode cX1_placeAfter 83 = .ok (.iload 5, 2) := by decide +kernel
theorem dX1_placeAfter_85 : decode cX1_placeAfter 85 = .ok (.sipush 255, 3) := by decide +kernel
theorem dX1_placeAfter_88 : decode cX1_placeAfter 88 = .ok (.iand, 1) := by decide +kernel
theorem dX1_placeAfter_89 : decode cX1_placeAfter 89 = .ok (.ireturn, 1) := by decide +kernel
theorem dX1_worked_0 : decode cX1_worked 0 = .ok (.iload_n 0, 1) := by decide +kernel
theorem dX1_worked_1 : decode cX1_worked 1 = .ok (.tableswitch 146 1 13 #[67, 71, 75, 79, 83, 146, 146, 87, 96, 105, 114, 118, 132], 67) := by decide +kernel
theorem dX1_worked_68 : decode cX1_worked 68 = .ok (.lload_n 1, 1) := by decide +kernel
theorem dX1_worked_69 : decode cX1_worked 69 = .ok (.lload_n 3, 1) := by decide +kernel
theorem dX1_worked_70 : decode cX1_worked 70 = .ok (.ladd, 1) := by decide +kernel
theorem dX1_worked_71 : decode cX1_worked 71 = .ok (.lreturn, 1) := by decide +kernel
theorem dX1_worked_72 : decode cX1_worked 72 = .ok (.lload_n 1, 1) := by decide +kernel
theorem dX1_worked_73 : decode cX1_worked 73 = .ok (.lload_n 3, 1) := by decide +kernel
theorem dX1_worked_74 : decode cX1_worked 74 = .ok (.lsub, 1) := by decide +kernel
theorem dX1_worked_75 : decode cX1_worked 75 = .ok (.lreturn, 1) := by decide +kernel
theorem dX1_worked_76 : decode cX1_worked 76 = .ok (.lload_n 1, 1) := by decide +kernel
theorem dX1_worked_77 : decode cX1_worked 77 = .ok (.lload_n 3, 1) := by decide +kernel
theorem dX1_worked_78 : decode cX1_worked 78 = .ok (.land, 1) := by decide +kernel
theorem dX1_worked_79 : decode cX1_worked 79 = .ok (.lreturn, 1) := by decide +kernel
theorem dX1_worked_80 : decode cX1_worked 80 = .ok (.lload_n 1, 1) := by decide +kernel
theorem dX1_worked_81 : decode cX1_worked 81 = .ok (.lload_n 3, 1) := by decide +kernel
theorem dX1_worked_82 : decode cX1_worked 82 = .ok (.lor, 1) := by decide +kernel
theorem dX1_worked_83 : decode cX1_worked 83 = .ok (.lreturn, 1) := by decide +kernel
theorem dX1_worked_84 : decode cX1_worked 84 = .ok (.lload_n 1, 1) := by decide +kernel
theorem dX1_worked_85 : decode cX1_worked 85 = .ok (.lload_n 3, 1) := by decide +kernel
theorem dX1_worked_86 : decode cX1_worked 86 = .ok (.lxor, 1) := by decide +kernel
theorem dX1_worked_87 : decode cX1_worked 87 = .ok (.lreturn, 1) := by decide +kernel
theorem dX1_worked_88 : decode cX1_worked 88 = .ok (.lload_n 1, 1) := by decide +kernel
theorem dX1_worked_89 : decode cX1_worked 89 = .ok (.lload_n 3, 1) := by decide +kernel
theorem dX1_worked_90 : decode cX1_worked 90 = .ok (.ldc2_w 77, 3) := by decide +kernel
theorem dX1_worked_93 : decode cX1_worked 93 = .ok (.land, 1) := by decide +kernel
theorem dX1_worked_94 : decode cX1_worked 94 = .ok (.l2i, 1) := by decide +kernel
theorem dX1_worked_95 : decode cX1_worked 95 = .ok (.lshl, 1) := by decide +kernel
theorem dX1_worked_96 : decode cX1_worked 96 = .ok (.lreturn, 1) := by decide +kernel
theorem dX1_worked_97 : decode cX1_worked 97 = .ok (.lload_n 1, 1) := by decide +kernel
theorem dX1_worked_98 : decode cX1_worked 98 = .ok (.lload_n 3, 1) := by decide +kernel
theorem dX1_worked_99 : decode cX1_worked 99 = .ok (.ldc2_w 77, 3) := by decide +kernel
theorem dX1_worked_102 : decode cX1_worked 102 = .ok (.land, 1) := by decide +kernel
theorem dX1_worked_103 : decode cX1_worked 103 = .ok (.l2i, 1) := by decide +kernel
theorem dX1_worked_104 : decode cX1_worked 104 = .ok (.lshr, 1) := by decide +kernel
theorem dX1_worked_105 : decode cX1_worked 105 = .ok (.lreturn, 1) := by decide +kernel
theorem dX1_worked_106 : decode cX1_worked 106 = .ok (.lload_n 1, 1) := by decide +kernel
theorem dX1_worked_107 : decode cX1_worked 107 = .ok (.lload_n 3, 1) := by decide +kernel
theorem dX1_worked_108 : decode cX1_worked 108 = .ok (.ldc2_w 77, 3) := by decide +kernel
theorem dX1_worked_111 : decode cX1_worked 111 = .ok (.land, 1) := by decide +kernel
theorem dX1_worked_112 : decode cX1_worked 112 = .ok (.l2i, 1) := by decide +kernel
theorem dX1_worked_113 : decode cX1_worked 113 = .ok (.lushr, 1) := by decide +kernel
theorem dX1_worked_114 : decode cX1_worked 114 = .ok (.lreturn, 1) := by decide +kernel
theorem dX1_worked_115 : decode cX1_worked 115 = .ok (.lload_n 1, 1) := by decide +kernel
theorem dX1_worked_116 : decode cX1_worked 116 = .ok (.lload_n 3, 1) := by decide +kernel
theorem dX1_worked_117 : decode cX1_worked 117 = .ok (.lmul, 1) := by decide +kernel
theorem dX1_worked_118 : decode cX1_worked 118 = .ok (.lreturn, 1) := by decide +kernel
theorem dX1_worked_119 : decode cX1_worked 119 = .ok (.lload_n 3, 1) := by decide +kernel
theorem dX1_worked_120 : decode cX1_worked 120 = .ok (.lconst 0, 1) := by decide +kernel
theorem dX1_worked_121 : decode cX1_worked 121 = .ok (.lcmp, 1) := by decide +kernel
theorem dX1_worked_122 : decode cX1_worked 122 = .ok (.ifCond .ne 7, 3) := by decide +kernel
theorem dX1_worked_125 : decode cX1_worked 125 = .ok (.lconst 0, 1) := by decide +kernel
theorem dX1_worked_126 : decode cX1_worked 126 = .ok (.goto 6, 3) := by decide +kernel
theorem dX1_worked_129 : decode cX1_worked 129 = .ok (.lload_n 1, 1) := by decide +kernel
theorem dX1_worked_130 : decode cX1_worked 130 = .ok (.lload_n 3, 1) := by decide +kernel
theorem dX1_worked_131 : decode cX1_worked 131 = .ok (.ldiv, 1) := by decide +kernel
theorem dX1_worked_132 : decode cX1_worked 132 = .ok (.lreturn, 1) := by decide +kernel
theorem dX1_worked_133 : decode cX1_worked 133 = .ok (.lload_n 3, 1) := by decide +kernel
theorem dX1_worked_134 : decode cX1_worked 134 = .ok (.lconst 0, 1) := by decide +kernel
theorem dX1_worked_135 : decode cX1_worked 135 = .ok (.lcmp, 1) := by decide +kernel
theorem dX1_worked_136 : decode cX1_worked 136 = .ok (.ifCond .ne 7, 3) := by decide +kernel
theorem dX1_worked_139 : decode cX1_worked 139 = .ok (.lconst 0, 1) := by decide +kernel
theorem dX1_worked_140 : decode cX1_worked 140 = .ok (.goto 6, 3) := by decide +kernel
theorem dX1_worked_143 : decode cX1_worked 143 = .ok (.lload_n 1, 1) := by decide +kernel
theorem dX1_worked_144 : decode cX1_worked 144 = .ok (.lload_n 3, 1) := by decide +kernel
theorem dX1_worked_145 : decode cX1_worked 145 = .ok (.lrem, 1) := by decide +kernel
theorem dX1_worked_146 : decode cX1_worked 146 = .ok (.lreturn, 1) := by decide +kernel
theorem dX1_worked_147 : decode cX1_worked 147 = .ok (.lconst 0, 1) := by decide +kernel
theorem dX1_worked_148 : decode cX1_worked 148 = .ok (.lreturn, 1) := by decide +kernel
theorem dX2_init_0 : decode cX2_init 0 = .ok (.aload_n 0, 1) := by decide +kernel
theorem dX2_init_1 : decode cX2_init 1 = .ok (.invokespecial 3, 3) := by decide +kernel
theorem dX2_init_4 : decode cX2_init 4 = .ok (.aload_n 0, 1) := by decide +kernel
theorem dX2_init_5 : decode cX2_init 5 = .ok (.sipush 256, 3) := by decide +kernel
theorem dX2_init_8 : decode cX2_init 8 = .ok (.newarray .int, 2) := by decide +kernel
theorem dX2_init_10 : decode cX2_init 10 = .ok (.putfield 9, 3) := by decide +kernel
theorem dX2_init_13 : decode cX2_init 13 = .ok (.aload_n 0, 1) := by decide +kernel
theorem dX2_init_14 : decode cX2_init 14 = .ok (.sipush 256, 3) := by decide +kernel
theorem dX2_init_17 : decode cX2_init 17 = .ok (.newarray .int, 2) := by decide +kernel
theorem dX2_init_19 : decode cX2_init 19 = .ok (.putfield 15, 3) := by decide +kernel
theorem dX2_init_22 : decode cX2_init 22 = .ok (.aload_n 0, 1) := by decide +kernel
theorem dX2_init_23 : decode cX2_init 23 = .ok (.sipush 256, 3) := by decide +kernel
theorem dX2_init_26 : decode cX2_init 26 = .ok (.newarray .int, 2) := by decide +kernel
theorem dX2_init_28 : decode cX2_init 28 = .ok (.putfield 18, 3) := by decide +kernel
theorem dX2_init_31 : decode cX2_init 31 = .ok (.aload_n 0, 1) := by decide +kernel
theorem dX2_init_32 : decode cX2_init 32 = .ok (.sipush 256, 3) := by decide +kernel
theorem dX2_init_35 : decode cX2_init 35 = .ok (.newarray .int, 2) := by decide +kernel
theorem dX2_init_37 : decode cX2_init 37 = .ok (.putfield 21, 3) := by decide +kernel
theorem dX2_init_40 : decode cX2_init 40 = .ok (.aload_n 0, 1) := by decide +kernel
theorem dX2_init_41 : decode cX2_init 41 = .ok (.bipush 6, 2) := by decide +kernel
theorem dX2_init_43 : decode cX2_init 43 = .ok (.newarray .int, 2) := by decide +kernel
theorem dX2_init_45 : decode cX2_init 45 = .ok (.putfield 24, 3) := by decide +kernel
theorem dX2_init_48 : decode cX2_init 48 = .ok (.aload_n 0, 1) := by decide +kernel
theorem dX2_init_49 : decode cX2_init 49 = .ok (.bipush 6, 2) := by decide +kernel
theorem dX2_init_51 : decode cX2_init 51 = .ok (.newarray .int, 2) := by decide +kernel
theorem dX2_init_53 : decode cX2_init 53 = .ok (.putfield 27, 3) := by decide +kernel
theorem dX2_init_56 : decode cX2_init 56 = .ok (.aload_n 0, 1) := by decide +kernel
theorem dX2_init_57 : decode cX2_init 57 = .ok (.bipush 16, 2) := by decide +kernel
theorem dX2_init_59 : decode cX2_init 59 = .ok (.newarray .long, 2) := by decide +kernel
theorem dX2_init_61 : decode cX2_init 61 = .ok (.putfield 30, 3) := by decide +kernel
theorem dX2_init_64 : decode cX2_init 64 = .ok (.aload_n 0, 1) := by decide +kernel
theorem dX2_init_65 : decode cX2_init 65 = .ok (.sipush 256, 3) := by decide +kernel
theorem dX2_init_68 : decode cX2_init 68 = .ok (.newarray .long, 2) := by decide +kernel
theorem dX2_init_70 : decode cX2_init 70 = .ok (.putfield 34, 3) := by decide +kernel
theorem dX2_init_73 : decode cX2_init 73 = .ok (.aload_n 0, 1) := by decide +kernel
theorem dX2_init_74 : decode cX2_init 74 = .ok (.invokevirtual 37, 3) := by decide +kernel
theorem dX2_init_77 : decode cX2_init 77 = .ok (.return_, 1) := by decide +kernel
theorem dX2_begin_0 : decode cX2_begin 0 = .ok (.aload_n 0, 1) := by decide +kernel
theorem dX2_begin_1 : decode cX2_begin 1 = .ok (.getfield 9, 3) := by decide +kernel
theorem dX2_begin_4 : decode cX2_begin 4 = .ok (.iconst 0, 1) := by decide +kernel
theorem dX2_begin_5 : decode cX2_begin 5 = .ok (.invokestatic 40, 3) := by decide +kernel
theorem dX2_begin_8 : decode cX2_begin 8 = .ok (.aload_n 0, 1) := by decide +kernel
theorem dX2_begin_9 : decode cX2_begin 9 = .ok (.getfield 15, 3) := by decide +kernel
theorem dX2_begin_12 : decode cX2_begin 12 = .ok (.iconst 0, 1) := by decide +kernel
theorem dX2_begin_13 : decode cX2_begin 13 = .ok (.invokestatic 40, 3) := by decide +kernel
theorem dX2_begin_16 : decode cX2_begin 16 = .ok (.aload_n 0, 1) := by decide +kernel
theorem dX2_begin_17 : decode cX2_begin 17 = .ok (.getfield 18, 3) := by decide +kernel
theorem dX2_begin_20 : decode cX2_begin 20 = .ok (.iconst 0, 1) := by decide +kernel
theorem dX2_begin_21 : decode cX2_begin 21 = .ok (.invokestatic 40, 3) := by decide +kernel
theorem dX2_begin_24 : decode cX2_begin 24 = .ok (.aload_n 0, 1) := by decide +kernel
theorem dX2_begin_25 : decode cX2_begin 25 = .ok (.getfield 21, 3) := by decide +kernel
theorem dX2_begin_28 : decode cX2_begin 28 = .ok (.iconst 0, 1) := by decide +kernel
theorem dX2_begin_29 : decode cX2_begin 29 = .ok (.invokestatic 40, 3) := by decide +kernel
theorem dX2_begin_32 : decode cX2_begin 32 = .ok (.aload_n 0, 1) := by decide +kernel
theorem dX2_begin_33 : decode cX2_begin 33 = .ok (.getfield 24, 3) := by decide +kernel
theorem dX2_begin_36 : decode cX2_begin 36 = .ok (.iconst 1, 1) := by decide +kernel
theorem dX2_begin_37 : decode cX2_begin 37 = .ok (.invokestatic 40, 3) := by decide +kernel
theorem dX2_begin_40 : decode cX2_begin 40 = .ok (.getstatic 46, 3) := by decide +kernel
theorem dX2_begin_43 : decode cX2_begin 43 = .ok (.iconst 0, 1) := by decide +kernel
theorem dX2_begin_44 : decode cX2_begin 44 = .ok (.aload_n 0, 1) := by decide +kernel
theorem dX2_begin_45 : decode cX2_begin 45 = .ok (.getfield 27, 3) := by decide +kernel
theorem dX2_begin_48 : decode cX2_begin 48 = .ok (.iconst 0, 1) := by decide +kernel
theorem dX2_begin_49 : decode cX2_begin 49 = .ok (.bipush 6, 2) := by decide +kernel
theorem dX2_begin_51 : decode cX2_begin 51 = .ok (.invokestatic 49, 3) := by decide +kernel
theorem dX2_begin_54 : decode cX2_begin 54 = .ok (.aload_n 0, 1) := by decide +kernel
theorem dX2_begin_55 : decode cX2_begin 55 = .ok (.getfield 30, 3) := by decide +kernel
theorem dX2_begin_58 : decode cX2_begin 58 = .ok (.lconst 0, 1) := by decide +kernel
theorem dX2_begin_59 : decode cX2_begin 59 = .ok (.invokestatic 55, 3) := by decide +kernel
theorem dX2_begin_62 : decode cX2_begin 62 = .ok (.aload_n 0, 1) := by decide +kernel
theorem dX2_begin_63 : decode cX2_begin 63 = .ok (.getfield 34, 3) := by decide +kernel
theorem dX2_begin_66 : decode cX2_begin 66 = .ok (.lconst 0, 1) := by decide +kernel
theorem dX2_begin_67 : decode cX2_begin 67 = .ok (.invokestatic 55, 3) := by decide +kernel
theorem dX2_begin_70 : decode cX2_begin 70 = .ok (.aload_n 0, 1) := by decide +kernel
theorem dX2_begin_71 : decode cX2_begin 71 = .ok (.iconst 1, 1) := by decide +kernel
theorem dX2_begin_72 : decode cX2_begin 72 = .ok (.putfield 58, 3) := by decide +kernel
theorem dX2_begin_75 : decode cX2_begin 75 = .ok (.return_, 1) := by decide +kernel
theorem dX2_registerB_0 : decode cX2_registerB 0 = .ok (.aload_n 0, 1) := by decide +kernel
theorem dX2_registerB_1 : decode cX2_registerB 1 = .ok (.getfield 21, 3) := by decide +kernel
theorem dX2_registerB_4 : decode cX2_registerB 4 = .ok (.iload_n 1, 1) := by decide +kernel
theorem dX2_registerB_5 : decode cX2_registerB 5 = .ok (.iaload, 1) := by decide +kernel
theorem dX2_registerB_6 : decode cX2_registerB 6 = .ok (.bipush 15, 2) := by decide +kernel
theorem dX2_registerB_8 : decode cX2_registerB 8 = .ok (.iand, 1) := by decide +kernel
theorem dX2_registerB_9 : decode cX2_registerB 9 = .ok (.ireturn, 1) := by decide +kernel
theorem dX3_init_0 : decode cX3_init 0 = .ok (.aload_n 0, 1) := by decide +kernel
theorem dX3_init_1 : decode cX3_init 1 = .ok (.invokespecial 1, 3) := by decide +kernel
theorem dX3_init_4 : decode cX3_init 4 = .ok (.aload_n 0, 1) := by decide +kernel
theorem dX3_init_5 : decode cX3_init 5 = .ok (.new 7, 3) := by decide +kernel
theorem dX3_init_8 : decode cX3_init 8 = .ok (.dup, 1) := by decide +kernel
theorem dX3_init_9 : decode cX3_init 9 = .ok (.invokespecial 9, 3) := by decide +kernel
theorem dX3_init_12 : decode cX3_init 12 = .ok (.putfield 10, 3) := by decide +kernel
theorem dX3_init_15 : decode cX3_init 15 = .ok (.aload_n 0, 1) := by decide +kernel
theorem dX3_init_16 : decode cX3_init 16 = .ok (.new 16, 3) := by decide +kernel
theorem dX3_init_19 : decode cX3_init 19 = .ok (.dup, 1) := by decide +kernel
theorem dX3_init_20 : decode cX3_init 20 = .ok (.aload_n 0, 1) := by decide +kernel
theorem dX3_init_21 : decode cX3_init 21 = .ok (.getfield 10, 3) := by decide +kernel
theorem dX3_init_24 : decode cX3_init 24 = .ok (.invokespecial 18, 3) := by decide +kernel
theorem dX3_init_27 : decode cX3_init 27 = .ok (.putfield 21, 3) := by decide +kernel
theorem dX3_init_30 : decode cX3_init 30 = .ok (.aload_n 0, 1) := by decide +kernel
theorem dX3_init_31 : decode cX3_init 31 = .ok (.new 25, 3) := by decide +kernel
theorem dX3_init_34 : decode cX3_init 34 = .ok (.dup, 1) := by decide +kernel
theorem dX3_init_35 : decode cX3_init 35 = .ok (.aload_n 0, 1) := by decide +kernel
theorem dX3_init_36 : decode cX3_init 36 = .ok (.getfield 10, 3) := by decide +kernel
theorem dX3_init_39 : decode cX3_init 39 = .ok (.aload_n 0, 1) := by decide +kernel
theorem dX3_init_40 : decode cX3_init 40 = .ok (.getfield 21, 3) := by decide +kernel
theorem dX3_init_43 : decode cX3_init 43 = .ok (.invokespecial 27, 3) := by decide +kernel
theorem dX3_init_46 : decode cX3_init 46 = .ok (.putfield 30, 3) := by decide +kernel
theorem dX3_init_49 : decode cX3_init 49 = .ok (.return_, 1) := by decide +kernel
theorem dX3_put_0 : decode cX3_put 0 = .ok (.aload_n 0, 1) := by decide +kernel
theorem dX3_put_1 : decode cX3_put 1 = .ok (.invokevirtual 34, 3) := by decide +kernel
theorem dX3_put_4 : decode cX3_put 4 = .ok (.ifCond .ne 43, 3) := by decide +kernel
theorem dX3_put_7 : decode cX3_put 7 = .ok (.iload_n 1, 1) := by decide +kernel
theorem dX3_put_8 : decode cX3_put 8 = .ok (.sipush 256, 3) := by decide +kernel
theorem dX3_put_11 : decode cX3_put 11 = .ok (.invokestatic 38, 3) := by decide +kernel
theorem dX3_put_14 : decode cX3_put 14 = .ok (.ifCond .eq 33, 3) := by decide +kernel
theorem dX3_put_17 : decode cX3_put 17 = .ok (.iload_n 2, 1) := by decide +kernel
theorem dX3_put_18 : decode cX3_put 18 = .ok (.getstatic 42, 3) := by decide +kernel
theorem dX3_put_21 : decode cX3_put 21 = .ok (.arraylength, 1) := by decide +kernel
theorem dX3_put_22 : decode cX3_put 22 = .ok (.invokestatic 38, 3) := by decide +kernel
theorem dX3_put_25 : decode cX3_put 25 = .ok (.ifCond .eq 22, 3) := by decide +kernel
theorem dX3_put_28 : decode cX3_put 28 = .ok (.iload_n 3, 1) := by decide +kernel
theorem dX3_put_29 : decode cX3_put 29 = .ok (.bipush 16, 2) := by decide +kernel
theorem dX3_put_31 : decode cX3_put 31 = .ok (.invokestatic 38, 3) := by decide +kernel
theorem dX3_put_34 : decode cX3_put 34 = .ok (.ifCond .eq 13, 3) := by decide +kernel
theorem dX3_put_37 : decode cX3_put 37 = .ok (.iload 4, 2) := by decide +kernel
theorem dX3_put_39 : decode cX3_put 39 = .ok (.bipush 16, 2) := by decide +kernel
theorem dX3_put_41 : decode cX3_put 41 = .ok (.invokestatic 38, 3) := by decide +kernel
theorem dX3_put_44 : decode cX3_put 44 = .ok (.ifCond .ne 5, 3) := by decide +kernel
theorem dX3_put_47 : decode cX3_put 47 = .ok (.iconst 0, 1) := by decide +kernel
theorem dX3_put_48 : decode cX3_put 48 = .ok (.ireturn, 1) := by decide +kernel
theorem dX3_put_49 : decode cX3_put 49 = .ok (.aload_n 0, 1) := by decide +kernel
theorem dX3_put_50 : decode cX3_put 50 = .ok (.getfield 10, 3) := by decide +kernel
theorem dX3_put_53 : decode cX3_put 53 = .ok (.getfield 46, 3) := by decide +kernel
theorem dX3_put_56 : decode cX3_put 56 = .ok (.iload_n 1, 1) := by decide +kernel
theorem dX3_put_57 : decode cX3_put 57 = .ok (.iload_n 2, 1) := by decide +kernel
theorem dX3_put_58 : decode cX3_put 58 = .ok (.iastore, 1) := by decide +kernel
theorem dX3_put_59 : decode cX3_put 59 = .ok (.aload_n 0, 1) := by decide +kernel
theorem dX3_put_60 : decode cX3_put 60 = .ok (.getfield 10, 3) := by decide +kernel
theorem dX3_put_63 : decode cX3_put 63 = .ok (.getfield 49, 3) := by decide +kernel
theorem dX3_put_66 : decode cX3_put 66 = .ok (.iload_n 1, 1) := by decide +kernel
theorem dX3_put_67 : decode cX3_put 67 = .ok (.iload_n 3, 1) := by decide +kernel
theorem dX3_put_68 : decode cX3_put 68 = .ok (.iastore, 1) := by decide +kernel
theorem dX3_put_69 : decode cX3_put 69 = .ok (.aload_n 0, 1) := by decide +kernel
theorem dX3_put_70 : decode cX3_put 70 = .ok (.getfield 10, 3) := by decide +kernel
theorem dX3_put_73 : decode cX3_put 73 = .ok (.getfield 52, 3) := by decide +kernel
theorem dX3_put_76 : decode cX3_put 76 = .ok (.iload_n 1, 1) := by decide +kernel
theorem dX3_put_77 : decode cX3_put 77 = .ok (.iload 4, 2) := by decide +kernel
theorem dX3_put_79 : decode cX3_put 79 = .ok (.iastore, 1) := by decide +kernel
theorem dX3_put_80 : decode cX3_put 80 = .ok (.aload_n 0, 1) := by decide +kernel
theorem dX3_put_81 : decode cX3_put 81 = .ok (.getfield 10, 3) := by decide +kernel
theorem dX3_put_84 : decode cX3_put 84 = .ok (.getfield 55, 3) := by decide +kernel
theorem dX3_put_87 : decode cX3_put 87 = .ok (.iload_n 1, 1) := by decide +kernel
theorem dX3_put_88 : decode cX3_put 88 = .ok (.iload 5, 2) := by decide +kernel
theorem dX3_put_90 : decode cX3_put 90 = .ok (.iastore, 1) := by decide +kernel
theorem dX3_put_91 : decode cX3_put 91 = .ok (.iconst 1, 1) := by decide +kernel
theorem dX3_put_92 : decode cX3_put 92 = .ok (.ireturn, 1) := by decide +kernel
theorem dX3_units_0 : decode cX3_units 0 = .ok (.aload_n 0, 1) := by decide +kernel
theorem dX3_units_1 : decode cX3_units 1 = .ok (.invokevirtual 34, 3) := by decide +kernel
theorem dX3_units_4 : decode cX3_units 4 = .ok (.ifCond .ne 21, 3) := by decide +kernel
theorem dX3_units_7 : decode cX3_units 7 = .ok (.iload_n 1, 1) := by decide +kernel
theorem dX3_units_8 : decode cX3_units 8 = .ok (.iconst 4, 1) := by decide +kernel
theorem dX3_units_9 : decode cX3_units 9 = .ok (.invokestatic 38, 3) := by decide +kernel
theorem dX3_units_12 : decode cX3_units 12 = .ok (.ifCond .eq 13, 3) := by decide +kernel
theorem dX3_units_15 : decode cX3_units 15 = .ok (.iload_n 2, 1) := by decide +kernel
theorem dX3_units_16 : decode cX3_units 16 = .ok (.iconst 1, 1) := by decide +kernel
theorem dX3_units_17 : decode cX3_units 17 = .ok (.if_icmp .lt 8, 3) := by decide +kernel
theorem dX3_units_20 : decode cX3_units 20 = .ok (.iload_n 2, 1) := by decide +kernel
theorem dX3_units_21 : decode cX3_units 21 = .ok (.iconst 3, 1) := by decide +kernel
theorem dX3_units_22 : decode cX3_units 22 = .ok (.if_icmp .le 5, 3) := by decide +kernel
theorem dX3_units_25 : decode cX3_units 25 = .ok (.iconst 0, 1) := by decide +kernel
theorem dX3_units_26 : decode cX3_units 26 = .ok (.ireturn, 1) := by decide +kernel
theorem dX3_units_27 : decode cX3_units 27 = .ok (.aload_n 0, 1) := by decide +kernel
theorem dX3_units_28 : decode cX3_units 28 = .ok (.getfield 10, 3) := by decide +kernel
theorem dX3_units_31 : decode cX3_units 31 = .ok (.getfield 58, 3) := by decide +kernel
theorem dX3_units_34 : decode cX3_units 34 = .ok (.iload_n 1, 1) := by decide +kernel
theorem dX3_units_35 : decode cX3_units 35 = .ok (.iload_n 2, 1) := by decide +kernel
theorem dX3_units_36 : decode cX3_units 36 = .ok (.iastore, 1) := by decide +kernel
theorem dX3_units_37 : decode cX3_units 37 = .ok (.iconst 1, 1) := by decide +kernel
theorem dX3_units_38 : decode cX3_units 38 = .ok (.ireturn, 1) := by decide +kernel
theorem dX3_latency_0 : decode cX3_latency 0 = .ok (.aload_n 0, 1) := by decide +kernel
theorem dX3_latency_1 : decode cX3_latency 1 = .ok (.invokevirtual 34, 3) := by decide +kernel
theorem dX3_latency_4 : decode cX3_latency 4 = .ok (.ifCond .ne 23, 3) := by decide +kernel
theorem dX3_latency_7 : decode cX3_latency 7 = .ok (.iload_n 1, 1) := by decide +kernel
theorem dX3_latency_8 : decode cX3_latency 8 = .ok (.bipush 6, 2) := by decide +kernel
theorem dX3_latency_10 : decode cX3_latency 10 = .ok (.invokestatic 38, 3) := by decide +kernel
theorem dX3_latency_13 : decode cX3_latency 13 = .ok (.ifCond .eq 14, 3) := by decide +kernel
theorem dX3_latency_16 : decode cX3_latency 16 = .ok (.iload_n 2, 1) := by decide +kernel
theorem dX3_latency_17 : decode cX3_latency 17 = .ok (.iconst 1, 1) := by decide +kernel
theorem dX3_latency_18 : decode cX3_latency 18 = .ok (.if_icmp .lt 9, 3) := by decide +kernel
theorem dX3_latency_21 : decode cX3_latency 21 = .ok (.iload_n 2, 1) := by decide +kernel
theorem dX3_latency_22 : decode cX3_latency 22 = .ok (.bipush 30, 2) := by decide +kernel
theorem dX3_latency_24 : decode cX3_latency 24 = .ok (.if_icmp .le 5, 3) := by decide +kernel
theorem dX3_latency_27 : decode cX3_latency 27 = .ok (.iconst 0, 1) := by decide +kernel
theorem dX3_latency_28 : decode cX3_latency 28 = .ok (.ireturn, 1) := by decide +kernel
theorem dX3_latency_29 : decode cX3_latency 29 = .ok (.aload_n 0, 1) := by decide +kernel
theorem dX3_latency_30 : decode cX3_latency 30 = .ok (.getfield 10, 3) := by decide +kernel
theorem dX3_latency_33 : decode cX3_latency 33 = .ok (.getfield 61, 3) := by decide +kernel
theorem dX3_latency_36 : decode cX3_latency 36 = .ok (.iload_n 1, 1) := by decide +kernel
theorem dX3_latency_37 : decode cX3_latency 37 = .ok (.iload_n 2, 1) := by decide +kernel
theorem dX3_latency_38 : decode cX3_latency 38 = .ok (.iastore, 1) := by decide +kernel
theorem dX3_latency_39 : decode cX3_latency 39 = .ok (.iconst 1, 1) := by decide +kernel
theorem dX3_latency_40 : decode cX3_latency 40 = .ok (.ireturn, 1) := by decide +kernel
theorem dX3_width_0 : decode cX3_width 0 = .ok (.aload_n 0, 1) := by decide +kernel
theorem dX3_width_1 : decode cX3_width 1 = .ok (.invokevirtual 34, 3) := by decide +kernel
theorem dX3_width_4 : decode cX3_width 4 = .ok (.ifCond .ne 13, 3) := by decide +kernel
theorem dX3_width_7 : decode cX3_width 7 = .ok (.iload_n 1, 1) := by decide +kernel
theorem dX3_width_8 : decode cX3_width 8 = .ok (.iconst 1, 1) := by decide +kernel
theorem dX3_width_9 : decode cX3_width 9 = .ok (.if_icmp .lt 8, 3) := by decide +kernel
theorem dX3_width_12 : decode cX3_width 12 = .ok (.iload_n 1, 1) := by decide +kernel
theorem dX3_width_13 : decode cX3_width 13 = .ok (.iconst 4, 1) := by decide +kernel
theorem dX3_width_14 : decode cX3_width 14 = .ok (.if_icmp .le 5, 3) := by decide +kernel
theorem dX3_width_17 : decode cX3_width 17 = .ok (.iconst 0, 1) := by decide +kernel
theorem dX3_width_18 : decode cX3_width 18 = .ok (.ireturn, 1) := by decide +kernel
theorem dX3_width_19 : decode cX3_width 19 = .ok (.aload_n 0, 1) := by decide +kernel
theorem dX3_width_20 : decode cX3_width 20 = .ok (.getfield 10, 3) := by decide +kernel
theorem dX3_width_23 : decode cX3_width 23 = .ok (.iload_n 1, 1) := by decide +kernel
theorem dX3_width_24 : decode cX3_width 24 = .ok (.putfield 64, 3) := by decide +kernel
theorem dX3_width_27 : decode cX3_width 27 = .ok (.iconst 1, 1) := by decide +kernel
theorem dX3_width_28 : decode cX3_width 28 = .ok (.ireturn, 1) := by decide +kernel
theorem dX3_set_0 : decode cX3_set 0 = .ok (.aload_n 0, 1) := by decide +kernel
theorem dX3_set_1 : decode cX3_set 1 = .ok (.invokevirtual 34, 3) := by decide +kernel
theorem dX3_set_4 : decode cX3_set 4 = .ok (.ifCond .ne 11, 3) := by decide +kernel
theorem dX3_set_7 : decode cX3_set 7 = .ok (.iload_n 1, 1) := by decide +kernel
theorem dX3_set_8 : decode cX3_set 8 = .ok (.iload_n 2, 1) := by decide +kernel
theorem dX3_set_9 : decode cX3_set 9 = .ok (.invokestatic 68, 3) := by decide +kernel
theorem dX3_set_12 : decode cX3_set 12 = .ok (.ifCond .ne 5, 3) := by decide +kernel
theorem dX3_set_15 : decode cX3_set 15 = .ok (.iconst 0, 1) := by decide +kernel
theorem dX3_set_16 : decode cX3_set 16 = .ok (.ireturn, 1) := by decide +kernel
theorem dX3_set_17 : decode cX3_set 17 = .ok (.iload_n 1, 1) := by decide +kernel
theorem dX3_set_18 : decode cX3_set 18 = .ok (.ifCond .ne 26, 3) := by decide +kernel
theorem dX3_set_21 : decode cX3_set 21 = .ok (.aload_n 0, 1) := by decide +kernel
theorem dX3_set_22 : decode cX3_set 22 = .ok (.getfield 10, 3) := by decide +kernel
theorem dX3_set_25 : decode cX3_set 25 = .ok (.getfield 71, 3) := by decide +kernel
theorem dX3_set_28 : decode cX3_set 28 = .ok (.iload_n 2, 1) := by decide +kernel
theorem dX3_set_29 : decode cX3_set 29 = .ok (.lload_n 3, 1) := by decide +kernel
theorem dX3_set_30 : decode cX3_set 30 = .ok (.lastore, 1) := by decide +kernel
theorem dX3_set_31 : decode cX3_set 31 = .ok (.aload_n 0, 1) := by decide +kernel
theorem dX3_set_32 : decode cX3_set 32 = .ok (.getfield 21, 3) := by decide +kernel
theorem dX3_set_35 : decode cX3_set 35 = .ok (.getfield 75, 3) := by decide +kernel
theorem dX3_set_38 : decode cX3_set 38 = .ok (.iload_n 2, 1) := by decide +kernel
theorem dX3_set_39 : decode cX3_set 39 = .ok (.lload_n 3, 1) := by decide +kernel
theorem dX3_set_40 : decode cX3_set 40 = .ok (.lastore, 1) := by decide +kernel
theorem dX3_set_41 : decode cX3_set 41 = .ok (.goto 23, 3) := by decide +kernel
theorem dX3_set_44 : decode cX3_set 44 = .ok (.aload_n 0, 1) := by decide +kernel
theorem dX3_set_45 : decode cX3_set 45 = .ok (.getfield 10, 3) := by decide +kernel
theorem dX3_set_48 : decode cX3_set 48 = .ok (.getfield 76, 3) := by decide +kernel
theorem dX3_set_51 : decode cX3_set 51 = .ok (.iload_n 2, 1) := by decide +kernel
theorem dX3_set_52 : decode cX3_set 52 = .ok (.lload_n 3, 1) := by decide +kernel
theorem dX3_set_53 : decode cX3_set 53 = .ok (.lastore, 1) := by decide +kernel
theorem dX3_set_54 : decode cX3_set 54 = .ok (.aload_n 0, 1) := by decide +kernel
theorem dX3_set_55 : decode cX3_set 55 = .ok (.getfield 21, 3) := by decide +kernel
theorem dX3_set_58 : decode cX3_set 58 = .ok (.getfield 79, 3) := by decide +kernel
theorem dX3_set_61 : decode cX3_set 61 = .ok (.iload_n 2, 1) := by decide +kernel
theorem dX3_set_62 : decode cX3_set 62 = .ok (.lload_n 3, 1) := by decide +kernel
theorem dX3_set_63 : decode cX3_set 63 = .ok (.lastore, 1) := by decide +kernel
theorem dX3_set_64 : decode cX3_set 64 = .ok (.iconst 1, 1) := by decide +kernel
theorem dX3_set_65 : decode cX3_set 65 = .ok (.ireturn, 1) := by decide +kernel
theorem dX3_run_0 : decode cX3_run 0 = .ok (.iload_n 1, 1) := by decide +kernel
theorem dX3_run_1 : decode cX3_run 1 = .ok (.ifCond .lt 10, 3) := by decide +kernel
theorem dX3_run_4 : decode cX3_run 4 = .ok (.iload_n 1, 1) := by decide +kernel
theorem dX3_run_5 : decode cX3_run 5 = .ok (.sipush 3000, 3) := by decide +kernel
theorem dX3_run_8 : decode cX3_run 8 = .ok (.if_icmp .le 5, 3) := by decide +kernel
theorem dX3_run_11 : decode cX3_run 11 = .ok (.iconst (-1), 1) := by decide +kernel
theorem dX3_run_12 : decode cX3_run 12 = .ok (.ireturn, 1) := by decide +kernel
theorem dX3_run_13 : decode cX3_run 13 = .ok (.iconst 0, 1) := by decide +kernel
theorem dX3_run_14 : decode cX3_run 14 = .ok (.istore_n 2, 1) := by decide +kernel
theorem dX3_run_15 : decode cX3_run 15 = .ok (.iload_n 2, 1) := by decide +kernel
theorem dX3_run_16 : decode cX3_run 16 = .ok (.iload_n 1, 1) := by decide +kernel
theorem dX3_run_17 : decode cX3_run 17 = .ok (.if_icmp .ge 26, 3) := by decide +kernel
theorem dX3_run_20 : decode cX3_run 20 = .ok (.aload_n 0, 1) := by decide +kernel
theorem dX3_run_21 : decode cX3_run 21 = .ok (.getfield 30, 3) := by decide +kernel
theorem dX3_run_24 : decode cX3_run 24 = .ok (.getfield 80, 3) := by decide +kernel
theorem dX3_run_27 : decode cX3_run 27 = .ok (.ifCond .ne 16, 3) := by decide +kernel
theorem dX3_run_30 : decode cX3_run 30 = .ok (.aload_n 0, 1) := by decide +kernel
theorem dX3_run_31 : decode cX3_run 31 = .ok (.getfield 30, 3) := by decide +kernel
theorem dX3_run_34 : decode cX3_run 34 = .ok (.invokevirtual 84, 3) := by decide +kernel
theorem dX3_run_37 : decode cX3_run 37 = .ok (.iinc 2 1, 3) := by decide +kernel
theorem dX3_run_40 : decode cX3_run 40 = .ok (.goto (-25), 3) := by decide +kernel
theorem dX3_run_43 : decode cX3_run 43 = .ok (.iload_n 2, 1) := by decide +kernel
theorem dX3_run_44 : decode cX3_run 44 = .ok (.ireturn, 1) := by decide +kernel
theorem dX3_again_0 : decode cX3_again 0 = .ok (.aload_n 0, 1) := by decide +kernel
theorem dX3_again_1 : decode cX3_again 1 = .ok (.getfield 21, 3) := by decide +kernel
theorem dX3_again_4 : decode cX3_again 4 = .ok (.invokevirtual 87, 3) := by decide +kernel
theorem dX3_again_7 : decode cX3_again 7 = .ok (.aload_n 0, 1) := by decide +kernel
theorem dX3_again_8 : decode cX3_again 8 = .ok (.getfield 30, 3) := by decide +kernel
theorem dX3_again_11 : decode cX3_again 11 = .ok (.invokevirtual 90, 3) := by decide +kernel
theorem dX3_again_14 : decode cX3_again 14 = .ok (.return_, 1) := by decide +kernel
theorem dX3_clear_0 : decode cX3_clear 0 = .ok (.aload_n 0, 1) := by decide +kernel
theorem dX3_clear_1 : decode cX3_clear 1 = .ok (.getfield 10, 3) := by decide +kernel
theorem dX3_clear_4 : decode cX3_clear 4 = .ok (.invokevirtual 91, 3) := by decide +kernel
theorem dX3_clear_7 : decode cX3_clear 7 = .ok (.aload_n 0, 1) := by decide +kernel
theorem dX3_clear_8 : decode cX3_clear 8 = .ok (.getfield 21, 3) := by decide +kernel
theorem dX3_clear_11 : decode cX3_clear 11 = .ok (.invokevirtual 87, 3) := by decide +kernel
theorem dX3_clear_14 : decode cX3_clear 14 = .ok (.aload_n 0, 1) := by decide +kernel
theorem dX3_clear_15 : decode cX3_clear 15 = .ok (.getfield 30, 3) := by decide +kernel
theorem dX3_clear_18 : decode cX3_clear 18 = .ok (.invokevirtual 90, 3) := by decide +kernel
theorem dX3_clear_21 : decode cX3_clear 21 = .ok (.return_, 1) := by decide +kernel
theorem dX3_count_0 : decode cX3_count 0 = .ok (.iload_n 1, 1) := by decide +kernel
theorem dX3_count_1 : decode cX3_count 1 = .ok (.tableswitch 166 0 8 #[51, 59, 75, 83, 91, 101, 111, 121, 150], 51) := by decide +kernel
theorem dX3_count_52 : decode cX3_count 52 = .ok (.aload_n 0, 1) := by decide +kernel
theorem dX3_count_53 : decode cX3_count 53 = .ok (.getfield 30, 3) := by decide +kernel
theorem dX3_count_56 : decode cX3_count 56 = .ok (.getfield 92, 3) := by decide +kernel
theorem dX3_count_59 : decode cX3_count 59 = .ok (.ireturn, 1) := by decide +kernel
theorem dX3_count_60 : decode cX3_count 60 = .ok (.aload_n 0, 1) := by decide +kernel
theorem dX3_count_61 : decode cX3_count 61 = .ok (.getfield 30, 3) := by decide +kernel
theorem dX3_count_64 : decode cX3_count 64 = .ok (.getfield 80, 3) := by decide +kernel
theorem dX3_count_67 : decode cX3_count 67 = .ok (.ifCond .eq 7, 3) := by decide +kernel
theorem dX3_count_70 : decode cX3_count 70 = .ok (.iconst 1, 1) := by decide +kernel
theorem dX3_count_71 : decode cX3_count 71 = .ok (.goto 4, 3) := by decide +kernel
theorem dX3_count_74 : decode cX3_count 74 = .ok (.iconst 0, 1) := by decide +kernel
theorem dX3_count_75 : decode cX3_count 75 = .ok (.ireturn, 1) := by decide +kernel
theorem dX3_count_76 : decode cX3_count 76 = .ok (.aload_n 0, 1) := by decide +kernel
theorem dX3_count_77 : decode cX3_count 77 = .ok (.getfield 30, 3) := by decide +kernel
theorem dX3_count_80 : decode cX3_count 80 = .ok (.getfield 95, 3) := by decide +kernel
theorem dX3_count_83 : decode cX3_count 83 = .ok (.ireturn, 1) := by decide +kernel
theorem dX3_count_84 : decode cX3_count 84 = .ok (.aload_n 0, 1) := by decide +kernel
theorem dX3_count_85 : decode cX3_count 85 = .ok (.getfield 30, 3) := by decide +kernel
theorem dX3_count_88 : decode cX3_count 88 = .ok (.invokevirtual 98, 3) := by decide +kernel
theorem dX3_count_91 : decode cX3_count 91 = .ok (.ireturn, 1) := by decide +kernel
theorem dX3_count_92 : decode cX3_count 92 = .ok (.aload_n 0, 1) := by decide +kernel
theorem dX3_count_93 : decode cX3_count 93 = .ok (.getfield 30, 3) := by decide +kernel
theorem dX3_count_96 : decode cX3_count 96 = .ok (.getfield 102, 3) := by decide +kernel
theorem dX3_count_99 : decode cX3_count 99 = .ok (.iconst 1, 1) := by decide +kernel
theorem dX3_count_100 : decode cX3_count 100 = .ok (.iaload, 1) := by decide +kernel
theorem dX3_count_101 : decode cX3_count 101 = .ok (.ireturn, 1) := by decide +kernel
theorem dX3_count_102 : decode cX3_count 102 = .ok (.aload_n 0, 1) := by decide +kernel
theorem dX3_count_103 : decode cX3_count 103 = .ok (.getfield 30, 3) := by decide +kernel
theorem dX3_count_106 : decode cX3_count 106 = .ok (.getfield 102, 3) := by decide +kernel
theorem dX3_count_109 : decode cX3_count 109 = .ok (.iconst 2, 1) := by decide +kernel
theorem dX3_count_110 : decode cX3_count 110 = .ok (.iaload, 1) := by decide +kernel
theorem dX3_count_111 : decode cX3_count 111 = .ok (.ireturn, 1) := by decide +kernel
theorem dX3_count_112 : decode cX3_count 112 = .ok (.aload_n 0, 1) := by decide +kernel
theorem dX3_count_113 : decode cX3_count 113 = .ok (.getfield 30, 3) := by decide +kernel
theorem dX3_count_116 : decode cX3_count 116 = .ok (.getfield 102, 3) := by decide +kernel
theorem dX3_count_119 : decode cX3_count 119 = .ok (.iconst 3, 1) := by decide +kernel
theorem dX3_count_120 : decode cX3_count 120 = .ok (.iaload, 1) := by decide +kernel
theorem dX3_count_121 : decode cX3_count 121 = .ok (.ireturn, 1) := by decide +kernel
theorem dX3_count_122 : decode cX3_count 122 = .ok (.aload_n 0, 1) := by decide +kernel
theorem dX3_count_123 : decode cX3_count 123 = .ok (.getfield 30, 3) := by decide +kernel
theorem dX3_count_126 : decode cX3_count 126 = .ok (.getfield 105, 3) := by decide +kernel
theorem dX3_count_129 : decode cX3_count 129 = .ok (.aload_n 0, 1) := by decide +kernel
theorem dX3_count_130 : decode cX3_count 130 = .ok (.getfield 30, 3) := by decide +kernel
theorem dX3_count_133 : decode cX3_count 133 = .ok (.getfield 92, 3) := by decide +kernel
theorem dX3_count_136 : decode cX3_count 136 = .ok (.if_icmp .le 7, 3) := by decide +kernel
theorem dX3_count_139 : decode cX3_count 139 = .ok (.iconst (-1), 1) := by decide +kernel
theorem dX3_count_140 : decode cX3_count 140 = .ok (.goto 10, 3) := by decide +kernel
theorem dX3_count_143 : decode cX3_count 143 = .ok (.aload_n 0, 1) := by decide +kernel
theorem dX3_count_144 : decode cX3_count 144 = .ok (.getfield 21, 3) := by decide +kernel
theorem dX3_count_147 : decode cX3_count 147 = .ok (.getfield 108, 3) := by decide +kernel
theorem dX3_count_150 : decode cX3_count 150 = .ok (.ireturn, 1) := by decide +kernel
theorem dX3_count_151 : decode cX3_count 151 = .ok (.aload_n 0, 1) := by decide +kernel
theorem dX3_count_152 : decode cX3_count 152 = .ok (.getfield 30, 3) := by decide +kernel
theorem dX3_count_155 : decode cX3_count 155 = .ok (.getfield 95, 3) := by decide +kernel
theorem dX3_count_158 : decode cX3_count 158 = .ok (.aload_n 0, 1) := by decide +kernel
theorem dX3_count_159 : decode cX3_count 159 = .ok (.getfield 30, 3) := by decide +kernel
theorem dX3_count_162 : decode cX3_count 162 = .ok (.invokevirtual 98, 3) := by decide +kernel
theorem dX3_count_165 : decode cX3_count 165 = .ok (.isub, 1) := by decide +kernel
theorem dX3_count_166 : decode cX3_count 166 = .ok (.ireturn, 1) := by decide +kernel
theorem dX3_count_167 : decode cX3_count 167 = .ok (.iconst (-1), 1) := by decide +kernel
theorem dX3_count_168 : decode cX3_count 168 = .ok (.ireturn, 1) := by decide +kernel
theorem dX3_register_0 : decode cX3_register 0 = .ok (.iload_n 1, 1) := by decide +kernel
theorem dX3_register_1 : decode cX3_register 1 = .ok (.bipush 16, 2) := by decide +kernel
theorem dX3_register_3 : decode cX3_register 3 = .ok (.invokestatic 38, 3) := by decide +kernel
theorem dX3_register_6 : decode cX3_register 6 = .ok (.ifCond .ne 13, 3) := by decide +kernel
theorem dX3_register_9 : decode cX3_register 9 = .ok (.new 111, 3) := by decide +kernel
theorem dX3_register_12 : decode cX3_register 12 = .ok (.dup, 1) := by decide +kernel
theorem dX3_register_13 : decode cX3_register 13 = .ok (.ldc 113, 2) := by decide +kernel
theorem dX3_register_15 : decode cX3_register 15 = .ok (.invokespecial 115, 3) := by decide +kernel
theorem dX3_register_18 : decode cX3_register 18 = .ok (.athrow, 1) := by decide +kernel
theorem dX3_register_19 : decode cX3_register 19 = .ok (.aload_n 0, 1) := by decide +kernel
theorem dX3_register_20 : decode cX3_register 20 = .ok (.getfield 30, 3) := by decide +kernel
theorem dX3_register_23 : decode cX3_register 23 = .ok (.iload_n 1, 1) := by decide +kernel
theorem dX3_register_24 : decode cX3_register 24 = .ok (.invokevirtual 118, 3) := by decide +kernel
theorem dX3_register_27 : decode cX3_register 27 = .ok (.lreturn, 1) := by decide +kernel
theorem dX3_memory_0 : decode cX3_memory 0 = .ok (.iload_n 1, 1) := by decide +kernel
theorem dX3_memory_1 : decode cX3_memory 1 = .ok (.sipush 256, 3) := by decide +kernel
theorem dX3_memory_4 : decode cX3_memory 4 = .ok (.invokestatic 38, 3) := by decide +kernel
theorem dX3_memory_7 : decode cX3_memory 7 = .ok (.ifCond .ne 13, 3) := by decide +kernel
theorem dX3_memory_10 : decode cX3_memory 10 = .ok (.new 111, 3) := by decide +kernel
theorem dX3_memory_13 : decode cX3_memory 13 = .ok (.dup, 1) := by decide +kernel
theorem dX3_memory_14 : decode cX3_memory 14 = .ok (.ldc 122, 2) := by decide +kernel
theorem dX3_memory_16 : decode cX3_memory 16 = .ok (.invokespecial 115, 3) := by decide +kernel
theorem dX3_memory_19 : decode cX3_memory 19 = .ok (.athrow, 1) := by decide +kernel
theorem dX3_memory_20 : decode cX3_memory 20 = .ok (.aload_n 0, 1) := by decide +kernel
theorem dX3_memory_21 : decode cX3_memory 21 = .ok (.getfield 30, 3) := by decide +kernel
theorem dX3_memory_24 : decode cX3_memory 24 = .ok (.iload_n 1, 1) := by decide +kernel
theorem dX3_memory_25 : decode cX3_memory 25 = .ok (.invokevirtual 124, 3) := by decide +kernel
theorem dX3_memory_28 : decode cX3_memory 28 = .ok (.lreturn, 1) := by decide +kernel
theorem dX3_plain_0 : decode cX3_plain 0 = .ok (.iload_n 1, 1) := by decide +kernel
theorem dX3_plain_1 : decode cX3_plain 1 = .ok (.iload_n 2, 1) := by decide +kernel
theorem dX3_plain_2 : decode cX3_plain 2 = .ok (.invokestatic 68, 3) := by decide +kernel
theorem dX3_plain_5 : decode cX3_plain 5 = .ok (.ifCond .ne 13, 3) := by decide +kernel
theorem dX3_plain_8 : decode cX3_plain 8 = .ok (.new 111, 3) := by decide +kernel
theorem dX3_plain_11 : decode cX3_plain 11 = .ok (.dup, 1) := by decide +kernel
theorem dX3_plain_12 : decode cX3_plain 12 = .ok (.ldc 127, 2) := by decide +kernel
theorem dX3_plain_14 : decode cX3_plain 14 = .ok (.invokespecial 115, 3) := by decide +kernel
theorem dX3_plain_17 : decode cX3_plain 17 = .ok (.athrow, 1) := by decide +kernel
theorem dX3_plain_18 : decode cX3_plain 18 = .ok (.iload_n 1, 1) := by decide +kernel
theorem dX3_plain_19 : decode cX3_plain 19 = .ok (.ifCond .ne 15, 3) := by decide +kernel
theorem dX3_plain_22 : decode cX3_plain 22 = .ok (.aload_n 0, 1) := by decide +kernel
theorem dX3_plain_23 : decode cX3_plain 23 = .ok (.getfield 21, 3) := by decide +kernel
theorem dX3_plain_26 : decode cX3_plain 26 = .ok (.getfield 75, 3) := by decide +kernel
theorem dX3_plain_29 : decode cX3_plain 29 = .ok (.iload_n 2, 1) := by decide +kernel
theorem dX3_plain_30 : decode cX3_plain 30 = .ok (.laload, 1) := by decide +kernel
theorem dX3_plain_31 : decode cX3_plain 31 = .ok (.goto 12, 3) := by decide +kernel
theorem dX3_plain_34 : decode cX3_plain 34 = .ok (.aload_n 0, 1) := by decide +kernel
theorem dX3_plain_35 : decode cX3_plain 35 = .ok (.getfield 21, 3) := by decide +kernel
theorem dX3_plain_38 : decode cX3_plain 38 = .ok (.getfield 79, 3) := by decide +kernel
theorem dX3_plain_41 : decode cX3_plain 41 = .ok (.iload_n 2, 1) := by decide +kernel
theorem dX3_plain_42 : decode cX3_plain 42 = .ok (.laload, 1) := by decide +kernel
theorem dX3_plain_43 : decode cX3_plain 43 = .ok (.lreturn, 1) := by decide +kernel
theorem dX3_unit_0 : decode cX3_unit 0 = .ok (.iload_n 1, 1) := by decide +kernel
theorem dX3_unit_1 : decode cX3_unit 1 = .ok (.bipush 6, 2) := by decide +kernel
theorem dX3_unit_3 : decode cX3_unit 3 = .ok (.invokestatic 38, 3) := by decide +kernel
theorem dX3_unit_6 : decode cX3_unit 6 = .ok (.ifCond .eq 19, 3) := by decide +kernel
theorem dX3_unit_9 : decode cX3_unit 9 = .ok (.iload_n 2, 1) := by decide +kernel
theorem dX3_unit_10 : decode cX3_unit 10 = .ok (.aload_n 0, 1) := by decide +kernel
theorem dX3_unit_11 : decode cX3_unit 11 = .ok (.getfield 10, 3) := by decide +kernel
theorem dX3_unit_14 : decode cX3_unit 14 = .ok (.getfield 58, 3) := by decide +kernel
theorem dX3_unit_17 : decode cX3_unit 17 = .ok (.iload_n 1, 1) := by decide +kernel
theorem dX3_unit_18 : decode cX3_unit 18 = .ok (.iaload, 1) := by decide +kernel
theorem dX3_unit_19 : decode cX3_unit 19 = .ok (.invokestatic 38, 3) := by decide +kernel
theorem dX3_unit_22 : decode cX3_unit 22 = .ok (.ifCond .ne 5, 3) := by decide +kernel
theorem dX3_unit_25 : decode cX3_unit 25 = .ok (.iconst (-1), 1) := by decide +kernel
theorem dX3_unit_26 : decode cX3_unit 26 = .ok (.ireturn, 1) := by decide +kernel
theorem dX3_unit_27 : decode cX3_unit 27 = .ok (.aload_n 0, 1) := by decide +kernel
theorem dX3_unit_28 : decode cX3_unit 28 = .ok (.getfield 30, 3) := by decide +kernel
theorem dX3_unit_31 : decode cX3_unit 31 = .ok (.iload_n 1, 1) := by decide +kernel
theorem dX3_unit_32 : decode cX3_unit 32 = .ok (.iload_n 2, 1) := by decide +kernel
theorem dX3_unit_33 : decode cX3_unit 33 = .ok (.invokestatic 129, 3) := by decide +kernel
theorem dX3_unit_36 : decode cX3_unit 36 = .ok (.iload_n 3, 1) := by decide +kernel
theorem dX3_unit_37 : decode cX3_unit 37 = .ok (.invokevirtual 133, 3) := by decide +kernel
theorem dX3_unit_40 : decode cX3_unit 40 = .ok (.ireturn, 1) := by decide +kernel
theorem dX3_pending_0 : decode cX3_pending 0 = .ok (.iload_n 1, 1) := by decide +kernel
theorem dX3_pending_1 : decode cX3_pending 1 = .ok (.bipush 16, 2) := by decide +kernel
theorem dX3_pending_3 : decode cX3_pending 3 = .ok (.invokestatic 38, 3) := by decide +kernel
theorem dX3_pending_6 : decode cX3_pending 6 = .ok (.ifCond .ne 5, 3) := by decide +kernel
theorem dX3_pending_9 : decode cX3_pending 9 = .ok (.iconst (-1), 1) := by decide +kernel
theorem dX3_pending_10 : decode cX3_pending 10 = .ok (.ireturn, 1) := by decide +kernel
theorem dX3_pending_11 : decode cX3_pending 11 = .ok (.aload_n 0, 1) := by decide +kernel
theorem dX3_pending_12 : decode cX3_pending 12 = .ok (.getfield 30, 3) := by decide +kernel
theorem dX3_pending_15 : decode cX3_pending 15 = .ok (.getfield 136, 3) := by decide +kernel
theorem dX3_pending_18 : decode cX3_pending 18 = .ok (.iload_n 1, 1) := by decide +kernel
theorem dX3_pending_19 : decode cX3_pending 19 = .ok (.iaload, 1) := by decide +kernel
theorem dX3_pending_20 : decode cX3_pending 20 = .ok (.aload_n 0, 1) := by decide +kernel
theorem dX3_pending_21 : decode cX3_pending 21 = .ok (.getfield 30, 3) := by decide +kernel
theorem dX3_pending_24 : decode cX3_pending 24 = .ok (.getfield 92, 3) := by decide +kernel
theorem dX3_pending_27 : decode cX3_pending 27 = .ok (.if_icmp .le 15, 3) := by decide +kernel
theorem dX3_pending_30 : decode cX3_pending 30 = .ok (.aload_n 0, 1) := by decide +kernel
theorem dX3_pending_31 : decode cX3_pending 31 = .ok (.getfield 30, 3) := by decide +kernel
theorem dX3_pending_34 : decode cX3_pending 34 = .ok (.getfield 139, 3) := by decide +kernel
theorem dX3_pending_37 : decode cX3_pending 37 = .ok (.iload_n 1, 1) := by decide +kernel
theorem dX3_pending_38 : decode cX3_pending 38 = .ok (.iaload, 1) := by decide +kernel
theorem dX3_pending_39 : decode cX3_pending 39 = .ok (.goto 4, 3) := by decide +kernel
theorem dX3_pending_42 : decode cX3_pending 42 = .ok (.iconst (-1), 1) := by decide +kernel
theorem dX3_pending_43 : decode cX3_pending 43 = .ok (.ireturn, 1) := by decide +kernel
theorem dX3_latest_0 : decode cX3_latest 0 = .ok (.iload_n 1, 1) := by decide +kernel
theorem dX3_latest_1 : decode cX3_latest 1 = .ok (.bipush 64, 2) := by decide +kernel
theorem dX3_latest_3 : decode cX3_latest 3 = .ok (.invokestatic 38, 3) := by decide +kernel
theorem dX3_latest_6 : decode cX3_latest 6 = .ok (.ifCond .eq 23, 3) := by decide +kernel
theorem dX3_latest_9 : decode cX3_latest 9 = .ok (.iload_n 1, 1) := by decide +kernel
theorem dX3_latest_10 : decode cX3_latest 10 = .ok (.aload_n 0, 1) := by decide +kernel
theorem dX3_latest_11 : decode cX3_latest 11 = .ok (.getfield 30, 3) := by decide +kernel
theorem dX3_latest_14 : decode cX3_latest 14 = .ok (.getfield 95, 3) := by decide +kernel
theorem dX3_latest_17 : decode cX3_latest 17 = .ok (.if_icmp .ge 12, 3) := by decide +kernel
theorem dX3_latest_20 : decode cX3_latest 20 = .ok (.iload_n 2, 1) := by decide +kernel
theorem dX3_latest_21 : decode cX3_latest 21 = .ok (.bipush 6, 2) := by decide +kernel
theorem dX3_latest_23 : decode cX3_latest 23 = .ok (.invokestatic 38, 3) := by decide +kernel
theorem dX3_latest_26 : decode cX3_latest 26 = .ok (.ifCond .ne 5, 3) := by decide +kernel
theorem dX3_latest_29 : decode cX3_latest 29 = .ok (.iconst (-1), 1) := by decide +kernel
theorem dX3_latest_30 : decode cX3_latest 30 = .ok (.ireturn, 1) := by decide +kernel
theorem dX3_latest_31 : decode cX3_latest 31 = .ok (.aload_n 0, 1) := by decide +kernel
theorem dX3_latest_32 : decode cX3_latest 32 = .ok (.getfield 30, 3) := by decide +kernel
theorem dX3_latest_35 : decode cX3_latest 35 = .ok (.aload_n 0, 1) := by decide +kernel
theorem dX3_latest_36 : decode cX3_latest 36 = .ok (.getfield 30, 3) := by decide +kernel
theorem dX3_latest_39 : decode cX3_latest 39 = .ok (.getfield 95, 3) := by decide +kernel
theorem dX3_latest_42 : decode cX3_latest 42 = .ok (.iconst 1, 1) := by decide +kernel
theorem dX3_latest_43 : decode cX3_latest 43 = .ok (.isub, 1) := by decide +kernel
theorem dX3_latest_44 : decode cX3_latest 44 = .ok (.iload_n 1, 1) := by decide +kernel
theorem dX3_latest_45 : decode cX3_latest 45 = .ok (.isub, 1) := by decide +kernel
theorem dX3_latest_46 : decode cX3_latest 46 = .ok (.iload_n 2, 1) := by decide +kernel
theorem dX3_latest_47 : decode cX3_latest 47 = .ok (.invokevirtual 142, 3) := by decide +kernel
theorem dX3_latest_50 : decode cX3_latest 50 = .ok (.ireturn, 1) := by decide +kernel
theorem dX3_began_0 : decode cX3_began 0 = .ok (.aload_n 0, 1) := by decide +kernel
theorem dX3_began_1 : decode cX3_began 1 = .ok (.getfield 30, 3) := by decide +kernel
theorem dX3_began_4 : decode cX3_began 4 = .ok (.getfield 92, 3) := by decide +kernel
theorem dX3_began_7 : decode cX3_began 7 = .ok (.ifCond .eq 7, 3) := by decide +kernel
theorem dX3_began_10 : decode cX3_began 10 = .ok (.iconst 1, 1) := by decide +kernel
theorem dX3_began_11 : decode cX3_began 11 = .ok (.goto 4, 3) := by decide +kernel
theorem dX3_began_14 : decode cX3_began 14 = .ok (.iconst 0, 1) := by decide +kernel
theorem dX3_began_15 : decode cX3_began 15 = .ok (.ireturn, 1) := by decide +kernel
theorem dX3_within_0 : decode cX3_within 0 = .ok (.iload_n 0, 1) := by decide +kernel
theorem dX3_within_1 : decode cX3_within 1 = .ok (.ifCond .lt 12, 3) := by decide +kernel
theorem dX3_within_4 : decode cX3_within 4 = .ok (.iload_n 0, 1) := by decide +kernel
theorem dX3_within_5 : decode cX3_within 5 = .ok (.iload_n 1, 1) := by decide +kernel
theorem dX3_within_6 : decode cX3_within 6 = .ok (.if_icmp .ge 7, 3) := by decide +kernel
theorem dX3_within_9 : decode cX3_within 9 = .ok (.iconst 1, 1) := by decide +kernel
theorem dX3_within_10 : decode cX3_within 10 = .ok (.goto 4, 3) := by decide +kernel
theorem dX3_within_13 : decode cX3_within 13 = .ok (.iconst 0, 1) := by decide +kernel
theorem dX3_within_14 : decode cX3_within 14 = .ok (.ireturn, 1) := by decide +kernel
theorem dX3_isThere_0 : decode cX3_isThere 0 = .ok (.iload_n 0, 1) := by decide +kernel
theorem dX3_isThere_1 : decode cX3_isThere 1 = .ok (.ifCond .ne 12, 3) := by decide +kernel
theorem dX3_isThere_4 : decode cX3_isThere 4 = .ok (.iload_n 1, 1) := by decide +kernel
theorem dX3_isThere_5 : decode cX3_isThere 5 = .ok (.bipush 16, 2) := by decide +kernel
theorem dX3_isThere_7 : decode cX3_isThere 7 = .ok (.invokestatic 38, 3) := by decide +kernel
theorem dX3_isThere_10 : decode cX3_isThere 10 = .ok (.ifCond .ne 18, 3) := by decide +kernel
theorem dX3_isThere_13 : decode cX3_isThere 13 = .ok (.iload_n 0, 1) := by decide +kernel
theorem dX3_isThere_14 : decode cX3_isThere 14 = .ok (.iconst 1, 1) := by decide +kernel
theorem dX3_isThere_15 : decode cX3_isThere 15 = .ok (.if_icmp .ne 17, 3) := by decide +kernel
theorem dX3_isThere_18 : decode cX3_isThere 18 = .ok (.iload_n 1, 1) := by decide +kernel
theorem dX3_isThere_19 : decode cX3_isThere 19 = .ok (.sipush 256, 3) := by decide +kernel
theorem dX3_isThere_22 : decode cX3_isThere 22 = .ok (.invokestatic 38, 3) := by decide +kernel
theorem dX3_isThere_25 : decode cX3_isThere 25 = .ok (.ifCond .eq 7, 3) := by decide +kernel
theorem dX3_isThere_28 : decode cX3_isThere 28 = .ok (.iconst 1, 1) := by decide +kernel
theorem dX3_isThere_29 : decode cX3_isThere 29 = .ok (.goto 4, 3) := by decide +kernel
theorem dX3_isThere_32 : decode cX3_isThere 32 = .ok (.iconst 0, 1) := by decide +kernel
theorem dX3_isThere_33 : decode cX3_isThere 33 = .ok (.ireturn, 1) := by decide +kernel
theorem dX3_unitRow_0 : decode cX3_unitRow 0 = .ok (.iload_n 0, 1) := by decide +kernel
theorem dX3_unitRow_1 : decode cX3_unitRow 1 = .ok (.iconst 3, 1) := by decide +kernel
theorem dX3_unitRow_2 : decode cX3_unitRow 2 = .ok (.imul, 1) := by decide +kernel
theorem dX3_unitRow_3 : decode cX3_unitRow 3 = .ok (.iload_n 1, 1) := by decide +kernel
theorem dX3_unitRow_4 : decode cX3_unitRow 4 = .ok (.iadd, 1) := by decide +kernel
theorem dX3_unitRow_5 : decode cX3_unitRow 5 = .ok (.ireturn, 1) := by decide +kernel
theorem dX3_readsA_0 : decode cX3_readsA 0 = .ok (.iload_n 0, 1) := by decide +kernel
theorem dX3_readsA_1 : decode cX3_readsA 1 = .ok (.iconst 1, 1) := by decide +kernel
theorem dX3_readsA_2 : decode cX3_readsA 2 = .ok (.if_icmp .lt 19, 3) := by decide +kernel
theorem dX3_readsA_5 : decode cX3_readsA 5 = .ok (.iload_n 0, 1) := by decide +kernel
theorem dX3_readsA_6 : decode cX3_readsA 6 = .ok (.bipush 17, 2) := by decide +kernel
theorem dX3_readsA_8 : decode cX3_readsA 8 = .ok (.if_icmp .gt 13, 3) := by decide +kernel
theorem dX3_readsA_11 : decode cX3_readsA 11 = .ok (.iload_n 0, 1) := by decide +kernel
theorem dX3_readsA_12 : decode cX3_readsA 12 = .ok (.bipush 6, 2) := by decide +kernel
theorem dX3_readsA_14 : decode cX3_readsA 14 = .ok (.if_icmp .eq 7, 3) := by decide +kernel
theorem dX3_readsA_17 : decode cX3_readsA 17 = .ok (.iconst 1, 1) := by decide +kernel
theorem dX3_readsA_18 : decode cX3_readsA 18 = .ok (.goto 4, 3) := by decide +kernel
theorem dX3_readsA_21 : decode cX3_readsA 21 = .ok (.iconst 0, 1) := by decide +kernel
theorem dX3_readsA_22 : decode cX3_readsA 22 = .ok (.ireturn, 1) := by decide +kernel
theorem dX3_readsB_0 : decode cX3_readsB 0 = .ok (.iload_n 0, 1) := by decide +kernel
theorem dX3_readsB_1 : decode cX3_readsB 1 = .ok (.iconst 1, 1) := by decide +kernel
theorem dX3_readsB_2 : decode cX3_readsB 2 = .ok (.if_icmp .lt 8, 3) := by decide +kernel
theorem dX3_readsB_5 : decode cX3_readsB 5 = .ok (.iload_n 0, 1) := by decide +kernel
theorem dX3_readsB_6 : decode cX3_readsB 6 = .ok (.iconst 5, 1) := by decide +kernel
theorem dX3_readsB_7 : decode cX3_readsB 7 = .ok (.if_icmp .le 15, 3) := by decide +kernel
theorem dX3_readsB_10 : decode cX3_readsB 10 = .ok (.iload_n 0, 1) := by decide +kernel
theorem dX3_readsB_11 : decode cX3_readsB 11 = .ok (.bipush 8, 2) := by decide +kernel
theorem dX3_readsB_13 : decode cX3_readsB 13 = .ok (.if_icmp .lt 13, 3) := by decide +kernel
theorem dX3_readsB_16 : decode cX3_readsB 16 = .ok (.iload_n 0, 1) := by decide +kernel
theorem dX3_readsB_17 : decode cX3_readsB 17 = .ok (.bipush 13, 2) := by decide +kernel
theorem dX3_readsB_19 : decode cX3_readsB 19 = .ok (.if_icmp .gt 7, 3) := by decide +kernel
theorem dX3_readsB_22 : decode cX3_readsB 22 = .ok (.iconst 1, 1) := by decide +kernel
theorem dX3_readsB_23 : decode cX3_readsB 23 = .ok (.goto 4, 3) := by decide +kernel
theorem dX3_readsB_26 : decode cX3_readsB 26 = .ok (.iconst 0, 1) := by decide +kernel
theorem dX3_readsB_27 : decode cX3_readsB 27 = .ok (.ireturn, 1) := by decide +kernel
theorem dX3_readsD_0 : decode cX3_readsD 0 = .ok (.iload_n 0, 1) := by decide +kernel
theorem dX3_readsD_1 : decode cX3_readsD 1 = .ok (.bipush 15, 2) := by decide +kernel
theorem dX3_readsD_3 : decode cX3_readsD 3 = .ok (.if_icmp .ne 7, 3) := by decide +kernel
theorem dX3_readsD_6 : decode cX3_readsD 6 = .ok (.iconst 1, 1) := by decide +kernel
theorem dX3_readsD_7 : decode cX3_readsD 7 = .ok (.goto 4, 3) := by decide +kernel
theorem dX3_readsD_10 : decode cX3_readsD 10 = .ok (.iconst 0, 1) := by decide +kernel
theorem dX3_readsD_11 : decode cX3_readsD 11 = .ok (.ireturn, 1) := by decide +kernel
theorem dX3_writesD_0 : decode cX3_writesD 0 = .ok (.iload_n 0, 1) := by decide +kernel
theorem dX3_writesD_1 : decode cX3_writesD 1 = .ok (.iconst 1, 1) := by decide +kernel
theorem dX3_writesD_2 : decode cX3_writesD 2 = .ok (.if_icmp .lt 13, 3) := by decide +kernel
theorem dX3_writesD_5 : decode cX3_writesD 5 = .ok (.iload_n 0, 1) := by decide +kernel
theorem dX3_writesD_6 : decode cX3_writesD 6 = .ok (.bipush 14, 2) := by decide +kernel
theorem dX3_writesD_8 : decode cX3_writesD 8 = .ok (.if_icmp .gt 7, 3) := by decide +kernel
theorem dX3_writesD_11 : decode cX3_writesD 11 = .ok (.iconst 1, 1) := by decide +kernel
theorem dX3_writesD_12 : decode cX3_writesD 12 = .ok (.goto 4, 3) := by decide +kernel
theorem dX3_writesD_15 : decode cX3_writesD 15 = .ok (.iconst 0, 1) := by decide +kernel
theorem dX3_writesD_16 : decode cX3_writesD 16 = .ok (.ireturn, 1) := by decide +kernel
end
section
theorem dX4_init_0 : decode cX4_init 0 = .ok (.aload_n 0, 1) := by decide +kernel
theorem dX4_init_1 : decode cX4_init 1 = .ok (.invokespecial 1, 3) := by decide +kernel
theorem dX4_init_4 : decode cX4_init 4 = .ok (.aload_n 0, 1) := by decide +kernel
theorem dX4_init_5 : decode cX4_init 5 = .ok (.sipush 1024, 3) := by decide +kernel
theorem dX4_init_8 : decode cX4_init 8 = .ok (.newarray .int, 2) := by decide +kernel
theorem dX4_init_10 : decode cX4_init 10 = .ok (.putfield 9, 3) := by decide +kernel
theorem dX4_init_13 : decode cX4_init 13 = .ok (.aload_n 0, 1) := by decide +kernel
theorem dX4_init_14 : decode cX4_init 14 = .ok (.bipush 6, 2) := by decide +kernel
theorem dX4_init_16 : decode cX4_init 16 = .ok (.newarray .int, 2) := by decide +kernel
theorem dX4_init_18 : decode cX4_init 18 = .ok (.putfield 13, 3) := by decide +kernel
theorem dX4_init_21 : decode cX4_init 21 = .ok (.aload_n 0, 1) := by decide +kernel
theorem dX4_init_22 : decode cX4_init 22 = .ok (.bipush 6, 2) := by decide +kernel
theorem dX4_init_24 : decode cX4_init 24 = .ok (.newarray .int, 2) := by decide +kernel
theorem dX4_init_26 : decode cX4_init 26 = .ok (.putfield 16, 3) := by decide +kernel
theorem dX4_init_29 : decode cX4_init 29 = .ok (.aload_n 0, 1) := by decide +kernel
theorem dX4_init_30 : decode cX4_init 30 = .ok (.bipush 16, 2) := by decide +kernel
theorem dX4_init_32 : decode cX4_init 32 = .ok (.newarray .long, 2) := by decide +kernel
theorem dX4_init_34 : decode cX4_init 34 = .ok (.putfield 19, 3) := by decide +kernel
theorem dX4_init_37 : decode cX4_init 37 = .ok (.aload_n 0, 1) := by decide +kernel
theorem dX4_init_38 : decode cX4_init 38 = .ok (.sipush 256, 3) := by decide +kernel
theorem dX4_init_41 : decode cX4_init 41 = .ok (.newarray .long, 2) := by decide +kernel
theorem dX4_init_43 : decode cX4_init 43 = .ok (.putfield 23, 3) := by decide +kernel
theorem dX4_init_46 : decode cX4_init 46 = .ok (.aload_n 0, 1) := by decide +kernel
theorem dX4_init_47 : decode cX4_init 47 = .ok (.bipush 16, 2) := by decide +kernel
theorem dX4_init_49 : decode cX4_init 49 = .ok (.newarray .long, 2) := by decide +kernel
theorem dX4_init_51 : decode cX4_init 51 = .ok (.putfield 26, 3) := by decide +kernel
theorem dX4_init_54 : decode cX4_init 54 = .ok (.aload_n 0, 1) := by decide +kernel
theorem dX4_init_55 : decode cX4_init 55 = .ok (.sipush 256, 3) := by decide +kernel
theorem dX4_init_58 : decode cX4_init 58 = .ok (.newarray .long, 2) := by decide +kernel
theorem dX4_init_60 : decode cX4_init 60 = .ok (.putfield 29, 3) := by decide +kernel
theorem dX4_init_63 : decode cX4_init 63 = .ok (.aload_n 0, 1) := by decide +kernel
theorem dX4_init_64 : decode cX4_init 64 = .ok (.bipush 16, 2) := by decide +kernel
theorem dX4_init_66 : decode cX4_init 66 = .ok (.newarray .long, 2) := by decide +kernel
theorem dX4_init_68 : decode cX4_init 68 = .ok (.putfield 32, 3) := by decide +kernel
theorem dX4_init_71 : decode cX4_init 71 = .ok (.aload_n 0, 1) := by decide +kernel
theorem dX4_init_72 : decode cX4_init 72 = .ok (.sipush 256, 3) := by decide +kernel
theorem dX4_init_75 : decode cX4_init 75 = .ok (.newarray .long, 2) := by decide +kernel
theorem dX4_init_77 : decode cX4_init 77 = .ok (.putfield 35, 3) := by decide +kernel
theorem dX4_init_80 : decode cX4_init 80 = .ok (.aload_n 0, 1) := by decide +kernel
theorem dX4_init_81 : decode cX4_init 81 = .ok (.iconst 3, 1) := by decide +kernel
theorem dX4_init_82 : decode cX4_init 82 = .ok (.newarray .int, 2) := by decide +kernel
theorem dX4_init_84 : decode cX4_init 84 = .ok (.putfield 38, 3) := by decide +kernel
theorem dX4_init_87 : decode cX4_init 87 = .ok (.aload_n 0, 1) := by decide +kernel
theorem dX4_init_88 : decode cX4_init 88 = .ok (.bipush 16, 2) := by decide +kernel
theorem dX4_init_90 : decode cX4_init 90 = .ok (.newarray .int, 2) := by decide +kernel
theorem dX4_init_92 : decode cX4_init 92 = .ok (.putfield 41, 3) := by decide +kernel
theorem dX4_init_95 : decode cX4_init 95 = .ok (.aload_n 0, 1) := by decide +kernel
theorem dX4_init_96 : decode cX4_init 96 = .ok (.bipush 16, 2) := by decide +kernel
theorem dX4_init_98 : decode cX4_init 98 = .ok (.newarray .int, 2) := by decide +kernel
theorem dX4_init_100 : decode cX4_init 100 = .ok (.putfield 44, 3) := by decide +kernel
theorem dX4_init_103 : decode cX4_init 103 = .ok (.aload_n 0, 1) := by decide +kernel
theorem dX4_init_104 : decode cX4_init 104 = .ok (.bipush 16, 2) := by decide +kernel
theorem dX4_init_106 : decode cX4_init 106 = .ok (.newarray .int, 2) := by decide +kernel
theorem dX4_init_108 : decode cX4_init 108 = .ok (.putfield 47, 3) := by decide +kernel
theorem dX4_init_111 : decode cX4_init 111 = .ok (.aload_n 0, 1) := by decide +kernel
theorem dX4_init_112 : decode cX4_init 112 = .ok (.bipush 126, 2) := by decide +kernel
theorem dX4_init_114 : decode cX4_init 114 = .ok (.newarray .int, 2) := by decide +kernel
theorem dX4_init_116 : decode cX4_init 116 = .ok (.putfield 50, 3) := by decide +kernel
theorem dX4_init_119 : decode cX4_init 119 = .ok (.aload_n 0, 1) := by decide +kernel
theorem dX4_init_120 : decode cX4_init 120 = .ok (.bipush 18, 2) := by decide +kernel
theorem dX4_init_122 : decode cX4_init 122 = .ok (.newarray .long, 2) := by decide +kernel
theorem dX4_init_124 : decode cX4_init 124 = .ok (.putfield 53, 3) := by decide +kernel
theorem dX4_init_127 : decode cX4_init 127 = .ok (.aload_n 0, 1) := by decide +kernel
theorem dX4_init_128 : decode cX4_init 128 = .ok (.bipush 18, 2) := by decide +kernel
theorem dX4_init_130 : decode cX4_init 130 = .ok (.newarray .boolean, 2) := by decide +kernel
theorem dX4_init_132 : decode cX4_init 132 = .ok (.putfield 56, 3) := by decide +kernel
theorem dX4_init_135 : decode cX4_init 135 = .ok (.aload_n 0, 1) := by decide +kernel
theorem dX4_init_136 : decode cX4_init 136 = .ok (.sipush 384, 3) := by decide +kernel
theorem dX4_init_139 : decode cX4_init 139 = .ok (.newarray .int, 2) := by decide +kernel
theorem dX4_init_141 : decode cX4_init 141 = .ok (.putfield 60, 3) := by decide +kernel
theorem dX4_init_144 : decode cX4_init 144 = .ok (.aload_n 0, 1) := by decide +kernel
theorem dX4_init_145 : decode cX4_init 145 = .ok (.invokevirtual 63, 3) := by decide +kernel
theorem dX4_init_148 : decode cX4_init 148 = .ok (.return_, 1) := by decide +kernel
theorem dX4_thrown_0 : decode cX4_thrown 0 = .ok (.aload_n 0, 1) := by decide +kernel
theorem dX4_thrown_1 : decode cX4_thrown 1 = .ok (.getfield 66, 3) := by decide +kernel
theorem dX4_thrown_4 : decode cX4_thrown 4 = .ok (.ireturn, 1) := by decide +kernel
theorem dX4_clear_0 : decode cX4_clear 0 = .ok (.aload_n 0, 1) := by decide +kernel
theorem dX4_clear_1 : decode cX4_clear 1 = .ok (.iconst 0, 1) := by decide +kernel
theorem dX4_clear_2 : decode cX4_clear 2 = .ok (.putfield 66, 3) := by decide +kernel
theorem dX4_clear_5 : decode cX4_clear 5 = .ok (.iconst 0, 1) := by decide +kernel
theorem dX4_clear_6 : decode cX4_clear 6 = .ok (.istore_n 1, 1) := by decide +kernel
theorem dX4_clear_7 : decode cX4_clear 7 = .ok (.iload_n 1, 1) := by decide +kernel
theorem dX4_clear_8 : decode cX4_clear 8 = .ok (.sipush 1024, 3) := by decide +kernel
theorem dX4_clear_11 : decode cX4_clear 11 = .ok (.if_icmp .ge 16, 3) := by decide +kernel
theorem dX4_clear_14 : decode cX4_clear 14 = .ok (.aload_n 0, 1) := by decide +kernel
theorem dX4_clear_15 : decode cX4_clear 15 = .ok (.getfield 9, 3) := by decide +kernel
theorem dX4_clear_18 : decode cX4_clear 18 = .ok (.iload_n 1, 1) := by decide +kernel
theorem dX4_clear_19 : decode cX4_clear 19 = .ok (.iconst 0, 1) := by decide +kernel
theorem dX4_clear_20 : decode cX4_clear 20 = .ok (.iastore, 1) := by decide +kernel
theorem dX4_clear_21 : decode cX4_clear 21 = .ok (.iinc 1 1, 3) := by decide +kernel
theorem dX4_clear_24 : decode cX4_clear 24 = .ok (.goto (-17), 3) := by decide +kernel
theorem dX4_clear_27 : decode cX4_clear 27 = .ok (.iconst 0, 1) := by decide +kernel
theorem dX4_clear_28 : decode cX4_clear 28 = .ok (.istore_n 1, 1) := by decide +kernel
theorem dX4_clear_29 : decode cX4_clear 29 = .ok (.iload_n 1, 1) := by decide +kernel
theorem dX4_clear_30 : decode cX4_clear 30 = .ok (.bipush 6, 2) := by decide +kernel
theorem dX4_clear_32 : decode cX4_clear 32 = .ok (.if_icmp .ge 16, 3) := by decide +kernel
theorem dX4_clear_35 : decode cX4_clear 35 = .ok (.aload_n 0, 1) := by decide +kernel
theorem dX4_clear_36 : decode cX4_clear 36 = .ok (.getfield 13, 3) := by decide +kernel
theorem dX4_clear_39 : decode cX4_clear 39 = .ok (.iload_n 1, 1) := by decide +kernel
theorem dX4_clear_40 : decode cX4_clear 40 = .ok (.iconst 1, 1) := by decide +kernel
theorem dX4_clear_41 : decode cX4_clear 41 = .ok (.iastore, 1) := by decide +kernel
theorem dX4_clear_42 : decode cX4_clear 42 = .ok (.iinc 1 1, 3) := by decide +kernel
theorem dX4_clear_45 : decode cX4_clear 45 = .ok (.goto (-16), 3) := by decide +kernel
theorem dX4_clear_48 : decode cX4_clear 48 = .ok (.aload_n 0, 1) := by decide +kernel
theorem dX4_clear_49 : decode cX4_clear 49 = .ok (.getfield 16, 3) := by decide +kernel
theorem dX4_clear_52 : decode cX4_clear 52 = .ok (.iconst 0, 1) := by decide +kernel
theorem dX4_clear_53 : decode cX4_clear 53 = .ok (.iconst 2, 1) := by decide +kernel
theorem dX4_clear_54 : decode cX4_clear 54 = .ok (.iastore, 1) := by decide +kernel
theorem dX4_clear_55 : decode cX4_clear 55 = .ok (.aload_n 0, 1) := by decide +kernel
theorem dX4_clear_56 : decode cX4_clear 56 = .ok (.getfield 16, 3) := by decide +kernel
theorem dX4_clear_59 : decode cX4_clear 59 = .ok (.iconst 1, 1) := by decide +kernel
theorem dX4_clear_60 : decode cX4_clear 60 = .ok (.iconst 1, 1) := by decide +kernel
theorem dX4_clear_61 : decode cX4_clear 61 = .ok (.iastore, 1) := by decide +kernel
theorem dX4_clear_62 : decode cX4_clear 62 = .ok (.aload_n 0, 1) := by decide +kernel
theorem dX4_clear_63 : decode cX4_clear 63 = .ok (.getfield 16, 3) := by decide +kernel
theorem dX4_clear_66 : decode cX4_clear 66 = .ok (.iconst 2, 1) := by decide +kernel
theorem dX4_clear_67 : decode cX4_clear 67 = .ok (.bipush 6, 2) := by decide +kernel
theorem dX4_clear_69 : decode cX4_clear 69 = .ok (.iastore, 1) := by decide +kernel
theorem dX4_clear_70 : decode cX4_clear 70 = .ok (.aload_n 0, 1) := by decide +kernel
theorem dX4_clear_71 : decode cX4_clear 71 = .ok (.getfield 16, 3) := by decide +kernel
theorem dX4_clear_74 : decode cX4_clear 74 = .ok (.iconst 3, 1) := by decide +kernel
theorem dX4_clear_75 : decode cX4_clear 75 = .ok (.bipush 12, 2) := by decide +kernel
theorem dX4_clear_77 : decode cX4_clear 77 = .ok (.iastore, 1) := by decide +kernel
theorem dX4_clear_78 : decode cX4_clear 78 = .ok (.aload_n 0, 1) := by decide +kernel
theorem dX4_clear_79 : decode cX4_clear 79 = .ok (.getfield 16, 3) := by decide +kernel
theorem dX4_clear_82 : decode cX4_clear 82 = .ok (.iconst 4, 1) := by decide +kernel
theorem dX4_clear_83 : decode cX4_clear 83 = .ok (.iconst 3, 1) := by decide +kernel
theorem dX4_clear_84 : decode cX4_clear 84 = .ok (.iastore, 1) := by decide +kernel
theorem dX4_clear_85 : decode cX4_clear 85 = .ok (.aload_n 0, 1) := by decide +kernel
theorem dX4_clear_86 : decode cX4_clear 86 = .ok (.getfield 16, 3) := by decide +kernel
theorem dX4_clear_89 : decode cX4_clear 89 = .ok (.iconst 5, 1) := by decide +kernel
theorem dX4_clear_90 : decode cX4_clear 90 = .ok (.iconst 1, 1) := by decide +kernel
theorem dX4_clear_91 : decode cX4_clear 91 = .ok (.iastore, 1) := by decide +kernel
theorem dX4_clear_92 : decode cX4_clear 92 = .ok (.aload_n 0, 1) := by decide +kernel
theorem dX4_clear_93 : decode cX4_clear 93 = .ok (.iconst 1, 1) := by decide +kernel
theorem dX4_clear_94 : decode cX4_clear 94 = .ok (.putfield 70, 3) := by decide +kernel
theorem dX4_clear_97 : decode cX4_clear 97 = .ok (.iconst 0, 1) := by decide +kernel
theorem dX4_clear_98 : decode cX4_clear 98 = .ok (.istore_n 1, 1) := by decide +kernel
theorem dX4_clear_99 : decode cX4_clear 99 = .ok (.iload_n 1, 1) := by decide +kernel
theorem dX4_clear_100 : decode cX4_clear 100 = .ok (.bipush 16, 2) := by decide +kernel
theorem dX4_clear_102 : decode cX4_clear 102 = .ok (.if_icmp .ge 16, 3) := by decide +kernel
theorem dX4_clear_105 : decode cX4_clear 105 = .ok (.aload_n 0, 1) := by decide +kernel
theorem dX4_clear_106 : decode cX4_clear 106 = .ok (.getfield 19, 3) := by decide +kernel
theorem dX4_clear_109 : decode cX4_clear 109 = .ok (.iload_n 1, 1) := by decide +kernel
theorem dX4_clear_110 : decode cX4_clear 110 = .ok (.lconst 0, 1) := by decide +kernel
theorem dX4_clear_111 : decode cX4_clear 111 = .ok (.lastore, 1) := by decide +kernel
theorem dX4_clear_112 : decode cX4_clear 112 = .ok (.iinc 1 1, 3) := by decide +kernel
theorem dX4_clear_115 : decode cX4_clear 115 = .ok (.goto (-16), 3) := by decide +kernel
theorem dX4_clear_118 : decode cX4_clear 118 = .ok (.iconst 0, 1) := by decide +kernel
theorem dX4_clear_119 : decode cX4_clear 119 = .ok (.istore_n 1, 1) := by decide +kernel
theorem dX4_clear_120 : decode cX4_clear 120 = .ok (.iload_n 1, 1) := by decide +kernel
theorem dX4_clear_121 : decode cX4_clear 121 = .ok (.sipush 256, 3) := by decide +kernel
theorem dX4_clear_124 : decode cX4_clear 124 = .ok (.if_icmp .ge 16, 3) := by decide +kernel
theorem dX4_clear_127 : decode cX4_clear 127 = .ok (.aload_n 0, 1) := by decide +kernel
theorem dX4_clear_128 : decode cX4_clear 128 = .ok (.getfield 23, 3) := by decide +kernel
theorem dX4_clear_131 : decode cX4_clear 131 = .ok (.iload_n 1, 1) := by decide +kernel
theorem dX4_clear_132 : decode cX4_clear 132 = .ok (.lconst 0, 1) := by decide +kernel
theorem dX4_clear_133 : decode cX4_clear 133 = .ok (.lastore, 1) := by decide +kernel
theorem dX4_clear_134 : decode cX4_clear 134 = .ok (.iinc 1 1, 3) := by decide +kernel
theorem dX4_clear_137 : decode cX4_clear 137 = .ok (.goto (-17), 3) := by decide +kernel
theorem dX4_clear_140 : decode cX4_clear 140 = .ok (.aload_n 0, 1) := by decide +kernel
theorem dX4_clear_141 : decode cX4_clear 141 = .ok (.invokevirtual 73, 3) := by decide +kernel
theorem dX4_clear_144 : decode cX4_clear 144 = .ok (.return_, 1) := by decide +kernel
theorem dX4_again_0 : decode cX4_again 0 = .ok (.aload_n 0, 1) := by decide +kernel
theorem dX4_again_1 : decode cX4_again 1 = .ok (.iconst 0, 1) := by decide +kernel
theorem dX4_again_2 : decode cX4_again 2 = .ok (.putfield 66, 3) := by decide +kernel
theorem dX4_again_5 : decode cX4_again 5 = .ok (.aload_n 0, 1) := by decide +kernel
theorem dX4_again_6 : decode cX4_again 6 = .ok (.iconst 0, 1) := by decide +kernel
theorem dX4_again_7 : decode cX4_again 7 = .ok (.putfield 76, 3) := by decide +kernel
theorem dX4_again_10 : decode cX4_again 10 = .ok (.aload_n 0, 1) := by decide +kernel
theorem dX4_again_11 : decode cX4_again 11 = .ok (.iconst 0, 1) := by decide +kernel
theorem dX4_again_12 : decode cX4_again 12 = .ok (.putfield 79, 3) := by decide +kernel
theorem dX4_again_15 : decode cX4_again 15 = .ok (.aload_n 0, 1) := by decide +kernel
theorem dX4_again_16 : decode cX4_again 16 = .ok (.iconst 0, 1) := by decide +kernel
theorem dX4_again_17 : decode cX4_again 17 = .ok (.putfield 83, 3) := by decide +kernel
theorem dX4_again_20 : decode cX4_again 20 = .ok (.aload_n 0, 1) := by decide +kernel
theorem dX4_again_21 : decode cX4_again 21 = .ok (.iconst 0, 1) := by decide +kernel
theorem dX4_again_22 : decode cX4_again 22 = .ok (.putfield 86, 3) := by decide +kernel
theorem dX4_again_25 : decode cX4_again 25 = .ok (.aload_n 0, 1) := by decide +kernel
theorem dX4_again_26 : decode cX4_again 26 = .ok (.iconst 0, 1) := by decide +kernel
theorem dX4_again_27 : decode cX4_again 27 = .ok (.putfield 89, 3) := by decide +kernel
theorem dX4_again_30 : decode cX4_again 30 = .ok (.aload_n 0, 1) := by decide +kernel
theorem dX4_again_31 : decode cX4_again 31 = .ok (.iconst 0, 1) := by decide +kernel
theorem dX4_again_32 : decode cX4_again 32 = .ok (.putfield 92, 3) := by decide +kernel
theorem dX4_again_35 : decode cX4_again 35 = .ok (.aload_n 0, 1) := by decide +kernel
theorem dX4_again_36 : decode cX4_again 36 = .ok (.iconst 0, 1) := by decide +kernel
theorem dX4_again_37 : decode cX4_again 37 = .ok (.putfield 95, 3) := by decide +kernel
theorem dX4_again_40 : decode cX4_again 40 = .ok (.aload_n 0, 1) := by decide +kernel
theorem dX4_again_41 : decode cX4_again 41 = .ok (.iconst 0, 1) := by decide +kernel
theorem dX4_again_42 : decode cX4_again 42 = .ok (.putfield 98, 3) := by decide +kernel
theorem dX4_again_45 : decode cX4_again 45 = .ok (.iconst 0, 1) := by decide +kernel
theorem dX4_again_46 : decode cX4_again 46 = .ok (.istore_n 1, 1) := by decide +kernel
theorem dX4_again_47 : decode cX4_again 47 = .ok (.iload_n 1, 1) := by decide +kernel
theorem dX4_again_48 : decode cX4_again 48 = .ok (.iconst 3, 1) := by decide +kernel
theorem dX4_again_49 : decode cX4_again 49 = .ok (.if_icmp .ge 16, 3) := by decide +kernel
theorem dX4_again_52 : decode cX4_again 52 = .ok (.aload_n 0, 1) := by decide +kernel
theorem dX4_again_53 : decode cX4_again 53 = .ok (.getfield 38, 3) := by decide +kernel
theorem dX4_again_56 : decode cX4_again 56 = .ok (.iload_n 1, 1) := by decide +kernel
theorem dX4_again_57 : decode cX4_again 57 = .ok (.iconst 0, 1) := by decide +kernel
theorem dX4_again_58 : decode cX4_again 58 = .ok (.iastore, 1) := by decide +kernel
theorem dX4_again_59 : decode cX4_again 59 = .ok (.iinc 1 1, 3) := by decide +kernel
theorem dX4_again_62 : decode cX4_again 62 = .ok (.goto (-15), 3) := by decide +kernel
theorem dX4_again_65 : decode cX4_again 65 = .ok (.iconst 0, 1) := by decide +kernel
theorem dX4_again_66 : decode cX4_again 66 = .ok (.istore_n 1, 1) := by decide +kernel
theorem dX4_again_67 : decode cX4_again 67 = .ok (.iload_n 1, 1) := by decide +kernel
theorem dX4_again_68 : decode cX4_again 68 = .ok (.bipush 16, 2) := by decide +kernel
theorem dX4_again_70 : decode cX4_again 70 = .ok (.if_icmp .ge 54, 3) := by decide +kernel
theorem dX4_again_73 : decode cX4_again 73 = .ok (.aload_n 0, 1) := by decide +kernel
theorem dX4_again_74 : decode cX4_again 74 = .ok (.getfield 26, 3) := by decide +kernel
theorem dX4_again_77 : decode cX4_again 77 = .ok (.iload_n 1, 1) := by decide +kernel
theorem dX4_again_78 : decode cX4_again 78 = .ok (.aload_n 0, 1) := by decide +kernel
theorem dX4_again_79 : decode cX4_again 79 = .ok (.getfield 19, 3) := by decide +kernel
theorem dX4_again_82 : decode cX4_again 82 = .ok (.iload_n 1, 1) := by decide +kernel
theorem dX4_again_83 : decode cX4_again 83 = .ok (.laload, 1) := by decide +kernel
theorem dX4_again_84 : decode cX4_again 84 = .ok (.lastore, 1) := by decide +kernel
theorem dX4_again_85 : decode cX4_again 85 = .ok (.aload_n 0, 1) := by decide +kernel
theorem dX4_again_86 : decode cX4_again 86 = .ok (.getfield 32, 3) := by decide +kernel
theorem dX4_again_89 : decode cX4_again 89 = .ok (.iload_n 1, 1) := by decide +kernel
theorem dX4_again_90 : decode cX4_again 90 = .ok (.aload_n 0, 1) := by decide +kernel
theorem dX4_again_91 : decode cX4_again 91 = .ok (.getfield 19, 3) := by decide +kernel
theorem dX4_again_94 : decode cX4_again 94 = .ok (.iload_n 1, 1) := by decide +kernel
theorem dX4_again_95 : decode cX4_again 95 = .ok (.laload, 1) := by decide +kernel
theorem dX4_again_96 : decode cX4_again 96 = .ok (.lastore, 1) := by decide +kernel
theorem dX4_again_97 : decode cX4_again 97 = .ok (.aload_n 0, 1) := by decide +kernel
theorem dX4_again_98 : decode cX4_again 98 = .ok (.getfield 41, 3) := by decide +kernel
theorem dX4_again_101 : decode cX4_again 101 = .ok (.iload_n 1, 1) := by decide +kernel
theorem dX4_again_102 : decode cX4_again 102 = .ok (.iconst 0, 1) := by decide +kernel
theorem dX4_again_103 : decode cX4_again 103 = .ok (.iastore, 1) := by decide +kernel
theorem dX4_again_104 : decode cX4_again 104 = .ok (.aload_n 0, 1) := by decide +kernel
theorem dX4_again_105 : decode cX4_again 105 = .ok (.getfield 44, 3) := by decide +kernel
theorem dX4_again_108 : decode cX4_again 108 = .ok (.iload_n 1, 1) := by decide +kernel
theorem dX4_again_109 : decode cX4_again 109 = .ok (.iconst (-1), 1) := by decide +kernel
theorem dX4_again_110 : decode cX4_again 110 = .ok (.iastore, 1) := by decide +kernel
theorem dX4_again_111 : decode cX4_again 111 = .ok (.aload_n 0, 1) := by decide +kernel
theorem dX4_again_112 : decode cX4_again 112 = .ok (.getfield 47, 3) := by decide +kernel
theorem dX4_again_115 : decode cX4_again 115 = .ok (.iload_n 1, 1) := by decide +kernel
theorem dX4_again_116 : decode cX4_again 116 = .ok (.iconst 0, 1) := by decide +kernel
theorem dX4_again_117 : decode cX4_again 117 = .ok (.iastore, 1) := by decide +kernel
theorem dX4_again_118 : decode cX4_again 118 = .ok (.iinc 1 1, 3) := by decide +kernel
theorem dX4_again_121 : decode cX4_again 121 = .ok (.goto (-54), 3) := by decide +kernel
theorem dX4_again_124 : decode cX4_again 124 = .ok (.iconst 0, 1) := by decide +kernel
theorem dX4_again_125 : decode cX4_again 125 = .ok (.istore_n 1, 1) := by decide +kernel
theorem dX4_again_126 : decode cX4_again 126 = .ok (.iload_n 1, 1) := by decide +kernel
theorem dX4_again_127 : decode cX4_again 127 = .ok (.sipush 256, 3) := by decide +kernel
theorem dX4_again_130 : decode cX4_again 130 = .ok (.if_icmp .ge 33, 3) := by decide +kernel
theorem dX4_again_133 : decode cX4_again 133 = .ok (.aload_n 0, 1) := by decide +kernel
theorem dX4_again_134 : decode cX4_again 134 = .ok (.getfield 29, 3) := by decide +kernel
theorem dX4_again_137 : decode cX4_again 137 = .ok (.iload_n 1, 1) := by decide +kernel
theorem dX4_again_138 : decode cX4_again 138 = .ok (.aload_n 0, 1) := by decide +kernel
theorem dX4_again_139 : decode cX4_again 139 = .ok (.getfield 23, 3) := by decide +kernel
theorem dX4_again_142 : decode cX4_again 142 = .ok (.iload_n 1, 1) := by decide +kernel
theorem dX4_again_143 : decode cX4_again 143 = .ok (.laload, 1) := by decide +kernel
theorem dX4_again_144 : decode cX4_again 144 = .ok (.lastore, 1) := by decide +kernel
theorem dX4_again_145 : decode cX4_again 145 = .ok (.aload_n 0, 1) := by decide +kernel
theorem dX4_again_146 : decode cX4_again 146 = .ok (.getfield 35, 3) := by decide +kernel
theorem dX4_again_149 : decode cX4_again 149 = .ok (.iload_n 1, 1) := by decide +kernel
theorem dX4_again_150 : decode cX4_again 150 = .ok (.aload_n 0, 1) := by decide +kernel
theorem dX4_again_151 : decode cX4_again 151 = .ok (.getfield 23, 3) := by decide +kernel
theorem dX4_again_154 : decode cX4_again 154 = .ok (.iload_n 1, 1) := by decide +kernel
theorem dX4_again_155 : decode cX4_again 155 = .ok (.laload, 1) := by decide +kernel
theorem dX4_again_156 : decode cX4_again 156 = .ok (.lastore, 1) := by decide +kernel
theorem dX4_again_157 : decode cX4_again 157 = .ok (.iinc 1 1, 3) := by decide +kernel
theorem dX4_again_160 : decode cX4_again 160 = .ok (.goto (-34), 3) := by decide +kernel
theorem dX4_again_163 : decode cX4_again 163 = .ok (.iconst 0, 1) := by decide +kernel
theorem dX4_again_164 : decode cX4_again 164 = .ok (.istore_n 1, 1) := by decide +kernel
theorem dX4_again_165 : decode cX4_again 165 = .ok (.iload_n 1, 1) := by decide +kernel
theorem dX4_again_166 : decode cX4_again 166 = .ok (.bipush 18, 2) := by decide +kernel
theorem dX4_again_168 : decode cX4_again 168 = .ok (.if_icmp .ge 28, 3) := by decide +kernel
theorem dX4_again_171 : decode cX4_again 171 = .ok (.aload_n 0, 1) := by decide +kernel
theorem dX4_again_172 : decode cX4_again 172 = .ok (.getfield 56, 3) := by decide +kernel
theorem dX4_again_175 : decode cX4_again 175 = .ok (.iload_n 1, 1) := by decide +kernel
theorem dX4_again_176 : decode cX4_again 176 = .ok (.iconst 0, 1) := by decide +kernel
theorem dX4_again_177 : decode cX4_again 177 = .ok (.bastore, 1) := by decide +kernel
theorem dX4_again_178 : decode cX4_again 178 = .ok (.aload_n 0, 1) := by decide +kernel
theorem dX4_again_179 : decode cX4_again 179 = .ok (.getfield 50, 3) := by decide +kernel
theorem dX4_again_182 : decode cX4_again 182 = .ok (.bipush 7, 2) := by decide +kernel
theorem dX4_again_184 : decode cX4_again 184 = .ok (.iload_n 1, 1) := by decide +kernel
theorem dX4_again_185 : decode cX4_again 185 = .ok (.imul, 1) := by decide +kernel
theorem dX4_again_186 : decode cX4_again 186 = .ok (.iconst 5, 1) := by decide +kernel
theorem dX4_again_187 : decode cX4_again 187 = .ok (.iadd, 1) := by decide +kernel
theorem dX4_again_188 : decode cX4_again 188 = .ok (.iconst 0, 1) := by decide +kernel
theorem dX4_again_189 : decode cX4_again 189 = .ok (.iastore, 1) := by decide +kernel
theorem dX4_again_190 : decode cX4_again 190 = .ok (.iinc 1 1, 3) := by decide +kernel
theorem dX4_again_193 : decode cX4_again 193 = .ok (.goto (-28), 3) := by decide +kernel
theorem dX4_again_196 : decode cX4_again 196 = .ok (.return_, 1) := by decide +kernel
theorem dX4_put_0 : decode cX4_put 0 = .ok (.aload_n 0, 1) := by decide +kernel
theorem dX4_put_1 : decode cX4_put 1 = .ok (.iconst 0, 1) := by decide +kernel
theorem dX4_put_2 : decode cX4_put 2 = .ok (.putfield 66, 3) := by decide +kernel
theorem dX4_put_5 : decode cX4_put 5 = .ok (.aload_n 0, 1) := by decide +kernel
theorem dX4_put_6 : decode cX4_put 6 = .ok (.getfield 76, 3) := by decide +kernel
theorem dX4_put_9 : decode cX4_put 9 = .ok (.ifCond .gt 46, 3) := by decide +kernel
theorem dX4_put_12 : decode cX4_put 12 = .ok (.iload_n 1, 1) := by decide +kernel
theorem dX4_put_13 : decode cX4_put 13 = .ok (.ifCond .lt 42, 3) := by decide +kernel
theorem dX4_put_16 : decode cX4_put 16 = .ok (.iload_n 1, 1) := by decide +kernel
theorem dX4_put_17 : decode cX4_put 17 = .ok (.sipush 256, 3) := by decide +kernel
theorem dX4_put_20 : decode cX4_put 20 = .ok (.if_icmp .ge 35, 3) := by decide +kernel
theorem dX4_put_23 : decode cX4_put 23 = .ok (.iload_n 2, 1) := by decide +kernel
theorem dX4_put_24 : decode cX4_put 24 = .ok (.ifCond .lt 31, 3) := by decide +kernel
theorem dX4_put_27 : decode cX4_put 27 = .ok (.iload_n 2, 1) := by decide +kernel
theorem dX4_put_28 : decode cX4_put 28 = .ok (.bipush 18, 2) := by decide +kernel
theorem dX4_put_30 : decode cX4_put 30 = .ok (.if_icmp .gt 25, 3) := by decide +kernel
theorem dX4_put_33 : decode cX4_put 33 = .ok (.iload_n 3, 1) := by decide +kernel
theorem dX4_put_34 : decode cX4_put 34 = .ok (.ifCond .lt 21, 3) := by decide +kernel
theorem dX4_put_37 : decode cX4_put 37 = .ok (.iload_n 3, 1) := by decide +kernel
theorem dX4_put_38 : decode cX4_put 38 = .ok (.bipush 15, 2) := by decide +kernel
theorem dX4_put_40 : decode cX4_put 40 = .ok (.if_icmp .gt 15, 3) := by decide +kernel
theorem dX4_put_43 : decode cX4_put 43 = .ok (.iload 4, 2) := by decide +kernel
theorem dX4_put_45 : decode cX4_put 45 = .ok (.ifCond .lt 10, 3) := by decide +kernel
theorem dX4_put_48 : decode cX4_put 48 = .ok (.iload 4, 2) := by decide +kernel
theorem dX4_put_50 : decode cX4_put 50 = .ok (.bipush 15, 2) := by decide +kernel
theorem dX4_put_52 : decode cX4_put 52 = .ok (.if_icmp .le 5, 3) := by decide +kernel
theorem dX4_put_55 : decode cX4_put 55 = .ok (.iconst 0, 1) := by decide +kernel
theorem dX4_put_56 : decode cX4_put 56 = .ok (.ireturn, 1) := by decide +kernel
theorem dX4_put_57 : decode cX4_put 57 = .ok (.aload_n 0, 1) := by decide +kernel
theorem dX4_put_58 : decode cX4_put 58 = .ok (.getfield 9, 3) := by decide +kernel
theorem dX4_put_61 : decode cX4_put 61 = .ok (.iconst 4, 1) := by decide +kernel
theorem dX4_put_62 : decode cX4_put 62 = .ok (.iload_n 1, 1) := by decide +kernel
theorem dX4_put_63 : decode cX4_put 63 = .ok (.imul, 1) := by decide +kernel
theorem dX4_put_64 : decode cX4_put 64 = .ok (.iload_n 2, 1) := by decide +kernel
theorem dX4_put_65 : decode cX4_put 65 = .ok (.iastore, 1) := by decide +kernel
theorem dX4_put_66 : decode cX4_put 66 = .ok (.aload_n 0, 1) := by decide +kernel
theorem dX4_put_67 : decode cX4_put 67 = .ok (.getfield 9, 3) := by decide +kernel
theorem dX4_put_70 : decode cX4_put 70 = .ok (.iconst 4, 1) := by decide +kernel
theorem dX4_put_71 : decode cX4_put 71 = .ok (.iload_n 1, 1) := by decide +kernel
theorem dX4_put_72 : decode cX4_put 72 = .ok (.imul, 1) := by decide +kernel
theorem dX4_put_73 : decode cX4_put 73 = .ok (.iconst 1, 1) := by decide +kernel
theorem dX4_put_74 : decode cX4_put 74 = .ok (.iadd, 1) := by decide +kernel
theorem dX4_put_75 : decode cX4_put 75 = .ok (.iload_n 3, 1) := by decide +kernel
theorem dX4_put_76 : decode cX4_put 76 = .ok (.iastore, 1) := by decide +kernel
theorem dX4_put_77 : decode cX4_put 77 = .ok (.aload_n 0, 1) := by decide +kernel
theorem dX4_put_78 : decode cX4_put 78 = .ok (.getfield 9, 3) := by decide +kernel
theorem dX4_put_81 : decode cX4_put 81 = .ok (.iconst 4, 1) := by decide +kernel
theorem dX4_put_82 : decode cX4_put 82 = .ok (.iload_n 1, 1) := by decide +kernel
theorem dX4_put_83 : decode cX4_put 83 = .ok (.imul, 1) := by decide +kernel
theorem dX4_put_84 : decode cX4_put 84 = .ok (.iconst 2, 1) := by decide +kernel
theorem dX4_put_85 : decode cX4_put 85 = .ok (.iadd, 1) := by decide +kernel
theorem dX4_put_86 : decode cX4_put 86 = .ok (.iload 4, 2) := by decide +kernel
theorem dX4_put_88 : decode cX4_put 88 = .ok (.iastore, 1) := by decide +kernel
theorem dX4_put_89 : decode cX4_put 89 = .ok (.aload_n 0, 1) := by decide +kernel
theorem dX4_put_90 : decode cX4_put 90 = .ok (.getfield 9, 3) := by decide +kernel
theorem dX4_put_93 : decode cX4_put 93 = .ok (.iconst 4, 1) := by decide +kernel
theorem dX4_put_94 : decode cX4_put 94 = .ok (.iload_n 1, 1) := by decide +kernel
theorem dX4_put_95 : decode cX4_put 95 = .ok (.imul, 1) := by decide +kernel
theorem dX4_put_96 : decode cX4_put 96 = .ok (.iconst 3, 1) := by decide +kernel
theorem dX4_put_97 : decode cX4_put 97 = .ok (.iadd, 1) := by decide +kernel
theorem dX4_put_98 : decode cX4_put 98 = .ok (.iload 5, 2) := by decide +kernel
theorem dX4_put_100 : decode cX4_put 100 = .ok (.iastore, 1) := by decide +kernel
theorem dX4_put_101 : decode cX4_put 101 = .ok (.iconst 1, 1) := by decide +kernel
theorem dX4_put_102 : decode cX4_put 102 = .ok (.ireturn, 1) := by decide +kernel
theorem dX4_units_0 : decode cX4_units 0 = .ok (.aload_n 0, 1) := by decide +kernel
theorem dX4_units_1 : decode cX4_units 1 = .ok (.iconst 0, 1) := by decide +kernel
theorem dX4_units_2 : decode cX4_units 2 = .ok (.putfield 66, 3) := by decide +kernel
theorem dX4_units_5 : decode cX4_units 5 = .ok (.aload_n 0, 1) := by decide +kernel
theorem dX4_units_6 : decode cX4_units 6 = .ok (.getfield 76, 3) := by decide +kernel
theorem dX4_units_9 : decode cX4_units 9 = .ok (.ifCond .gt 22, 3) := by decide +kernel
theorem dX4_units_12 : decode cX4_units 12 = .ok (.iload_n 1, 1) := by decide +kernel
theorem dX4_units_13 : decode cX4_units 13 = .ok (.ifCond .lt 18, 3) := by decide +kernel
theorem dX4_units_16 : decode cX4_units 16 = .ok (.iload_n 1, 1) := by decide +kernel
theorem dX4_units_17 : decode cX4_units 17 = .ok (.iconst 3, 1) := by decide +kernel
theorem dX4_units_18 : decode cX4_units 18 = .ok (.if_icmp .gt 13, 3) := by decide +kernel
theorem dX4_units_21 : decode cX4_units 21 = .ok (.iload_n 2, 1) := by decide +kernel
theorem dX4_units_22 : decode cX4_units 22 = .ok (.iconst 1, 1) := by decide +kernel
theorem dX4_units_23 : decode cX4_units 23 = .ok (.if_icmp .lt 8, 3) := by decide +kernel
theorem dX4_units_26 : decode cX4_units 26 = .ok (.iload_n 2, 1) := by decide +kernel
theorem dX4_units_27 : decode cX4_units 27 = .ok (.iconst 3, 1) := by decide +kernel
theorem dX4_units_28 : decode cX4_units 28 = .ok (.if_icmp .le 5, 3) := by decide +kernel
theorem dX4_units_31 : decode cX4_units 31 = .ok (.iconst 0, 1) := by decide +kernel
theorem dX4_units_32 : decode cX4_units 32 = .ok (.ireturn, 1) := by decide +kernel
theorem dX4_units_33 : decode cX4_units 33 = .ok (.aload_n 0, 1) := by decide +kernel
theorem dX4_units_34 : decode cX4_units 34 = .ok (.getfield 13, 3) := by decide +kernel
theorem dX4_units_37 : decode cX4_units 37 = .ok (.iload_n 1, 1) := by decide +kernel
theorem dX4_units_38 : decode cX4_units 38 = .ok (.iload_n 2, 1) := by decide +kernel
theorem dX4_units_39 : decode cX4_units 39 = .ok (.iastore, 1) := by decide +kernel
theorem dX4_units_40 : decode cX4_units 40 = .ok (.iconst 1, 1) := by decide +kernel
theorem dX4_units_41 : decode cX4_units 41 = .ok (.ireturn, 1) := by decide +kernel
theorem dX4_latency_0 : decode cX4_latency 0 = .ok (.aload_n 0, 1) := by decide +kernel
theorem dX4_latency_1 : decode cX4_latency 1 = .ok (.iconst 0, 1) := by decide +kernel
theorem dX4_latency_2 : decode cX4_latency 2 = .ok (.putfield 66, 3) := by decide +kernel
theorem dX4_latency_5 : decode cX4_latency 5 = .ok (.aload_n 0, 1) := by decide +kernel
theorem dX4_latency_6 : decode cX4_latency 6 = .ok (.getfield 76, 3) := by decide +kernel
theorem dX4_latency_9 : decode cX4_latency 9 = .ok (.ifCond .gt 23, 3) := by decide +kernel
theorem dX4_latency_12 : decode cX4_latency 12 = .ok (.iload_n 1, 1) := by decide +kernel
theorem dX4_latency_13 : decode cX4_latency 13 = .ok (.ifCond .lt 19, 3) := by decide +kernel
theorem dX4_latency_16 : decode cX4_latency 16 = .ok (.iload_n 1, 1) := by decide +kernel
theorem dX4_latency_17 : decode cX4_latency 17 = .ok (.iconst 5, 1) := by decide +kernel
theorem dX4_latency_18 : decode cX4_latency 18 = .ok (.if_icmp .gt 14, 3) := by decide +kernel
theorem dX4_latency_21 : decode cX4_latency 21 = .ok (.iload_n 2, 1) := by decide +kernel
theorem dX4_latency_22 : decode cX4_latency 22 = .ok (.iconst 1, 1) := by decide +kernel
theorem dX4_latency_23 : decode cX4_latency 23 = .ok (.if_icmp .lt 9, 3) := by decide +kernel
theorem dX4_latency_26 : decode cX4_latency 26 = .ok (.iload_n 2, 1) := by decide +kernel
theorem dX4_latency_27 : decode cX4_latency 27 = .ok (.bipush 30, 2) := by decide +kernel
theorem dX4_latency_29 : decode cX4_latency 29 = .ok (.if_icmp .le 5, 3) := by decide +kernel
theorem dX4_latency_32 : decode cX4_latency 32 = .ok (.iconst 0, 1) := by decide +kernel
theorem dX4_latency_33 : decode cX4_latency 33 = .ok (.ireturn, 1) := by decide +kernel
theorem dX4_latency_34 : decode cX4_latency 34 = .ok (.aload_n 0, 1) := by decide +kernel
theorem dX4_latency_35 : decode cX4_latency 35 = .ok (.getfield 16, 3) := by decide +kernel
theorem dX4_latency_38 : decode cX4_latency 38 = .ok (.iload_n 1, 1) := by decide +kernel
theorem dX4_latency_39 : decode cX4_latency 39 = .ok (.iload_n 2, 1) := by decide +kernel
theorem dX4_latency_40 : decode cX4_latency 40 = .ok (.iastore, 1) := by decide +kernel
theorem dX4_latency_41 : decode cX4_latency 41 = .ok (.iconst 1, 1) := by decide +kernel
theorem dX4_latency_42 : decode cX4_latency 42 = .ok (.ireturn, 1) := by decide +kernel
theorem dX4_width_0 : decode cX4_width 0 = .ok (.aload_n 0, 1) := by decide +kernel
theorem dX4_width_1 : decode cX4_width 1 = .ok (.iconst 0, 1) := by decide +kernel
theorem dX4_width_2 : decode cX4_width 2 = .ok (.putfield 66, 3) := by decide +kernel
theorem dX4_width_5 : decode cX4_width 5 = .ok (.aload_n 0, 1) := by decide +kernel
theorem dX4_width_6 : decode cX4_width 6 = .ok (.getfield 76, 3) := by decide +kernel
theorem dX4_width_9 : decode cX4_width 9 = .ok (.ifCond .gt 13, 3) := by decide +kernel
theorem dX4_width_12 : decode cX4_width 12 = .ok (.iload_n 1, 1) := by decide +kernel
theorem dX4_width_13 : decode cX4_width 13 = .ok (.iconst 1, 1) := by decide +kernel
theorem dX4_width_14 : decode cX4_width 14 = .ok (.if_icmp .lt 8, 3) := by decide +kernel
theorem dX4_width_17 : decode cX4_width 17 = .ok (.iload_n 1, 1) := by decide +kernel
theorem dX4_width_18 : decode cX4_width 18 = .ok (.iconst 4, 1) := by decide +kernel
theorem dX4_width_19 : decode cX4_width 19 = .ok (.if_icmp .le 5, 3) := by decide +kernel
theorem dX4_width_22 : decode cX4_width 22 = .ok (.iconst 0, 1) := by decide +kernel
theorem dX4_width_23 : decode cX4_width 23 = .ok (.ireturn, 1) := by decide +kernel
theorem dX4_width_24 : decode cX4_width 24 = .ok (.aload_n 0, 1) := by decide +kernel
theorem dX4_width_25 : decode cX4_width 25 = .ok (.iload_n 1, 1) := by decide +kernel
theorem dX4_width_26 : decode cX4_width 26 = .ok (.putfield 70, 3) := by decide +kernel
theorem dX4_width_29 : decode cX4_width 29 = .ok (.iconst 1, 1) := by decide +kernel
theorem dX4_width_30 : decode cX4_width 30 = .ok (.ireturn, 1) := by decide +kernel
theorem dX4_set_0 : decode cX4_set 0 = .ok (.aload_n 0, 1) := by decide +kernel
theorem dX4_set_1 : decode cX4_set 1 = .ok (.iconst 0, 1) := by decide +kernel
theorem dX4_set_2 : decode cX4_set 2 = .ok (.putfield 66, 3) := by decide +kernel
theorem dX4_set_5 : decode cX4_set 5 = .ok (.aload_n 0, 1) := by decide +kernel
theorem dX4_set_6 : decode cX4_set 6 = .ok (.getfield 76, 3) := by decide +kernel
theorem dX4_set_9 : decode cX4_set 9 = .ok (.ifCond .gt 32, 3) := by decide +kernel
theorem dX4_set_12 : decode cX4_set 12 = .ok (.iload_n 1, 1) := by decide +kernel
theorem dX4_set_13 : decode cX4_set 13 = .ok (.ifCond .lt 28, 3) := by decide +kernel
theorem dX4_set_16 : decode cX4_set 16 = .ok (.iload_n 1, 1) := by decide +kernel
theorem dX4_set_17 : decode cX4_set 17 = .ok (.iconst 1, 1) := by decide +kernel
theorem dX4_set_18 : decode cX4_set 18 = .ok (.if_icmp .gt 23, 3) := by decide +kernel
theorem dX4_set_21 : decode cX4_set 21 = .ok (.iload_n 2, 1) := by decide +kernel
theorem dX4_set_22 : decode cX4_set 22 = .ok (.ifCond .lt 19, 3) := by decide +kernel
theorem dX4_set_25 : decode cX4_set 25 = .ok (.iload_n 2, 1) := by decide +kernel
theorem dX4_set_26 : decode cX4_set 26 = .ok (.iload_n 1, 1) := by decide +kernel
theorem dX4_set_27 : decode cX4_set 27 = .ok (.ifCond .ne 8, 3) := by decide +kernel
theorem dX4_set_30 : decode cX4_set 30 = .ok (.bipush 16, 2) := by decide +kernel
theorem dX4_set_32 : decode cX4_set 32 = .ok (.goto 6, 3) := by decide +kernel
theorem dX4_set_35 : decode cX4_set 35 = .ok (.sipush 256, 3) := by decide +kernel
theorem dX4_set_38 : decode cX4_set 38 = .ok (.if_icmp .lt 5, 3) := by decide +kernel
theorem dX4_set_41 : decode cX4_set 41 = .ok (.iconst 0, 1) := by decide +kernel
theorem dX4_set_42 : decode cX4_set 42 = .ok (.ireturn, 1) := by decide +kernel
theorem dX4_set_43 : decode cX4_set 43 = .ok (.iload_n 1, 1) := by decide +kernel
theorem dX4_set_44 : decode cX4_set 44 = .ok (.ifCond .ne 27, 3) := by decide +kernel
theorem dX4_set_47 : decode cX4_set 47 = .ok (.aload_n 0, 1) := by decide +kernel
theorem dX4_set_48 : decode cX4_set 48 = .ok (.getfield 19, 3) := by decide +kernel
theorem dX4_set_51 : decode cX4_set 51 = .ok (.iload_n 2, 1) := by decide +kernel
theorem dX4_set_52 : decode cX4_set 52 = .ok (.lload_n 3, 1) := by decide +kernel
theorem dX4_set_53 : decode cX4_set 53 = .ok (.lastore, 1) := by decide +kernel
theorem dX4_set_54 : decode cX4_set 54 = .ok (.aload_n 0, 1) := by decide +kernel
theorem dX4_set_55 : decode cX4_set 55 = .ok (.getfield 32, 3) := by decide +kernel
theorem dX4_set_58 : decode cX4_set 58 = .ok (.iload_n 2, 1) := by decide +kernel
theorem dX4_set_59 : decode cX4_set 59 = .ok (.lload_n 3, 1) := by decide +kernel
theorem dX4_set_60 : decode cX4_set 60 = .ok (.lastore, 1) := by decide +kernel
theorem dX4_set_61 : decode cX4_set 61 = .ok (.aload_n 0, 1) := by decide +kernel
theorem dX4_set_62 : decode cX4_set 62 = .ok (.getfield 26, 3) := by decide +kernel
theorem dX4_set_65 : decode cX4_set 65 = .ok (.iload_n 2, 1) := by decide +kernel
theorem dX4_set_66 : decode cX4_set 66 = .ok (.lload_n 3, 1) := by decide +kernel
theorem dX4_set_67 : decode cX4_set 67 = .ok (.lastore, 1) := by decide +kernel
theorem dX4_set_68 : decode cX4_set 68 = .ok (.goto 24, 3) := by decide +kernel
theorem dX4_set_71 : decode cX4_set 71 = .ok (.aload_n 0, 1) := by decide +kernel
theorem dX4_set_72 : decode cX4_set 72 = .ok (.getfield 23, 3) := by decide +kernel
theorem dX4_set_75 : decode cX4_set 75 = .ok (.iload_n 2, 1) := by decide +kernel
theorem dX4_set_76 : decode cX4_set 76 = .ok (.lload_n 3, 1) := by decide +kernel
theorem dX4_set_77 : decode cX4_set 77 = .ok (.lastore, 1) := by decide +kernel
theorem dX4_set_78 : decode cX4_set 78 = .ok (.aload_n 0, 1) := by decide +kernel
theorem dX4_set_79 : decode cX4_set 79 = .ok (.getfield 35, 3) := by decide +kernel
theorem dX4_set_82 : decode cX4_set 82 = .ok (.iload_n 2, 1) := by decide +kernel
theorem dX4_set_83 : decode cX4_set 83 = .ok (.lload_n 3, 1) := by decide +kernel
theorem dX4_set_84 : decode cX4_set 84 = .ok (.lastore, 1) := by decide +kernel
theorem dX4_set_85 : decode cX4_set 85 = .ok (.aload_n 0, 1) := by decide +kernel
theorem dX4_set_86 : decode cX4_set 86 = .ok (.getfield 29, 3) := by decide +kernel
theorem dX4_set_89 : decode cX4_set 89 = .ok (.iload_n 2, 1) := by decide +kernel
theorem dX4_set_90 : decode cX4_set 90 = .ok (.lload_n 3, 1) := by decide +kernel
theorem dX4_set_91 : decode cX4_set 91 = .ok (.lastore, 1) := by decide +kernel
theorem dX4_set_92 : decode cX4_set 92 = .ok (.iconst 1, 1) := by decide +kernel
theorem dX4_set_93 : decode cX4_set 93 = .ok (.ireturn, 1) := by decide +kernel
theorem dX4_kindOf_0 : decode cX4_kindOf 0 = .ok (.iload_n 0, 1) := by decide +kernel
theorem dX4_kindOf_1 : decode cX4_kindOf 1 = .ok (.bipush 8, 2) := by decide +kernel
theorem dX4_kindOf_3 : decode cX4_kindOf 3 = .ok (.if_icmp .ge 7, 3) := by decide +kernel
theorem dX4_kindOf_6 : decode cX4_kindOf 6 = .ok (.iconst 0, 1) := by decide +kernel
theorem dX4_kindOf_7 : decode cX4_kindOf 7 = .ok (.goto 44, 3) := by decide +kernel
theorem dX4_kindOf_10 : decode cX4_kindOf 10 = .ok (.iload_n 0, 1) := by decide +kernel
theorem dX4_kindOf_11 : decode cX4_kindOf 11 = .ok (.bipush 11, 2) := by decide +kernel
theorem dX4_kindOf_13 : decode cX4_kindOf 13 = .ok (.if_icmp .ge 7, 3) := by decide +kernel
theorem dX4_kindOf_16 : decode cX4_kindOf 16 = .ok (.iconst 1, 1) := by decide +kernel
theorem dX4_kindOf_17 : decode cX4_kindOf 17 = .ok (.goto 34, 3) := by decide +kernel
theorem dX4_kindOf_20 : decode cX4_kindOf 20 = .ok (.iload_n 0, 1) := by decide +kernel
theorem dX4_kindOf_21 : decode cX4_kindOf 21 = .ok (.bipush 11, 2) := by decide +kernel
theorem dX4_kindOf_23 : decode cX4_kindOf 23 = .ok (.if_icmp .ne 7, 3) := by decide +kernel
theorem dX4_kindOf_26 : decode cX4_kindOf 26 = .ok (.iconst 2, 1) := by decide +kernel
theorem dX4_kindOf_27 : decode cX4_kindOf 27 = .ok (.goto 24, 3) := by decide +kernel
theorem dX4_kindOf_30 : decode cX4_kindOf 30 = .ok (.iload_n 0, 1) := by decide +kernel
theorem dX4_kindOf_31 : decode cX4_kindOf 31 = .ok (.bipush 14, 2) := by decide +kernel
theorem dX4_kindOf_33 : decode cX4_kindOf 33 = .ok (.if_icmp .ge 7, 3) := by decide +kernel
theorem dX4_kindOf_36 : decode cX4_kindOf 36 = .ok (.iconst 3, 1) := by decide +kernel
theorem dX4_kindOf_37 : decode cX4_kindOf 37 = .ok (.goto 14, 3) := by decide +kernel
theorem dX4_kindOf_40 : decode cX4_kindOf 40 = .ok (.iload_n 0, 1) := by decide +kernel
theorem dX4_kindOf_41 : decode cX4_kindOf 41 = .ok (.bipush 16, 2) := by decide +kernel
theorem dX4_kindOf_43 : decode cX4_kindOf 43 = .ok (.if_icmp .ge 7, 3) := by decide +kernel
theorem dX4_kindOf_46 : decode cX4_kindOf 46 = .ok (.iconst 4, 1) := by decide +kernel
theorem dX4_kindOf_47 : decode cX4_kindOf 47 = .ok (.goto 4, 3) := by decide +kernel
theorem dX4_kindOf_50 : decode cX4_kindOf 50 = .ok (.iconst 5, 1) := by decide +kernel
theorem dX4_kindOf_51 : decode cX4_kindOf 51 = .ok (.ireturn, 1) := by decide +kernel
theorem dX4_writes_0 : decode cX4_writes 0 = .ok (.iload_n 0, 1) := by decide +kernel
theorem dX4_writes_1 : decode cX4_writes 1 = .ok (.bipush 15, 2) := by decide +kernel
theorem dX4_writes_3 : decode cX4_writes 3 = .ok (.if_icmp .ge 7, 3) := by decide +kernel
theorem dX4_writes_6 : decode cX4_writes 6 = .ok (.iconst 1, 1) := by decide +kernel
theorem dX4_writes_7 : decode cX4_writes 7 = .ok (.goto 4, 3) := by decide +kernel
theorem dX4_writes_10 : decode cX4_writes 10 = .ok (.iconst 0, 1) := by decide +kernel
theorem dX4_writes_11 : decode cX4_writes 11 = .ok (.ireturn, 1) := by decide +kernel
theorem dX4_readsA_0 : decode cX4_readsA 0 = .ok (.iload_n 0, 1) := by decide +kernel
theorem dX4_readsA_1 : decode cX4_readsA 1 = .ok (.bipush 6, 2) := by decide +kernel
theorem dX4_readsA_3 : decode cX4_readsA 3 = .ok (.if_icmp .eq 13, 3) := by decide +kernel
theorem dX4_readsA_6 : decode cX4_readsA 6 = .ok (.iload_n 0, 1) := by decide +kernel
theorem dX4_readsA_7 : decode cX4_readsA 7 = .ok (.bipush 18, 2) := by decide +kernel
theorem dX4_readsA_9 : decode cX4_readsA 9 = .ok (.if_icmp .eq 7, 3) := by decide +kernel
theorem dX4_readsA_12 : decode cX4_readsA 12 = .ok (.iconst 1, 1) := by decide +kernel
theorem dX4_readsA_13 : decode cX4_readsA 13 = .ok (.goto 4, 3) := by decide +kernel
theorem dX4_readsA_16 : decode cX4_readsA 16 = .ok (.iconst 0, 1) := by decide +kernel
theorem dX4_readsA_17 : decode cX4_readsA 17 = .ok (.ireturn, 1) := by decide +kernel
theorem dX4_readsB_0 : decode cX4_readsB 0 = .ok (.iload_n 0, 1) := by decide +kernel
theorem dX4_readsB_1 : decode cX4_readsB 1 = .ok (.bipush 6, 2) := by decide +kernel
theorem dX4_readsB_3 : decode cX4_readsB 3 = .ok (.if_icmp .lt 15, 3) := by decide +kernel
theorem dX4_readsB_6 : decode cX4_readsB 6 = .ok (.iload_n 0, 1) := by decide +kernel
theorem dX4_readsB_7 : decode cX4_readsB 7 = .ok (.bipush 7, 2) := by decide +kernel
theorem dX4_readsB_9 : decode cX4_readsB 9 = .ok (.if_icmp .le 13, 3) := by decide +kernel
theorem dX4_readsB_12 : decode cX4_readsB 12 = .ok (.iload_n 0, 1) := by decide +kernel
theorem dX4_readsB_13 : decode cX4_readsB 13 = .ok (.bipush 14, 2) := by decide +kernel
theorem dX4_readsB_15 : decode cX4_readsB 15 = .ok (.if_icmp .ge 7, 3) := by decide +kernel
theorem dX4_readsB_18 : decode cX4_readsB 18 = .ok (.iconst 1, 1) := by decide +kernel
theorem dX4_readsB_19 : decode cX4_readsB 19 = .ok (.goto 4, 3) := by decide +kernel
theorem dX4_readsB_22 : decode cX4_readsB 22 = .ok (.iconst 0, 1) := by decide +kernel
theorem dX4_readsB_23 : decode cX4_readsB 23 = .ok (.ireturn, 1) := by decide +kernel
theorem dX4_code_0 : decode cX4_code 0 = .ok (.aload_n 0, 1) := by decide +kernel
theorem dX4_code_1 : decode cX4_code 1 = .ok (.getfield 9, 3) := by decide +kernel
theorem dX4_code_4 : decode cX4_code 4 = .ok (.iconst 4, 1) := by decide +kernel
theorem dX4_code_5 : decode cX4_code 5 = .ok (.aload_n 0, 1) := by decide +kernel
theorem dX4_code_6 : decode cX4_code 6 = .ok (.getfield 86, 3) := by decide +kernel
theorem dX4_code_9 : decode cX4_code 9 = .ok (.imul, 1) := by decide +kernel
theorem dX4_code_10 : decode cX4_code 10 = .ok (.iaload, 1) := by decide +kernel
theorem dX4_code_11 : decode cX4_code 11 = .ok (.ireturn, 1) := by decide +kernel
theorem dX4_registerB_0 : decode cX4_registerB 0 = .ok (.aload_n 0, 1) := by decide +kernel
theorem dX4_registerB_1 : decode cX4_registerB 1 = .ok (.getfield 9, 3) := by decide +kernel
theorem dX4_registerB_4 : decode cX4_registerB 4 = .ok (.iconst 4, 1) := by decide +kernel
theorem dX4_registerB_5 : decode cX4_registerB 5 = .ok (.aload_n 0, 1) := by decide +kernel
theorem dX4_registerB_6 : decode cX4_registerB 6 = .ok (.getfield 86, 3) := by decide +kernel
theorem dX4_registerB_9 : decode cX4_registerB 9 = .ok (.imul, 1) := by decide +kernel
theorem dX4_registerB_10 : decode cX4_registerB 10 = .ok (.iconst 3, 1) := by decide +kernel
theorem dX4_registerB_11 : decode cX4_registerB 11 = .ok (.iadd, 1) := by decide +kernel
theorem dX4_registerB_12 : decode cX4_registerB 12 = .ok (.iaload, 1) := by decide +kernel
theorem dX4_registerB_13 : decode cX4_registerB 13 = .ok (.bipush 16, 2) := by decide +kernel
theorem dX4_registerB_15 : decode cX4_registerB 15 = .ok (.irem, 1) := by decide +kernel
theorem dX4_registerB_16 : decode cX4_registerB 16 = .ok (.istore_n 1, 1) := by decide +kernel
theorem dX4_registerB_17 : decode cX4_registerB 17 = .ok (.iload_n 1, 1) := by decide +kernel
theorem dX4_registerB_18 : decode cX4_registerB 18 = .ok (.ifCond .ge 10, 3) := by decide +kernel
theorem dX4_registerB_21 : decode cX4_registerB 21 = .ok (.iload_n 1, 1) := by decide +kernel
theorem dX4_registerB_22 : decode cX4_registerB 22 = .ok (.bipush 16, 2) := by decide +kernel
theorem dX4_registerB_24 : decode cX4_registerB 24 = .ok (.iadd, 1) := by decide +kernel
theorem dX4_registerB_25 : decode cX4_registerB 25 = .ok (.goto 4, 3) := by decide +kernel
theorem dX4_registerB_28 : decode cX4_registerB 28 = .ok (.iload_n 1, 1) := by decide +kernel
theorem dX4_registerB_29 : decode cX4_registerB 29 = .ok (.ireturn, 1) := by decide +kernel
theorem dX4_unitWritten_0 : decode cX4_unitWritten 0 = .ok (.aload_n 0, 1) := by decide +kernel
theorem dX4_unitWritten_1 : decode cX4_unitWritten 1 = .ok (.getfield 50, 3) := by decide +kernel
theorem dX4_unitWritten_4 : decode cX4_unitWritten 4 = .ok (.bipush 21, 2) := by decide +kernel
theorem dX4_unitWritten_6 : decode cX4_unitWritten 6 = .ok (.iload_n 1, 1) := by decide +kernel
theorem dX4_unitWritten_7 : decode cX4_unitWritten 7 = .ok (.imul, 1) := by decide +kernel
theorem dX4_unitWritten_8 : decode cX4_unitWritten 8 = .ok (.iconst 5, 1) := by decide +kernel
theorem dX4_unitWritten_9 : decode cX4_unitWritten 9 = .ok (.iadd, 1) := by decide +kernel
theorem dX4_unitWritten_10 : decode cX4_unitWritten 10 = .ok (.iaload, 1) := by decide +kernel
theorem dX4_unitWritten_11 : decode cX4_unitWritten 11 = .ok (.istore_n 2, 1) := by decide +kernel
theorem dX4_unitWritten_12 : decode cX4_unitWritten 12 = .ok (.iconst 1, 1) := by decide +kernel
theorem dX4_unitWritten_13 : decode cX4_unitWritten 13 = .ok (.istore_n 3, 1) := by decide +kernel
theorem dX4_unitWritten_14 : decode cX4_unitWritten 14 = .ok (.iload_n 3, 1) := by decide +kernel
theorem dX4_unitWritten_15 : decode cX4_unitWritten 15 = .ok (.aload_n 0, 1) := by decide +kernel
theorem dX4_unitWritten_16 : decode cX4_unitWritten 16 = .ok (.getfield 13, 3) := by decide +kernel
theorem dX4_unitWritten_19 : decode cX4_unitWritten 19 = .ok (.iload_n 1, 1) := by decide +kernel
theorem dX4_unitWritten_20 : decode cX4_unitWritten 20 = .ok (.iaload, 1) := by decide +kernel
theorem dX4_unitWritten_21 : decode cX4_unitWritten 21 = .ok (.if_icmp .ge 39, 3) := by decide +kernel
theorem dX4_unitWritten_24 : decode cX4_unitWritten 24 = .ok (.aload_n 0, 1) := by decide +kernel
theorem dX4_unitWritten_25 : decode cX4_unitWritten 25 = .ok (.getfield 50, 3) := by decide +kernel
theorem dX4_unitWritten_28 : decode cX4_unitWritten 28 = .ok (.bipush 7, 2) := by decide +kernel
theorem dX4_unitWritten_30 : decode cX4_unitWritten 30 = .ok (.iconst 3, 1) := by decide +kernel
theorem dX4_unitWritten_31 : decode cX4_unitWritten 31 = .ok (.iload_n 1, 1) := by decide +kernel
theorem dX4_unitWritten_32 : decode cX4_unitWritten 32 = .ok (.imul, 1) := by decide +kernel
theorem dX4_unitWritten_33 : decode cX4_unitWritten 33 = .ok (.iload_n 3, 1) := by decide +kernel
theorem dX4_unitWritten_34 : decode cX4_unitWritten 34 = .ok (.iadd, 1) := by decide +kernel
theorem dX4_unitWritten_35 : decode cX4_unitWritten 35 = .ok (.imul, 1) := by decide +kernel
theorem dX4_unitWritten_36 : decode cX4_unitWritten 36 = .ok (.iconst 5, 1) := by decide +kernel
theorem dX4_unitWritten_37 : decode cX4_unitWritten 37 = .ok (.iadd, 1) := by decide +kernel
theorem dX4_unitWritten_38 : decode cX4_unitWritten 38 = .ok (.iaload, 1) := by decide +kernel
theorem dX4_unitWritten_39 : decode cX4_unitWritten 39 = .ok (.istore 4, 2) := by decide +kernel
theorem dX4_unitWritten_41 : decode cX4_unitWritten 41 = .ok (.iload 4, 2) := by decide +kernel
theorem dX4_unitWritten_43 : decode cX4_unitWritten 43 = .ok (.iload_n 2, 1) := by decide +kernel
theorem dX4_unitWritten_44 : decode cX4_unitWritten 44 = .ok (.if_icmp .ge 8, 3) := by decide +kernel
theorem dX4_unitWritten_47 : decode cX4_unitWritten 47 = .ok (.iload 4, 2) := by decide +kernel
theorem dX4_unitWritten_49 : decode cX4_unitWritten 49 = .ok (.goto 4, 3) := by decide +kernel
theorem dX4_unitWritten_52 : decode cX4_unitWritten 52 = .ok (.iload_n 2, 1) := by decide +kernel
theorem dX4_unitWritten_53 : decode cX4_unitWritten 53 = .ok (.istore_n 2, 1) := by decide +kernel
theorem dX4_unitWritten_54 : decode cX4_unitWritten 54 = .ok (.iinc 3 1, 3) := by decide +kernel
theorem dX4_unitWritten_57 : decode cX4_unitWritten 57 = .ok (.goto (-43), 3) := by decide +kernel
theorem dX4_unitWritten_60 : decode cX4_unitWritten 60 = .ok (.iload_n 2, 1) := by decide +kernel
theorem dX4_unitWritten_61 : decode cX4_unitWritten 61 = .ok (.ireturn, 1) := by decide +kernel
theorem dX4_begins_0 : decode cX4_begins 0 = .ok (.aload_n 0, 1) := by decide +kernel
theorem dX4_begins_1 : decode cX4_begins 1 = .ok (.getfield 83, 3) := by decide +kernel
theorem dX4_begins_4 : decode cX4_begins 4 = .ok (.ifCond .ne 5, 3) := by decide +kernel
theorem dX4_begins_7 : decode cX4_begins 7 = .ok (.iconst 1, 1) := by decide +kernel
theorem dX4_begins_8 : decode cX4_begins 8 = .ok (.ireturn, 1) := by decide +kernel
theorem dX4_begins_9 : decode cX4_begins 9 = .ok (.aload_n 0, 1) := by decide +kernel
theorem dX4_begins_10 : decode cX4_begins 10 = .ok (.getfield 92, 3) := by decide +kernel
theorem dX4_begins_13 : decode cX4_begins 13 = .ok (.aload_n 0, 1) := by decide +kernel
theorem dX4_begins_14 : decode cX4_begins 14 = .ok (.getfield 70, 3) := by decide +kernel
theorem dX4_begins_17 : decode cX4_begins 17 = .ok (.if_icmp .ge 10, 3) := by decide +kernel
theorem dX4_begins_20 : decode cX4_begins 20 = .ok (.aload_n 0, 1) := by decide +kernel
theorem dX4_begins_21 : decode cX4_begins 21 = .ok (.getfield 89, 3) := by decide +kernel
theorem dX4_begins_24 : decode cX4_begins 24 = .ok (.goto 9, 3) := by decide +kernel
theorem dX4_begins_27 : decode cX4_begins 27 = .ok (.aload_n 0, 1) := by decide +kernel
theorem dX4_begins_28 : decode cX4_begins 28 = .ok (.getfield 89, 3) := by decide +kernel
theorem dX4_begins_31 : decode cX4_begins 31 = .ok (.iconst 1, 1) := by decide +kernel
theorem dX4_begins_32 : decode cX4_begins 32 = .ok (.iadd, 1) := by decide +kernel
theorem dX4_begins_33 : decode cX4_begins 33 = .ok (.ireturn, 1) := by decide +kernel
theorem dX4_sameWritten_0 : decode cX4_sameWritten 0 = .ok (.aload_n 0, 1) := by decide +kernel
theorem dX4_sameWritten_1 : decode cX4_sameWritten 1 = .ok (.invokevirtual 101, 3) := by decide +kernel
theorem dX4_sameWritten_4 : decode cX4_sameWritten 4 = .ok (.invokestatic 105, 3) := by decide +kernel
theorem dX4_sameWritten_7 : decode cX4_sameWritten 7 = .ok (.ifCond .eq 24, 3) := by decide +kernel
theorem dX4_sameWritten_10 : decode cX4_sameWritten 10 = .ok (.aload_n 0, 1) := by decide +kernel
theorem dX4_sameWritten_11 : decode cX4_sameWritten 11 = .ok (.getfield 41, 3) := by decide +kernel
theorem dX4_sameWritten_14 : decode cX4_sameWritten 14 = .ok (.aload_n 0, 1) := by decide +kernel
theorem dX4_sameWritten_15 : decode cX4_sameWritten 15 = .ok (.getfield 9, 3) := by decide +kernel
theorem dX4_sameWritten_18 : decode cX4_sameWritten 18 = .ok (.iconst 4, 1) := by decide +kernel
theorem dX4_sameWritten_19 : decode cX4_sameWritten 19 = .ok (.aload_n 0, 1) := by decide +kernel
theorem dX4_sameWritten_20 : decode cX4_sameWritten 20 = .ok (.getfield 86, 3) := by decide +kernel
theorem dX4_sameWritten_23 : decode cX4_sameWritten 23 = .ok (.imul, 1) := by decide +kernel
theorem dX4_sameWritten_24 : decode cX4_sameWritten 24 = .ok (.iconst 1, 1) := by decide +kernel
theorem dX4_sameWritten_25 : decode cX4_sameWritten 25 = .ok (.iadd, 1) := by decide +kernel
theorem dX4_sameWritten_26 : decode cX4_sameWritten 26 = .ok (.iaload, 1) := by decide +kernel
theorem dX4_sameWritten_27 : decode cX4_sameWritten 27 = .ok (.iaload, 1) := by decide +kernel
theorem dX4_sameWritten_28 : decode cX4_sameWritten 28 = .ok (.goto 4, 3) := by decide +kernel
theorem dX4_sameWritten_31 : decode cX4_sameWritten 31 = .ok (.iconst 0, 1) := by decide +kernel
theorem dX4_sameWritten_32 : decode cX4_sameWritten 32 = .ok (.ireturn, 1) := by decide +kernel
theorem dX4_greater_0 : decode cX4_greater 0 = .ok (.iload_n 0, 1) := by decide +kernel
theorem dX4_greater_1 : decode cX4_greater 1 = .ok (.iload_n 1, 1) := by decide +kernel
theorem dX4_greater_2 : decode cX4_greater 2 = .ok (.if_icmp .le 7, 3) := by decide +kernel
theorem dX4_greater_5 : decode cX4_greater 5 = .ok (.iload_n 0, 1) := by decide +kernel
theorem dX4_greater_6 : decode cX4_greater 6 = .ok (.goto 4, 3) := by decide +kernel
theorem dX4_greater_9 : decode cX4_greater 9 = .ok (.iload_n 1, 1) := by decide +kernel
theorem dX4_greater_10 : decode cX4_greater 10 = .ok (.ireturn, 1) := by decide +kernel
theorem dX4_issues_0 : decode cX4_issues 0 = .ok (.aload_n 0, 1) := by decide +kernel
theorem dX4_issues_1 : decode cX4_issues 1 = .ok (.invokevirtual 109, 3) := by decide +kernel
theorem dX4_issues_4 : decode cX4_issues 4 = .ok (.aload_n 0, 1) := by decide +kernel
theorem dX4_issues_5 : decode cX4_issues 5 = .ok (.getfield 95, 3) := by decide +kernel
theorem dX4_issues_8 : decode cX4_issues 8 = .ok (.iconst 1, 1) := by decide +kernel
theorem dX4_issues_9 : decode cX4_issues 9 = .ok (.iadd, 1) := by decide +kernel
theorem dX4_issues_10 : decode cX4_issues 10 = .ok (.invokestatic 112, 3) := by decide +kernel
theorem dX4_issues_13 : decode cX4_issues 13 = .ok (.istore_n 1, 1) := by decide +kernel
theorem dX4_issues_14 : decode cX4_issues 14 = .ok (.iload_n 1, 1) := by decide +kernel
theorem dX4_issues_15 : decode cX4_issues 15 = .ok (.aload_n 0, 1) := by decide +kernel
theorem dX4_issues_16 : decode cX4_issues 16 = .ok (.aload_n 0, 1) := by decide +kernel
theorem dX4_issues_17 : decode cX4_issues 17 = .ok (.invokevirtual 101, 3) := by decide +kernel
theorem dX4_issues_20 : decode cX4_issues 20 = .ok (.invokestatic 116, 3) := by decide +kernel
theorem dX4_issues_23 : decode cX4_issues 23 = .ok (.invokevirtual 120, 3) := by decide +kernel
theorem dX4_issues_26 : decode cX4_issues 26 = .ok (.iconst 1, 1) := by decide +kernel
theorem dX4_issues_27 : decode cX4_issues 27 = .ok (.iadd, 1) := by decide +kernel
theorem dX4_issues_28 : decode cX4_issues 28 = .ok (.invokestatic 112, 3) := by decide +kernel
theorem dX4_issues_31 : decode cX4_issues 31 = .ok (.istore_n 1, 1) := by decide +kernel
theorem dX4_issues_32 : decode cX4_issues 32 = .ok (.iload_n 1, 1) := by decide +kernel
theorem dX4_issues_33 : decode cX4_issues 33 = .ok (.aload_n 0, 1) := by decide +kernel
theorem dX4_issues_34 : decode cX4_issues 34 = .ok (.invokevirtual 123, 3) := by decide +kernel
theorem dX4_issues_37 : decode cX4_issues 37 = .ok (.iconst 1, 1) := by decide +kernel
theorem dX4_issues_38 : decode cX4_issues 38 = .ok (.iadd, 1) := by decide +kernel
theorem dX4_issues_39 : decode cX4_issues 39 = .ok (.invokestatic 112, 3) := by decide +kernel
theorem dX4_issues_42 : decode cX4_issues 42 = .ok (.ireturn, 1) := by decide +kernel
theorem dX4_waited_0 : decode cX4_waited 0 = .ok (.aload_n 0, 1) := by decide +kernel
theorem dX4_waited_1 : decode cX4_waited 1 = .ok (.invokevirtual 109, 3) := by decide +kernel
theorem dX4_waited_4 : decode cX4_waited 4 = .ok (.istore_n 3, 1) := by decide +kernel
theorem dX4_waited_5 : decode cX4_waited 5 = .ok (.aload_n 0, 1) := by decide +kernel
theorem dX4_waited_6 : decode cX4_waited 6 = .ok (.getfield 95, 3) := by decide +kernel
theorem dX4_waited_9 : decode cX4_waited 9 = .ok (.istore 4, 2) := by decide +kernel
theorem dX4_waited_11 : decode cX4_waited 11 = .ok (.iload 4, 2) := by decide +kernel
theorem dX4_waited_13 : decode cX4_waited 13 = .ok (.aload_n 0, 1) := by decide +kernel
theorem dX4_waited_14 : decode cX4_waited 14 = .ok (.aload_n 0, 1) := by decide +kernel
theorem dX4_waited_15 : decode cX4_waited 15 = .ok (.invokevirtual 101, 3) := by decide +kernel
theorem dX4_waited_18 : decode cX4_waited 18 = .ok (.invokestatic 116, 3) := by decide +kernel
theorem dX4_waited_21 : decode cX4_waited 21 = .ok (.invokevirtual 120, 3) := by decide +kernel
theorem dX4_waited_24 : decode cX4_waited 24 = .ok (.invokestatic 112, 3) := by decide +kernel
theorem dX4_waited_27 : decode cX4_waited 27 = .ok (.istore 5, 2) := by decide +kernel
theorem dX4_waited_29 : decode cX4_waited 29 = .ok (.iload 5, 2) := by decide +kernel
theorem dX4_waited_31 : decode cX4_waited 31 = .ok (.aload_n 0, 1) := by decide +kernel
theorem dX4_waited_32 : decode cX4_waited 32 = .ok (.invokevirtual 123, 3) := by decide +kernel
theorem dX4_waited_35 : decode cX4_waited 35 = .ok (.invokestatic 112, 3) := by decide +kernel
theorem dX4_waited_38 : decode cX4_waited 38 = .ok (.istore 6, 2) := by decide +kernel
theorem dX4_waited_40 : decode cX4_waited 40 = .ok (.iload_n 1, 1) := by decide +kernel
theorem dX4_waited_41 : decode cX4_waited 41 = .ok (.ifCond .ne 9, 3) := by decide +kernel
theorem dX4_waited_44 : decode cX4_waited 44 = .ok (.iload_n 3, 1) := by decide +kernel
theorem dX4_waited_45 : decode cX4_waited 45 = .ok (.iconst 1, 1) := by decide +kernel
theorem dX4_waited_46 : decode cX4_waited 46 = .ok (.isub, 1) := by decide +kernel
theorem dX4_waited_47 : decode cX4_waited 47 = .ok (.goto 15, 3) := by decide +kernel
theorem dX4_waited_50 : decode cX4_waited 50 = .ok (.iload_n 1, 1) := by decide +kernel
theorem dX4_waited_51 : decode cX4_waited 51 = .ok (.iconst 1, 1) := by decide +kernel
theorem dX4_waited_52 : decode cX4_waited 52 = .ok (.if_icmp .ne 8, 3) := by decide +kernel
theorem dX4_waited_55 : decode cX4_waited 55 = .ok (.iload 4, 2) := by decide +kernel
theorem dX4_waited_57 : decode cX4_waited 57 = .ok (.goto 5, 3) := by decide +kernel
theorem dX4_waited_60 : decode cX4_waited 60 = .ok (.iload 5, 2) := by decide +kernel
theorem dX4_waited_62 : decode cX4_waited 62 = .ok (.istore 7, 2) := by decide +kernel
theorem dX4_waited_64 : decode cX4_waited 64 = .ok (.iload_n 1, 1) := by decide +kernel
theorem dX4_waited_65 : decode cX4_waited 65 = .ok (.ifCond .ne 8, 3) := by decide +kernel
theorem dX4_waited_68 : decode cX4_waited 68 = .ok (.iload 4, 2) := by decide +kernel
theorem dX4_waited_70 : decode cX4_waited 70 = .ok (.goto 15, 3) := by decide +kernel
theorem dX4_waited_73 : decode cX4_waited 73 = .ok (.iload_n 1, 1) := by decide +kernel
theorem dX4_waited_74 : decode cX4_waited 74 = .ok (.iconst 1, 1) := by decide +kernel
theorem dX4_waited_75 : decode cX4_waited 75 = .ok (.if_icmp .ne 8, 3) := by decide +kernel
theorem dX4_waited_78 : decode cX4_waited 78 = .ok (.iload 5, 2) := by decide +kernel
theorem dX4_waited_80 : decode cX4_waited 80 = .ok (.goto 5, 3) := by decide +kernel
theorem dX4_waited_83 : decode cX4_waited 83 = .ok (.iload 6, 2) := by decide +kernel
theorem dX4_waited_85 : decode cX4_waited 85 = .ok (.istore 8, 2) := by decide +kernel
theorem dX4_waited_87 : decode cX4_waited 87 = .ok (.iload 7, 2) := by decide +kernel
theorem dX4_waited_89 : decode cX4_waited 89 = .ok (.iload_n 3, 1) := by decide +kernel
theorem dX4_waited_90 : decode cX4_waited 90 = .ok (.iconst 1, 1) := by decide +kernel
theorem dX4_waited_91 : decode cX4_waited 91 = .ok (.isub, 1) := by decide +kernel
theorem dX4_waited_92 : decode cX4_waited 92 = .ok (.invokestatic 112, 3) := by decide +kernel
theorem dX4_waited_95 : decode cX4_waited 95 = .ok (.istore 7, 2) := by decide +kernel
theorem dX4_waited_97 : decode cX4_waited 97 = .ok (.iload 8, 2) := by decide +kernel
theorem dX4_waited_99 : decode cX4_waited 99 = .ok (.iload_n 2, 1) := by decide +kernel
theorem dX4_waited_100 : decode cX4_waited 100 = .ok (.if_icmp .ge 8, 3) := by decide +kernel
theorem dX4_waited_103 : decode cX4_waited 103 = .ok (.iload 8, 2) := by decide +kernel
theorem dX4_waited_105 : decode cX4_waited 105 = .ok (.goto 4, 3) := by decide +kernel
theorem dX4_waited_108 : decode cX4_waited 108 = .ok (.iload_n 2, 1) := by decide +kernel
theorem dX4_waited_109 : decode cX4_waited 109 = .ok (.istore 8, 2) := by decide +kernel
theorem dX4_waited_111 : decode cX4_waited 111 = .ok (.iload 8, 2) := by decide +kernel
theorem dX4_waited_113 : decode cX4_waited 113 = .ok (.iload 7, 2) := by decide +kernel
theorem dX4_waited_115 : decode cX4_waited 115 = .ok (.if_icmp .le 11, 3) := by decide +kernel
theorem dX4_waited_118 : decode cX4_waited 118 = .ok (.iload 8, 2) := by decide +kernel
theorem dX4_waited_120 : decode cX4_waited 120 = .ok (.iload 7, 2) := by decide +kernel
theorem dX4_waited_122 : decode cX4_waited 122 = .ok (.isub, 1) := by decide +kernel
theorem dX4_waited_123 : decode cX4_waited 123 = .ok (.goto 4, 3) := by decide +kernel
theorem dX4_waited_126 : decode cX4_waited 126 = .ok (.iconst 0, 1) := by decide +kernel
theorem dX4_waited_127 : decode cX4_waited 127 = .ok (.ireturn, 1) := by decide +kernel
theorem dX4_does_0 : decode cX4_does 0 = .ok (.iconst 4, 1) := by decide +kernel
theorem dX4_does_1 : decode cX4_does 1 = .ok (.aload_n 0, 1) := by decide +kernel
theorem dX4_does_2 : decode cX4_does 2 = .ok (.getfield 86, 3) := by decide +kernel
theorem dX4_does_5 : decode cX4_does 5 = .ok (.imul, 1) := by decide +kernel
theorem dX4_does_6 : decode cX4_does 6 = .ok (.istore_n 1, 1) := by decide +kernel
theorem dX4_does_7 : decode cX4_does 7 = .ok (.aload_n 0, 1) := by decide +kernel
theorem dX4_does_8 : decode cX4_does 8 = .ok (.getfield 26, 3) := by decide +kernel
theorem dX4_does_11 : decode cX4_does 11 = .ok (.aload_n 0, 1) := by decide +kernel
theorem dX4_does_12 : decode cX4_does 12 = .ok (.getfield 9, 3) := by decide +kernel
theorem dX4_does_15 : decode cX4_does 15 = .ok (.iload_n 1, 1) := by decide +kernel
theorem dX4_does_16 : decode cX4_does 16 = .ok (.iconst 1, 1) := by decide +kernel
theorem dX4_does_17 : decode cX4_does 17 = .ok (.iadd, 1) := by decide +kernel
theorem dX4_does_18 : decode cX4_does 18 = .ok (.iaload, 1) := by decide +kernel
theorem dX4_does_19 : decode cX4_does 19 = .ok (.laload, 1) := by decide +kernel
theorem dX4_does_20 : decode cX4_does 20 = .ok (.lstore_n 2, 1) := by decide +kernel
theorem dX4_does_21 : decode cX4_does 21 = .ok (.aload_n 0, 1) := by decide +kernel
theorem dX4_does_22 : decode cX4_does 22 = .ok (.getfield 26, 3) := by decide +kernel
theorem dX4_does_25 : decode cX4_does 25 = .ok (.aload_n 0, 1) := by decide +kernel
theorem dX4_does_26 : decode cX4_does 26 = .ok (.getfield 9, 3) := by decide +kernel
theorem dX4_does_29 : decode cX4_does 29 = .ok (.iload_n 1, 1) := by decide +kernel
theorem dX4_does_30 : decode cX4_does 30 = .ok (.iconst 2, 1) := by decide +kernel
theorem dX4_does_31 : decode cX4_does 31 = .ok (.iadd, 1) := by decide +kernel
theorem dX4_does_32 : decode cX4_does 32 = .ok (.iaload, 1) := by decide +kernel
theorem dX4_does_33 : decode cX4_does 33 = .ok (.laload, 1) := by decide +kernel
theorem dX4_does_34 : decode cX4_does 34 = .ok (.lstore 4, 2) := by decide +kernel
theorem dX4_does_36 : decode cX4_does 36 = .ok (.aload_n 0, 1) := by decide +kernel
theorem dX4_does_37 : decode cX4_does 37 = .ok (.getfield 26, 3) := by decide +kernel
theorem dX4_does_40 : decode cX4_does 40 = .ok (.aload_n 0, 1) := by decide +kernel
theorem dX4_does_41 : decode cX4_does 41 = .ok (.invokevirtual 126, 3) := by decide +kernel
theorem dX4_does_44 : decode cX4_does 44 = .ok (.laload, 1) := by decide +kernel
theorem dX4_does_45 : decode cX4_does 45 = .ok (.lstore 6, 2) := by decide +kernel
theorem dX4_does_47 : decode cX4_does 47 = .ok (.aload_n 0, 1) := by decide +kernel
theorem dX4_does_48 : decode cX4_does 48 = .ok (.getfield 9, 3) := by decide +kernel
theorem dX4_does_51 : decode cX4_does 51 = .ok (.iload_n 1, 1) := by decide +kernel
theorem dX4_does_52 : decode cX4_does 52 = .ok (.iconst 3, 1) := by decide +kernel
theorem dX4_does_53 : decode cX4_does 53 = .ok (.iadd, 1) := by decide +kernel
theorem dX4_does_54 : decode cX4_does 54 = .ok (.iaload, 1) := by decide +kernel
theorem dX4_does_55 : decode cX4_does 55 = .ok (.i2l, 1) := by decide +kernel
theorem dX4_does_56 : decode cX4_does 56 = .ok (.lstore 8, 2) := by decide +kernel
theorem dX4_does_58 : decode cX4_does 58 = .ok (.aload_n 0, 1) := by decide +kernel
theorem dX4_does_59 : decode cX4_does 59 = .ok (.getfield 86, 3) := by decide +kernel
theorem dX4_does_62 : decode cX4_does 62 = .ok (.iconst 1, 1) := by decide +kernel
theorem dX4_does_63 : decode cX4_does 63 = .ok (.iadd, 1) := by decide +kernel
theorem dX4_does_64 : decode cX4_does 64 = .ok (.sipush 256, 3) := by decide +kernel
theorem dX4_does_67 : decode cX4_does 67 = .ok (.irem, 1) := by decide +kernel
theorem dX4_does_68 : decode cX4_does 68 = .ok (.istore 10, 2) := by decide +kernel
theorem dX4_does_70 : decode cX4_does 70 = .ok (.aload_n 0, 1) := by decide +kernel
theorem dX4_does_71 : decode cX4_does 71 = .ok (.getfield 9, 3) := by decide +kernel
theorem dX4_does_74 : decode cX4_does 74 = .ok (.iload_n 1, 1) := by decide +kernel
theorem dX4_does_75 : decode cX4_does 75 = .ok (.iaload, 1) := by decide +kernel
theorem dX4_does_76 : decode cX4_does 76 = .ok (.istore 11, 2) := by decide +kernel
theorem dX4_does_78 : decode cX4_does 78 = .ok (.lconst 0, 1) := by decide +kernel
theorem dX4_does_79 : decode cX4_does 79 = .ok (.lstore 12, 2) := by decide +kernel
theorem dX4_does_81 : decode cX4_does 81 = .ok (.iload 11, 2) := by decide +kernel
theorem dX4_does_83 : decode cX4_does 83 = .ok (.tableswitch 263 1 15 #[73, 83, 93, 103, 113, 123, 130, 140, 155, 170, 185, 195, 216, 237, 257], 73) := by decide +kernel
theorem dX4_does_156 : decode cX4_does 156 = .ok (.lload 4, 2) := by decide +kernel
theorem dX4_does_158 : decode cX4_does 158 = .ok (.lload 6, 2) := by decide +kernel
theorem dX4_does_160 : decode cX4_does 160 = .ok (.ladd, 1) := by decide +kernel
theorem dX4_does_161 : decode cX4_does 161 = .ok (.lstore 12, 2) := by decide +kernel
theorem dX4_does_163 : decode cX4_does 163 = .ok (.goto 227, 3) := by decide +kernel
theorem dX4_does_166 : decode cX4_does 166 = .ok (.lload 4, 2) := by decide +kernel
theorem dX4_does_168 : decode cX4_does 168 = .ok (.lload 6, 2) := by decide +kernel
theorem dX4_does_170 : decode cX4_does 170 = .ok (.lsub, 1) := by decide +kernel
theorem dX4_does_171 : decode cX4_does 171 = .ok (.lstore 12, 2) := by decide +kernel
theorem dX4_does_173 : decode cX4_does 173 = .ok (.goto 217, 3) := by decide +kernel
theorem dX4_does_176 : decode cX4_does 176 = .ok (.lload 4, 2) := by decide +kernel
theorem dX4_does_178 : decode cX4_does 178 = .ok (.lload 6, 2) := by decide +kernel
theorem dX4_does_180 : decode cX4_does 180 = .ok (.land, 1) := by decide +kernel
theorem dX4_does_181 : decode cX4_does 181 = .ok (.lstore 12, 2) := by decide +kernel
theorem dX4_does_183 : decode cX4_does 183 = .ok (.goto 207, 3) := by decide +kernel
theorem dX4_does_186 : decode cX4_does 186 = .ok (.lload 4, 2) := by decide +kernel
theorem dX4_does_188 : decode cX4_does 188 = .ok (.lload 6, 2) := by decide +kernel
theorem dX4_does_190 : decode cX4_does 190 = .ok (.lor, 1) := by decide +kernel
theorem dX4_does_191 : decode cX4_does 191 = .ok (.lstore 12, 2) := by decide +kernel
theorem dX4_does_193 : decode cX4_does 193 = .ok (.goto 197, 3) := by decide +kernel
theorem dX4_does_196 : decode cX4_does 196 = .ok (.lload 4, 2) := by decide +kernel
theorem dX4_does_198 : decode cX4_does 198 = .ok (.lload 6, 2) := by decide +kernel
theorem dX4_does_200 : decode cX4_does 200 = .ok (.lxor, 1) := by decide +kernel
theorem dX4_does_201 : decode cX4_does 201 = .ok (.lstore 12, 2) := by decide +kernel
theorem dX4_does_203 : decode cX4_does 203 = .ok (.goto 187, 3) := by decide +kernel
theorem dX4_does_206 : decode cX4_does 206 = .ok (.lload 8, 2) := by decide +kernel
theorem dX4_does_208 : decode cX4_does 208 = .ok (.lstore 12, 2) := by decide +kernel
theorem dX4_does_210 : decode cX4_does 210 = .ok (.goto 180, 3) := by decide +kernel
theorem dX4_does_213 : decode cX4_does 213 = .ok (.lload 4, 2) := by decide +kernel
theorem dX4_does_215 : decode cX4_does 215 = .ok (.lload 8, 2) := by decide +kernel
theorem dX4_does_217 : decode cX4_does 217 = .ok (.ladd, 1) := by decide +kernel
theorem dX4_does_218 : decode cX4_does 218 = .ok (.lstore 12, 2) := by decide +kernel
theorem dX4_does_220 : decode cX4_does 220 = .ok (.goto 170, 3) := by decide +kernel
theorem dX4_does_223 : decode cX4_does 223 = .ok (.lload 4, 2) := by decide +kernel
theorem dX4_does_225 : decode cX4_does 225 = .ok (.lload 6, 2) := by decide +kernel
theorem dX4_does_227 : decode cX4_does 227 = .ok (.ldc2_w 129, 3) := by decide +kernel
theorem dX4_does_230 : decode cX4_does 230 = .ok (.land, 1) := by decide +kernel
theorem dX4_does_231 : decode cX4_does 231 = .ok (.l2i, 1) := by decide +kernel
theorem dX4_does_232 : decode cX4_does 232 = .ok (.lshl, 1) := by decide +kernel
theorem dX4_does_233 : decode cX4_does 233 = .ok (.lstore 12, 2) := by decide +kernel
theorem dX4_does_235 : decode cX4_does 235 = .ok (.goto 155, 3) := by decide +kernel
theorem dX4_does_238 : decode cX4_does 238 = .ok (.lload 4, 2) := by decide +kernel
theorem dX4_does_240 : decode cX4_does 240 = .ok (.lload 6, 2) := by decide +kernel
theorem dX4_does_242 : decode cX4_does 242 = .ok (.ldc2_w 129, 3) := by decide +kernel
theorem dX4_does_245 : decode cX4_does 245 = .ok (.land, 1) := by decide +kernel
theorem dX4_does_246 : decode cX4_does 246 = .ok (.l2i, 1) := by decide +kernel
theorem dX4_does_247 : decode cX4_does 247 = .ok (.lshr, 1) := by decide +kernel
theorem dX4_does_248 : decode cX4_does 248 = .ok (.lstore 12, 2) := by decide +kernel
theorem dX4_does_250 : decode cX4_does 250 = .ok (.goto 140, 3) := by decide +kernel
theorem dX4_does_253 : decode cX4_does 253 = .ok (.lload 4, 2) := by decide +kernel
theorem dX4_does_255 : decode cX4_does 255 = .ok (.lload 6, 2) := by decide +kernel
theorem dX4_does_257 : decode cX4_does 257 = .ok (.ldc2_w 129, 3) := by decide +kernel
theorem dX4_does_260 : decode cX4_does 260 = .ok (.land, 1) := by decide +kernel
theorem dX4_does_261 : decode cX4_does 261 = .ok (.l2i, 1) := by decide +kernel
theorem dX4_does_262 : decode cX4_does 262 = .ok (.lushr, 1) := by decide +kernel
theorem dX4_does_263 : decode cX4_does 263 = .ok (.lstore 12, 2) := by decide +kernel
theorem dX4_does_265 : decode cX4_does 265 = .ok (.goto 125, 3) := by decide +kernel
theorem dX4_does_268 : decode cX4_does 268 = .ok (.lload 4, 2) := by decide +kernel
theorem dX4_does_270 : decode cX4_does 270 = .ok (.lload 6, 2) := by decide +kernel
theorem dX4_does_272 : decode cX4_does 272 = .ok (.lmul, 1) := by decide +kernel
theorem dX4_does_273 : decode cX4_does 273 = .ok (.lstore 12, 2) := by decide +kernel
theorem dX4_does_275 : decode cX4_does 275 = .ok (.goto 115, 3) := by decide +kernel
theorem dX4_does_278 : decode cX4_does 278 = .ok (.lload 6, 2) := by decide +kernel
theorem dX4_does_280 : decode cX4_does 280 = .ok (.lconst 0, 1) := by decide +kernel
theorem dX4_does_281 : decode cX4_does 281 = .ok (.lcmp, 1) := by decide +kernel
theorem dX4_does_282 : decode cX4_does 282 = .ok (.ifCond .ne 7, 3) := by decide +kernel
theorem dX4_does_285 : decode cX4_does 285 = .ok (.lconst 0, 1) := by decide +kernel
theorem dX4_does_286 : decode cX4_does 286 = .ok (.goto 8, 3) := by decide +kernel
theorem dX4_does_289 : decode cX4_does 289 = .ok (.lload 4, 2) := by decide +kernel
theorem dX4_does_291 : decode cX4_does 291 = .ok (.lload 6, 2) := by decide +kernel
theorem dX4_does_293 : decode cX4_does 293 = .ok (.ldiv, 1) := by decide +kernel
theorem dX4_does_294 : decode cX4_does 294 = .ok (.lstore 12, 2) := by decide +kernel
theorem dX4_does_296 : decode cX4_does 296 = .ok (.goto 94, 3) := by decide +kernel
theorem dX4_does_299 : decode cX4_does 299 = .ok (.lload 6, 2) := by decide +kernel
theorem dX4_does_301 : decode cX4_does 301 = .ok (.lconst 0, 1) := by decide +kernel
theorem dX4_does_302 : decode cX4_does 302 = .ok (.lcmp, 1) := by decide +kernel
theorem dX4_does_303 : decode cX4_does 303 = .ok (.ifCond .ne 7, 3) := by decide +kernel
theorem dX4_does_306 : decode cX4_does 306 = .ok (.lconst 0, 1) := by decide +kernel
theorem dX4_does_307 : decode cX4_does 307 = .ok (.goto 8, 3) := by decide +kernel
theorem dX4_does_310 : decode cX4_does 310 = .ok (.lload 4, 2) := by decide +kernel
theorem dX4_does_312 : decode cX4_does 312 = .ok (.lload 6, 2) := by decide +kernel
theorem dX4_does_314 : decode cX4_does 314 = .ok (.lrem, 1) := by decide +kernel
theorem dX4_does_315 : decode cX4_does 315 = .ok (.lstore 12, 2) := by decide +kernel
theorem dX4_does_317 : decode cX4_does 317 = .ok (.goto 73, 3) := by decide +kernel
theorem dX4_does_320 : decode cX4_does 320 = .ok (.aload_n 0, 1) := by decide +kernel
theorem dX4_does_321 : decode cX4_does 321 = .ok (.getfield 29, 3) := by decide +kernel
theorem dX4_does_324 : decode cX4_does 324 = .ok (.lload 4, 2) := by decide +kernel
theorem dX4_does_326 : decode cX4_does 326 = .ok (.lload 8, 2) := by decide +kernel
theorem dX4_does_328 : decode cX4_does 328 = .ok (.ladd, 1) := by decide +kernel
theorem dX4_does_329 : decode cX4_does 329 = .ok (.ldc2_w 131, 3) := by decide +kernel
theorem dX4_does_332 : decode cX4_does 332 = .ok (.land, 1) := by decide +kernel
theorem dX4_does_333 : decode cX4_does 333 = .ok (.l2i, 1) := by decide +kernel
theorem dX4_does_334 : decode cX4_does 334 = .ok (.laload, 1) := by decide +kernel
theorem dX4_does_335 : decode cX4_does 335 = .ok (.lstore 12, 2) := by decide +kernel
theorem dX4_does_337 : decode cX4_does 337 = .ok (.goto 53, 3) := by decide +kernel
theorem dX4_does_340 : decode cX4_does 340 = .ok (.lload_n 2, 1) := by decide +kernel
theorem dX4_does_341 : decode cX4_does 341 = .ok (.lstore 12, 2) := by decide +kernel
theorem dX4_does_343 : decode cX4_does 343 = .ok (.goto 47, 3) := by decide +kernel
theorem dX4_does_346 : decode cX4_does 346 = .ok (.iload 11, 2) := by decide +kernel
theorem dX4_does_348 : decode cX4_does 348 = .ok (.bipush 18, 2) := by decide +kernel
theorem dX4_does_350 : decode cX4_does 350 = .ok (.if_icmp .eq 31, 3) := by decide +kernel
theorem dX4_does_353 : decode cX4_does 353 = .ok (.iload 11, 2) := by decide +kernel
theorem dX4_does_355 : decode cX4_does 355 = .ok (.bipush 16, 2) := by decide +kernel
theorem dX4_does_357 : decode cX4_does 357 = .ok (.if_icmp .ne 10, 3) := by decide +kernel
theorem dX4_does_360 : decode cX4_does 360 = .ok (.lload 4, 2) := by decide +kernel
theorem dX4_does_362 : decode cX4_does 362 = .ok (.lconst 0, 1) := by decide +kernel
theorem dX4_does_363 : decode cX4_does 363 = .ok (.lcmp, 1) := by decide +kernel
theorem dX4_does_364 : decode cX4_does 364 = .ok (.ifCond .eq 17, 3) := by decide +kernel
theorem dX4_does_367 : decode cX4_does 367 = .ok (.iload 11, 2) := by decide +kernel
theorem dX4_does_369 : decode cX4_does 369 = .ok (.bipush 17, 2) := by decide +kernel
theorem dX4_does_371 : decode cX4_does 371 = .ok (.if_icmp .ne 19, 3) := by decide +kernel
theorem dX4_does_374 : decode cX4_does 374 = .ok (.lload 4, 2) := by decide +kernel
theorem dX4_does_376 : decode cX4_does 376 = .ok (.lconst 0, 1) := by decide +kernel
theorem dX4_does_377 : decode cX4_does 377 = .ok (.lcmp, 1) := by decide +kernel
theorem dX4_does_378 : decode cX4_does 378 = .ok (.ifCond .ge 12, 3) := by decide +kernel
theorem dX4_does_381 : decode cX4_does 381 = .ok (.lload 8, 2) := by decide +kernel
theorem dX4_does_383 : decode cX4_does 383 = .ok (.ldc2_w 131, 3) := by decide +kernel
theorem dX4_does_386 : decode cX4_does 386 = .ok (.land, 1) := by decide +kernel
theorem dX4_does_387 : decode cX4_does 387 = .ok (.l2i, 1) := by decide +kernel
theorem dX4_does_388 : decode cX4_does 388 = .ok (.istore 10, 2) := by decide +kernel
theorem dX4_does_390 : decode cX4_does 390 = .ok (.aload_n 0, 1) := by decide +kernel
theorem dX4_does_391 : decode cX4_does 391 = .ok (.iload 10, 2) := by decide +kernel
theorem dX4_does_393 : decode cX4_does 393 = .ok (.putfield 86, 3) := by decide +kernel
theorem dX4_does_396 : decode cX4_does 396 = .ok (.lload 12, 2) := by decide +kernel
theorem dX4_does_398 : decode cX4_does 398 = .ok (.lreturn, 1) := by decide +kernel
theorem dX4_issue_0 : decode cX4_issue 0 = .ok (.aload_n 0, 1) := by decide +kernel
theorem dX4_issue_1 : decode cX4_issue 1 = .ok (.invokevirtual 101, 3) := by decide +kernel
theorem dX4_issue_4 : decode cX4_issue 4 = .ok (.istore_n 2, 1) := by decide +kernel
theorem dX4_issue_5 : decode cX4_issue 5 = .ok (.iload_n 2, 1) := by decide +kernel
theorem dX4_issue_6 : decode cX4_issue 6 = .ok (.invokestatic 116, 3) := by decide +kernel
theorem dX4_issue_9 : decode cX4_issue 9 = .ok (.istore_n 3, 1) := by decide +kernel
theorem dX4_issue_10 : decode cX4_issue 10 = .ok (.aload_n 0, 1) := by decide +kernel
theorem dX4_issue_11 : decode cX4_issue 11 = .ok (.getfield 9, 3) := by decide +kernel
theorem dX4_issue_14 : decode cX4_issue 14 = .ok (.iconst 4, 1) := by decide +kernel
theorem dX4_issue_15 : decode cX4_issue 15 = .ok (.aload_n 0, 1) := by decide +kernel
theorem dX4_issue_16 : decode cX4_issue 16 = .ok (.getfield 86, 3) := by decide +kernel
theorem dX4_issue_19 : decode cX4_issue 19 = .ok (.imul, 1) := by decide +kernel
theorem dX4_issue_20 : decode cX4_issue 20 = .ok (.iconst 1, 1) := by decide +kernel
theorem dX4_issue_21 : decode cX4_issue 21 = .ok (.iadd, 1) := by decide +kernel
theorem dX4_issue_22 : decode cX4_issue 22 = .ok (.iaload, 1) := by decide +kernel
theorem dX4_issue_23 : decode cX4_issue 23 = .ok (.istore 4, 2) := by decide +kernel
theorem dX4_issue_25 : decode cX4_issue 25 = .ok (.aload_n 0, 1) := by decide +kernel
theorem dX4_issue_26 : decode cX4_issue 26 = .ok (.getfield 9, 3) := by decide +kernel
theorem dX4_issue_29 : decode cX4_issue 29 = .ok (.iconst 4, 1) := by decide +kernel
theorem dX4_issue_30 : decode cX4_issue 30 = .ok (.aload_n 0, 1) := by decide +kernel
theorem dX4_issue_31 : decode cX4_issue 31 = .ok (.getfield 86, 3) := by decide +kernel
theorem dX4_issue_34 : decode cX4_issue 34 = .ok (.imul, 1) := by decide +kernel
theorem dX4_issue_35 : decode cX4_issue 35 = .ok (.iconst 2, 1) := by decide +kernel
theorem dX4_issue_36 : decode cX4_issue 36 = .ok (.iadd, 1) := by decide +kernel
theorem dX4_issue_37 : decode cX4_issue 37 = .ok (.iaload, 1) := by decide +kernel
theorem dX4_issue_38 : decode cX4_issue 38 = .ok (.istore 5, 2) := by decide +kernel
theorem dX4_issue_40 : decode cX4_issue 40 = .ok (.aload_n 0, 1) := by decide +kernel
theorem dX4_issue_41 : decode cX4_issue 41 = .ok (.invokevirtual 126, 3) := by decide +kernel
theorem dX4_issue_44 : decode cX4_issue 44 = .ok (.istore 6, 2) := by decide +kernel
theorem dX4_issue_46 : decode cX4_issue 46 = .ok (.iconst 0, 1) := by decide +kernel
theorem dX4_issue_47 : decode cX4_issue 47 = .ok (.istore 7, 2) := by decide +kernel
theorem dX4_issue_49 : decode cX4_issue 49 = .ok (.iload 7, 2) := by decide +kernel
theorem dX4_issue_51 : decode cX4_issue 51 = .ok (.iconst 3, 1) := by decide +kernel
theorem dX4_issue_52 : decode cX4_issue 52 = .ok (.if_icmp .ge 28, 3) := by decide +kernel
theorem dX4_issue_55 : decode cX4_issue 55 = .ok (.aload_n 0, 1) := by decide +kernel
theorem dX4_issue_56 : decode cX4_issue 56 = .ok (.getfield 38, 3) := by decide +kernel
theorem dX4_issue_59 : decode cX4_issue 59 = .ok (.iload 7, 2) := by decide +kernel
theorem dX4_issue_61 : decode cX4_issue 61 = .ok (.dup2, 1) := by decide +kernel
theorem dX4_issue_62 : decode cX4_issue 62 = .ok (.iaload, 1) := by decide +kernel
theorem dX4_issue_63 : decode cX4_issue 63 = .ok (.aload_n 0, 1) := by decide +kernel
theorem dX4_issue_64 : decode cX4_issue 64 = .ok (.iload 7, 2) := by decide +kernel
theorem dX4_issue_66 : decode cX4_issue 66 = .ok (.iload_n 1, 1) := by decide +kernel
theorem dX4_issue_67 : decode cX4_issue 67 = .ok (.iconst 1, 1) := by decide +kernel
theorem dX4_issue_68 : decode cX4_issue 68 = .ok (.isub, 1) := by decide +kernel
theorem dX4_issue_69 : decode cX4_issue 69 = .ok (.invokevirtual 133, 3) := by decide +kernel
theorem dX4_issue_72 : decode cX4_issue 72 = .ok (.iadd, 1) := by decide +kernel
theorem dX4_issue_73 : decode cX4_issue 73 = .ok (.iastore, 1) := by decide +kernel
theorem dX4_issue_74 : decode cX4_issue 74 = .ok (.iinc 7 1, 3) := by decide +kernel
theorem dX4_issue_77 : decode cX4_issue 77 = .ok (.goto (-28), 3) := by decide +kernel
theorem dX4_issue_80 : decode cX4_issue 80 = .ok (.iconst 0, 1) := by decide +kernel
theorem dX4_issue_81 : decode cX4_issue 81 = .ok (.istore 7, 2) := by decide +kernel
theorem dX4_issue_83 : decode cX4_issue 83 = .ok (.aload_n 0, 1) := by decide +kernel
theorem dX4_issue_84 : decode cX4_issue 84 = .ok (.getfield 50, 3) := by decide +kernel
theorem dX4_issue_87 : decode cX4_issue 87 = .ok (.bipush 7, 2) := by decide +kernel
theorem dX4_issue_89 : decode cX4_issue 89 = .ok (.iconst 3, 1) := by decide +kernel
theorem dX4_issue_90 : decode cX4_issue 90 = .ok (.iload_n 3, 1) := by decide +kernel
theorem dX4_issue_91 : decode cX4_issue 91 = .ok (.imul, 1) := by decide +kernel
theorem dX4_issue_92 : decode cX4_issue 92 = .ok (.iload 7, 2) := by decide +kernel
theorem dX4_issue_94 : decode cX4_issue 94 = .ok (.iadd, 1) := by decide +kernel
theorem dX4_issue_95 : decode cX4_issue 95 = .ok (.imul, 1) := by decide +kernel
theorem dX4_issue_96 : decode cX4_issue 96 = .ok (.iconst 5, 1) := by decide +kernel
theorem dX4_issue_97 : decode cX4_issue 97 = .ok (.iadd, 1) := by decide +kernel
theorem dX4_issue_98 : decode cX4_issue 98 = .ok (.iaload, 1) := by decide +kernel
theorem dX4_issue_99 : decode cX4_issue 99 = .ok (.iload_n 1, 1) := by decide +kernel
theorem dX4_issue_100 : decode cX4_issue 100 = .ok (.if_icmp .lt 9, 3) := by decide +kernel
theorem dX4_issue_103 : decode cX4_issue 103 = .ok (.iinc 7 1, 3) := by decide +kernel
theorem dX4_issue_106 : decode cX4_issue 106 = .ok (.goto (-23), 3) := by decide +kernel
theorem dX4_issue_109 : decode cX4_issue 109 = .ok (.iload 7, 2) := by decide +kernel
theorem dX4_issue_111 : decode cX4_issue 111 = .ok (.iconst 3, 1) := by decide +kernel
theorem dX4_issue_112 : decode cX4_issue 112 = .ok (.iload_n 3, 1) := by decide +kernel
theorem dX4_issue_113 : decode cX4_issue 113 = .ok (.imul, 1) := by decide +kernel
theorem dX4_issue_114 : decode cX4_issue 114 = .ok (.iadd, 1) := by decide +kernel
theorem dX4_issue_115 : decode cX4_issue 115 = .ok (.istore 7, 2) := by decide +kernel
theorem dX4_issue_117 : decode cX4_issue 117 = .ok (.iconst 0, 1) := by decide +kernel
theorem dX4_issue_118 : decode cX4_issue 118 = .ok (.istore 8, 2) := by decide +kernel
theorem dX4_issue_120 : decode cX4_issue 120 = .ok (.iload 8, 2) := by decide +kernel
theorem dX4_issue_122 : decode cX4_issue 122 = .ok (.bipush 18, 2) := by decide +kernel
theorem dX4_issue_124 : decode cX4_issue 124 = .ok (.if_icmp .ge 41, 3) := by decide +kernel
theorem dX4_issue_127 : decode cX4_issue 127 = .ok (.aload_n 0, 1) := by decide +kernel
theorem dX4_issue_128 : decode cX4_issue 128 = .ok (.getfield 56, 3) := by decide +kernel
theorem dX4_issue_131 : decode cX4_issue 131 = .ok (.iload 8, 2) := by decide +kernel
theorem dX4_issue_133 : decode cX4_issue 133 = .ok (.baload, 1) := by decide +kernel
theorem dX4_issue_134 : decode cX4_issue 134 = .ok (.ifCond .eq 25, 3) := by decide +kernel
theorem dX4_issue_137 : decode cX4_issue 137 = .ok (.aload_n 0, 1) := by decide +kernel
theorem dX4_issue_138 : decode cX4_issue 138 = .ok (.getfield 50, 3) := by decide +kernel
theorem dX4_issue_141 : decode cX4_issue 141 = .ok (.bipush 7, 2) := by decide +kernel
theorem dX4_issue_143 : decode cX4_issue 143 = .ok (.iload 8, 2) := by decide +kernel
theorem dX4_issue_145 : decode cX4_issue 145 = .ok (.imul, 1) := by decide +kernel
theorem dX4_issue_146 : decode cX4_issue 146 = .ok (.iconst 5, 1) := by decide +kernel
theorem dX4_issue_147 : decode cX4_issue 147 = .ok (.iadd, 1) := by decide +kernel
theorem dX4_issue_148 : decode cX4_issue 148 = .ok (.iaload, 1) := by decide +kernel
theorem dX4_issue_149 : decode cX4_issue 149 = .ok (.iload_n 1, 1) := by decide +kernel
theorem dX4_issue_150 : decode cX4_issue 150 = .ok (.if_icmp .ge 9, 3) := by decide +kernel
theorem dX4_issue_153 : decode cX4_issue 153 = .ok (.aload_n 0, 1) := by decide +kernel
theorem dX4_issue_154 : decode cX4_issue 154 = .ok (.iload 8, 2) := by decide +kernel
theorem dX4_issue_156 : decode cX4_issue 156 = .ok (.invokevirtual 136, 3) := by decide +kernel
theorem dX4_issue_159 : decode cX4_issue 159 = .ok (.iinc 8 1, 3) := by decide +kernel
theorem dX4_issue_162 : decode cX4_issue 162 = .ok (.goto (-42), 3) := by decide +kernel
theorem dX4_issue_165 : decode cX4_issue 165 = .ok (.iload_n 1, 1) := by decide +kernel
theorem dX4_issue_166 : decode cX4_issue 166 = .ok (.iconst 1, 1) := by decide +kernel
theorem dX4_issue_167 : decode cX4_issue 167 = .ok (.iadd, 1) := by decide +kernel
theorem dX4_issue_168 : decode cX4_issue 168 = .ok (.istore 8, 2) := by decide +kernel
theorem dX4_issue_170 : decode cX4_issue 170 = .ok (.iload_n 2, 1) := by decide +kernel
theorem dX4_issue_171 : decode cX4_issue 171 = .ok (.invokestatic 140, 3) := by decide +kernel
theorem dX4_issue_174 : decode cX4_issue 174 = .ok (.ifCond .eq 19, 3) := by decide +kernel
theorem dX4_issue_177 : decode cX4_issue 177 = .ok (.iload 8, 2) := by decide +kernel
theorem dX4_issue_179 : decode cX4_issue 179 = .ok (.aload_n 0, 1) := by decide +kernel
theorem dX4_issue_180 : decode cX4_issue 180 = .ok (.getfield 41, 3) := by decide +kernel
theorem dX4_issue_183 : decode cX4_issue 183 = .ok (.iload 5, 2) := by decide +kernel
theorem dX4_issue_185 : decode cX4_issue 185 = .ok (.iaload, 1) := by decide +kernel
theorem dX4_issue_186 : decode cX4_issue 186 = .ok (.iconst 1, 1) := by decide +kernel
theorem dX4_issue_187 : decode cX4_issue 187 = .ok (.iadd, 1) := by decide +kernel
theorem dX4_issue_188 : decode cX4_issue 188 = .ok (.invokestatic 112, 3) := by decide +kernel
theorem dX4_issue_191 : decode cX4_issue 191 = .ok (.istore 8, 2) := by decide +kernel
theorem dX4_issue_193 : decode cX4_issue 193 = .ok (.iload_n 2, 1) := by decide +kernel
theorem dX4_issue_194 : decode cX4_issue 194 = .ok (.invokestatic 143, 3) := by decide +kernel
theorem dX4_issue_197 : decode cX4_issue 197 = .ok (.ifCond .eq 19, 3) := by decide +kernel
theorem dX4_issue_200 : decode cX4_issue 200 = .ok (.iload 8, 2) := by decide +kernel
theorem dX4_issue_202 : decode cX4_issue 202 = .ok (.aload_n 0, 1) := by decide +kernel
theorem dX4_issue_203 : decode cX4_issue 203 = .ok (.getfield 41, 3) := by decide +kernel
theorem dX4_issue_206 : decode cX4_issue 206 = .ok (.iload 6, 2) := by decide +kernel
theorem dX4_issue_208 : decode cX4_issue 208 = .ok (.iaload, 1) := by decide +kernel
theorem dX4_issue_209 : decode cX4_issue 209 = .ok (.iconst 1, 1) := by decide +kernel
theorem dX4_issue_210 : decode cX4_issue 210 = .ok (.iadd, 1) := by decide +kernel
theorem dX4_issue_211 : decode cX4_issue 211 = .ok (.invokestatic 112, 3) := by decide +kernel
theorem dX4_issue_214 : decode cX4_issue 214 = .ok (.istore 8, 2) := by decide +kernel
theorem dX4_issue_216 : decode cX4_issue 216 = .ok (.iload_n 2, 1) := by decide +kernel
theorem dX4_issue_217 : decode cX4_issue 217 = .ok (.bipush 15, 2) := by decide +kernel
theorem dX4_issue_219 : decode cX4_issue 219 = .ok (.if_icmp .ne 19, 3) := by decide +kernel
theorem dX4_issue_222 : decode cX4_issue 222 = .ok (.iload 8, 2) := by decide +kernel
theorem dX4_issue_224 : decode cX4_issue 224 = .ok (.aload_n 0, 1) := by decide +kernel
theorem dX4_issue_225 : decode cX4_issue 225 = .ok (.getfield 41, 3) := by decide +kernel
theorem dX4_issue_228 : decode cX4_issue 228 = .ok (.iload 4, 2) := by decide +kernel
theorem dX4_issue_230 : decode cX4_issue 230 = .ok (.iaload, 1) := by decide +kernel
theorem dX4_issue_231 : decode cX4_issue 231 = .ok (.iconst 1, 1) := by decide +kernel
theorem dX4_issue_232 : decode cX4_issue 232 = .ok (.iadd, 1) := by decide +kernel
theorem dX4_issue_233 : decode cX4_issue 233 = .ok (.invokestatic 112, 3) := by decide +kernel
theorem dX4_issue_236 : decode cX4_issue 236 = .ok (.istore 8, 2) := by decide +kernel
theorem dX4_issue_238 : decode cX4_issue 238 = .ok (.iload 8, 2) := by decide +kernel
theorem dX4_issue_240 : decode cX4_issue 240 = .ok (.aload_n 0, 1) := by decide +kernel
theorem dX4_issue_241 : decode cX4_issue 241 = .ok (.getfield 16, 3) := by decide +kernel
theorem dX4_issue_244 : decode cX4_issue 244 = .ok (.iload_n 3, 1) := by decide +kernel
theorem dX4_issue_245 : decode cX4_issue 245 = .ok (.iaload, 1) := by decide +kernel
theorem dX4_issue_246 : decode cX4_issue 246 = .ok (.iadd, 1) := by decide +kernel
theorem dX4_issue_247 : decode cX4_issue 247 = .ok (.istore 9, 2) := by decide +kernel
theorem dX4_issue_249 : decode cX4_issue 249 = .ok (.iload 9, 2) := by decide +kernel
theorem dX4_issue_251 : decode cX4_issue 251 = .ok (.iconst 1, 1) := by decide +kernel
theorem dX4_issue_252 : decode cX4_issue 252 = .ok (.iadd, 1) := by decide +kernel
theorem dX4_issue_253 : decode cX4_issue 253 = .ok (.istore 10, 2) := by decide +kernel
theorem dX4_issue_255 : decode cX4_issue 255 = .ok (.iload_n 2, 1) := by decide +kernel
theorem dX4_issue_256 : decode cX4_issue 256 = .ok (.invokestatic 105, 3) := by decide +kernel
theorem dX4_issue_259 : decode cX4_issue 259 = .ok (.ifCond .eq 19, 3) := by decide +kernel
theorem dX4_issue_262 : decode cX4_issue 262 = .ok (.iload 10, 2) := by decide +kernel
theorem dX4_issue_264 : decode cX4_issue 264 = .ok (.aload_n 0, 1) := by decide +kernel
theorem dX4_issue_265 : decode cX4_issue 265 = .ok (.getfield 47, 3) := by decide +kernel
theorem dX4_issue_268 : decode cX4_issue 268 = .ok (.iload 4, 2) := by decide +kernel
theorem dX4_issue_270 : decode cX4_issue 270 = .ok (.iaload, 1) := by decide +kernel
theorem dX4_issue_271 : decode cX4_issue 271 = .ok (.iconst 1, 1) := by decide +kernel
theorem dX4_issue_272 : decode cX4_issue 272 = .ok (.iadd, 1) := by decide +kernel
theorem dX4_issue_273 : decode cX4_issue 273 = .ok (.invokestatic 112, 3) := by decide +kernel
theorem dX4_issue_276 : decode cX4_issue 276 = .ok (.istore 10, 2) := by decide +kernel
theorem dX4_issue_278 : decode cX4_issue 278 = .ok (.iload_n 2, 1) := by decide +kernel
theorem dX4_issue_279 : decode cX4_issue 279 = .ok (.invokestatic 140, 3) := by decide +kernel
theorem dX4_issue_282 : decode cX4_issue 282 = .ok (.ifCond .eq 22, 3) := by decide +kernel
theorem dX4_issue_285 : decode cX4_issue 285 = .ok (.aload_n 0, 1) := by decide +kernel
theorem dX4_issue_286 : decode cX4_issue 286 = .ok (.getfield 47, 3) := by decide +kernel
theorem dX4_issue_289 : decode cX4_issue 289 = .ok (.iload 5, 2) := by decide +kernel
theorem dX4_issue_291 : decode cX4_issue 291 = .ok (.aload_n 0, 1) := by decide +kernel
theorem dX4_issue_292 : decode cX4_issue 292 = .ok (.getfield 47, 3) := by decide +kernel
theorem dX4_issue_295 : decode cX4_issue 295 = .ok (.iload 5, 2) := by decide +kernel
theorem dX4_issue_297 : decode cX4_issue 297 = .ok (.iaload, 1) := by decide +kernel
theorem dX4_issue_298 : decode cX4_issue 298 = .ok (.iload 8, 2) := by decide +kernel
theorem dX4_issue_300 : decode cX4_issue 300 = .ok (.invokestatic 112, 3) := by decide +kernel
theorem dX4_issue_303 : decode cX4_issue 303 = .ok (.iastore, 1) := by decide +kernel
theorem dX4_issue_304 : decode cX4_issue 304 = .ok (.iload_n 2, 1) := by decide +kernel
theorem dX4_issue_305 : decode cX4_issue 305 = .ok (.invokestatic 143, 3) := by decide +kernel
theorem dX4_issue_308 : decode cX4_issue 308 = .ok (.ifCond .eq 22, 3) := by decide +kernel
theorem dX4_issue_311 : decode cX4_issue 311 = .ok (.aload_n 0, 1) := by decide +kernel
theorem dX4_issue_312 : decode cX4_issue 312 = .ok (.getfield 47, 3) := by decide +kernel
theorem dX4_issue_315 : decode cX4_issue 315 = .ok (.iload 6, 2) := by decide +kernel
theorem dX4_issue_317 : decode cX4_issue 317 = .ok (.aload_n 0, 1) := by decide +kernel
theorem dX4_issue_318 : decode cX4_issue 318 = .ok (.getfield 47, 3) := by decide +kernel
theorem dX4_issue_321 : decode cX4_issue 321 = .ok (.iload 6, 2) := by decide +kernel
theorem dX4_issue_323 : decode cX4_issue 323 = .ok (.iaload, 1) := by decide +kernel
theorem dX4_issue_324 : decode cX4_issue 324 = .ok (.iload 8, 2) := by decide +kernel
theorem dX4_issue_326 : decode cX4_issue 326 = .ok (.invokestatic 112, 3) := by decide +kernel
theorem dX4_issue_329 : decode cX4_issue 329 = .ok (.iastore, 1) := by decide +kernel
theorem dX4_issue_330 : decode cX4_issue 330 = .ok (.iload_n 2, 1) := by decide +kernel
theorem dX4_issue_331 : decode cX4_issue 331 = .ok (.bipush 15, 2) := by decide +kernel
theorem dX4_issue_333 : decode cX4_issue 333 = .ok (.if_icmp .ne 22, 3) := by decide +kernel
theorem dX4_issue_336 : decode cX4_issue 336 = .ok (.aload_n 0, 1) := by decide +kernel
theorem dX4_issue_337 : decode cX4_issue 337 = .ok (.getfield 47, 3) := by decide +kernel
theorem dX4_issue_340 : decode cX4_issue 340 = .ok (.iload 4, 2) := by decide +kernel
theorem dX4_issue_342 : decode cX4_issue 342 = .ok (.aload_n 0, 1) := by decide +kernel
theorem dX4_issue_343 : decode cX4_issue 343 = .ok (.getfield 47, 3) := by decide +kernel
theorem dX4_issue_346 : decode cX4_issue 346 = .ok (.iload 4, 2) := by decide +kernel
theorem dX4_issue_348 : decode cX4_issue 348 = .ok (.iaload, 1) := by decide +kernel
theorem dX4_issue_349 : decode cX4_issue 349 = .ok (.iload 8, 2) := by decide +kernel
theorem dX4_issue_351 : decode cX4_issue 351 = .ok (.invokestatic 112, 3) := by decide +kernel
theorem dX4_issue_354 : decode cX4_issue 354 = .ok (.iastore, 1) := by decide +kernel
theorem dX4_issue_355 : decode cX4_issue 355 = .ok (.iload_n 2, 1) := by decide +kernel
theorem dX4_issue_356 : decode cX4_issue 356 = .ok (.bipush 15, 2) := by decide +kernel
theorem dX4_issue_358 : decode cX4_issue 358 = .ok (.if_icmp .ne 36, 3) := by decide +kernel
theorem dX4_issue_361 : decode cX4_issue 361 = .ok (.bipush 16, 2) := by decide +kernel
theorem dX4_issue_363 : decode cX4_issue 363 = .ok (.aload_n 0, 1) := by decide +kernel
theorem dX4_issue_364 : decode cX4_issue 364 = .ok (.getfield 26, 3) := by decide +kernel
theorem dX4_issue_367 : decode cX4_issue 367 = .ok (.iload 5, 2) := by decide +kernel
theorem dX4_issue_369 : decode cX4_issue 369 = .ok (.laload, 1) := by decide +kernel
theorem dX4_issue_370 : decode cX4_issue 370 = .ok (.aload_n 0, 1) := by decide +kernel
theorem dX4_issue_371 : decode cX4_issue 371 = .ok (.getfield 9, 3) := by decide +kernel
theorem dX4_issue_374 : decode cX4_issue 374 = .ok (.iconst 4, 1) := by decide +kernel
theorem dX4_issue_375 : decode cX4_issue 375 = .ok (.aload_n 0, 1) := by decide +kernel
theorem dX4_issue_376 : decode cX4_issue 376 = .ok (.getfield 86, 3) := by decide +kernel
theorem dX4_issue_379 : decode cX4_issue 379 = .ok (.imul, 1) := by decide +kernel
theorem dX4_issue_380 : decode cX4_issue 380 = .ok (.iconst 3, 1) := by decide +kernel
theorem dX4_issue_381 : decode cX4_issue 381 = .ok (.iadd, 1) := by decide +kernel
theorem dX4_issue_382 : decode cX4_issue 382 = .ok (.iaload, 1) := by decide +kernel
theorem dX4_issue_383 : decode cX4_issue 383 = .ok (.i2l, 1) := by decide +kernel
theorem dX4_issue_384 : decode cX4_issue 384 = .ok (.ladd, 1) := by decide +kernel
theorem dX4_issue_385 : decode cX4_issue 385 = .ok (.ldc2_w 131, 3) := by decide +kernel
theorem dX4_issue_388 : decode cX4_issue 388 = .ok (.land, 1) := by decide +kernel
theorem dX4_issue_389 : decode cX4_issue 389 = .ok (.l2i, 1) := by decide +kernel
theorem dX4_issue_390 : decode cX4_issue 390 = .ok (.iadd, 1) := by decide +kernel
theorem dX4_issue_391 : decode cX4_issue 391 = .ok (.goto 4, 3) := by decide +kernel
theorem dX4_issue_394 : decode cX4_issue 394 = .ok (.iconst (-1), 1) := by decide +kernel
theorem dX4_issue_395 : decode cX4_issue 395 = .ok (.istore 11, 2) := by decide +kernel
theorem dX4_issue_397 : decode cX4_issue 397 = .ok (.aload_n 0, 1) := by decide +kernel
theorem dX4_issue_398 : decode cX4_issue 398 = .ok (.getfield 50, 3) := by decide +kernel
theorem dX4_issue_401 : decode cX4_issue 401 = .ok (.bipush 7, 2) := by decide +kernel
theorem dX4_issue_403 : decode cX4_issue 403 = .ok (.iload 7, 2) := by decide +kernel
theorem dX4_issue_405 : decode cX4_issue 405 = .ok (.imul, 1) := by decide +kernel
theorem dX4_issue_406 : decode cX4_issue 406 = .ok (.aload_n 0, 1) := by decide +kernel
theorem dX4_issue_407 : decode cX4_issue 407 = .ok (.getfield 86, 3) := by decide +kernel
theorem dX4_issue_410 : decode cX4_issue 410 = .ok (.iastore, 1) := by decide +kernel
theorem dX4_issue_411 : decode cX4_issue 411 = .ok (.aload_n 0, 1) := by decide +kernel
theorem dX4_issue_412 : decode cX4_issue 412 = .ok (.getfield 50, 3) := by decide +kernel
theorem dX4_issue_415 : decode cX4_issue 415 = .ok (.bipush 7, 2) := by decide +kernel
theorem dX4_issue_417 : decode cX4_issue 417 = .ok (.iload 7, 2) := by decide +kernel
theorem dX4_issue_419 : decode cX4_issue 419 = .ok (.imul, 1) := by decide +kernel
theorem dX4_issue_420 : decode cX4_issue 420 = .ok (.iconst 1, 1) := by decide +kernel
theorem dX4_issue_421 : decode cX4_issue 421 = .ok (.iadd, 1) := by decide +kernel
theorem dX4_issue_422 : decode cX4_issue 422 = .ok (.aload_n 0, 1) := by decide +kernel
theorem dX4_issue_423 : decode cX4_issue 423 = .ok (.getfield 83, 3) := by decide +kernel
theorem dX4_issue_426 : decode cX4_issue 426 = .ok (.iastore, 1) := by decide +kernel
theorem dX4_issue_427 : decode cX4_issue 427 = .ok (.aload_n 0, 1) := by decide +kernel
theorem dX4_issue_428 : decode cX4_issue 428 = .ok (.getfield 50, 3) := by decide +kernel
theorem dX4_issue_431 : decode cX4_issue 431 = .ok (.bipush 7, 2) := by decide +kernel
theorem dX4_issue_433 : decode cX4_issue 433 = .ok (.iload 7, 2) := by decide +kernel
theorem dX4_issue_435 : decode cX4_issue 435 = .ok (.imul, 1) := by decide +kernel
theorem dX4_issue_436 : decode cX4_issue 436 = .ok (.iconst 2, 1) := by decide +kernel
theorem dX4_issue_437 : decode cX4_issue 437 = .ok (.iadd, 1) := by decide +kernel
theorem dX4_issue_438 : decode cX4_issue 438 = .ok (.iload_n 1, 1) := by decide +kernel
theorem dX4_issue_439 : decode cX4_issue 439 = .ok (.iastore, 1) := by decide +kernel
theorem dX4_issue_440 : decode cX4_issue 440 = .ok (.aload_n 0, 1) := by decide +kernel
theorem dX4_issue_441 : decode cX4_issue 441 = .ok (.getfield 50, 3) := by decide +kernel
theorem dX4_issue_444 : decode cX4_issue 444 = .ok (.bipush 7, 2) := by decide +kernel
theorem dX4_issue_446 : decode cX4_issue 446 = .ok (.iload 7, 2) := by decide +kernel
theorem dX4_issue_448 : decode cX4_issue 448 = .ok (.imul, 1) := by decide +kernel
theorem dX4_issue_449 : decode cX4_issue 449 = .ok (.iconst 3, 1) := by decide +kernel
theorem dX4_issue_450 : decode cX4_issue 450 = .ok (.iadd, 1) := by decide +kernel
theorem dX4_issue_451 : decode cX4_issue 451 = .ok (.iload 8, 2) := by decide +kernel
theorem dX4_issue_453 : decode cX4_issue 453 = .ok (.iastore, 1) := by decide +kernel
theorem dX4_issue_454 : decode cX4_issue 454 = .ok (.aload_n 0, 1) := by decide +kernel
theorem dX4_issue_455 : decode cX4_issue 455 = .ok (.getfield 50, 3) := by decide +kernel
theorem dX4_issue_458 : decode cX4_issue 458 = .ok (.bipush 7, 2) := by decide +kernel
theorem dX4_issue_460 : decode cX4_issue 460 = .ok (.iload 7, 2) := by decide +kernel
theorem dX4_issue_462 : decode cX4_issue 462 = .ok (.imul, 1) := by decide +kernel
theorem dX4_issue_463 : decode cX4_issue 463 = .ok (.iconst 4, 1) := by decide +kernel
theorem dX4_issue_464 : decode cX4_issue 464 = .ok (.iadd, 1) := by decide +kernel
theorem dX4_issue_465 : decode cX4_issue 465 = .ok (.iload 9, 2) := by decide +kernel
theorem dX4_issue_467 : decode cX4_issue 467 = .ok (.iastore, 1) := by decide +kernel
theorem dX4_issue_468 : decode cX4_issue 468 = .ok (.aload_n 0, 1) := by decide +kernel
theorem dX4_issue_469 : decode cX4_issue 469 = .ok (.getfield 50, 3) := by decide +kernel
theorem dX4_issue_472 : decode cX4_issue 472 = .ok (.bipush 7, 2) := by decide +kernel
theorem dX4_issue_474 : decode cX4_issue 474 = .ok (.iload 7, 2) := by decide +kernel
theorem dX4_issue_476 : decode cX4_issue 476 = .ok (.imul, 1) := by decide +kernel
theorem dX4_issue_477 : decode cX4_issue 477 = .ok (.iconst 5, 1) := by decide +kernel
theorem dX4_issue_478 : decode cX4_issue 478 = .ok (.iadd, 1) := by decide +kernel
theorem dX4_issue_479 : decode cX4_issue 479 = .ok (.iload 10, 2) := by decide +kernel
theorem dX4_issue_481 : decode cX4_issue 481 = .ok (.iastore, 1) := by decide +kernel
theorem dX4_issue_482 : decode cX4_issue 482 = .ok (.aload_n 0, 1) := by decide +kernel
theorem dX4_issue_483 : decode cX4_issue 483 = .ok (.getfield 50, 3) := by decide +kernel
theorem dX4_issue_486 : decode cX4_issue 486 = .ok (.bipush 7, 2) := by decide +kernel
theorem dX4_issue_488 : decode cX4_issue 488 = .ok (.iload 7, 2) := by decide +kernel
theorem dX4_issue_490 : decode cX4_issue 490 = .ok (.imul, 1) := by decide +kernel
theorem dX4_issue_491 : decode cX4_issue 491 = .ok (.bipush 6, 2) := by decide +kernel
theorem dX4_issue_493 : decode cX4_issue 493 = .ok (.iadd, 1) := by decide +kernel
theorem dX4_issue_494 : decode cX4_issue 494 = .ok (.iload_n 2, 1) := by decide +kernel
theorem dX4_issue_495 : decode cX4_issue 495 = .ok (.invokestatic 105, 3) := by decide +kernel
theorem dX4_issue_498 : decode cX4_issue 498 = .ok (.ifCond .eq 8, 3) := by decide +kernel
theorem dX4_issue_501 : decode cX4_issue 501 = .ok (.iload 4, 2) := by decide +kernel
theorem dX4_issue_503 : decode cX4_issue 503 = .ok (.goto 5, 3) := by decide +kernel
theorem dX4_issue_506 : decode cX4_issue 506 = .ok (.iload 11, 2) := by decide +kernel
theorem dX4_issue_508 : decode cX4_issue 508 = .ok (.iastore, 1) := by decide +kernel
theorem dX4_issue_509 : decode cX4_issue 509 = .ok (.iconst 0, 1) := by decide +kernel
theorem dX4_issue_510 : decode cX4_issue 510 = .ok (.istore 12, 2) := by decide +kernel
theorem dX4_issue_512 : decode cX4_issue 512 = .ok (.iload 12, 2) := by decide +kernel
theorem dX4_issue_514 : decode cX4_issue 514 = .ok (.bipush 6, 2) := by decide +kernel
theorem dX4_issue_516 : decode cX4_issue 516 = .ok (.if_icmp .ge 40, 3) := by decide +kernel
theorem dX4_issue_519 : decode cX4_issue 519 = .ok (.aload_n 0, 1) := by decide +kernel
theorem dX4_issue_520 : decode cX4_issue 520 = .ok (.getfield 60, 3) := by decide +kernel
theorem dX4_issue_523 : decode cX4_issue 523 = .ok (.bipush 6, 2) := by decide +kernel
theorem dX4_issue_525 : decode cX4_issue 525 = .ok (.aload_n 0, 1) := by decide +kernel
theorem dX4_issue_526 : decode cX4_issue 526 = .ok (.getfield 83, 3) := by decide +kernel
theorem dX4_issue_529 : decode cX4_issue 529 = .ok (.bipush 64, 2) := by decide +kernel
theorem dX4_issue_531 : decode cX4_issue 531 = .ok (.irem, 1) := by decide +kernel
theorem dX4_issue_532 : decode cX4_issue 532 = .ok (.imul, 1) := by decide +kernel
theorem dX4_issue_533 : decode cX4_issue 533 = .ok (.iload 12, 2) := by decide +kernel
theorem dX4_issue_535 : decode cX4_issue 535 = .ok (.iadd, 1) := by decide +kernel
theorem dX4_issue_536 : decode cX4_issue 536 = .ok (.aload_n 0, 1) := by decide +kernel
theorem dX4_issue_537 : decode cX4_issue 537 = .ok (.getfield 50, 3) := by decide +kernel
theorem dX4_issue_540 : decode cX4_issue 540 = .ok (.bipush 7, 2) := by decide +kernel
theorem dX4_issue_542 : decode cX4_issue 542 = .ok (.iload 7, 2) := by decide +kernel
theorem dX4_issue_544 : decode cX4_issue 544 = .ok (.imul, 1) := by decide +kernel
theorem dX4_issue_545 : decode cX4_issue 545 = .ok (.iload 12, 2) := by decide +kernel
theorem dX4_issue_547 : decode cX4_issue 547 = .ok (.iadd, 1) := by decide +kernel
theorem dX4_issue_548 : decode cX4_issue 548 = .ok (.iaload, 1) := by decide +kernel
theorem dX4_issue_549 : decode cX4_issue 549 = .ok (.iastore, 1) := by decide +kernel
theorem dX4_issue_550 : decode cX4_issue 550 = .ok (.iinc 12 1, 3) := by decide +kernel
theorem dX4_issue_553 : decode cX4_issue 553 = .ok (.goto (-41), 3) := by decide +kernel
theorem dX4_issue_556 : decode cX4_issue 556 = .ok (.aload_n 0, 1) := by decide +kernel
theorem dX4_issue_557 : decode cX4_issue 557 = .ok (.invokevirtual 146, 3) := by decide +kernel
theorem dX4_issue_560 : decode cX4_issue 560 = .ok (.lstore 12, 2) := by decide +kernel
theorem dX4_issue_562 : decode cX4_issue 562 = .ok (.aload_n 0, 1) := by decide +kernel
theorem dX4_issue_563 : decode cX4_issue 563 = .ok (.getfield 53, 3) := by decide +kernel
theorem dX4_issue_566 : decode cX4_issue 566 = .ok (.iload 7, 2) := by decide +kernel
theorem dX4_issue_568 : decode cX4_issue 568 = .ok (.lload 12, 2) := by decide +kernel
theorem dX4_issue_570 : decode cX4_issue 570 = .ok (.lastore, 1) := by decide +kernel
theorem dX4_issue_571 : decode cX4_issue 571 = .ok (.aload_n 0, 1) := by decide +kernel
theorem dX4_issue_572 : decode cX4_issue 572 = .ok (.getfield 56, 3) := by decide +kernel
theorem dX4_issue_575 : decode cX4_issue 575 = .ok (.iload 7, 2) := by decide +kernel
theorem dX4_issue_577 : decode cX4_issue 577 = .ok (.iconst 1, 1) := by decide +kernel
theorem dX4_issue_578 : decode cX4_issue 578 = .ok (.bastore, 1) := by decide +kernel
theorem dX4_issue_579 : decode cX4_issue 579 = .ok (.iload_n 2, 1) := by decide +kernel
theorem dX4_issue_580 : decode cX4_issue 580 = .ok (.invokestatic 105, 3) := by decide +kernel
theorem dX4_issue_583 : decode cX4_issue 583 = .ok (.ifCond .eq 35, 3) := by decide +kernel
theorem dX4_issue_586 : decode cX4_issue 586 = .ok (.aload_n 0, 1) := by decide +kernel
theorem dX4_issue_587 : decode cX4_issue 587 = .ok (.getfield 26, 3) := by decide +kernel
theorem dX4_issue_590 : decode cX4_issue 590 = .ok (.iload 4, 2) := by decide +kernel
theorem dX4_issue_592 : decode cX4_issue 592 = .ok (.lload 12, 2) := by decide +kernel
theorem dX4_issue_594 : decode cX4_issue 594 = .ok (.lastore, 1) := by decide +kernel
theorem dX4_issue_595 : decode cX4_issue 595 = .ok (.aload_n 0, 1) := by decide +kernel
theorem dX4_issue_596 : decode cX4_issue 596 = .ok (.getfield 41, 3) := by decide +kernel
theorem dX4_issue_599 : decode cX4_issue 599 = .ok (.iload 4, 2) := by decide +kernel
theorem dX4_issue_601 : decode cX4_issue 601 = .ok (.iload 10, 2) := by decide +kernel
theorem dX4_issue_603 : decode cX4_issue 603 = .ok (.iastore, 1) := by decide +kernel
theorem dX4_issue_604 : decode cX4_issue 604 = .ok (.aload_n 0, 1) := by decide +kernel
theorem dX4_issue_605 : decode cX4_issue 605 = .ok (.getfield 44, 3) := by decide +kernel
theorem dX4_issue_608 : decode cX4_issue 608 = .ok (.iload 4, 2) := by decide +kernel
theorem dX4_issue_610 : decode cX4_issue 610 = .ok (.aload_n 0, 1) := by decide +kernel
theorem dX4_issue_611 : decode cX4_issue 611 = .ok (.getfield 83, 3) := by decide +kernel
theorem dX4_issue_614 : decode cX4_issue 614 = .ok (.iastore, 1) := by decide +kernel
theorem dX4_issue_615 : decode cX4_issue 615 = .ok (.goto 21, 3) := by decide +kernel
theorem dX4_issue_618 : decode cX4_issue 618 = .ok (.iload_n 2, 1) := by decide +kernel
theorem dX4_issue_619 : decode cX4_issue 619 = .ok (.bipush 15, 2) := by decide +kernel
theorem dX4_issue_621 : decode cX4_issue 621 = .ok (.if_icmp .ne 15, 3) := by decide +kernel
theorem dX4_issue_624 : decode cX4_issue 624 = .ok (.aload_n 0, 1) := by decide +kernel
theorem dX4_issue_625 : decode cX4_issue 625 = .ok (.getfield 29, 3) := by decide +kernel
theorem dX4_issue_628 : decode cX4_issue 628 = .ok (.iload 11, 2) := by decide +kernel
theorem dX4_issue_630 : decode cX4_issue 630 = .ok (.bipush 16, 2) := by decide +kernel
theorem dX4_issue_632 : decode cX4_issue 632 = .ok (.isub, 1) := by decide +kernel
theorem dX4_issue_633 : decode cX4_issue 633 = .ok (.lload 12, 2) := by decide +kernel
theorem dX4_issue_635 : decode cX4_issue 635 = .ok (.lastore, 1) := by decide +kernel
theorem dX4_issue_636 : decode cX4_issue 636 = .ok (.iload_n 3, 1) := by decide +kernel
theorem dX4_issue_637 : decode cX4_issue 637 = .ok (.iconst 5, 1) := by decide +kernel
theorem dX4_issue_638 : decode cX4_issue 638 = .ok (.if_icmp .ne 9, 3) := by decide +kernel
theorem dX4_issue_641 : decode cX4_issue 641 = .ok (.aload_n 0, 1) := by decide +kernel
theorem dX4_issue_642 : decode cX4_issue 642 = .ok (.iload 10, 2) := by decide +kernel
theorem dX4_issue_644 : decode cX4_issue 644 = .ok (.putfield 95, 3) := by decide +kernel
theorem dX4_issue_647 : decode cX4_issue 647 = .ok (.aload_n 0, 1) := by decide +kernel
theorem dX4_issue_648 : decode cX4_issue 648 = .ok (.aload_n 0, 1) := by decide +kernel
theorem dX4_issue_649 : decode cX4_issue 649 = .ok (.getfield 98, 3) := by decide +kernel
theorem dX4_issue_652 : decode cX4_issue 652 = .ok (.iload 10, 2) := by decide +kernel
theorem dX4_issue_654 : decode cX4_issue 654 = .ok (.invokestatic 112, 3) := by decide +kernel
theorem dX4_issue_657 : decode cX4_issue 657 = .ok (.putfield 98, 3) := by decide +kernel
theorem dX4_issue_660 : decode cX4_issue 660 = .ok (.aload_n 0, 1) := by decide +kernel
theorem dX4_issue_661 : decode cX4_issue 661 = .ok (.iload_n 1, 1) := by decide +kernel
theorem dX4_issue_662 : decode cX4_issue 662 = .ok (.aload_n 0, 1) := by decide +kernel
theorem dX4_issue_663 : decode cX4_issue 663 = .ok (.getfield 89, 3) := by decide +kernel
theorem dX4_issue_666 : decode cX4_issue 666 = .ok (.if_icmp .ne 12, 3) := by decide +kernel
theorem dX4_issue_669 : decode cX4_issue 669 = .ok (.aload_n 0, 1) := by decide +kernel
theorem dX4_issue_670 : decode cX4_issue 670 = .ok (.getfield 92, 3) := by decide +kernel
theorem dX4_issue_673 : decode cX4_issue 673 = .ok (.iconst 1, 1) := by decide +kernel
theorem dX4_issue_674 : decode cX4_issue 674 = .ok (.iadd, 1) := by decide +kernel
theorem dX4_issue_675 : decode cX4_issue 675 = .ok (.goto 4, 3) := by decide +kernel
theorem dX4_issue_678 : decode cX4_issue 678 = .ok (.iconst 1, 1) := by decide +kernel
theorem dX4_issue_679 : decode cX4_issue 679 = .ok (.putfield 92, 3) := by decide +kernel
theorem dX4_issue_682 : decode cX4_issue 682 = .ok (.aload_n 0, 1) := by decide +kernel
theorem dX4_issue_683 : decode cX4_issue 683 = .ok (.iload_n 1, 1) := by decide +kernel
theorem dX4_issue_684 : decode cX4_issue 684 = .ok (.putfield 89, 3) := by decide +kernel
theorem dX4_issue_687 : decode cX4_issue 687 = .ok (.aload_n 0, 1) := by decide +kernel
theorem dX4_issue_688 : decode cX4_issue 688 = .ok (.dup, 1) := by decide +kernel
theorem dX4_issue_689 : decode cX4_issue 689 = .ok (.getfield 83, 3) := by decide +kernel
theorem dX4_issue_692 : decode cX4_issue 692 = .ok (.iconst 1, 1) := by decide +kernel
theorem dX4_issue_693 : decode cX4_issue 693 = .ok (.iadd, 1) := by decide +kernel
theorem dX4_issue_694 : decode cX4_issue 694 = .ok (.putfield 83, 3) := by decide +kernel
theorem dX4_issue_697 : decode cX4_issue 697 = .ok (.return_, 1) := by decide +kernel
theorem dX4_commit_0 : decode cX4_commit 0 = .ok (.aload_n 0, 1) := by decide +kernel
theorem dX4_commit_1 : decode cX4_commit 1 = .ok (.getfield 56, 3) := by decide +kernel
theorem dX4_commit_4 : decode cX4_commit 4 = .ok (.iload_n 1, 1) := by decide +kernel
theorem dX4_commit_5 : decode cX4_commit 5 = .ok (.baload, 1) := by decide +kernel
theorem dX4_commit_6 : decode cX4_commit 6 = .ok (.ifCond .ne 4, 3) := by decide +kernel
theorem dX4_commit_9 : decode cX4_commit 9 = .ok (.return_, 1) := by decide +kernel
theorem dX4_commit_10 : decode cX4_commit 10 = .ok (.aload_n 0, 1) := by decide +kernel
theorem dX4_commit_11 : decode cX4_commit 11 = .ok (.getfield 56, 3) := by decide +kernel
theorem dX4_commit_14 : decode cX4_commit 14 = .ok (.iload_n 1, 1) := by decide +kernel
theorem dX4_commit_15 : decode cX4_commit 15 = .ok (.iconst 0, 1) := by decide +kernel
theorem dX4_commit_16 : decode cX4_commit 16 = .ok (.bastore, 1) := by decide +kernel
theorem dX4_commit_17 : decode cX4_commit 17 = .ok (.aload_n 0, 1) := by decide +kernel
theorem dX4_commit_18 : decode cX4_commit 18 = .ok (.getfield 50, 3) := by decide +kernel
theorem dX4_commit_21 : decode cX4_commit 21 = .ok (.bipush 7, 2) := by decide +kernel
theorem dX4_commit_23 : decode cX4_commit 23 = .ok (.iload_n 1, 1) := by decide +kernel
theorem dX4_commit_24 : decode cX4_commit 24 = .ok (.imul, 1) := by decide +kernel
theorem dX4_commit_25 : decode cX4_commit 25 = .ok (.bipush 6, 2) := by decide +kernel
theorem dX4_commit_27 : decode cX4_commit 27 = .ok (.iadd, 1) := by decide +kernel
theorem dX4_commit_28 : decode cX4_commit 28 = .ok (.iaload, 1) := by decide +kernel
theorem dX4_commit_29 : decode cX4_commit 29 = .ok (.istore_n 2, 1) := by decide +kernel
theorem dX4_commit_30 : decode cX4_commit 30 = .ok (.iload_n 2, 1) := by decide +kernel
theorem dX4_commit_31 : decode cX4_commit 31 = .ok (.bipush 16, 2) := by decide +kernel
theorem dX4_commit_33 : decode cX4_commit 33 = .ok (.if_icmp .lt 21, 3) := by decide +kernel
theorem dX4_commit_36 : decode cX4_commit 36 = .ok (.aload_n 0, 1) := by decide +kernel
theorem dX4_commit_37 : decode cX4_commit 37 = .ok (.getfield 35, 3) := by decide +kernel
theorem dX4_commit_40 : decode cX4_commit 40 = .ok (.iload_n 2, 1) := by decide +kernel
theorem dX4_commit_41 : decode cX4_commit 41 = .ok (.bipush 16, 2) := by decide +kernel
theorem dX4_commit_43 : decode cX4_commit 43 = .ok (.isub, 1) := by decide +kernel
theorem dX4_commit_44 : decode cX4_commit 44 = .ok (.aload_n 0, 1) := by decide +kernel
theorem dX4_commit_45 : decode cX4_commit 45 = .ok (.getfield 53, 3) := by decide +kernel
theorem dX4_commit_48 : decode cX4_commit 48 = .ok (.iload_n 1, 1) := by decide +kernel
theorem dX4_commit_49 : decode cX4_commit 49 = .ok (.laload, 1) := by decide +kernel
theorem dX4_commit_50 : decode cX4_commit 50 = .ok (.lastore, 1) := by decide +kernel
theorem dX4_commit_51 : decode cX4_commit 51 = .ok (.goto 19, 3) := by decide +kernel
theorem dX4_commit_54 : decode cX4_commit 54 = .ok (.iload_n 2, 1) := by decide +kernel
theorem dX4_commit_55 : decode cX4_commit 55 = .ok (.ifCond .lt 15, 3) := by decide +kernel
theorem dX4_commit_58 : decode cX4_commit 58 = .ok (.aload_n 0, 1) := by decide +kernel
theorem dX4_commit_59 : decode cX4_commit 59 = .ok (.getfield 32, 3) := by decide +kernel
theorem dX4_commit_62 : decode cX4_commit 62 = .ok (.iload_n 2, 1) := by decide +kernel
theorem dX4_commit_63 : decode cX4_commit 63 = .ok (.aload_n 0, 1) := by decide +kernel
theorem dX4_commit_64 : decode cX4_commit 64 = .ok (.getfield 53, 3) := by decide +kernel
theorem dX4_commit_67 : decode cX4_commit 67 = .ok (.iload_n 1, 1) := by decide +kernel
theorem dX4_commit_68 : decode cX4_commit 68 = .ok (.laload, 1) := by decide +kernel
theorem dX4_commit_69 : decode cX4_commit 69 = .ok (.lastore, 1) := by decide +kernel
theorem dX4_commit_70 : decode cX4_commit 70 = .ok (.return_, 1) := by decide +kernel
theorem dX4_run_0 : decode cX4_run 0 = .ok (.aload_n 0, 1) := by decide +kernel
theorem dX4_run_1 : decode cX4_run 1 = .ok (.iconst 0, 1) := by decide +kernel
theorem dX4_run_2 : decode cX4_run 2 = .ok (.putfield 66, 3) := by decide +kernel
theorem dX4_run_5 : decode cX4_run 5 = .ok (.iload_n 1, 1) := by decide +kernel
theorem dX4_run_6 : decode cX4_run 6 = .ok (.ifCond .lt 10, 3) := by decide +kernel
theorem dX4_run_9 : decode cX4_run 9 = .ok (.iload_n 1, 1) := by decide +kernel
theorem dX4_run_10 : decode cX4_run 10 = .ok (.sipush 3000, 3) := by decide +kernel
theorem dX4_run_13 : decode cX4_run 13 = .ok (.if_icmp .le 5, 3) := by decide +kernel
theorem dX4_run_16 : decode cX4_run 16 = .ok (.iconst (-1), 1) := by decide +kernel
theorem dX4_run_17 : decode cX4_run 17 = .ok (.ireturn, 1) := by decide +kernel
theorem dX4_run_18 : decode cX4_run 18 = .ok (.aload_n 0, 1) := by decide +kernel
theorem dX4_run_19 : decode cX4_run 19 = .ok (.getfield 79, 3) := by decide +kernel
theorem dX4_run_22 : decode cX4_run 22 = .ok (.ifCond .eq 5, 3) := by decide +kernel
theorem dX4_run_25 : decode cX4_run 25 = .ok (.iconst 0, 1) := by decide +kernel
theorem dX4_run_26 : decode cX4_run 26 = .ok (.ireturn, 1) := by decide +kernel
theorem dX4_run_27 : decode cX4_run 27 = .ok (.aload_n 0, 1) := by decide +kernel
theorem dX4_run_28 : decode cX4_run 28 = .ok (.getfield 76, 3) := by decide +kernel
theorem dX4_run_31 : decode cX4_run 31 = .ok (.istore_n 2, 1) := by decide +kernel
theorem dX4_run_32 : decode cX4_run 32 = .ok (.aload_n 0, 1) := by decide +kernel
theorem dX4_run_33 : decode cX4_run 33 = .ok (.getfield 76, 3) := by decide +kernel
theorem dX4_run_36 : decode cX4_run 36 = .ok (.iload_n 1, 1) := by decide +kernel
theorem dX4_run_37 : decode cX4_run 37 = .ok (.iadd, 1) := by decide +kernel
theorem dX4_run_38 : decode cX4_run 38 = .ok (.istore_n 3, 1) := by decide +kernel
theorem dX4_run_39 : decode cX4_run 39 = .ok (.iconst 1, 1) := by decide +kernel
theorem dX4_run_40 : decode cX4_run 40 = .ok (.istore 4, 2) := by decide +kernel
theorem dX4_run_42 : decode cX4_run 42 = .ok (.iload 4, 2) := by decide +kernel
theorem dX4_run_44 : decode cX4_run 44 = .ok (.ifCond .eq 97, 3) := by decide +kernel
theorem dX4_run_47 : decode cX4_run 47 = .ok (.aload_n 0, 1) := by decide +kernel
theorem dX4_run_48 : decode cX4_run 48 = .ok (.invokevirtual 101, 3) := by decide +kernel
theorem dX4_run_51 : decode cX4_run 51 = .ok (.ifCond .ne 57, 3) := by decide +kernel
theorem dX4_run_54 : decode cX4_run 54 = .ok (.iconst 1, 1) := by decide +kernel
theorem dX4_run_55 : decode cX4_run 55 = .ok (.aload_n 0, 1) := by decide +kernel
theorem dX4_run_56 : decode cX4_run 56 = .ok (.getfield 89, 3) := by decide +kernel
theorem dX4_run_59 : decode cX4_run 59 = .ok (.invokestatic 112, 3) := by decide +kernel
theorem dX4_run_62 : decode cX4_run 62 = .ok (.aload_n 0, 1) := by decide +kernel
theorem dX4_run_63 : decode cX4_run 63 = .ok (.getfield 98, 3) := by decide +kernel
theorem dX4_run_66 : decode cX4_run 66 = .ok (.iconst 1, 1) := by decide +kernel
theorem dX4_run_67 : decode cX4_run 67 = .ok (.iadd, 1) := by decide +kernel
theorem dX4_run_68 : decode cX4_run 68 = .ok (.invokestatic 112, 3) := by decide +kernel
theorem dX4_run_71 : decode cX4_run 71 = .ok (.istore 5, 2) := by decide +kernel
theorem dX4_run_73 : decode cX4_run 73 = .ok (.aload_n 0, 1) := by decide +kernel
theorem dX4_run_74 : decode cX4_run 74 = .ok (.iload 5, 2) := by decide +kernel
theorem dX4_run_76 : decode cX4_run 76 = .ok (.iload_n 3, 1) := by decide +kernel
theorem dX4_run_77 : decode cX4_run 77 = .ok (.if_icmp .gt 7, 3) := by decide +kernel
theorem dX4_run_80 : decode cX4_run 80 = .ok (.iconst 1, 1) := by decide +kernel
theorem dX4_run_81 : decode cX4_run 81 = .ok (.goto 4, 3) := by decide +kernel
theorem dX4_run_84 : decode cX4_run 84 = .ok (.iconst 0, 1) := by decide +kernel
theorem dX4_run_85 : decode cX4_run 85 = .ok (.putfield 79, 3) := by decide +kernel
theorem dX4_run_88 : decode cX4_run 88 = .ok (.aload_n 0, 1) := by decide +kernel
theorem dX4_run_89 : decode cX4_run 89 = .ok (.getfield 79, 3) := by decide +kernel
theorem dX4_run_92 : decode cX4_run 92 = .ok (.ifCond .eq 8, 3) := by decide +kernel
theorem dX4_run_95 : decode cX4_run 95 = .ok (.iload 5, 2) := by decide +kernel
theorem dX4_run_97 : decode cX4_run 97 = .ok (.goto 4, 3) := by decide +kernel
theorem dX4_run_100 : decode cX4_run 100 = .ok (.iload_n 3, 1) := by decide +kernel
theorem dX4_run_101 : decode cX4_run 101 = .ok (.istore_n 3, 1) := by decide +kernel
theorem dX4_run_102 : decode cX4_run 102 = .ok (.iconst 0, 1) := by decide +kernel
theorem dX4_run_103 : decode cX4_run 103 = .ok (.istore 4, 2) := by decide +kernel
theorem dX4_run_105 : decode cX4_run 105 = .ok (.goto (-63), 3) := by decide +kernel
theorem dX4_run_108 : decode cX4_run 108 = .ok (.aload_n 0, 1) := by decide +kernel
theorem dX4_run_109 : decode cX4_run 109 = .ok (.invokevirtual 150, 3) := by decide +kernel
theorem dX4_run_112 : decode cX4_run 112 = .ok (.istore 5, 2) := by decide +kernel
theorem dX4_run_114 : decode cX4_run 114 = .ok (.iload 5, 2) := by decide +kernel
theorem dX4_run_116 : decode cX4_run 116 = .ok (.iload_n 3, 1) := by decide +kernel
theorem dX4_run_117 : decode cX4_run 117 = .ok (.if_icmp .gt 7, 3) := by decide +kernel
theorem dX4_run_120 : decode cX4_run 120 = .ok (.iconst 1, 1) := by decide +kernel
theorem dX4_run_121 : decode cX4_run 121 = .ok (.goto 4, 3) := by decide +kernel
theorem dX4_run_124 : decode cX4_run 124 = .ok (.iconst 0, 1) := by decide +kernel
theorem dX4_run_125 : decode cX4_run 125 = .ok (.istore 4, 2) := by decide +kernel
theorem dX4_run_127 : decode cX4_run 127 = .ok (.iload 4, 2) := by decide +kernel
theorem dX4_run_129 : decode cX4_run 129 = .ok (.ifCond .eq 9, 3) := by decide +kernel
theorem dX4_run_132 : decode cX4_run 132 = .ok (.aload_n 0, 1) := by decide +kernel
theorem dX4_run_133 : decode cX4_run 133 = .ok (.iload 5, 2) := by decide +kernel
theorem dX4_run_135 : decode cX4_run 135 = .ok (.invokevirtual 153, 3) := by decide +kernel
theorem dX4_run_138 : decode cX4_run 138 = .ok (.goto (-96), 3) := by decide +kernel
theorem dX4_run_141 : decode cX4_run 141 = .ok (.aload_n 0, 1) := by decide +kernel
theorem dX4_run_142 : decode cX4_run 142 = .ok (.iload_n 3, 1) := by decide +kernel
theorem dX4_run_143 : decode cX4_run 143 = .ok (.putfield 76, 3) := by decide +kernel
theorem dX4_run_146 : decode cX4_run 146 = .ok (.iconst 0, 1) := by decide +kernel
theorem dX4_run_147 : decode cX4_run 147 = .ok (.istore 5, 2) := by decide +kernel
theorem dX4_run_149 : decode cX4_run 149 = .ok (.iload 5, 2) := by decide +kernel
theorem dX4_run_151 : decode cX4_run 151 = .ok (.bipush 18, 2) := by decide +kernel
theorem dX4_run_153 : decode cX4_run 153 = .ok (.if_icmp .ge 44, 3) := by decide +kernel
theorem dX4_run_156 : decode cX4_run 156 = .ok (.aload_n 0, 1) := by decide +kernel
theorem dX4_run_157 : decode cX4_run 157 = .ok (.getfield 56, 3) := by decide +kernel
theorem dX4_run_160 : decode cX4_run 160 = .ok (.iload 5, 2) := by decide +kernel
theorem dX4_run_162 : decode cX4_run 162 = .ok (.baload, 1) := by decide +kernel
theorem dX4_run_163 : decode cX4_run 163 = .ok (.ifCond .eq 28, 3) := by decide +kernel
theorem dX4_run_166 : decode cX4_run 166 = .ok (.aload_n 0, 1) := by decide +kernel
theorem dX4_run_167 : decode cX4_run 167 = .ok (.getfield 50, 3) := by decide +kernel
theorem dX4_run_170 : decode cX4_run 170 = .ok (.bipush 7, 2) := by decide +kernel
theorem dX4_run_172 : decode cX4_run 172 = .ok (.iload 5, 2) := by decide +kernel
theorem dX4_run_174 : decode cX4_run 174 = .ok (.imul, 1) := by decide +kernel
theorem dX4_run_175 : decode cX4_run 175 = .ok (.iconst 5, 1) := by decide +kernel
theorem dX4_run_176 : decode cX4_run 176 = .ok (.iadd, 1) := by decide +kernel
theorem dX4_run_177 : decode cX4_run 177 = .ok (.iaload, 1) := by decide +kernel
theorem dX4_run_178 : decode cX4_run 178 = .ok (.aload_n 0, 1) := by decide +kernel
theorem dX4_run_179 : decode cX4_run 179 = .ok (.getfield 76, 3) := by decide +kernel
theorem dX4_run_182 : decode cX4_run 182 = .ok (.if_icmp .gt 9, 3) := by decide +kernel
theorem dX4_run_185 : decode cX4_run 185 = .ok (.aload_n 0, 1) := by decide +kernel
theorem dX4_run_186 : decode cX4_run 186 = .ok (.iload 5, 2) := by decide +kernel
theorem dX4_run_188 : decode cX4_run 188 = .ok (.invokevirtual 136, 3) := by decide +kernel
theorem dX4_run_191 : decode cX4_run 191 = .ok (.iinc 5 1, 3) := by decide +kernel
theorem dX4_run_194 : decode cX4_run 194 = .ok (.goto (-45), 3) := by decide +kernel
theorem dX4_run_197 : decode cX4_run 197 = .ok (.aload_n 0, 1) := by decide +kernel
theorem dX4_run_198 : decode cX4_run 198 = .ok (.getfield 76, 3) := by decide +kernel
theorem dX4_run_201 : decode cX4_run 201 = .ok (.iload_n 2, 1) := by decide +kernel
theorem dX4_run_202 : decode cX4_run 202 = .ok (.isub, 1) := by decide +kernel
theorem dX4_run_203 : decode cX4_run 203 = .ok (.ireturn, 1) := by decide +kernel
theorem dX4_open_0 : decode cX4_open 0 = .ok (.iconst 0, 1) := by decide +kernel
theorem dX4_open_1 : decode cX4_open 1 = .ok (.istore_n 1, 1) := by decide +kernel
theorem dX4_open_2 : decode cX4_open 2 = .ok (.iconst 0, 1) := by decide +kernel
theorem dX4_open_3 : decode cX4_open 3 = .ok (.istore_n 2, 1) := by decide +kernel
theorem dX4_open_4 : decode cX4_open 4 = .ok (.iload_n 2, 1) := by decide +kernel
theorem dX4_open_5 : decode cX4_open 5 = .ok (.bipush 18, 2) := by decide +kernel
theorem dX4_open_7 : decode cX4_open 7 = .ok (.if_icmp .ge 21, 3) := by decide +kernel
theorem dX4_open_10 : decode cX4_open 10 = .ok (.aload_n 0, 1) := by decide +kernel
theorem dX4_open_11 : decode cX4_open 11 = .ok (.getfield 56, 3) := by decide +kernel
theorem dX4_open_14 : decode cX4_open 14 = .ok (.iload_n 2, 1) := by decide +kernel
theorem dX4_open_15 : decode cX4_open 15 = .ok (.baload, 1) := by decide +kernel
theorem dX4_open_16 : decode cX4_open 16 = .ok (.ifCond .eq 6, 3) := by decide +kernel
theorem dX4_open_19 : decode cX4_open 19 = .ok (.iinc 1 1, 3) := by decide +kernel
theorem dX4_open_22 : decode cX4_open 22 = .ok (.iinc 2 1, 3) := by decide +kernel
theorem dX4_open_25 : decode cX4_open 25 = .ok (.goto (-21), 3) := by decide +kernel
theorem dX4_open_28 : decode cX4_open 28 = .ok (.iload_n 1, 1) := by decide +kernel
theorem dX4_open_29 : decode cX4_open 29 = .ok (.ireturn, 1) := by decide +kernel
theorem dX4_count_0 : decode cX4_count 0 = .ok (.aload_n 0, 1) := by decide +kernel
theorem dX4_count_1 : decode cX4_count 1 = .ok (.iconst 0, 1) := by decide +kernel
theorem dX4_count_2 : decode cX4_count 2 = .ok (.putfield 66, 3) := by decide +kernel
theorem dX4_count_5 : decode cX4_count 5 = .ok (.iload_n 1, 1) := by decide +kernel
theorem dX4_count_6 : decode cX4_count 6 = .ok (.tableswitch 140 0 8 #[50, 55, 68, 73, 78, 78, 78, 110, 130], 50) := by decide +kernel
theorem dX4_count_56 : decode cX4_count 56 = .ok (.aload_n 0, 1) := by decide +kernel
theorem dX4_count_57 : decode cX4_count 57 = .ok (.getfield 76, 3) := by decide +kernel
theorem dX4_count_60 : decode cX4_count 60 = .ok (.ireturn, 1) := by decide +kernel
theorem dX4_count_61 : decode cX4_count 61 = .ok (.aload_n 0, 1) := by decide +kernel
theorem dX4_count_62 : decode cX4_count 62 = .ok (.getfield 79, 3) := by decide +kernel
theorem dX4_count_65 : decode cX4_count 65 = .ok (.ifCond .eq 7, 3) := by decide +kernel
theorem dX4_count_68 : decode cX4_count 68 = .ok (.iconst 1, 1) := by decide +kernel
theorem dX4_count_69 : decode cX4_count 69 = .ok (.goto 4, 3) := by decide +kernel
theorem dX4_count_72 : decode cX4_count 72 = .ok (.iconst 0, 1) := by decide +kernel
theorem dX4_count_73 : decode cX4_count 73 = .ok (.ireturn, 1) := by decide +kernel
theorem dX4_count_74 : decode cX4_count 74 = .ok (.aload_n 0, 1) := by decide +kernel
theorem dX4_count_75 : decode cX4_count 75 = .ok (.getfield 83, 3) := by decide +kernel
theorem dX4_count_78 : decode cX4_count 78 = .ok (.ireturn, 1) := by decide +kernel
theorem dX4_count_79 : decode cX4_count 79 = .ok (.aload_n 0, 1) := by decide +kernel
theorem dX4_count_80 : decode cX4_count 80 = .ok (.invokevirtual 156, 3) := by decide +kernel
theorem dX4_count_83 : decode cX4_count 83 = .ok (.ireturn, 1) := by decide +kernel
theorem dX4_count_84 : decode cX4_count 84 = .ok (.aload_n 0, 1) := by decide +kernel
theorem dX4_count_85 : decode cX4_count 85 = .ok (.getfield 38, 3) := by decide +kernel
theorem dX4_count_88 : decode cX4_count 88 = .ok (.iload_n 1, 1) := by decide +kernel
theorem dX4_count_89 : decode cX4_count 89 = .ok (.iconst 4, 1) := by decide +kernel
theorem dX4_count_90 : decode cX4_count 90 = .ok (.isub, 1) := by decide +kernel
theorem dX4_count_91 : decode cX4_count 91 = .ok (.iaload, 1) := by decide +kernel
theorem dX4_count_92 : decode cX4_count 92 = .ok (.aload_n 0, 1) := by decide +kernel
theorem dX4_count_93 : decode cX4_count 93 = .ok (.invokevirtual 101, 3) := by decide +kernel
theorem dX4_count_96 : decode cX4_count 96 = .ok (.ifCond .ne 7, 3) := by decide +kernel
theorem dX4_count_99 : decode cX4_count 99 = .ok (.iconst 0, 1) := by decide +kernel
theorem dX4_count_100 : decode cX4_count 100 = .ok (.goto 14, 3) := by decide +kernel
theorem dX4_count_103 : decode cX4_count 103 = .ok (.aload_n 0, 1) := by decide +kernel
theorem dX4_count_104 : decode cX4_count 104 = .ok (.iload_n 1, 1) := by decide +kernel
theorem dX4_count_105 : decode cX4_count 105 = .ok (.iconst 4, 1) := by decide +kernel
theorem dX4_count_106 : decode cX4_count 106 = .ok (.isub, 1) := by decide +kernel
theorem dX4_count_107 : decode cX4_count 107 = .ok (.aload_n 0, 1) := by decide +kernel
theorem dX4_count_108 : decode cX4_count 108 = .ok (.getfield 76, 3) := by decide +kernel
theorem dX4_count_111 : decode cX4_count 111 = .ok (.invokevirtual 133, 3) := by decide +kernel
theorem dX4_count_114 : decode cX4_count 114 = .ok (.iadd, 1) := by decide +kernel
theorem dX4_count_115 : decode cX4_count 115 = .ok (.ireturn, 1) := by decide +kernel
theorem dX4_count_116 : decode cX4_count 116 = .ok (.aload_n 0, 1) := by decide +kernel
theorem dX4_count_117 : decode cX4_count 117 = .ok (.getfield 95, 3) := by decide +kernel
theorem dX4_count_120 : decode cX4_count 120 = .ok (.aload_n 0, 1) := by decide +kernel
theorem dX4_count_121 : decode cX4_count 121 = .ok (.getfield 76, 3) := by decide +kernel
theorem dX4_count_124 : decode cX4_count 124 = .ok (.if_icmp .le 7, 3) := by decide +kernel
theorem dX4_count_127 : decode cX4_count 127 = .ok (.iconst (-1), 1) := by decide +kernel
theorem dX4_count_128 : decode cX4_count 128 = .ok (.goto 7, 3) := by decide +kernel
theorem dX4_count_131 : decode cX4_count 131 = .ok (.aload_n 0, 1) := by decide +kernel
theorem dX4_count_132 : decode cX4_count 132 = .ok (.getfield 86, 3) := by decide +kernel
theorem dX4_count_135 : decode cX4_count 135 = .ok (.ireturn, 1) := by decide +kernel
theorem dX4_count_136 : decode cX4_count 136 = .ok (.aload_n 0, 1) := by decide +kernel
theorem dX4_count_137 : decode cX4_count 137 = .ok (.getfield 83, 3) := by decide +kernel
theorem dX4_count_140 : decode cX4_count 140 = .ok (.aload_n 0, 1) := by decide +kernel
theorem dX4_count_141 : decode cX4_count 141 = .ok (.invokevirtual 156, 3) := by decide +kernel
theorem dX4_count_144 : decode cX4_count 144 = .ok (.isub, 1) := by decide +kernel
theorem dX4_count_145 : decode cX4_count 145 = .ok (.ireturn, 1) := by decide +kernel
theorem dX4_count_146 : decode cX4_count 146 = .ok (.iconst (-1), 1) := by decide +kernel
theorem dX4_count_147 : decode cX4_count 147 = .ok (.ireturn, 1) := by decide +kernel
theorem dX4_register_0 : decode cX4_register 0 = .ok (.aload_n 0, 1) := by decide +kernel
theorem dX4_register_1 : decode cX4_register 1 = .ok (.iconst 0, 1) := by decide +kernel
theorem dX4_register_2 : decode cX4_register 2 = .ok (.putfield 66, 3) := by decide +kernel
theorem dX4_register_5 : decode cX4_register 5 = .ok (.iload_n 1, 1) := by decide +kernel
theorem dX4_register_6 : decode cX4_register 6 = .ok (.ifCond .lt 9, 3) := by decide +kernel
theorem dX4_register_9 : decode cX4_register 9 = .ok (.iload_n 1, 1) := by decide +kernel
theorem dX4_register_10 : decode cX4_register 10 = .ok (.bipush 16, 2) := by decide +kernel
theorem dX4_register_12 : decode cX4_register 12 = .ok (.if_icmp .lt 10, 3) := by decide +kernel
theorem dX4_register_15 : decode cX4_register 15 = .ok (.aload_n 0, 1) := by decide +kernel
theorem dX4_register_16 : decode cX4_register 16 = .ok (.iconst 1, 1) := by decide +kernel
theorem dX4_register_17 : decode cX4_register 17 = .ok (.putfield 66, 3) := by decide +kernel
theorem dX4_register_20 : decode cX4_register 20 = .ok (.lconst 0, 1) := by decide +kernel
theorem dX4_register_21 : decode cX4_register 21 = .ok (.lreturn, 1) := by decide +kernel
theorem dX4_register_22 : decode cX4_register 22 = .ok (.aload_n 0, 1) := by decide +kernel
theorem dX4_register_23 : decode cX4_register 23 = .ok (.getfield 32, 3) := by decide +kernel
theorem dX4_register_26 : decode cX4_register 26 = .ok (.iload_n 1, 1) := by decide +kernel
theorem dX4_register_27 : decode cX4_register 27 = .ok (.laload, 1) := by decide +kernel
theorem dX4_register_28 : decode cX4_register 28 = .ok (.lreturn, 1) := by decide +kernel
theorem dX4_memory_0 : decode cX4_memory 0 = .ok (.aload_n 0, 1) := by decide +kernel
theorem dX4_memory_1 : decode cX4_memory 1 = .ok (.iconst 0, 1) := by decide +kernel
theorem dX4_memory_2 : decode cX4_memory 2 = .ok (.putfield 66, 3) := by decide +kernel
theorem dX4_memory_5 : decode cX4_memory 5 = .ok (.iload_n 1, 1) := by decide +kernel
theorem dX4_memory_6 : decode cX4_memory 6 = .ok (.ifCond .lt 10, 3) := by decide +kernel
theorem dX4_memory_9 : decode cX4_memory 9 = .ok (.iload_n 1, 1) := by decide +kernel
theorem dX4_memory_10 : decode cX4_memory 10 = .ok (.sipush 256, 3) := by decide +kernel
theorem dX4_memory_13 : decode cX4_memory 13 = .ok (.if_icmp .lt 10, 3) := by decide +kernel
theorem dX4_memory_16 : decode cX4_memory 16 = .ok (.aload_n 0, 1) := by decide +kernel
theorem dX4_memory_17 : decode cX4_memory 17 = .ok (.iconst 1, 1) := by decide +kernel
theorem dX4_memory_18 : decode cX4_memory 18 = .ok (.putfield 66, 3) := by decide +kernel
theorem dX4_memory_21 : decode cX4_memory 21 = .ok (.lconst 0, 1) := by decide +kernel
theorem dX4_memory_22 : decode cX4_memory 22 = .ok (.lreturn, 1) := by decide +kernel
theorem dX4_memory_23 : decode cX4_memory 23 = .ok (.aload_n 0, 1) := by decide +kernel
theorem dX4_memory_24 : decode cX4_memory 24 = .ok (.getfield 35, 3) := by decide +kernel
theorem dX4_memory_27 : decode cX4_memory 27 = .ok (.iload_n 1, 1) := by decide +kernel
theorem dX4_memory_28 : decode cX4_memory 28 = .ok (.laload, 1) := by decide +kernel
theorem dX4_memory_29 : decode cX4_memory 29 = .ok (.lreturn, 1) := by decide +kernel
theorem dX4_plain_0 : decode cX4_plain 0 = .ok (.aload_n 0, 1) := by decide +kernel
theorem dX4_plain_1 : decode cX4_plain 1 = .ok (.iconst 0, 1) := by decide +kernel
theorem dX4_plain_2 : decode cX4_plain 2 = .ok (.putfield 66, 3) := by decide +kernel
theorem dX4_plain_5 : decode cX4_plain 5 = .ok (.iload_n 1, 1) := by decide +kernel
theorem dX4_plain_6 : decode cX4_plain 6 = .ok (.ifCond .lt 28, 3) := by decide +kernel
theorem dX4_plain_9 : decode cX4_plain 9 = .ok (.iload_n 1, 1) := by decide +kernel
theorem dX4_plain_10 : decode cX4_plain 10 = .ok (.iconst 1, 1) := by decide +kernel
theorem dX4_plain_11 : decode cX4_plain 11 = .ok (.if_icmp .gt 23, 3) := by decide +kernel
theorem dX4_plain_14 : decode cX4_plain 14 = .ok (.iload_n 2, 1) := by decide +kernel
theorem dX4_plain_15 : decode cX4_plain 15 = .ok (.ifCond .lt 19, 3) := by decide +kernel
theorem dX4_plain_18 : decode cX4_plain 18 = .ok (.iload_n 2, 1) := by decide +kernel
theorem dX4_plain_19 : decode cX4_plain 19 = .ok (.iload_n 1, 1) := by decide +kernel
theorem dX4_plain_20 : decode cX4_plain 20 = .ok (.ifCond .ne 8, 3) := by decide +kernel
theorem dX4_plain_23 : decode cX4_plain 23 = .ok (.bipush 16, 2) := by decide +kernel
theorem dX4_plain_25 : decode cX4_plain 25 = .ok (.goto 6, 3) := by decide +kernel
theorem dX4_plain_28 : decode cX4_plain 28 = .ok (.sipush 256, 3) := by decide +kernel
theorem dX4_plain_31 : decode cX4_plain 31 = .ok (.if_icmp .lt 10, 3) := by decide +kernel
theorem dX4_plain_34 : decode cX4_plain 34 = .ok (.aload_n 0, 1) := by decide +kernel
theorem dX4_plain_35 : decode cX4_plain 35 = .ok (.iconst 1, 1) := by decide +kernel
theorem dX4_plain_36 : decode cX4_plain 36 = .ok (.putfield 66, 3) := by decide +kernel
theorem dX4_plain_39 : decode cX4_plain 39 = .ok (.lconst 0, 1) := by decide +kernel
theorem dX4_plain_40 : decode cX4_plain 40 = .ok (.lreturn, 1) := by decide +kernel
theorem dX4_plain_41 : decode cX4_plain 41 = .ok (.iload_n 1, 1) := by decide +kernel
theorem dX4_plain_42 : decode cX4_plain 42 = .ok (.ifCond .ne 12, 3) := by decide +kernel
theorem dX4_plain_45 : decode cX4_plain 45 = .ok (.aload_n 0, 1) := by decide +kernel
theorem dX4_plain_46 : decode cX4_plain 46 = .ok (.getfield 26, 3) := by decide +kernel
theorem dX4_plain_49 : decode cX4_plain 49 = .ok (.iload_n 2, 1) := by decide +kernel
theorem dX4_plain_50 : decode cX4_plain 50 = .ok (.laload, 1) := by decide +kernel
theorem dX4_plain_51 : decode cX4_plain 51 = .ok (.goto 9, 3) := by decide +kernel
theorem dX4_plain_54 : decode cX4_plain 54 = .ok (.aload_n 0, 1) := by decide +kernel
theorem dX4_plain_55 : decode cX4_plain 55 = .ok (.getfield 29, 3) := by decide +kernel
theorem dX4_plain_58 : decode cX4_plain 58 = .ok (.iload_n 2, 1) := by decide +kernel
theorem dX4_plain_59 : decode cX4_plain 59 = .ok (.laload, 1) := by decide +kernel
theorem dX4_plain_60 : decode cX4_plain 60 = .ok (.lreturn, 1) := by decide +kernel
theorem dX4_unit_0 : decode cX4_unit 0 = .ok (.aload_n 0, 1) := by decide +kernel
theorem dX4_unit_1 : decode cX4_unit 1 = .ok (.iconst 0, 1) := by decide +kernel
theorem dX4_unit_2 : decode cX4_unit 2 = .ok (.putfield 66, 3) := by decide +kernel
theorem dX4_unit_5 : decode cX4_unit 5 = .ok (.iload_n 1, 1) := by decide +kernel
theorem dX4_unit_6 : decode cX4_unit 6 = .ok (.ifCond .lt 32, 3) := by decide +kernel
theorem dX4_unit_9 : decode cX4_unit 9 = .ok (.iload_n 1, 1) := by decide +kernel
theorem dX4_unit_10 : decode cX4_unit 10 = .ok (.bipush 6, 2) := by decide +kernel
theorem dX4_unit_12 : decode cX4_unit 12 = .ok (.if_icmp .ge 26, 3) := by decide +kernel
theorem dX4_unit_15 : decode cX4_unit 15 = .ok (.iload_n 2, 1) := by decide +kernel
theorem dX4_unit_16 : decode cX4_unit 16 = .ok (.ifCond .lt 22, 3) := by decide +kernel
theorem dX4_unit_19 : decode cX4_unit 19 = .ok (.iload_n 2, 1) := by decide +kernel
theorem dX4_unit_20 : decode cX4_unit 20 = .ok (.aload_n 0, 1) := by decide +kernel
theorem dX4_unit_21 : decode cX4_unit 21 = .ok (.getfield 13, 3) := by decide +kernel
theorem dX4_unit_24 : decode cX4_unit 24 = .ok (.iload_n 1, 1) := by decide +kernel
theorem dX4_unit_25 : decode cX4_unit 25 = .ok (.iaload, 1) := by decide +kernel
theorem dX4_unit_26 : decode cX4_unit 26 = .ok (.if_icmp .ge 12, 3) := by decide +kernel
theorem dX4_unit_29 : decode cX4_unit 29 = .ok (.iload_n 3, 1) := by decide +kernel
theorem dX4_unit_30 : decode cX4_unit 30 = .ok (.ifCond .lt 8, 3) := by decide +kernel
theorem dX4_unit_33 : decode cX4_unit 33 = .ok (.iload_n 3, 1) := by decide +kernel
theorem dX4_unit_34 : decode cX4_unit 34 = .ok (.iconst 2, 1) := by decide +kernel
theorem dX4_unit_35 : decode cX4_unit 35 = .ok (.if_icmp .le 5, 3) := by decide +kernel
theorem dX4_unit_38 : decode cX4_unit 38 = .ok (.iconst (-1), 1) := by decide +kernel
theorem dX4_unit_39 : decode cX4_unit 39 = .ok (.ireturn, 1) := by decide +kernel
theorem dX4_unit_40 : decode cX4_unit 40 = .ok (.iconst 3, 1) := by decide +kernel
theorem dX4_unit_41 : decode cX4_unit 41 = .ok (.iload_n 1, 1) := by decide +kernel
theorem dX4_unit_42 : decode cX4_unit 42 = .ok (.imul, 1) := by decide +kernel
theorem dX4_unit_43 : decode cX4_unit 43 = .ok (.iload_n 2, 1) := by decide +kernel
theorem dX4_unit_44 : decode cX4_unit 44 = .ok (.iadd, 1) := by decide +kernel
theorem dX4_unit_45 : decode cX4_unit 45 = .ok (.istore 4, 2) := by decide +kernel
theorem dX4_unit_47 : decode cX4_unit 47 = .ok (.aload_n 0, 1) := by decide +kernel
theorem dX4_unit_48 : decode cX4_unit 48 = .ok (.getfield 56, 3) := by decide +kernel
theorem dX4_unit_51 : decode cX4_unit 51 = .ok (.iload 4, 2) := by decide +kernel
theorem dX4_unit_53 : decode cX4_unit 53 = .ok (.baload, 1) := by decide +kernel
theorem dX4_unit_54 : decode cX4_unit 54 = .ok (.ifCond .ne 5, 3) := by decide +kernel
theorem dX4_unit_57 : decode cX4_unit 57 = .ok (.iconst (-1), 1) := by decide +kernel
theorem dX4_unit_58 : decode cX4_unit 58 = .ok (.ireturn, 1) := by decide +kernel
theorem dX4_unit_59 : decode cX4_unit 59 = .ok (.iload_n 3, 1) := by decide +kernel
theorem dX4_unit_60 : decode cX4_unit 60 = .ok (.iconst 2, 1) := by decide +kernel
theorem dX4_unit_61 : decode cX4_unit 61 = .ok (.if_icmp .ge 16, 3) := by decide +kernel
theorem dX4_unit_64 : decode cX4_unit 64 = .ok (.aload_n 0, 1) := by decide +kernel
theorem dX4_unit_65 : decode cX4_unit 65 = .ok (.getfield 50, 3) := by decide +kernel
theorem dX4_unit_68 : decode cX4_unit 68 = .ok (.bipush 7, 2) := by decide +kernel
theorem dX4_unit_70 : decode cX4_unit 70 = .ok (.iload 4, 2) := by decide +kernel
theorem dX4_unit_72 : decode cX4_unit 72 = .ok (.imul, 1) := by decide +kernel
theorem dX4_unit_73 : decode cX4_unit 73 = .ok (.iload_n 3, 1) := by decide +kernel
theorem dX4_unit_74 : decode cX4_unit 74 = .ok (.iadd, 1) := by decide +kernel
theorem dX4_unit_75 : decode cX4_unit 75 = .ok (.iaload, 1) := by decide +kernel
theorem dX4_unit_76 : decode cX4_unit 76 = .ok (.ireturn, 1) := by decide +kernel
theorem dX4_unit_77 : decode cX4_unit 77 = .ok (.aload_n 0, 1) := by decide +kernel
theorem dX4_unit_78 : decode cX4_unit 78 = .ok (.getfield 50, 3) := by decide +kernel
theorem dX4_unit_81 : decode cX4_unit 81 = .ok (.bipush 7, 2) := by decide +kernel
theorem dX4_unit_83 : decode cX4_unit 83 = .ok (.iload 4, 2) := by decide +kernel
theorem dX4_unit_85 : decode cX4_unit 85 = .ok (.imul, 1) := by decide +kernel
theorem dX4_unit_86 : decode cX4_unit 86 = .ok (.iconst 4, 1) := by decide +kernel
theorem dX4_unit_87 : decode cX4_unit 87 = .ok (.iadd, 1) := by decide +kernel
theorem dX4_unit_88 : decode cX4_unit 88 = .ok (.iaload, 1) := by decide +kernel
theorem dX4_unit_89 : decode cX4_unit 89 = .ok (.aload_n 0, 1) := by decide +kernel
theorem dX4_unit_90 : decode cX4_unit 90 = .ok (.getfield 76, 3) := by decide +kernel
theorem dX4_unit_93 : decode cX4_unit 93 = .ok (.if_icmp .gt 7, 3) := by decide +kernel
theorem dX4_unit_96 : decode cX4_unit 96 = .ok (.iconst 3, 1) := by decide +kernel
theorem dX4_unit_97 : decode cX4_unit 97 = .ok (.goto 27, 3) := by decide +kernel
theorem dX4_unit_100 : decode cX4_unit 100 = .ok (.aload_n 0, 1) := by decide +kernel
theorem dX4_unit_101 : decode cX4_unit 101 = .ok (.getfield 50, 3) := by decide +kernel
theorem dX4_unit_104 : decode cX4_unit 104 = .ok (.bipush 7, 2) := by decide +kernel
theorem dX4_unit_106 : decode cX4_unit 106 = .ok (.iload 4, 2) := by decide +kernel
theorem dX4_unit_108 : decode cX4_unit 108 = .ok (.imul, 1) := by decide +kernel
theorem dX4_unit_109 : decode cX4_unit 109 = .ok (.iconst 3, 1) := by decide +kernel
theorem dX4_unit_110 : decode cX4_unit 110 = .ok (.iadd, 1) := by decide +kernel
theorem dX4_unit_111 : decode cX4_unit 111 = .ok (.iaload, 1) := by decide +kernel
theorem dX4_unit_112 : decode cX4_unit 112 = .ok (.aload_n 0, 1) := by decide +kernel
theorem dX4_unit_113 : decode cX4_unit 113 = .ok (.getfield 76, 3) := by decide +kernel
theorem dX4_unit_116 : decode cX4_unit 116 = .ok (.if_icmp .gt 7, 3) := by decide +kernel
theorem dX4_unit_119 : decode cX4_unit 119 = .ok (.iconst 2, 1) := by decide +kernel
theorem dX4_unit_120 : decode cX4_unit 120 = .ok (.goto 4, 3) := by decide +kernel
theorem dX4_unit_123 : decode cX4_unit 123 = .ok (.iconst 1, 1) := by decide +kernel
theorem dX4_unit_124 : decode cX4_unit 124 = .ok (.ireturn, 1) := by decide +kernel
theorem dX4_pending_0 : decode cX4_pending 0 = .ok (.aload_n 0, 1) := by decide +kernel
theorem dX4_pending_1 : decode cX4_pending 1 = .ok (.iconst 0, 1) := by decide +kernel
theorem dX4_pending_2 : decode cX4_pending 2 = .ok (.putfield 66, 3) := by decide +kernel
theorem dX4_pending_5 : decode cX4_pending 5 = .ok (.iload_n 1, 1) := by decide +kernel
theorem dX4_pending_6 : decode cX4_pending 6 = .ok (.ifCond .lt 31, 3) := by decide +kernel
theorem dX4_pending_9 : decode cX4_pending 9 = .ok (.iload_n 1, 1) := by decide +kernel
theorem dX4_pending_10 : decode cX4_pending 10 = .ok (.bipush 16, 2) := by decide +kernel
theorem dX4_pending_12 : decode cX4_pending 12 = .ok (.if_icmp .ge 25, 3) := by decide +kernel
theorem dX4_pending_15 : decode cX4_pending 15 = .ok (.aload_n 0, 1) := by decide +kernel
theorem dX4_pending_16 : decode cX4_pending 16 = .ok (.getfield 41, 3) := by decide +kernel
theorem dX4_pending_19 : decode cX4_pending 19 = .ok (.iload_n 1, 1) := by decide +kernel
theorem dX4_pending_20 : decode cX4_pending 20 = .ok (.iaload, 1) := by decide +kernel
theorem dX4_pending_21 : decode cX4_pending 21 = .ok (.aload_n 0, 1) := by decide +kernel
theorem dX4_pending_22 : decode cX4_pending 22 = .ok (.getfield 76, 3) := by decide +kernel
theorem dX4_pending_25 : decode cX4_pending 25 = .ok (.if_icmp .le 12, 3) := by decide +kernel
theorem dX4_pending_28 : decode cX4_pending 28 = .ok (.aload_n 0, 1) := by decide +kernel
theorem dX4_pending_29 : decode cX4_pending 29 = .ok (.getfield 44, 3) := by decide +kernel
theorem dX4_pending_32 : decode cX4_pending 32 = .ok (.iload_n 1, 1) := by decide +kernel
theorem dX4_pending_33 : decode cX4_pending 33 = .ok (.iaload, 1) := by decide +kernel
theorem dX4_pending_34 : decode cX4_pending 34 = .ok (.goto 4, 3) := by decide +kernel
theorem dX4_pending_37 : decode cX4_pending 37 = .ok (.iconst (-1), 1) := by decide +kernel
theorem dX4_pending_38 : decode cX4_pending 38 = .ok (.ireturn, 1) := by decide +kernel
theorem dX4_latest_0 : decode cX4_latest 0 = .ok (.aload_n 0, 1) := by decide +kernel
theorem dX4_latest_1 : decode cX4_latest 1 = .ok (.iconst 0, 1) := by decide +kernel
theorem dX4_latest_2 : decode cX4_latest 2 = .ok (.putfield 66, 3) := by decide +kernel
theorem dX4_latest_5 : decode cX4_latest 5 = .ok (.iload_n 1, 1) := by decide +kernel
theorem dX4_latest_6 : decode cX4_latest 6 = .ok (.ifCond .lt 26, 3) := by decide +kernel
theorem dX4_latest_9 : decode cX4_latest 9 = .ok (.iload_n 1, 1) := by decide +kernel
theorem dX4_latest_10 : decode cX4_latest 10 = .ok (.bipush 64, 2) := by decide +kernel
theorem dX4_latest_12 : decode cX4_latest 12 = .ok (.if_icmp .ge 20, 3) := by decide +kernel
theorem dX4_latest_15 : decode cX4_latest 15 = .ok (.iload_n 1, 1) := by decide +kernel
theorem dX4_latest_16 : decode cX4_latest 16 = .ok (.aload_n 0, 1) := by decide +kernel
theorem dX4_latest_17 : decode cX4_latest 17 = .ok (.getfield 83, 3) := by decide +kernel
theorem dX4_latest_20 : decode cX4_latest 20 = .ok (.if_icmp .ge 12, 3) := by decide +kernel
theorem dX4_latest_23 : decode cX4_latest 23 = .ok (.iload_n 2, 1) := by decide +kernel
theorem dX4_latest_24 : decode cX4_latest 24 = .ok (.ifCond .lt 8, 3) := by decide +kernel
theorem dX4_latest_27 : decode cX4_latest 27 = .ok (.iload_n 2, 1) := by decide +kernel
theorem dX4_latest_28 : decode cX4_latest 28 = .ok (.iconst 5, 1) := by decide +kernel
theorem dX4_latest_29 : decode cX4_latest 29 = .ok (.if_icmp .le 5, 3) := by decide +kernel
theorem dX4_latest_32 : decode cX4_latest 32 = .ok (.iconst (-1), 1) := by decide +kernel
theorem dX4_latest_33 : decode cX4_latest 33 = .ok (.ireturn, 1) := by decide +kernel
theorem dX4_latest_34 : decode cX4_latest 34 = .ok (.aload_n 0, 1) := by decide +kernel
theorem dX4_latest_35 : decode cX4_latest 35 = .ok (.getfield 60, 3) := by decide +kernel
theorem dX4_latest_38 : decode cX4_latest 38 = .ok (.bipush 6, 2) := by decide +kernel
theorem dX4_latest_40 : decode cX4_latest 40 = .ok (.aload_n 0, 1) := by decide +kernel
theorem dX4_latest_41 : decode cX4_latest 41 = .ok (.getfield 83, 3) := by decide +kernel
theorem dX4_latest_44 : decode cX4_latest 44 = .ok (.iconst 1, 1) := by decide +kernel
theorem dX4_latest_45 : decode cX4_latest 45 = .ok (.isub, 1) := by decide +kernel
theorem dX4_latest_46 : decode cX4_latest 46 = .ok (.iload_n 1, 1) := by decide +kernel
theorem dX4_latest_47 : decode cX4_latest 47 = .ok (.isub, 1) := by decide +kernel
theorem dX4_latest_48 : decode cX4_latest 48 = .ok (.bipush 64, 2) := by decide +kernel
theorem dX4_latest_50 : decode cX4_latest 50 = .ok (.irem, 1) := by decide +kernel
theorem dX4_latest_51 : decode cX4_latest 51 = .ok (.imul, 1) := by decide +kernel
theorem dX4_latest_52 : decode cX4_latest 52 = .ok (.iload_n 2, 1) := by decide +kernel
theorem dX4_latest_53 : decode cX4_latest 53 = .ok (.iadd, 1) := by decide +kernel
theorem dX4_latest_54 : decode cX4_latest 54 = .ok (.iaload, 1) := by decide +kernel
theorem dX4_latest_55 : decode cX4_latest 55 = .ok (.istore_n 3, 1) := by decide +kernel
theorem dX4_latest_56 : decode cX4_latest 56 = .ok (.iload_n 2, 1) := by decide +kernel
theorem dX4_latest_57 : decode cX4_latest 57 = .ok (.iconst 1, 1) := by decide +kernel
theorem dX4_latest_58 : decode cX4_latest 58 = .ok (.if_icmp .le 15, 3) := by decide +kernel
theorem dX4_latest_61 : decode cX4_latest 61 = .ok (.iload_n 3, 1) := by decide +kernel
theorem dX4_latest_62 : decode cX4_latest 62 = .ok (.aload_n 0, 1) := by decide +kernel
theorem dX4_latest_63 : decode cX4_latest 63 = .ok (.getfield 76, 3) := by decide +kernel
theorem dX4_latest_66 : decode cX4_latest 66 = .ok (.if_icmp .le 7, 3) := by decide +kernel
theorem dX4_latest_69 : decode cX4_latest 69 = .ok (.iconst (-1), 1) := by decide +kernel
theorem dX4_latest_70 : decode cX4_latest 70 = .ok (.goto 4, 3) := by decide +kernel
theorem dX4_latest_73 : decode cX4_latest 73 = .ok (.iload_n 3, 1) := by decide +kernel
theorem dX4_latest_74 : decode cX4_latest 74 = .ok (.ireturn, 1) := by decide +kernel
end
section
theorem dJ9_max_7cf53_0 : decode cJ9_max_7cf53 0 = .ok (.iload_n 0, 1) := by decide +kernel
theorem dJ9_max_7cf53_1 : decode cJ9_max_7cf53 1 = .ok (.iload_n 1, 1) := by decide +kernel
theorem dJ9_max_7cf53_2 : decode cJ9_max_7cf53 2 = .ok (.if_icmp .lt 7, 3) := by decide +kernel
theorem dJ9_max_7cf53_5 : decode cJ9_max_7cf53 5 = .ok (.iload_n 0, 1) := by decide +kernel
theorem dJ9_max_7cf53_6 : decode cJ9_max_7cf53 6 = .ok (.goto 4, 3) := by decide +kernel
theorem dJ9_max_7cf53_9 : decode cJ9_max_7cf53 9 = .ok (.iload_n 1, 1) := by decide +kernel
theorem dJ9_max_7cf53_10 : decode cJ9_max_7cf53 10 = .ok (.ireturn, 1) := by decide +kernel
theorem dJ7_fill_d0a16_0 : decode cJ7_fill_d0a16 0 = .ok (.iconst 0, 1) := by decide +kernel
theorem dJ7_fill_d0a16_1 : decode cJ7_fill_d0a16 1 = .ok (.istore_n 3, 1) := by decide +kernel
theorem dJ7_fill_d0a16_2 : decode cJ7_fill_d0a16 2 = .ok (.aload_n 0, 1) := by decide +kernel
theorem dJ7_fill_d0a16_3 : decode cJ7_fill_d0a16 3 = .ok (.arraylength, 1) := by decide +kernel
theorem dJ7_fill_d0a16_4 : decode cJ7_fill_d0a16 4 = .ok (.istore 4, 2) := by decide +kernel
theorem dJ7_fill_d0a16_6 : decode cJ7_fill_d0a16 6 = .ok (.iload_n 3, 1) := by decide +kernel
theorem dJ7_fill_d0a16_7 : decode cJ7_fill_d0a16 7 = .ok (.iload 4, 2) := by decide +kernel
theorem dJ7_fill_d0a16_9 : decode cJ7_fill_d0a16 9 = .ok (.if_icmp .ge 13, 3) := by decide +kernel
theorem dJ7_fill_d0a16_12 : decode cJ7_fill_d0a16 12 = .ok (.aload_n 0, 1) := by decide +kernel
theorem dJ7_fill_d0a16_13 : decode cJ7_fill_d0a16 13 = .ok (.iload_n 3, 1) := by decide +kernel
theorem dJ7_fill_d0a16_14 : decode cJ7_fill_d0a16 14 = .ok (.lload_n 1, 1) := by decide +kernel
theorem dJ7_fill_d0a16_15 : decode cJ7_fill_d0a16 15 = .ok (.lastore, 1) := by decide +kernel
theorem dJ7_fill_d0a16_16 : decode cJ7_fill_d0a16 16 = .ok (.iinc 3 1, 3) := by decide +kernel
theorem dJ7_fill_d0a16_19 : decode cJ7_fill_d0a16 19 = .ok (.goto (-13), 3) := by decide +kernel
theorem dJ7_fill_d0a16_22 : decode cJ7_fill_d0a16 22 = .ok (.return_, 1) := by decide +kernel
theorem dJ7_fill_53178_0 : decode cJ7_fill_53178 0 = .ok (.iconst 0, 1) := by decide +kernel
theorem dJ7_fill_53178_1 : decode cJ7_fill_53178 1 = .ok (.istore_n 2, 1) := by decide +kernel
theorem dJ7_fill_53178_2 : decode cJ7_fill_53178 2 = .ok (.aload_n 0, 1) := by decide +kernel
theorem dJ7_fill_53178_3 : decode cJ7_fill_53178 3 = .ok (.arraylength, 1) := by decide +kernel
theorem dJ7_fill_53178_4 : decode cJ7_fill_53178 4 = .ok (.istore_n 3, 1) := by decide +kernel
theorem dJ7_fill_53178_5 : decode cJ7_fill_53178 5 = .ok (.iload_n 2, 1) := by decide +kernel
theorem dJ7_fill_53178_6 : decode cJ7_fill_53178 6 = .ok (.iload_n 3, 1) := by decide +kernel
theorem dJ7_fill_53178_7 : decode cJ7_fill_53178 7 = .ok (.if_icmp .ge 13, 3) := by decide +kernel
theorem dJ7_fill_53178_10 : decode cJ7_fill_53178 10 = .ok (.aload_n 0, 1) := by decide +kernel
theorem dJ7_fill_53178_11 : decode cJ7_fill_53178 11 = .ok (.iload_n 2, 1) := by decide +kernel
theorem dJ7_fill_53178_12 : decode cJ7_fill_53178 12 = .ok (.iload_n 1, 1) := by decide +kernel
theorem dJ7_fill_53178_13 : decode cJ7_fill_53178 13 = .ok (.iastore, 1) := by decide +kernel
theorem dJ7_fill_53178_14 : decode cJ7_fill_53178 14 = .ok (.iinc 2 1, 3) := by decide +kernel
theorem dJ7_fill_53178_17 : decode cJ7_fill_53178 17 = .ok (.goto (-12), 3) := by decide +kernel
theorem dJ7_fill_53178_20 : decode cJ7_fill_53178 20 = .ok (.return_, 1) := by decide +kernel
theorem dL_register_0 : decode cL_register 0 = .ok (.aload_n 2, 1) := by decide +kernel
theorem dL_register_1 : decode cL_register 1 = .ok (.iconst 0, 1) := by decide +kernel
theorem dL_register_2 : decode cL_register 2 = .ok (.aload_n 0, 1) := by decide +kernel
theorem dL_register_3 : decode cL_register 3 = .ok (.iload_n 1, 1) := by decide +kernel
theorem dL_register_4 : decode cL_register 4 = .ok (.invokevirtual 7, 3) := by decide +kernel
theorem dL_register_7 : decode cL_register 7 = .ok (.lastore, 1) := by decide +kernel
theorem dL_register_8 : decode cL_register 8 = .ok (.goto 6, 3) := by decide +kernel
theorem dL_register_11 : decode cL_register 11 = .ok (.astore_n 3, 1) := by decide +kernel
theorem dL_register_12 : decode cL_register 12 = .ok (.iconst 1, 1) := by decide +kernel
theorem dL_register_13 : decode cL_register 13 = .ok (.ireturn, 1) := by decide +kernel
theorem dL_register_14 : decode cL_register 14 = .ok (.iconst 0, 1) := by decide +kernel
theorem dL_register_15 : decode cL_register 15 = .ok (.ireturn, 1) := by decide +kernel
theorem dL_memory_0 : decode cL_memory 0 = .ok (.aload_n 2, 1) := by decide +kernel
theorem dL_memory_1 : decode cL_memory 1 = .ok (.iconst 0, 1) := by decide +kernel
theorem dL_memory_2 : decode cL_memory 2 = .ok (.aload_n 0, 1) := by decide +kernel
theorem dL_memory_3 : decode cL_memory 3 = .ok (.iload_n 1, 1) := by decide +kernel
theorem dL_memory_4 : decode cL_memory 4 = .ok (.invokevirtual 15, 3) := by decide +kernel
theorem dL_memory_7 : decode cL_memory 7 = .ok (.lastore, 1) := by decide +kernel
theorem dL_memory_8 : decode cL_memory 8 = .ok (.goto 6, 3) := by decide +kernel
theorem dL_memory_11 : decode cL_memory 11 = .ok (.astore_n 3, 1) := by decide +kernel
theorem dL_memory_12 : decode cL_memory 12 = .ok (.iconst 1, 1) := by decide +kernel
theorem dL_memory_13 : decode cL_memory 13 = .ok (.ireturn, 1) := by decide +kernel
theorem dL_memory_14 : decode cL_memory 14 = .ok (.iconst 0, 1) := by decide +kernel
theorem dL_memory_15 : decode cL_memory 15 = .ok (.ireturn, 1) := by decide +kernel
theorem dL_plain_0 : decode cL_plain 0 = .ok (.aload_n 3, 1) := by decide +kernel
theorem dL_plain_1 : decode cL_plain 1 = .ok (.iconst 0, 1) := by decide +kernel
theorem dL_plain_2 : decode cL_plain 2 = .ok (.aload_n 0, 1) := by decide +kernel
theorem dL_plain_3 : decode cL_plain 3 = .ok (.iload_n 1, 1) := by decide +kernel
theorem dL_plain_4 : decode cL_plain 4 = .ok (.iload_n 2, 1) := by decide +kernel
theorem dL_plain_5 : decode cL_plain 5 = .ok (.invokevirtual 18, 3) := by decide +kernel
theorem dL_plain_8 : decode cL_plain 8 = .ok (.lastore, 1) := by decide +kernel
theorem dL_plain_9 : decode cL_plain 9 = .ok (.goto 7, 3) := by decide +kernel
theorem dL_plain_12 : decode cL_plain 12 = .ok (.astore 4, 2) := by decide +kernel
theorem dL_plain_14 : decode cL_plain 14 = .ok (.iconst 1, 1) := by decide +kernel
theorem dL_plain_15 : decode cL_plain 15 = .ok (.ireturn, 1) := by decide +kernel
theorem dL_plain_16 : decode cL_plain 16 = .ok (.iconst 0, 1) := by decide +kernel
theorem dL_plain_17 : decode cL_plain 17 = .ok (.ireturn, 1) := by decide +kernel
theorem dL_law_0 : decode cL_law 0 = .ok (.new 8, 3) := by decide +kernel
theorem dL_law_3 : decode cL_law 3 = .ok (.dup, 1) := by decide +kernel
theorem dL_law_4 : decode cL_law 4 = .ok (.invokespecial 22, 3) := by decide +kernel
theorem dL_law_7 : decode cL_law 7 = .ok (.astore_n 1, 1) := by decide +kernel
theorem dL_law_8 : decode cL_law 8 = .ok (.new 23, 3) := by decide +kernel
theorem dL_law_11 : decode cL_law 11 = .ok (.dup, 1) := by decide +kernel
theorem dL_law_12 : decode cL_law 12 = .ok (.invokespecial 25, 3) := by decide +kernel
theorem dL_law_15 : decode cL_law 15 = .ok (.astore_n 2, 1) := by decide +kernel
theorem dL_law_16 : decode cL_law 16 = .ok (.iconst 1, 1) := by decide +kernel
theorem dL_law_17 : decode cL_law 17 = .ok (.newarray .long, 2) := by decide +kernel
theorem dL_law_19 : decode cL_law 19 = .ok (.astore_n 3, 1) := by decide +kernel
theorem dL_law_20 : decode cL_law 20 = .ok (.iconst 0, 1) := by decide +kernel
theorem dL_law_21 : decode cL_law 21 = .ok (.istore 4, 2) := by decide +kernel
theorem dL_law_23 : decode cL_law 23 = .ok (.iload 4, 2) := by decide +kernel
theorem dL_law_25 : decode cL_law 25 = .ok (.aload_n 0, 1) := by decide +kernel
theorem dL_law_26 : decode cL_law 26 = .ok (.arraylength, 1) := by decide +kernel
theorem dL_law_27 : decode cL_law 27 = .ok (.bipush 6, 2) := by decide +kernel
theorem dL_law_29 : decode cL_law 29 = .ok (.isub, 1) := by decide +kernel
theorem dL_law_30 : decode cL_law 30 = .ok (.if_icmp .gt 705, 3) := by decide +kernel
theorem dL_law_33 : decode cL_law 33 = .ok (.aload_n 0, 1) := by decide +kernel
theorem dL_law_34 : decode cL_law 34 = .ok (.iload 4, 2) := by decide +kernel
theorem dL_law_36 : decode cL_law 36 = .ok (.iaload, 1) := by decide +kernel
theorem dL_law_37 : decode cL_law 37 = .ok (.bipush 15, 2) := by decide +kernel
theorem dL_law_39 : decode cL_law 39 = .ok (.iand, 1) := by decide +kernel
theorem dL_law_40 : decode cL_law 40 = .ok (.tableswitch 689 0 14 #[76, 149, 186, 223, 248, 329, 354, 365, 376, 401, 456, 511, 578, 627, 652], 76) := by decide +kernel
theorem dL_law_116 : decode cL_law 116 = .ok (.aload_n 1, 1) := by decide +kernel
theorem dL_law_117 : decode cL_law 117 = .ok (.aload_n 0, 1) := by decide +kernel
theorem dL_law_118 : decode cL_law 118 = .ok (.iload 4, 2) := by decide +kernel
theorem dL_law_120 : decode cL_law 120 = .ok (.iconst 1, 1) := by decide +kernel
theorem dL_law_121 : decode cL_law 121 = .ok (.iadd, 1) := by decide +kernel
theorem dL_law_122 : decode cL_law 122 = .ok (.iaload, 1) := by decide +kernel
theorem dL_law_123 : decode cL_law 123 = .ok (.aload_n 0, 1) := by decide +kernel
theorem dL_law_124 : decode cL_law 124 = .ok (.iload 4, 2) := by decide +kernel
theorem dL_law_126 : decode cL_law 126 = .ok (.iconst 2, 1) := by decide +kernel
theorem dL_law_127 : decode cL_law 127 = .ok (.iadd, 1) := by decide +kernel
theorem dL_law_128 : decode cL_law 128 = .ok (.iaload, 1) := by decide +kernel
theorem dL_law_129 : decode cL_law 129 = .ok (.aload_n 0, 1) := by decide +kernel
theorem dL_law_130 : decode cL_law 130 = .ok (.iload 4, 2) := by decide +kernel
theorem dL_law_132 : decode cL_law 132 = .ok (.iconst 3, 1) := by decide +kernel
theorem dL_law_133 : decode cL_law 133 = .ok (.iadd, 1) := by decide +kernel
theorem dL_law_134 : decode cL_law 134 = .ok (.iaload, 1) := by decide +kernel
theorem dL_law_135 : decode cL_law 135 = .ok (.aload_n 0, 1) := by decide +kernel
theorem dL_law_136 : decode cL_law 136 = .ok (.iload 4, 2) := by decide +kernel
theorem dL_law_138 : decode cL_law 138 = .ok (.iconst 4, 1) := by decide +kernel
theorem dL_law_139 : decode cL_law 139 = .ok (.iadd, 1) := by decide +kernel
theorem dL_law_140 : decode cL_law 140 = .ok (.iaload, 1) := by decide +kernel
theorem dL_law_141 : decode cL_law 141 = .ok (.aload_n 0, 1) := by decide +kernel
theorem dL_law_142 : decode cL_law 142 = .ok (.iload 4, 2) := by decide +kernel
theorem dL_law_144 : decode cL_law 144 = .ok (.iconst 5, 1) := by decide +kernel
theorem dL_law_145 : decode cL_law 145 = .ok (.iadd, 1) := by decide +kernel
theorem dL_law_146 : decode cL_law 146 = .ok (.iaload, 1) := by decide +kernel
theorem dL_law_147 : decode cL_law 147 = .ok (.invokevirtual 26, 3) := by decide +kernel
theorem dL_law_150 : decode cL_law 150 = .ok (.aload_n 2, 1) := by decide +kernel
theorem dL_law_151 : decode cL_law 151 = .ok (.aload_n 0, 1) := by decide +kernel
theorem dL_law_152 : decode cL_law 152 = .ok (.iload 4, 2) := by decide +kernel
theorem dL_law_154 : decode cL_law 154 = .ok (.iconst 1, 1) := by decide +kernel
theorem dL_law_155 : decode cL_law 155 = .ok (.iadd, 1) := by decide +kernel
theorem dL_law_156 : decode cL_law 156 = .ok (.iaload, 1) := by decide +kernel
theorem dL_law_157 : decode cL_law 157 = .ok (.aload_n 0, 1) := by decide +kernel
theorem dL_law_158 : decode cL_law 158 = .ok (.iload 4, 2) := by decide +kernel
theorem dL_law_160 : decode cL_law 160 = .ok (.iconst 2, 1) := by decide +kernel
theorem dL_law_161 : decode cL_law 161 = .ok (.iadd, 1) := by decide +kernel
theorem dL_law_162 : decode cL_law 162 = .ok (.iaload, 1) := by decide +kernel
theorem dL_law_163 : decode cL_law 163 = .ok (.aload_n 0, 1) := by decide +kernel
theorem dL_law_164 : decode cL_law 164 = .ok (.iload 4, 2) := by decide +kernel
theorem dL_law_166 : decode cL_law 166 = .ok (.iconst 3, 1) := by decide +kernel
theorem dL_law_167 : decode cL_law 167 = .ok (.iadd, 1) := by decide +kernel
theorem dL_law_168 : decode cL_law 168 = .ok (.iaload, 1) := by decide +kernel
theorem dL_law_169 : decode cL_law 169 = .ok (.aload_n 0, 1) := by decide +kernel
theorem dL_law_170 : decode cL_law 170 = .ok (.iload 4, 2) := by decide +kernel
theorem dL_law_172 : decode cL_law 172 = .ok (.iconst 4, 1) := by decide +kernel
theorem dL_law_173 : decode cL_law 173 = .ok (.iadd, 1) := by decide +kernel
theorem dL_law_174 : decode cL_law 174 = .ok (.iaload, 1) := by decide +kernel
theorem dL_law_175 : decode cL_law 175 = .ok (.aload_n 0, 1) := by decide +kernel
theorem dL_law_176 : decode cL_law 176 = .ok (.iload 4, 2) := by decide +kernel
theorem dL_law_178 : decode cL_law 178 = .ok (.iconst 5, 1) := by decide +kernel
theorem dL_law_179 : decode cL_law 179 = .ok (.iadd, 1) := by decide +kernel
theorem dL_law_180 : decode cL_law 180 = .ok (.iaload, 1) := by decide +kernel
theorem dL_law_181 : decode cL_law 181 = .ok (.invokevirtual 30, 3) := by decide +kernel
theorem dL_law_184 : decode cL_law 184 = .ok (.if_icmp .eq 545, 3) := by decide +kernel
theorem dL_law_187 : decode cL_law 187 = .ok (.iconst 0, 1) := by decide +kernel
theorem dL_law_188 : decode cL_law 188 = .ok (.ireturn, 1) := by decide +kernel
theorem dL_law_189 : decode cL_law 189 = .ok (.aload_n 1, 1) := by decide +kernel
theorem dL_law_190 : decode cL_law 190 = .ok (.aload_n 0, 1) := by decide +kernel
theorem dL_law_191 : decode cL_law 191 = .ok (.iload 4, 2) := by decide +kernel
theorem dL_law_193 : decode cL_law 193 = .ok (.iconst 1, 1) := by decide +kernel
theorem dL_law_194 : decode cL_law 194 = .ok (.iadd, 1) := by decide +kernel
theorem dL_law_195 : decode cL_law 195 = .ok (.iaload, 1) := by decide +kernel
theorem dL_law_196 : decode cL_law 196 = .ok (.aload_n 0, 1) := by decide +kernel
theorem dL_law_197 : decode cL_law 197 = .ok (.iload 4, 2) := by decide +kernel
theorem dL_law_199 : decode cL_law 199 = .ok (.iconst 2, 1) := by decide +kernel
theorem dL_law_200 : decode cL_law 200 = .ok (.iadd, 1) := by decide +kernel
theorem dL_law_201 : decode cL_law 201 = .ok (.iaload, 1) := by decide +kernel
theorem dL_law_202 : decode cL_law 202 = .ok (.invokevirtual 31, 3) := by decide +kernel
theorem dL_law_205 : decode cL_law 205 = .ok (.aload_n 2, 1) := by decide +kernel
theorem dL_law_206 : decode cL_law 206 = .ok (.aload_n 0, 1) := by decide +kernel
theorem dL_law_207 : decode cL_law 207 = .ok (.iload 4, 2) := by decide +kernel
theorem dL_law_209 : decode cL_law 209 = .ok (.iconst 1, 1) := by decide +kernel
theorem dL_law_210 : decode cL_law 210 = .ok (.iadd, 1) := by decide +kernel
theorem dL_law_211 : decode cL_law 211 = .ok (.iaload, 1) := by decide +kernel
theorem dL_law_212 : decode cL_law 212 = .ok (.aload_n 0, 1) := by decide +kernel
theorem dL_law_213 : decode cL_law 213 = .ok (.iload 4, 2) := by decide +kernel
theorem dL_law_215 : decode cL_law 215 = .ok (.iconst 2, 1) := by decide +kernel
theorem dL_law_216 : decode cL_law 216 = .ok (.iadd, 1) := by decide +kernel
theorem dL_law_217 : decode cL_law 217 = .ok (.iaload, 1) := by decide +kernel
theorem dL_law_218 : decode cL_law 218 = .ok (.invokevirtual 35, 3) := by decide +kernel
theorem dL_law_221 : decode cL_law 221 = .ok (.if_icmp .eq 508, 3) := by decide +kernel
theorem dL_law_224 : decode cL_law 224 = .ok (.iconst 0, 1) := by decide +kernel
theorem dL_law_225 : decode cL_law 225 = .ok (.ireturn, 1) := by decide +kernel
theorem dL_law_226 : decode cL_law 226 = .ok (.aload_n 1, 1) := by decide +kernel
theorem dL_law_227 : decode cL_law 227 = .ok (.aload_n 0, 1) := by decide +kernel
theorem dL_law_228 : decode cL_law 228 = .ok (.iload 4, 2) := by decide +kernel
theorem dL_law_230 : decode cL_law 230 = .ok (.iconst 1, 1) := by decide +kernel
theorem dL_law_231 : decode cL_law 231 = .ok (.iadd, 1) := by decide +kernel
theorem dL_law_232 : decode cL_law 232 = .ok (.iaload, 1) := by decide +kernel
theorem dL_law_233 : decode cL_law 233 = .ok (.aload_n 0, 1) := by decide +kernel
theorem dL_law_234 : decode cL_law 234 = .ok (.iload 4, 2) := by decide +kernel
theorem dL_law_236 : decode cL_law 236 = .ok (.iconst 2, 1) := by decide +kernel
theorem dL_law_237 : decode cL_law 237 = .ok (.iadd, 1) := by decide +kernel
theorem dL_law_238 : decode cL_law 238 = .ok (.iaload, 1) := by decide +kernel
theorem dL_law_239 : decode cL_law 239 = .ok (.invokevirtual 36, 3) := by decide +kernel
theorem dL_law_242 : decode cL_law 242 = .ok (.aload_n 2, 1) := by decide +kernel
theorem dL_law_243 : decode cL_law 243 = .ok (.aload_n 0, 1) := by decide +kernel
theorem dL_law_244 : decode cL_law 244 = .ok (.iload 4, 2) := by decide +kernel
theorem dL_law_246 : decode cL_law 246 = .ok (.iconst 1, 1) := by decide +kernel
theorem dL_law_247 : decode cL_law 247 = .ok (.iadd, 1) := by decide +kernel
theorem dL_law_248 : decode cL_law 248 = .ok (.iaload, 1) := by decide +kernel
theorem dL_law_249 : decode cL_law 249 = .ok (.aload_n 0, 1) := by decide +kernel
theorem dL_law_250 : decode cL_law 250 = .ok (.iload 4, 2) := by decide +kernel
theorem dL_law_252 : decode cL_law 252 = .ok (.iconst 2, 1) := by decide +kernel
theorem dL_law_253 : decode cL_law 253 = .ok (.iadd, 1) := by decide +kernel
theorem dL_law_254 : decode cL_law 254 = .ok (.iaload, 1) := by decide +kernel
theorem dL_law_255 : decode cL_law 255 = .ok (.invokevirtual 39, 3) := by decide +kernel
theorem dL_law_258 : decode cL_law 258 = .ok (.if_icmp .eq 471, 3) := by decide +kernel
theorem dL_law_261 : decode cL_law 261 = .ok (.iconst 0, 1) := by decide +kernel
theorem dL_law_262 : decode cL_law 262 = .ok (.ireturn, 1) := by decide +kernel
theorem dL_law_263 : decode cL_law 263 = .ok (.aload_n 1, 1) := by decide +kernel
theorem dL_law_264 : decode cL_law 264 = .ok (.aload_n 0, 1) := by decide +kernel
theorem dL_law_265 : decode cL_law 265 = .ok (.iload 4, 2) := by decide +kernel
theorem dL_law_267 : decode cL_law 267 = .ok (.iconst 1, 1) := by decide +kernel
theorem dL_law_268 : decode cL_law 268 = .ok (.iadd, 1) := by decide +kernel
theorem dL_law_269 : decode cL_law 269 = .ok (.iaload, 1) := by decide +kernel
theorem dL_law_270 : decode cL_law 270 = .ok (.invokevirtual 40, 3) := by decide +kernel
theorem dL_law_273 : decode cL_law 273 = .ok (.aload_n 2, 1) := by decide +kernel
theorem dL_law_274 : decode cL_law 274 = .ok (.aload_n 0, 1) := by decide +kernel
theorem dL_law_275 : decode cL_law 275 = .ok (.iload 4, 2) := by decide +kernel
theorem dL_law_277 : decode cL_law 277 = .ok (.iconst 1, 1) := by decide +kernel
theorem dL_law_278 : decode cL_law 278 = .ok (.iadd, 1) := by decide +kernel
theorem dL_law_279 : decode cL_law 279 = .ok (.iaload, 1) := by decide +kernel
theorem dL_law_280 : decode cL_law 280 = .ok (.invokevirtual 44, 3) := by decide +kernel
theorem dL_law_283 : decode cL_law 283 = .ok (.if_icmp .eq 446, 3) := by decide +kernel
theorem dL_law_286 : decode cL_law 286 = .ok (.iconst 0, 1) := by decide +kernel
theorem dL_law_287 : decode cL_law 287 = .ok (.ireturn, 1) := by decide +kernel
theorem dL_law_288 : decode cL_law 288 = .ok (.aload_n 1, 1) := by decide +kernel
theorem dL_law_289 : decode cL_law 289 = .ok (.aload_n 0, 1) := by decide +kernel
theorem dL_law_290 : decode cL_law 290 = .ok (.iload 4, 2) := by decide +kernel
theorem dL_law_292 : decode cL_law 292 = .ok (.iconst 1, 1) := by decide +kernel
theorem dL_law_293 : decode cL_law 293 = .ok (.iadd, 1) := by decide +kernel
theorem dL_law_294 : decode cL_law 294 = .ok (.iaload, 1) := by decide +kernel
theorem dL_law_295 : decode cL_law 295 = .ok (.aload_n 0, 1) := by decide +kernel
theorem dL_law_296 : decode cL_law 296 = .ok (.iload 4, 2) := by decide +kernel
theorem dL_law_298 : decode cL_law 298 = .ok (.iconst 2, 1) := by decide +kernel
theorem dL_law_299 : decode cL_law 299 = .ok (.iadd, 1) := by decide +kernel
theorem dL_law_300 : decode cL_law 300 = .ok (.iaload, 1) := by decide +kernel
theorem dL_law_301 : decode cL_law 301 = .ok (.aload_n 0, 1) := by decide +kernel
theorem dL_law_302 : decode cL_law 302 = .ok (.iload 4, 2) := by decide +kernel
theorem dL_law_304 : decode cL_law 304 = .ok (.iconst 3, 1) := by decide +kernel
theorem dL_law_305 : decode cL_law 305 = .ok (.iadd, 1) := by decide +kernel
theorem dL_law_306 : decode cL_law 306 = .ok (.iaload, 1) := by decide +kernel
theorem dL_law_307 : decode cL_law 307 = .ok (.i2l, 1) := by decide +kernel
theorem dL_law_308 : decode cL_law 308 = .ok (.bipush 32, 2) := by decide +kernel
theorem dL_law_310 : decode cL_law 310 = .ok (.lshl, 1) := by decide +kernel
theorem dL_law_311 : decode cL_law 311 = .ok (.aload_n 0, 1) := by decide +kernel
theorem dL_law_312 : decode cL_law 312 = .ok (.iload 4, 2) := by decide +kernel
theorem dL_law_314 : decode cL_law 314 = .ok (.iconst 4, 1) := by decide +kernel
theorem dL_law_315 : decode cL_law 315 = .ok (.iadd, 1) := by decide +kernel
theorem dL_law_316 : decode cL_law 316 = .ok (.iaload, 1) := by decide +kernel
theorem dL_law_317 : decode cL_law 317 = .ok (.i2l, 1) := by decide +kernel
theorem dL_law_318 : decode cL_law 318 = .ok (.ldc2_w 45, 3) := by decide +kernel
theorem dL_law_321 : decode cL_law 321 = .ok (.land, 1) := by decide +kernel
theorem dL_law_322 : decode cL_law 322 = .ok (.lor, 1) := by decide +kernel
theorem dL_law_323 : decode cL_law 323 = .ok (.invokevirtual 47, 3) := by decide +kernel
theorem dL_law_326 : decode cL_law 326 = .ok (.aload_n 2, 1) := by decide +kernel
theorem dL_law_327 : decode cL_law 327 = .ok (.aload_n 0, 1) := by decide +kernel
theorem dL_law_328 : decode cL_law 328 = .ok (.iload 4, 2) := by decide +kernel
theorem dL_law_330 : decode cL_law 330 = .ok (.iconst 1, 1) := by decide +kernel
theorem dL_law_331 : decode cL_law 331 = .ok (.iadd, 1) := by decide +kernel
theorem dL_law_332 : decode cL_law 332 = .ok (.iaload, 1) := by decide +kernel
theorem dL_law_333 : decode cL_law 333 = .ok (.aload_n 0, 1) := by decide +kernel
theorem dL_law_334 : decode cL_law 334 = .ok (.iload 4, 2) := by decide +kernel
theorem dL_law_336 : decode cL_law 336 = .ok (.iconst 2, 1) := by decide +kernel
theorem dL_law_337 : decode cL_law 337 = .ok (.iadd, 1) := by decide +kernel
theorem dL_law_338 : decode cL_law 338 = .ok (.iaload, 1) := by decide +kernel
theorem dL_law_339 : decode cL_law 339 = .ok (.aload_n 0, 1) := by decide +kernel
theorem dL_law_340 : decode cL_law 340 = .ok (.iload 4, 2) := by decide +kernel
theorem dL_law_342 : decode cL_law 342 = .ok (.iconst 3, 1) := by decide +kernel
theorem dL_law_343 : decode cL_law 343 = .ok (.iadd, 1) := by decide +kernel
theorem dL_law_344 : decode cL_law 344 = .ok (.iaload, 1) := by decide +kernel
theorem dL_law_345 : decode cL_law 345 = .ok (.i2l, 1) := by decide +kernel
theorem dL_law_346 : decode cL_law 346 = .ok (.bipush 32, 2) := by decide +kernel
theorem dL_law_348 : decode cL_law 348 = .ok (.lshl, 1) := by decide +kernel
theorem dL_law_349 : decode cL_law 349 = .ok (.aload_n 0, 1) := by decide +kernel
theorem dL_law_350 : decode cL_law 350 = .ok (.iload 4, 2) := by decide +kernel
theorem dL_law_352 : decode cL_law 352 = .ok (.iconst 4, 1) := by decide +kernel
theorem dL_law_353 : decode cL_law 353 = .ok (.iadd, 1) := by decide +kernel
theorem dL_law_354 : decode cL_law 354 = .ok (.iaload, 1) := by decide +kernel
theorem dL_law_355 : decode cL_law 355 = .ok (.i2l, 1) := by decide +kernel
theorem dL_law_356 : decode cL_law 356 = .ok (.ldc2_w 45, 3) := by decide +kernel
theorem dL_law_359 : decode cL_law 359 = .ok (.land, 1) := by decide +kernel
theorem dL_law_360 : decode cL_law 360 = .ok (.lor, 1) := by decide +kernel
theorem dL_law_361 : decode cL_law 361 = .ok (.invokevirtual 51, 3) := by decide +kernel
theorem dL_law_364 : decode cL_law 364 = .ok (.if_icmp .eq 365, 3) := by decide +kernel
theorem dL_law_367 : decode cL_law 367 = .ok (.iconst 0, 1) := by decide +kernel
theorem dL_law_368 : decode cL_law 368 = .ok (.ireturn, 1) := by decide +kernel
theorem dL_law_369 : decode cL_law 369 = .ok (.aload_n 1, 1) := by decide +kernel
theorem dL_law_370 : decode cL_law 370 = .ok (.aload_n 0, 1) := by decide +kernel
theorem dL_law_371 : decode cL_law 371 = .ok (.iload 4, 2) := by decide +kernel
theorem dL_law_373 : decode cL_law 373 = .ok (.iconst 1, 1) := by decide +kernel
theorem dL_law_374 : decode cL_law 374 = .ok (.iadd, 1) := by decide +kernel
theorem dL_law_375 : decode cL_law 375 = .ok (.iaload, 1) := by decide +kernel
theorem dL_law_376 : decode cL_law 376 = .ok (.invokevirtual 52, 3) := by decide +kernel
theorem dL_law_379 : decode cL_law 379 = .ok (.aload_n 2, 1) := by decide +kernel
theorem dL_law_380 : decode cL_law 380 = .ok (.aload_n 0, 1) := by decide +kernel
theorem dL_law_381 : decode cL_law 381 = .ok (.iload 4, 2) := by decide +kernel
theorem dL_law_383 : decode cL_law 383 = .ok (.iconst 1, 1) := by decide +kernel
theorem dL_law_384 : decode cL_law 384 = .ok (.iadd, 1) := by decide +kernel
theorem dL_law_385 : decode cL_law 385 = .ok (.iaload, 1) := by decide +kernel
theorem dL_law_386 : decode cL_law 386 = .ok (.invokevirtual 56, 3) := by decide +kernel
theorem dL_law_389 : decode cL_law 389 = .ok (.if_icmp .eq 340, 3) := by decide +kernel
theorem dL_law_392 : decode cL_law 392 = .ok (.iconst 0, 1) := by decide +kernel
theorem dL_law_393 : decode cL_law 393 = .ok (.ireturn, 1) := by decide +kernel
theorem dL_law_394 : decode cL_law 394 = .ok (.aload_n 1, 1) := by decide +kernel
theorem dL_law_395 : decode cL_law 395 = .ok (.invokevirtual 57, 3) := by decide +kernel
theorem dL_law_398 : decode cL_law 398 = .ok (.aload_n 2, 1) := by decide +kernel
theorem dL_law_399 : decode cL_law 399 = .ok (.invokevirtual 60, 3) := by decide +kernel
theorem dL_law_402 : decode cL_law 402 = .ok (.goto 327, 3) := by decide +kernel
theorem dL_law_405 : decode cL_law 405 = .ok (.aload_n 1, 1) := by decide +kernel
theorem dL_law_406 : decode cL_law 406 = .ok (.invokevirtual 61, 3) := by decide +kernel
theorem dL_law_409 : decode cL_law 409 = .ok (.aload_n 2, 1) := by decide +kernel
theorem dL_law_410 : decode cL_law 410 = .ok (.invokevirtual 64, 3) := by decide +kernel
theorem dL_law_413 : decode cL_law 413 = .ok (.goto 316, 3) := by decide +kernel
theorem dL_law_416 : decode cL_law 416 = .ok (.aload_n 1, 1) := by decide +kernel
theorem dL_law_417 : decode cL_law 417 = .ok (.aload_n 0, 1) := by decide +kernel
theorem dL_law_418 : decode cL_law 418 = .ok (.iload 4, 2) := by decide +kernel
theorem dL_law_420 : decode cL_law 420 = .ok (.iconst 1, 1) := by decide +kernel
theorem dL_law_421 : decode cL_law 421 = .ok (.iadd, 1) := by decide +kernel
theorem dL_law_422 : decode cL_law 422 = .ok (.iaload, 1) := by decide +kernel
theorem dL_law_423 : decode cL_law 423 = .ok (.invokevirtual 65, 3) := by decide +kernel
theorem dL_law_426 : decode cL_law 426 = .ok (.aload_n 2, 1) := by decide +kernel
theorem dL_law_427 : decode cL_law 427 = .ok (.aload_n 0, 1) := by decide +kernel
theorem dL_law_428 : decode cL_law 428 = .ok (.iload 4, 2) := by decide +kernel
theorem dL_law_430 : decode cL_law 430 = .ok (.iconst 1, 1) := by decide +kernel
theorem dL_law_431 : decode cL_law 431 = .ok (.iadd, 1) := by decide +kernel
theorem dL_law_432 : decode cL_law 432 = .ok (.iaload, 1) := by decide +kernel
theorem dL_law_433 : decode cL_law 433 = .ok (.invokevirtual 68, 3) := by decide +kernel
theorem dL_law_436 : decode cL_law 436 = .ok (.if_icmp .eq 293, 3) := by decide +kernel
theorem dL_law_439 : decode cL_law 439 = .ok (.iconst 0, 1) := by decide +kernel
theorem dL_law_440 : decode cL_law 440 = .ok (.ireturn, 1) := by decide +kernel
theorem dL_law_441 : decode cL_law 441 = .ok (.aload_n 1, 1) := by decide +kernel
theorem dL_law_442 : decode cL_law 442 = .ok (.aload_n 0, 1) := by decide +kernel
theorem dL_law_443 : decode cL_law 443 = .ok (.iload 4, 2) := by decide +kernel
theorem dL_law_445 : decode cL_law 445 = .ok (.iconst 1, 1) := by decide +kernel
theorem dL_law_446 : decode cL_law 446 = .ok (.iadd, 1) := by decide +kernel
theorem dL_law_447 : decode cL_law 447 = .ok (.iaload, 1) := by decide +kernel
theorem dL_law_448 : decode cL_law 448 = .ok (.aload_n 3, 1) := by decide +kernel
theorem dL_law_449 : decode cL_law 449 = .ok (.invokestatic 69, 3) := by decide +kernel
theorem dL_law_452 : decode cL_law 452 = .ok (.istore 5, 2) := by decide +kernel
theorem dL_law_454 : decode cL_law 454 = .ok (.aload_n 2, 1) := by decide +kernel
theorem dL_law_455 : decode cL_law 455 = .ok (.aload_n 0, 1) := by decide +kernel
theorem dL_law_456 : decode cL_law 456 = .ok (.iload 4, 2) := by decide +kernel
theorem dL_law_458 : decode cL_law 458 = .ok (.iconst 1, 1) := by decide +kernel
theorem dL_law_459 : decode cL_law 459 = .ok (.iadd, 1) := by decide +kernel
theorem dL_law_460 : decode cL_law 460 = .ok (.iaload, 1) := by decide +kernel
theorem dL_law_461 : decode cL_law 461 = .ok (.invokevirtual 74, 3) := by decide +kernel
theorem dL_law_464 : decode cL_law 464 = .ok (.lstore 6, 2) := by decide +kernel
theorem dL_law_466 : decode cL_law 466 = .ok (.aload_n 2, 1) := by decide +kernel
theorem dL_law_467 : decode cL_law 467 = .ok (.invokevirtual 75, 3) := by decide +kernel
theorem dL_law_470 : decode cL_law 470 = .ok (.iload 5, 2) := by decide +kernel
theorem dL_law_472 : decode cL_law 472 = .ok (.if_icmp .eq 5, 3) := by decide +kernel
theorem dL_law_475 : decode cL_law 475 = .ok (.iconst 0, 1) := by decide +kernel
theorem dL_law_476 : decode cL_law 476 = .ok (.ireturn, 1) := by decide +kernel
theorem dL_law_477 : decode cL_law 477 = .ok (.iload 5, 2) := by decide +kernel
theorem dL_law_479 : decode cL_law 479 = .ok (.ifCond .ne 14, 3) := by decide +kernel
theorem dL_law_482 : decode cL_law 482 = .ok (.aload_n 3, 1) := by decide +kernel
theorem dL_law_483 : decode cL_law 483 = .ok (.iconst 0, 1) := by decide +kernel
theorem dL_law_484 : decode cL_law 484 = .ok (.laload, 1) := by decide +kernel
theorem dL_law_485 : decode cL_law 485 = .ok (.lload 6, 2) := by decide +kernel
theorem dL_law_487 : decode cL_law 487 = .ok (.lcmp, 1) := by decide +kernel
theorem dL_law_488 : decode cL_law 488 = .ok (.ifCond .eq 5, 3) := by decide +kernel
theorem dL_law_491 : decode cL_law 491 = .ok (.iconst 0, 1) := by decide +kernel
theorem dL_law_492 : decode cL_law 492 = .ok (.ireturn, 1) := by decide +kernel
theorem dL_law_493 : decode cL_law 493 = .ok (.goto 236, 3) := by decide +kernel
theorem dL_law_496 : decode cL_law 496 = .ok (.aload_n 1, 1) := by decide +kernel
theorem dL_law_497 : decode cL_law 497 = .ok (.aload_n 0, 1) := by decide +kernel
theorem dL_law_498 : decode cL_law 498 = .ok (.iload 4, 2) := by decide +kernel
theorem dL_law_500 : decode cL_law 500 = .ok (.iconst 1, 1) := by decide +kernel
theorem dL_law_501 : decode cL_law 501 = .ok (.iadd, 1) := by decide +kernel
theorem dL_law_502 : decode cL_law 502 = .ok (.iaload, 1) := by decide +kernel
theorem dL_law_503 : decode cL_law 503 = .ok (.aload_n 3, 1) := by decide +kernel
theorem dL_law_504 : decode cL_law 504 = .ok (.invokestatic 79, 3) := by decide +kernel
theorem dL_law_507 : decode cL_law 507 = .ok (.istore 5, 2) := by decide +kernel
theorem dL_law_509 : decode cL_law 509 = .ok (.aload_n 2, 1) := by decide +kernel
theorem dL_law_510 : decode cL_law 510 = .ok (.aload_n 0, 1) := by decide +kernel
theorem dL_law_511 : decode cL_law 511 = .ok (.iload 4, 2) := by decide +kernel
theorem dL_law_513 : decode cL_law 513 = .ok (.iconst 1, 1) := by decide +kernel
theorem dL_law_514 : decode cL_law 514 = .ok (.iadd, 1) := by decide +kernel
theorem dL_law_515 : decode cL_law 515 = .ok (.iaload, 1) := by decide +kernel
theorem dL_law_516 : decode cL_law 516 = .ok (.invokevirtual 81, 3) := by decide +kernel
theorem dL_law_519 : decode cL_law 519 = .ok (.lstore 6, 2) := by decide +kernel
theorem dL_law_521 : decode cL_law 521 = .ok (.aload_n 2, 1) := by decide +kernel
theorem dL_law_522 : decode cL_law 522 = .ok (.invokevirtual 75, 3) := by decide +kernel
theorem dL_law_525 : decode cL_law 525 = .ok (.iload 5, 2) := by decide +kernel
theorem dL_law_527 : decode cL_law 527 = .ok (.if_icmp .eq 5, 3) := by decide +kernel
theorem dL_law_530 : decode cL_law 530 = .ok (.iconst 0, 1) := by decide +kernel
theorem dL_law_531 : decode cL_law 531 = .ok (.ireturn, 1) := by decide +kernel
theorem dL_law_532 : decode cL_law 532 = .ok (.iload 5, 2) := by decide +kernel
theorem dL_law_534 : decode cL_law 534 = .ok (.ifCond .ne 14, 3) := by decide +kernel
theorem dL_law_537 : decode cL_law 537 = .ok (.aload_n 3, 1) := by decide +kernel
theorem dL_law_538 : decode cL_law 538 = .ok (.iconst 0, 1) := by decide +kernel
theorem dL_law_539 : decode cL_law 539 = .ok (.laload, 1) := by decide +kernel
theorem dL_law_540 : decode cL_law 540 = .ok (.lload 6, 2) := by decide +kernel
theorem dL_law_542 : decode cL_law 542 = .ok (.lcmp, 1) := by decide +kernel
theorem dL_law_543 : decode cL_law 543 = .ok (.ifCond .eq 5, 3) := by decide +kernel
theorem dL_law_546 : decode cL_law 546 = .ok (.iconst 0, 1) := by decide +kernel
theorem dL_law_547 : decode cL_law 547 = .ok (.ireturn, 1) := by decide +kernel
theorem dL_law_548 : decode cL_law 548 = .ok (.goto 181, 3) := by decide +kernel
theorem dL_law_551 : decode cL_law 551 = .ok (.aload_n 1, 1) := by decide +kernel
theorem dL_law_552 : decode cL_law 552 = .ok (.aload_n 0, 1) := by decide +kernel
theorem dL_law_553 : decode cL_law 553 = .ok (.iload 4, 2) := by decide +kernel
theorem dL_law_555 : decode cL_law 555 = .ok (.iconst 1, 1) := by decide +kernel
theorem dL_law_556 : decode cL_law 556 = .ok (.iadd, 1) := by decide +kernel
theorem dL_law_557 : decode cL_law 557 = .ok (.iaload, 1) := by decide +kernel
theorem dL_law_558 : decode cL_law 558 = .ok (.aload_n 0, 1) := by decide +kernel
theorem dL_law_559 : decode cL_law 559 = .ok (.iload 4, 2) := by decide +kernel
theorem dL_law_561 : decode cL_law 561 = .ok (.iconst 2, 1) := by decide +kernel
theorem dL_law_562 : decode cL_law 562 = .ok (.iadd, 1) := by decide +kernel
theorem dL_law_563 : decode cL_law 563 = .ok (.iaload, 1) := by decide +kernel
theorem dL_law_564 : decode cL_law 564 = .ok (.aload_n 3, 1) := by decide +kernel
theorem dL_law_565 : decode cL_law 565 = .ok (.invokestatic 82, 3) := by decide +kernel
theorem dL_law_568 : decode cL_law 568 = .ok (.istore 5, 2) := by decide +kernel
theorem dL_law_570 : decode cL_law 570 = .ok (.aload_n 2, 1) := by decide +kernel
theorem dL_law_571 : decode cL_law 571 = .ok (.aload_n 0, 1) := by decide +kernel
theorem dL_law_572 : decode cL_law 572 = .ok (.iload 4, 2) := by decide +kernel
theorem dL_law_574 : decode cL_law 574 = .ok (.iconst 1, 1) := by decide +kernel
theorem dL_law_575 : decode cL_law 575 = .ok (.iadd, 1) := by decide +kernel
theorem dL_law_576 : decode cL_law 576 = .ok (.iaload, 1) := by decide +kernel
theorem dL_law_577 : decode cL_law 577 = .ok (.aload_n 0, 1) := by decide +kernel
theorem dL_law_578 : decode cL_law 578 = .ok (.iload 4, 2) := by decide +kernel
theorem dL_law_580 : decode cL_law 580 = .ok (.iconst 2, 1) := by decide +kernel
theorem dL_law_581 : decode cL_law 581 = .ok (.iadd, 1) := by decide +kernel
theorem dL_law_582 : decode cL_law 582 = .ok (.iaload, 1) := by decide +kernel
theorem dL_law_583 : decode cL_law 583 = .ok (.invokevirtual 85, 3) := by decide +kernel
theorem dL_law_586 : decode cL_law 586 = .ok (.lstore 6, 2) := by decide +kernel
theorem dL_law_588 : decode cL_law 588 = .ok (.aload_n 2, 1) := by decide +kernel
theorem dL_law_589 : decode cL_law 589 = .ok (.invokevirtual 75, 3) := by decide +kernel
theorem dL_law_592 : decode cL_law 592 = .ok (.iload 5, 2) := by decide +kernel
theorem dL_law_594 : decode cL_law 594 = .ok (.if_icmp .eq 5, 3) := by decide +kernel
theorem dL_law_597 : decode cL_law 597 = .ok (.iconst 0, 1) := by decide +kernel
theorem dL_law_598 : decode cL_law 598 = .ok (.ireturn, 1) := by decide +kernel
theorem dL_law_599 : decode cL_law 599 = .ok (.iload 5, 2) := by decide +kernel
theorem dL_law_601 : decode cL_law 601 = .ok (.ifCond .ne 14, 3) := by decide +kernel
theorem dL_law_604 : decode cL_law 604 = .ok (.aload_n 3, 1) := by decide +kernel
theorem dL_law_605 : decode cL_law 605 = .ok (.iconst 0, 1) := by decide +kernel
theorem dL_law_606 : decode cL_law 606 = .ok (.laload, 1) := by decide +kernel
theorem dL_law_607 : decode cL_law 607 = .ok (.lload 6, 2) := by decide +kernel
theorem dL_law_609 : decode cL_law 609 = .ok (.lcmp, 1) := by decide +kernel
theorem dL_law_610 : decode cL_law 610 = .ok (.ifCond .eq 5, 3) := by decide +kernel
theorem dL_law_613 : decode cL_law 613 = .ok (.iconst 0, 1) := by decide +kernel
theorem dL_law_614 : decode cL_law 614 = .ok (.ireturn, 1) := by decide +kernel
theorem dL_law_615 : decode cL_law 615 = .ok (.goto 114, 3) := by decide +kernel
theorem dL_law_618 : decode cL_law 618 = .ok (.aload_n 1, 1) := by decide +kernel
theorem dL_law_619 : decode cL_law 619 = .ok (.aload_n 0, 1) := by decide +kernel
theorem dL_law_620 : decode cL_law 620 = .ok (.iload 4, 2) := by decide +kernel
theorem dL_law_622 : decode cL_law 622 = .ok (.iconst 1, 1) := by decide +kernel
theorem dL_law_623 : decode cL_law 623 = .ok (.iadd, 1) := by decide +kernel
theorem dL_law_624 : decode cL_law 624 = .ok (.iaload, 1) := by decide +kernel
theorem dL_law_625 : decode cL_law 625 = .ok (.aload_n 0, 1) := by decide +kernel
theorem dL_law_626 : decode cL_law 626 = .ok (.iload 4, 2) := by decide +kernel
theorem dL_law_628 : decode cL_law 628 = .ok (.iconst 2, 1) := by decide +kernel
theorem dL_law_629 : decode cL_law 629 = .ok (.iadd, 1) := by decide +kernel
theorem dL_law_630 : decode cL_law 630 = .ok (.iaload, 1) := by decide +kernel
theorem dL_law_631 : decode cL_law 631 = .ok (.aload_n 0, 1) := by decide +kernel
theorem dL_law_632 : decode cL_law 632 = .ok (.iload 4, 2) := by decide +kernel
theorem dL_law_634 : decode cL_law 634 = .ok (.iconst 3, 1) := by decide +kernel
theorem dL_law_635 : decode cL_law 635 = .ok (.iadd, 1) := by decide +kernel
theorem dL_law_636 : decode cL_law 636 = .ok (.iaload, 1) := by decide +kernel
theorem dL_law_637 : decode cL_law 637 = .ok (.invokevirtual 86, 3) := by decide +kernel
theorem dL_law_640 : decode cL_law 640 = .ok (.aload_n 2, 1) := by decide +kernel
theorem dL_law_641 : decode cL_law 641 = .ok (.aload_n 0, 1) := by decide +kernel
theorem dL_law_642 : decode cL_law 642 = .ok (.iload 4, 2) := by decide +kernel
theorem dL_law_644 : decode cL_law 644 = .ok (.iconst 1, 1) := by decide +kernel
theorem dL_law_645 : decode cL_law 645 = .ok (.iadd, 1) := by decide +kernel
theorem dL_law_646 : decode cL_law 646 = .ok (.iaload, 1) := by decide +kernel
theorem dL_law_647 : decode cL_law 647 = .ok (.aload_n 0, 1) := by decide +kernel
theorem dL_law_648 : decode cL_law 648 = .ok (.iload 4, 2) := by decide +kernel
theorem dL_law_650 : decode cL_law 650 = .ok (.iconst 2, 1) := by decide +kernel
theorem dL_law_651 : decode cL_law 651 = .ok (.iadd, 1) := by decide +kernel
theorem dL_law_652 : decode cL_law 652 = .ok (.iaload, 1) := by decide +kernel
theorem dL_law_653 : decode cL_law 653 = .ok (.aload_n 0, 1) := by decide +kernel
theorem dL_law_654 : decode cL_law 654 = .ok (.iload 4, 2) := by decide +kernel
theorem dL_law_656 : decode cL_law 656 = .ok (.iconst 3, 1) := by decide +kernel
theorem dL_law_657 : decode cL_law 657 = .ok (.iadd, 1) := by decide +kernel
theorem dL_law_658 : decode cL_law 658 = .ok (.iaload, 1) := by decide +kernel
theorem dL_law_659 : decode cL_law 659 = .ok (.invokevirtual 90, 3) := by decide +kernel
theorem dL_law_662 : decode cL_law 662 = .ok (.if_icmp .eq 67, 3) := by decide +kernel
theorem dL_law_665 : decode cL_law 665 = .ok (.iconst 0, 1) := by decide +kernel
theorem dL_law_666 : decode cL_law 666 = .ok (.ireturn, 1) := by decide +kernel
theorem dL_law_667 : decode cL_law 667 = .ok (.aload_n 1, 1) := by decide +kernel
theorem dL_law_668 : decode cL_law 668 = .ok (.aload_n 0, 1) := by decide +kernel
theorem dL_law_669 : decode cL_law 669 = .ok (.iload 4, 2) := by decide +kernel
theorem dL_law_671 : decode cL_law 671 = .ok (.iconst 1, 1) := by decide +kernel
theorem dL_law_672 : decode cL_law 672 = .ok (.iadd, 1) := by decide +kernel
theorem dL_law_673 : decode cL_law 673 = .ok (.iaload, 1) := by decide +kernel
theorem dL_law_674 : decode cL_law 674 = .ok (.invokevirtual 91, 3) := by decide +kernel
theorem dL_law_677 : decode cL_law 677 = .ok (.aload_n 2, 1) := by decide +kernel
theorem dL_law_678 : decode cL_law 678 = .ok (.aload_n 0, 1) := by decide +kernel
theorem dL_law_679 : decode cL_law 679 = .ok (.iload 4, 2) := by decide +kernel
theorem dL_law_681 : decode cL_law 681 = .ok (.iconst 1, 1) := by decide +kernel
theorem dL_law_682 : decode cL_law 682 = .ok (.iadd, 1) := by decide +kernel
theorem dL_law_683 : decode cL_law 683 = .ok (.iaload, 1) := by decide +kernel
theorem dL_law_684 : decode cL_law 684 = .ok (.invokevirtual 94, 3) := by decide +kernel
theorem dL_law_687 : decode cL_law 687 = .ok (.if_icmp .eq 42, 3) := by decide +kernel
theorem dL_law_690 : decode cL_law 690 = .ok (.iconst 0, 1) := by decide +kernel
theorem dL_law_691 : decode cL_law 691 = .ok (.ireturn, 1) := by decide +kernel
theorem dL_law_692 : decode cL_law 692 = .ok (.aload_n 1, 1) := by decide +kernel
theorem dL_law_693 : decode cL_law 693 = .ok (.aload_n 0, 1) := by decide +kernel
theorem dL_law_694 : decode cL_law 694 = .ok (.iload 4, 2) := by decide +kernel
theorem dL_law_696 : decode cL_law 696 = .ok (.iconst 1, 1) := by decide +kernel
theorem dL_law_697 : decode cL_law 697 = .ok (.iadd, 1) := by decide +kernel
theorem dL_law_698 : decode cL_law 698 = .ok (.iaload, 1) := by decide +kernel
theorem dL_law_699 : decode cL_law 699 = .ok (.aload_n 0, 1) := by decide +kernel
theorem dL_law_700 : decode cL_law 700 = .ok (.iload 4, 2) := by decide +kernel
theorem dL_law_702 : decode cL_law 702 = .ok (.iconst 2, 1) := by decide +kernel
theorem dL_law_703 : decode cL_law 703 = .ok (.iadd, 1) := by decide +kernel
theorem dL_law_704 : decode cL_law 704 = .ok (.iaload, 1) := by decide +kernel
theorem dL_law_705 : decode cL_law 705 = .ok (.invokevirtual 95, 3) := by decide +kernel
theorem dL_law_708 : decode cL_law 708 = .ok (.aload_n 2, 1) := by decide +kernel
theorem dL_law_709 : decode cL_law 709 = .ok (.aload_n 0, 1) := by decide +kernel
theorem dL_law_710 : decode cL_law 710 = .ok (.iload 4, 2) := by decide +kernel
theorem dL_law_712 : decode cL_law 712 = .ok (.iconst 1, 1) := by decide +kernel
theorem dL_law_713 : decode cL_law 713 = .ok (.iadd, 1) := by decide +kernel
theorem dL_law_714 : decode cL_law 714 = .ok (.iaload, 1) := by decide +kernel
theorem dL_law_715 : decode cL_law 715 = .ok (.aload_n 0, 1) := by decide +kernel
theorem dL_law_716 : decode cL_law 716 = .ok (.iload 4, 2) := by decide +kernel
theorem dL_law_718 : decode cL_law 718 = .ok (.iconst 2, 1) := by decide +kernel
theorem dL_law_719 : decode cL_law 719 = .ok (.iadd, 1) := by decide +kernel
theorem dL_law_720 : decode cL_law 720 = .ok (.iaload, 1) := by decide +kernel
theorem dL_law_721 : decode cL_law 721 = .ok (.invokevirtual 99, 3) := by decide +kernel
theorem dL_law_724 : decode cL_law 724 = .ok (.if_icmp .eq 5, 3) := by decide +kernel
theorem dL_law_727 : decode cL_law 727 = .ok (.iconst 0, 1) := by decide +kernel
theorem dL_law_728 : decode cL_law 728 = .ok (.ireturn, 1) := by decide +kernel
theorem dL_law_729 : decode cL_law 729 = .ok (.iinc 4 6, 3) := by decide +kernel
theorem dL_law_732 : decode cL_law 732 = .ok (.goto (-709), 3) := by decide +kernel
theorem dL_law_735 : decode cL_law 735 = .ok (.iconst 1, 1) := by decide +kernel
theorem dL_law_736 : decode cL_law 736 = .ok (.ireturn, 1) := by decide +kernel
end
section
theorem goodIn_c {big : List Cond} (ws : List Cond) (ps qs : List Nat) (hc : ws.filter k2_isCode = ps.filterMap (fun i => big[i]?)) (hn : ws.filter (fun w => !k2_isCode w) = qs.filterMap (fun i => big[i]?)) (h : ws.all goodWord = true) : GoodIn big ws := by
  intro w hw
  have h1 := List.all_eq_true.mp h w hw
  have hm : w ∈ big := by
    by_cases hk : k2_isCode w = true
    · have h2 : w ∈ ws.filter k2_isCode := List.mem_filter.mpr ⟨hw, hk⟩
      rw [hc] at h2
      obtain ⟨i, -, hi⟩ := List.mem_filterMap.mp h2
      exact List.mem_of_getElem? hi
    · have h2 : w ∈ ws.filter (fun w => !k2_isCode w) := List.mem_filter.mpr ⟨hw, by simp [hk]⟩
      rw [hn] at h2
      obtain ⟨i, -, hi⟩ := List.mem_filterMap.mp h2
      exact List.mem_of_getElem? hi
  exact ⟨hm, good_of_word h1⟩
set_option maxRecDepth 20000 in
theorem ggX0_begin_J7_fill_53178 : GoodIn wsX0_begin wsJ7_fill_53178 := goodIn_c _ [19] [] rfl (by decide +kernel) (by decide +kernel)
set_option maxRecDepth 20000 in
theorem gX0_begin_J7_fill_53178 : GoodIn wsX0_begin (va_wsS RX0 56 yJ7_fill_53178 wsJ7_fill_53178) := goodIn_app (goodIn_of _ (by decide +kernel)) ggX0_begin_J7_fill_53178
set_option maxRecDepth 20000 in
theorem ggX0_begin_J7_fill_d0a16 : GoodIn wsX0_begin wsJ7_fill_d0a16 := goodIn_c _ [22] [] rfl (by decide +kernel) (by decide +kernel)
set_option maxRecDepth 20000 in
theorem gX0_begin_J7_fill_d0a16 : GoodIn wsX0_begin (va_wsS RX0 62 yJ7_fill_d0a16 wsJ7_fill_d0a16) := goodIn_app (goodIn_of _ (by decide +kernel)) ggX0_begin_J7_fill_d0a16
set_option maxRecDepth 20000 in
theorem ggX0_goOneCycle_X1_code : GoodIn wsX0_goOneCycle wsX1_code := goodIn_c _ [12] [13, 14, 15, 148, 149, 150, 151, 139, 140, 141, 142, 143, 144, 145, 146, 147] rfl (by decide +kernel) (by decide +kernel)
set_option maxRecDepth 20000 in
theorem gX0_goOneCycle_X1_code : GoodIn wsX0_goOneCycle (wsV RX0 86 RX1 yX1_code wsX1_code) := goodIn_app (goodIn_of _ (by decide +kernel)) ggX0_goOneCycle_X1_code
set_option maxRecDepth 20000 in
theorem ggX0_goOneCycle_X0_tryToIssue : GoodIn wsX0_goOneCycle wsX0_tryToIssue := goodIn_c _ [20, 12, 29, 34, 36, 40, 45, 50, 52, 57, 60, 64, 72, 76, 80, 84, 95, 103, 111, 115, 120] [4, 21, 1, 22, 2, 23, 24, 25, 8, 9, 10, 11, 13, 14, 15, 26, 27, 28, 19, 30, 31, 32, 33, 35, 37, 38, 39, 41, 42, 43, 44, 46, 47, 48, 49, 51, 53, 54, 55, 56, 58, 59, 61, 62, 63, 65, 66, 67, 68, 69, 70, 71, 73, 74, 75, 77, 78, 79, 81, 82, 83, 5, 85, 86, 87, 88, 89, 90, 91, 92, 93, 94, 96, 97, 98, 99, 100, 101, 102, 104, 105, 106, 107, 108, 109, 110, 112, 113, 114, 116, 117, 118, 119, 121, 122, 123, 124, 125, 126, 127, 128, 129, 130, 131, 132, 133, 134, 135, 136, 137, 138, 139, 140, 141, 142, 143, 144, 145, 146, 147, 148, 149, 150, 151] rfl (by decide +kernel) (by decide +kernel)
set_option maxRecDepth 20000 in
theorem gX0_goOneCycle_X0_tryToIssue : GoodIn wsX0_goOneCycle (wsV RX0 92 RX0 yX0_tryToIssue wsX0_tryToIssue) := goodIn_app (goodIn_of _ (by decide +kernel)) ggX0_goOneCycle_X0_tryToIssue
set_option maxRecDepth 20000 in
theorem ggX0_tryToIssue_X1_code : GoodIn wsX0_tryToIssue wsX1_code := goodIn_c _ [13] [14, 15, 16, 141, 142, 143, 144, 132, 133, 134, 135, 136, 137, 138, 139, 140] rfl (by decide +kernel) (by decide +kernel)
set_option maxRecDepth 20000 in
theorem gX0_tryToIssue_X1_code : GoodIn wsX0_tryToIssue (wsV RX0 86 RX1 yX1_code wsX1_code) := goodIn_app (goodIn_of _ (by decide +kernel)) ggX0_tryToIssue_X1_code
set_option maxRecDepth 20000 in
theorem ggX0_tryToIssue_X0_lowestFreeUnit : GoodIn wsX0_tryToIssue wsX0_lowestFreeUnit := goodIn_c _ [21, 26] [5, 22, 23, 3, 24, 25, 114, 115, 116, 117, 118, 119, 120, 121, 122, 123, 124, 125, 126, 127, 128, 129, 130, 131, 132, 133, 134, 135, 136, 137, 138, 139, 140] rfl (by decide +kernel) (by decide +kernel)
set_option maxRecDepth 20000 in
theorem gX0_tryToIssue_X0_lowestFreeUnit : GoodIn wsX0_tryToIssue (wsV RX0 98 RX0 yX0_lowestFreeUnit wsX0_lowestFreeUnit) := goodIn_app (goodIn_of _ (by decide +kernel)) ggX0_tryToIssue_X0_lowestFreeUnit
set_option maxRecDepth 20000 in
theorem ggX0_tryToIssue_X3_writesD : GoodIn wsX0_tryToIssue wsX3_writesD := goodIn_c _ [28] [] rfl (by decide +kernel) (by decide +kernel)
set_option maxRecDepth 20000 in
theorem gX0_tryToIssue_X3_writesD_n102 : GoodIn wsX0_tryToIssue (wsX3_writesD) := ggX0_tryToIssue_X3_writesD
set_option maxRecDepth 20000 in
theorem ggX0_tryToIssue_X0_settleCycles : GoodIn wsX0_tryToIssue wsX0_settleCycles := goodIn_c _ [32, 37, 42, 44, 49, 52, 28] [1, 7, 3, 4, 5, 33, 34, 35, 36, 6, 38, 39, 40, 8, 41, 25, 43, 45, 46, 47, 48, 50, 51, 27, 114, 115, 116, 117, 118, 119, 120, 121, 122, 123, 124, 125, 126, 127, 128, 129, 130, 131, 141, 142, 143, 144, 132, 133, 134, 135, 136, 137, 138, 139, 140] rfl (by decide +kernel) (by decide +kernel)
set_option maxRecDepth 20000 in
theorem gX0_tryToIssue_X0_settleCycles : GoodIn wsX0_tryToIssue (wsV RX0 112 RX0 yX0_settleCycles wsX0_settleCycles) := goodIn_app (goodIn_of _ (by decide +kernel)) ggX0_tryToIssue_X0_settleCycles
set_option maxRecDepth 20000 in
theorem ggX0_tryToIssue_X3_unitRow : GoodIn wsX0_tryToIssue wsX3_unitRow := goodIn_c _ [26] [] rfl (by decide +kernel) (by decide +kernel)
set_option maxRecDepth 20000 in
theorem gX0_tryToIssue_X3_unitRow_n116 : GoodIn wsX0_tryToIssue (wsX3_unitRow) := ggX0_tryToIssue_X3_unitRow
set_option maxRecDepth 20000 in
theorem ggX0_tryToIssue_X0_keepRow : GoodIn wsX0_tryToIssue wsX0_keepRow := goodIn_c _ [56, 64] [40, 23, 57, 58, 59, 60, 61, 8, 62, 63, 20, 114, 115, 116, 117, 118, 119, 120, 121, 122, 123, 124, 125, 126, 127, 128, 129, 130, 131] rfl (by decide +kernel) (by decide +kernel)
set_option maxRecDepth 20000 in
theorem gX0_tryToIssue_X0_keepRow : GoodIn wsX0_tryToIssue (wsV RX0 120 RX0 yX0_keepRow wsX0_keepRow) := goodIn_app (goodIn_of _ (by decide +kernel)) ggX0_tryToIssue_X0_keepRow
set_option maxRecDepth 20000 in
theorem ggX0_tryToIssue_X0_noteReading : GoodIn wsX0_tryToIssue wsX0_noteReading := goodIn_c _ [68, 42, 72, 37, 44, 49, 52] [1, 7, 5, 33, 6, 41, 25, 69, 70, 71, 20, 39, 40, 34, 35, 36, 43, 45, 46, 47, 48, 50, 51, 114, 115, 116, 117, 118, 119, 120, 121, 122, 123, 124, 125, 126, 127, 128, 129, 130, 131, 141, 142, 143, 144, 132, 133, 134, 135, 136, 137, 138, 139, 140] rfl (by decide +kernel) (by decide +kernel)
set_option maxRecDepth 20000 in
theorem gX0_tryToIssue_X0_noteReading : GoodIn wsX0_tryToIssue (wsV RX0 124 RX0 yX0_noteReading wsX0_noteReading) := goodIn_app (goodIn_of _ (by decide +kernel)) ggX0_tryToIssue_X0_noteReading
set_option maxRecDepth 20000 in
theorem ggX0_tryToIssue_X0_noteWriting : GoodIn wsX0_tryToIssue wsX0_noteWriting := goodIn_c _ [76, 37, 88] [40, 77, 34, 35, 36, 2, 1, 78, 79, 80, 81, 5, 6, 7, 82, 8, 4, 83, 84, 85, 86, 87, 12, 89, 14, 90, 16, 91, 92, 114, 115, 116, 117, 118, 119, 120, 121, 122, 123, 124, 125, 126, 127, 128, 129, 130, 131, 141, 142, 143, 144, 132, 133, 134, 135, 136, 137, 138, 139, 140] rfl (by decide +kernel) (by decide +kernel)
set_option maxRecDepth 20000 in
theorem gX0_tryToIssue_X0_noteWriting : GoodIn wsX0_tryToIssue (wsV RX0 127 RX0 yX0_noteWriting wsX0_noteWriting) := goodIn_app (goodIn_of _ (by decide +kernel)) ggX0_tryToIssue_X0_noteWriting
set_option maxRecDepth 20000 in
theorem ggX0_tryToIssue_X1_step : GoodIn wsX0_tryToIssue wsX1_step := goodIn_c _ [96, 13, 88, 28, 104, 49, 108, 113] [14, 97, 16, 98, 89, 99, 10, 11, 12, 15, 100, 86, 87, 90, 91, 92, 27, 25, 101, 102, 103, 105, 46, 47, 48, 50, 106, 107, 109, 110, 111, 112, 141, 142, 143, 144, 132, 133, 134, 135, 136, 137, 138, 139, 140] rfl (by decide +kernel) (by decide +kernel)
set_option maxRecDepth 20000 in
theorem gX0_tryToIssue_X1_step : GoodIn wsX0_tryToIssue (wsV RX0 130 RX1 yX1_step wsX1_step) := goodIn_app (goodIn_of _ (by decide +kernel)) ggX0_tryToIssue_X1_step
set_option maxRecDepth 20000 in
theorem ggX0_lowestFreeUnit_X3_unitRow : GoodIn wsX0_lowestFreeUnit wsX3_unitRow := goodIn_c _ [7] [] rfl (by decide +kernel) (by decide +kernel)
set_option maxRecDepth 20000 in
theorem gX0_lowestFreeUnit_X3_unitRow_n116 : GoodIn wsX0_lowestFreeUnit (wsX3_unitRow) := ggX0_lowestFreeUnit_X3_unitRow
set_option maxRecDepth 20000 in
theorem ggX0_settleCycles_X3_readsA : GoodIn wsX0_settleCycles wsX3_readsA := goodIn_c _ [18] [] rfl (by decide +kernel) (by decide +kernel)
set_option maxRecDepth 20000 in
theorem gX0_settleCycles_X3_readsA_n136 : GoodIn wsX0_settleCycles (wsX3_readsA) := ggX0_settleCycles_X3_readsA
set_option maxRecDepth 20000 in
theorem ggX0_settleCycles_X3_readsB : GoodIn wsX0_settleCycles wsX3_readsB := goodIn_c _ [20] [] rfl (by decide +kernel) (by decide +kernel)
set_option maxRecDepth 20000 in
theorem gX0_settleCycles_X3_readsB_n147 : GoodIn wsX0_settleCycles (wsX3_readsB) := ggX0_settleCycles_X3_readsB
set_option maxRecDepth 20000 in
theorem ggX0_settleCycles_X2_registerB : GoodIn wsX0_settleCycles wsX2_registerB := goodIn_c _ [25] [26, 53, 54, 55, 56, 57, 58, 59, 60, 61] rfl (by decide +kernel) (by decide +kernel)
set_option maxRecDepth 20000 in
theorem gX0_settleCycles_X2_registerB : GoodIn wsX0_settleCycles (wsV RX0 150 RX2 yX2_registerB wsX2_registerB) := goodIn_app (goodIn_of _ (by decide +kernel)) ggX0_settleCycles_X2_registerB
set_option maxRecDepth 20000 in
theorem ggX0_settleCycles_X3_readsD : GoodIn wsX0_settleCycles wsX3_readsD := goodIn_c _ [28] [] rfl (by decide +kernel) (by decide +kernel)
set_option maxRecDepth 20000 in
theorem gX0_settleCycles_X3_readsD_n153 : GoodIn wsX0_settleCycles (wsX3_readsD) := ggX0_settleCycles_X3_readsD
set_option maxRecDepth 20000 in
theorem ggX0_settleCycles_X3_writesD : GoodIn wsX0_settleCycles wsX3_writesD := goodIn_c _ [30] [] rfl (by decide +kernel) (by decide +kernel)
set_option maxRecDepth 20000 in
theorem gX0_settleCycles_X3_writesD_n102 : GoodIn wsX0_settleCycles (wsX3_writesD) := ggX0_settleCycles_X3_writesD
set_option maxRecDepth 20000 in
theorem ggX0_keepRow_X0_issuedStart : GoodIn wsX0_keepRow wsX0_issuedStart := goodIn_c _ [12] [] rfl (by decide +kernel) (by decide +kernel)
set_option maxRecDepth 20000 in
theorem gX0_keepRow_X0_issuedStart : GoodIn wsX0_keepRow (va_wsS RX0 165 yX0_issuedStart wsX0_issuedStart) := goodIn_app (goodIn_of _ (by decide +kernel)) ggX0_keepRow_X0_issuedStart
set_option maxRecDepth 20000 in
theorem ggX0_noteReading_X3_readsA : GoodIn wsX0_noteReading wsX3_readsA := goodIn_c _ [8] [] rfl (by decide +kernel) (by decide +kernel)
set_option maxRecDepth 20000 in
theorem gX0_noteReading_X3_readsA_n136 : GoodIn wsX0_noteReading (wsX3_readsA) := ggX0_noteReading_X3_readsA
set_option maxRecDepth 20000 in
theorem ggX0_noteReading_X0_noteReader : GoodIn wsX0_noteReading wsX0_noteReader := goodIn_c _ [13, 19] [14, 15, 16, 17, 18, 30, 31, 32, 33, 34, 35, 36, 37, 38, 39, 40, 41, 42, 43, 44, 45, 46, 47] rfl (by decide +kernel) (by decide +kernel)
set_option maxRecDepth 20000 in
theorem gX0_noteReading_X0_noteReader : GoodIn wsX0_noteReading (wsV RX0 168 RX0 yX0_noteReader wsX0_noteReader) := goodIn_app (goodIn_of _ (by decide +kernel)) ggX0_noteReading_X0_noteReader
set_option maxRecDepth 20000 in
theorem ggX0_noteReading_X3_readsB : GoodIn wsX0_noteReading wsX3_readsB := goodIn_c _ [21] [] rfl (by decide +kernel) (by decide +kernel)
set_option maxRecDepth 20000 in
theorem gX0_noteReading_X3_readsB_n147 : GoodIn wsX0_noteReading (wsX3_readsB) := ggX0_noteReading_X3_readsB
set_option maxRecDepth 20000 in
theorem ggX0_noteReading_X2_registerB : GoodIn wsX0_noteReading wsX2_registerB := goodIn_c _ [26] [27, 52, 53, 54, 55, 56, 57, 58, 59, 60] rfl (by decide +kernel) (by decide +kernel)
set_option maxRecDepth 20000 in
theorem gX0_noteReading_X2_registerB : GoodIn wsX0_noteReading (wsV RX0 150 RX2 yX2_registerB wsX2_registerB) := goodIn_app (goodIn_of _ (by decide +kernel)) ggX0_noteReading_X2_registerB
set_option maxRecDepth 20000 in
theorem ggX0_noteReading_X3_readsD : GoodIn wsX0_noteReading wsX3_readsD := goodIn_c _ [29] [] rfl (by decide +kernel) (by decide +kernel)
set_option maxRecDepth 20000 in
theorem gX0_noteReading_X3_readsD_n153 : GoodIn wsX0_noteReading (wsX3_readsD) := ggX0_noteReading_X3_readsD
set_option maxRecDepth 20000 in
theorem ggX0_noteWriting_X1_cell : GoodIn wsX0_noteWriting wsX1_cell := goodIn_c _ [25] [26, 27, 28, 29, 30, 31, 50, 51, 52, 53, 54, 55, 56, 57, 58, 59, 60, 61, 62] rfl (by decide +kernel) (by decide +kernel)
set_option maxRecDepth 20000 in
theorem gX0_noteWriting_X1_cell : GoodIn wsX0_noteWriting (wsV RX0 171 RX1 yX1_cell wsX1_cell) := goodIn_app (goodIn_of _ (by decide +kernel)) ggX0_noteWriting_X1_cell
set_option maxRecDepth 20000 in
theorem ggX0_tellIssued_X0_issuedStart : GoodIn wsX0_tellIssued wsX0_issuedStart := goodIn_c _ [6] [] rfl (by decide +kernel) (by decide +kernel)
set_option maxRecDepth 20000 in
theorem gX0_tellIssued_X0_issuedStart : GoodIn wsX0_tellIssued (va_wsS RX0 165 yX0_issuedStart wsX0_issuedStart) := goodIn_app (goodIn_of _ (by decide +kernel)) ggX0_tellIssued_X0_issuedStart
set_option maxRecDepth 20000 in
theorem ggX1_step_X1_code : GoodIn wsX1_step wsX1_code := goodIn_c _ [10] [1, 11, 3, 40, 41, 42, 43, 44, 45, 46, 47, 48, 49, 50, 51, 52] rfl (by decide +kernel) (by decide +kernel)
set_option maxRecDepth 20000 in
theorem gX1_step_X1_code : GoodIn wsX1_step (wsV RX1 48 RX1 yX1_code wsX1_code) := goodIn_app (goodIn_of _ (by decide +kernel)) ggX1_step_X1_code
set_option maxRecDepth 20000 in
theorem ggX1_step_X1_cell : GoodIn wsX1_step wsX1_cell := goodIn_c _ [15] [5, 1, 16, 3, 17, 18, 40, 41, 42, 43, 44, 45, 46, 47, 48, 49, 50, 51, 52] rfl (by decide +kernel) (by decide +kernel)
set_option maxRecDepth 20000 in
theorem gX1_step_X1_cell : GoodIn wsX1_step (wsV RX1 55 RX1 yX1_cell wsX1_cell) := goodIn_app (goodIn_of _ (by decide +kernel)) ggX1_step_X1_cell
set_option maxRecDepth 20000 in
theorem ggX1_step_X3_writesD : GoodIn wsX1_step wsX3_writesD := goodIn_c _ [21] [] rfl (by decide +kernel) (by decide +kernel)
set_option maxRecDepth 20000 in
theorem gX1_step_X3_writesD_n58 : GoodIn wsX1_step (wsX3_writesD) := ggX1_step_X3_writesD
set_option maxRecDepth 20000 in
theorem ggX1_step_X1_value : GoodIn wsX1_step wsX1_value := goodIn_c _ [25, 15, 30, 34] [4, 5, 1, 16, 3, 17, 12, 13, 14, 9, 18, 26, 27, 28, 29, 31, 32, 33, 35, 40, 41, 42, 43, 44, 45, 46, 47, 48, 49, 50, 51, 52] rfl (by decide +kernel) (by decide +kernel)
set_option maxRecDepth 20000 in
theorem gX1_step_X1_value : GoodIn wsX1_step (wsV RX1 62 RX1 yX1_value wsX1_value) := goodIn_app (goodIn_of _ (by decide +kernel)) ggX1_step_X1_value
set_option maxRecDepth 20000 in
theorem ggX1_step_X1_placeAfter : GoodIn wsX1_step wsX1_placeAfter := goodIn_c _ [39] [5, 1, 16, 3, 17, 40, 41, 42, 43, 44, 45, 46, 47, 48, 49, 50, 51, 52] rfl (by decide +kernel) (by decide +kernel)
set_option maxRecDepth 20000 in
theorem gX1_step_X1_placeAfter : GoodIn wsX1_step (wsV RX1 66 RX1 yX1_placeAfter wsX1_placeAfter) := goodIn_app (goodIn_of _ (by decide +kernel)) ggX1_step_X1_placeAfter
set_option maxRecDepth 20000 in
theorem ggX1_value_X1_cell : GoodIn wsX1_value wsX1_cell := goodIn_c _ [11] [2, 3, 4, 5, 6, 12, 23, 24, 25, 26, 27, 28, 29, 30, 31, 32, 33, 34, 35] rfl (by decide +kernel) (by decide +kernel)
set_option maxRecDepth 20000 in
theorem gX1_value_X1_cell : GoodIn wsX1_value (wsV RX1 55 RX1 yX1_cell wsX1_cell) := goodIn_app (goodIn_of _ (by decide +kernel)) ggX1_value_X1_cell
set_option maxRecDepth 20000 in
theorem ggX1_value_X2_registerB : GoodIn wsX1_value wsX2_registerB := goodIn_c _ [17] [18, 27, 28, 29, 30, 31, 32, 33, 34, 35] rfl (by decide +kernel) (by decide +kernel)
set_option maxRecDepth 20000 in
theorem gX1_value_X2_registerB : GoodIn wsX1_value (wsV RX1 70 RX2 yX2_registerB wsX2_registerB) := goodIn_app (goodIn_of _ (by decide +kernel)) ggX1_value_X2_registerB
set_option maxRecDepth 20000 in
theorem ggX1_value_X1_worked : GoodIn wsX1_value wsX1_worked := goodIn_c _ [21] [22] rfl (by decide +kernel) (by decide +kernel)
set_option maxRecDepth 20000 in
theorem gX1_value_X1_worked : GoodIn wsX1_value (va_wsS RX1 73 yX1_worked wsX1_worked) := goodIn_app (goodIn_of _ (by decide +kernel)) ggX1_value_X1_worked
set_option maxRecDepth 20000 in
theorem ggX2_init_X2_begin : GoodIn wsX2_init wsX2_begin := goodIn_c _ [18, 27, 30] [5, 6, 7, 8, 9, 10, 19, 20, 21, 22, 12, 13, 23, 24, 25, 26, 28, 29, 31, 32, 33, 34, 35, 36, 37, 38, 39] rfl (by decide +kernel) (by decide +kernel)
set_option maxRecDepth 20000 in
theorem gX2_init_X2_begin : GoodIn wsX2_init (wsV RX2 37 RX2 yX2_begin wsX2_begin) := goodIn_app (goodIn_of _ (by decide +kernel)) ggX2_init_X2_begin
set_option maxRecDepth 20000 in
theorem ggX2_begin_J7_fill_53178 : GoodIn wsX2_begin wsJ7_fill_53178 := goodIn_c _ [17] [] rfl (by decide +kernel) (by decide +kernel)
set_option maxRecDepth 20000 in
theorem gX2_begin_J7_fill_53178 : GoodIn wsX2_begin (va_wsS RX2 40 yJ7_fill_53178 wsJ7_fill_53178) := goodIn_app (goodIn_of _ (by decide +kernel)) ggX2_begin_J7_fill_53178
set_option maxRecDepth 20000 in
theorem ggX2_begin_J7_fill_d0a16 : GoodIn wsX2_begin wsJ7_fill_d0a16 := goodIn_c _ [20] [] rfl (by decide +kernel) (by decide +kernel)
set_option maxRecDepth 20000 in
theorem gX2_begin_J7_fill_d0a16 : GoodIn wsX2_begin (va_wsS RX2 55 yJ7_fill_d0a16 wsJ7_fill_d0a16) := goodIn_app (goodIn_of _ (by decide +kernel)) ggX2_begin_J7_fill_d0a16
set_option maxRecDepth 20000 in
theorem ggX3_init_X2_init : GoodIn wsX3_init wsX2_init := goodIn_c _ [18, 3, 33, 42, 45] [19, 2, 20, 21, 22, 23, 24, 25, 26, 27, 28, 29, 30, 31, 32, 6, 34, 35, 36, 37, 38, 39, 40, 41, 43, 44, 67, 68, 69, 70, 71, 72, 73, 74, 75] rfl (by decide +kernel) (by decide +kernel)
set_option maxRecDepth 20000 in
theorem gX3_init_X2_init : GoodIn wsX3_init (wsX2_init) := ggX3_init_X2_init
set_option maxRecDepth 20000 in
theorem ggX3_init_X1_init : GoodIn wsX3_init wsX1_init := goodIn_c _ [48, 3] [49, 2, 27, 50, 51, 52, 79, 80, 81, 82] rfl (by decide +kernel) (by decide +kernel)
set_option maxRecDepth 20000 in
theorem gX3_init_X1_init : GoodIn wsX3_init (wsX1_init) := ggX3_init_X1_init
set_option maxRecDepth 20000 in
theorem ggX3_init_X0_init : GoodIn wsX3_init wsX0_init := goodIn_c _ [55, 3] [56, 2, 20, 57, 58, 59, 27, 60, 61, 62, 63, 64, 65, 66, 83, 84, 85, 86, 87, 88, 89, 90, 91, 92, 93, 94, 95, 96, 97, 98, 99, 100] rfl (by decide +kernel) (by decide +kernel)
set_option maxRecDepth 20000 in
theorem gX3_init_X0_init : GoodIn wsX3_init (wsX0_init) := ggX3_init_X0_init
set_option maxRecDepth 20000 in
theorem ggX3_put_X3_began : GoodIn wsX3_put wsX3_began := goodIn_c _ [11] [12, 13, 17, 18, 19, 29, 30, 31, 32, 33, 34, 35, 36, 37, 38, 39, 40, 41, 42, 43, 44, 45, 46] rfl (by decide +kernel) (by decide +kernel)
set_option maxRecDepth 20000 in
theorem gX3_put_X3_began : GoodIn wsX3_put (wsV RX3 34 RX3 yX3_began wsX3_began) := goodIn_app (goodIn_of _ (by decide +kernel)) ggX3_put_X3_began
set_option maxRecDepth 20000 in
theorem ggX3_put_X3_within : GoodIn wsX3_put wsX3_within := goodIn_c _ [16] [] rfl (by decide +kernel) (by decide +kernel)
set_option maxRecDepth 20000 in
theorem gX3_put_X3_within : GoodIn wsX3_put (va_wsS RX3 38 yX3_within wsX3_within) := goodIn_app (goodIn_of _ (by decide +kernel)) ggX3_put_X3_within
set_option maxRecDepth 20000 in
theorem ggX3_units_X3_began : GoodIn wsX3_units wsX3_began := goodIn_c _ [7] [8, 9, 13, 14, 15, 25, 26, 27, 28, 29, 30, 31, 32, 33, 34, 35, 36, 37, 38, 39, 40, 41, 42] rfl (by decide +kernel) (by decide +kernel)
set_option maxRecDepth 20000 in
theorem gX3_units_X3_began : GoodIn wsX3_units (wsV RX3 34 RX3 yX3_began wsX3_began) := goodIn_app (goodIn_of _ (by decide +kernel)) ggX3_units_X3_began
set_option maxRecDepth 20000 in
theorem ggX3_units_X3_within : GoodIn wsX3_units wsX3_within := goodIn_c _ [12] [] rfl (by decide +kernel) (by decide +kernel)
set_option maxRecDepth 20000 in
theorem gX3_units_X3_within : GoodIn wsX3_units (va_wsS RX3 38 yX3_within wsX3_within) := goodIn_app (goodIn_of _ (by decide +kernel)) ggX3_units_X3_within
set_option maxRecDepth 20000 in
theorem ggX3_latency_X3_began : GoodIn wsX3_latency wsX3_began := goodIn_c _ [7] [8, 9, 13, 14, 15, 25, 26, 27, 28, 29, 30, 31, 32, 33, 34, 35, 36, 37, 38, 39, 40, 41, 42] rfl (by decide +kernel) (by decide +kernel)
set_option maxRecDepth 20000 in
theorem gX3_latency_X3_began : GoodIn wsX3_latency (wsV RX3 34 RX3 yX3_began wsX3_began) := goodIn_app (goodIn_of _ (by decide +kernel)) ggX3_latency_X3_began
set_option maxRecDepth 20000 in
theorem ggX3_latency_X3_within : GoodIn wsX3_latency wsX3_within := goodIn_c _ [12] [] rfl (by decide +kernel) (by decide +kernel)
set_option maxRecDepth 20000 in
theorem gX3_latency_X3_within : GoodIn wsX3_latency (va_wsS RX3 38 yX3_within wsX3_within) := goodIn_app (goodIn_of _ (by decide +kernel)) ggX3_latency_X3_within
set_option maxRecDepth 20000 in
theorem ggX3_width_X3_began : GoodIn wsX3_width wsX3_began := goodIn_c _ [7] [8, 9, 10, 11, 12, 22, 23, 24, 25, 26, 27, 28, 29, 30, 31, 32, 33, 34, 35, 36, 37, 38, 39] rfl (by decide +kernel) (by decide +kernel)
set_option maxRecDepth 20000 in
theorem gX3_width_X3_began : GoodIn wsX3_width (wsV RX3 34 RX3 yX3_began wsX3_began) := goodIn_app (goodIn_of _ (by decide +kernel)) ggX3_width_X3_began
set_option maxRecDepth 20000 in
theorem ggX3_set_X3_began : GoodIn wsX3_set wsX3_began := goodIn_c _ [11] [12, 13, 20, 21, 22, 36, 37, 38, 39, 40, 41, 42, 43, 44, 45, 46, 47, 48, 49, 50, 51, 52, 53] rfl (by decide +kernel) (by decide +kernel)
set_option maxRecDepth 20000 in
theorem gX3_set_X3_began : GoodIn wsX3_set (wsV RX3 34 RX3 yX3_began wsX3_began) := goodIn_app (goodIn_of _ (by decide +kernel)) ggX3_set_X3_began
set_option maxRecDepth 20000 in
theorem ggX3_set_X3_isThere : GoodIn wsX3_set wsX3_isThere := goodIn_c _ [16, 19] [17, 18, 10] rfl (by decide +kernel) (by decide +kernel)
set_option maxRecDepth 20000 in
theorem gX3_set_X3_isThere : GoodIn wsX3_set (va_wsS RX3 68 yX3_isThere wsX3_isThere) := goodIn_app (goodIn_of _ (by decide +kernel)) ggX3_set_X3_isThere
set_option maxRecDepth 20000 in
theorem ggX3_run_X0_goOneCycle : GoodIn wsX3_run wsX0_goOneCycle := goodIn_c _ [7, 19, 26, 35, 40, 42, 46, 51, 56, 58, 63, 66, 70, 78, 82, 86, 90, 101, 109, 117, 121, 126] [8, 9, 10, 11, 12, 13, 14, 15, 16, 17, 18, 20, 21, 22, 23, 24, 25, 6, 27, 28, 29, 30, 31, 32, 33, 34, 36, 37, 38, 39, 41, 43, 44, 45, 47, 48, 49, 50, 52, 53, 54, 55, 57, 59, 60, 61, 62, 64, 65, 67, 68, 69, 71, 72, 73, 74, 75, 76, 77, 79, 80, 81, 83, 84, 85, 87, 88, 89, 91, 92, 93, 94, 95, 96, 97, 98, 99, 100, 102, 103, 104, 105, 106, 107, 108, 110, 111, 112, 113, 114, 115, 116, 118, 119, 120, 122, 123, 124, 125, 130, 131, 132, 133, 134, 135, 136, 137, 138, 139, 140, 141, 142, 143, 144, 145, 146, 147, 148, 149, 150, 151, 152, 153, 154, 155, 156, 157, 158, 159, 160] rfl (by decide +kernel) (by decide +kernel)
set_option maxRecDepth 20000 in
theorem gX3_run_X0_goOneCycle : GoodIn wsX3_run (wsV RX3 84 RX0 yX0_goOneCycle wsX0_goOneCycle) := goodIn_app (goodIn_of _ (by decide +kernel)) ggX3_run_X0_goOneCycle
set_option maxRecDepth 20000 in
theorem ggX3_again_X1_begin : GoodIn wsX3_again wsX1_begin := goodIn_c _ [7] [8, 9, 10, 11, 12, 13, 14, 15, 16, 17, 48, 49, 50, 51, 52, 53, 54, 55, 56, 57, 58, 59, 60] rfl (by decide +kernel) (by decide +kernel)
set_option maxRecDepth 20000 in
theorem gX3_again_X1_begin : GoodIn wsX3_again (wsV RX3 87 RX1 yX1_begin wsX1_begin) := goodIn_app (goodIn_of _ (by decide +kernel)) ggX3_again_X1_begin
set_option maxRecDepth 20000 in
theorem ggX3_again_X0_begin : GoodIn wsX3_again wsX0_begin := goodIn_c _ [22, 41, 44] [23, 24, 25, 26, 27, 28, 29, 30, 31, 32, 33, 34, 35, 36, 37, 38, 39, 40, 42, 43, 61, 62, 63, 64, 65, 66, 67, 68, 69, 70, 71, 72, 73, 74, 75, 76, 77, 78] rfl (by decide +kernel) (by decide +kernel)
set_option maxRecDepth 20000 in
theorem gX3_again_X0_begin : GoodIn wsX3_again (wsV RX3 90 RX0 yX0_begin wsX0_begin) := goodIn_app (goodIn_of _ (by decide +kernel)) ggX3_again_X0_begin
set_option maxRecDepth 20000 in
theorem ggX3_clear_X2_begin : GoodIn wsX3_clear wsX2_begin := goodIn_c _ [8, 25, 28] [9, 10, 11, 12, 13, 14, 15, 16, 17, 18, 19, 20, 21, 22, 23, 24, 26, 27, 66, 67, 68, 69, 70, 71, 72, 73, 74] rfl (by decide +kernel) (by decide +kernel)
set_option maxRecDepth 20000 in
theorem gX3_clear_X2_begin : GoodIn wsX3_clear (wsV RX3 91 RX2 yX2_begin wsX2_begin) := goodIn_app (goodIn_of _ (by decide +kernel)) ggX3_clear_X2_begin
set_option maxRecDepth 20000 in
theorem ggX3_clear_X1_begin : GoodIn wsX3_clear wsX1_begin := goodIn_c _ [33] [34, 35, 36, 37, 16, 17, 18, 38, 39, 40, 75, 76, 77, 78, 66, 67, 68, 69, 70, 71, 72, 73, 74] rfl (by decide +kernel) (by decide +kernel)
set_option maxRecDepth 20000 in
theorem gX3_clear_X1_begin : GoodIn wsX3_clear (wsV RX3 87 RX1 yX1_begin wsX1_begin) := goodIn_app (goodIn_of _ (by decide +kernel)) ggX3_clear_X1_begin
set_option maxRecDepth 20000 in
theorem ggX3_clear_X0_begin : GoodIn wsX3_clear wsX0_begin := goodIn_c _ [45, 25, 28] [46, 47, 48, 49, 50, 51, 52, 53, 54, 55, 56, 57, 58, 59, 60, 61, 23, 24, 62, 27, 79, 80, 81, 82, 83, 84, 85, 86, 87, 88, 89, 90, 91, 92, 93, 94, 95, 96] rfl (by decide +kernel) (by decide +kernel)
set_option maxRecDepth 20000 in
theorem gX3_clear_X0_begin : GoodIn wsX3_clear (wsV RX3 90 RX0 yX0_begin wsX0_begin) := goodIn_app (goodIn_of _ (by decide +kernel)) ggX3_clear_X0_begin
set_option maxRecDepth 20000 in
theorem ggX3_count_X0_notWritten : GoodIn wsX3_count wsX0_notWritten := goodIn_c _ [13] [14, 15, 19, 20, 21, 22, 23, 24, 25, 26, 27, 28, 29, 30, 31, 32, 33, 34, 35, 36] rfl (by decide +kernel) (by decide +kernel)
set_option maxRecDepth 20000 in
theorem gX3_count_X0_notWritten : GoodIn wsX3_count (wsV RX3 98 RX0 yX0_notWritten wsX0_notWritten) := goodIn_app (goodIn_of _ (by decide +kernel)) ggX3_count_X0_notWritten
set_option maxRecDepth 20000 in
theorem ggX3_register_X3_within : GoodIn wsX3_register wsX3_within := goodIn_c _ [7] [] rfl (by decide +kernel) (by decide +kernel)
set_option maxRecDepth 20000 in
theorem gX3_register_X3_within : GoodIn wsX3_register (va_wsS RX3 38 yX3_within wsX3_within) := goodIn_app (goodIn_of _ (by decide +kernel)) ggX3_register_X3_within
set_option maxRecDepth 20000 in
theorem ggX3_register_X0_registerNow : GoodIn wsX3_register wsX0_registerNow := goodIn_c _ [12] [13, 14, 15, 16, 17, 21, 22, 23, 24, 25, 26, 27, 28, 29, 30, 31, 32, 33, 34, 35, 36, 37, 38, 39, 40, 41, 42] rfl (by decide +kernel) (by decide +kernel)
set_option maxRecDepth 20000 in
theorem gX3_register_X0_registerNow : GoodIn wsX3_register (wsV RX3 118 RX0 yX0_registerNow wsX0_registerNow) := goodIn_app (goodIn_of _ (by decide +kernel)) ggX3_register_X0_registerNow
set_option maxRecDepth 20000 in
theorem ggX3_memory_X3_within : GoodIn wsX3_memory wsX3_within := goodIn_c _ [7] [] rfl (by decide +kernel) (by decide +kernel)
set_option maxRecDepth 20000 in
theorem gX3_memory_X3_within : GoodIn wsX3_memory (va_wsS RX3 38 yX3_within wsX3_within) := goodIn_app (goodIn_of _ (by decide +kernel)) ggX3_memory_X3_within
set_option maxRecDepth 20000 in
theorem ggX3_memory_X0_memoryNow : GoodIn wsX3_memory wsX0_memoryNow := goodIn_c _ [12] [13, 14, 15, 16, 17, 18, 22, 23, 24, 25, 26, 27, 28, 29, 30, 31, 32, 33, 34, 35, 36, 37, 38, 39, 40, 41, 42, 43] rfl (by decide +kernel) (by decide +kernel)
set_option maxRecDepth 20000 in
theorem gX3_memory_X0_memoryNow : GoodIn wsX3_memory (wsV RX3 124 RX0 yX0_memoryNow wsX0_memoryNow) := goodIn_app (goodIn_of _ (by decide +kernel)) ggX3_memory_X0_memoryNow
set_option maxRecDepth 20000 in
theorem ggX3_plain_X3_isThere : GoodIn wsX3_plain wsX3_isThere := goodIn_c _ [9, 12] [10, 11, 8] rfl (by decide +kernel) (by decide +kernel)
set_option maxRecDepth 20000 in
theorem gX3_plain_X3_isThere : GoodIn wsX3_plain (va_wsS RX3 68 yX3_isThere wsX3_isThere) := goodIn_app (goodIn_of _ (by decide +kernel)) ggX3_plain_X3_isThere
set_option maxRecDepth 20000 in
theorem ggX3_unit_X3_within : GoodIn wsX3_unit wsX3_within := goodIn_c _ [7] [] rfl (by decide +kernel) (by decide +kernel)
set_option maxRecDepth 20000 in
theorem gX3_unit_X3_within : GoodIn wsX3_unit (va_wsS RX3 38 yX3_within wsX3_within) := goodIn_app (goodIn_of _ (by decide +kernel)) ggX3_unit_X3_within
set_option maxRecDepth 20000 in
theorem ggX3_unit_X3_unitRow : GoodIn wsX3_unit wsX3_unitRow := goodIn_c _ [10] [] rfl (by decide +kernel) (by decide +kernel)
set_option maxRecDepth 20000 in
theorem gX3_unit_X3_unitRow : GoodIn wsX3_unit (va_wsS RX3 129 yX3_unitRow wsX3_unitRow) := goodIn_app (goodIn_of _ (by decide +kernel)) ggX3_unit_X3_unitRow
set_option maxRecDepth 20000 in
theorem ggX3_unit_X0_tellUnit : GoodIn wsX3_unit wsX0_tellUnit := goodIn_c _ [15] [16, 17, 30, 31, 32, 33, 34, 35, 36, 37, 38, 39, 40, 41, 42, 43, 44, 45, 46, 47] rfl (by decide +kernel) (by decide +kernel)
set_option maxRecDepth 20000 in
theorem gX3_unit_X0_tellUnit : GoodIn wsX3_unit (wsV RX3 133 RX0 yX0_tellUnit wsX0_tellUnit) := goodIn_app (goodIn_of _ (by decide +kernel)) ggX3_unit_X0_tellUnit
set_option maxRecDepth 20000 in
theorem ggX3_pending_X3_within : GoodIn wsX3_pending wsX3_within := goodIn_c _ [8] [] rfl (by decide +kernel) (by decide +kernel)
set_option maxRecDepth 20000 in
theorem gX3_pending_X3_within : GoodIn wsX3_pending (va_wsS RX3 38 yX3_within wsX3_within) := goodIn_app (goodIn_of _ (by decide +kernel)) ggX3_pending_X3_within
set_option maxRecDepth 20000 in
theorem ggX3_latest_X3_within : GoodIn wsX3_latest wsX3_within := goodIn_c _ [6] [] rfl (by decide +kernel) (by decide +kernel)
set_option maxRecDepth 20000 in
theorem gX3_latest_X3_within : GoodIn wsX3_latest (va_wsS RX3 38 yX3_within wsX3_within) := goodIn_app (goodIn_of _ (by decide +kernel)) ggX3_latest_X3_within
set_option maxRecDepth 20000 in
theorem ggX3_latest_X0_tellIssued : GoodIn wsX3_latest wsX0_tellIssued := goodIn_c _ [11, 16] [12, 13, 14, 15, 10, 20, 21, 22, 23, 24, 25, 26, 27, 28, 29, 30, 31, 32, 33, 34, 35, 36, 37] rfl (by decide +kernel) (by decide +kernel)
set_option maxRecDepth 20000 in
theorem gX3_latest_X0_tellIssued : GoodIn wsX3_latest (wsV RX3 142 RX0 yX0_tellIssued wsX0_tellIssued) := goodIn_app (goodIn_of _ (by decide +kernel)) ggX3_latest_X0_tellIssued
set_option maxRecDepth 20000 in
theorem ggX3_isThere_X3_within : GoodIn wsX3_isThere wsX3_within := goodIn_c _ [4] [] rfl (by decide +kernel) (by decide +kernel)
set_option maxRecDepth 20000 in
theorem gX3_isThere_X3_within : GoodIn wsX3_isThere (va_wsS RX3 38 yX3_within wsX3_within) := goodIn_app (goodIn_of _ (by decide +kernel)) ggX3_isThere_X3_within
set_option maxRecDepth 20000 in
theorem ggX4_init_X4_clear : GoodIn wsX4_init wsX4_clear := goodIn_c _ [28, 34] [29, 5, 6, 7, 30, 9, 10, 31, 32, 33, 27, 35, 36, 37, 38, 39, 40, 41, 42, 15, 11, 13, 16, 17, 18, 12, 14, 22, 19, 43, 44, 45, 46, 47, 48, 49, 50, 51, 52, 53, 54, 55, 56, 57, 58, 59, 60, 61, 62, 63, 64, 65, 66, 67, 68, 69] rfl (by decide +kernel) (by decide +kernel)
set_option maxRecDepth 20000 in
theorem gX4_init_X4_clear : GoodIn wsX4_init (wsV RX4 63 RX4 yX4_clear wsX4_clear) := goodIn_app (goodIn_of _ (by decide +kernel)) ggX4_init_X4_clear
set_option maxRecDepth 20000 in
theorem ggX4_clear_X4_again : GoodIn wsX4_clear wsX4_again := goodIn_c _ [12] [1, 13, 14, 15, 16, 17, 18, 19, 20, 21, 22, 6, 23, 24, 25, 26, 27, 7, 28, 29, 30, 31, 32, 33, 34, 35, 36, 37, 38, 39, 40, 41, 42, 43, 44, 45, 46, 47, 48, 49, 50, 51, 52, 53, 54, 55, 56, 57] rfl (by decide +kernel) (by decide +kernel)
set_option maxRecDepth 20000 in
theorem gX4_clear_X4_again : GoodIn wsX4_clear (wsV RX4 73 RX4 yX4_again wsX4_again) := goodIn_app (goodIn_of _ (by decide +kernel)) ggX4_clear_X4_again
set_option maxRecDepth 20000 in
theorem ggX4_sameWritten_X4_code : GoodIn wsX4_sameWritten wsX4_code := goodIn_c _ [8] [2, 3, 12, 13, 14, 15, 16, 17, 18, 19, 20, 21, 22, 23, 24, 25, 26, 27, 28, 29, 30, 31, 32, 33, 34, 35, 36, 37, 38] rfl (by decide +kernel) (by decide +kernel)
set_option maxRecDepth 20000 in
theorem gX4_sameWritten_X4_code : GoodIn wsX4_sameWritten (wsV RX4 101 RX4 yX4_code wsX4_code) := goodIn_app (goodIn_of _ (by decide +kernel)) ggX4_sameWritten_X4_code
set_option maxRecDepth 20000 in
theorem ggX4_sameWritten_X4_writes : GoodIn wsX4_sameWritten wsX4_writes := goodIn_c _ [11] [] rfl (by decide +kernel) (by decide +kernel)
set_option maxRecDepth 20000 in
theorem gX4_sameWritten_X4_writes : GoodIn wsX4_sameWritten (va_wsS RX4 105 yX4_writes wsX4_writes) := goodIn_app (goodIn_of _ (by decide +kernel)) ggX4_sameWritten_X4_writes
set_option maxRecDepth 20000 in
theorem ggX4_issues_X4_begins : GoodIn wsX4_issues wsX4_begins := goodIn_c _ [6] [7, 8, 9, 10, 37, 38, 39, 40, 41, 42, 43, 44, 45, 46, 47, 48, 49, 50, 51, 52, 53, 54, 55, 56, 57, 58, 59, 60, 61, 62, 63] rfl (by decide +kernel) (by decide +kernel)
set_option maxRecDepth 20000 in
theorem gX4_issues_X4_begins : GoodIn wsX4_issues (wsV RX4 109 RX4 yX4_begins wsX4_begins) := goodIn_app (goodIn_of _ (by decide +kernel)) ggX4_issues_X4_begins
set_option maxRecDepth 20000 in
theorem ggX4_issues_X4_greater : GoodIn wsX4_issues wsX4_greater := goodIn_c _ [13] [] rfl (by decide +kernel) (by decide +kernel)
set_option maxRecDepth 20000 in
theorem gX4_issues_X4_greater : GoodIn wsX4_issues (va_wsS RX4 112 yX4_greater wsX4_greater) := goodIn_app (goodIn_of _ (by decide +kernel)) ggX4_issues_X4_greater
set_option maxRecDepth 20000 in
theorem ggX4_issues_X4_code : GoodIn wsX4_issues wsX4_code := goodIn_c _ [17] [18, 19, 37, 38, 39, 40, 41, 42, 43, 44, 45, 46, 47, 48, 49, 50, 51, 52, 53, 54, 55, 56, 57, 58, 59, 60, 61, 62, 63] rfl (by decide +kernel) (by decide +kernel)
set_option maxRecDepth 20000 in
theorem gX4_issues_X4_code : GoodIn wsX4_issues (wsV RX4 101 RX4 yX4_code wsX4_code) := goodIn_app (goodIn_of _ (by decide +kernel)) ggX4_issues_X4_code
set_option maxRecDepth 20000 in
theorem ggX4_issues_X4_kindOf : GoodIn wsX4_issues wsX4_kindOf := goodIn_c _ [22] [] rfl (by decide +kernel) (by decide +kernel)
set_option maxRecDepth 20000 in
theorem gX4_issues_X4_kindOf : GoodIn wsX4_issues (va_wsS RX4 116 yX4_kindOf wsX4_kindOf) := goodIn_app (goodIn_of _ (by decide +kernel)) ggX4_issues_X4_kindOf
set_option maxRecDepth 20000 in
theorem ggX4_issues_X4_unitWritten : GoodIn wsX4_issues wsX4_unitWritten := goodIn_c _ [26] [27, 28, 37, 38, 39, 40, 41, 42, 43, 44, 45, 46, 47, 48, 49, 50, 51, 52, 53, 54, 55, 56, 57, 58, 59, 60, 61, 62, 63] rfl (by decide +kernel) (by decide +kernel)
set_option maxRecDepth 20000 in
theorem gX4_issues_X4_unitWritten : GoodIn wsX4_issues (wsV RX4 120 RX4 yX4_unitWritten wsX4_unitWritten) := goodIn_app (goodIn_of _ (by decide +kernel)) ggX4_issues_X4_unitWritten
set_option maxRecDepth 20000 in
theorem ggX4_issues_X4_sameWritten : GoodIn wsX4_issues wsX4_sameWritten := goodIn_c _ [32, 17, 36] [33, 18, 19, 14, 15, 16, 5, 34, 35, 37, 38, 39, 40, 41, 42, 43, 44, 45, 46, 47, 48, 49, 50, 51, 52, 53, 54, 55, 56, 57, 58, 59, 60, 61, 62, 63] rfl (by decide +kernel) (by decide +kernel)
set_option maxRecDepth 20000 in
theorem gX4_issues_X4_sameWritten : GoodIn wsX4_issues (wsV RX4 123 RX4 yX4_sameWritten wsX4_sameWritten) := goodIn_app (goodIn_of _ (by decide +kernel)) ggX4_issues_X4_sameWritten
set_option maxRecDepth 20000 in
theorem ggX4_waited_X4_begins : GoodIn wsX4_waited wsX4_begins := goodIn_c _ [6] [7, 8, 9, 10, 37, 38, 39, 40, 41, 42, 43, 44, 45, 46, 47, 48, 49, 50, 51, 52, 53, 54, 55, 56, 57, 58, 59, 60, 61, 62, 63] rfl (by decide +kernel) (by decide +kernel)
set_option maxRecDepth 20000 in
theorem gX4_waited_X4_begins : GoodIn wsX4_waited (wsV RX4 109 RX4 yX4_begins wsX4_begins) := goodIn_app (goodIn_of _ (by decide +kernel)) ggX4_waited_X4_begins
set_option maxRecDepth 20000 in
theorem ggX4_waited_X4_code : GoodIn wsX4_waited wsX4_code := goodIn_c _ [14] [15, 16, 37, 38, 39, 40, 41, 42, 43, 44, 45, 46, 47, 48, 49, 50, 51, 52, 53, 54, 55, 56, 57, 58, 59, 60, 61, 62, 63] rfl (by decide +kernel) (by decide +kernel)
set_option maxRecDepth 20000 in
theorem gX4_waited_X4_code : GoodIn wsX4_waited (wsV RX4 101 RX4 yX4_code wsX4_code) := goodIn_app (goodIn_of _ (by decide +kernel)) ggX4_waited_X4_code
set_option maxRecDepth 20000 in
theorem ggX4_waited_X4_kindOf : GoodIn wsX4_waited wsX4_kindOf := goodIn_c _ [19] [] rfl (by decide +kernel) (by decide +kernel)
set_option maxRecDepth 20000 in
theorem gX4_waited_X4_kindOf : GoodIn wsX4_waited (va_wsS RX4 116 yX4_kindOf wsX4_kindOf) := goodIn_app (goodIn_of _ (by decide +kernel)) ggX4_waited_X4_kindOf
set_option maxRecDepth 20000 in
theorem ggX4_waited_X4_unitWritten : GoodIn wsX4_waited wsX4_unitWritten := goodIn_c _ [23] [24, 25, 37, 38, 39, 40, 41, 42, 43, 44, 45, 46, 47, 48, 49, 50, 51, 52, 53, 54, 55, 56, 57, 58, 59, 60, 61, 62, 63] rfl (by decide +kernel) (by decide +kernel)
set_option maxRecDepth 20000 in
theorem gX4_waited_X4_unitWritten : GoodIn wsX4_waited (wsV RX4 120 RX4 yX4_unitWritten wsX4_unitWritten) := goodIn_app (goodIn_of _ (by decide +kernel)) ggX4_waited_X4_unitWritten
set_option maxRecDepth 20000 in
theorem ggX4_waited_X4_greater : GoodIn wsX4_waited wsX4_greater := goodIn_c _ [28] [] rfl (by decide +kernel) (by decide +kernel)
set_option maxRecDepth 20000 in
theorem gX4_waited_X4_greater : GoodIn wsX4_waited (va_wsS RX4 112 yX4_greater wsX4_greater) := goodIn_app (goodIn_of _ (by decide +kernel)) ggX4_waited_X4_greater
set_option maxRecDepth 20000 in
theorem ggX4_waited_X4_sameWritten : GoodIn wsX4_waited wsX4_sameWritten := goodIn_c _ [32, 14, 36] [33, 15, 16, 11, 12, 13, 5, 34, 35, 37, 38, 39, 40, 41, 42, 43, 44, 45, 46, 47, 48, 49, 50, 51, 52, 53, 54, 55, 56, 57, 58, 59, 60, 61, 62, 63] rfl (by decide +kernel) (by decide +kernel)
set_option maxRecDepth 20000 in
theorem gX4_waited_X4_sameWritten : GoodIn wsX4_waited (wsV RX4 123 RX4 yX4_sameWritten wsX4_sameWritten) := goodIn_app (goodIn_of _ (by decide +kernel)) ggX4_waited_X4_sameWritten
set_option maxRecDepth 20000 in
theorem ggX4_does_X4_registerB : GoodIn wsX4_does wsX4_registerB := goodIn_c _ [11] [3, 1, 12, 13, 14, 15, 16, 17, 18, 19, 20, 21, 22, 23, 24, 25, 26, 27, 28, 29, 30, 31, 32, 33, 34, 35, 36, 37, 38] rfl (by decide +kernel) (by decide +kernel)
set_option maxRecDepth 20000 in
theorem gX4_does_X4_registerB : GoodIn wsX4_does (wsV RX4 126 RX4 yX4_registerB wsX4_registerB) := goodIn_app (goodIn_of _ (by decide +kernel)) ggX4_does_X4_registerB
set_option maxRecDepth 20000 in
theorem ggX4_issue_X4_code : GoodIn wsX4_issue wsX4_code := goodIn_c _ [24] [1, 2, 73, 74, 75, 76, 77, 78, 79, 80, 81, 82, 83, 84, 85, 86, 87, 88, 89, 90, 91, 92, 93, 94, 95, 96, 97, 98, 99] rfl (by decide +kernel) (by decide +kernel)
set_option maxRecDepth 20000 in
theorem gX4_issue_X4_code : GoodIn wsX4_issue (wsV RX4 101 RX4 yX4_code wsX4_code) := goodIn_app (goodIn_of _ (by decide +kernel)) ggX4_issue_X4_code
set_option maxRecDepth 20000 in
theorem ggX4_issue_X4_kindOf : GoodIn wsX4_issue wsX4_kindOf := goodIn_c _ [27] [] rfl (by decide +kernel) (by decide +kernel)
set_option maxRecDepth 20000 in
theorem gX4_issue_X4_kindOf : GoodIn wsX4_issue (va_wsS RX4 116 yX4_kindOf wsX4_kindOf) := goodIn_app (goodIn_of _ (by decide +kernel)) ggX4_issue_X4_kindOf
set_option maxRecDepth 20000 in
theorem ggX4_issue_X4_registerB : GoodIn wsX4_issue wsX4_registerB := goodIn_c _ [31] [1, 2, 73, 74, 75, 76, 77, 78, 79, 80, 81, 82, 83, 84, 85, 86, 87, 88, 89, 90, 91, 92, 93, 94, 95, 96, 97, 98, 99] rfl (by decide +kernel) (by decide +kernel)
set_option maxRecDepth 20000 in
theorem gX4_issue_X4_registerB : GoodIn wsX4_issue (wsV RX4 126 RX4 yX4_registerB wsX4_registerB) := goodIn_app (goodIn_of _ (by decide +kernel)) ggX4_issue_X4_registerB
set_option maxRecDepth 20000 in
theorem ggX4_issue_X4_waited : GoodIn wsX4_issue wsX4_waited := goodIn_c _ [35, 39, 24, 27, 44, 48, 52, 55] [16, 36, 37, 38, 23, 11, 19, 40, 18, 20, 21, 22, 1, 2, 25, 26, 41, 42, 43, 4, 45, 46, 47, 49, 50, 51, 6, 53, 54, 73, 74, 75, 76, 77, 78, 79, 80, 81, 82, 83, 84, 85, 86, 87, 88, 89, 90, 91, 92, 93, 94, 95, 96, 97, 98, 99] rfl (by decide +kernel) (by decide +kernel)
set_option maxRecDepth 20000 in
theorem gX4_issue_X4_waited : GoodIn wsX4_issue (wsV RX4 133 RX4 yX4_waited wsX4_waited) := goodIn_app (goodIn_of _ (by decide +kernel)) ggX4_issue_X4_waited
set_option maxRecDepth 20000 in
theorem ggX4_issue_X4_commit : GoodIn wsX4_issue wsX4_commit := goodIn_c _ [59] [5, 4, 60, 13, 61, 73, 74, 75, 76, 77, 78, 79, 80, 81, 82, 83, 84, 85, 86, 87, 88, 89, 90, 91, 92, 93, 94, 95, 96, 97, 98, 99] rfl (by decide +kernel) (by decide +kernel)
set_option maxRecDepth 20000 in
theorem gX4_issue_X4_commit : GoodIn wsX4_issue (wsV RX4 136 RX4 yX4_commit wsX4_commit) := goodIn_app (goodIn_of _ (by decide +kernel)) ggX4_issue_X4_commit
set_option maxRecDepth 20000 in
theorem ggX4_issue_X4_readsA : GoodIn wsX4_issue wsX4_readsA := goodIn_c _ [64] [] rfl (by decide +kernel) (by decide +kernel)
set_option maxRecDepth 20000 in
theorem gX4_issue_X4_readsA : GoodIn wsX4_issue (va_wsS RX4 140 yX4_readsA wsX4_readsA) := goodIn_app (goodIn_of _ (by decide +kernel)) ggX4_issue_X4_readsA
set_option maxRecDepth 20000 in
theorem ggX4_issue_X4_greater : GoodIn wsX4_issue wsX4_greater := goodIn_c _ [48] [] rfl (by decide +kernel) (by decide +kernel)
set_option maxRecDepth 20000 in
theorem gX4_issue_X4_greater : GoodIn wsX4_issue (va_wsS RX4 112 yX4_greater wsX4_greater) := goodIn_app (goodIn_of _ (by decide +kernel)) ggX4_issue_X4_greater
set_option maxRecDepth 20000 in
theorem ggX4_issue_X4_readsB : GoodIn wsX4_issue wsX4_readsB := goodIn_c _ [67] [] rfl (by decide +kernel) (by decide +kernel)
set_option maxRecDepth 20000 in
theorem gX4_issue_X4_readsB : GoodIn wsX4_issue (va_wsS RX4 143 yX4_readsB wsX4_readsB) := goodIn_app (goodIn_of _ (by decide +kernel)) ggX4_issue_X4_readsB
set_option maxRecDepth 20000 in
theorem ggX4_issue_X4_writes : GoodIn wsX4_issue wsX4_writes := goodIn_c _ [55] [] rfl (by decide +kernel) (by decide +kernel)
set_option maxRecDepth 20000 in
theorem gX4_issue_X4_writes : GoodIn wsX4_issue (va_wsS RX4 105 yX4_writes wsX4_writes) := goodIn_app (goodIn_of _ (by decide +kernel)) ggX4_issue_X4_writes
set_option maxRecDepth 20000 in
theorem ggX4_issue_X4_does : GoodIn wsX4_issue wsX4_does := goodIn_c _ [71, 31] [2, 9, 1, 72, 15, 10, 28, 29, 30, 23, 73, 74, 75, 76, 77, 78, 79, 80, 81, 82, 83, 84, 85, 86, 87, 88, 89, 90, 91, 92, 93, 94, 95, 96, 97, 98, 99] rfl (by decide +kernel) (by decide +kernel)
set_option maxRecDepth 20000 in
theorem gX4_issue_X4_does : GoodIn wsX4_issue (wsV RX4 146 RX4 yX4_does wsX4_does) := goodIn_app (goodIn_of _ (by decide +kernel)) ggX4_issue_X4_does
set_option maxRecDepth 20000 in
theorem ggX4_run_X4_code : GoodIn wsX4_run wsX4_code := goodIn_c _ [12] [13, 14, 84, 85, 86, 87, 88, 89, 90, 91, 92, 93, 94, 95, 96, 97, 98, 99, 100, 101, 102, 103, 104, 105, 106, 107, 108, 109, 110] rfl (by decide +kernel) (by decide +kernel)
set_option maxRecDepth 20000 in
theorem gX4_run_X4_code : GoodIn wsX4_run (wsV RX4 101 RX4 yX4_code wsX4_code) := goodIn_app (goodIn_of _ (by decide +kernel)) ggX4_run_X4_code
set_option maxRecDepth 20000 in
theorem ggX4_run_X4_greater : GoodIn wsX4_run wsX4_greater := goodIn_c _ [17] [] rfl (by decide +kernel) (by decide +kernel)
set_option maxRecDepth 20000 in
theorem gX4_run_X4_greater : GoodIn wsX4_run (va_wsS RX4 112 yX4_greater wsX4_greater) := goodIn_app (goodIn_of _ (by decide +kernel)) ggX4_run_X4_greater
set_option maxRecDepth 20000 in
theorem ggX4_run_X4_issues : GoodIn wsX4_run wsX4_issues := goodIn_c _ [21, 26, 17, 12, 32, 36, 41, 45] [22, 23, 24, 25, 11, 27, 28, 29, 4, 15, 16, 8, 9, 10, 13, 14, 30, 31, 33, 34, 35, 7, 37, 38, 39, 40, 42, 43, 44, 84, 85, 86, 87, 88, 89, 90, 91, 92, 93, 94, 95, 96, 97, 98, 99, 100, 101, 102, 103, 104, 105, 106, 107, 108, 109, 110] rfl (by decide +kernel) (by decide +kernel)
set_option maxRecDepth 20000 in
theorem gX4_run_X4_issues : GoodIn wsX4_run (wsV RX4 150 RX4 yX4_issues wsX4_issues) := goodIn_app (goodIn_of _ (by decide +kernel)) ggX4_run_X4_issues
set_option maxRecDepth 20000 in
theorem ggX4_run_X4_issue : GoodIn wsX4_run wsX4_issue := goodIn_c _ [49, 12, 32, 62, 66, 26, 36, 17, 41, 45, 70, 75, 78, 82] [13, 14, 50, 7, 6, 42, 51, 52, 53, 54, 27, 55, 56, 57, 58, 22, 5, 4, 28, 8, 9, 10, 11, 30, 31, 59, 60, 61, 63, 64, 65, 23, 24, 25, 29, 33, 34, 35, 37, 15, 16, 38, 39, 40, 43, 44, 67, 68, 69, 71, 72, 73, 74, 76, 77, 79, 80, 81, 83, 84, 85, 86, 87, 88, 89, 90, 91, 92, 93, 94, 95, 96, 97, 98, 99, 100, 101, 102, 103, 104, 105, 106, 107, 108, 109, 110] rfl (by decide +kernel) (by decide +kernel)
set_option maxRecDepth 20000 in
theorem gX4_run_X4_issue : GoodIn wsX4_run (wsV RX4 153 RX4 yX4_issue wsX4_issue) := goodIn_app (goodIn_of _ (by decide +kernel)) ggX4_run_X4_issue
set_option maxRecDepth 20000 in
theorem ggX4_run_X4_commit : GoodIn wsX4_run wsX4_commit := goodIn_c _ [70] [6, 7, 71, 56, 72, 84, 85, 86, 87, 88, 89, 90, 91, 92, 93, 94, 95, 96, 97, 98, 99, 100, 101, 102, 103, 104, 105, 106, 107, 108, 109, 110] rfl (by decide +kernel) (by decide +kernel)
set_option maxRecDepth 20000 in
theorem gX4_run_X4_commit : GoodIn wsX4_run (wsV RX4 136 RX4 yX4_commit wsX4_commit) := goodIn_app (goodIn_of _ (by decide +kernel)) ggX4_run_X4_commit
set_option maxRecDepth 20000 in
theorem ggX4_count_X4_open : GoodIn wsX4_count wsX4_open := goodIn_c _ [12] [13, 50, 51, 52, 53, 54, 55, 56, 57, 58, 59, 60, 61, 62, 63, 64, 65, 66, 67, 68, 69, 70, 71, 72, 73, 74, 75, 76] rfl (by decide +kernel) (by decide +kernel)
set_option maxRecDepth 20000 in
theorem gX4_count_X4_open : GoodIn wsX4_count (wsV RX4 156 RX4 yX4_open wsX4_open) := goodIn_app (goodIn_of _ (by decide +kernel)) ggX4_count_X4_open
set_option maxRecDepth 20000 in
theorem ggX4_count_X4_code : GoodIn wsX4_count wsX4_code := goodIn_c _ [17] [18, 7, 50, 51, 52, 53, 54, 55, 56, 57, 58, 59, 60, 61, 62, 63, 64, 65, 66, 67, 68, 69, 70, 71, 72, 73, 74, 75, 76] rfl (by decide +kernel) (by decide +kernel)
set_option maxRecDepth 20000 in
theorem gX4_count_X4_code : GoodIn wsX4_count (wsV RX4 101 RX4 yX4_code wsX4_code) := goodIn_app (goodIn_of _ (by decide +kernel)) ggX4_count_X4_code
set_option maxRecDepth 20000 in
theorem ggX4_count_X4_waited : GoodIn wsX4_count wsX4_waited := goodIn_c _ [22, 26, 17, 32, 36, 41, 45, 49] [6, 23, 24, 25, 11, 4, 27, 28, 29, 14, 15, 16, 18, 7, 30, 31, 33, 34, 35, 37, 38, 39, 40, 42, 43, 44, 46, 47, 48, 50, 51, 52, 53, 54, 55, 56, 57, 58, 59, 60, 61, 62, 63, 64, 65, 66, 67, 68, 69, 70, 71, 72, 73, 74, 75, 76] rfl (by decide +kernel) (by decide +kernel)
set_option maxRecDepth 20000 in
theorem gX4_count_X4_waited : GoodIn wsX4_count (wsV RX4 133 RX4 yX4_waited wsX4_waited) := goodIn_app (goodIn_of _ (by decide +kernel)) ggX4_count_X4_waited
end
section
section VB
variable {p : Program} {l : Launch} {e : Env} {R : Room} {s : State} {m : MethodId} {args : Array Value} {below : List Frame} {meth : Method} {c : Code} {H : Heap} {locs : List Loc} {cells slots : Nat} {Q : State → Prop}
variable {cc : ByteArray} {pc : Nat} {ls : Array Slot} {rest : List Value}
theorem n_add (hx : p.tables.exec = Jvm.exec) (hb : c.code = cc) {a b : Nat} (hdg : decode cc pc = .ok (.iadd, 1)) (k : W p l e R s m args below meth c H locs cells slots Q (F0 m (pc + 1) ls (.int (nI (a + b)) :: rest))) : W p l e R s m args below meth c H locs cells slots Q (F0 m (pc) ls (.int (nI b) :: .int (nI a) :: rest)) :=
  lv_iadd hx hb hdg (by rw [nI_add]; exact k)
theorem n_sub (hx : p.tables.exec = Jvm.exec) (hb : c.code = cc) {a b : Nat} (hab : b ≤ a) (hdg : decode cc pc = .ok (.isub, 1)) (k : W p l e R s m args below meth c H locs cells slots Q (F0 m (pc + 1) ls (.int (nI (a - b)) :: rest))) : W p l e R s m args below meth c H locs cells slots Q (F0 m (pc) ls (.int (nI b) :: .int (nI a) :: rest)) :=
  lv_isub hx hb hdg (by rw [pk_sub hab]; exact k)
theorem n_mul (hx : p.tables.exec = Jvm.exec) (hb : c.code = cc) {a b : Nat} (hdg : decode cc pc = .ok (.imul, 1)) (k : W p l e R s m args below meth c H locs cells slots Q (F0 m (pc + 1) ls (.int (nI (a * b)) :: rest))) : W p l e R s m args below meth c H locs cells slots Q (F0 m (pc) ls (.int (nI b) :: .int (nI a) :: rest)) :=
  lv_imul hx hb hdg (by rw [pk_mul]; exact k)
theorem n_and (hx : p.tables.exec = Jvm.exec) (hb : c.code = cc) {a b : Nat} (k : Nat) (ha : a < 4294967296) (hm : (nI b).toBitVec.toNat = 2 ^ k - 1) (hdg : decode cc pc = .ok (.iand, 1)) (kk : W p l e R s m args below meth c H locs cells slots Q (F0 m (pc + 1) ls (.int (nI (a % 2 ^ k)) :: rest))) : W p l e R s m args below meth c H locs cells slots Q (F0 m (pc) ls (.int (nI b) :: .int (nI a) :: rest)) :=
  lv_iand hx hb hdg (by rw [pk_andN (by omega) k hm]; exact kk)
theorem n_rem (hx : p.tables.exec = Jvm.exec) (hb : c.code = cc) {a b : Nat} (ha : a < 2147483648) (h0 : 0 < b) (hb2 : b < 2147483648) (hdg : decode cc pc = .ok (.irem, 1)) (kk : W p l e R s m args below meth c H locs cells slots Q (F0 m (pc + 1) ls (.int (nI (a % b)) :: rest))) : W p l e R s m args below meth c H locs cells slots Q (F0 m (pc) ls (.int (nI b) :: .int (nI a) :: rest)) :=
  lv_irem hx hb hdg (nI_ne0 h0 (by omega)) (by rw [pk_rem (by omega) h0 (by omega)]; exact kk)
theorem n_ltI {a b : Nat} (ha : a < 2147483648) (hb : b < 2147483648) : nI a < nI b ↔ a < b := nI_ltI (by omega) (by omega)
theorem n_leI {a b : Nat} (ha : a < 2147483648) (hb : b < 2147483648) : nI a ≤ nI b ↔ a ≤ b := nI_leI (by omega) (by omega)
theorem n_eqI {a b : Nat} (ha : a < 2147483648) (hb : b < 2147483648) : nI a = nI b ↔ a = b := nI_eq (by omega) (by omega)
theorem n_icmp_lt (hx : p.tables.exec = Jvm.exec) (hb : c.code = cc) {a b : Nat} (ha : a < 2147483648) (hb2 : b < 2147483648) {off : Int} {tgt : Nat} (hdg : decode cc pc = .ok (.if_icmp .lt off, 3)) (ht : (pc : Int) + off = (tgt : Int)) (kt : a < b → W p l e R s m args below meth c H locs cells slots Q (F0 m (tgt) ls (rest))) (kf : b ≤ a → W p l e R s m args below meth c H locs cells slots Q (F0 m (pc + 3) ls (rest))) : W p l e R s m args below meth c H locs cells slots Q (F0 m (pc) ls (.int (nI b) :: .int (nI a) :: rest)) :=
  lv_icmp_lt hx hb hdg ht (fun h => kt ((n_ltI ha hb2).mp h)) (fun h => kf (Nat.not_lt.mp (fun q => h ((n_ltI ha hb2).mpr q))))
theorem n_icmp_le (hx : p.tables.exec = Jvm.exec) (hb : c.code = cc) {a b : Nat} (ha : a < 2147483648) (hb2 : b < 2147483648) {off : Int} {tgt : Nat} (hdg : decode cc pc = .ok (.if_icmp .le off, 3)) (ht : (pc : Int) + off = (tgt : Int)) (kt : a ≤ b → W p l e R s m args below meth c H locs cells slots Q (F0 m (tgt) ls (rest))) (kf : b < a → W p l e R s m args below meth c H locs cells slots Q (F0 m (pc + 3) ls (rest))) : W p l e R s m args below meth c H locs cells slots Q (F0 m (pc) ls (.int (nI b) :: .int (nI a) :: rest)) :=
  lv_icmp_le hx hb hdg ht (fun h => kt ((n_leI ha hb2).mp h)) (fun h => kf (Nat.not_le.mp (fun q => h ((n_leI ha hb2).mpr q))))
theorem n_icmp_gt (hx : p.tables.exec = Jvm.exec) (hb : c.code = cc) {a b : Nat} (ha : a < 2147483648) (hb2 : b < 2147483648) {off : Int} {tgt : Nat} (hdg : decode cc pc = .ok (.if_icmp .gt off, 3)) (ht : (pc : Int) + off = (tgt : Int)) (kt : b < a → W p l e R s m args below meth c H locs cells slots Q (F0 m (tgt) ls (rest))) (kf : a ≤ b → W p l e R s m args below meth c H locs cells slots Q (F0 m (pc + 3) ls (rest))) : W p l e R s m args below meth c H locs cells slots Q (F0 m (pc) ls (.int (nI b) :: .int (nI a) :: rest)) :=
  lv_icmp_gt hx hb hdg ht (fun h => kt ((n_ltI hb2 ha).mp h)) (fun h => kf (Nat.not_lt.mp (fun q => h ((n_ltI hb2 ha).mpr q))))
theorem n_icmp_ge (hx : p.tables.exec = Jvm.exec) (hb : c.code = cc) {a b : Nat} (ha : a < 2147483648) (hb2 : b < 2147483648) {off : Int} {tgt : Nat} (hdg : decode cc pc = .ok (.if_icmp .ge off, 3)) (ht : (pc : Int) + off = (tgt : Int)) (kt : b ≤ a → W p l e R s m args below meth c H locs cells slots Q (F0 m (tgt) ls (rest))) (kf : a < b → W p l e R s m args below meth c H locs cells slots Q (F0 m (pc + 3) ls (rest))) : W p l e R s m args below meth c H locs cells slots Q (F0 m (pc) ls (.int (nI b) :: .int (nI a) :: rest)) :=
  lv_icmp_ge hx hb hdg ht (fun h => kt ((n_leI hb2 ha).mp h)) (fun h => kf (Nat.not_le.mp (fun q => h ((n_leI hb2 ha).mpr q))))
theorem n_icmp_eq (hx : p.tables.exec = Jvm.exec) (hb : c.code = cc) {a b : Nat} (ha : a < 2147483648) (hb2 : b < 2147483648) {off : Int} {tgt : Nat} (hdg : decode cc pc = .ok (.if_icmp .eq off, 3)) (ht : (pc : Int) + off = (tgt : Int)) (kt : a = b → W p l e R s m args below meth c H locs cells slots Q (F0 m (tgt) ls (rest))) (kf : a ≠ b → W p l e R s m args below meth c H locs cells slots Q (F0 m (pc + 3) ls (rest))) : W p l e R s m args below meth c H locs cells slots Q (F0 m (pc) ls (.int (nI b) :: .int (nI a) :: rest)) :=
  lv_icmp_eq hx hb hdg ht (fun h => kt ((n_eqI ha hb2).mp h)) (fun h => kf (fun q => h ((n_eqI ha hb2).mpr q)))
theorem n_icmp_ne (hx : p.tables.exec = Jvm.exec) (hb : c.code = cc) {a b : Nat} (ha : a < 2147483648) (hb2 : b < 2147483648) {off : Int} {tgt : Nat} (hdg : decode cc pc = .ok (.if_icmp .ne off, 3)) (ht : (pc : Int) + off = (tgt : Int)) (kt : a ≠ b → W p l e R s m args below meth c H locs cells slots Q (F0 m (tgt) ls (rest))) (kf : a = b → W p l e R s m args below meth c H locs cells slots Q (F0 m (pc + 3) ls (rest))) : W p l e R s m args below meth c H locs cells slots Q (F0 m (pc) ls (.int (nI b) :: .int (nI a) :: rest)) :=
  lv_icmp_ne hx hb hdg ht (fun h => kt (fun q => h ((n_eqI ha hb2).mpr q))) (fun h => kf ((n_eqI ha hb2).mp h))
theorem n_if_eq (hx : p.tables.exec = Jvm.exec) (hb : c.code = cc) {a : Nat} (ha : a < 2147483648) {off : Int} {tgt : Nat} (hdg : decode cc pc = .ok (.ifCond .eq off, 3)) (ht : (pc : Int) + off = (tgt : Int)) (kt : a = 0 → W p l e R s m args below meth c H locs cells slots Q (F0 m (tgt) ls (rest))) (kf : a ≠ 0 → W p l e R s m args below meth c H locs cells slots Q (F0 m (pc + 3) ls (rest))) : W p l e R s m args below meth c H locs cells slots Q (F0 m (pc) ls (.int (nI a) :: rest)) := by
  have e0 : (0 : Int32) = nI 0 := rfl
  have q0 : nI a = nI 0 ↔ a = 0 := n_eqI ha (by decide)
  have q1 : nI 0 < nI a ↔ 0 < a := n_ltI (by decide) ha
  have q2 : nI a ≤ nI 0 ↔ a ≤ 0 := n_leI ha (by decide)
  refine lv_if_eq hx hb hdg ht (fun h => kt ?_) (fun h => kf ?_) <;> (rw [e0] at h; first | (simp only [q0] at h; omega) | (simp only [q1] at h; omega) | (simp only [q2] at h; omega) | (simp only [ne_eq, q0] at h; omega))
theorem n_if_ne (hx : p.tables.exec = Jvm.exec) (hb : c.code = cc) {a : Nat} (ha : a < 2147483648) {off : Int} {tgt : Nat} (hdg : decode cc pc = .ok (.ifCond .ne off, 3)) (ht : (pc : Int) + off = (tgt : Int)) (kt : a ≠ 0 → W p l e R s m args below meth c H locs cells slots Q (F0 m (tgt) ls (rest))) (kf : a = 0 → W p l e R s m args below meth c H locs cells slots Q (F0 m (pc + 3) ls (rest))) : W p l e R s m args below meth c H locs cells slots Q (F0 m (pc) ls (.int (nI a) :: rest)) := by
  have e0 : (0 : Int32) = nI 0 := rfl
  have q0 : nI a = nI 0 ↔ a = 0 := n_eqI ha (by decide)
  have q1 : nI 0 < nI a ↔ 0 < a := n_ltI (by decide) ha
  have q2 : nI a ≤ nI 0 ↔ a ≤ 0 := n_leI ha (by decide)
  refine lv_if_ne hx hb hdg ht (fun h => kt ?_) (fun h => kf ?_) <;> (rw [e0] at h; first | (simp only [q0] at h; omega) | (simp only [q1] at h; omega) | (simp only [q2] at h; omega) | (simp only [ne_eq, q0] at h; omega))
theorem n_if_gt (hx : p.tables.exec = Jvm.exec) (hb : c.code = cc) {a : Nat} (ha : a < 2147483648) {off : Int} {tgt : Nat} (hdg : decode cc pc = .ok (.ifCond .gt off, 3)) (ht : (pc : Int) + off = (tgt : Int)) (kt : 0 < a → W p l e R s m args below meth c H locs cells slots Q (F0 m (tgt) ls (rest))) (kf : a = 0 → W p l e R s m args below meth c H locs cells slots Q (F0 m (pc + 3) ls (rest))) : W p l e R s m args below meth c H locs cells slots Q (F0 m (pc) ls (.int (nI a) :: rest)) := by
  have e0 : (0 : Int32) = nI 0 := rfl
  have q0 : nI a = nI 0 ↔ a = 0 := n_eqI ha (by decide)
  have q1 : nI 0 < nI a ↔ 0 < a := n_ltI (by decide) ha
  have q2 : nI a ≤ nI 0 ↔ a ≤ 0 := n_leI ha (by decide)
  refine lv_if_gt hx hb hdg ht (fun h => kt ?_) (fun h => kf ?_) <;> (rw [e0] at h; first | (simp only [q0] at h; omega) | (simp only [q1] at h; omega) | (simp only [q2] at h; omega) | (simp only [ne_eq, q0] at h; omega))
theorem n_if_le (hx : p.tables.exec = Jvm.exec) (hb : c.code = cc) {a : Nat} (ha : a < 2147483648) {off : Int} {tgt : Nat} (hdg : decode cc pc = .ok (.ifCond .le off, 3)) (ht : (pc : Int) + off = (tgt : Int)) (kt : a = 0 → W p l e R s m args below meth c H locs cells slots Q (F0 m (tgt) ls (rest))) (kf : 0 < a → W p l e R s m args below meth c H locs cells slots Q (F0 m (pc + 3) ls (rest))) : W p l e R s m args below meth c H locs cells slots Q (F0 m (pc) ls (.int (nI a) :: rest)) := by
  have e0 : (0 : Int32) = nI 0 := rfl
  have q0 : nI a = nI 0 ↔ a = 0 := n_eqI ha (by decide)
  have q1 : nI 0 < nI a ↔ 0 < a := n_ltI (by decide) ha
  have q2 : nI a ≤ nI 0 ↔ a ≤ 0 := n_leI ha (by decide)
  refine lv_if_le hx hb hdg ht (fun h => kt ?_) (fun h => kf ?_) <;> (rw [e0] at h; first | (simp only [q0] at h; omega) | (simp only [q1] at h; omega) | (simp only [q2] at h; omega) | (simp only [ne_eq, q0] at h; omega))
theorem n_if_lt (hx : p.tables.exec = Jvm.exec) (hb : c.code = cc) {a : Nat} (ha : a < 2147483648) {off : Int} {tgt : Nat} (hdg : decode cc pc = .ok (.ifCond .lt off, 3)) (ht : (pc : Int) + off = (tgt : Int)) (kf : W p l e R s m args below meth c H locs cells slots Q (F0 m (pc + 3) ls (rest))) : W p l e R s m args below meth c H locs cells slots Q (F0 m (pc) ls (.int (nI a) :: rest)) :=
  lv_if_lt hx hb hdg ht (fun h => absurd h (nI_pos (by omega))) (fun _ => kf)
theorem n_if_ge (hx : p.tables.exec = Jvm.exec) (hb : c.code = cc) {a : Nat} (ha : a < 2147483648) {off : Int} {tgt : Nat} (hdg : decode cc pc = .ok (.ifCond .ge off, 3)) (ht : (pc : Int) + off = (tgt : Int)) (kt : W p l e R s m args below meth c H locs cells slots Q (F0 m (tgt) ls (rest))) : W p l e R s m args below meth c H locs cells slots Q (F0 m (pc) ls (.int (nI a) :: rest)) :=
  lv_if_ge hx hb hdg ht (fun _ => kt) (fun h => absurd (nI_pos' (by omega)) h)
theorem n_max (hx : p.tables.exec = Jvm.exec) (hb : c.code = cc) (hml : c.maxLocals = ls.size) {own : String} {index : Nat} (hown : s.vm.findClass own = some m.cls) (hlink : (Cond.methodLink own index Lib.Math.max.name).before args s = true) (hstat : (Cond.static Lib.Math.max.name).before args s = true) (hini : (Cond.initialized "java/lang/Math").before args s = true) (hcode : (Cond.code Lib.Math.max.name Lib.Math.max.code 2 (some .int)).before args s = true) (hframes : 1 ≤ R.frames) (hlocals : (rest.map fun v => v.category).sum + 13 ≤ R.locals) (hc : cells ≤ R.cells) (hs : slots ≤ R.slots) {a b : Nat} (ha : a < 2147483648) (hb2 : b < 2147483648) (hdg : decode cc pc = .ok (.invokestatic index, 3)) (kk : W p l e R s m args below meth c H locs cells slots Q (F0 m (pc + 3) ls (.int (nI (max a b)) :: rest))) : W p l e R s m args below meth c H locs cells slots Q (F0 m (pc) ls (.int (nI b) :: .int (nI a) :: rest)) := by
  have q : (if nI a < nI b then nI b else nI a) = nI (max a b) := by
    by_cases h : a < b
    · rw [if_pos ((n_ltI ha hb2).mpr h), Nat.max_eq_right (by omega)]
    · rw [if_neg (fun z => h ((n_ltI ha hb2).mp z)), Nat.max_eq_left (by omega)]
  exact va_mmax hx hb hml hown hlink hstat hini hcode hframes hlocals hc hs hdg (by rw [q]; exact kk)
theorem n_w  {a b : Nat} (h : a = b) {st : List Value} (k : W p l e R s m args below meth c H locs cells slots Q (F0 m (pc) ls (.int (nI b) :: st))) : W p l e R s m args below meth c H locs cells slots Q (F0 m (pc) ls (.int (nI a) :: st)) := by rw [h]; exact k
end VB
/-- numbers and longs that a state holds: by field, then by place -/
def uN (N : Nat → Nat → Nat) (f i v : Nat) : Nat → Nat → Nat := fun g => if g = f then (fun j => if j = i then v else N g j) else N g
def uJ (J : Nat → Nat → Int64) (f i : Nat) (v : Int64) : Nat → Nat → Int64 := fun g => if g = f then (fun j => if j = i then v else J g j) else J g
theorem uN_o {N : Nat → Nat → Nat} {f i v g : Nat} (h : g ≠ f) : uN N f i v g = N g := if_neg h
theorem uN_s (N : Nat → Nat → Nat) (f i v j : Nat) : uN N f i v f j = if j = i then v else N f j := by unfold uN; rw [if_pos rfl]
theorem uN_h (N : Nat → Nat → Nat) (f i v : Nat) : uN N f i v f i = v := by rw [uN_s, if_pos rfl]
theorem uN_n {N : Nat → Nat → Nat} {f i v j : Nat} (h : j ≠ i) : uN N f i v f j = N f j := by rw [uN_s, if_neg h]
theorem uJ_o {J : Nat → Nat → Int64} {f i g : Nat} {v : Int64} (h : g ≠ f) : uJ J f i v g = J g := if_neg h
theorem uJ_s (J : Nat → Nat → Int64) (f i : Nat) (v : Int64) (j : Nat) : uJ J f i v f j = if j = i then v else J f j := by unfold uJ; rw [if_pos rfl]
theorem uJ_h (J : Nat → Nat → Int64) (f i : Nat) (v : Int64) : uJ J f i v f i = v := by rw [uJ_s, if_pos rfl]
theorem uJ_n {J : Nat → Nat → Int64} {f i j : Nat} {v : Int64} (h : j ≠ i) : uJ J f i v f j = J f j := by rw [uJ_s, if_neg h]
theorem uN_f (N : Nat → Nat → Nat) (f i v : Nat) : (fun j => nI (uN N f i v f j)) = upd (fun j => nI (N f j)) i (nI v) := by
  funext j
  show nI (uN N f i v f j) = if j = i then nI v else nI (N f j)
  rw [uN_s]
  by_cases h : j = i
  · rw [if_pos h, if_pos h]
  · rw [if_neg h, if_neg h]
theorem uJ_f (J : Nat → Nat → Int64) (f i : Nat) (v : Int64) : (fun j => uJ J f i v f j) = vp_updL (fun j => J f j) i v := by
  funext j
  show uJ J f i v f j = if j = i then v else J f j
  rw [uJ_s]
def mW (a : Nat → Nat) (cI cL cZ : ClassId) (N : Nat → Nat → Nat) (J : Nat → Nat → Int64) : va_W := [
  (a 0, .inr (4, [.ref (a 1), .ref (a 2), .ref (a 3), .int (nI (N 3 0)), .ref (a 4), .ref (a 5), .ref (a 6), .ref (a 7), .int (nI (N 8 0)), .ref (a 8), .ref (a 9), .int (nI (N 11 0)), .int (nI (N 12 0)), .int (nI (N 13 0)), .int (nI (N 14 0)), .int (nI (N 15 0)), .int (nI (N 16 0)), .int (nI (N 17 0)), .ref (a 10), .ref (a 11), .ref (a 12), .ref (a 13), .ref (a 14), .ref (a 15), .ref (a 16), .ref (a 17), .int (nI (N 26 0))])),
  (a 1, .inl (cI, 1024, .inl (fun j => nI (N 0 j)))),
  (a 2, .inl (cI, 6, .inl (fun j => nI (N 1 j)))),
  (a 3, .inl (cI, 6, .inl (fun j => nI (N 2 j)))),
  (a 4, .inl (cL, 16, .inr (.inl (fun j => J 4 j)))),
  (a 5, .inl (cL, 256, .inr (.inl (fun j => J 5 j)))),
  (a 6, .inl (cL, 16, .inr (.inl (fun j => J 6 j)))),
  (a 7, .inl (cL, 256, .inr (.inl (fun j => J 7 j)))),
  (a 8, .inl (cL, 16, .inr (.inl (fun j => J 9 j)))),
  (a 9, .inl (cL, 256, .inr (.inl (fun j => J 10 j)))),
  (a 10, .inl (cI, 3, .inl (fun j => nI (N 18 j)))),
  (a 11, .inl (cI, 16, .inl (fun j => nI (N 19 j)))),
  (a 12, .inl (cI, 16, .inl (fun j => nI (N 20 j)))),
  (a 13, .inl (cI, 16, .inl (fun j => nI (N 21 j)))),
  (a 14, .inl (cI, 126, .inl (fun j => nI (N 22 j)))),
  (a 15, .inl (cL, 18, .inr (.inl (fun j => J 23 j)))),
  (a 16, .inl (cZ, 18, .inl (fun j => nI (N 24 j)))),
  (a 17, .inl (cI, 384, .inl (fun j => nI (N 25 j))))]
def mL (a : Nat → Nat) : List Nat := [a 0, a 1, a 2, a 3, a 4, a 5, a 6, a 7, a 8, a 9, a 10, a 11, a 12, a 13, a 14, a 15, a 16, a 17]
def xW (a : Nat → Nat) (cI cL cZ : ClassId) (N : Nat → Nat → Nat) (J : Nat → Nat → Int64) : va_W := [
  (a 0, .inr (3, [.ref (a 1), .ref (a 2), .ref (a 3)])),
  (a 1, .inr (2, [.ref (a 4), .ref (a 5), .ref (a 6), .ref (a 7), .ref (a 8), .ref (a 9), .ref (a 10), .ref (a 11), .int (nI (N 8 0))])),
  (a 2, .inr (1, [.ref (a 1), .ref (a 12), .ref (a 13), .int (nI (N 13 0))])),
  (a 3, .inr (0, [.ref (a 1), .ref (a 2), .int (nI (N 22 0)), .int (nI (N 23 0)), .int (nI (N 24 0)), .ref (a 14), .ref (a 15), .ref (a 16), .ref (a 17), .ref (a 18), .int (nI (N 30 0)), .int (nI (N 31 0)), .long (J 32 0), .int (nI (N 33 0)), .int (nI (N 34 0)), .ref (a 19), .ref (a 20), .ref (a 21)])),
  (a 4, .inl (cI, 256, .inl (fun j => nI (N 0 j)))),
  (a 5, .inl (cI, 256, .inl (fun j => nI (N 1 j)))),
  (a 6, .inl (cI, 256, .inl (fun j => nI (N 2 j)))),
  (a 7, .inl (cI, 256, .inl (fun j => nI (N 3 j)))),
  (a 8, .inl (cI, 6, .inl (fun j => nI (N 4 j)))),
  (a 9, .inl (cI, 6, .inl (fun j => nI (N 5 j)))),
  (a 10, .inl (cL, 16, .inr (.inl (fun j => J 6 j)))),
  (a 11, .inl (cL, 256, .inr (.inl (fun j => J 7 j)))),
  (a 12, .inl (cL, 16, .inr (.inl (fun j => J 11 j)))),
  (a 13, .inl (cL, 256, .inr (.inl (fun j => J 12 j)))),
  (a 14, .inl (cI, 4, .inl (fun j => nI (N 25 j)))),
  (a 15, .inl (cI, 16, .inl (fun j => nI (N 26 j)))),
  (a 16, .inl (cI, 16, .inl (fun j => nI (N 27 j)))),
  (a 17, .inl (cL, 16, .inr (.inl (fun j => J 28 j)))),
  (a 18, .inl (cI, 16, .inl (fun j => nI (N 29 j)))),
  (a 19, .inl (cI, 6, .inl (fun j => nI (N 35 j)))),
  (a 20, .inl (cI, 108, .inl (fun j => nI (N 36 j)))),
  (a 21, .inl (cI, 384, .inl (fun j => nI (N 37 j))))]
def xL (a : Nat → Nat) : List Nat := [a 0, a 1, a 2, a 3, a 4, a 5, a 6, a 7, a 8, a 9, a 10, a 11, a 12, a 13, a 14, a 15, a 16, a 17, a 18, a 19, a 20, a 21]
def gT (cI cL cZ : ClassId) : List (ClassId × FieldType) := [(cI, .int), (cL, .long), (cZ, .boolean)]
section VW
variable {p : Program} {l : Launch} {e : Env} {R : Room} {s : State} {m : MethodId} {args : Array Value} {below : List Frame} {meth : Method} {c : Code} {H : Heap} {locs : List Loc} {cells slots : Nat} {Q : State → Prop}
variable {cc : ByteArray} {pc : Nat} {ls : Array Slot} {rest : List Value}
variable {dC : Nat → ClassId} {dI : Nat → Nat → Nat} {a : Nat → Nat} {cI cL cZ : ClassId} {N : Nat → Nat → Nat} {J : Nat → Nat → Int64} {A : Nat → Prop} {H0 : Heap}
theorem mg_0 (hx : p.tables.exec = Jvm.exec) (hb : c.code = cc) {own : String} {index : Nat} {Ts : List Cond} (hts : ∀ w ∈ Ts, w.before args s = true) (hin : ∀ w ∈ wsX40, w ∈ Ts) (hown : s.vm.findClass own = some m.cls) (hK : va_K (dC, dI) vwCl (gT cI cL cZ) s) (hP : va_P (dC, dI) vwCl (mW a cI cL cZ N J) H) (hlink : (Cond.fieldLink own index "ScoreMachineModel" "program" "[I").before args s = true) (hdg : decode cc pc = .ok (.getfield index, 3)) (kk : W p l e R s m args below meth c H locs cells slots Q (F0 m (pc + 3) ls (.ref (a 1) :: rest))) : W p l e R s m args below meth c H locs cells slots Q (F0 m (pc) ls (.ref (a 0) :: rest)) :=
  va_get (D := (dC, dI)) (ci := 4) (C := RX4) (T := TX4) (N := 27) (v := .ref (a 1)) hx hb hts hin hown hK hP 0 rfl rfl 0 (by decide) hlink (fun _ h9 => h9) rfl hdg kk
theorem ml_0 (hx : p.tables.exec = Jvm.exec) (hb : c.code = cc) (hK : va_K (dC, dI) vwCl (gT cI cL cZ) s) (hP : va_P (dC, dI) vwCl (mW a cI cL cZ N J) H) {i : Nat} (hi : i < 1024) {v : Nat} (hv : N 0 i = v) (hdg : decode cc pc = .ok (.iaload, 1)) (kk : W p l e R s m args below meth c H locs cells slots Q (F0 m (pc + 1) ls (.int (nI v) :: rest))) : W p l e R s m args below meth c H locs cells slots Q (F0 m (pc) ls (.int (nI i) :: .ref (a 1) :: rest)) := by
  subst hv
  exact va_iald hx hb hK hP 1 0 rfl rfl (vp_in_nI hi (by decide)) hdg (by rw [nI_clamp (by omega)]; exact kk)
theorem ms_0 (hx : p.tables.exec = Jvm.exec) (hb : c.code = cc) (hK : va_K (dC, dI) vwCl (gT cI cL cZ) s) (hP : va_P (dC, dI) vwCl (mW a cI cL cZ N J) H) (hD : va_D A (mW a cI cL cZ N J)) (hS : va_S A H0 H locs) {i : Nat} {v : Nat} (hi : i < 1024) (hdg : decode cc pc = .ok (.iastore, 1)) (kk : ∀ (H1 : Heap) (locs1 : List Loc), va_P (dC, dI) vwCl (mW a cI cL cZ (uN N 0 i v) J) H1 → va_D A (mW a cI cL cZ (uN N 0 i v) J) → va_S A H0 H1 locs1 → W p l e R s m args below meth c H1 locs1 cells slots Q (F0 m (pc + 1) ls rest)) : W p l e R s m args below meth c H locs cells slots Q (F0 m (pc) ls (.int (nI v) :: .int (nI i) :: .ref (a 1) :: rest)) := by
  have e1 : (mW a cI cL cZ N J).set 1 (a 1, .inl (cI, 1024, .inl (upd (fun j => nI (N 0 j)) i (nI v)))) = mW a cI cL cZ (uN N 0 i v) J := by rw [← uN_f N 0 i v]; rfl
  rw [← e1] at kk
  exact va_iast hx hb hK hP hD hS 1 0 rfl rfl (vp_in_nI hi (by decide)) hdg (by rw [nI_clamp (by omega)]; exact kk)
theorem mg_1 (hx : p.tables.exec = Jvm.exec) (hb : c.code = cc) {own : String} {index : Nat} {Ts : List Cond} (hts : ∀ w ∈ Ts, w.before args s = true) (hin : ∀ w ∈ wsX40, w ∈ Ts) (hown : s.vm.findClass own = some m.cls) (hK : va_K (dC, dI) vwCl (gT cI cL cZ) s) (hP : va_P (dC, dI) vwCl (mW a cI cL cZ N J) H) (hlink : (Cond.fieldLink own index "ScoreMachineModel" "units" "[I").before args s = true) (hdg : decode cc pc = .ok (.getfield index, 3)) (kk : W p l e R s m args below meth c H locs cells slots Q (F0 m (pc + 3) ls (.ref (a 2) :: rest))) : W p l e R s m args below meth c H locs cells slots Q (F0 m (pc) ls (.ref (a 0) :: rest)) :=
  va_get (D := (dC, dI)) (ci := 4) (C := RX4) (T := TX4) (N := 27) (v := .ref (a 2)) hx hb hts hin hown hK hP 0 rfl rfl 1 (by decide) hlink (fun _ h9 => h9) rfl hdg kk
theorem ml_1 (hx : p.tables.exec = Jvm.exec) (hb : c.code = cc) (hK : va_K (dC, dI) vwCl (gT cI cL cZ) s) (hP : va_P (dC, dI) vwCl (mW a cI cL cZ N J) H) {i : Nat} (hi : i < 6) {v : Nat} (hv : N 1 i = v) (hdg : decode cc pc = .ok (.iaload, 1)) (kk : W p l e R s m args below meth c H locs cells slots Q (F0 m (pc + 1) ls (.int (nI v) :: rest))) : W p l e R s m args below meth c H locs cells slots Q (F0 m (pc) ls (.int (nI i) :: .ref (a 2) :: rest)) := by
  subst hv
  exact va_iald hx hb hK hP 2 0 rfl rfl (vp_in_nI hi (by decide)) hdg (by rw [nI_clamp (by omega)]; exact kk)
theorem ms_1 (hx : p.tables.exec = Jvm.exec) (hb : c.code = cc) (hK : va_K (dC, dI) vwCl (gT cI cL cZ) s) (hP : va_P (dC, dI) vwCl (mW a cI cL cZ N J) H) (hD : va_D A (mW a cI cL cZ N J)) (hS : va_S A H0 H locs) {i : Nat} {v : Nat} (hi : i < 6) (hdg : decode cc pc = .ok (.iastore, 1)) (kk : ∀ (H1 : Heap) (locs1 : List Loc), va_P (dC, dI) vwCl (mW a cI cL cZ (uN N 1 i v) J) H1 → va_D A (mW a cI cL cZ (uN N 1 i v) J) → va_S A H0 H1 locs1 → W p l e R s m args below meth c H1 locs1 cells slots Q (F0 m (pc + 1) ls rest)) : W p l e R s m args below meth c H locs cells slots Q (F0 m (pc) ls (.int (nI v) :: .int (nI i) :: .ref (a 2) :: rest)) := by
  have e1 : (mW a cI cL cZ N J).set 2 (a 2, .inl (cI, 6, .inl (upd (fun j => nI (N 1 j)) i (nI v)))) = mW a cI cL cZ (uN N 1 i v) J := by rw [← uN_f N 1 i v]; rfl
  rw [← e1] at kk
  exact va_iast hx hb hK hP hD hS 2 0 rfl rfl (vp_in_nI hi (by decide)) hdg (by rw [nI_clamp (by omega)]; exact kk)
theorem mg_2 (hx : p.tables.exec = Jvm.exec) (hb : c.code = cc) {own : String} {index : Nat} {Ts : List Cond} (hts : ∀ w ∈ Ts, w.before args s = true) (hin : ∀ w ∈ wsX40, w ∈ Ts) (hown : s.vm.findClass own = some m.cls) (hK : va_K (dC, dI) vwCl (gT cI cL cZ) s) (hP : va_P (dC, dI) vwCl (mW a cI cL cZ N J) H) (hlink : (Cond.fieldLink own index "ScoreMachineModel" "latencies" "[I").before args s = true) (hdg : decode cc pc = .ok (.getfield index, 3)) (kk : W p l e R s m args below meth c H locs cells slots Q (F0 m (pc + 3) ls (.ref (a 3) :: rest))) : W p l e R s m args below meth c H locs cells slots Q (F0 m (pc) ls (.ref (a 0) :: rest)) :=
  va_get (D := (dC, dI)) (ci := 4) (C := RX4) (T := TX4) (N := 27) (v := .ref (a 3)) hx hb hts hin hown hK hP 0 rfl rfl 2 (by decide) hlink (fun _ h9 => h9) rfl hdg kk
theorem ml_2 (hx : p.tables.exec = Jvm.exec) (hb : c.code = cc) (hK : va_K (dC, dI) vwCl (gT cI cL cZ) s) (hP : va_P (dC, dI) vwCl (mW a cI cL cZ N J) H) {i : Nat} (hi : i < 6) {v : Nat} (hv : N 2 i = v) (hdg : decode cc pc = .ok (.iaload, 1)) (kk : W p l e R s m args below meth c H locs cells slots Q (F0 m (pc + 1) ls (.int (nI v) :: rest))) : W p l e R s m args below meth c H locs cells slots Q (F0 m (pc) ls (.int (nI i) :: .ref (a 3) :: rest)) := by
  subst hv
  exact va_iald hx hb hK hP 3 0 rfl rfl (vp_in_nI hi (by decide)) hdg (by rw [nI_clamp (by omega)]; exact kk)
theorem ms_2 (hx : p.tables.exec = Jvm.exec) (hb : c.code = cc) (hK : va_K (dC, dI) vwCl (gT cI cL cZ) s) (hP : va_P (dC, dI) vwCl (mW a cI cL cZ N J) H) (hD : va_D A (mW a cI cL cZ N J)) (hS : va_S A H0 H locs) {i : Nat} {v : Nat} (hi : i < 6) (hdg : decode cc pc = .ok (.iastore, 1)) (kk : ∀ (H1 : Heap) (locs1 : List Loc), va_P (dC, dI) vwCl (mW a cI cL cZ (uN N 2 i v) J) H1 → va_D A (mW a cI cL cZ (uN N 2 i v) J) → va_S A H0 H1 locs1 → W p l e R s m args below meth c H1 locs1 cells slots Q (F0 m (pc + 1) ls rest)) : W p l e R s m args below meth c H locs cells slots Q (F0 m (pc) ls (.int (nI v) :: .int (nI i) :: .ref (a 3) :: rest)) := by
  have e1 : (mW a cI cL cZ N J).set 3 (a 3, .inl (cI, 6, .inl (upd (fun j => nI (N 2 j)) i (nI v)))) = mW a cI cL cZ (uN N 2 i v) J := by rw [← uN_f N 2 i v]; rfl
  rw [← e1] at kk
  exact va_iast hx hb hK hP hD hS 3 0 rfl rfl (vp_in_nI hi (by decide)) hdg (by rw [nI_clamp (by omega)]; exact kk)
theorem mg_3 (hx : p.tables.exec = Jvm.exec) (hb : c.code = cc) {own : String} {index : Nat} {Ts : List Cond} (hts : ∀ w ∈ Ts, w.before args s = true) (hin : ∀ w ∈ wsX40, w ∈ Ts) (hown : s.vm.findClass own = some m.cls) (hK : va_K (dC, dI) vwCl (gT cI cL cZ) s) (hP : va_P (dC, dI) vwCl (mW a cI cL cZ N J) H) (hlink : (Cond.fieldLink own index "ScoreMachineModel" "width" "I").before args s = true) {v : Nat} (hv : N 3 0 = v) (hdg : decode cc pc = .ok (.getfield index, 3)) (kk : W p l e R s m args below meth c H locs cells slots Q (F0 m (pc + 3) ls (.int (nI v) :: rest))) : W p l e R s m args below meth c H locs cells slots Q (F0 m (pc) ls (.ref (a 0) :: rest)) :=
  va_get (D := (dC, dI)) (ci := 4) (C := RX4) (T := TX4) (N := 27) (v := .int (nI v)) hx hb hts hin hown hK hP 0 rfl rfl 3 (by decide) hlink (fun _ h9 => h9) (by rw [← hv]; rfl) hdg kk
theorem mp_3 (hx : p.tables.exec = Jvm.exec) (hb : c.code = cc) {own : String} {index : Nat} {Ts : List Cond} (hts : ∀ w ∈ Ts, w.before args s = true) (hin : ∀ w ∈ wsX40, w ∈ Ts) (hown : s.vm.findClass own = some m.cls) (hK : va_K (dC, dI) vwCl (gT cI cL cZ) s) (hP : va_P (dC, dI) vwCl (mW a cI cL cZ N J) H) (hD : va_D A (mW a cI cL cZ N J)) (hS : va_S A H0 H locs) (hlink : (Cond.fieldLink own index "ScoreMachineModel" "width" "I").before args s = true) {v : Nat} (hdg : decode cc pc = .ok (.putfield index, 3)) (kk : ∀ (H1 : Heap) (locs1 : List Loc), va_P (dC, dI) vwCl (mW a cI cL cZ (uN N 3 0 v) J) H1 → va_D A (mW a cI cL cZ (uN N 3 0 v) J) → va_S A H0 H1 locs1 → W p l e R s m args below meth c H1 locs1 cells slots Q (F0 m (pc + 3) ls rest)) : W p l e R s m args below meth c H locs cells slots Q (F0 m (pc) ls (.int (nI v) :: .ref (a 0) :: rest)) :=
  va_put (D := (dC, dI)) (ci := 4) (v := .int (nI v)) (ty := .int) (C := RX4) (T := TX4) (N := 27) hx hb hts hin tyX4 tyX4_ok nmX4 hown hK hP hD hS 0 rfl rfl 3 (by decide) hlink (fun _ h9 => h9) rfl (by decide +kernel) rfl rfl (Nat.le_of_ble_eq_true rfl) hdg (fun H1 locs1 q1 q2 q3 => kk H1 locs1 q1 q2 q3)
theorem mg_4 (hx : p.tables.exec = Jvm.exec) (hb : c.code = cc) {own : String} {index : Nat} {Ts : List Cond} (hts : ∀ w ∈ Ts, w.before args s = true) (hin : ∀ w ∈ wsX40, w ∈ Ts) (hown : s.vm.findClass own = some m.cls) (hK : va_K (dC, dI) vwCl (gT cI cL cZ) s) (hP : va_P (dC, dI) vwCl (mW a cI cL cZ N J) H) (hlink : (Cond.fieldLink own index "ScoreMachineModel" "firstRegisters" "[J").before args s = true) (hdg : decode cc pc = .ok (.getfield index, 3)) (kk : W p l e R s m args below meth c H locs cells slots Q (F0 m (pc + 3) ls (.ref (a 4) :: rest))) : W p l e R s m args below meth c H locs cells slots Q (F0 m (pc) ls (.ref (a 0) :: rest)) :=
  va_get (D := (dC, dI)) (ci := 4) (C := RX4) (T := TX4) (N := 27) (v := .ref (a 4)) hx hb hts hin hown hK hP 0 rfl rfl 4 (by decide) hlink (fun _ h9 => h9) rfl hdg kk
theorem ml_4 (hx : p.tables.exec = Jvm.exec) (hb : c.code = cc) (hK : va_K (dC, dI) vwCl (gT cI cL cZ) s) (hP : va_P (dC, dI) vwCl (mW a cI cL cZ N J) H) {i : Nat} (hi : i < 16) {v : Int64} (hv : J 4 i = v) (hdg : decode cc pc = .ok (.laload, 1)) (kk : W p l e R s m args below meth c H locs cells slots Q (F0 m (pc + 1) ls (.long v :: rest))) : W p l e R s m args below meth c H locs cells slots Q (F0 m (pc) ls (.int (nI i) :: .ref (a 4) :: rest)) := by
  subst hv
  exact va_lald hx hb hK hP 4 1 rfl rfl (vp_in_nI hi (by decide)) hdg (by rw [nI_clamp (by omega)]; exact kk)
theorem ms_4 (hx : p.tables.exec = Jvm.exec) (hb : c.code = cc) (hK : va_K (dC, dI) vwCl (gT cI cL cZ) s) (hP : va_P (dC, dI) vwCl (mW a cI cL cZ N J) H) (hD : va_D A (mW a cI cL cZ N J)) (hS : va_S A H0 H locs) {i : Nat} {v : Int64} (hi : i < 16) (hdg : decode cc pc = .ok (.lastore, 1)) (kk : ∀ (H1 : Heap) (locs1 : List Loc), va_P (dC, dI) vwCl (mW a cI cL cZ N (uJ J 4 i v)) H1 → va_D A (mW a cI cL cZ N (uJ J 4 i v)) → va_S A H0 H1 locs1 → W p l e R s m args below meth c H1 locs1 cells slots Q (F0 m (pc + 1) ls rest)) : W p l e R s m args below meth c H locs cells slots Q (F0 m (pc) ls (.long v :: .int (nI i) :: .ref (a 4) :: rest)) := by
  have e1 : (mW a cI cL cZ N J).set 4 (a 4, .inl (cL, 16, .inr (.inl (vp_updL (fun j => J 4 j) i v)))) = mW a cI cL cZ N (uJ J 4 i v) := by rw [← uJ_f J 4 i v]; rfl
  rw [← e1] at kk
  exact va_last hx hb hK hP hD hS 4 1 rfl rfl (vp_in_nI hi (by decide)) hdg (by rw [nI_clamp (by omega)]; exact kk)
theorem mg_5 (hx : p.tables.exec = Jvm.exec) (hb : c.code = cc) {own : String} {index : Nat} {Ts : List Cond} (hts : ∀ w ∈ Ts, w.before args s = true) (hin : ∀ w ∈ wsX40, w ∈ Ts) (hown : s.vm.findClass own = some m.cls) (hK : va_K (dC, dI) vwCl (gT cI cL cZ) s) (hP : va_P (dC, dI) vwCl (mW a cI cL cZ N J) H) (hlink : (Cond.fieldLink own index "ScoreMachineModel" "firstMemory" "[J").before args s = true) (hdg : decode cc pc = .ok (.getfield index, 3)) (kk : W p l e R s m args below meth c H locs cells slots Q (F0 m (pc + 3) ls (.ref (a 5) :: rest))) : W p l e R s m args below meth c H locs cells slots Q (F0 m (pc) ls (.ref (a 0) :: rest)) :=
  va_get (D := (dC, dI)) (ci := 4) (C := RX4) (T := TX4) (N := 27) (v := .ref (a 5)) hx hb hts hin hown hK hP 0 rfl rfl 5 (by decide) hlink (fun _ h9 => h9) rfl hdg kk
theorem ml_5 (hx : p.tables.exec = Jvm.exec) (hb : c.code = cc) (hK : va_K (dC, dI) vwCl (gT cI cL cZ) s) (hP : va_P (dC, dI) vwCl (mW a cI cL cZ N J) H) {i : Nat} (hi : i < 256) {v : Int64} (hv : J 5 i = v) (hdg : decode cc pc = .ok (.laload, 1)) (kk : W p l e R s m args below meth c H locs cells slots Q (F0 m (pc + 1) ls (.long v :: rest))) : W p l e R s m args below meth c H locs cells slots Q (F0 m (pc) ls (.int (nI i) :: .ref (a 5) :: rest)) := by
  subst hv
  exact va_lald hx hb hK hP 5 1 rfl rfl (vp_in_nI hi (by decide)) hdg (by rw [nI_clamp (by omega)]; exact kk)
theorem ms_5 (hx : p.tables.exec = Jvm.exec) (hb : c.code = cc) (hK : va_K (dC, dI) vwCl (gT cI cL cZ) s) (hP : va_P (dC, dI) vwCl (mW a cI cL cZ N J) H) (hD : va_D A (mW a cI cL cZ N J)) (hS : va_S A H0 H locs) {i : Nat} {v : Int64} (hi : i < 256) (hdg : decode cc pc = .ok (.lastore, 1)) (kk : ∀ (H1 : Heap) (locs1 : List Loc), va_P (dC, dI) vwCl (mW a cI cL cZ N (uJ J 5 i v)) H1 → va_D A (mW a cI cL cZ N (uJ J 5 i v)) → va_S A H0 H1 locs1 → W p l e R s m args below meth c H1 locs1 cells slots Q (F0 m (pc + 1) ls rest)) : W p l e R s m args below meth c H locs cells slots Q (F0 m (pc) ls (.long v :: .int (nI i) :: .ref (a 5) :: rest)) := by
  have e1 : (mW a cI cL cZ N J).set 5 (a 5, .inl (cL, 256, .inr (.inl (vp_updL (fun j => J 5 j) i v)))) = mW a cI cL cZ N (uJ J 5 i v) := by rw [← uJ_f J 5 i v]; rfl
  rw [← e1] at kk
  exact va_last hx hb hK hP hD hS 5 1 rfl rfl (vp_in_nI hi (by decide)) hdg (by rw [nI_clamp (by omega)]; exact kk)
theorem mg_6 (hx : p.tables.exec = Jvm.exec) (hb : c.code = cc) {own : String} {index : Nat} {Ts : List Cond} (hts : ∀ w ∈ Ts, w.before args s = true) (hin : ∀ w ∈ wsX40, w ∈ Ts) (hown : s.vm.findClass own = some m.cls) (hK : va_K (dC, dI) vwCl (gT cI cL cZ) s) (hP : va_P (dC, dI) vwCl (mW a cI cL cZ N J) H) (hlink : (Cond.fieldLink own index "ScoreMachineModel" "plainRegisters" "[J").before args s = true) (hdg : decode cc pc = .ok (.getfield index, 3)) (kk : W p l e R s m args below meth c H locs cells slots Q (F0 m (pc + 3) ls (.ref (a 6) :: rest))) : W p l e R s m args below meth c H locs cells slots Q (F0 m (pc) ls (.ref (a 0) :: rest)) :=
  va_get (D := (dC, dI)) (ci := 4) (C := RX4) (T := TX4) (N := 27) (v := .ref (a 6)) hx hb hts hin hown hK hP 0 rfl rfl 6 (by decide) hlink (fun _ h9 => h9) rfl hdg kk
theorem ml_6 (hx : p.tables.exec = Jvm.exec) (hb : c.code = cc) (hK : va_K (dC, dI) vwCl (gT cI cL cZ) s) (hP : va_P (dC, dI) vwCl (mW a cI cL cZ N J) H) {i : Nat} (hi : i < 16) {v : Int64} (hv : J 6 i = v) (hdg : decode cc pc = .ok (.laload, 1)) (kk : W p l e R s m args below meth c H locs cells slots Q (F0 m (pc + 1) ls (.long v :: rest))) : W p l e R s m args below meth c H locs cells slots Q (F0 m (pc) ls (.int (nI i) :: .ref (a 6) :: rest)) := by
  subst hv
  exact va_lald hx hb hK hP 6 1 rfl rfl (vp_in_nI hi (by decide)) hdg (by rw [nI_clamp (by omega)]; exact kk)
theorem ms_6 (hx : p.tables.exec = Jvm.exec) (hb : c.code = cc) (hK : va_K (dC, dI) vwCl (gT cI cL cZ) s) (hP : va_P (dC, dI) vwCl (mW a cI cL cZ N J) H) (hD : va_D A (mW a cI cL cZ N J)) (hS : va_S A H0 H locs) {i : Nat} {v : Int64} (hi : i < 16) (hdg : decode cc pc = .ok (.lastore, 1)) (kk : ∀ (H1 : Heap) (locs1 : List Loc), va_P (dC, dI) vwCl (mW a cI cL cZ N (uJ J 6 i v)) H1 → va_D A (mW a cI cL cZ N (uJ J 6 i v)) → va_S A H0 H1 locs1 → W p l e R s m args below meth c H1 locs1 cells slots Q (F0 m (pc + 1) ls rest)) : W p l e R s m args below meth c H locs cells slots Q (F0 m (pc) ls (.long v :: .int (nI i) :: .ref (a 6) :: rest)) := by
  have e1 : (mW a cI cL cZ N J).set 6 (a 6, .inl (cL, 16, .inr (.inl (vp_updL (fun j => J 6 j) i v)))) = mW a cI cL cZ N (uJ J 6 i v) := by rw [← uJ_f J 6 i v]; rfl
  rw [← e1] at kk
  exact va_last hx hb hK hP hD hS 6 1 rfl rfl (vp_in_nI hi (by decide)) hdg (by rw [nI_clamp (by omega)]; exact kk)
theorem mg_7 (hx : p.tables.exec = Jvm.exec) (hb : c.code = cc) {own : String} {index : Nat} {Ts : List Cond} (hts : ∀ w ∈ Ts, w.before args s = true) (hin : ∀ w ∈ wsX40, w ∈ Ts) (hown : s.vm.findClass own = some m.cls) (hK : va_K (dC, dI) vwCl (gT cI cL cZ) s) (hP : va_P (dC, dI) vwCl (mW a cI cL cZ N J) H) (hlink : (Cond.fieldLink own index "ScoreMachineModel" "plainMemory" "[J").before args s = true) (hdg : decode cc pc = .ok (.getfield index, 3)) (kk : W p l e R s m args below meth c H locs cells slots Q (F0 m (pc + 3) ls (.ref (a 7) :: rest))) : W p l e R s m args below meth c H locs cells slots Q (F0 m (pc) ls (.ref (a 0) :: rest)) :=
  va_get (D := (dC, dI)) (ci := 4) (C := RX4) (T := TX4) (N := 27) (v := .ref (a 7)) hx hb hts hin hown hK hP 0 rfl rfl 7 (by decide) hlink (fun _ h9 => h9) rfl hdg kk
theorem ml_7 (hx : p.tables.exec = Jvm.exec) (hb : c.code = cc) (hK : va_K (dC, dI) vwCl (gT cI cL cZ) s) (hP : va_P (dC, dI) vwCl (mW a cI cL cZ N J) H) {i : Nat} (hi : i < 256) {v : Int64} (hv : J 7 i = v) (hdg : decode cc pc = .ok (.laload, 1)) (kk : W p l e R s m args below meth c H locs cells slots Q (F0 m (pc + 1) ls (.long v :: rest))) : W p l e R s m args below meth c H locs cells slots Q (F0 m (pc) ls (.int (nI i) :: .ref (a 7) :: rest)) := by
  subst hv
  exact va_lald hx hb hK hP 7 1 rfl rfl (vp_in_nI hi (by decide)) hdg (by rw [nI_clamp (by omega)]; exact kk)
theorem ms_7 (hx : p.tables.exec = Jvm.exec) (hb : c.code = cc) (hK : va_K (dC, dI) vwCl (gT cI cL cZ) s) (hP : va_P (dC, dI) vwCl (mW a cI cL cZ N J) H) (hD : va_D A (mW a cI cL cZ N J)) (hS : va_S A H0 H locs) {i : Nat} {v : Int64} (hi : i < 256) (hdg : decode cc pc = .ok (.lastore, 1)) (kk : ∀ (H1 : Heap) (locs1 : List Loc), va_P (dC, dI) vwCl (mW a cI cL cZ N (uJ J 7 i v)) H1 → va_D A (mW a cI cL cZ N (uJ J 7 i v)) → va_S A H0 H1 locs1 → W p l e R s m args below meth c H1 locs1 cells slots Q (F0 m (pc + 1) ls rest)) : W p l e R s m args below meth c H locs cells slots Q (F0 m (pc) ls (.long v :: .int (nI i) :: .ref (a 7) :: rest)) := by
  have e1 : (mW a cI cL cZ N J).set 7 (a 7, .inl (cL, 256, .inr (.inl (vp_updL (fun j => J 7 j) i v)))) = mW a cI cL cZ N (uJ J 7 i v) := by rw [← uJ_f J 7 i v]; rfl
  rw [← e1] at kk
  exact va_last hx hb hK hP hD hS 7 1 rfl rfl (vp_in_nI hi (by decide)) hdg (by rw [nI_clamp (by omega)]; exact kk)
theorem mg_8 (hx : p.tables.exec = Jvm.exec) (hb : c.code = cc) {own : String} {index : Nat} {Ts : List Cond} (hts : ∀ w ∈ Ts, w.before args s = true) (hin : ∀ w ∈ wsX40, w ∈ Ts) (hown : s.vm.findClass own = some m.cls) (hK : va_K (dC, dI) vwCl (gT cI cL cZ) s) (hP : va_P (dC, dI) vwCl (mW a cI cL cZ N J) H) (hlink : (Cond.fieldLink own index "ScoreMachineModel" "place" "I").before args s = true) {v : Nat} (hv : N 8 0 = v) (hdg : decode cc pc = .ok (.getfield index, 3)) (kk : W p l e R s m args below meth c H locs cells slots Q (F0 m (pc + 3) ls (.int (nI v) :: rest))) : W p l e R s m args below meth c H locs cells slots Q (F0 m (pc) ls (.ref (a 0) :: rest)) :=
  va_get (D := (dC, dI)) (ci := 4) (C := RX4) (T := TX4) (N := 27) (v := .int (nI v)) hx hb hts hin hown hK hP 0 rfl rfl 8 (by decide) hlink (fun _ h9 => h9) (by rw [← hv]; rfl) hdg kk
theorem mp_8 (hx : p.tables.exec = Jvm.exec) (hb : c.code = cc) {own : String} {index : Nat} {Ts : List Cond} (hts : ∀ w ∈ Ts, w.before args s = true) (hin : ∀ w ∈ wsX40, w ∈ Ts) (hown : s.vm.findClass own = some m.cls) (hK : va_K (dC, dI) vwCl (gT cI cL cZ) s) (hP : va_P (dC, dI) vwCl (mW a cI cL cZ N J) H) (hD : va_D A (mW a cI cL cZ N J)) (hS : va_S A H0 H locs) (hlink : (Cond.fieldLink own index "ScoreMachineModel" "place" "I").before args s = true) {v : Nat} (hdg : decode cc pc = .ok (.putfield index, 3)) (kk : ∀ (H1 : Heap) (locs1 : List Loc), va_P (dC, dI) vwCl (mW a cI cL cZ (uN N 8 0 v) J) H1 → va_D A (mW a cI cL cZ (uN N 8 0 v) J) → va_S A H0 H1 locs1 → W p l e R s m args below meth c H1 locs1 cells slots Q (F0 m (pc + 3) ls rest)) : W p l e R s m args below meth c H locs cells slots Q (F0 m (pc) ls (.int (nI v) :: .ref (a 0) :: rest)) :=
  va_put (D := (dC, dI)) (ci := 4) (v := .int (nI v)) (ty := .int) (C := RX4) (T := TX4) (N := 27) hx hb hts hin tyX4 tyX4_ok nmX4 hown hK hP hD hS 0 rfl rfl 8 (by decide) hlink (fun _ h9 => h9) rfl (by decide +kernel) rfl rfl (Nat.le_of_ble_eq_true rfl) hdg (fun H1 locs1 q1 q2 q3 => kk H1 locs1 q1 q2 q3)
theorem mg_9 (hx : p.tables.exec = Jvm.exec) (hb : c.code = cc) {own : String} {index : Nat} {Ts : List Cond} (hts : ∀ w ∈ Ts, w.before args s = true) (hin : ∀ w ∈ wsX40, w ∈ Ts) (hown : s.vm.findClass own = some m.cls) (hK : va_K (dC, dI) vwCl (gT cI cL cZ) s) (hP : va_P (dC, dI) vwCl (mW a cI cL cZ N J) H) (hlink : (Cond.fieldLink own index "ScoreMachineModel" "registers" "[J").before args s = true) (hdg : decode cc pc = .ok (.getfield index, 3)) (kk : W p l e R s m args below meth c H locs cells slots Q (F0 m (pc + 3) ls (.ref (a 8) :: rest))) : W p l e R s m args below meth c H locs cells slots Q (F0 m (pc) ls (.ref (a 0) :: rest)) :=
  va_get (D := (dC, dI)) (ci := 4) (C := RX4) (T := TX4) (N := 27) (v := .ref (a 8)) hx hb hts hin hown hK hP 0 rfl rfl 9 (by decide) hlink (fun _ h9 => h9) rfl hdg kk
theorem ml_9 (hx : p.tables.exec = Jvm.exec) (hb : c.code = cc) (hK : va_K (dC, dI) vwCl (gT cI cL cZ) s) (hP : va_P (dC, dI) vwCl (mW a cI cL cZ N J) H) {i : Nat} (hi : i < 16) {v : Int64} (hv : J 9 i = v) (hdg : decode cc pc = .ok (.laload, 1)) (kk : W p l e R s m args below meth c H locs cells slots Q (F0 m (pc + 1) ls (.long v :: rest))) : W p l e R s m args below meth c H locs cells slots Q (F0 m (pc) ls (.int (nI i) :: .ref (a 8) :: rest)) := by
  subst hv
  exact va_lald hx hb hK hP 8 1 rfl rfl (vp_in_nI hi (by decide)) hdg (by rw [nI_clamp (by omega)]; exact kk)
theorem ms_9 (hx : p.tables.exec = Jvm.exec) (hb : c.code = cc) (hK : va_K (dC, dI) vwCl (gT cI cL cZ) s) (hP : va_P (dC, dI) vwCl (mW a cI cL cZ N J) H) (hD : va_D A (mW a cI cL cZ N J)) (hS : va_S A H0 H locs) {i : Nat} {v : Int64} (hi : i < 16) (hdg : decode cc pc = .ok (.lastore, 1)) (kk : ∀ (H1 : Heap) (locs1 : List Loc), va_P (dC, dI) vwCl (mW a cI cL cZ N (uJ J 9 i v)) H1 → va_D A (mW a cI cL cZ N (uJ J 9 i v)) → va_S A H0 H1 locs1 → W p l e R s m args below meth c H1 locs1 cells slots Q (F0 m (pc + 1) ls rest)) : W p l e R s m args below meth c H locs cells slots Q (F0 m (pc) ls (.long v :: .int (nI i) :: .ref (a 8) :: rest)) := by
  have e1 : (mW a cI cL cZ N J).set 8 (a 8, .inl (cL, 16, .inr (.inl (vp_updL (fun j => J 9 j) i v)))) = mW a cI cL cZ N (uJ J 9 i v) := by rw [← uJ_f J 9 i v]; rfl
  rw [← e1] at kk
  exact va_last hx hb hK hP hD hS 8 1 rfl rfl (vp_in_nI hi (by decide)) hdg (by rw [nI_clamp (by omega)]; exact kk)
theorem mg_10 (hx : p.tables.exec = Jvm.exec) (hb : c.code = cc) {own : String} {index : Nat} {Ts : List Cond} (hts : ∀ w ∈ Ts, w.before args s = true) (hin : ∀ w ∈ wsX40, w ∈ Ts) (hown : s.vm.findClass own = some m.cls) (hK : va_K (dC, dI) vwCl (gT cI cL cZ) s) (hP : va_P (dC, dI) vwCl (mW a cI cL cZ N J) H) (hlink : (Cond.fieldLink own index "ScoreMachineModel" "memory" "[J").before args s = true) (hdg : decode cc pc = .ok (.getfield index, 3)) (kk : W p l e R s m args below meth c H locs cells slots Q (F0 m (pc + 3) ls (.ref (a 9) :: rest))) : W p l e R s m args below meth c H locs cells slots Q (F0 m (pc) ls (.ref (a 0) :: rest)) :=
  va_get (D := (dC, dI)) (ci := 4) (C := RX4) (T := TX4) (N := 27) (v := .ref (a 9)) hx hb hts hin hown hK hP 0 rfl rfl 10 (by decide) hlink (fun _ h9 => h9) rfl hdg kk
theorem ml_10 (hx : p.tables.exec = Jvm.exec) (hb : c.code = cc) (hK : va_K (dC, dI) vwCl (gT cI cL cZ) s) (hP : va_P (dC, dI) vwCl (mW a cI cL cZ N J) H) {i : Nat} (hi : i < 256) {v : Int64} (hv : J 10 i = v) (hdg : decode cc pc = .ok (.laload, 1)) (kk : W p l e R s m args below meth c H locs cells slots Q (F0 m (pc + 1) ls (.long v :: rest))) : W p l e R s m args below meth c H locs cells slots Q (F0 m (pc) ls (.int (nI i) :: .ref (a 9) :: rest)) := by
  subst hv
  exact va_lald hx hb hK hP 9 1 rfl rfl (vp_in_nI hi (by decide)) hdg (by rw [nI_clamp (by omega)]; exact kk)
theorem ms_10 (hx : p.tables.exec = Jvm.exec) (hb : c.code = cc) (hK : va_K (dC, dI) vwCl (gT cI cL cZ) s) (hP : va_P (dC, dI) vwCl (mW a cI cL cZ N J) H) (hD : va_D A (mW a cI cL cZ N J)) (hS : va_S A H0 H locs) {i : Nat} {v : Int64} (hi : i < 256) (hdg : decode cc pc = .ok (.lastore, 1)) (kk : ∀ (H1 : Heap) (locs1 : List Loc), va_P (dC, dI) vwCl (mW a cI cL cZ N (uJ J 10 i v)) H1 → va_D A (mW a cI cL cZ N (uJ J 10 i v)) → va_S A H0 H1 locs1 → W p l e R s m args below meth c H1 locs1 cells slots Q (F0 m (pc + 1) ls rest)) : W p l e R s m args below meth c H locs cells slots Q (F0 m (pc) ls (.long v :: .int (nI i) :: .ref (a 9) :: rest)) := by
  have e1 : (mW a cI cL cZ N J).set 9 (a 9, .inl (cL, 256, .inr (.inl (vp_updL (fun j => J 10 j) i v)))) = mW a cI cL cZ N (uJ J 10 i v) := by rw [← uJ_f J 10 i v]; rfl
  rw [← e1] at kk
  exact va_last hx hb hK hP hD hS 9 1 rfl rfl (vp_in_nI hi (by decide)) hdg (by rw [nI_clamp (by omega)]; exact kk)
theorem mg_11 (hx : p.tables.exec = Jvm.exec) (hb : c.code = cc) {own : String} {index : Nat} {Ts : List Cond} (hts : ∀ w ∈ Ts, w.before args s = true) (hin : ∀ w ∈ wsX40, w ∈ Ts) (hown : s.vm.findClass own = some m.cls) (hK : va_K (dC, dI) vwCl (gT cI cL cZ) s) (hP : va_P (dC, dI) vwCl (mW a cI cL cZ N J) H) (hlink : (Cond.fieldLink own index "ScoreMachineModel" "cycle" "I").before args s = true) {v : Nat} (hv : N 11 0 = v) (hdg : decode cc pc = .ok (.getfield index, 3)) (kk : W p l e R s m args below meth c H locs cells slots Q (F0 m (pc + 3) ls (.int (nI v) :: rest))) : W p l e R s m args below meth c H locs cells slots Q (F0 m (pc) ls (.ref (a 0) :: rest)) :=
  va_get (D := (dC, dI)) (ci := 4) (C := RX4) (T := TX4) (N := 27) (v := .int (nI v)) hx hb hts hin hown hK hP 0 rfl rfl 11 (by decide) hlink (fun _ h9 => h9) (by rw [← hv]; rfl) hdg kk
theorem mp_11 (hx : p.tables.exec = Jvm.exec) (hb : c.code = cc) {own : String} {index : Nat} {Ts : List Cond} (hts : ∀ w ∈ Ts, w.before args s = true) (hin : ∀ w ∈ wsX40, w ∈ Ts) (hown : s.vm.findClass own = some m.cls) (hK : va_K (dC, dI) vwCl (gT cI cL cZ) s) (hP : va_P (dC, dI) vwCl (mW a cI cL cZ N J) H) (hD : va_D A (mW a cI cL cZ N J)) (hS : va_S A H0 H locs) (hlink : (Cond.fieldLink own index "ScoreMachineModel" "cycle" "I").before args s = true) {v : Nat} (hdg : decode cc pc = .ok (.putfield index, 3)) (kk : ∀ (H1 : Heap) (locs1 : List Loc), va_P (dC, dI) vwCl (mW a cI cL cZ (uN N 11 0 v) J) H1 → va_D A (mW a cI cL cZ (uN N 11 0 v) J) → va_S A H0 H1 locs1 → W p l e R s m args below meth c H1 locs1 cells slots Q (F0 m (pc + 3) ls rest)) : W p l e R s m args below meth c H locs cells slots Q (F0 m (pc) ls (.int (nI v) :: .ref (a 0) :: rest)) :=
  va_put (D := (dC, dI)) (ci := 4) (v := .int (nI v)) (ty := .int) (C := RX4) (T := TX4) (N := 27) hx hb hts hin tyX4 tyX4_ok nmX4 hown hK hP hD hS 0 rfl rfl 11 (by decide) hlink (fun _ h9 => h9) rfl (by decide +kernel) rfl rfl (Nat.le_of_ble_eq_true rfl) hdg (fun H1 locs1 q1 q2 q3 => kk H1 locs1 q1 q2 q3)
theorem mg_12 (hx : p.tables.exec = Jvm.exec) (hb : c.code = cc) {own : String} {index : Nat} {Ts : List Cond} (hts : ∀ w ∈ Ts, w.before args s = true) (hin : ∀ w ∈ wsX40, w ∈ Ts) (hown : s.vm.findClass own = some m.cls) (hK : va_K (dC, dI) vwCl (gT cI cL cZ) s) (hP : va_P (dC, dI) vwCl (mW a cI cL cZ N J) H) (hlink : (Cond.fieldLink own index "ScoreMachineModel" "over" "Z").before args s = true) {v : Nat} (hv : N 12 0 = v) (hdg : decode cc pc = .ok (.getfield index, 3)) (kk : W p l e R s m args below meth c H locs cells slots Q (F0 m (pc + 3) ls (.int (nI v) :: rest))) : W p l e R s m args below meth c H locs cells slots Q (F0 m (pc) ls (.ref (a 0) :: rest)) :=
  va_get (D := (dC, dI)) (ci := 4) (C := RX4) (T := TX4) (N := 27) (v := .int (nI v)) hx hb hts hin hown hK hP 0 rfl rfl 12 (by decide) hlink (fun _ h9 => h9) (by rw [← hv]; rfl) hdg kk
theorem mp_12 (hx : p.tables.exec = Jvm.exec) (hb : c.code = cc) {own : String} {index : Nat} {Ts : List Cond} (hts : ∀ w ∈ Ts, w.before args s = true) (hin : ∀ w ∈ wsX40, w ∈ Ts) (hown : s.vm.findClass own = some m.cls) (hK : va_K (dC, dI) vwCl (gT cI cL cZ) s) (hP : va_P (dC, dI) vwCl (mW a cI cL cZ N J) H) (hD : va_D A (mW a cI cL cZ N J)) (hS : va_S A H0 H locs) (hlink : (Cond.fieldLink own index "ScoreMachineModel" "over" "Z").before args s = true) {v : Nat} (hv : v < 2) (hdg : decode cc pc = .ok (.putfield index, 3)) (kk : ∀ (H1 : Heap) (locs1 : List Loc), va_P (dC, dI) vwCl (mW a cI cL cZ (uN N 12 0 v) J) H1 → va_D A (mW a cI cL cZ (uN N 12 0 v) J) → va_S A H0 H1 locs1 → W p l e R s m args below meth c H1 locs1 cells slots Q (F0 m (pc + 3) ls rest)) : W p l e R s m args below meth c H locs cells slots Q (F0 m (pc) ls (.int (nI v) :: .ref (a 0) :: rest)) :=
  va_put (D := (dC, dI)) (ci := 4) (v := .int (nI v)) (ty := .boolean) (C := RX4) (T := TX4) (N := 27) hx hb hts hin tyX4 tyX4_ok nmX4 hown hK hP hD hS 0 rfl rfl 12 (by decide) hlink (fun _ h9 => h9) rfl (by decide +kernel) (by rcases (show v = 0 ∨ v = 1 by omega) with h | h <;> subst h <;> decide) (by rcases (show v = 0 ∨ v = 1 by omega) with h | h <;> subst h <;> decide) (Nat.le_of_ble_eq_true rfl) hdg (fun H1 locs1 q1 q2 q3 => kk H1 locs1 q1 q2 q3)
theorem mg_13 (hx : p.tables.exec = Jvm.exec) (hb : c.code = cc) {own : String} {index : Nat} {Ts : List Cond} (hts : ∀ w ∈ Ts, w.before args s = true) (hin : ∀ w ∈ wsX40, w ∈ Ts) (hown : s.vm.findClass own = some m.cls) (hK : va_K (dC, dI) vwCl (gT cI cL cZ) s) (hP : va_P (dC, dI) vwCl (mW a cI cL cZ N J) H) (hlink : (Cond.fieldLink own index "ScoreMachineModel" "many" "I").before args s = true) {v : Nat} (hv : N 13 0 = v) (hdg : decode cc pc = .ok (.getfield index, 3)) (kk : W p l e R s m args below meth c H locs cells slots Q (F0 m (pc + 3) ls (.int (nI v) :: rest))) : W p l e R s m args below meth c H locs cells slots Q (F0 m (pc) ls (.ref (a 0) :: rest)) :=
  va_get (D := (dC, dI)) (ci := 4) (C := RX4) (T := TX4) (N := 27) (v := .int (nI v)) hx hb hts hin hown hK hP 0 rfl rfl 13 (by decide) hlink (fun _ h9 => h9) (by rw [← hv]; rfl) hdg kk
theorem mp_13 (hx : p.tables.exec = Jvm.exec) (hb : c.code = cc) {own : String} {index : Nat} {Ts : List Cond} (hts : ∀ w ∈ Ts, w.before args s = true) (hin : ∀ w ∈ wsX40, w ∈ Ts) (hown : s.vm.findClass own = some m.cls) (hK : va_K (dC, dI) vwCl (gT cI cL cZ) s) (hP : va_P (dC, dI) vwCl (mW a cI cL cZ N J) H) (hD : va_D A (mW a cI cL cZ N J)) (hS : va_S A H0 H locs) (hlink : (Cond.fieldLink own index "ScoreMachineModel" "many" "I").before args s = true) {v : Nat} (hdg : decode cc pc = .ok (.putfield index, 3)) (kk : ∀ (H1 : Heap) (locs1 : List Loc), va_P (dC, dI) vwCl (mW a cI cL cZ (uN N 13 0 v) J) H1 → va_D A (mW a cI cL cZ (uN N 13 0 v) J) → va_S A H0 H1 locs1 → W p l e R s m args below meth c H1 locs1 cells slots Q (F0 m (pc + 3) ls rest)) : W p l e R s m args below meth c H locs cells slots Q (F0 m (pc) ls (.int (nI v) :: .ref (a 0) :: rest)) :=
  va_put (D := (dC, dI)) (ci := 4) (v := .int (nI v)) (ty := .int) (C := RX4) (T := TX4) (N := 27) hx hb hts hin tyX4 tyX4_ok nmX4 hown hK hP hD hS 0 rfl rfl 13 (by decide) hlink (fun _ h9 => h9) rfl (by decide +kernel) rfl rfl (Nat.le_of_ble_eq_true rfl) hdg (fun H1 locs1 q1 q2 q3 => kk H1 locs1 q1 q2 q3)
theorem mg_14 (hx : p.tables.exec = Jvm.exec) (hb : c.code = cc) {own : String} {index : Nat} {Ts : List Cond} (hts : ∀ w ∈ Ts, w.before args s = true) (hin : ∀ w ∈ wsX40, w ∈ Ts) (hown : s.vm.findClass own = some m.cls) (hK : va_K (dC, dI) vwCl (gT cI cL cZ) s) (hP : va_P (dC, dI) vwCl (mW a cI cL cZ N J) H) (hlink : (Cond.fieldLink own index "ScoreMachineModel" "issuedLast" "I").before args s = true) {v : Nat} (hv : N 14 0 = v) (hdg : decode cc pc = .ok (.getfield index, 3)) (kk : W p l e R s m args below meth c H locs cells slots Q (F0 m (pc + 3) ls (.int (nI v) :: rest))) : W p l e R s m args below meth c H locs cells slots Q (F0 m (pc) ls (.ref (a 0) :: rest)) :=
  va_get (D := (dC, dI)) (ci := 4) (C := RX4) (T := TX4) (N := 27) (v := .int (nI v)) hx hb hts hin hown hK hP 0 rfl rfl 14 (by decide) hlink (fun _ h9 => h9) (by rw [← hv]; rfl) hdg kk
theorem mp_14 (hx : p.tables.exec = Jvm.exec) (hb : c.code = cc) {own : String} {index : Nat} {Ts : List Cond} (hts : ∀ w ∈ Ts, w.before args s = true) (hin : ∀ w ∈ wsX40, w ∈ Ts) (hown : s.vm.findClass own = some m.cls) (hK : va_K (dC, dI) vwCl (gT cI cL cZ) s) (hP : va_P (dC, dI) vwCl (mW a cI cL cZ N J) H) (hD : va_D A (mW a cI cL cZ N J)) (hS : va_S A H0 H locs) (hlink : (Cond.fieldLink own index "ScoreMachineModel" "issuedLast" "I").before args s = true) {v : Nat} (hdg : decode cc pc = .ok (.putfield index, 3)) (kk : ∀ (H1 : Heap) (locs1 : List Loc), va_P (dC, dI) vwCl (mW a cI cL cZ (uN N 14 0 v) J) H1 → va_D A (mW a cI cL cZ (uN N 14 0 v) J) → va_S A H0 H1 locs1 → W p l e R s m args below meth c H1 locs1 cells slots Q (F0 m (pc + 3) ls rest)) : W p l e R s m args below meth c H locs cells slots Q (F0 m (pc) ls (.int (nI v) :: .ref (a 0) :: rest)) :=
  va_put (D := (dC, dI)) (ci := 4) (v := .int (nI v)) (ty := .int) (C := RX4) (T := TX4) (N := 27) hx hb hts hin tyX4 tyX4_ok nmX4 hown hK hP hD hS 0 rfl rfl 14 (by decide) hlink (fun _ h9 => h9) rfl (by decide +kernel) rfl rfl (Nat.le_of_ble_eq_true rfl) hdg (fun H1 locs1 q1 q2 q3 => kk H1 locs1 q1 q2 q3)
theorem mg_15 (hx : p.tables.exec = Jvm.exec) (hb : c.code = cc) {own : String} {index : Nat} {Ts : List Cond} (hts : ∀ w ∈ Ts, w.before args s = true) (hin : ∀ w ∈ wsX40, w ∈ Ts) (hown : s.vm.findClass own = some m.cls) (hK : va_K (dC, dI) vwCl (gT cI cL cZ) s) (hP : va_P (dC, dI) vwCl (mW a cI cL cZ N J) H) (hlink : (Cond.fieldLink own index "ScoreMachineModel" "issuedThen" "I").before args s = true) {v : Nat} (hv : N 15 0 = v) (hdg : decode cc pc = .ok (.getfield index, 3)) (kk : W p l e R s m args below meth c H locs cells slots Q (F0 m (pc + 3) ls (.int (nI v) :: rest))) : W p l e R s m args below meth c H locs cells slots Q (F0 m (pc) ls (.ref (a 0) :: rest)) :=
  va_get (D := (dC, dI)) (ci := 4) (C := RX4) (T := TX4) (N := 27) (v := .int (nI v)) hx hb hts hin hown hK hP 0 rfl rfl 15 (by decide) hlink (fun _ h9 => h9) (by rw [← hv]; rfl) hdg kk
theorem mp_15 (hx : p.tables.exec = Jvm.exec) (hb : c.code = cc) {own : String} {index : Nat} {Ts : List Cond} (hts : ∀ w ∈ Ts, w.before args s = true) (hin : ∀ w ∈ wsX40, w ∈ Ts) (hown : s.vm.findClass own = some m.cls) (hK : va_K (dC, dI) vwCl (gT cI cL cZ) s) (hP : va_P (dC, dI) vwCl (mW a cI cL cZ N J) H) (hD : va_D A (mW a cI cL cZ N J)) (hS : va_S A H0 H locs) (hlink : (Cond.fieldLink own index "ScoreMachineModel" "issuedThen" "I").before args s = true) {v : Nat} (hdg : decode cc pc = .ok (.putfield index, 3)) (kk : ∀ (H1 : Heap) (locs1 : List Loc), va_P (dC, dI) vwCl (mW a cI cL cZ (uN N 15 0 v) J) H1 → va_D A (mW a cI cL cZ (uN N 15 0 v) J) → va_S A H0 H1 locs1 → W p l e R s m args below meth c H1 locs1 cells slots Q (F0 m (pc + 3) ls rest)) : W p l e R s m args below meth c H locs cells slots Q (F0 m (pc) ls (.int (nI v) :: .ref (a 0) :: rest)) :=
  va_put (D := (dC, dI)) (ci := 4) (v := .int (nI v)) (ty := .int) (C := RX4) (T := TX4) (N := 27) hx hb hts hin tyX4 tyX4_ok nmX4 hown hK hP hD hS 0 rfl rfl 15 (by decide) hlink (fun _ h9 => h9) rfl (by decide +kernel) rfl rfl (Nat.le_of_ble_eq_true rfl) hdg (fun H1 locs1 q1 q2 q3 => kk H1 locs1 q1 q2 q3)
theorem mg_16 (hx : p.tables.exec = Jvm.exec) (hb : c.code = cc) {own : String} {index : Nat} {Ts : List Cond} (hts : ∀ w ∈ Ts, w.before args s = true) (hin : ∀ w ∈ wsX40, w ∈ Ts) (hown : s.vm.findClass own = some m.cls) (hK : va_K (dC, dI) vwCl (gT cI cL cZ) s) (hP : va_P (dC, dI) vwCl (mW a cI cL cZ N J) H) (hlink : (Cond.fieldLink own index "ScoreMachineModel" "branchWritten" "I").before args s = true) {v : Nat} (hv : N 16 0 = v) (hdg : decode cc pc = .ok (.getfield index, 3)) (kk : W p l e R s m args below meth c H locs cells slots Q (F0 m (pc + 3) ls (.int (nI v) :: rest))) : W p l e R s m args below meth c H locs cells slots Q (F0 m (pc) ls (.ref (a 0) :: rest)) :=
  va_get (D := (dC, dI)) (ci := 4) (C := RX4) (T := TX4) (N := 27) (v := .int (nI v)) hx hb hts hin hown hK hP 0 rfl rfl 16 (by decide) hlink (fun _ h9 => h9) (by rw [← hv]; rfl) hdg kk
theorem mp_16 (hx : p.tables.exec = Jvm.exec) (hb : c.code = cc) {own : String} {index : Nat} {Ts : List Cond} (hts : ∀ w ∈ Ts, w.before args s = true) (hin : ∀ w ∈ wsX40, w ∈ Ts) (hown : s.vm.findClass own = some m.cls) (hK : va_K (dC, dI) vwCl (gT cI cL cZ) s) (hP : va_P (dC, dI) vwCl (mW a cI cL cZ N J) H) (hD : va_D A (mW a cI cL cZ N J)) (hS : va_S A H0 H locs) (hlink : (Cond.fieldLink own index "ScoreMachineModel" "branchWritten" "I").before args s = true) {v : Nat} (hdg : decode cc pc = .ok (.putfield index, 3)) (kk : ∀ (H1 : Heap) (locs1 : List Loc), va_P (dC, dI) vwCl (mW a cI cL cZ (uN N 16 0 v) J) H1 → va_D A (mW a cI cL cZ (uN N 16 0 v) J) → va_S A H0 H1 locs1 → W p l e R s m args below meth c H1 locs1 cells slots Q (F0 m (pc + 3) ls rest)) : W p l e R s m args below meth c H locs cells slots Q (F0 m (pc) ls (.int (nI v) :: .ref (a 0) :: rest)) :=
  va_put (D := (dC, dI)) (ci := 4) (v := .int (nI v)) (ty := .int) (C := RX4) (T := TX4) (N := 27) hx hb hts hin tyX4 tyX4_ok nmX4 hown hK hP hD hS 0 rfl rfl 16 (by decide) hlink (fun _ h9 => h9) rfl (by decide +kernel) rfl rfl (Nat.le_of_ble_eq_true rfl) hdg (fun H1 locs1 q1 q2 q3 => kk H1 locs1 q1 q2 q3)
theorem mg_17 (hx : p.tables.exec = Jvm.exec) (hb : c.code = cc) {own : String} {index : Nat} {Ts : List Cond} (hts : ∀ w ∈ Ts, w.before args s = true) (hin : ∀ w ∈ wsX40, w ∈ Ts) (hown : s.vm.findClass own = some m.cls) (hK : va_K (dC, dI) vwCl (gT cI cL cZ) s) (hP : va_P (dC, dI) vwCl (mW a cI cL cZ N J) H) (hlink : (Cond.fieldLink own index "ScoreMachineModel" "mostWritten" "I").before args s = true) {v : Nat} (hv : N 17 0 = v) (hdg : decode cc pc = .ok (.getfield index, 3)) (kk : W p l e R s m args below meth c H locs cells slots Q (F0 m (pc + 3) ls (.int (nI v) :: rest))) : W p l e R s m args below meth c H locs cells slots Q (F0 m (pc) ls (.ref (a 0) :: rest)) :=
  va_get (D := (dC, dI)) (ci := 4) (C := RX4) (T := TX4) (N := 27) (v := .int (nI v)) hx hb hts hin hown hK hP 0 rfl rfl 17 (by decide) hlink (fun _ h9 => h9) (by rw [← hv]; rfl) hdg kk
theorem mp_17 (hx : p.tables.exec = Jvm.exec) (hb : c.code = cc) {own : String} {index : Nat} {Ts : List Cond} (hts : ∀ w ∈ Ts, w.before args s = true) (hin : ∀ w ∈ wsX40, w ∈ Ts) (hown : s.vm.findClass own = some m.cls) (hK : va_K (dC, dI) vwCl (gT cI cL cZ) s) (hP : va_P (dC, dI) vwCl (mW a cI cL cZ N J) H) (hD : va_D A (mW a cI cL cZ N J)) (hS : va_S A H0 H locs) (hlink : (Cond.fieldLink own index "ScoreMachineModel" "mostWritten" "I").before args s = true) {v : Nat} (hdg : decode cc pc = .ok (.putfield index, 3)) (kk : ∀ (H1 : Heap) (locs1 : List Loc), va_P (dC, dI) vwCl (mW a cI cL cZ (uN N 17 0 v) J) H1 → va_D A (mW a cI cL cZ (uN N 17 0 v) J) → va_S A H0 H1 locs1 → W p l e R s m args below meth c H1 locs1 cells slots Q (F0 m (pc + 3) ls rest)) : W p l e R s m args below meth c H locs cells slots Q (F0 m (pc) ls (.int (nI v) :: .ref (a 0) :: rest)) :=
  va_put (D := (dC, dI)) (ci := 4) (v := .int (nI v)) (ty := .int) (C := RX4) (T := TX4) (N := 27) hx hb hts hin tyX4 tyX4_ok nmX4 hown hK hP hD hS 0 rfl rfl 17 (by decide) hlink (fun _ h9 => h9) rfl (by decide +kernel) rfl rfl (Nat.le_of_ble_eq_true rfl) hdg (fun H1 locs1 q1 q2 q3 => kk H1 locs1 q1 q2 q3)
theorem mg_18 (hx : p.tables.exec = Jvm.exec) (hb : c.code = cc) {own : String} {index : Nat} {Ts : List Cond} (hts : ∀ w ∈ Ts, w.before args s = true) (hin : ∀ w ∈ wsX40, w ∈ Ts) (hown : s.vm.findClass own = some m.cls) (hK : va_K (dC, dI) vwCl (gT cI cL cZ) s) (hP : va_P (dC, dI) vwCl (mW a cI cL cZ N J) H) (hlink : (Cond.fieldLink own index "ScoreMachineModel" "stalls" "[I").before args s = true) (hdg : decode cc pc = .ok (.getfield index, 3)) (kk : W p l e R s m args below meth c H locs cells slots Q (F0 m (pc + 3) ls (.ref (a 10) :: rest))) : W p l e R s m args below meth c H locs cells slots Q (F0 m (pc) ls (.ref (a 0) :: rest)) :=
  va_get (D := (dC, dI)) (ci := 4) (C := RX4) (T := TX4) (N := 27) (v := .ref (a 10)) hx hb hts hin hown hK hP 0 rfl rfl 18 (by decide) hlink (fun _ h9 => h9) rfl hdg kk
theorem ml_18 (hx : p.tables.exec = Jvm.exec) (hb : c.code = cc) (hK : va_K (dC, dI) vwCl (gT cI cL cZ) s) (hP : va_P (dC, dI) vwCl (mW a cI cL cZ N J) H) {i : Nat} (hi : i < 3) {v : Nat} (hv : N 18 i = v) (hdg : decode cc pc = .ok (.iaload, 1)) (kk : W p l e R s m args below meth c H locs cells slots Q (F0 m (pc + 1) ls (.int (nI v) :: rest))) : W p l e R s m args below meth c H locs cells slots Q (F0 m (pc) ls (.int (nI i) :: .ref (a 10) :: rest)) := by
  subst hv
  exact va_iald hx hb hK hP 10 0 rfl rfl (vp_in_nI hi (by decide)) hdg (by rw [nI_clamp (by omega)]; exact kk)
theorem ms_18 (hx : p.tables.exec = Jvm.exec) (hb : c.code = cc) (hK : va_K (dC, dI) vwCl (gT cI cL cZ) s) (hP : va_P (dC, dI) vwCl (mW a cI cL cZ N J) H) (hD : va_D A (mW a cI cL cZ N J)) (hS : va_S A H0 H locs) {i : Nat} {v : Nat} (hi : i < 3) (hdg : decode cc pc = .ok (.iastore, 1)) (kk : ∀ (H1 : Heap) (locs1 : List Loc), va_P (dC, dI) vwCl (mW a cI cL cZ (uN N 18 i v) J) H1 → va_D A (mW a cI cL cZ (uN N 18 i v) J) → va_S A H0 H1 locs1 → W p l e R s m args below meth c H1 locs1 cells slots Q (F0 m (pc + 1) ls rest)) : W p l e R s m args below meth c H locs cells slots Q (F0 m (pc) ls (.int (nI v) :: .int (nI i) :: .ref (a 10) :: rest)) := by
  have e1 : (mW a cI cL cZ N J).set 10 (a 10, .inl (cI, 3, .inl (upd (fun j => nI (N 18 j)) i (nI v)))) = mW a cI cL cZ (uN N 18 i v) J := by rw [← uN_f N 18 i v]; rfl
  rw [← e1] at kk
  exact va_iast hx hb hK hP hD hS 10 0 rfl rfl (vp_in_nI hi (by decide)) hdg (by rw [nI_clamp (by omega)]; exact kk)
theorem mg_19 (hx : p.tables.exec = Jvm.exec) (hb : c.code = cc) {own : String} {index : Nat} {Ts : List Cond} (hts : ∀ w ∈ Ts, w.before args s = true) (hin : ∀ w ∈ wsX40, w ∈ Ts) (hown : s.vm.findClass own = some m.cls) (hK : va_K (dC, dI) vwCl (gT cI cL cZ) s) (hP : va_P (dC, dI) vwCl (mW a cI cL cZ N J) H) (hlink : (Cond.fieldLink own index "ScoreMachineModel" "writtenOf" "[I").before args s = true) (hdg : decode cc pc = .ok (.getfield index, 3)) (kk : W p l e R s m args below meth c H locs cells slots Q (F0 m (pc + 3) ls (.ref (a 11) :: rest))) : W p l e R s m args below meth c H locs cells slots Q (F0 m (pc) ls (.ref (a 0) :: rest)) :=
  va_get (D := (dC, dI)) (ci := 4) (C := RX4) (T := TX4) (N := 27) (v := .ref (a 11)) hx hb hts hin hown hK hP 0 rfl rfl 19 (by decide) hlink (fun _ h9 => h9) rfl hdg kk
theorem ml_19 (hx : p.tables.exec = Jvm.exec) (hb : c.code = cc) (hK : va_K (dC, dI) vwCl (gT cI cL cZ) s) (hP : va_P (dC, dI) vwCl (mW a cI cL cZ N J) H) {i : Nat} (hi : i < 16) {v : Nat} (hv : N 19 i = v) (hdg : decode cc pc = .ok (.iaload, 1)) (kk : W p l e R s m args below meth c H locs cells slots Q (F0 m (pc + 1) ls (.int (nI v) :: rest))) : W p l e R s m args below meth c H locs cells slots Q (F0 m (pc) ls (.int (nI i) :: .ref (a 11) :: rest)) := by
  subst hv
  exact va_iald hx hb hK hP 11 0 rfl rfl (vp_in_nI hi (by decide)) hdg (by rw [nI_clamp (by omega)]; exact kk)
theorem ms_19 (hx : p.tables.exec = Jvm.exec) (hb : c.code = cc) (hK : va_K (dC, dI) vwCl (gT cI cL cZ) s) (hP : va_P (dC, dI) vwCl (mW a cI cL cZ N J) H) (hD : va_D A (mW a cI cL cZ N J)) (hS : va_S A H0 H locs) {i : Nat} {v : Nat} (hi : i < 16) (hdg : decode cc pc = .ok (.iastore, 1)) (kk : ∀ (H1 : Heap) (locs1 : List Loc), va_P (dC, dI) vwCl (mW a cI cL cZ (uN N 19 i v) J) H1 → va_D A (mW a cI cL cZ (uN N 19 i v) J) → va_S A H0 H1 locs1 → W p l e R s m args below meth c H1 locs1 cells slots Q (F0 m (pc + 1) ls rest)) : W p l e R s m args below meth c H locs cells slots Q (F0 m (pc) ls (.int (nI v) :: .int (nI i) :: .ref (a 11) :: rest)) := by
  have e1 : (mW a cI cL cZ N J).set 11 (a 11, .inl (cI, 16, .inl (upd (fun j => nI (N 19 j)) i (nI v)))) = mW a cI cL cZ (uN N 19 i v) J := by rw [← uN_f N 19 i v]; rfl
  rw [← e1] at kk
  exact va_iast hx hb hK hP hD hS 11 0 rfl rfl (vp_in_nI hi (by decide)) hdg (by rw [nI_clamp (by omega)]; exact kk)
theorem mg_20 (hx : p.tables.exec = Jvm.exec) (hb : c.code = cc) {own : String} {index : Nat} {Ts : List Cond} (hts : ∀ w ∈ Ts, w.before args s = true) (hin : ∀ w ∈ wsX40, w ∈ Ts) (hown : s.vm.findClass own = some m.cls) (hK : va_K (dC, dI) vwCl (gT cI cL cZ) s) (hP : va_P (dC, dI) vwCl (mW a cI cL cZ N J) H) (hlink : (Cond.fieldLink own index "ScoreMachineModel" "writerOf" "[I").before args s = true) (hdg : decode cc pc = .ok (.getfield index, 3)) (kk : W p l e R s m args below meth c H locs cells slots Q (F0 m (pc + 3) ls (.ref (a 12) :: rest))) : W p l e R s m args below meth c H locs cells slots Q (F0 m (pc) ls (.ref (a 0) :: rest)) :=
  va_get (D := (dC, dI)) (ci := 4) (C := RX4) (T := TX4) (N := 27) (v := .ref (a 12)) hx hb hts hin hown hK hP 0 rfl rfl 20 (by decide) hlink (fun _ h9 => h9) rfl hdg kk
theorem ml_20 (hx : p.tables.exec = Jvm.exec) (hb : c.code = cc) (hK : va_K (dC, dI) vwCl (gT cI cL cZ) s) (hP : va_P (dC, dI) vwCl (mW a cI cL cZ N J) H) {i : Nat} (hi : i < 16) {v : Nat} (hv : N 20 i = v) (hdg : decode cc pc = .ok (.iaload, 1)) (kk : W p l e R s m args below meth c H locs cells slots Q (F0 m (pc + 1) ls (.int (nI v) :: rest))) : W p l e R s m args below meth c H locs cells slots Q (F0 m (pc) ls (.int (nI i) :: .ref (a 12) :: rest)) := by
  subst hv
  exact va_iald hx hb hK hP 12 0 rfl rfl (vp_in_nI hi (by decide)) hdg (by rw [nI_clamp (by omega)]; exact kk)
theorem ms_20 (hx : p.tables.exec = Jvm.exec) (hb : c.code = cc) (hK : va_K (dC, dI) vwCl (gT cI cL cZ) s) (hP : va_P (dC, dI) vwCl (mW a cI cL cZ N J) H) (hD : va_D A (mW a cI cL cZ N J)) (hS : va_S A H0 H locs) {i : Nat} {v : Nat} (hi : i < 16) (hdg : decode cc pc = .ok (.iastore, 1)) (kk : ∀ (H1 : Heap) (locs1 : List Loc), va_P (dC, dI) vwCl (mW a cI cL cZ (uN N 20 i v) J) H1 → va_D A (mW a cI cL cZ (uN N 20 i v) J) → va_S A H0 H1 locs1 → W p l e R s m args below meth c H1 locs1 cells slots Q (F0 m (pc + 1) ls rest)) : W p l e R s m args below meth c H locs cells slots Q (F0 m (pc) ls (.int (nI v) :: .int (nI i) :: .ref (a 12) :: rest)) := by
  have e1 : (mW a cI cL cZ N J).set 12 (a 12, .inl (cI, 16, .inl (upd (fun j => nI (N 20 j)) i (nI v)))) = mW a cI cL cZ (uN N 20 i v) J := by rw [← uN_f N 20 i v]; rfl
  rw [← e1] at kk
  exact va_iast hx hb hK hP hD hS 12 0 rfl rfl (vp_in_nI hi (by decide)) hdg (by rw [nI_clamp (by omega)]; exact kk)
theorem mg_21 (hx : p.tables.exec = Jvm.exec) (hb : c.code = cc) {own : String} {index : Nat} {Ts : List Cond} (hts : ∀ w ∈ Ts, w.before args s = true) (hin : ∀ w ∈ wsX40, w ∈ Ts) (hown : s.vm.findClass own = some m.cls) (hK : va_K (dC, dI) vwCl (gT cI cL cZ) s) (hP : va_P (dC, dI) vwCl (mW a cI cL cZ N J) H) (hlink : (Cond.fieldLink own index "ScoreMachineModel" "readOf" "[I").before args s = true) (hdg : decode cc pc = .ok (.getfield index, 3)) (kk : W p l e R s m args below meth c H locs cells slots Q (F0 m (pc + 3) ls (.ref (a 13) :: rest))) : W p l e R s m args below meth c H locs cells slots Q (F0 m (pc) ls (.ref (a 0) :: rest)) :=
  va_get (D := (dC, dI)) (ci := 4) (C := RX4) (T := TX4) (N := 27) (v := .ref (a 13)) hx hb hts hin hown hK hP 0 rfl rfl 21 (by decide) hlink (fun _ h9 => h9) rfl hdg kk
theorem ml_21 (hx : p.tables.exec = Jvm.exec) (hb : c.code = cc) (hK : va_K (dC, dI) vwCl (gT cI cL cZ) s) (hP : va_P (dC, dI) vwCl (mW a cI cL cZ N J) H) {i : Nat} (hi : i < 16) {v : Nat} (hv : N 21 i = v) (hdg : decode cc pc = .ok (.iaload, 1)) (kk : W p l e R s m args below meth c H locs cells slots Q (F0 m (pc + 1) ls (.int (nI v) :: rest))) : W p l e R s m args below meth c H locs cells slots Q (F0 m (pc) ls (.int (nI i) :: .ref (a 13) :: rest)) := by
  subst hv
  exact va_iald hx hb hK hP 13 0 rfl rfl (vp_in_nI hi (by decide)) hdg (by rw [nI_clamp (by omega)]; exact kk)
theorem ms_21 (hx : p.tables.exec = Jvm.exec) (hb : c.code = cc) (hK : va_K (dC, dI) vwCl (gT cI cL cZ) s) (hP : va_P (dC, dI) vwCl (mW a cI cL cZ N J) H) (hD : va_D A (mW a cI cL cZ N J)) (hS : va_S A H0 H locs) {i : Nat} {v : Nat} (hi : i < 16) (hdg : decode cc pc = .ok (.iastore, 1)) (kk : ∀ (H1 : Heap) (locs1 : List Loc), va_P (dC, dI) vwCl (mW a cI cL cZ (uN N 21 i v) J) H1 → va_D A (mW a cI cL cZ (uN N 21 i v) J) → va_S A H0 H1 locs1 → W p l e R s m args below meth c H1 locs1 cells slots Q (F0 m (pc + 1) ls rest)) : W p l e R s m args below meth c H locs cells slots Q (F0 m (pc) ls (.int (nI v) :: .int (nI i) :: .ref (a 13) :: rest)) := by
  have e1 : (mW a cI cL cZ N J).set 13 (a 13, .inl (cI, 16, .inl (upd (fun j => nI (N 21 j)) i (nI v)))) = mW a cI cL cZ (uN N 21 i v) J := by rw [← uN_f N 21 i v]; rfl
  rw [← e1] at kk
  exact va_iast hx hb hK hP hD hS 13 0 rfl rfl (vp_in_nI hi (by decide)) hdg (by rw [nI_clamp (by omega)]; exact kk)
theorem mg_22 (hx : p.tables.exec = Jvm.exec) (hb : c.code = cc) {own : String} {index : Nat} {Ts : List Cond} (hts : ∀ w ∈ Ts, w.before args s = true) (hin : ∀ w ∈ wsX40, w ∈ Ts) (hown : s.vm.findClass own = some m.cls) (hK : va_K (dC, dI) vwCl (gT cI cL cZ) s) (hP : va_P (dC, dI) vwCl (mW a cI cL cZ N J) H) (hlink : (Cond.fieldLink own index "ScoreMachineModel" "unitRow" "[I").before args s = true) (hdg : decode cc pc = .ok (.getfield index, 3)) (kk : W p l e R s m args below meth c H locs cells slots Q (F0 m (pc + 3) ls (.ref (a 14) :: rest))) : W p l e R s m args below meth c H locs cells slots Q (F0 m (pc) ls (.ref (a 0) :: rest)) :=
  va_get (D := (dC, dI)) (ci := 4) (C := RX4) (T := TX4) (N := 27) (v := .ref (a 14)) hx hb hts hin hown hK hP 0 rfl rfl 22 (by decide) hlink (fun _ h9 => h9) rfl hdg kk
theorem ml_22 (hx : p.tables.exec = Jvm.exec) (hb : c.code = cc) (hK : va_K (dC, dI) vwCl (gT cI cL cZ) s) (hP : va_P (dC, dI) vwCl (mW a cI cL cZ N J) H) {i : Nat} (hi : i < 126) {v : Nat} (hv : N 22 i = v) (hdg : decode cc pc = .ok (.iaload, 1)) (kk : W p l e R s m args below meth c H locs cells slots Q (F0 m (pc + 1) ls (.int (nI v) :: rest))) : W p l e R s m args below meth c H locs cells slots Q (F0 m (pc) ls (.int (nI i) :: .ref (a 14) :: rest)) := by
  subst hv
  exact va_iald hx hb hK hP 14 0 rfl rfl (vp_in_nI hi (by decide)) hdg (by rw [nI_clamp (by omega)]; exact kk)
theorem ms_22 (hx : p.tables.exec = Jvm.exec) (hb : c.code = cc) (hK : va_K (dC, dI) vwCl (gT cI cL cZ) s) (hP : va_P (dC, dI) vwCl (mW a cI cL cZ N J) H) (hD : va_D A (mW a cI cL cZ N J)) (hS : va_S A H0 H locs) {i : Nat} {v : Nat} (hi : i < 126) (hdg : decode cc pc = .ok (.iastore, 1)) (kk : ∀ (H1 : Heap) (locs1 : List Loc), va_P (dC, dI) vwCl (mW a cI cL cZ (uN N 22 i v) J) H1 → va_D A (mW a cI cL cZ (uN N 22 i v) J) → va_S A H0 H1 locs1 → W p l e R s m args below meth c H1 locs1 cells slots Q (F0 m (pc + 1) ls rest)) : W p l e R s m args below meth c H locs cells slots Q (F0 m (pc) ls (.int (nI v) :: .int (nI i) :: .ref (a 14) :: rest)) := by
  have e1 : (mW a cI cL cZ N J).set 14 (a 14, .inl (cI, 126, .inl (upd (fun j => nI (N 22 j)) i (nI v)))) = mW a cI cL cZ (uN N 22 i v) J := by rw [← uN_f N 22 i v]; rfl
  rw [← e1] at kk
  exact va_iast hx hb hK hP hD hS 14 0 rfl rfl (vp_in_nI hi (by decide)) hdg (by rw [nI_clamp (by omega)]; exact kk)
theorem mg_23 (hx : p.tables.exec = Jvm.exec) (hb : c.code = cc) {own : String} {index : Nat} {Ts : List Cond} (hts : ∀ w ∈ Ts, w.before args s = true) (hin : ∀ w ∈ wsX40, w ∈ Ts) (hown : s.vm.findClass own = some m.cls) (hK : va_K (dC, dI) vwCl (gT cI cL cZ) s) (hP : va_P (dC, dI) vwCl (mW a cI cL cZ N J) H) (hlink : (Cond.fieldLink own index "ScoreMachineModel" "unitValue" "[J").before args s = true) (hdg : decode cc pc = .ok (.getfield index, 3)) (kk : W p l e R s m args below meth c H locs cells slots Q (F0 m (pc + 3) ls (.ref (a 15) :: rest))) : W p l e R s m args below meth c H locs cells slots Q (F0 m (pc) ls (.ref (a 0) :: rest)) :=
  va_get (D := (dC, dI)) (ci := 4) (C := RX4) (T := TX4) (N := 27) (v := .ref (a 15)) hx hb hts hin hown hK hP 0 rfl rfl 23 (by decide) hlink (fun _ h9 => h9) rfl hdg kk
theorem ml_23 (hx : p.tables.exec = Jvm.exec) (hb : c.code = cc) (hK : va_K (dC, dI) vwCl (gT cI cL cZ) s) (hP : va_P (dC, dI) vwCl (mW a cI cL cZ N J) H) {i : Nat} (hi : i < 18) {v : Int64} (hv : J 23 i = v) (hdg : decode cc pc = .ok (.laload, 1)) (kk : W p l e R s m args below meth c H locs cells slots Q (F0 m (pc + 1) ls (.long v :: rest))) : W p l e R s m args below meth c H locs cells slots Q (F0 m (pc) ls (.int (nI i) :: .ref (a 15) :: rest)) := by
  subst hv
  exact va_lald hx hb hK hP 15 1 rfl rfl (vp_in_nI hi (by decide)) hdg (by rw [nI_clamp (by omega)]; exact kk)
theorem ms_23 (hx : p.tables.exec = Jvm.exec) (hb : c.code = cc) (hK : va_K (dC, dI) vwCl (gT cI cL cZ) s) (hP : va_P (dC, dI) vwCl (mW a cI cL cZ N J) H) (hD : va_D A (mW a cI cL cZ N J)) (hS : va_S A H0 H locs) {i : Nat} {v : Int64} (hi : i < 18) (hdg : decode cc pc = .ok (.lastore, 1)) (kk : ∀ (H1 : Heap) (locs1 : List Loc), va_P (dC, dI) vwCl (mW a cI cL cZ N (uJ J 23 i v)) H1 → va_D A (mW a cI cL cZ N (uJ J 23 i v)) → va_S A H0 H1 locs1 → W p l e R s m args below meth c H1 locs1 cells slots Q (F0 m (pc + 1) ls rest)) : W p l e R s m args below meth c H locs cells slots Q (F0 m (pc) ls (.long v :: .int (nI i) :: .ref (a 15) :: rest)) := by
  have e1 : (mW a cI cL cZ N J).set 15 (a 15, .inl (cL, 18, .inr (.inl (vp_updL (fun j => J 23 j) i v)))) = mW a cI cL cZ N (uJ J 23 i v) := by rw [← uJ_f J 23 i v]; rfl
  rw [← e1] at kk
  exact va_last hx hb hK hP hD hS 15 1 rfl rfl (vp_in_nI hi (by decide)) hdg (by rw [nI_clamp (by omega)]; exact kk)
theorem mg_24 (hx : p.tables.exec = Jvm.exec) (hb : c.code = cc) {own : String} {index : Nat} {Ts : List Cond} (hts : ∀ w ∈ Ts, w.before args s = true) (hin : ∀ w ∈ wsX40, w ∈ Ts) (hown : s.vm.findClass own = some m.cls) (hK : va_K (dC, dI) vwCl (gT cI cL cZ) s) (hP : va_P (dC, dI) vwCl (mW a cI cL cZ N J) H) (hlink : (Cond.fieldLink own index "ScoreMachineModel" "unitOpen" "[Z").before args s = true) (hdg : decode cc pc = .ok (.getfield index, 3)) (kk : W p l e R s m args below meth c H locs cells slots Q (F0 m (pc + 3) ls (.ref (a 16) :: rest))) : W p l e R s m args below meth c H locs cells slots Q (F0 m (pc) ls (.ref (a 0) :: rest)) :=
  va_get (D := (dC, dI)) (ci := 4) (C := RX4) (T := TX4) (N := 27) (v := .ref (a 16)) hx hb hts hin hown hK hP 0 rfl rfl 24 (by decide) hlink (fun _ h9 => h9) rfl hdg kk
theorem ml_24 (hx : p.tables.exec = Jvm.exec) (hb : c.code = cc) (hK : va_K (dC, dI) vwCl (gT cI cL cZ) s) (hP : va_P (dC, dI) vwCl (mW a cI cL cZ N J) H) {i : Nat} (hi : i < 18) {v : Nat} (hv : N 24 i = v) (hdg : decode cc pc = .ok (.baload, 1)) (kk : W p l e R s m args below meth c H locs cells slots Q (F0 m (pc + 1) ls (.int (nI v) :: rest))) : W p l e R s m args below meth c H locs cells slots Q (F0 m (pc) ls (.int (nI i) :: .ref (a 16) :: rest)) := by
  subst hv
  exact va_zald hx hb hK hP 16 2 rfl rfl (vp_in_nI hi (by decide)) hdg (by rw [nI_clamp (by omega)]; exact kk)
theorem ms_24 (hx : p.tables.exec = Jvm.exec) (hb : c.code = cc) (hK : va_K (dC, dI) vwCl (gT cI cL cZ) s) (hP : va_P (dC, dI) vwCl (mW a cI cL cZ N J) H) (hD : va_D A (mW a cI cL cZ N J)) (hS : va_S A H0 H locs) {i : Nat} {v : Nat} (hi : i < 18) (hv : v < 2) (hdg : decode cc pc = .ok (.bastore, 1)) (kk : ∀ (H1 : Heap) (locs1 : List Loc), va_P (dC, dI) vwCl (mW a cI cL cZ (uN N 24 i v) J) H1 → va_D A (mW a cI cL cZ (uN N 24 i v) J) → va_S A H0 H1 locs1 → W p l e R s m args below meth c H1 locs1 cells slots Q (F0 m (pc + 1) ls rest)) : W p l e R s m args below meth c H locs cells slots Q (F0 m (pc) ls (.int (nI v) :: .int (nI i) :: .ref (a 16) :: rest)) := by
  have e1 : (mW a cI cL cZ N J).set 16 (a 16, .inl (cZ, 18, .inl (upd (fun j => nI (N 24 j)) i (nI v)))) = mW a cI cL cZ (uN N 24 i v) J := by rw [← uN_f N 24 i v]; rfl
  rw [← e1] at kk
  have e2 : vp_nar .boolean (nI v) = nI v := by rcases (show v = 0 ∨ v = 1 by omega) with h | h <;> subst h <;> decide
  exact va_zast hx hb hK hP hD hS 16 2 rfl rfl (vp_in_nI hi (by decide)) hdg (by rw [nI_clamp (by omega), e2]; exact kk)
theorem mg_25 (hx : p.tables.exec = Jvm.exec) (hb : c.code = cc) {own : String} {index : Nat} {Ts : List Cond} (hts : ∀ w ∈ Ts, w.before args s = true) (hin : ∀ w ∈ wsX40, w ∈ Ts) (hown : s.vm.findClass own = some m.cls) (hK : va_K (dC, dI) vwCl (gT cI cL cZ) s) (hP : va_P (dC, dI) vwCl (mW a cI cL cZ N J) H) (hlink : (Cond.fieldLink own index "ScoreMachineModel" "rows" "[I").before args s = true) (hdg : decode cc pc = .ok (.getfield index, 3)) (kk : W p l e R s m args below meth c H locs cells slots Q (F0 m (pc + 3) ls (.ref (a 17) :: rest))) : W p l e R s m args below meth c H locs cells slots Q (F0 m (pc) ls (.ref (a 0) :: rest)) :=
  va_get (D := (dC, dI)) (ci := 4) (C := RX4) (T := TX4) (N := 27) (v := .ref (a 17)) hx hb hts hin hown hK hP 0 rfl rfl 25 (by decide) hlink (fun _ h9 => h9) rfl hdg kk
theorem ml_25 (hx : p.tables.exec = Jvm.exec) (hb : c.code = cc) (hK : va_K (dC, dI) vwCl (gT cI cL cZ) s) (hP : va_P (dC, dI) vwCl (mW a cI cL cZ N J) H) {i : Nat} (hi : i < 384) {v : Nat} (hv : N 25 i = v) (hdg : decode cc pc = .ok (.iaload, 1)) (kk : W p l e R s m args below meth c H locs cells slots Q (F0 m (pc + 1) ls (.int (nI v) :: rest))) : W p l e R s m args below meth c H locs cells slots Q (F0 m (pc) ls (.int (nI i) :: .ref (a 17) :: rest)) := by
  subst hv
  exact va_iald hx hb hK hP 17 0 rfl rfl (vp_in_nI hi (by decide)) hdg (by rw [nI_clamp (by omega)]; exact kk)
theorem ms_25 (hx : p.tables.exec = Jvm.exec) (hb : c.code = cc) (hK : va_K (dC, dI) vwCl (gT cI cL cZ) s) (hP : va_P (dC, dI) vwCl (mW a cI cL cZ N J) H) (hD : va_D A (mW a cI cL cZ N J)) (hS : va_S A H0 H locs) {i : Nat} {v : Nat} (hi : i < 384) (hdg : decode cc pc = .ok (.iastore, 1)) (kk : ∀ (H1 : Heap) (locs1 : List Loc), va_P (dC, dI) vwCl (mW a cI cL cZ (uN N 25 i v) J) H1 → va_D A (mW a cI cL cZ (uN N 25 i v) J) → va_S A H0 H1 locs1 → W p l e R s m args below meth c H1 locs1 cells slots Q (F0 m (pc + 1) ls rest)) : W p l e R s m args below meth c H locs cells slots Q (F0 m (pc) ls (.int (nI v) :: .int (nI i) :: .ref (a 17) :: rest)) := by
  have e1 : (mW a cI cL cZ N J).set 17 (a 17, .inl (cI, 384, .inl (upd (fun j => nI (N 25 j)) i (nI v)))) = mW a cI cL cZ (uN N 25 i v) J := by rw [← uN_f N 25 i v]; rfl
  rw [← e1] at kk
  exact va_iast hx hb hK hP hD hS 17 0 rfl rfl (vp_in_nI hi (by decide)) hdg (by rw [nI_clamp (by omega)]; exact kk)
theorem mg_26 (hx : p.tables.exec = Jvm.exec) (hb : c.code = cc) {own : String} {index : Nat} {Ts : List Cond} (hts : ∀ w ∈ Ts, w.before args s = true) (hin : ∀ w ∈ wsX40, w ∈ Ts) (hown : s.vm.findClass own = some m.cls) (hK : va_K (dC, dI) vwCl (gT cI cL cZ) s) (hP : va_P (dC, dI) vwCl (mW a cI cL cZ N J) H) (hlink : (Cond.fieldLink own index "ScoreMachineModel" "thrown" "I").before args s = true) {v : Nat} (hv : N 26 0 = v) (hdg : decode cc pc = .ok (.getfield index, 3)) (kk : W p l e R s m args below meth c H locs cells slots Q (F0 m (pc + 3) ls (.int (nI v) :: rest))) : W p l e R s m args below meth c H locs cells slots Q (F0 m (pc) ls (.ref (a 0) :: rest)) :=
  va_get (D := (dC, dI)) (ci := 4) (C := RX4) (T := TX4) (N := 27) (v := .int (nI v)) hx hb hts hin hown hK hP 0 rfl rfl 26 (by decide) hlink (fun _ h9 => h9) (by rw [← hv]; rfl) hdg kk
theorem mp_26 (hx : p.tables.exec = Jvm.exec) (hb : c.code = cc) {own : String} {index : Nat} {Ts : List Cond} (hts : ∀ w ∈ Ts, w.before args s = true) (hin : ∀ w ∈ wsX40, w ∈ Ts) (hown : s.vm.findClass own = some m.cls) (hK : va_K (dC, dI) vwCl (gT cI cL cZ) s) (hP : va_P (dC, dI) vwCl (mW a cI cL cZ N J) H) (hD : va_D A (mW a cI cL cZ N J)) (hS : va_S A H0 H locs) (hlink : (Cond.fieldLink own index "ScoreMachineModel" "thrown" "I").before args s = true) {v : Nat} (hdg : decode cc pc = .ok (.putfield index, 3)) (kk : ∀ (H1 : Heap) (locs1 : List Loc), va_P (dC, dI) vwCl (mW a cI cL cZ (uN N 26 0 v) J) H1 → va_D A (mW a cI cL cZ (uN N 26 0 v) J) → va_S A H0 H1 locs1 → W p l e R s m args below meth c H1 locs1 cells slots Q (F0 m (pc + 3) ls rest)) : W p l e R s m args below meth c H locs cells slots Q (F0 m (pc) ls (.int (nI v) :: .ref (a 0) :: rest)) :=
  va_put (D := (dC, dI)) (ci := 4) (v := .int (nI v)) (ty := .int) (C := RX4) (T := TX4) (N := 27) hx hb hts hin tyX4 tyX4_ok nmX4 hown hK hP hD hS 0 rfl rfl 26 (by decide) hlink (fun _ h9 => h9) rfl (by decide +kernel) rfl rfl (Nat.le_of_ble_eq_true rfl) hdg (fun H1 locs1 q1 q2 q3 => kk H1 locs1 q1 q2 q3)
theorem xg_0 (hx : p.tables.exec = Jvm.exec) (hb : c.code = cc) {own : String} {index : Nat} {Ts : List Cond} (hts : ∀ w ∈ Ts, w.before args s = true) (hin : ∀ w ∈ wsX20, w ∈ Ts) (hown : s.vm.findClass own = some m.cls) (hK : va_K (dC, dI) vwCl (gT cI cL cZ) s) (hP : va_P (dC, dI) vwCl (xW a cI cL cZ N J) H) (hlink : (Cond.fieldLink own index "ScoreMachine$Setup" "codes" "[I").before args s = true) (hdg : decode cc pc = .ok (.getfield index, 3)) (kk : W p l e R s m args below meth c H locs cells slots Q (F0 m (pc + 3) ls (.ref (a 4) :: rest))) : W p l e R s m args below meth c H locs cells slots Q (F0 m (pc) ls (.ref (a 1) :: rest)) :=
  va_get (D := (dC, dI)) (ci := 2) (C := RX2) (T := TX2) (N := 9) (v := .ref (a 4)) hx hb hts hin hown hK hP 1 rfl rfl 0 (by decide) hlink (fun _ h9 => h9) rfl hdg kk
theorem xl_0 (hx : p.tables.exec = Jvm.exec) (hb : c.code = cc) (hK : va_K (dC, dI) vwCl (gT cI cL cZ) s) (hP : va_P (dC, dI) vwCl (xW a cI cL cZ N J) H) {i : Nat} (hi : i < 256) {v : Nat} (hv : N 0 i = v) (hdg : decode cc pc = .ok (.iaload, 1)) (kk : W p l e R s m args below meth c H locs cells slots Q (F0 m (pc + 1) ls (.int (nI v) :: rest))) : W p l e R s m args below meth c H locs cells slots Q (F0 m (pc) ls (.int (nI i) :: .ref (a 4) :: rest)) := by
  subst hv
  exact va_iald hx hb hK hP 4 0 rfl rfl (vp_in_nI hi (by decide)) hdg (by rw [nI_clamp (by omega)]; exact kk)
theorem xs_0 (hx : p.tables.exec = Jvm.exec) (hb : c.code = cc) (hK : va_K (dC, dI) vwCl (gT cI cL cZ) s) (hP : va_P (dC, dI) vwCl (xW a cI cL cZ N J) H) (hD : va_D A (xW a cI cL cZ N J)) (hS : va_S A H0 H locs) {i : Nat} {v : Nat} (hi : i < 256) (hdg : decode cc pc = .ok (.iastore, 1)) (kk : ∀ (H1 : Heap) (locs1 : List Loc), va_P (dC, dI) vwCl (xW a cI cL cZ (uN N 0 i v) J) H1 → va_D A (xW a cI cL cZ (uN N 0 i v) J) → va_S A H0 H1 locs1 → W p l e R s m args below meth c H1 locs1 cells slots Q (F0 m (pc + 1) ls rest)) : W p l e R s m args below meth c H locs cells slots Q (F0 m (pc) ls (.int (nI v) :: .int (nI i) :: .ref (a 4) :: rest)) := by
  have e1 : (xW a cI cL cZ N J).set 4 (a 4, .inl (cI, 256, .inl (upd (fun j => nI (N 0 j)) i (nI v)))) = xW a cI cL cZ (uN N 0 i v) J := by rw [← uN_f N 0 i v]; rfl
  rw [← e1] at kk
  exact va_iast hx hb hK hP hD hS 4 0 rfl rfl (vp_in_nI hi (by decide)) hdg (by rw [nI_clamp (by omega)]; exact kk)
theorem xg_1 (hx : p.tables.exec = Jvm.exec) (hb : c.code = cc) {own : String} {index : Nat} {Ts : List Cond} (hts : ∀ w ∈ Ts, w.before args s = true) (hin : ∀ w ∈ wsX20, w ∈ Ts) (hown : s.vm.findClass own = some m.cls) (hK : va_K (dC, dI) vwCl (gT cI cL cZ) s) (hP : va_P (dC, dI) vwCl (xW a cI cL cZ N J) H) (hlink : (Cond.fieldLink own index "ScoreMachine$Setup" "ds" "[I").before args s = true) (hdg : decode cc pc = .ok (.getfield index, 3)) (kk : W p l e R s m args below meth c H locs cells slots Q (F0 m (pc + 3) ls (.ref (a 5) :: rest))) : W p l e R s m args below meth c H locs cells slots Q (F0 m (pc) ls (.ref (a 1) :: rest)) :=
  va_get (D := (dC, dI)) (ci := 2) (C := RX2) (T := TX2) (N := 9) (v := .ref (a 5)) hx hb hts hin hown hK hP 1 rfl rfl 1 (by decide) hlink (fun _ h9 => h9) rfl hdg kk
theorem xl_1 (hx : p.tables.exec = Jvm.exec) (hb : c.code = cc) (hK : va_K (dC, dI) vwCl (gT cI cL cZ) s) (hP : va_P (dC, dI) vwCl (xW a cI cL cZ N J) H) {i : Nat} (hi : i < 256) {v : Nat} (hv : N 1 i = v) (hdg : decode cc pc = .ok (.iaload, 1)) (kk : W p l e R s m args below meth c H locs cells slots Q (F0 m (pc + 1) ls (.int (nI v) :: rest))) : W p l e R s m args below meth c H locs cells slots Q (F0 m (pc) ls (.int (nI i) :: .ref (a 5) :: rest)) := by
  subst hv
  exact va_iald hx hb hK hP 5 0 rfl rfl (vp_in_nI hi (by decide)) hdg (by rw [nI_clamp (by omega)]; exact kk)
theorem xs_1 (hx : p.tables.exec = Jvm.exec) (hb : c.code = cc) (hK : va_K (dC, dI) vwCl (gT cI cL cZ) s) (hP : va_P (dC, dI) vwCl (xW a cI cL cZ N J) H) (hD : va_D A (xW a cI cL cZ N J)) (hS : va_S A H0 H locs) {i : Nat} {v : Nat} (hi : i < 256) (hdg : decode cc pc = .ok (.iastore, 1)) (kk : ∀ (H1 : Heap) (locs1 : List Loc), va_P (dC, dI) vwCl (xW a cI cL cZ (uN N 1 i v) J) H1 → va_D A (xW a cI cL cZ (uN N 1 i v) J) → va_S A H0 H1 locs1 → W p l e R s m args below meth c H1 locs1 cells slots Q (F0 m (pc + 1) ls rest)) : W p l e R s m args below meth c H locs cells slots Q (F0 m (pc) ls (.int (nI v) :: .int (nI i) :: .ref (a 5) :: rest)) := by
  have e1 : (xW a cI cL cZ N J).set 5 (a 5, .inl (cI, 256, .inl (upd (fun j => nI (N 1 j)) i (nI v)))) = xW a cI cL cZ (uN N 1 i v) J := by rw [← uN_f N 1 i v]; rfl
  rw [← e1] at kk
  exact va_iast hx hb hK hP hD hS 5 0 rfl rfl (vp_in_nI hi (by decide)) hdg (by rw [nI_clamp (by omega)]; exact kk)
theorem xg_2 (hx : p.tables.exec = Jvm.exec) (hb : c.code = cc) {own : String} {index : Nat} {Ts : List Cond} (hts : ∀ w ∈ Ts, w.before args s = true) (hin : ∀ w ∈ wsX20, w ∈ Ts) (hown : s.vm.findClass own = some m.cls) (hK : va_K (dC, dI) vwCl (gT cI cL cZ) s) (hP : va_P (dC, dI) vwCl (xW a cI cL cZ N J) H) (hlink : (Cond.fieldLink own index "ScoreMachine$Setup" "as" "[I").before args s = true) (hdg : decode cc pc = .ok (.getfield index, 3)) (kk : W p l e R s m args below meth c H locs cells slots Q (F0 m (pc + 3) ls (.ref (a 6) :: rest))) : W p l e R s m args below meth c H locs cells slots Q (F0 m (pc) ls (.ref (a 1) :: rest)) :=
  va_get (D := (dC, dI)) (ci := 2) (C := RX2) (T := TX2) (N := 9) (v := .ref (a 6)) hx hb hts hin hown hK hP 1 rfl rfl 2 (by decide) hlink (fun _ h9 => h9) rfl hdg kk
theorem xl_2 (hx : p.tables.exec = Jvm.exec) (hb : c.code = cc) (hK : va_K (dC, dI) vwCl (gT cI cL cZ) s) (hP : va_P (dC, dI) vwCl (xW a cI cL cZ N J) H) {i : Nat} (hi : i < 256) {v : Nat} (hv : N 2 i = v) (hdg : decode cc pc = .ok (.iaload, 1)) (kk : W p l e R s m args below meth c H locs cells slots Q (F0 m (pc + 1) ls (.int (nI v) :: rest))) : W p l e R s m args below meth c H locs cells slots Q (F0 m (pc) ls (.int (nI i) :: .ref (a 6) :: rest)) := by
  subst hv
  exact va_iald hx hb hK hP 6 0 rfl rfl (vp_in_nI hi (by decide)) hdg (by rw [nI_clamp (by omega)]; exact kk)
theorem xs_2 (hx : p.tables.exec = Jvm.exec) (hb : c.code = cc) (hK : va_K (dC, dI) vwCl (gT cI cL cZ) s) (hP : va_P (dC, dI) vwCl (xW a cI cL cZ N J) H) (hD : va_D A (xW a cI cL cZ N J)) (hS : va_S A H0 H locs) {i : Nat} {v : Nat} (hi : i < 256) (hdg : decode cc pc = .ok (.iastore, 1)) (kk : ∀ (H1 : Heap) (locs1 : List Loc), va_P (dC, dI) vwCl (xW a cI cL cZ (uN N 2 i v) J) H1 → va_D A (xW a cI cL cZ (uN N 2 i v) J) → va_S A H0 H1 locs1 → W p l e R s m args below meth c H1 locs1 cells slots Q (F0 m (pc + 1) ls rest)) : W p l e R s m args below meth c H locs cells slots Q (F0 m (pc) ls (.int (nI v) :: .int (nI i) :: .ref (a 6) :: rest)) := by
  have e1 : (xW a cI cL cZ N J).set 6 (a 6, .inl (cI, 256, .inl (upd (fun j => nI (N 2 j)) i (nI v)))) = xW a cI cL cZ (uN N 2 i v) J := by rw [← uN_f N 2 i v]; rfl
  rw [← e1] at kk
  exact va_iast hx hb hK hP hD hS 6 0 rfl rfl (vp_in_nI hi (by decide)) hdg (by rw [nI_clamp (by omega)]; exact kk)
theorem xg_3 (hx : p.tables.exec = Jvm.exec) (hb : c.code = cc) {own : String} {index : Nat} {Ts : List Cond} (hts : ∀ w ∈ Ts, w.before args s = true) (hin : ∀ w ∈ wsX20, w ∈ Ts) (hown : s.vm.findClass own = some m.cls) (hK : va_K (dC, dI) vwCl (gT cI cL cZ) s) (hP : va_P (dC, dI) vwCl (xW a cI cL cZ N J) H) (hlink : (Cond.fieldLink own index "ScoreMachine$Setup" "bs" "[I").before args s = true) (hdg : decode cc pc = .ok (.getfield index, 3)) (kk : W p l e R s m args below meth c H locs cells slots Q (F0 m (pc + 3) ls (.ref (a 7) :: rest))) : W p l e R s m args below meth c H locs cells slots Q (F0 m (pc) ls (.ref (a 1) :: rest)) :=
  va_get (D := (dC, dI)) (ci := 2) (C := RX2) (T := TX2) (N := 9) (v := .ref (a 7)) hx hb hts hin hown hK hP 1 rfl rfl 3 (by decide) hlink (fun _ h9 => h9) rfl hdg kk
theorem xl_3 (hx : p.tables.exec = Jvm.exec) (hb : c.code = cc) (hK : va_K (dC, dI) vwCl (gT cI cL cZ) s) (hP : va_P (dC, dI) vwCl (xW a cI cL cZ N J) H) {i : Nat} (hi : i < 256) {v : Nat} (hv : N 3 i = v) (hdg : decode cc pc = .ok (.iaload, 1)) (kk : W p l e R s m args below meth c H locs cells slots Q (F0 m (pc + 1) ls (.int (nI v) :: rest))) : W p l e R s m args below meth c H locs cells slots Q (F0 m (pc) ls (.int (nI i) :: .ref (a 7) :: rest)) := by
  subst hv
  exact va_iald hx hb hK hP 7 0 rfl rfl (vp_in_nI hi (by decide)) hdg (by rw [nI_clamp (by omega)]; exact kk)
theorem xs_3 (hx : p.tables.exec = Jvm.exec) (hb : c.code = cc) (hK : va_K (dC, dI) vwCl (gT cI cL cZ) s) (hP : va_P (dC, dI) vwCl (xW a cI cL cZ N J) H) (hD : va_D A (xW a cI cL cZ N J)) (hS : va_S A H0 H locs) {i : Nat} {v : Nat} (hi : i < 256) (hdg : decode cc pc = .ok (.iastore, 1)) (kk : ∀ (H1 : Heap) (locs1 : List Loc), va_P (dC, dI) vwCl (xW a cI cL cZ (uN N 3 i v) J) H1 → va_D A (xW a cI cL cZ (uN N 3 i v) J) → va_S A H0 H1 locs1 → W p l e R s m args below meth c H1 locs1 cells slots Q (F0 m (pc + 1) ls rest)) : W p l e R s m args below meth c H locs cells slots Q (F0 m (pc) ls (.int (nI v) :: .int (nI i) :: .ref (a 7) :: rest)) := by
  have e1 : (xW a cI cL cZ N J).set 7 (a 7, .inl (cI, 256, .inl (upd (fun j => nI (N 3 j)) i (nI v)))) = xW a cI cL cZ (uN N 3 i v) J := by rw [← uN_f N 3 i v]; rfl
  rw [← e1] at kk
  exact va_iast hx hb hK hP hD hS 7 0 rfl rfl (vp_in_nI hi (by decide)) hdg (by rw [nI_clamp (by omega)]; exact kk)
theorem xg_4 (hx : p.tables.exec = Jvm.exec) (hb : c.code = cc) {own : String} {index : Nat} {Ts : List Cond} (hts : ∀ w ∈ Ts, w.before args s = true) (hin : ∀ w ∈ wsX20, w ∈ Ts) (hown : s.vm.findClass own = some m.cls) (hK : va_K (dC, dI) vwCl (gT cI cL cZ) s) (hP : va_P (dC, dI) vwCl (xW a cI cL cZ N J) H) (hlink : (Cond.fieldLink own index "ScoreMachine$Setup" "unitsOf" "[I").before args s = true) (hdg : decode cc pc = .ok (.getfield index, 3)) (kk : W p l e R s m args below meth c H locs cells slots Q (F0 m (pc + 3) ls (.ref (a 8) :: rest))) : W p l e R s m args below meth c H locs cells slots Q (F0 m (pc) ls (.ref (a 1) :: rest)) :=
  va_get (D := (dC, dI)) (ci := 2) (C := RX2) (T := TX2) (N := 9) (v := .ref (a 8)) hx hb hts hin hown hK hP 1 rfl rfl 4 (by decide) hlink (fun _ h9 => h9) rfl hdg kk
theorem xl_4 (hx : p.tables.exec = Jvm.exec) (hb : c.code = cc) (hK : va_K (dC, dI) vwCl (gT cI cL cZ) s) (hP : va_P (dC, dI) vwCl (xW a cI cL cZ N J) H) {i : Nat} (hi : i < 6) {v : Nat} (hv : N 4 i = v) (hdg : decode cc pc = .ok (.iaload, 1)) (kk : W p l e R s m args below meth c H locs cells slots Q (F0 m (pc + 1) ls (.int (nI v) :: rest))) : W p l e R s m args below meth c H locs cells slots Q (F0 m (pc) ls (.int (nI i) :: .ref (a 8) :: rest)) := by
  subst hv
  exact va_iald hx hb hK hP 8 0 rfl rfl (vp_in_nI hi (by decide)) hdg (by rw [nI_clamp (by omega)]; exact kk)
theorem xs_4 (hx : p.tables.exec = Jvm.exec) (hb : c.code = cc) (hK : va_K (dC, dI) vwCl (gT cI cL cZ) s) (hP : va_P (dC, dI) vwCl (xW a cI cL cZ N J) H) (hD : va_D A (xW a cI cL cZ N J)) (hS : va_S A H0 H locs) {i : Nat} {v : Nat} (hi : i < 6) (hdg : decode cc pc = .ok (.iastore, 1)) (kk : ∀ (H1 : Heap) (locs1 : List Loc), va_P (dC, dI) vwCl (xW a cI cL cZ (uN N 4 i v) J) H1 → va_D A (xW a cI cL cZ (uN N 4 i v) J) → va_S A H0 H1 locs1 → W p l e R s m args below meth c H1 locs1 cells slots Q (F0 m (pc + 1) ls rest)) : W p l e R s m args below meth c H locs cells slots Q (F0 m (pc) ls (.int (nI v) :: .int (nI i) :: .ref (a 8) :: rest)) := by
  have e1 : (xW a cI cL cZ N J).set 8 (a 8, .inl (cI, 6, .inl (upd (fun j => nI (N 4 j)) i (nI v)))) = xW a cI cL cZ (uN N 4 i v) J := by rw [← uN_f N 4 i v]; rfl
  rw [← e1] at kk
  exact va_iast hx hb hK hP hD hS 8 0 rfl rfl (vp_in_nI hi (by decide)) hdg (by rw [nI_clamp (by omega)]; exact kk)
theorem xg_5 (hx : p.tables.exec = Jvm.exec) (hb : c.code = cc) {own : String} {index : Nat} {Ts : List Cond} (hts : ∀ w ∈ Ts, w.before args s = true) (hin : ∀ w ∈ wsX20, w ∈ Ts) (hown : s.vm.findClass own = some m.cls) (hK : va_K (dC, dI) vwCl (gT cI cL cZ) s) (hP : va_P (dC, dI) vwCl (xW a cI cL cZ N J) H) (hlink : (Cond.fieldLink own index "ScoreMachine$Setup" "latencies" "[I").before args s = true) (hdg : decode cc pc = .ok (.getfield index, 3)) (kk : W p l e R s m args below meth c H locs cells slots Q (F0 m (pc + 3) ls (.ref (a 9) :: rest))) : W p l e R s m args below meth c H locs cells slots Q (F0 m (pc) ls (.ref (a 1) :: rest)) :=
  va_get (D := (dC, dI)) (ci := 2) (C := RX2) (T := TX2) (N := 9) (v := .ref (a 9)) hx hb hts hin hown hK hP 1 rfl rfl 5 (by decide) hlink (fun _ h9 => h9) rfl hdg kk
theorem xl_5 (hx : p.tables.exec = Jvm.exec) (hb : c.code = cc) (hK : va_K (dC, dI) vwCl (gT cI cL cZ) s) (hP : va_P (dC, dI) vwCl (xW a cI cL cZ N J) H) {i : Nat} (hi : i < 6) {v : Nat} (hv : N 5 i = v) (hdg : decode cc pc = .ok (.iaload, 1)) (kk : W p l e R s m args below meth c H locs cells slots Q (F0 m (pc + 1) ls (.int (nI v) :: rest))) : W p l e R s m args below meth c H locs cells slots Q (F0 m (pc) ls (.int (nI i) :: .ref (a 9) :: rest)) := by
  subst hv
  exact va_iald hx hb hK hP 9 0 rfl rfl (vp_in_nI hi (by decide)) hdg (by rw [nI_clamp (by omega)]; exact kk)
theorem xs_5 (hx : p.tables.exec = Jvm.exec) (hb : c.code = cc) (hK : va_K (dC, dI) vwCl (gT cI cL cZ) s) (hP : va_P (dC, dI) vwCl (xW a cI cL cZ N J) H) (hD : va_D A (xW a cI cL cZ N J)) (hS : va_S A H0 H locs) {i : Nat} {v : Nat} (hi : i < 6) (hdg : decode cc pc = .ok (.iastore, 1)) (kk : ∀ (H1 : Heap) (locs1 : List Loc), va_P (dC, dI) vwCl (xW a cI cL cZ (uN N 5 i v) J) H1 → va_D A (xW a cI cL cZ (uN N 5 i v) J) → va_S A H0 H1 locs1 → W p l e R s m args below meth c H1 locs1 cells slots Q (F0 m (pc + 1) ls rest)) : W p l e R s m args below meth c H locs cells slots Q (F0 m (pc) ls (.int (nI v) :: .int (nI i) :: .ref (a 9) :: rest)) := by
  have e1 : (xW a cI cL cZ N J).set 9 (a 9, .inl (cI, 6, .inl (upd (fun j => nI (N 5 j)) i (nI v)))) = xW a cI cL cZ (uN N 5 i v) J := by rw [← uN_f N 5 i v]; rfl
  rw [← e1] at kk
  exact va_iast hx hb hK hP hD hS 9 0 rfl rfl (vp_in_nI hi (by decide)) hdg (by rw [nI_clamp (by omega)]; exact kk)
theorem xg_6 (hx : p.tables.exec = Jvm.exec) (hb : c.code = cc) {own : String} {index : Nat} {Ts : List Cond} (hts : ∀ w ∈ Ts, w.before args s = true) (hin : ∀ w ∈ wsX20, w ∈ Ts) (hown : s.vm.findClass own = some m.cls) (hK : va_K (dC, dI) vwCl (gT cI cL cZ) s) (hP : va_P (dC, dI) vwCl (xW a cI cL cZ N J) H) (hlink : (Cond.fieldLink own index "ScoreMachine$Setup" "registers" "[J").before args s = true) (hdg : decode cc pc = .ok (.getfield index, 3)) (kk : W p l e R s m args below meth c H locs cells slots Q (F0 m (pc + 3) ls (.ref (a 10) :: rest))) : W p l e R s m args below meth c H locs cells slots Q (F0 m (pc) ls (.ref (a 1) :: rest)) :=
  va_get (D := (dC, dI)) (ci := 2) (C := RX2) (T := TX2) (N := 9) (v := .ref (a 10)) hx hb hts hin hown hK hP 1 rfl rfl 6 (by decide) hlink (fun _ h9 => h9) rfl hdg kk
theorem xl_6 (hx : p.tables.exec = Jvm.exec) (hb : c.code = cc) (hK : va_K (dC, dI) vwCl (gT cI cL cZ) s) (hP : va_P (dC, dI) vwCl (xW a cI cL cZ N J) H) {i : Nat} (hi : i < 16) {v : Int64} (hv : J 6 i = v) (hdg : decode cc pc = .ok (.laload, 1)) (kk : W p l e R s m args below meth c H locs cells slots Q (F0 m (pc + 1) ls (.long v :: rest))) : W p l e R s m args below meth c H locs cells slots Q (F0 m (pc) ls (.int (nI i) :: .ref (a 10) :: rest)) := by
  subst hv
  exact va_lald hx hb hK hP 10 1 rfl rfl (vp_in_nI hi (by decide)) hdg (by rw [nI_clamp (by omega)]; exact kk)
theorem xs_6 (hx : p.tables.exec = Jvm.exec) (hb : c.code = cc) (hK : va_K (dC, dI) vwCl (gT cI cL cZ) s) (hP : va_P (dC, dI) vwCl (xW a cI cL cZ N J) H) (hD : va_D A (xW a cI cL cZ N J)) (hS : va_S A H0 H locs) {i : Nat} {v : Int64} (hi : i < 16) (hdg : decode cc pc = .ok (.lastore, 1)) (kk : ∀ (H1 : Heap) (locs1 : List Loc), va_P (dC, dI) vwCl (xW a cI cL cZ N (uJ J 6 i v)) H1 → va_D A (xW a cI cL cZ N (uJ J 6 i v)) → va_S A H0 H1 locs1 → W p l e R s m args below meth c H1 locs1 cells slots Q (F0 m (pc + 1) ls rest)) : W p l e R s m args below meth c H locs cells slots Q (F0 m (pc) ls (.long v :: .int (nI i) :: .ref (a 10) :: rest)) := by
  have e1 : (xW a cI cL cZ N J).set 10 (a 10, .inl (cL, 16, .inr (.inl (vp_updL (fun j => J 6 j) i v)))) = xW a cI cL cZ N (uJ J 6 i v) := by rw [← uJ_f J 6 i v]; rfl
  rw [← e1] at kk
  exact va_last hx hb hK hP hD hS 10 1 rfl rfl (vp_in_nI hi (by decide)) hdg (by rw [nI_clamp (by omega)]; exact kk)
theorem xg_7 (hx : p.tables.exec = Jvm.exec) (hb : c.code = cc) {own : String} {index : Nat} {Ts : List Cond} (hts : ∀ w ∈ Ts, w.before args s = true) (hin : ∀ w ∈ wsX20, w ∈ Ts) (hown : s.vm.findClass own = some m.cls) (hK : va_K (dC, dI) vwCl (gT cI cL cZ) s) (hP : va_P (dC, dI) vwCl (xW a cI cL cZ N J) H) (hlink : (Cond.fieldLink own index "ScoreMachine$Setup" "memory" "[J").before args s = true) (hdg : decode cc pc = .ok (.getfield index, 3)) (kk : W p l e R s m args below meth c H locs cells slots Q (F0 m (pc + 3) ls (.ref (a 11) :: rest))) : W p l e R s m args below meth c H locs cells slots Q (F0 m (pc) ls (.ref (a 1) :: rest)) :=
  va_get (D := (dC, dI)) (ci := 2) (C := RX2) (T := TX2) (N := 9) (v := .ref (a 11)) hx hb hts hin hown hK hP 1 rfl rfl 7 (by decide) hlink (fun _ h9 => h9) rfl hdg kk
theorem xl_7 (hx : p.tables.exec = Jvm.exec) (hb : c.code = cc) (hK : va_K (dC, dI) vwCl (gT cI cL cZ) s) (hP : va_P (dC, dI) vwCl (xW a cI cL cZ N J) H) {i : Nat} (hi : i < 256) {v : Int64} (hv : J 7 i = v) (hdg : decode cc pc = .ok (.laload, 1)) (kk : W p l e R s m args below meth c H locs cells slots Q (F0 m (pc + 1) ls (.long v :: rest))) : W p l e R s m args below meth c H locs cells slots Q (F0 m (pc) ls (.int (nI i) :: .ref (a 11) :: rest)) := by
  subst hv
  exact va_lald hx hb hK hP 11 1 rfl rfl (vp_in_nI hi (by decide)) hdg (by rw [nI_clamp (by omega)]; exact kk)
theorem xs_7 (hx : p.tables.exec = Jvm.exec) (hb : c.code = cc) (hK : va_K (dC, dI) vwCl (gT cI cL cZ) s) (hP : va_P (dC, dI) vwCl (xW a cI cL cZ N J) H) (hD : va_D A (xW a cI cL cZ N J)) (hS : va_S A H0 H locs) {i : Nat} {v : Int64} (hi : i < 256) (hdg : decode cc pc = .ok (.lastore, 1)) (kk : ∀ (H1 : Heap) (locs1 : List Loc), va_P (dC, dI) vwCl (xW a cI cL cZ N (uJ J 7 i v)) H1 → va_D A (xW a cI cL cZ N (uJ J 7 i v)) → va_S A H0 H1 locs1 → W p l e R s m args below meth c H1 locs1 cells slots Q (F0 m (pc + 1) ls rest)) : W p l e R s m args below meth c H locs cells slots Q (F0 m (pc) ls (.long v :: .int (nI i) :: .ref (a 11) :: rest)) := by
  have e1 : (xW a cI cL cZ N J).set 11 (a 11, .inl (cL, 256, .inr (.inl (vp_updL (fun j => J 7 j) i v)))) = xW a cI cL cZ N (uJ J 7 i v) := by rw [← uJ_f J 7 i v]; rfl
  rw [← e1] at kk
  exact va_last hx hb hK hP hD hS 11 1 rfl rfl (vp_in_nI hi (by decide)) hdg (by rw [nI_clamp (by omega)]; exact kk)
theorem xg_8 (hx : p.tables.exec = Jvm.exec) (hb : c.code = cc) {own : String} {index : Nat} {Ts : List Cond} (hts : ∀ w ∈ Ts, w.before args s = true) (hin : ∀ w ∈ wsX20, w ∈ Ts) (hown : s.vm.findClass own = some m.cls) (hK : va_K (dC, dI) vwCl (gT cI cL cZ) s) (hP : va_P (dC, dI) vwCl (xW a cI cL cZ N J) H) (hlink : (Cond.fieldLink own index "ScoreMachine$Setup" "width" "I").before args s = true) {v : Nat} (hv : N 8 0 = v) (hdg : decode cc pc = .ok (.getfield index, 3)) (kk : W p l e R s m args below meth c H locs cells slots Q (F0 m (pc + 3) ls (.int (nI v) :: rest))) : W p l e R s m args below meth c H locs cells slots Q (F0 m (pc) ls (.ref (a 1) :: rest)) :=
  va_get (D := (dC, dI)) (ci := 2) (C := RX2) (T := TX2) (N := 9) (v := .int (nI v)) hx hb hts hin hown hK hP 1 rfl rfl 8 (by decide) hlink (fun _ h9 => h9) (by rw [← hv]; rfl) hdg kk
theorem xp_8 (hx : p.tables.exec = Jvm.exec) (hb : c.code = cc) {own : String} {index : Nat} {Ts : List Cond} (hts : ∀ w ∈ Ts, w.before args s = true) (hin : ∀ w ∈ wsX20, w ∈ Ts) (hown : s.vm.findClass own = some m.cls) (hK : va_K (dC, dI) vwCl (gT cI cL cZ) s) (hP : va_P (dC, dI) vwCl (xW a cI cL cZ N J) H) (hD : va_D A (xW a cI cL cZ N J)) (hS : va_S A H0 H locs) (hlink : (Cond.fieldLink own index "ScoreMachine$Setup" "width" "I").before args s = true) {v : Nat} (hdg : decode cc pc = .ok (.putfield index, 3)) (kk : ∀ (H1 : Heap) (locs1 : List Loc), va_P (dC, dI) vwCl (xW a cI cL cZ (uN N 8 0 v) J) H1 → va_D A (xW a cI cL cZ (uN N 8 0 v) J) → va_S A H0 H1 locs1 → W p l e R s m args below meth c H1 locs1 cells slots Q (F0 m (pc + 3) ls rest)) : W p l e R s m args below meth c H locs cells slots Q (F0 m (pc) ls (.int (nI v) :: .ref (a 1) :: rest)) :=
  va_put (D := (dC, dI)) (ci := 2) (v := .int (nI v)) (ty := .int) (C := RX2) (T := TX2) (N := 9) hx hb hts hin tyX2 tyX2_ok nmX2 hown hK hP hD hS 1 rfl rfl 8 (by decide) hlink (fun _ h9 => h9) rfl (by decide +kernel) rfl rfl (Nat.le_of_ble_eq_true rfl) hdg (fun H1 locs1 q1 q2 q3 => kk H1 locs1 q1 q2 q3)
theorem xg_10 (hx : p.tables.exec = Jvm.exec) (hb : c.code = cc) {own : String} {index : Nat} {Ts : List Cond} (hts : ∀ w ∈ Ts, w.before args s = true) (hin : ∀ w ∈ wsX10, w ∈ Ts) (hown : s.vm.findClass own = some m.cls) (hK : va_K (dC, dI) vwCl (gT cI cL cZ) s) (hP : va_P (dC, dI) vwCl (xW a cI cL cZ N J) H) (hlink : (Cond.fieldLink own index "ScoreMachine$PlainMachine" "setup" "LScoreMachine$Setup;").before args s = true) (hdg : decode cc pc = .ok (.getfield index, 3)) (kk : W p l e R s m args below meth c H locs cells slots Q (F0 m (pc + 3) ls (.ref (a 1) :: rest))) : W p l e R s m args below meth c H locs cells slots Q (F0 m (pc) ls (.ref (a 2) :: rest)) :=
  va_get (D := (dC, dI)) (ci := 1) (C := RX1) (T := TX1) (N := 4) (v := .ref (a 1)) hx hb hts hin hown hK hP 2 rfl rfl 0 (by decide) hlink (fun _ h9 => h9) rfl hdg kk
theorem xg_11 (hx : p.tables.exec = Jvm.exec) (hb : c.code = cc) {own : String} {index : Nat} {Ts : List Cond} (hts : ∀ w ∈ Ts, w.before args s = true) (hin : ∀ w ∈ wsX10, w ∈ Ts) (hown : s.vm.findClass own = some m.cls) (hK : va_K (dC, dI) vwCl (gT cI cL cZ) s) (hP : va_P (dC, dI) vwCl (xW a cI cL cZ N J) H) (hlink : (Cond.fieldLink own index "ScoreMachine$PlainMachine" "registers" "[J").before args s = true) (hdg : decode cc pc = .ok (.getfield index, 3)) (kk : W p l e R s m args below meth c H locs cells slots Q (F0 m (pc + 3) ls (.ref (a 12) :: rest))) : W p l e R s m args below meth c H locs cells slots Q (F0 m (pc) ls (.ref (a 2) :: rest)) :=
  va_get (D := (dC, dI)) (ci := 1) (C := RX1) (T := TX1) (N := 4) (v := .ref (a 12)) hx hb hts hin hown hK hP 2 rfl rfl 1 (by decide) hlink (fun _ h9 => h9) rfl hdg kk
theorem xl_11 (hx : p.tables.exec = Jvm.exec) (hb : c.code = cc) (hK : va_K (dC, dI) vwCl (gT cI cL cZ) s) (hP : va_P (dC, dI) vwCl (xW a cI cL cZ N J) H) {i : Nat} (hi : i < 16) {v : Int64} (hv : J 11 i = v) (hdg : decode cc pc = .ok (.laload, 1)) (kk : W p l e R s m args below meth c H locs cells slots Q (F0 m (pc + 1) ls (.long v :: rest))) : W p l e R s m args below meth c H locs cells slots Q (F0 m (pc) ls (.int (nI i) :: .ref (a 12) :: rest)) := by
  subst hv
  exact va_lald hx hb hK hP 12 1 rfl rfl (vp_in_nI hi (by decide)) hdg (by rw [nI_clamp (by omega)]; exact kk)
theorem xs_11 (hx : p.tables.exec = Jvm.exec) (hb : c.code = cc) (hK : va_K (dC, dI) vwCl (gT cI cL cZ) s) (hP : va_P (dC, dI) vwCl (xW a cI cL cZ N J) H) (hD : va_D A (xW a cI cL cZ N J)) (hS : va_S A H0 H locs) {i : Nat} {v : Int64} (hi : i < 16) (hdg : decode cc pc = .ok (.lastore, 1)) (kk : ∀ (H1 : Heap) (locs1 : List Loc), va_P (dC, dI) vwCl (xW a cI cL cZ N (uJ J 11 i v)) H1 → va_D A (xW a cI cL cZ N (uJ J 11 i v)) → va_S A H0 H1 locs1 → W p l e R s m args below meth c H1 locs1 cells slots Q (F0 m (pc + 1) ls rest)) : W p l e R s m args below meth c H locs cells slots Q (F0 m (pc) ls (.long v :: .int (nI i) :: .ref (a 12) :: rest)) := by
  have e1 : (xW a cI cL cZ N J).set 12 (a 12, .inl (cL, 16, .inr (.inl (vp_updL (fun j => J 11 j) i v)))) = xW a cI cL cZ N (uJ J 11 i v) := by rw [← uJ_f J 11 i v]; rfl
  rw [← e1] at kk
  exact va_last hx hb hK hP hD hS 12 1 rfl rfl (vp_in_nI hi (by decide)) hdg (by rw [nI_clamp (by omega)]; exact kk)
theorem xg_12 (hx : p.tables.exec = Jvm.exec) (hb : c.code = cc) {own : String} {index : Nat} {Ts : List Cond} (hts : ∀ w ∈ Ts, w.before args s = true) (hin : ∀ w ∈ wsX10, w ∈ Ts) (hown : s.vm.findClass own = some m.cls) (hK : va_K (dC, dI) vwCl (gT cI cL cZ) s) (hP : va_P (dC, dI) vwCl (xW a cI cL cZ N J) H) (hlink : (Cond.fieldLink own index "ScoreMachine$PlainMachine" "memory" "[J").before args s = true) (hdg : decode cc pc = .ok (.getfield index, 3)) (kk : W p l e R s m args below meth c H locs cells slots Q (F0 m (pc + 3) ls (.ref (a 13) :: rest))) : W p l e R s m args below meth c H locs cells slots Q (F0 m (pc) ls (.ref (a 2) :: rest)) :=
  va_get (D := (dC, dI)) (ci := 1) (C := RX1) (T := TX1) (N := 4) (v := .ref (a 13)) hx hb hts hin hown hK hP 2 rfl rfl 2 (by decide) hlink (fun _ h9 => h9) rfl hdg kk
theorem xl_12 (hx : p.tables.exec = Jvm.exec) (hb : c.code = cc) (hK : va_K (dC, dI) vwCl (gT cI cL cZ) s) (hP : va_P (dC, dI) vwCl (xW a cI cL cZ N J) H) {i : Nat} (hi : i < 256) {v : Int64} (hv : J 12 i = v) (hdg : decode cc pc = .ok (.laload, 1)) (kk : W p l e R s m args below meth c H locs cells slots Q (F0 m (pc + 1) ls (.long v :: rest))) : W p l e R s m args below meth c H locs cells slots Q (F0 m (pc) ls (.int (nI i) :: .ref (a 13) :: rest)) := by
  subst hv
  exact va_lald hx hb hK hP 13 1 rfl rfl (vp_in_nI hi (by decide)) hdg (by rw [nI_clamp (by omega)]; exact kk)
theorem xs_12 (hx : p.tables.exec = Jvm.exec) (hb : c.code = cc) (hK : va_K (dC, dI) vwCl (gT cI cL cZ) s) (hP : va_P (dC, dI) vwCl (xW a cI cL cZ N J) H) (hD : va_D A (xW a cI cL cZ N J)) (hS : va_S A H0 H locs) {i : Nat} {v : Int64} (hi : i < 256) (hdg : decode cc pc = .ok (.lastore, 1)) (kk : ∀ (H1 : Heap) (locs1 : List Loc), va_P (dC, dI) vwCl (xW a cI cL cZ N (uJ J 12 i v)) H1 → va_D A (xW a cI cL cZ N (uJ J 12 i v)) → va_S A H0 H1 locs1 → W p l e R s m args below meth c H1 locs1 cells slots Q (F0 m (pc + 1) ls rest)) : W p l e R s m args below meth c H locs cells slots Q (F0 m (pc) ls (.long v :: .int (nI i) :: .ref (a 13) :: rest)) := by
  have e1 : (xW a cI cL cZ N J).set 13 (a 13, .inl (cL, 256, .inr (.inl (vp_updL (fun j => J 12 j) i v)))) = xW a cI cL cZ N (uJ J 12 i v) := by rw [← uJ_f J 12 i v]; rfl
  rw [← e1] at kk
  exact va_last hx hb hK hP hD hS 13 1 rfl rfl (vp_in_nI hi (by decide)) hdg (by rw [nI_clamp (by omega)]; exact kk)
theorem xg_13 (hx : p.tables.exec = Jvm.exec) (hb : c.code = cc) {own : String} {index : Nat} {Ts : List Cond} (hts : ∀ w ∈ Ts, w.before args s = true) (hin : ∀ w ∈ wsX10, w ∈ Ts) (hown : s.vm.findClass own = some m.cls) (hK : va_K (dC, dI) vwCl (gT cI cL cZ) s) (hP : va_P (dC, dI) vwCl (xW a cI cL cZ N J) H) (hlink : (Cond.fieldLink own index "ScoreMachine$PlainMachine" "place" "I").before args s = true) {v : Nat} (hv : N 13 0 = v) (hdg : decode cc pc = .ok (.getfield index, 3)) (kk : W p l e R s m args below meth c H locs cells slots Q (F0 m (pc + 3) ls (.int (nI v) :: rest))) : W p l e R s m args below meth c H locs cells slots Q (F0 m (pc) ls (.ref (a 2) :: rest)) :=
  va_get (D := (dC, dI)) (ci := 1) (C := RX1) (T := TX1) (N := 4) (v := .int (nI v)) hx hb hts hin hown hK hP 2 rfl rfl 3 (by decide) hlink (fun _ h9 => h9) (by rw [← hv]; rfl) hdg kk
theorem xp_13 (hx : p.tables.exec = Jvm.exec) (hb : c.code = cc) {own : String} {index : Nat} {Ts : List Cond} (hts : ∀ w ∈ Ts, w.before args s = true) (hin : ∀ w ∈ wsX10, w ∈ Ts) (hown : s.vm.findClass own = some m.cls) (hK : va_K (dC, dI) vwCl (gT cI cL cZ) s) (hP : va_P (dC, dI) vwCl (xW a cI cL cZ N J) H) (hD : va_D A (xW a cI cL cZ N J)) (hS : va_S A H0 H locs) (hlink : (Cond.fieldLink own index "ScoreMachine$PlainMachine" "place" "I").before args s = true) {v : Nat} (hdg : decode cc pc = .ok (.putfield index, 3)) (kk : ∀ (H1 : Heap) (locs1 : List Loc), va_P (dC, dI) vwCl (xW a cI cL cZ (uN N 13 0 v) J) H1 → va_D A (xW a cI cL cZ (uN N 13 0 v) J) → va_S A H0 H1 locs1 → W p l e R s m args below meth c H1 locs1 cells slots Q (F0 m (pc + 3) ls rest)) : W p l e R s m args below meth c H locs cells slots Q (F0 m (pc) ls (.int (nI v) :: .ref (a 2) :: rest)) :=
  va_put (D := (dC, dI)) (ci := 1) (v := .int (nI v)) (ty := .int) (C := RX1) (T := TX1) (N := 4) hx hb hts hin tyX1 tyX1_ok nmX1 hown hK hP hD hS 2 rfl rfl 3 (by decide) hlink (fun _ h9 => h9) rfl (by decide +kernel) rfl rfl (Nat.le_of_ble_eq_true rfl) hdg (fun H1 locs1 q1 q2 q3 => kk H1 locs1 q1 q2 q3)
theorem xg_20 (hx : p.tables.exec = Jvm.exec) (hb : c.code = cc) {own : String} {index : Nat} {Ts : List Cond} (hts : ∀ w ∈ Ts, w.before args s = true) (hin : ∀ w ∈ wsX00, w ∈ Ts) (hown : s.vm.findClass own = some m.cls) (hK : va_K (dC, dI) vwCl (gT cI cL cZ) s) (hP : va_P (dC, dI) vwCl (xW a cI cL cZ N J) H) (hlink : (Cond.fieldLink own index "ScoreMachine$Board" "setup" "LScoreMachine$Setup;").before args s = true) (hdg : decode cc pc = .ok (.getfield index, 3)) (kk : W p l e R s m args below meth c H locs cells slots Q (F0 m (pc + 3) ls (.ref (a 1) :: rest))) : W p l e R s m args below meth c H locs cells slots Q (F0 m (pc) ls (.ref (a 3) :: rest)) :=
  va_get (D := (dC, dI)) (ci := 0) (C := RX0) (T := TX0) (N := 18) (v := .ref (a 1)) hx hb hts hin hown hK hP 3 rfl rfl 0 (by decide) hlink (fun _ h9 => h9) rfl hdg kk
theorem xg_21 (hx : p.tables.exec = Jvm.exec) (hb : c.code = cc) {own : String} {index : Nat} {Ts : List Cond} (hts : ∀ w ∈ Ts, w.before args s = true) (hin : ∀ w ∈ wsX00, w ∈ Ts) (hown : s.vm.findClass own = some m.cls) (hK : va_K (dC, dI) vwCl (gT cI cL cZ) s) (hP : va_P (dC, dI) vwCl (xW a cI cL cZ N J) H) (hlink : (Cond.fieldLink own index "ScoreMachine$Board" "plainMachine" "LScoreMachine$PlainMachine;").before args s = true) (hdg : decode cc pc = .ok (.getfield index, 3)) (kk : W p l e R s m args below meth c H locs cells slots Q (F0 m (pc + 3) ls (.ref (a 2) :: rest))) : W p l e R s m args below meth c H locs cells slots Q (F0 m (pc) ls (.ref (a 3) :: rest)) :=
  va_get (D := (dC, dI)) (ci := 0) (C := RX0) (T := TX0) (N := 18) (v := .ref (a 2)) hx hb hts hin hown hK hP 3 rfl rfl 1 (by decide) hlink (fun _ h9 => h9) rfl hdg kk
theorem xg_22 (hx : p.tables.exec = Jvm.exec) (hb : c.code = cc) {own : String} {index : Nat} {Ts : List Cond} (hts : ∀ w ∈ Ts, w.before args s = true) (hin : ∀ w ∈ wsX00, w ∈ Ts) (hown : s.vm.findClass own = some m.cls) (hK : va_K (dC, dI) vwCl (gT cI cL cZ) s) (hP : va_P (dC, dI) vwCl (xW a cI cL cZ N J) H) (hlink : (Cond.fieldLink own index "ScoreMachine$Board" "cycle" "I").before args s = true) {v : Nat} (hv : N 22 0 = v) (hdg : decode cc pc = .ok (.getfield index, 3)) (kk : W p l e R s m args below meth c H locs cells slots Q (F0 m (pc + 3) ls (.int (nI v) :: rest))) : W p l e R s m args below meth c H locs cells slots Q (F0 m (pc) ls (.ref (a 3) :: rest)) :=
  va_get (D := (dC, dI)) (ci := 0) (C := RX0) (T := TX0) (N := 18) (v := .int (nI v)) hx hb hts hin hown hK hP 3 rfl rfl 2 (by decide) hlink (fun _ h9 => h9) (by rw [← hv]; rfl) hdg kk
theorem xp_22 (hx : p.tables.exec = Jvm.exec) (hb : c.code = cc) {own : String} {index : Nat} {Ts : List Cond} (hts : ∀ w ∈ Ts, w.before args s = true) (hin : ∀ w ∈ wsX00, w ∈ Ts) (hown : s.vm.findClass own = some m.cls) (hK : va_K (dC, dI) vwCl (gT cI cL cZ) s) (hP : va_P (dC, dI) vwCl (xW a cI cL cZ N J) H) (hD : va_D A (xW a cI cL cZ N J)) (hS : va_S A H0 H locs) (hlink : (Cond.fieldLink own index "ScoreMachine$Board" "cycle" "I").before args s = true) {v : Nat} (hdg : decode cc pc = .ok (.putfield index, 3)) (kk : ∀ (H1 : Heap) (locs1 : List Loc), va_P (dC, dI) vwCl (xW a cI cL cZ (uN N 22 0 v) J) H1 → va_D A (xW a cI cL cZ (uN N 22 0 v) J) → va_S A H0 H1 locs1 → W p l e R s m args below meth c H1 locs1 cells slots Q (F0 m (pc + 3) ls rest)) : W p l e R s m args below meth c H locs cells slots Q (F0 m (pc) ls (.int (nI v) :: .ref (a 3) :: rest)) :=
  va_put (D := (dC, dI)) (ci := 0) (v := .int (nI v)) (ty := .int) (C := RX0) (T := TX0) (N := 18) hx hb hts hin tyX0 tyX0_ok nmX0 hown hK hP hD hS 3 rfl rfl 2 (by decide) hlink (fun _ h9 => h9) rfl (by decide +kernel) rfl rfl (Nat.le_of_ble_eq_true rfl) hdg (fun H1 locs1 q1 q2 q3 => kk H1 locs1 q1 q2 q3)
theorem xg_23 (hx : p.tables.exec = Jvm.exec) (hb : c.code = cc) {own : String} {index : Nat} {Ts : List Cond} (hts : ∀ w ∈ Ts, w.before args s = true) (hin : ∀ w ∈ wsX00, w ∈ Ts) (hown : s.vm.findClass own = some m.cls) (hK : va_K (dC, dI) vwCl (gT cI cL cZ) s) (hP : va_P (dC, dI) vwCl (xW a cI cL cZ N J) H) (hlink : (Cond.fieldLink own index "ScoreMachine$Board" "over" "Z").before args s = true) {v : Nat} (hv : N 23 0 = v) (hdg : decode cc pc = .ok (.getfield index, 3)) (kk : W p l e R s m args below meth c H locs cells slots Q (F0 m (pc + 3) ls (.int (nI v) :: rest))) : W p l e R s m args below meth c H locs cells slots Q (F0 m (pc) ls (.ref (a 3) :: rest)) :=
  va_get (D := (dC, dI)) (ci := 0) (C := RX0) (T := TX0) (N := 18) (v := .int (nI v)) hx hb hts hin hown hK hP 3 rfl rfl 3 (by decide) hlink (fun _ h9 => h9) (by rw [← hv]; rfl) hdg kk
theorem xp_23 (hx : p.tables.exec = Jvm.exec) (hb : c.code = cc) {own : String} {index : Nat} {Ts : List Cond} (hts : ∀ w ∈ Ts, w.before args s = true) (hin : ∀ w ∈ wsX00, w ∈ Ts) (hown : s.vm.findClass own = some m.cls) (hK : va_K (dC, dI) vwCl (gT cI cL cZ) s) (hP : va_P (dC, dI) vwCl (xW a cI cL cZ N J) H) (hD : va_D A (xW a cI cL cZ N J)) (hS : va_S A H0 H locs) (hlink : (Cond.fieldLink own index "ScoreMachine$Board" "over" "Z").before args s = true) {v : Nat} (hv : v < 2) (hdg : decode cc pc = .ok (.putfield index, 3)) (kk : ∀ (H1 : Heap) (locs1 : List Loc), va_P (dC, dI) vwCl (xW a cI cL cZ (uN N 23 0 v) J) H1 → va_D A (xW a cI cL cZ (uN N 23 0 v) J) → va_S A H0 H1 locs1 → W p l e R s m args below meth c H1 locs1 cells slots Q (F0 m (pc + 3) ls rest)) : W p l e R s m args below meth c H locs cells slots Q (F0 m (pc) ls (.int (nI v) :: .ref (a 3) :: rest)) :=
  va_put (D := (dC, dI)) (ci := 0) (v := .int (nI v)) (ty := .boolean) (C := RX0) (T := TX0) (N := 18) hx hb hts hin tyX0 tyX0_ok nmX0 hown hK hP hD hS 3 rfl rfl 3 (by decide) hlink (fun _ h9 => h9) rfl (by decide +kernel) (by rcases (show v = 0 ∨ v = 1 by omega) with h | h <;> subst h <;> decide) (by rcases (show v = 0 ∨ v = 1 by omega) with h | h <;> subst h <;> decide) (Nat.le_of_ble_eq_true rfl) hdg (fun H1 locs1 q1 q2 q3 => kk H1 locs1 q1 q2 q3)
theorem xg_24 (hx : p.tables.exec = Jvm.exec) (hb : c.code = cc) {own : String} {index : Nat} {Ts : List Cond} (hts : ∀ w ∈ Ts, w.before args s = true) (hin : ∀ w ∈ wsX00, w ∈ Ts) (hown : s.vm.findClass own = some m.cls) (hK : va_K (dC, dI) vwCl (gT cI cL cZ) s) (hP : va_P (dC, dI) vwCl (xW a cI cL cZ N J) H) (hlink : (Cond.fieldLink own index "ScoreMachine$Board" "issued" "I").before args s = true) {v : Nat} (hv : N 24 0 = v) (hdg : decode cc pc = .ok (.getfield index, 3)) (kk : W p l e R s m args below meth c H locs cells slots Q (F0 m (pc + 3) ls (.int (nI v) :: rest))) : W p l e R s m args below meth c H locs cells slots Q (F0 m (pc) ls (.ref (a 3) :: rest)) :=
  va_get (D := (dC, dI)) (ci := 0) (C := RX0) (T := TX0) (N := 18) (v := .int (nI v)) hx hb hts hin hown hK hP 3 rfl rfl 4 (by decide) hlink (fun _ h9 => h9) (by rw [← hv]; rfl) hdg kk
theorem xp_24 (hx : p.tables.exec = Jvm.exec) (hb : c.code = cc) {own : String} {index : Nat} {Ts : List Cond} (hts : ∀ w ∈ Ts, w.before args s = true) (hin : ∀ w ∈ wsX00, w ∈ Ts) (hown : s.vm.findClass own = some m.cls) (hK : va_K (dC, dI) vwCl (gT cI cL cZ) s) (hP : va_P (dC, dI) vwCl (xW a cI cL cZ N J) H) (hD : va_D A (xW a cI cL cZ N J)) (hS : va_S A H0 H locs) (hlink : (Cond.fieldLink own index "ScoreMachine$Board" "issued" "I").before args s = true) {v : Nat} (hdg : decode cc pc = .ok (.putfield index, 3)) (kk : ∀ (H1 : Heap) (locs1 : List Loc), va_P (dC, dI) vwCl (xW a cI cL cZ (uN N 24 0 v) J) H1 → va_D A (xW a cI cL cZ (uN N 24 0 v) J) → va_S A H0 H1 locs1 → W p l e R s m args below meth c H1 locs1 cells slots Q (F0 m (pc + 3) ls rest)) : W p l e R s m args below meth c H locs cells slots Q (F0 m (pc) ls (.int (nI v) :: .ref (a 3) :: rest)) :=
  va_put (D := (dC, dI)) (ci := 0) (v := .int (nI v)) (ty := .int) (C := RX0) (T := TX0) (N := 18) hx hb hts hin tyX0 tyX0_ok nmX0 hown hK hP hD hS 3 rfl rfl 4 (by decide) hlink (fun _ h9 => h9) rfl (by decide +kernel) rfl rfl (Nat.le_of_ble_eq_true rfl) hdg (fun H1 locs1 q1 q2 q3 => kk H1 locs1 q1 q2 q3)
theorem xg_25 (hx : p.tables.exec = Jvm.exec) (hb : c.code = cc) {own : String} {index : Nat} {Ts : List Cond} (hts : ∀ w ∈ Ts, w.before args s = true) (hin : ∀ w ∈ wsX00, w ∈ Ts) (hown : s.vm.findClass own = some m.cls) (hK : va_K (dC, dI) vwCl (gT cI cL cZ) s) (hP : va_P (dC, dI) vwCl (xW a cI cL cZ N J) H) (hlink : (Cond.fieldLink own index "ScoreMachine$Board" "stalls" "[I").before args s = true) (hdg : decode cc pc = .ok (.getfield index, 3)) (kk : W p l e R s m args below meth c H locs cells slots Q (F0 m (pc + 3) ls (.ref (a 14) :: rest))) : W p l e R s m args below meth c H locs cells slots Q (F0 m (pc) ls (.ref (a 3) :: rest)) :=
  va_get (D := (dC, dI)) (ci := 0) (C := RX0) (T := TX0) (N := 18) (v := .ref (a 14)) hx hb hts hin hown hK hP 3 rfl rfl 5 (by decide) hlink (fun _ h9 => h9) rfl hdg kk
theorem xl_25 (hx : p.tables.exec = Jvm.exec) (hb : c.code = cc) (hK : va_K (dC, dI) vwCl (gT cI cL cZ) s) (hP : va_P (dC, dI) vwCl (xW a cI cL cZ N J) H) {i : Nat} (hi : i < 4) {v : Nat} (hv : N 25 i = v) (hdg : decode cc pc = .ok (.iaload, 1)) (kk : W p l e R s m args below meth c H locs cells slots Q (F0 m (pc + 1) ls (.int (nI v) :: rest))) : W p l e R s m args below meth c H locs cells slots Q (F0 m (pc) ls (.int (nI i) :: .ref (a 14) :: rest)) := by
  subst hv
  exact va_iald hx hb hK hP 14 0 rfl rfl (vp_in_nI hi (by decide)) hdg (by rw [nI_clamp (by omega)]; exact kk)
theorem xs_25 (hx : p.tables.exec = Jvm.exec) (hb : c.code = cc) (hK : va_K (dC, dI) vwCl (gT cI cL cZ) s) (hP : va_P (dC, dI) vwCl (xW a cI cL cZ N J) H) (hD : va_D A (xW a cI cL cZ N J)) (hS : va_S A H0 H locs) {i : Nat} {v : Nat} (hi : i < 4) (hdg : decode cc pc = .ok (.iastore, 1)) (kk : ∀ (H1 : Heap) (locs1 : List Loc), va_P (dC, dI) vwCl (xW a cI cL cZ (uN N 25 i v) J) H1 → va_D A (xW a cI cL cZ (uN N 25 i v) J) → va_S A H0 H1 locs1 → W p l e R s m args below meth c H1 locs1 cells slots Q (F0 m (pc + 1) ls rest)) : W p l e R s m args below meth c H locs cells slots Q (F0 m (pc) ls (.int (nI v) :: .int (nI i) :: .ref (a 14) :: rest)) := by
  have e1 : (xW a cI cL cZ N J).set 14 (a 14, .inl (cI, 4, .inl (upd (fun j => nI (N 25 j)) i (nI v)))) = xW a cI cL cZ (uN N 25 i v) J := by rw [← uN_f N 25 i v]; rfl
  rw [← e1] at kk
  exact va_iast hx hb hK hP hD hS 14 0 rfl rfl (vp_in_nI hi (by decide)) hdg (by rw [nI_clamp (by omega)]; exact kk)
theorem xg_26 (hx : p.tables.exec = Jvm.exec) (hb : c.code = cc) {own : String} {index : Nat} {Ts : List Cond} (hts : ∀ w ∈ Ts, w.before args s = true) (hin : ∀ w ∈ wsX00, w ∈ Ts) (hown : s.vm.findClass own = some m.cls) (hK : va_K (dC, dI) vwCl (gT cI cL cZ) s) (hP : va_P (dC, dI) vwCl (xW a cI cL cZ N J) H) (hlink : (Cond.fieldLink own index "ScoreMachine$Board" "writer" "[I").before args s = true) (hdg : decode cc pc = .ok (.getfield index, 3)) (kk : W p l e R s m args below meth c H locs cells slots Q (F0 m (pc + 3) ls (.ref (a 15) :: rest))) : W p l e R s m args below meth c H locs cells slots Q (F0 m (pc) ls (.ref (a 3) :: rest)) :=
  va_get (D := (dC, dI)) (ci := 0) (C := RX0) (T := TX0) (N := 18) (v := .ref (a 15)) hx hb hts hin hown hK hP 3 rfl rfl 6 (by decide) hlink (fun _ h9 => h9) rfl hdg kk
theorem xl_26 (hx : p.tables.exec = Jvm.exec) (hb : c.code = cc) (hK : va_K (dC, dI) vwCl (gT cI cL cZ) s) (hP : va_P (dC, dI) vwCl (xW a cI cL cZ N J) H) {i : Nat} (hi : i < 16) {v : Nat} (hv : N 26 i = v) (hdg : decode cc pc = .ok (.iaload, 1)) (kk : W p l e R s m args below meth c H locs cells slots Q (F0 m (pc + 1) ls (.int (nI v) :: rest))) : W p l e R s m args below meth c H locs cells slots Q (F0 m (pc) ls (.int (nI i) :: .ref (a 15) :: rest)) := by
  subst hv
  exact va_iald hx hb hK hP 15 0 rfl rfl (vp_in_nI hi (by decide)) hdg (by rw [nI_clamp (by omega)]; exact kk)
theorem xs_26 (hx : p.tables.exec = Jvm.exec) (hb : c.code = cc) (hK : va_K (dC, dI) vwCl (gT cI cL cZ) s) (hP : va_P (dC, dI) vwCl (xW a cI cL cZ N J) H) (hD : va_D A (xW a cI cL cZ N J)) (hS : va_S A H0 H locs) {i : Nat} {v : Nat} (hi : i < 16) (hdg : decode cc pc = .ok (.iastore, 1)) (kk : ∀ (H1 : Heap) (locs1 : List Loc), va_P (dC, dI) vwCl (xW a cI cL cZ (uN N 26 i v) J) H1 → va_D A (xW a cI cL cZ (uN N 26 i v) J) → va_S A H0 H1 locs1 → W p l e R s m args below meth c H1 locs1 cells slots Q (F0 m (pc + 1) ls rest)) : W p l e R s m args below meth c H locs cells slots Q (F0 m (pc) ls (.int (nI v) :: .int (nI i) :: .ref (a 15) :: rest)) := by
  have e1 : (xW a cI cL cZ N J).set 15 (a 15, .inl (cI, 16, .inl (upd (fun j => nI (N 26 j)) i (nI v)))) = xW a cI cL cZ (uN N 26 i v) J := by rw [← uN_f N 26 i v]; rfl
  rw [← e1] at kk
  exact va_iast hx hb hK hP hD hS 15 0 rfl rfl (vp_in_nI hi (by decide)) hdg (by rw [nI_clamp (by omega)]; exact kk)
theorem xg_27 (hx : p.tables.exec = Jvm.exec) (hb : c.code = cc) {own : String} {index : Nat} {Ts : List Cond} (hts : ∀ w ∈ Ts, w.before args s = true) (hin : ∀ w ∈ wsX00, w ∈ Ts) (hown : s.vm.findClass own = some m.cls) (hK : va_K (dC, dI) vwCl (gT cI cL cZ) s) (hP : va_P (dC, dI) vwCl (xW a cI cL cZ N J) H) (hlink : (Cond.fieldLink own index "ScoreMachine$Board" "writtenAt" "[I").before args s = true) (hdg : decode cc pc = .ok (.getfield index, 3)) (kk : W p l e R s m args below meth c H locs cells slots Q (F0 m (pc + 3) ls (.ref (a 16) :: rest))) : W p l e R s m args below meth c H locs cells slots Q (F0 m (pc) ls (.ref (a 3) :: rest)) :=
  va_get (D := (dC, dI)) (ci := 0) (C := RX0) (T := TX0) (N := 18) (v := .ref (a 16)) hx hb hts hin hown hK hP 3 rfl rfl 7 (by decide) hlink (fun _ h9 => h9) rfl hdg kk
theorem xl_27 (hx : p.tables.exec = Jvm.exec) (hb : c.code = cc) (hK : va_K (dC, dI) vwCl (gT cI cL cZ) s) (hP : va_P (dC, dI) vwCl (xW a cI cL cZ N J) H) {i : Nat} (hi : i < 16) {v : Nat} (hv : N 27 i = v) (hdg : decode cc pc = .ok (.iaload, 1)) (kk : W p l e R s m args below meth c H locs cells slots Q (F0 m (pc + 1) ls (.int (nI v) :: rest))) : W p l e R s m args below meth c H locs cells slots Q (F0 m (pc) ls (.int (nI i) :: .ref (a 16) :: rest)) := by
  subst hv
  exact va_iald hx hb hK hP 16 0 rfl rfl (vp_in_nI hi (by decide)) hdg (by rw [nI_clamp (by omega)]; exact kk)
theorem xs_27 (hx : p.tables.exec = Jvm.exec) (hb : c.code = cc) (hK : va_K (dC, dI) vwCl (gT cI cL cZ) s) (hP : va_P (dC, dI) vwCl (xW a cI cL cZ N J) H) (hD : va_D A (xW a cI cL cZ N J)) (hS : va_S A H0 H locs) {i : Nat} {v : Nat} (hi : i < 16) (hdg : decode cc pc = .ok (.iastore, 1)) (kk : ∀ (H1 : Heap) (locs1 : List Loc), va_P (dC, dI) vwCl (xW a cI cL cZ (uN N 27 i v) J) H1 → va_D A (xW a cI cL cZ (uN N 27 i v) J) → va_S A H0 H1 locs1 → W p l e R s m args below meth c H1 locs1 cells slots Q (F0 m (pc + 1) ls rest)) : W p l e R s m args below meth c H locs cells slots Q (F0 m (pc) ls (.int (nI v) :: .int (nI i) :: .ref (a 16) :: rest)) := by
  have e1 : (xW a cI cL cZ N J).set 16 (a 16, .inl (cI, 16, .inl (upd (fun j => nI (N 27 j)) i (nI v)))) = xW a cI cL cZ (uN N 27 i v) J := by rw [← uN_f N 27 i v]; rfl
  rw [← e1] at kk
  exact va_iast hx hb hK hP hD hS 16 0 rfl rfl (vp_in_nI hi (by decide)) hdg (by rw [nI_clamp (by omega)]; exact kk)
theorem xg_28 (hx : p.tables.exec = Jvm.exec) (hb : c.code = cc) {own : String} {index : Nat} {Ts : List Cond} (hts : ∀ w ∈ Ts, w.before args s = true) (hin : ∀ w ∈ wsX00, w ∈ Ts) (hown : s.vm.findClass own = some m.cls) (hK : va_K (dC, dI) vwCl (gT cI cL cZ) s) (hP : va_P (dC, dI) vwCl (xW a cI cL cZ N J) H) (hlink : (Cond.fieldLink own index "ScoreMachine$Board" "heldBefore" "[J").before args s = true) (hdg : decode cc pc = .ok (.getfield index, 3)) (kk : W p l e R s m args below meth c H locs cells slots Q (F0 m (pc + 3) ls (.ref (a 17) :: rest))) : W p l e R s m args below meth c H locs cells slots Q (F0 m (pc) ls (.ref (a 3) :: rest)) :=
  va_get (D := (dC, dI)) (ci := 0) (C := RX0) (T := TX0) (N := 18) (v := .ref (a 17)) hx hb hts hin hown hK hP 3 rfl rfl 8 (by decide) hlink (fun _ h9 => h9) rfl hdg kk
theorem xl_28 (hx : p.tables.exec = Jvm.exec) (hb : c.code = cc) (hK : va_K (dC, dI) vwCl (gT cI cL cZ) s) (hP : va_P (dC, dI) vwCl (xW a cI cL cZ N J) H) {i : Nat} (hi : i < 16) {v : Int64} (hv : J 28 i = v) (hdg : decode cc pc = .ok (.laload, 1)) (kk : W p l e R s m args below meth c H locs cells slots Q (F0 m (pc + 1) ls (.long v :: rest))) : W p l e R s m args below meth c H locs cells slots Q (F0 m (pc) ls (.int (nI i) :: .ref (a 17) :: rest)) := by
  subst hv
  exact va_lald hx hb hK hP 17 1 rfl rfl (vp_in_nI hi (by decide)) hdg (by rw [nI_clamp (by omega)]; exact kk)
theorem xs_28 (hx : p.tables.exec = Jvm.exec) (hb : c.code = cc) (hK : va_K (dC, dI) vwCl (gT cI cL cZ) s) (hP : va_P (dC, dI) vwCl (xW a cI cL cZ N J) H) (hD : va_D A (xW a cI cL cZ N J)) (hS : va_S A H0 H locs) {i : Nat} {v : Int64} (hi : i < 16) (hdg : decode cc pc = .ok (.lastore, 1)) (kk : ∀ (H1 : Heap) (locs1 : List Loc), va_P (dC, dI) vwCl (xW a cI cL cZ N (uJ J 28 i v)) H1 → va_D A (xW a cI cL cZ N (uJ J 28 i v)) → va_S A H0 H1 locs1 → W p l e R s m args below meth c H1 locs1 cells slots Q (F0 m (pc + 1) ls rest)) : W p l e R s m args below meth c H locs cells slots Q (F0 m (pc) ls (.long v :: .int (nI i) :: .ref (a 17) :: rest)) := by
  have e1 : (xW a cI cL cZ N J).set 17 (a 17, .inl (cL, 16, .inr (.inl (vp_updL (fun j => J 28 j) i v)))) = xW a cI cL cZ N (uJ J 28 i v) := by rw [← uJ_f J 28 i v]; rfl
  rw [← e1] at kk
  exact va_last hx hb hK hP hD hS 17 1 rfl rfl (vp_in_nI hi (by decide)) hdg (by rw [nI_clamp (by omega)]; exact kk)
theorem xg_29 (hx : p.tables.exec = Jvm.exec) (hb : c.code = cc) {own : String} {index : Nat} {Ts : List Cond} (hts : ∀ w ∈ Ts, w.before args s = true) (hin : ∀ w ∈ wsX00, w ∈ Ts) (hown : s.vm.findClass own = some m.cls) (hK : va_K (dC, dI) vwCl (gT cI cL cZ) s) (hP : va_P (dC, dI) vwCl (xW a cI cL cZ N J) H) (hlink : (Cond.fieldLink own index "ScoreMachine$Board" "readAt" "[I").before args s = true) (hdg : decode cc pc = .ok (.getfield index, 3)) (kk : W p l e R s m args below meth c H locs cells slots Q (F0 m (pc + 3) ls (.ref (a 18) :: rest))) : W p l e R s m args below meth c H locs cells slots Q (F0 m (pc) ls (.ref (a 3) :: rest)) :=
  va_get (D := (dC, dI)) (ci := 0) (C := RX0) (T := TX0) (N := 18) (v := .ref (a 18)) hx hb hts hin hown hK hP 3 rfl rfl 9 (by decide) hlink (fun _ h9 => h9) rfl hdg kk
theorem xl_29 (hx : p.tables.exec = Jvm.exec) (hb : c.code = cc) (hK : va_K (dC, dI) vwCl (gT cI cL cZ) s) (hP : va_P (dC, dI) vwCl (xW a cI cL cZ N J) H) {i : Nat} (hi : i < 16) {v : Nat} (hv : N 29 i = v) (hdg : decode cc pc = .ok (.iaload, 1)) (kk : W p l e R s m args below meth c H locs cells slots Q (F0 m (pc + 1) ls (.int (nI v) :: rest))) : W p l e R s m args below meth c H locs cells slots Q (F0 m (pc) ls (.int (nI i) :: .ref (a 18) :: rest)) := by
  subst hv
  exact va_iald hx hb hK hP 18 0 rfl rfl (vp_in_nI hi (by decide)) hdg (by rw [nI_clamp (by omega)]; exact kk)
theorem xs_29 (hx : p.tables.exec = Jvm.exec) (hb : c.code = cc) (hK : va_K (dC, dI) vwCl (gT cI cL cZ) s) (hP : va_P (dC, dI) vwCl (xW a cI cL cZ N J) H) (hD : va_D A (xW a cI cL cZ N J)) (hS : va_S A H0 H locs) {i : Nat} {v : Nat} (hi : i < 16) (hdg : decode cc pc = .ok (.iastore, 1)) (kk : ∀ (H1 : Heap) (locs1 : List Loc), va_P (dC, dI) vwCl (xW a cI cL cZ (uN N 29 i v) J) H1 → va_D A (xW a cI cL cZ (uN N 29 i v) J) → va_S A H0 H1 locs1 → W p l e R s m args below meth c H1 locs1 cells slots Q (F0 m (pc + 1) ls rest)) : W p l e R s m args below meth c H locs cells slots Q (F0 m (pc) ls (.int (nI v) :: .int (nI i) :: .ref (a 18) :: rest)) := by
  have e1 : (xW a cI cL cZ N J).set 18 (a 18, .inl (cI, 16, .inl (upd (fun j => nI (N 29 j)) i (nI v)))) = xW a cI cL cZ (uN N 29 i v) J := by rw [← uN_f N 29 i v]; rfl
  rw [← e1] at kk
  exact va_iast hx hb hK hP hD hS 18 0 rfl rfl (vp_in_nI hi (by decide)) hdg (by rw [nI_clamp (by omega)]; exact kk)
theorem xg_30 (hx : p.tables.exec = Jvm.exec) (hb : c.code = cc) {own : String} {index : Nat} {Ts : List Cond} (hts : ∀ w ∈ Ts, w.before args s = true) (hin : ∀ w ∈ wsX00, w ∈ Ts) (hown : s.vm.findClass own = some m.cls) (hK : va_K (dC, dI) vwCl (gT cI cL cZ) s) (hP : va_P (dC, dI) vwCl (xW a cI cL cZ N J) H) (hlink : (Cond.fieldLink own index "ScoreMachine$Board" "storeCell" "I").before args s = true) {v : Nat} (hv : N 30 0 = v) (hdg : decode cc pc = .ok (.getfield index, 3)) (kk : W p l e R s m args below meth c H locs cells slots Q (F0 m (pc + 3) ls (.int (nI v) :: rest))) : W p l e R s m args below meth c H locs cells slots Q (F0 m (pc) ls (.ref (a 3) :: rest)) :=
  va_get (D := (dC, dI)) (ci := 0) (C := RX0) (T := TX0) (N := 18) (v := .int (nI v)) hx hb hts hin hown hK hP 3 rfl rfl 10 (by decide) hlink (fun _ h9 => h9) (by rw [← hv]; rfl) hdg kk
theorem xp_30 (hx : p.tables.exec = Jvm.exec) (hb : c.code = cc) {own : String} {index : Nat} {Ts : List Cond} (hts : ∀ w ∈ Ts, w.before args s = true) (hin : ∀ w ∈ wsX00, w ∈ Ts) (hown : s.vm.findClass own = some m.cls) (hK : va_K (dC, dI) vwCl (gT cI cL cZ) s) (hP : va_P (dC, dI) vwCl (xW a cI cL cZ N J) H) (hD : va_D A (xW a cI cL cZ N J)) (hS : va_S A H0 H locs) (hlink : (Cond.fieldLink own index "ScoreMachine$Board" "storeCell" "I").before args s = true) {v : Nat} (hdg : decode cc pc = .ok (.putfield index, 3)) (kk : ∀ (H1 : Heap) (locs1 : List Loc), va_P (dC, dI) vwCl (xW a cI cL cZ (uN N 30 0 v) J) H1 → va_D A (xW a cI cL cZ (uN N 30 0 v) J) → va_S A H0 H1 locs1 → W p l e R s m args below meth c H1 locs1 cells slots Q (F0 m (pc + 3) ls rest)) : W p l e R s m args below meth c H locs cells slots Q (F0 m (pc) ls (.int (nI v) :: .ref (a 3) :: rest)) :=
  va_put (D := (dC, dI)) (ci := 0) (v := .int (nI v)) (ty := .int) (C := RX0) (T := TX0) (N := 18) hx hb hts hin tyX0 tyX0_ok nmX0 hown hK hP hD hS 3 rfl rfl 10 (by decide) hlink (fun _ h9 => h9) rfl (by decide +kernel) rfl rfl (Nat.le_of_ble_eq_true rfl) hdg (fun H1 locs1 q1 q2 q3 => kk H1 locs1 q1 q2 q3)
theorem xg_31 (hx : p.tables.exec = Jvm.exec) (hb : c.code = cc) {own : String} {index : Nat} {Ts : List Cond} (hts : ∀ w ∈ Ts, w.before args s = true) (hin : ∀ w ∈ wsX00, w ∈ Ts) (hown : s.vm.findClass own = some m.cls) (hK : va_K (dC, dI) vwCl (gT cI cL cZ) s) (hP : va_P (dC, dI) vwCl (xW a cI cL cZ N J) H) (hlink : (Cond.fieldLink own index "ScoreMachine$Board" "storeWritten" "I").before args s = true) {v : Nat} (hv : N 31 0 = v) (hdg : decode cc pc = .ok (.getfield index, 3)) (kk : W p l e R s m args below meth c H locs cells slots Q (F0 m (pc + 3) ls (.int (nI v) :: rest))) : W p l e R s m args below meth c H locs cells slots Q (F0 m (pc) ls (.ref (a 3) :: rest)) :=
  va_get (D := (dC, dI)) (ci := 0) (C := RX0) (T := TX0) (N := 18) (v := .int (nI v)) hx hb hts hin hown hK hP 3 rfl rfl 11 (by decide) hlink (fun _ h9 => h9) (by rw [← hv]; rfl) hdg kk
theorem xp_31 (hx : p.tables.exec = Jvm.exec) (hb : c.code = cc) {own : String} {index : Nat} {Ts : List Cond} (hts : ∀ w ∈ Ts, w.before args s = true) (hin : ∀ w ∈ wsX00, w ∈ Ts) (hown : s.vm.findClass own = some m.cls) (hK : va_K (dC, dI) vwCl (gT cI cL cZ) s) (hP : va_P (dC, dI) vwCl (xW a cI cL cZ N J) H) (hD : va_D A (xW a cI cL cZ N J)) (hS : va_S A H0 H locs) (hlink : (Cond.fieldLink own index "ScoreMachine$Board" "storeWritten" "I").before args s = true) {v : Nat} (hdg : decode cc pc = .ok (.putfield index, 3)) (kk : ∀ (H1 : Heap) (locs1 : List Loc), va_P (dC, dI) vwCl (xW a cI cL cZ (uN N 31 0 v) J) H1 → va_D A (xW a cI cL cZ (uN N 31 0 v) J) → va_S A H0 H1 locs1 → W p l e R s m args below meth c H1 locs1 cells slots Q (F0 m (pc + 3) ls rest)) : W p l e R s m args below meth c H locs cells slots Q (F0 m (pc) ls (.int (nI v) :: .ref (a 3) :: rest)) :=
  va_put (D := (dC, dI)) (ci := 0) (v := .int (nI v)) (ty := .int) (C := RX0) (T := TX0) (N := 18) hx hb hts hin tyX0 tyX0_ok nmX0 hown hK hP hD hS 3 rfl rfl 11 (by decide) hlink (fun _ h9 => h9) rfl (by decide +kernel) rfl rfl (Nat.le_of_ble_eq_true rfl) hdg (fun H1 locs1 q1 q2 q3 => kk H1 locs1 q1 q2 q3)
theorem xg_32 (hx : p.tables.exec = Jvm.exec) (hb : c.code = cc) {own : String} {index : Nat} {Ts : List Cond} (hts : ∀ w ∈ Ts, w.before args s = true) (hin : ∀ w ∈ wsX00, w ∈ Ts) (hown : s.vm.findClass own = some m.cls) (hK : va_K (dC, dI) vwCl (gT cI cL cZ) s) (hP : va_P (dC, dI) vwCl (xW a cI cL cZ N J) H) (hlink : (Cond.fieldLink own index "ScoreMachine$Board" "storeBefore" "J").before args s = true) {v : Int64} (hv : J 32 0 = v) (hdg : decode cc pc = .ok (.getfield index, 3)) (kk : W p l e R s m args below meth c H locs cells slots Q (F0 m (pc + 3) ls (.long v :: rest))) : W p l e R s m args below meth c H locs cells slots Q (F0 m (pc) ls (.ref (a 3) :: rest)) :=
  va_get (D := (dC, dI)) (ci := 0) (C := RX0) (T := TX0) (N := 18) (v := .long v) hx hb hts hin hown hK hP 3 rfl rfl 12 (by decide) hlink (fun _ h9 => h9) (by rw [← hv]; rfl) hdg kk
theorem xp_32 (hx : p.tables.exec = Jvm.exec) (hb : c.code = cc) {own : String} {index : Nat} {Ts : List Cond} (hts : ∀ w ∈ Ts, w.before args s = true) (hin : ∀ w ∈ wsX00, w ∈ Ts) (hown : s.vm.findClass own = some m.cls) (hK : va_K (dC, dI) vwCl (gT cI cL cZ) s) (hP : va_P (dC, dI) vwCl (xW a cI cL cZ N J) H) (hD : va_D A (xW a cI cL cZ N J)) (hS : va_S A H0 H locs) (hlink : (Cond.fieldLink own index "ScoreMachine$Board" "storeBefore" "J").before args s = true) {v : Int64} (hdg : decode cc pc = .ok (.putfield index, 3)) (kk : ∀ (H1 : Heap) (locs1 : List Loc), va_P (dC, dI) vwCl (xW a cI cL cZ N (uJ J 32 0 v)) H1 → va_D A (xW a cI cL cZ N (uJ J 32 0 v)) → va_S A H0 H1 locs1 → W p l e R s m args below meth c H1 locs1 cells slots Q (F0 m (pc + 3) ls rest)) : W p l e R s m args below meth c H locs cells slots Q (F0 m (pc) ls (.long v :: .ref (a 3) :: rest)) :=
  va_put (D := (dC, dI)) (ci := 0) (v := .long v) (ty := .long) (C := RX0) (T := TX0) (N := 18) hx hb hts hin tyX0 tyX0_ok nmX0 hown hK hP hD hS 3 rfl rfl 12 (by decide) hlink (fun _ h9 => h9) rfl (by decide +kernel) rfl rfl (Nat.le_of_ble_eq_true rfl) hdg (fun H1 locs1 q1 q2 q3 => kk H1 locs1 q1 q2 q3)
theorem xg_33 (hx : p.tables.exec = Jvm.exec) (hb : c.code = cc) {own : String} {index : Nat} {Ts : List Cond} (hts : ∀ w ∈ Ts, w.before args s = true) (hin : ∀ w ∈ wsX00, w ∈ Ts) (hown : s.vm.findClass own = some m.cls) (hK : va_K (dC, dI) vwCl (gT cI cL cZ) s) (hP : va_P (dC, dI) vwCl (xW a cI cL cZ N J) H) (hlink : (Cond.fieldLink own index "ScoreMachine$Board" "branchWritten" "I").before args s = true) {v : Nat} (hv : N 33 0 = v) (hdg : decode cc pc = .ok (.getfield index, 3)) (kk : W p l e R s m args below meth c H locs cells slots Q (F0 m (pc + 3) ls (.int (nI v) :: rest))) : W p l e R s m args below meth c H locs cells slots Q (F0 m (pc) ls (.ref (a 3) :: rest)) :=
  va_get (D := (dC, dI)) (ci := 0) (C := RX0) (T := TX0) (N := 18) (v := .int (nI v)) hx hb hts hin hown hK hP 3 rfl rfl 13 (by decide) hlink (fun _ h9 => h9) (by rw [← hv]; rfl) hdg kk
theorem xp_33 (hx : p.tables.exec = Jvm.exec) (hb : c.code = cc) {own : String} {index : Nat} {Ts : List Cond} (hts : ∀ w ∈ Ts, w.before args s = true) (hin : ∀ w ∈ wsX00, w ∈ Ts) (hown : s.vm.findClass own = some m.cls) (hK : va_K (dC, dI) vwCl (gT cI cL cZ) s) (hP : va_P (dC, dI) vwCl (xW a cI cL cZ N J) H) (hD : va_D A (xW a cI cL cZ N J)) (hS : va_S A H0 H locs) (hlink : (Cond.fieldLink own index "ScoreMachine$Board" "branchWritten" "I").before args s = true) {v : Nat} (hdg : decode cc pc = .ok (.putfield index, 3)) (kk : ∀ (H1 : Heap) (locs1 : List Loc), va_P (dC, dI) vwCl (xW a cI cL cZ (uN N 33 0 v) J) H1 → va_D A (xW a cI cL cZ (uN N 33 0 v) J) → va_S A H0 H1 locs1 → W p l e R s m args below meth c H1 locs1 cells slots Q (F0 m (pc + 3) ls rest)) : W p l e R s m args below meth c H locs cells slots Q (F0 m (pc) ls (.int (nI v) :: .ref (a 3) :: rest)) :=
  va_put (D := (dC, dI)) (ci := 0) (v := .int (nI v)) (ty := .int) (C := RX0) (T := TX0) (N := 18) hx hb hts hin tyX0 tyX0_ok nmX0 hown hK hP hD hS 3 rfl rfl 13 (by decide) hlink (fun _ h9 => h9) rfl (by decide +kernel) rfl rfl (Nat.le_of_ble_eq_true rfl) hdg (fun H1 locs1 q1 q2 q3 => kk H1 locs1 q1 q2 q3)
theorem xg_34 (hx : p.tables.exec = Jvm.exec) (hb : c.code = cc) {own : String} {index : Nat} {Ts : List Cond} (hts : ∀ w ∈ Ts, w.before args s = true) (hin : ∀ w ∈ wsX00, w ∈ Ts) (hown : s.vm.findClass own = some m.cls) (hK : va_K (dC, dI) vwCl (gT cI cL cZ) s) (hP : va_P (dC, dI) vwCl (xW a cI cL cZ N J) H) (hlink : (Cond.fieldLink own index "ScoreMachine$Board" "lastWritten" "I").before args s = true) {v : Nat} (hv : N 34 0 = v) (hdg : decode cc pc = .ok (.getfield index, 3)) (kk : W p l e R s m args below meth c H locs cells slots Q (F0 m (pc + 3) ls (.int (nI v) :: rest))) : W p l e R s m args below meth c H locs cells slots Q (F0 m (pc) ls (.ref (a 3) :: rest)) :=
  va_get (D := (dC, dI)) (ci := 0) (C := RX0) (T := TX0) (N := 18) (v := .int (nI v)) hx hb hts hin hown hK hP 3 rfl rfl 14 (by decide) hlink (fun _ h9 => h9) (by rw [← hv]; rfl) hdg kk
theorem xp_34 (hx : p.tables.exec = Jvm.exec) (hb : c.code = cc) {own : String} {index : Nat} {Ts : List Cond} (hts : ∀ w ∈ Ts, w.before args s = true) (hin : ∀ w ∈ wsX00, w ∈ Ts) (hown : s.vm.findClass own = some m.cls) (hK : va_K (dC, dI) vwCl (gT cI cL cZ) s) (hP : va_P (dC, dI) vwCl (xW a cI cL cZ N J) H) (hD : va_D A (xW a cI cL cZ N J)) (hS : va_S A H0 H locs) (hlink : (Cond.fieldLink own index "ScoreMachine$Board" "lastWritten" "I").before args s = true) {v : Nat} (hdg : decode cc pc = .ok (.putfield index, 3)) (kk : ∀ (H1 : Heap) (locs1 : List Loc), va_P (dC, dI) vwCl (xW a cI cL cZ (uN N 34 0 v) J) H1 → va_D A (xW a cI cL cZ (uN N 34 0 v) J) → va_S A H0 H1 locs1 → W p l e R s m args below meth c H1 locs1 cells slots Q (F0 m (pc + 3) ls rest)) : W p l e R s m args below meth c H locs cells slots Q (F0 m (pc) ls (.int (nI v) :: .ref (a 3) :: rest)) :=
  va_put (D := (dC, dI)) (ci := 0) (v := .int (nI v)) (ty := .int) (C := RX0) (T := TX0) (N := 18) hx hb hts hin tyX0 tyX0_ok nmX0 hown hK hP hD hS 3 rfl rfl 14 (by decide) hlink (fun _ h9 => h9) rfl (by decide +kernel) rfl rfl (Nat.le_of_ble_eq_true rfl) hdg (fun H1 locs1 q1 q2 q3 => kk H1 locs1 q1 q2 q3)
theorem xg_35 (hx : p.tables.exec = Jvm.exec) (hb : c.code = cc) {own : String} {index : Nat} {Ts : List Cond} (hts : ∀ w ∈ Ts, w.before args s = true) (hin : ∀ w ∈ wsX00, w ∈ Ts) (hown : s.vm.findClass own = some m.cls) (hK : va_K (dC, dI) vwCl (gT cI cL cZ) s) (hP : va_P (dC, dI) vwCl (xW a cI cL cZ N J) H) (hlink : (Cond.fieldLink own index "ScoreMachine$Board" "row" "[I").before args s = true) (hdg : decode cc pc = .ok (.getfield index, 3)) (kk : W p l e R s m args below meth c H locs cells slots Q (F0 m (pc + 3) ls (.ref (a 19) :: rest))) : W p l e R s m args below meth c H locs cells slots Q (F0 m (pc) ls (.ref (a 3) :: rest)) :=
  va_get (D := (dC, dI)) (ci := 0) (C := RX0) (T := TX0) (N := 18) (v := .ref (a 19)) hx hb hts hin hown hK hP 3 rfl rfl 15 (by decide) hlink (fun _ h9 => h9) rfl hdg kk
theorem xl_35 (hx : p.tables.exec = Jvm.exec) (hb : c.code = cc) (hK : va_K (dC, dI) vwCl (gT cI cL cZ) s) (hP : va_P (dC, dI) vwCl (xW a cI cL cZ N J) H) {i : Nat} (hi : i < 6) {v : Nat} (hv : N 35 i = v) (hdg : decode cc pc = .ok (.iaload, 1)) (kk : W p l e R s m args below meth c H locs cells slots Q (F0 m (pc + 1) ls (.int (nI v) :: rest))) : W p l e R s m args below meth c H locs cells slots Q (F0 m (pc) ls (.int (nI i) :: .ref (a 19) :: rest)) := by
  subst hv
  exact va_iald hx hb hK hP 19 0 rfl rfl (vp_in_nI hi (by decide)) hdg (by rw [nI_clamp (by omega)]; exact kk)
theorem xs_35 (hx : p.tables.exec = Jvm.exec) (hb : c.code = cc) (hK : va_K (dC, dI) vwCl (gT cI cL cZ) s) (hP : va_P (dC, dI) vwCl (xW a cI cL cZ N J) H) (hD : va_D A (xW a cI cL cZ N J)) (hS : va_S A H0 H locs) {i : Nat} {v : Nat} (hi : i < 6) (hdg : decode cc pc = .ok (.iastore, 1)) (kk : ∀ (H1 : Heap) (locs1 : List Loc), va_P (dC, dI) vwCl (xW a cI cL cZ (uN N 35 i v) J) H1 → va_D A (xW a cI cL cZ (uN N 35 i v) J) → va_S A H0 H1 locs1 → W p l e R s m args below meth c H1 locs1 cells slots Q (F0 m (pc + 1) ls rest)) : W p l e R s m args below meth c H locs cells slots Q (F0 m (pc) ls (.int (nI v) :: .int (nI i) :: .ref (a 19) :: rest)) := by
  have e1 : (xW a cI cL cZ N J).set 19 (a 19, .inl (cI, 6, .inl (upd (fun j => nI (N 35 j)) i (nI v)))) = xW a cI cL cZ (uN N 35 i v) J := by rw [← uN_f N 35 i v]; rfl
  rw [← e1] at kk
  exact va_iast hx hb hK hP hD hS 19 0 rfl rfl (vp_in_nI hi (by decide)) hdg (by rw [nI_clamp (by omega)]; exact kk)
theorem xg_36 (hx : p.tables.exec = Jvm.exec) (hb : c.code = cc) {own : String} {index : Nat} {Ts : List Cond} (hts : ∀ w ∈ Ts, w.before args s = true) (hin : ∀ w ∈ wsX00, w ∈ Ts) (hown : s.vm.findClass own = some m.cls) (hK : va_K (dC, dI) vwCl (gT cI cL cZ) s) (hP : va_P (dC, dI) vwCl (xW a cI cL cZ N J) H) (hlink : (Cond.fieldLink own index "ScoreMachine$Board" "unitRows" "[I").before args s = true) (hdg : decode cc pc = .ok (.getfield index, 3)) (kk : W p l e R s m args below meth c H locs cells slots Q (F0 m (pc + 3) ls (.ref (a 20) :: rest))) : W p l e R s m args below meth c H locs cells slots Q (F0 m (pc) ls (.ref (a 3) :: rest)) :=
  va_get (D := (dC, dI)) (ci := 0) (C := RX0) (T := TX0) (N := 18) (v := .ref (a 20)) hx hb hts hin hown hK hP 3 rfl rfl 16 (by decide) hlink (fun _ h9 => h9) rfl hdg kk
theorem xl_36 (hx : p.tables.exec = Jvm.exec) (hb : c.code = cc) (hK : va_K (dC, dI) vwCl (gT cI cL cZ) s) (hP : va_P (dC, dI) vwCl (xW a cI cL cZ N J) H) {i : Nat} (hi : i < 108) {v : Nat} (hv : N 36 i = v) (hdg : decode cc pc = .ok (.iaload, 1)) (kk : W p l e R s m args below meth c H locs cells slots Q (F0 m (pc + 1) ls (.int (nI v) :: rest))) : W p l e R s m args below meth c H locs cells slots Q (F0 m (pc) ls (.int (nI i) :: .ref (a 20) :: rest)) := by
  subst hv
  exact va_iald hx hb hK hP 20 0 rfl rfl (vp_in_nI hi (by decide)) hdg (by rw [nI_clamp (by omega)]; exact kk)
theorem xs_36 (hx : p.tables.exec = Jvm.exec) (hb : c.code = cc) (hK : va_K (dC, dI) vwCl (gT cI cL cZ) s) (hP : va_P (dC, dI) vwCl (xW a cI cL cZ N J) H) (hD : va_D A (xW a cI cL cZ N J)) (hS : va_S A H0 H locs) {i : Nat} {v : Nat} (hi : i < 108) (hdg : decode cc pc = .ok (.iastore, 1)) (kk : ∀ (H1 : Heap) (locs1 : List Loc), va_P (dC, dI) vwCl (xW a cI cL cZ (uN N 36 i v) J) H1 → va_D A (xW a cI cL cZ (uN N 36 i v) J) → va_S A H0 H1 locs1 → W p l e R s m args below meth c H1 locs1 cells slots Q (F0 m (pc + 1) ls rest)) : W p l e R s m args below meth c H locs cells slots Q (F0 m (pc) ls (.int (nI v) :: .int (nI i) :: .ref (a 20) :: rest)) := by
  have e1 : (xW a cI cL cZ N J).set 20 (a 20, .inl (cI, 108, .inl (upd (fun j => nI (N 36 j)) i (nI v)))) = xW a cI cL cZ (uN N 36 i v) J := by rw [← uN_f N 36 i v]; rfl
  rw [← e1] at kk
  exact va_iast hx hb hK hP hD hS 20 0 rfl rfl (vp_in_nI hi (by decide)) hdg (by rw [nI_clamp (by omega)]; exact kk)
theorem xg_37 (hx : p.tables.exec = Jvm.exec) (hb : c.code = cc) {own : String} {index : Nat} {Ts : List Cond} (hts : ∀ w ∈ Ts, w.before args s = true) (hin : ∀ w ∈ wsX00, w ∈ Ts) (hown : s.vm.findClass own = some m.cls) (hK : va_K (dC, dI) vwCl (gT cI cL cZ) s) (hP : va_P (dC, dI) vwCl (xW a cI cL cZ N J) H) (hlink : (Cond.fieldLink own index "ScoreMachine$Board" "issuedRows" "[I").before args s = true) (hdg : decode cc pc = .ok (.getfield index, 3)) (kk : W p l e R s m args below meth c H locs cells slots Q (F0 m (pc + 3) ls (.ref (a 21) :: rest))) : W p l e R s m args below meth c H locs cells slots Q (F0 m (pc) ls (.ref (a 3) :: rest)) :=
  va_get (D := (dC, dI)) (ci := 0) (C := RX0) (T := TX0) (N := 18) (v := .ref (a 21)) hx hb hts hin hown hK hP 3 rfl rfl 17 (by decide) hlink (fun _ h9 => h9) rfl hdg kk
theorem xl_37 (hx : p.tables.exec = Jvm.exec) (hb : c.code = cc) (hK : va_K (dC, dI) vwCl (gT cI cL cZ) s) (hP : va_P (dC, dI) vwCl (xW a cI cL cZ N J) H) {i : Nat} (hi : i < 384) {v : Nat} (hv : N 37 i = v) (hdg : decode cc pc = .ok (.iaload, 1)) (kk : W p l e R s m args below meth c H locs cells slots Q (F0 m (pc + 1) ls (.int (nI v) :: rest))) : W p l e R s m args below meth c H locs cells slots Q (F0 m (pc) ls (.int (nI i) :: .ref (a 21) :: rest)) := by
  subst hv
  exact va_iald hx hb hK hP 21 0 rfl rfl (vp_in_nI hi (by decide)) hdg (by rw [nI_clamp (by omega)]; exact kk)
theorem xs_37 (hx : p.tables.exec = Jvm.exec) (hb : c.code = cc) (hK : va_K (dC, dI) vwCl (gT cI cL cZ) s) (hP : va_P (dC, dI) vwCl (xW a cI cL cZ N J) H) (hD : va_D A (xW a cI cL cZ N J)) (hS : va_S A H0 H locs) {i : Nat} {v : Nat} (hi : i < 384) (hdg : decode cc pc = .ok (.iastore, 1)) (kk : ∀ (H1 : Heap) (locs1 : List Loc), va_P (dC, dI) vwCl (xW a cI cL cZ (uN N 37 i v) J) H1 → va_D A (xW a cI cL cZ (uN N 37 i v) J) → va_S A H0 H1 locs1 → W p l e R s m args below meth c H1 locs1 cells slots Q (F0 m (pc + 1) ls rest)) : W p l e R s m args below meth c H locs cells slots Q (F0 m (pc) ls (.int (nI v) :: .int (nI i) :: .ref (a 21) :: rest)) := by
  have e1 : (xW a cI cL cZ N J).set 21 (a 21, .inl (cI, 384, .inl (upd (fun j => nI (N 37 j)) i (nI v)))) = xW a cI cL cZ (uN N 37 i v) J := by rw [← uN_f N 37 i v]; rfl
  rw [← e1] at kk
  exact va_iast hx hb hK hP hD hS 21 0 rfl rfl (vp_in_nI hi (by decide)) hdg (by rw [nI_clamp (by omega)]; exact kk)
theorem xg_60 (hx : p.tables.exec = Jvm.exec) (hb : c.code = cc) {own : String} {index : Nat} {Ts : List Cond} (hts : ∀ w ∈ Ts, w.before args s = true) (hin : ∀ w ∈ wsX30, w ∈ Ts) (hown : s.vm.findClass own = some m.cls) (hK : va_K (dC, dI) vwCl (gT cI cL cZ) s) (hP : va_P (dC, dI) vwCl (xW a cI cL cZ N J) H) (hlink : (Cond.fieldLink own index "ScoreMachine" "setup" "LScoreMachine$Setup;").before args s = true) (hdg : decode cc pc = .ok (.getfield index, 3)) (kk : W p l e R s m args below meth c H locs cells slots Q (F0 m (pc + 3) ls (.ref (a 1) :: rest))) : W p l e R s m args below meth c H locs cells slots Q (F0 m (pc) ls (.ref (a 0) :: rest)) :=
  va_get (D := (dC, dI)) (ci := 3) (C := RX3) (T := TX3) (N := 3) (v := .ref (a 1)) hx hb hts hin hown hK hP 0 rfl rfl 0 (by decide) hlink (fun _ h9 => h9) rfl hdg kk
theorem xg_61 (hx : p.tables.exec = Jvm.exec) (hb : c.code = cc) {own : String} {index : Nat} {Ts : List Cond} (hts : ∀ w ∈ Ts, w.before args s = true) (hin : ∀ w ∈ wsX30, w ∈ Ts) (hown : s.vm.findClass own = some m.cls) (hK : va_K (dC, dI) vwCl (gT cI cL cZ) s) (hP : va_P (dC, dI) vwCl (xW a cI cL cZ N J) H) (hlink : (Cond.fieldLink own index "ScoreMachine" "plainMachine" "LScoreMachine$PlainMachine;").before args s = true) (hdg : decode cc pc = .ok (.getfield index, 3)) (kk : W p l e R s m args below meth c H locs cells slots Q (F0 m (pc + 3) ls (.ref (a 2) :: rest))) : W p l e R s m args below meth c H locs cells slots Q (F0 m (pc) ls (.ref (a 0) :: rest)) :=
  va_get (D := (dC, dI)) (ci := 3) (C := RX3) (T := TX3) (N := 3) (v := .ref (a 2)) hx hb hts hin hown hK hP 0 rfl rfl 1 (by decide) hlink (fun _ h9 => h9) rfl hdg kk
theorem xg_62 (hx : p.tables.exec = Jvm.exec) (hb : c.code = cc) {own : String} {index : Nat} {Ts : List Cond} (hts : ∀ w ∈ Ts, w.before args s = true) (hin : ∀ w ∈ wsX30, w ∈ Ts) (hown : s.vm.findClass own = some m.cls) (hK : va_K (dC, dI) vwCl (gT cI cL cZ) s) (hP : va_P (dC, dI) vwCl (xW a cI cL cZ N J) H) (hlink : (Cond.fieldLink own index "ScoreMachine" "board" "LScoreMachine$Board;").before args s = true) (hdg : decode cc pc = .ok (.getfield index, 3)) (kk : W p l e R s m args below meth c H locs cells slots Q (F0 m (pc + 3) ls (.ref (a 3) :: rest))) : W p l e R s m args below meth c H locs cells slots Q (F0 m (pc) ls (.ref (a 0) :: rest)) :=
  va_get (D := (dC, dI)) (ci := 3) (C := RX3) (T := TX3) (N := 3) (v := .ref (a 3)) hx hb hts hin hown hK hP 0 rfl rfl 2 (by decide) hlink (fun _ h9 => h9) rfl hdg kk
end VW
end
section
/-! contracts over a world that is a function of a state (numbers, longs) -/
abbrev gSt : Type := (Nat → Nat → Nat) × (Nat → Nat → Int64)
def aA (L : List Nat) (sz : Nat) : Nat → Prop := fun q => q ∈ L ∨ sz ≤ q
theorem aA_D {ws : va_W} {L : List Nat} {sz : Nat} {A : Nat → Prop} (hL : ws.map Prod.fst = L) (h : va_D A ws) : va_D (aA L sz) ws :=
  ⟨h.1, fun k q hq => Or.inl (by rw [← hL]; exact List.mem_map.mpr ⟨q, List.mem_of_getElem? hq, rfl⟩)⟩
theorem D_congr {ws ws' : va_W} {A : Nat → Prop} (hL : ws.map Prod.fst = ws'.map Prod.fst) (h : va_D A ws) : va_D A ws' := by
  have key : ∀ (k : Nat) (q : Nat × va_E), ws'[k]? = some q → ∃ z, ws[k]? = some z ∧ z.1 = q.1 := by
    intro k q hq
    have h1 : (ws'.map Prod.fst)[k]? = some q.1 := by rw [List.getElem?_map, hq]; rfl
    rw [← hL, List.getElem?_map] at h1
    cases hz : ws[k]? with
    | none => rw [hz] at h1; cases h1
    | some z => rw [hz] at h1; exact ⟨z, rfl, Option.some.inj h1⟩
  refine ⟨fun i j p q hp hq e => ?_, fun k q hq => ?_⟩
  · obtain ⟨z1, a1, b1⟩ := key i p hp
    obtain ⟨z2, a2, b2⟩ := key j q hq
    exact h.1 i j z1 z2 a1 a2 (by rw [b1, b2, e])
  · obtain ⟨z, a1, b1⟩ := key k q hq
    rw [← b1]
    exact h.2 k z a1
/-- the two static rows, and the links between nest mates -/
def kdN (j : Nat) : Nat := if j < 8 then 0 else if j < 11 then 1 else if j = 11 then 2 else if j < 14 then 3 else if j < 16 then 4 else 5
def kdV (j : Nat) : Int32 := if j = 0 then -1 else nI (kdN j)
def ltN (j : Nat) : Nat := if j = 0 then 2 else if j = 1 then 1 else if j = 2 then 6 else if j = 3 then 12 else if j = 4 then 3 else 1
def gNest (U : State) : Prop :=
  va_Nw (.fieldLinkNest RX0 95 "ScoreMachine" "KIND_OF_CODE" "[I" "ScoreMachine") U ∧ va_Nw (.fieldLinkNest RX2 46 "ScoreMachine" "FIRST_LATENCIES" "[I" "ScoreMachine") U ∧
  va_Nw (.methodLinkNest RX0 102 yX3_writesD "ScoreMachine") U ∧ va_Nw (.methodLinkNest RX0 116 yX3_unitRow "ScoreMachine") U ∧ va_Nw (.methodLinkNest RX0 136 yX3_readsA "ScoreMachine") U ∧
  va_Nw (.methodLinkNest RX0 147 yX3_readsB "ScoreMachine") U ∧ va_Nw (.methodLinkNest RX0 153 yX3_readsD "ScoreMachine") U ∧ va_Nw (.methodLinkNest RX1 58 yX3_writesD "ScoreMachine") U
theorem gNest.warm {s U : State} (hW : s.WarmedH U.vm) (h : gNest s) : gNest U := by
  obtain ⟨h1, h2, h3, h4, h5, h6, h7, h8⟩ := h
  exact ⟨h1.warmF hW, h2.warmF hW, h3.warmM hW, h4.warmM hW, h5.warmM hW, h6.warmM hW, h7.warmM hW, h8.warmM hW⟩
theorem gNest.same {s U : State} (hW : s.vm = U.vm) (h : gNest s) : gNest U := by
  obtain ⟨h1, h2, h3, h4, h5, h6, h7, h8⟩ := h
  exact ⟨va_Nw.same rfl hW h1, va_Nw.same rfl hW h2, va_Nw.same rfl hW h3, va_Nw.same rfl hW h4, va_Nw.same rfl hW h5, va_Nw.same rfl hW h6, va_Nw.same rfl hW h7, va_Nw.same rfl hW h8⟩
def gTab (tk tf : Nat) (A : Nat → Prop) (U : State) (H : Heap) : Prop :=
  va_Z "ScoreMachine" "KIND_OF_CODE" "[I" (.ref tk) A U H ∧ va_T .int tk 19 (fun j => .int (kdV j)) A U H ∧ va_Z "ScoreMachine" "FIRST_LATENCIES" "[I" (.ref tf) A U H ∧ va_T .int tf 6 (fun j => .int (nI (ltN j))) A U H
def gZ (A : Nat → Prop) (U : State) (H : Heap) : Prop := gNest U ∧ ∃ tk tf : Nat, gTab tk tf A U H
theorem gZ.go {A B : Nat → Prop} {s U : State} {H H1 : Heap} (h : gZ A s H) (hW : s.WarmedH U.vm) (hk : ∀ q : Nat, q < H.size → ¬ A q → H1[q]? = H[q]?) (hB : ∀ q, B q → A q) : gZ B U H1 := by
  obtain ⟨h0, tk, tf, h1, h2, h3, h4⟩ := h
  exact ⟨h0.warm hW, tk, tf, ((h1.kept hk).moved hW.alike).narrow hB, ((h2.kept hk).moved hW.alike).narrow hB, ((h3.kept hk).moved hW.alike).narrow hB, ((h4.kept hk).moved hW.alike).narrow hB⟩
def gPre (dC : Nat → ClassId) (dI : Nat → Nat → Nat) (tys : List (ClassId × FieldType)) (ws : va_W) (L : List Nat) (sz : Nat) : State → Prop := fun U =>
  U.heap.size = sz ∧ va_P (dC, dI) vwCl ws U.heap ∧ va_K (dC, dI) vwCl tys U ∧ va_D (fun _ => True) ws ∧ gZ (aA L sz) U U.heap
theorem gPre.blind {dC : Nat → ClassId} {dI : Nat → Nat → Nat} {tys : List (ClassId × FieldType)} {ws : va_W} {L : List Nat} {sz : Nat} {av : List Value} : FrameBlind (va_Pc av (gPre dC dI tys ws L sz)) := by
  intro a U g mk q
  obtain ⟨q0, q1, qP, qK, qD, qn, tk, tf, z1, z2, z3, z4⟩ := q
  have hv : U.vm.Alike (U.calling g mk a).vm := Vm.Alike.refl U.vm
  exact ⟨q0, q1, qP, va_K.moved (u := U) (U := U.calling g mk a) hv qK, qD, qn.same rfl, tk, tf, va_Z.moved (u := U) (U := U.calling g mk a) hv z1, va_T.moved (u := U) (U := U.calling g mk a) hv z2, va_Z.moved (u := U) (U := U.calling g mk a) hv z3, va_T.moved (u := U) (U := U.calling g mk a) hv z4⟩
abbrev gB (dC : Nat → ClassId) (dI : Nat → Nat → Nat) (Wf : gSt → va_W) : gSt → State → Prop := fun u t => va_P (dC, dI) vwCl (Wf u) t.heap
def MetI (l : Launch) (y : MethodName) (ws : List Cond) (rm : Room) (dC : Nat → ClassId) (dI : Nat → Nat → Nat) (tys : List (ClassId × FieldType)) (Wf : gSt → va_W) (L : List Nat) (u : gSt) (av : List Value) (post : Int32 → gSt → Prop) : Prop :=
  ∀ sz, Met l y ws rm (va_Pc av (gPre dC dI tys (Wf u) L sz)) (va_Qi post (gB dC dI Wf) (aA L sz)) 0 0 (aA L sz)
def MetL (l : Launch) (y : MethodName) (ws : List Cond) (rm : Room) (dC : Nat → ClassId) (dI : Nat → Nat → Nat) (tys : List (ClassId × FieldType)) (Wf : gSt → va_W) (L : List Nat) (u : gSt) (av : List Value) (post : Int64 → gSt → Prop) : Prop :=
  ∀ sz, Met l y ws rm (va_Pc av (gPre dC dI tys (Wf u) L sz)) (va_Ql post (gB dC dI Wf) (aA L sz)) 0 0 (aA L sz)
def MetV (l : Launch) (y : MethodName) (ws : List Cond) (rm : Room) (dC : Nat → ClassId) (dI : Nat → Nat → Nat) (tys : List (ClassId × FieldType)) (Wf : gSt → va_W) (L : List Nat) (u : gSt) (av : List Value) (post : gSt → Prop) : Prop :=
  ∀ sz, Met l y ws rm (va_Pc av (gPre dC dI tys (Wf u) L sz)) (va_Qv post (gB dC dI Wf) (aA L sz)) 0 0 (aA L sz)
/-- a static function of numbers alone -/
def MetS (l : Launch) (y : MethodName) (ws : List Cond) (rm : Room) (av : List Value) (post : Int32 → Prop) : Prop :=
  Met l y ws rm (va_Pc av (fun _ => True)) (vp_Si post) 0 0 (fun _ => False)
def MetSL (l : Launch) (y : MethodName) (ws : List Cond) (rm : Room) (av : List Value) (post : Int64 → Prop) : Prop :=
  Met l y ws rm (va_Pc av (fun _ => True)) (vp_Sl post) 0 0 (fun _ => False)
theorem g_entry {l : Launch} {y : MethodName} {ws ws' : List Cond} {rm : Room} {dC : Nat → ClassId} {dI : Nat → Nat → Nat} {tys : List (ClassId × FieldType)} {wd : va_W} {L : List Nat} {av : List Value} {Qc : Nat → Array Value → State → Outcome → State → Prop} {bytes : ByteArray} {maxL : Nat} {ret : Option FieldType} {sz : Nat}
    (hy : plainName y.cls = true) (hw : ws = Cond.code y bytes maxL ret :: ws') (hn : (lg_sl av).length ≤ maxL) (hL : wd.map Prod.fst = L)
    (body : ∀ (p : Program) (e : Env) (s : State) (m : MethodId) (below : List Frame) (meth : Method) (c : Code) (ls : Array Slot), p.tables.exec = Jvm.exec → c.code = bytes → meth.sig.returnType = ret → c.maxLocals = maxL → (∀ w ∈ ws, w.before av.toArray s = true) → s.vm.findClass y.cls = some m.cls → meth.locks = false →
      va_K (dC, dI) vwCl tys s → va_P (dC, dI) vwCl wd s.heap → va_D (aA L s.heap.size) wd → va_S (aA L s.heap.size) s.heap s.heap [] → gZ (aA L s.heap.size) s s.heap → lv_has ls maxL (lv_args 0 av) →
      W p l e rm s m av.toArray below meth c s.heap [] 0 0 (MQ below (Qc s.heap.size) av.toArray s 0 0 (aA L s.heap.size)) (F0 m 0 ls [])) :
    Met l y ws rm (va_Pc av (gPre dC dI tys wd L sz)) (Qc sz) 0 0 (aA L sz) := by
  refine Met.ofW (cc := bytes) (maxL := maxL) (ret := ret) hy hw ?_
  intro p e s m args below meth c s₁ B hml hv
  obtain ⟨rfl, hsz, hP, hK, hD0, hZ⟩ := hv
  subst hsz
  have hl := lv_entry av (n := maxL) hn
  rw [lg_entry_eq]
  exact body p e s m below meth c _ B.exec B.bytes B.returns hml (atoms_spec (ws := ws) B.pre) (findClass_of_methodNamed B.named) B.notSynchronized hK hP (aA_D hL hD0) va_S.rf hZ hl
theorem s_entry {l : Launch} {y : MethodName} {ws ws' : List Cond} {rm : Room} {av : List Value} {Qc : Array Value → State → Outcome → State → Prop} {bytes : ByteArray} {maxL : Nat} {ret : Option FieldType}
    (hy : plainName y.cls = true) (hw : ws = Cond.code y bytes maxL ret :: ws') (hn : (lg_sl av).length ≤ maxL)
    (body : ∀ (p : Program) (e : Env) (s : State) (m : MethodId) (below : List Frame) (meth : Method) (c : Code) (ls : Array Slot), p.tables.exec = Jvm.exec → c.code = bytes → meth.sig.returnType = ret → c.maxLocals = maxL → (∀ w ∈ ws, w.before av.toArray s = true) → s.vm.findClass y.cls = some m.cls → meth.locks = false → lv_has ls maxL (lv_args 0 av) →
      W p l e rm s m av.toArray below meth c s.heap [] 0 0 (MQ below Qc av.toArray s 0 0 (fun _ => False)) (F0 m 0 ls [])) :
    Met l y ws rm (va_Pc av (fun _ => True)) Qc 0 0 (fun _ => False) := by
  refine Met.ofW (cc := bytes) (maxL := maxL) (ret := ret) hy hw ?_
  intro p e s m args below meth c s₁ B hml hv
  obtain ⟨rfl, -⟩ := hv
  have hl := lv_entry av (n := maxL) hn
  rw [lg_entry_eq]
  exact body p e s m below meth c _ B.exec B.bytes B.returns hml (atoms_spec (ws := ws) B.pre) (findClass_of_methodNamed B.named) B.notSynchronized hl
section VR
variable {p : Program} {l : Launch} {e : Env} {R : Room} {s : State} {m : MethodId} {args : Array Value} {below : List Frame} {meth : Method} {c : Code} {H : Heap} {locs : List Loc} {cells slots : Nat} {Q : State → Prop}
variable {cc : ByteArray} {pc : Nat} {ls : Array Slot} {rest : List Value} {dC : Nat → ClassId} {dI : Nat → Nat → Nat} {tys : List (ClassId × FieldType)} {Wf : gSt → va_W} {L : List Nat}
theorem g_reti (hx : p.tables.exec = Jvm.exec) (hb : c.code = cc) (hr : meth.sig.returnType = some .int) (hlocks : meth.locks = false) {post : Int32 → gSt → Prop} {v : Int32} (u : gSt) (hpost : post v u) (hP : va_P (dC, dI) vwCl (Wf u) H) (hS : va_S (aA L s.heap.size) s.heap H locs) (hdg : decode cc pc = .ok (.ireturn, 1)) :
    W p l e R s m args below meth c H locs 0 0 (MQ below (va_Qi post (gB dC dI Wf) (aA L s.heap.size)) args s 0 0 (aA L s.heap.size)) (F0 m pc ls [.int v]) :=
  W.iret hx hb hr (fun t ht _ => ⟨⟨v, u, rfl, hpost, by show va_P _ _ _ t.heap; rw [ht]; exact hP⟩, hS.F ht⟩) hS.2.2 hdg hlocks
theorem g_retz (hx : p.tables.exec = Jvm.exec) (hb : c.code = cc) (hr : meth.sig.returnType = some .boolean) (hlocks : meth.locks = false) {post : Int32 → gSt → Prop} {v : Int32} (hv : v = 0 ∨ v = 1) (u : gSt) (hpost : post v u) (hP : va_P (dC, dI) vwCl (Wf u) H) (hS : va_S (aA L s.heap.size) s.heap H locs) (hdg : decode cc pc = .ok (.ireturn, 1)) :
    W p l e R s m args below meth c H locs 0 0 (MQ below (va_Qi post (gB dC dI Wf) (aA L s.heap.size)) args s 0 0 (aA L s.heap.size)) (F0 m pc ls [.int v]) :=
  W.zret hx hb hr (by rcases hv with h | h <;> subst h <;> decide) (fun t ht _ => ⟨⟨v, u, rfl, hpost, by show va_P _ _ _ t.heap; rw [ht]; exact hP⟩, hS.F ht⟩) hS.2.2 hdg hlocks
theorem g_retl (hx : p.tables.exec = Jvm.exec) (hb : c.code = cc) (hr : meth.sig.returnType = some .long) (hlocks : meth.locks = false) {post : Int64 → gSt → Prop} {v : Int64} (u : gSt) (hpost : post v u) (hP : va_P (dC, dI) vwCl (Wf u) H) (hS : va_S (aA L s.heap.size) s.heap H locs) (hdg : decode cc pc = .ok (.lreturn, 1)) :
    W p l e R s m args below meth c H locs 0 0 (MQ below (va_Ql post (gB dC dI Wf) (aA L s.heap.size)) args s 0 0 (aA L s.heap.size)) (F0 m pc ls [.long v]) :=
  W.lret hx hb hr (fun t ht _ => ⟨⟨v, u, rfl, hpost, by show va_P _ _ _ t.heap; rw [ht]; exact hP⟩, hS.F ht⟩) hS.2.2 hdg hlocks
theorem g_retv (hx : p.tables.exec = Jvm.exec) (hb : c.code = cc) (hr : meth.sig.returnType = none) (hlocks : meth.locks = false) {post : gSt → Prop} (u : gSt) (hpost : post u) (hP : va_P (dC, dI) vwCl (Wf u) H) (hS : va_S (aA L s.heap.size) s.heap H locs) (hdg : decode cc pc = .ok (.return_, 1)) :
    W p l e R s m args below meth c H locs 0 0 (MQ below (va_Qv post (gB dC dI Wf) (aA L s.heap.size)) args s 0 0 (aA L s.heap.size)) (F0 m pc ls []) :=
  W.vret hx hb hr (fun t ht _ => ⟨⟨u, rfl, hpost, by show va_P _ _ _ t.heap; rw [ht]; exact hP⟩, hS.F ht⟩) hS.2.2 hdg hlocks
theorem s_reti (hx : p.tables.exec = Jvm.exec) (hb : c.code = cc) (hr : meth.sig.returnType = some .int) (hlocks : meth.locks = false) {post : Int32 → Prop} {v : Int32} (hpost : post v) (hdg : decode cc pc = .ok (.ireturn, 1)) :
    W p l e R s m args below meth c s.heap [] 0 0 (MQ below (vp_Si post) args s 0 0 (fun _ => False)) (F0 m pc ls [.int v]) :=
  W.iret hx hb hr (fun t ht _ => ⟨v, rfl, hpost, ht⟩) (fun _ h => by cases h) hdg hlocks
theorem s_retz (hx : p.tables.exec = Jvm.exec) (hb : c.code = cc) (hr : meth.sig.returnType = some .boolean) (hlocks : meth.locks = false) {post : Int32 → Prop} {v : Int32} (hv : v = 0 ∨ v = 1) (hpost : post v) (hdg : decode cc pc = .ok (.ireturn, 1)) :
    W p l e R s m args below meth c s.heap [] 0 0 (MQ below (vp_Si post) args s 0 0 (fun _ => False)) (F0 m pc ls [.int v]) :=
  W.zret hx hb hr (by rcases hv with h | h <;> subst h <;> decide) (fun t ht _ => ⟨v, rfl, hpost, ht⟩) (fun _ h => by cases h) hdg hlocks
theorem s_retl (hx : p.tables.exec = Jvm.exec) (hb : c.code = cc) (hr : meth.sig.returnType = some .long) (hlocks : meth.locks = false) {post : Int64 → Prop} {v : Int64} (hpost : post v) (hdg : decode cc pc = .ok (.lreturn, 1)) :
    W p l e R s m args below meth c s.heap [] 0 0 (MQ below (vp_Sl post) args s 0 0 (fun _ => False)) (F0 m pc ls [.long v]) :=
  W.lret hx hb hr (fun t ht _ => ⟨v, rfl, hpost, ht⟩) (fun _ h => by cases h) hdg hlocks
variable {y : MethodName} {bytes : ByteArray} {maxL nL n index : Nat} {ret : Option FieldType} {ws : List Cond} {rm : Room} {Ts : List Cond} {own C : String} {b : Addr} {As : List Value} {st0 : List Value} {args0 : Array Value}
theorem aA_le {sz sz' : Nat} (h : sz ≤ sz') : ∀ q, aA L sz' q → aA L sz q := fun _ z => z.elim Or.inl (fun k => Or.inr (Nat.le_trans h k))
theorem g_pre {wd : va_W} (hK : va_K (dC, dI) vwCl tys s) (hP : va_P (dC, dI) vwCl wd H) (hD : va_D (aA L s.heap.size) wd) (hS : va_S (aA L s.heap.size) s.heap H locs) (hZ : gZ (aA L s.heap.size) s s.heap) (av : List Value) : ∀ U : State, U.heap = H → s.WarmedH U.vm → va_Pc av (gPre dC dI tys wd L H.size) av.toArray U := by
  intro U hU hW
  subst hU
  exact ⟨rfl, rfl, hP, va_K.moved hW.alike hK, hD.weaken (fun _ _ _ _ => trivial), hZ.go hW hS.2.1 (aA_le hS.1)⟩
theorem g_calli {post : Int32 → gSt → Prop} {u : gSt} (hr : va_Run p l e R s m args below meth c H locs 0 0 0 0 (F0 m pc ls st0) rest (va_Qi post (gB dC dI Wf) (aA L H.size) args0) (aA L H.size)) (hLf : ∀ v, (Wf v).map Prod.fst = L) (hD : va_D (aA L s.heap.size) (Wf u)) (hS : va_S (aA L s.heap.size) s.heap H locs)
    (kk : ∀ (r : Int32) (u' : gSt) (H1 : Heap) (locs1 : List Loc), post r u' → va_P (dC, dI) vwCl (Wf u') H1 → va_D (aA L s.heap.size) (Wf u') → va_S (aA L s.heap.size) s.heap H1 locs1 → W p l e R s m args below meth c H1 locs1 0 0 Q (F0 m (pc + 3) ls (.int r :: rest))) : W p l e R s m args below meth c H locs 0 0 Q (F0 m pc ls st0) :=
  va_calli hr hS (fun q _ h => aA_le hS.1 q h) (aA_le hS.1) (fun r u' t H1 locs1 ht _ hw hB _ _ hS1 => kk r u' H1 locs1 hw (by rw [← ht]; exact hB) (D_congr (by rw [hLf, hLf]) hD) hS1)
theorem g_calll {post : Int64 → gSt → Prop} {u : gSt} (hr : va_Run p l e R s m args below meth c H locs 0 0 0 0 (F0 m pc ls st0) rest (va_Ql post (gB dC dI Wf) (aA L H.size) args0) (aA L H.size)) (hLf : ∀ v, (Wf v).map Prod.fst = L) (hD : va_D (aA L s.heap.size) (Wf u)) (hS : va_S (aA L s.heap.size) s.heap H locs)
    (kk : ∀ (r : Int64) (u' : gSt) (H1 : Heap) (locs1 : List Loc), post r u' → va_P (dC, dI) vwCl (Wf u') H1 → va_D (aA L s.heap.size) (Wf u') → va_S (aA L s.heap.size) s.heap H1 locs1 → W p l e R s m args below meth c H1 locs1 0 0 Q (F0 m (pc + 3) ls (.long r :: rest))) : W p l e R s m args below meth c H locs 0 0 Q (F0 m pc ls st0) :=
  va_calll hr hS (fun q _ h => aA_le hS.1 q h) (aA_le hS.1) (fun r u' t H1 locs1 ht _ hw hB _ _ hS1 => kk r u' H1 locs1 hw (by rw [← ht]; exact hB) (D_congr (by rw [hLf, hLf]) hD) hS1)
theorem g_callv {post : gSt → Prop} {u : gSt} (hr : va_Run p l e R s m args below meth c H locs 0 0 0 0 (F0 m pc ls st0) rest (va_Qv post (gB dC dI Wf) (aA L H.size) args0) (aA L H.size)) (hLf : ∀ v, (Wf v).map Prod.fst = L) (hD : va_D (aA L s.heap.size) (Wf u)) (hS : va_S (aA L s.heap.size) s.heap H locs)
    (kk : ∀ (u' : gSt) (H1 : Heap) (locs1 : List Loc), post u' → va_P (dC, dI) vwCl (Wf u') H1 → va_D (aA L s.heap.size) (Wf u') → va_S (aA L s.heap.size) s.heap H1 locs1 → W p l e R s m args below meth c H1 locs1 0 0 Q (F0 m (pc + 3) ls rest)) : W p l e R s m args below meth c H locs 0 0 Q (F0 m pc ls st0) :=
  va_callv hr hS (fun q _ h => aA_le hS.1 q h) (aA_le hS.1) (fun u' t H1 locs1 ht _ hw hB _ _ hS1 => kk u' H1 locs1 hw (by rw [← ht]; exact hB) (D_congr (by rw [hLf, hLf]) hD) hS1)
theorem g_runV {Qc : Array Value → State → Outcome → State → Prop} {free : Addr → Prop} {wd : va_W} (S : CallFix p m c cc nL s args Ts own) (hM : Met l y ws rm (va_Pc (.ref b :: As) (gPre dC dI tys wd L H.size)) Qc 0 0 free) (cw : CallW R s args own C index y bytes maxL ret ws rm 0 0 n)
    (hrecv : ∃ cell : Cell, H[b]? = some cell ∧ cell.vm.isStatics = false ∧ s.vm.findClass C = some cell.cls) (hK : va_K (dC, dI) vwCl tys s) (hP : va_P (dC, dI) vwCl wd H) (hD : va_D (aA L s.heap.size) wd) (hS : va_S (aA L s.heap.size) s.heap H locs) (hZ : gZ (aA L s.heap.size) s s.heap)
    (hn : As.length = n) (hsize : ls.size = nL) (hstack : st0 = As.reverse ++ .ref b :: rest) (hW : (rest.map fun v => v.category).sum ≤ 8) (hdg : decode cc pc = .ok (.invokevirtual index, 3)) :
    va_Run p l e R s m args below meth c H locs 0 0 0 0 (F0 m pc ls st0) rest (Qc (Value.ref b :: As).toArray) free :=
  va_runV (As := As) (rest := rest) (b := b) S hM cw ⟨gPre.blind, hrecv, g_pre hK hP hD hS hZ _⟩ rfl hn hsize hstack (lv_room hW) hdg ⟨Nat.zero_le _, Nat.zero_le _⟩
theorem g_runS {Qc : Array Value → State → Outcome → State → Prop} {free : Addr → Prop} {wd : va_W} (S : CallFix p m c cc nL s args Ts own) (hM : Met l y ws rm (va_Pc As (gPre dC dI tys wd L H.size)) Qc 0 0 free) (cw : CallB R s args own index y bytes maxL ret ws rm 0 0 n ∧ (Cond.static y).before args s = true)
    (hK : va_K (dC, dI) vwCl tys s) (hP : va_P (dC, dI) vwCl wd H) (hD : va_D (aA L s.heap.size) wd) (hS : va_S (aA L s.heap.size) s.heap H locs) (hZ : gZ (aA L s.heap.size) s s.heap)
    (hn : As.length = n) (hsize : ls.size = nL) (hstack : st0 = As.reverse ++ rest) (hW : (rest.map fun v => v.category).sum ≤ 8) (hdg : decode cc pc = .ok (.invokestatic index, 3)) :
    va_Run p l e R s m args below meth c H locs 0 0 0 0 (F0 m pc ls st0) rest (Qc As.toArray) free :=
  va_runS (As := As) (rest := rest) S hM cw ⟨gPre.blind, g_pre hK hP hD hS hZ _⟩ rfl hn hsize hstack (lv_room hW) hdg ⟨Nat.zero_le _, Nat.zero_le _⟩
theorem s_calli {post : Int32 → Prop} (S : CallFix p m c cc nL s args Ts own) (hM : MetS l y ws rm As post) (cw : CallB R s args own index y bytes maxL ret ws rm 0 0 n ∧ (Cond.static y).before args s = true)
    (hn : As.length = n) (hsize : ls.size = nL) (hstack : st0 = As.reverse ++ rest) (hW : (rest.map fun v => v.category).sum ≤ 8) (hdg : decode cc pc = .ok (.invokestatic index, 3))
    (kk : ∀ r : Int32, post r → W p l e R s m args below meth c H locs 0 0 Q (F0 m (pc + 3) ls (.int r :: rest))) : W p l e R s m args below meth c H locs 0 0 Q (F0 m pc ls st0) :=
  vp_callSi (W.runS (As := As) (rest := rest) S hM cw ⟨fun _ _ _ _ q => q, fun _ _ _ => ⟨rfl, trivial⟩⟩ rfl hn hsize hstack (lv_room hW) hdg ⟨Nat.zero_le _, Nat.zero_le _⟩) kk
theorem s_calll {post : Int64 → Prop} (S : CallFix p m c cc nL s args Ts own) (hM : MetSL l y ws rm As post) (cw : CallB R s args own index y bytes maxL ret ws rm 0 0 n ∧ (Cond.static y).before args s = true)
    (hn : As.length = n) (hsize : ls.size = nL) (hstack : st0 = As.reverse ++ rest) (hW : (rest.map fun v => v.category).sum ≤ 8) (hdg : decode cc pc = .ok (.invokestatic index, 3))
    (kk : ∀ r : Int64, post r → W p l e R s m args below meth c H locs 0 0 Q (F0 m (pc + 3) ls (.long r :: rest))) : W p l e R s m args below meth c H locs 0 0 Q (F0 m pc ls st0) :=
  vp_callSl (W.runS (As := As) (rest := rest) S hM cw ⟨fun _ _ _ _ q => q, fun _ _ _ => ⟨rfl, trivial⟩⟩ rfl hn hsize hstack (lv_room hW) hdg ⟨Nat.zero_le _, Nat.zero_le _⟩) kk
theorem s_calliN {post : Int32 → Prop} {host : String} (S : CallFix p m c cc nL s args Ts own) (hM : MetS l y ws rm As post) (cw : va_CN R s args own index y host bytes maxL ret ws rm 0 0 n ∧ (Cond.static y).before args s = true ∧ True)
    (hn : As.length = n) (hsize : ls.size = nL) (hstack : st0 = As.reverse ++ rest) (hW : (rest.map fun v => v.category).sum ≤ 8) (hdg : decode cc pc = .ok (.invokestatic index, 3))
    (kk : ∀ r : Int32, post r → W p l e R s m args below meth c H locs 0 0 Q (F0 m (pc + 3) ls (.int r :: rest))) : W p l e R s m args below meth c H locs 0 0 Q (F0 m pc ls st0) :=
  vp_callSi (va_Run.run (va_runSN (As := As) (rest := rest) S hM cw ⟨fun _ _ _ _ q => q, fun _ _ _ => ⟨rfl, trivial⟩⟩ rfl hn hsize hstack (lv_room hW) hdg ⟨Nat.zero_le _, Nat.zero_le _⟩)) kk
end VR
theorem mW_L (a : Nat → Nat) (cI cL cZ : ClassId) : ∀ v : gSt, ((fun u : gSt => mW a cI cL cZ u.1 u.2) v).map Prod.fst = mL a := fun _ => rfl
theorem xW_L (a : Nat → Nat) (cI cL cZ : ClassId) : ∀ v : gSt, ((fun u : gSt => xW a cI cL cZ u.1 u.2) v).map Prod.fst = xL a := fun _ => rfl
abbrev mF (a : Nat → Nat) (cI cL cZ : ClassId) : gSt → va_W := fun u => mW a cI cL cZ u.1 u.2
abbrev xF (a : Nat → Nat) (cI cL cZ : ClassId) : gSt → va_W := fun u => xW a cI cL cZ u.1 u.2
end
section
/-! joins and loops; plain functions of the reference's state -/
section VJ
variable {p : Program} {l : Launch} {e : Env} {R : Room} {s : State} {m : MethodId} {args : Array Value} {below : List Frame} {meth : Method} {c : Code} {H : Heap} {locs : List Loc} {cells slots : Nat} {Q : State → Prop}
variable {dC : Nat → ClassId} {dI : Nat → Nat → Nat} {Wf : gSt → va_W} {A : Nat → Prop} {H0 : Heap} {g : JFrame}
theorem w_join {X : Type} (P : X → Prop) (pj nL : Nat) (lv : X → List (Nat × Value)) (st : X → List Value)
    (k2 : (∀ (x : X) (ls : Array Slot), P x → lv_has ls nL (lv x) → W p l e R s m args below meth c H locs cells slots Q (F0 m pj ls (st x))) → W p l e R s m args below meth c H locs cells slots Q g)
    (k1 : ∀ (x : X) (ls : Array Slot), P x → lv_has ls nL (lv x) → W p l e R s m args below meth c H locs cells slots Q (F0 m pj ls (st x))) : W p l e R s m args below meth c H locs cells slots Q g := k2 k1
theorem w_joinH {X : Type} (u : X → gSt) (P : X → Prop) (pj nL : Nat) (lv : X → List (Nat × Value)) (st : X → List Value)
    (k2 : (∀ (x : X) (ls : Array Slot) (H : Heap) (locs : List Loc), P x → lv_has ls nL (lv x) → va_P (dC, dI) vwCl (Wf (u x)) H → va_D A (Wf (u x)) → va_S A H0 H locs → W p l e R s m args below meth c H locs cells slots Q (F0 m pj ls (st x))) → W p l e R s m args below meth c H locs cells slots Q g)
    (k1 : ∀ (x : X) (ls : Array Slot) (H : Heap) (locs : List Loc), P x → lv_has ls nL (lv x) → va_P (dC, dI) vwCl (Wf (u x)) H → va_D A (Wf (u x)) → va_S A H0 H locs → W p l e R s m args below meth c H locs cells slots Q (F0 m pj ls (st x))) : W p l e R s m args below meth c H locs cells slots Q g := k2 k1
theorem w_loop {X : Type} (μ : X → Nat) (P : X → Prop) (pj nL : Nat) (lv : X → List (Nat × Value)) (st : X → List Value)
    (body : ∀ (x : X) (ls : Array Slot), P x → lv_has ls nL (lv x) → (∀ (x' : X) (ls' : Array Slot), P x' → μ x' < μ x → lv_has ls' nL (lv x') → W p l e R s m args below meth c H locs cells slots Q (F0 m pj ls' (st x'))) → W p l e R s m args below meth c H locs cells slots Q (F0 m pj ls (st x)))
    (x0 : X) (ls0 : Array Slot) (h0 : P x0) (hl0 : lv_has ls0 nL (lv x0)) : W p l e R s m args below meth c H locs cells slots Q (F0 m pj ls0 (st x0)) := by
  have key : ∀ (n : Nat) (x : X) (ls : Array Slot), μ x < n → P x → lv_has ls nL (lv x) → W p l e R s m args below meth c H locs cells slots Q (F0 m pj ls (st x)) := by
    intro n
    induction n with
    | zero => intro x ls h; exact absurd h (Nat.not_lt_zero _)
    | succ n ih => intro x ls h hp hl; exact body x ls hp hl (fun x' ls' hp' hm hl' => ih x' ls' (by omega) hp' hl')
  exact key (μ x0 + 1) x0 ls0 (Nat.lt_succ_self _) h0 hl0
theorem w_loopH {X : Type} (μ : X → Nat) (u : X → gSt) (P : X → Prop) (pj nL : Nat) (lv : X → List (Nat × Value)) (st : X → List Value)
    (body : ∀ (x : X) (ls : Array Slot) (H : Heap) (locs : List Loc), P x → lv_has ls nL (lv x) → va_P (dC, dI) vwCl (Wf (u x)) H → va_D A (Wf (u x)) → va_S A H0 H locs → (∀ (x' : X) (ls' : Array Slot) (H' : Heap) (locs' : List Loc), P x' → μ x' < μ x → lv_has ls' nL (lv x') → va_P (dC, dI) vwCl (Wf (u x')) H' → va_D A (Wf (u x')) → va_S A H0 H' locs' → W p l e R s m args below meth c H' locs' cells slots Q (F0 m pj ls' (st x'))) → W p l e R s m args below meth c H locs cells slots Q (F0 m pj ls (st x)))
    (x0 : X) (ls0 : Array Slot) (h0 : P x0) (hl0 : lv_has ls0 nL (lv x0)) (hP0 : va_P (dC, dI) vwCl (Wf (u x0)) H) (hD0 : va_D A (Wf (u x0))) (hS0 : va_S A H0 H locs) : W p l e R s m args below meth c H locs cells slots Q (F0 m pj ls0 (st x0)) := by
  have key : ∀ (n : Nat) (x : X) (ls : Array Slot) (H : Heap) (locs : List Loc), μ x < n → P x → lv_has ls nL (lv x) → va_P (dC, dI) vwCl (Wf (u x)) H → va_D A (Wf (u x)) → va_S A H0 H locs → W p l e R s m args below meth c H locs cells slots Q (F0 m pj ls (st x)) := by
    intro n
    induction n with
    | zero => intro x ls H locs h; exact absurd h (Nat.not_lt_zero _)
    | succ n ih => intro x ls H locs h hp hl hP hD hS; exact body x ls H locs hp hl hP hD hS (fun x' ls' H' locs' hp' hm hl' hP' hD' hS' => ih x' ls' H' locs' (by omega) hp' hl' hP' hD' hS')
  exact key (μ x0 + 1) x0 ls0 H locs (Nat.lt_succ_self _) h0 hl0 hP0 hD0 hS0
end VJ
/-! an int's rest by 16, from 0 on -/
theorem zz_bmod {z : Int} (h1 : -2147483648 ≤ z) (h2 : z < 2147483648) : z.bmod (2 ^ 32) = z := by
  rw [Int.bmod_eq_of_le (by omega) (by omega)]
theorem rg_int {B : Nat} (h : B < 4294967296) : (nI B).toInt = if B < 2147483648 then (B : Int) else (B : Int) - 4294967296 := by
  show (Int32.ofNat B).toInt = _
  rw [Int32.toInt_ofNat']
  have hz : ((Int32.size : Nat) : Int) = 4294967296 := rfl
  rw [Int.bmod_def, hz]
  split <;> split <;> omega
theorem rg_fac (x : Int) : 16 * x.tdiv 16 + x.tmod 16 = x ∧ x.tmod 16 < 16 ∧ -16 < x.tmod 16 ∧ (0 ≤ x → 0 ≤ x.tmod 16) ∧ (x ≤ 0 → x.tmod 16 ≤ 0) := by
  refine ⟨Int.mul_tdiv_add_tmod _ _, Int.tmod_lt_of_pos x (by decide), Int.lt_tmod_of_pos x (by decide), fun h => Int.tmod_nonneg 16 h, fun h => ?_⟩
  have h1 : 0 ≤ (-x).tmod 16 := Int.tmod_nonneg 16 (by omega)
  rw [Int.neg_tmod] at h1
  omega
theorem rg_rem {B : Nat} : ((nI B) - (nI B) / (nI 16) * (nI 16)).toInt = (nI B).toInt.tmod 16 := by
  have e16 : (nI 16).toInt = 16 := by decide
  have hd : ((nI B) / (nI 16)).toInt = (nI B).toInt.tdiv 16 := by
    rw [Int32.toInt_div_of_ne_right _ _ (by decide), e16]
  have hb := Int32.le_toInt (nI B)
  have hb2 := Int32.toInt_lt (nI B)
  obtain ⟨ht, hm1, hm2, hp, hq⟩ := rg_fac (nI B).toInt
  have hmul : ((nI B) / (nI 16) * (nI 16)).toInt = (nI B).toInt.tdiv 16 * 16 := by
    rw [Int32.toInt_mul, hd, e16]
    rcases Int.le_total 0 (nI B).toInt with h | h
    · have := hp h
      rw [zz_bmod (by omega) (by omega)]
    · have := hq h
      rw [zz_bmod (by omega) (by omega)]
  rw [Int32.toInt_sub, hmul, zz_bmod (by omega) (by omega)]
  omega
theorem rg_pos {B : Nat} (h : B < 4294967296) (hr : 0 ≤ (nI B) - (nI B) / (nI 16) * (nI 16)) : (nI B) - (nI B) / (nI 16) * (nI 16) = nI (B % 16) := by
  apply Int32.toInt_inj.mp
  have h0 := Int32.le_iff_toInt_le.mp hr
  have h00 : (0 : Int32).toInt = 0 := by decide
  rw [h00, rg_rem] at h0
  rw [rg_rem]
  have e := rg_int h
  rw [nI_toInt (n := B % 16) (by omega)]
  obtain ⟨ht, hm1, hm2, hp, hq⟩ := rg_fac (nI B).toInt
  generalize (nI B).toInt.tmod 16 = r at *
  generalize (nI B).toInt.tdiv 16 = q at *
  split at e <;> omega
theorem rg_neg {B : Nat} (h : B < 4294967296) (hr : ¬ 0 ≤ (nI B) - (nI B) / (nI 16) * (nI 16)) : (nI B) - (nI B) / (nI 16) * (nI 16) + nI 16 = nI (B % 16) := by
  apply Int32.toInt_inj.mp
  have h0 : ¬ (0 : Int32).toInt ≤ ((nI B) - (nI B) / (nI 16) * (nI 16)).toInt := fun z => hr (Int32.le_iff_toInt_le.mpr z)
  have h00 : (0 : Int32).toInt = 0 := by decide
  have e16 : (nI 16).toInt = 16 := by decide
  rw [h00, rg_rem] at h0
  have e := rg_int h
  obtain ⟨ht, hm1, hm2, hp, hq⟩ := rg_fac (nI B).toInt
  rw [Int32.toInt_add, rg_rem, e16, nI_toInt (n := B % 16) (by omega)]
  generalize (nI B).toInt.tmod 16 = r at *
  generalize (nI B).toInt.tdiv 16 = q at *
  rw [zz_bmod (by omega) (by omega)]
  split at e <;> omega
/-! the reference: what its methods answer -/
def mCode (N : Nat → Nat → Nat) : Nat := N 0 (4 * N 8 0)
def mD (N : Nat → Nat → Nat) : Nat := N 0 (4 * N 8 0 + 1)
def mA (N : Nat → Nat → Nat) : Nat := N 0 (4 * N 8 0 + 2)
def mBB (N : Nat → Nat → Nat) : Nat := N 0 (4 * N 8 0 + 3)
def mBeg (N : Nat → Nat → Nat) : Nat := if N 13 0 = 0 then 1 else if N 15 0 < N 3 0 then N 14 0 else N 14 0 + 1
def mUW (N : Nat → Nat → Nat) (k : Nat) : Nat := if N 1 k = 1 then N 22 (21 * k + 5) else if N 1 k = 2 then min (N 22 (7 * (3 * k + 1) + 5)) (N 22 (21 * k + 5)) else min (N 22 (7 * (3 * k + 2) + 5)) (min (N 22 (7 * (3 * k + 1) + 5)) (N 22 (21 * k + 5)))
def mSW (N : Nat → Nat → Nat) : Nat := if mCode N < 15 then N 19 (mD N) else 0
def mT (N : Nat → Nat → Nat) : Nat := max (max (max (mBeg N) (N 16 0 + 1)) (mUW N (kdN (mCode N)) + 1)) (mSW N + 1)
def mLow (N : Nat → Nat → Nat) (why : Nat) : Nat := max (if why = 0 then mBeg N - 1 else if why = 1 then N 16 0 else max (N 16 0) (mUW N (kdN (mCode N)))) (mBeg N - 1)
def mHigh (N : Nat → Nat → Nat) (why last : Nat) : Nat := min (if why = 0 then N 16 0 else if why = 1 then max (N 16 0) (mUW N (kdN (mCode N))) else max (max (N 16 0) (mUW N (kdN (mCode N)))) (mSW N)) last
def mWt (N : Nat → Nat → Nat) (why last : Nat) : Nat := mHigh N why last - mLow N why
/-- what the walks need of the reference's numbers -/
def mG0 (N : Nat → Nat → Nat) : Prop := N 8 0 < 256 ∧ (∀ p, p < 256 → N 0 (4 * p) ≤ 18 ∧ N 0 (4 * p + 1) < 16 ∧ N 0 (4 * p + 2) < 16 ∧ N 0 (4 * p + 3) < 4294967296)
def mG (N : Nat → Nat → Nat) : Prop := mG0 N ∧ (∀ k, k < 6 → 1 ≤ N 1 k ∧ N 1 k ≤ 3) ∧ (∀ k, k < 6 → N 2 k ≤ 30) ∧ (1 ≤ N 3 0 ∧ N 3 0 ≤ 4)
  ∧ (N 13 0 < 1073741824 ∧ N 14 0 < 1073741824 ∧ N 15 0 < 1073741824 ∧ N 16 0 < 1073741824 ∧ N 17 0 < 1073741824 ∧ (N 13 0 ≠ 0 → 1 ≤ N 14 0)) ∧ (∀ j, j < 16 → N 19 j < 1073741824 ∧ N 21 j < 1073741824) ∧ (∀ u, u < 18 → N 22 (7 * u + 5) < 1073741824)
theorem kdN_lt (k : Nat) : kdN k < 6 := by unfold kdN; (repeat' split) <;> decide
/-! bits (after laws/BITS.to-paste) -/
theorem wb_tb (n : Nat) : (lN n).toBitVec = BitVec.ofNat 64 n := rfl
theorem wb_inj {a b : Int64} (h : a.toBitVec = b.toBitVec) : a = b := Int64.toBitVec_inj.mp h
theorem wb_tn {n : Nat} (h : n < 2 ^ 64) : (lN n).toBitVec.toNat = n := by rw [wb_tb, BitVec.toNat_ofNat, Nat.mod_eq_of_lt h]
theorem wb_of (x : Int64) : ∃ n, n < 2 ^ 64 ∧ x = lN n := ⟨x.toBitVec.toNat, x.toBitVec.isLt, wb_inj (by rw [wb_tb]; simp)⟩
theorem wb_of32 (x : Int32) : ∃ n, n < 2 ^ 32 ∧ x = nI n := ⟨x.toBitVec.toNat, x.toBitVec.isLt, Int32.toBitVec_inj.mp (by show _ = BitVec.ofNat 32 _; simp)⟩
theorem wb_lt2 {a b : Nat} (h : a < b) : 2 ^ a < 2 ^ b := Nat.pow_lt_pow_right (by decide) h
theorem wb_and {a b : Nat} (ha : a < 2 ^ 64) (hb : b < 2 ^ 64) : lN a &&& lN b = lN (a &&& b) := by
  apply wb_inj
  rw [Int64.toBitVec_and, wb_tb, wb_tb, wb_tb]
  apply BitVec.eq_of_toNat_eq
  rw [BitVec.toNat_and, BitVec.toNat_ofNat, BitVec.toNat_ofNat, BitVec.toNat_ofNat, Nat.mod_eq_of_lt ha, Nat.mod_eq_of_lt hb, Nat.mod_eq_of_lt (Nat.and_lt_two_pow _ hb)]
theorem wb_mask {n k : Nat} (hn : n < 2 ^ 64) (hk : k < 64) : lN n &&& lN (2 ^ k - 1) = lN (n % 2 ^ k) := by
  rw [wb_and hn (by have := wb_lt2 hk; omega), Nat.and_two_pow_sub_one_eq_mod]
/-- which memory a long tells -/
def clN (x : Int64) : Nat := x.toBitVec.toNat % 256
theorem clN_lt (x : Int64) : clN x < 256 := Nat.mod_lt _ (by decide)
theorem clN_eq (x : Int64) : (x &&& 255).toInt32 = nI (clN x) := by
  obtain ⟨n, hn, rfl⟩ := wb_of x
  have e : (255 : Int64) = lN (2 ^ 8 - 1) := rfl
  rw [e, wb_mask hn (by decide), lN_i]
  unfold clN
  rw [wb_tn hn]
theorem cl_int {B : Nat} (h : B < 4294967296) : ((nI B).toInt64 &&& 255).toInt32 = nI (B % 256) := by
  have e : (255 : Int64) = (255 : Int32).toInt64 := by decide
  rw [e, ← Int32.toInt64_and, pk_andN (by omega) 8 (by decide), nI_l (by omega), lN_i]
/-! what an instruction makes, and where it goes on -/
def opV (k : Nat) (x b n d : Int64) (mem : Nat → Int64) : Int64 :=
  if k = 1 then x + b else if k = 2 then x - b else if k = 3 then x &&& b else if k = 4 then x ||| b else if k = 5 then x ^^^ b else if k = 6 then n else if k = 7 then x + n
  else if k = 8 then x <<< (Int32.toInt64 ((b &&& 63).toInt32) &&& 63) else if k = 9 then x >>> (Int32.toInt64 ((b &&& 63).toInt32) &&& 63)
  else if k = 10 then (Int64.toUInt64 x >>> ((Int32.toInt64 ((b &&& 63).toInt32)).toUInt64 &&& Int64.toUInt64 63)).toInt64
  else if k = 11 then x * b else if k = 12 then (if b = 0 then 0 else x / b) else if k = 13 then (if b = 0 then 0 else x - x / b * b) else if k = 14 then mem (clN (x + n)) else if k = 15 then d else 0
def nxP (k pl B : Nat) (x : Int64) : Nat := if k = 18 ∨ (k = 16 ∧ x = 0) ∨ (k = 17 ∧ x < 0) then B % 256 else (pl + 1) % 256
def mV (N : Nat → Nat → Nat) (J : Nat → Nat → Int64) : Int64 := opV (mCode N) (J 6 (mA N)) (J 6 (mBB N % 16)) ((nI (mBB N)).toInt64) (J 6 (mD N)) (J 7)
def mNx (N : Nat → Nat → Nat) (J : Nat → Nat → Int64) : Nat := nxP (mCode N) (N 8 0) (mBB N) (J 6 (mA N))
/-- a unit's value goes to its register or memory -/
def mCm (u : gSt) (k : Nat) : gSt := if u.1 24 k = 0 then u else (uN u.1 24 k 0, if u.1 22 (7 * k + 6) = 4294967295 then u.2 else if 16 ≤ u.1 22 (7 * k + 6) then uJ u.2 10 (u.1 22 (7 * k + 6) - 16) (u.2 23 k) else uJ u.2 9 (u.1 22 (7 * k + 6)) (u.2 23 k))
def mCA (t : Nat) : Nat → gSt → gSt
  | 0, u => u
  | n + 1, u => if (mCA t n u).1 24 n ≠ 0 ∧ (mCA t n u).1 22 (7 * n + 5) < t then mCm (mCA t n u) n else mCA t n u
theorem mCm_N (u : gSt) (k f : Nat) (h : f ≠ 24) : (mCm u k).1 f = u.1 f := by
  unfold mCm
  split
  · rfl
  · exact uN_o h
theorem mCA_N (t : Nat) (u : gSt) (f : Nat) (h : f ≠ 24) : ∀ n, (mCA t n u).1 f = u.1 f
  | 0 => rfl
  | n + 1 => by
    unfold mCA
    split
    · rw [mCm_N _ _ _ h, mCA_N t u f h n]
    · exact mCA_N t u f h n
theorem mCm_J (u : gSt) (k f : Nat) (h : f ≠ 9) (h2 : f ≠ 10) : (mCm u k).2 f = u.2 f := by
  unfold mCm
  split
  · rfl
  · show (if _ then _ else _ : Nat → Nat → Int64) f = _
    split
    · rfl
    · split
      · exact uJ_o h2
      · exact uJ_o h
theorem mCA_J (t : Nat) (u : gSt) (f : Nat) (h : f ≠ 9) (h2 : f ≠ 10) : ∀ n, (mCA t n u).2 f = u.2 f
  | 0 => rfl
  | n + 1 => by
    unfold mCA
    split
    · rw [mCm_J _ _ _ h h2, mCA_J t u f h h2 n]
    · exact mCA_J t u f h h2 n
end
section
set_option maxHeartbeats 4000000 in
set_option maxRecDepth 100000 in
theorem tM_writes (l : Launch) (k : Nat) (hk : k < 2147483648) : MetS l yX4_writes wsX4_writes ({ frames := 0, cells := 0, slots := 0, locals := 0 } : Room) [.int (nI (k))] (fun r => r = nI (if k < 15 then 1 else 0)) := by
  refine s_entry (bytes := cX4_writes) (maxL := 1) (ret := (some .boolean)) (by decide) rfl (Nat.le_of_ble_eq_true rfl) ?_
  intro p e s m below meth c ls hx hb hr hml hts hown hlocks hl
  have hown : s.vm.findClass RX4 = some m.cls := hown
  have hl : lv_has ls 1 [(0, .int (nI (k)))] := hl
  refine lv_iload_n hx hb dX4_writes_0 rfl (lv_at hl 0 rfl) ?_
  refine lv_bipush (v := nI 15) hx hb dX4_writes_1 (by decide) ?_
  refine n_icmp_ge (tgt := 10) hx hb (by omega) (by omega) dX4_writes_3 (by decide) (fun c_3 => ?_) (fun c_3 => ?_)
  · refine lv_iconst (v := nI 0) hx hb dX4_writes_10 (by decide) ?_
    exact s_retz hx hb hr hlocks (by decide) (by (repeat' split) <;> first | rfl | (exfalso; omega)) dX4_writes_11
  · refine lv_iconst (v := nI 1) hx hb dX4_writes_6 (by decide) ?_
    refine lv_goto (tgt := 11) hx hb dX4_writes_7 (by decide) ?_
    exact s_retz hx hb hr hlocks (by decide) (by (repeat' split) <;> first | rfl | (exfalso; omega)) dX4_writes_11
set_option maxHeartbeats 4000000 in
set_option maxRecDepth 100000 in
theorem tM_readsA (l : Launch) (k : Nat) (hk : k < 2147483648) : MetS l yX4_readsA wsX4_readsA ({ frames := 0, cells := 0, slots := 0, locals := 0 } : Room) [.int (nI (k))] (fun r => r = nI (if k ≠ 6 ∧ k ≠ 18 then 1 else 0)) := by
  refine s_entry (bytes := cX4_readsA) (maxL := 1) (ret := (some .boolean)) (by decide) rfl (Nat.le_of_ble_eq_true rfl) ?_
  intro p e s m below meth c ls hx hb hr hml hts hown hlocks hl
  have hown : s.vm.findClass RX4 = some m.cls := hown
  have hl : lv_has ls 1 [(0, .int (nI (k)))] := hl
  refine lv_iload_n hx hb dX4_readsA_0 rfl (lv_at hl 0 rfl) ?_
  refine lv_bipush (v := nI 6) hx hb dX4_readsA_1 (by decide) ?_
  refine n_icmp_eq (tgt := 16) hx hb (by omega) (by omega) dX4_readsA_3 (by decide) (fun c_3 => ?_) (fun c_3 => ?_)
  · refine lv_iconst (v := nI 0) hx hb dX4_readsA_16 (by decide) ?_
    exact s_retz hx hb hr hlocks (by decide) (by (repeat' split) <;> first | rfl | (exfalso; omega)) dX4_readsA_17
  · refine lv_iload_n hx hb dX4_readsA_6 rfl (lv_at hl 0 rfl) ?_
    refine lv_bipush (v := nI 18) hx hb dX4_readsA_7 (by decide) ?_
    refine n_icmp_eq (tgt := 16) hx hb (by omega) (by omega) dX4_readsA_9 (by decide) (fun c_9 => ?_) (fun c_9 => ?_)
    · refine lv_iconst (v := nI 0) hx hb dX4_readsA_16 (by decide) ?_
      exact s_retz hx hb hr hlocks (by decide) (by (repeat' split) <;> first | rfl | (exfalso; omega)) dX4_readsA_17
    · refine lv_iconst (v := nI 1) hx hb dX4_readsA_12 (by decide) ?_
      refine lv_goto (tgt := 17) hx hb dX4_readsA_13 (by decide) ?_
      exact s_retz hx hb hr hlocks (by decide) (by (repeat' split) <;> first | rfl | (exfalso; omega)) dX4_readsA_17
set_option maxHeartbeats 4000000 in
set_option maxRecDepth 100000 in
theorem tM_readsB (l : Launch) (k : Nat) (hk : k < 2147483648) : MetS l yX4_readsB wsX4_readsB ({ frames := 0, cells := 0, slots := 0, locals := 0 } : Room) [.int (nI (k))] (fun r => r = nI (if k < 6 ∨ (7 < k ∧ k < 14) then 1 else 0)) := by
  refine s_entry (bytes := cX4_readsB) (maxL := 1) (ret := (some .boolean)) (by decide) rfl (Nat.le_of_ble_eq_true rfl) ?_
  intro p e s m below meth c ls hx hb hr hml hts hown hlocks hl
  have hown : s.vm.findClass RX4 = some m.cls := hown
  have hl : lv_has ls 1 [(0, .int (nI (k)))] := hl
  refine lv_iload_n hx hb dX4_readsB_0 rfl (lv_at hl 0 rfl) ?_
  refine lv_bipush (v := nI 6) hx hb dX4_readsB_1 (by decide) ?_
  refine n_icmp_lt (tgt := 18) hx hb (by omega) (by omega) dX4_readsB_3 (by decide) (fun c_3 => ?_) (fun c_3 => ?_)
  · refine lv_iconst (v := nI 1) hx hb dX4_readsB_18 (by decide) ?_
    refine lv_goto (tgt := 23) hx hb dX4_readsB_19 (by decide) ?_
    exact s_retz hx hb hr hlocks (by decide) (by (repeat' split) <;> first | rfl | (exfalso; omega)) dX4_readsB_23
  · refine lv_iload_n hx hb dX4_readsB_6 rfl (lv_at hl 0 rfl) ?_
    refine lv_bipush (v := nI 7) hx hb dX4_readsB_7 (by decide) ?_
    refine n_icmp_le (tgt := 22) hx hb (by omega) (by omega) dX4_readsB_9 (by decide) (fun c_9 => ?_) (fun c_9 => ?_)
    · refine lv_iconst (v := nI 0) hx hb dX4_readsB_22 (by decide) ?_
      exact s_retz hx hb hr hlocks (by decide) (by (repeat' split) <;> first | rfl | (exfalso; omega)) dX4_readsB_23
    · refine lv_iload_n hx hb dX4_readsB_12 rfl (lv_at hl 0 rfl) ?_
      refine lv_bipush (v := nI 14) hx hb dX4_readsB_13 (by decide) ?_
      refine n_icmp_ge (tgt := 22) hx hb (by omega) (by omega) dX4_readsB_15 (by decide) (fun c_15 => ?_) (fun c_15 => ?_)
      · refine lv_iconst (v := nI 0) hx hb dX4_readsB_22 (by decide) ?_
        exact s_retz hx hb hr hlocks (by decide) (by (repeat' split) <;> first | rfl | (exfalso; omega)) dX4_readsB_23
      · refine lv_iconst (v := nI 1) hx hb dX4_readsB_18 (by decide) ?_
        refine lv_goto (tgt := 23) hx hb dX4_readsB_19 (by decide) ?_
        exact s_retz hx hb hr hlocks (by decide) (by (repeat' split) <;> first | rfl | (exfalso; omega)) dX4_readsB_23
set_option maxHeartbeats 4000000 in
set_option maxRecDepth 100000 in
theorem tM_kindOf (l : Launch) (k : Nat) (hk : k < 2147483648) : MetS l yX4_kindOf wsX4_kindOf ({ frames := 0, cells := 0, slots := 0, locals := 0 } : Room) [.int (nI (k))] (fun r => r = nI (kdN k)) := by
  refine s_entry (bytes := cX4_kindOf) (maxL := 1) (ret := (some .int)) (by decide) rfl (Nat.le_of_ble_eq_true rfl) ?_
  intro p e s m below meth c ls hx hb hr hml hts hown hlocks hl
  have hown : s.vm.findClass RX4 = some m.cls := hown
  have hl : lv_has ls 1 [(0, .int (nI (k)))] := hl
  refine lv_iload_n hx hb dX4_kindOf_0 rfl (lv_at hl 0 rfl) ?_
  refine lv_bipush (v := nI 8) hx hb dX4_kindOf_1 (by decide) ?_
  refine n_icmp_ge (tgt := 10) hx hb (by omega) (by omega) dX4_kindOf_3 (by decide) (fun c_3 => ?_) (fun c_3 => ?_)
  · refine lv_iload_n hx hb dX4_kindOf_10 rfl (lv_at hl 0 rfl) ?_
    refine lv_bipush (v := nI 11) hx hb dX4_kindOf_11 (by decide) ?_
    refine n_icmp_ge (tgt := 20) hx hb (by omega) (by omega) dX4_kindOf_13 (by decide) (fun c_13 => ?_) (fun c_13 => ?_)
    · refine lv_iload_n hx hb dX4_kindOf_20 rfl (lv_at hl 0 rfl) ?_
      refine lv_bipush (v := nI 11) hx hb dX4_kindOf_21 (by decide) ?_
      refine n_icmp_ne (tgt := 30) hx hb (by omega) (by omega) dX4_kindOf_23 (by decide) (fun c_23 => ?_) (fun c_23 => ?_)
      · refine lv_iload_n hx hb dX4_kindOf_30 rfl (lv_at hl 0 rfl) ?_
        refine lv_bipush (v := nI 14) hx hb dX4_kindOf_31 (by decide) ?_
        refine n_icmp_ge (tgt := 40) hx hb (by omega) (by omega) dX4_kindOf_33 (by decide) (fun c_33 => ?_) (fun c_33 => ?_)
        · refine lv_iload_n hx hb dX4_kindOf_40 rfl (lv_at hl 0 rfl) ?_
          refine lv_bipush (v := nI 16) hx hb dX4_kindOf_41 (by decide) ?_
          refine n_icmp_ge (tgt := 50) hx hb (by omega) (by omega) dX4_kindOf_43 (by decide) (fun c_43 => ?_) (fun c_43 => ?_)
          · refine lv_iconst (v := nI 5) hx hb dX4_kindOf_50 (by decide) ?_
            exact s_reti hx hb hr hlocks (by unfold kdN; (repeat' split) <;> first | rfl | (exfalso; omega)) dX4_kindOf_51
          · refine lv_iconst (v := nI 4) hx hb dX4_kindOf_46 (by decide) ?_
            refine lv_goto (tgt := 51) hx hb dX4_kindOf_47 (by decide) ?_
            exact s_reti hx hb hr hlocks (by unfold kdN; (repeat' split) <;> first | rfl | (exfalso; omega)) dX4_kindOf_51
        · refine lv_iconst (v := nI 3) hx hb dX4_kindOf_36 (by decide) ?_
          refine lv_goto (tgt := 51) hx hb dX4_kindOf_37 (by decide) ?_
          exact s_reti hx hb hr hlocks (by unfold kdN; (repeat' split) <;> first | rfl | (exfalso; omega)) dX4_kindOf_51
      · refine lv_iconst (v := nI 2) hx hb dX4_kindOf_26 (by decide) ?_
        refine lv_goto (tgt := 51) hx hb dX4_kindOf_27 (by decide) ?_
        exact s_reti hx hb hr hlocks (by unfold kdN; (repeat' split) <;> first | rfl | (exfalso; omega)) dX4_kindOf_51
    · refine lv_iconst (v := nI 1) hx hb dX4_kindOf_16 (by decide) ?_
      refine lv_goto (tgt := 51) hx hb dX4_kindOf_17 (by decide) ?_
      exact s_reti hx hb hr hlocks (by unfold kdN; (repeat' split) <;> first | rfl | (exfalso; omega)) dX4_kindOf_51
  · refine lv_iconst (v := nI 0) hx hb dX4_kindOf_6 (by decide) ?_
    refine lv_goto (tgt := 51) hx hb dX4_kindOf_7 (by decide) ?_
    exact s_reti hx hb hr hlocks (by unfold kdN; (repeat' split) <;> first | rfl | (exfalso; omega)) dX4_kindOf_51
set_option maxHeartbeats 4000000 in
set_option maxRecDepth 100000 in
theorem tM_greater (l : Launch) (x y : Nat) (hk : x < 2147483648) (hk2 : y < 2147483648) : MetS l yX4_greater wsX4_greater ({ frames := 0, cells := 0, slots := 0, locals := 0 } : Room) [.int (nI (x)), .int (nI (y))] (fun r => r = nI (max x y)) := by
  refine s_entry (bytes := cX4_greater) (maxL := 2) (ret := (some .int)) (by decide) rfl (Nat.le_of_ble_eq_true rfl) ?_
  intro p e s m below meth c ls hx hb hr hml hts hown hlocks hl
  have hown : s.vm.findClass RX4 = some m.cls := hown
  have hl : lv_has ls 2 [(0, .int (nI (x))), (1, .int (nI (y)))] := hl
  refine lv_iload_n hx hb dX4_greater_0 rfl (lv_at hl 0 rfl) ?_
  refine lv_iload_n hx hb dX4_greater_1 rfl (lv_at hl 1 rfl) ?_
  refine n_icmp_le (tgt := 9) hx hb (by omega) (by omega) dX4_greater_2 (by decide) (fun c_2 => ?_) (fun c_2 => ?_)
  · refine lv_iload_n hx hb dX4_greater_9 rfl (lv_at hl 1 rfl) ?_
    exact s_reti hx hb hr hlocks (by first | rw [Nat.max_eq_left (by omega)] | rw [Nat.max_eq_right (by omega)]) dX4_greater_10
  · refine lv_iload_n hx hb dX4_greater_5 rfl (lv_at hl 0 rfl) ?_
    refine lv_goto (tgt := 10) hx hb dX4_greater_6 (by decide) ?_
    exact s_reti hx hb hr hlocks (by first | rw [Nat.max_eq_left (by omega)] | rw [Nat.max_eq_right (by omega)]) dX4_greater_10
set_option maxHeartbeats 4000000 in
set_option maxRecDepth 100000 in
theorem tM_thrown (l : Launch) (dC : Nat → ClassId) (dI : Nat → Nat → Nat) (a : Nat → Nat) (cI cL cZ : ClassId) (N : Nat → Nat → Nat) (J : Nat → Nat → Int64)   : MetI l yX4_thrown wsX4_thrown ({ frames := 0, cells := 0, slots := 0, locals := 0 } : Room) dC dI (gT cI cL cZ) (mF a cI cL cZ) (mL a) (N, J) [.ref (a 0)] (fun r u => r = nI (N 26 0) ∧ u = (N, J)) := by
  intro sz
  refine g_entry (bytes := cX4_thrown) (maxL := 1) (ret := (some .int)) (Qc := fun sz => va_Qi (fun r u => r = nI (N 26 0) ∧ u = (N, J)) (gB dC dI (mF a cI cL cZ)) (aA (mL a) sz)) (by decide) rfl (Nat.le_of_ble_eq_true rfl) rfl ?_
  intro p e s m below meth c ls hx hb hr hml hts hown hlocks hK hP hD hS hZ hl
  have hP : va_P (dC, dI) vwCl (mW a cI cL cZ N J) s.heap := hP
  have hD : va_D (aA (mL a) s.heap.size) (mW a cI cL cZ N J) := hD
  have hown : s.vm.findClass RX4 = some m.cls := hown
  have hl : lv_has ls 1 [(0, .ref (a 0))] := hl
  have hi4 : ∀ w ∈ wsX40, w ∈ wsX4_thrown := by decide +kernel
  have k66 := hts (.fieldLink RX4 66 "ScoreMachineModel" "thrown" "I") (by decide +kernel)
  refine lv_aload_n hx hb dX4_thrown_0 rfl (lv_at hl 0 rfl) ?_
  refine mg_26 (v := N 26 0) hx hb hts hi4 hown hK hP k66 rfl dX4_thrown_1 ?_
  exact g_reti hx hb hr hlocks (N, J) (⟨rfl, rfl⟩) hP hS dX4_thrown_4
set_option maxHeartbeats 4000000 in
set_option maxRecDepth 100000 in
theorem tM_code (l : Launch) (dC : Nat → ClassId) (dI : Nat → Nat → Nat) (a : Nat → Nat) (cI cL cZ : ClassId) (N : Nat → Nat → Nat) (J : Nat → Nat → Int64)  (hG : mG0 N) : MetI l yX4_code wsX4_code ({ frames := 0, cells := 0, slots := 0, locals := 0 } : Room) dC dI (gT cI cL cZ) (mF a cI cL cZ) (mL a) (N, J) [.ref (a 0)] (fun r u => r = nI (mCode N) ∧ u = (N, J)) := by
  intro sz
  refine g_entry (bytes := cX4_code) (maxL := 1) (ret := (some .int)) (Qc := fun sz => va_Qi (fun r u => r = nI (mCode N) ∧ u = (N, J)) (gB dC dI (mF a cI cL cZ)) (aA (mL a) sz)) (by decide) rfl (Nat.le_of_ble_eq_true rfl) rfl ?_
  intro p e s m below meth c ls hx hb hr hml hts hown hlocks hK hP hD hS hZ hl
  have hP : va_P (dC, dI) vwCl (mW a cI cL cZ N J) s.heap := hP
  have hD : va_D (aA (mL a) s.heap.size) (mW a cI cL cZ N J) := hD
  have hown : s.vm.findClass RX4 = some m.cls := hown
  have hl : lv_has ls 1 [(0, .ref (a 0))] := hl
  have hi4 : ∀ w ∈ wsX40, w ∈ wsX4_code := by decide +kernel
  have k86 := hts (.fieldLink RX4 86 "ScoreMachineModel" "place" "I") (by decide +kernel)
  have k9 := hts (.fieldLink RX4 9 "ScoreMachineModel" "program" "[I") (by decide +kernel)
  obtain ⟨hpl, hpr⟩ := id hG
  have hp0 := hpr (N 8 0) hpl
  refine lv_aload_n hx hb dX4_code_0 rfl (lv_at hl 0 rfl) ?_
  refine mg_0 hx hb hts hi4 hown hK hP k9 dX4_code_1 ?_
  refine lv_iconst (v := nI 4) hx hb dX4_code_4 (by decide) ?_
  refine lv_aload_n hx hb dX4_code_5 rfl (lv_at hl 0 rfl) ?_
  refine mg_8 (v := N 8 0) hx hb hts hi4 hown hK hP k86 rfl dX4_code_6 ?_
  refine n_mul hx hb dX4_code_9 ?_
  refine ml_0 (v := N 0 (4 * (N 8 0))) hx hb hK hP (by omega) rfl dX4_code_10 ?_
  exact g_reti hx hb hr hlocks (N, J) (⟨rfl, rfl⟩) hP hS dX4_code_11
set_option maxHeartbeats 4000000 in
set_option maxRecDepth 100000 in
theorem tM_registerB (l : Launch) (dC : Nat → ClassId) (dI : Nat → Nat → Nat) (a : Nat → Nat) (cI cL cZ : ClassId) (N : Nat → Nat → Nat) (J : Nat → Nat → Int64)  (hG : mG0 N) : MetI l yX4_registerB wsX4_registerB ({ frames := 0, cells := 0, slots := 0, locals := 0 } : Room) dC dI (gT cI cL cZ) (mF a cI cL cZ) (mL a) (N, J) [.ref (a 0)] (fun r u => r = nI (mBB N % 16) ∧ u = (N, J)) := by
  intro sz
  refine g_entry (bytes := cX4_registerB) (maxL := 2) (ret := (some .int)) (Qc := fun sz => va_Qi (fun r u => r = nI (mBB N % 16) ∧ u = (N, J)) (gB dC dI (mF a cI cL cZ)) (aA (mL a) sz)) (by decide) rfl (Nat.le_of_ble_eq_true rfl) rfl ?_
  intro p e s m below meth c ls hx hb hr hml hts hown hlocks hK hP hD hS hZ hl
  have hP : va_P (dC, dI) vwCl (mW a cI cL cZ N J) s.heap := hP
  have hD : va_D (aA (mL a) s.heap.size) (mW a cI cL cZ N J) := hD
  have hown : s.vm.findClass RX4 = some m.cls := hown
  have hl : lv_has ls 2 [(0, .ref (a 0))] := hl
  have hi4 : ∀ w ∈ wsX40, w ∈ wsX4_registerB := by decide +kernel
  have k86 := hts (.fieldLink RX4 86 "ScoreMachineModel" "place" "I") (by decide +kernel)
  have k9 := hts (.fieldLink RX4 9 "ScoreMachineModel" "program" "[I") (by decide +kernel)
  obtain ⟨hpl, hpr⟩ := id hG
  have hp0 := hpr (N 8 0) hpl
  refine lv_aload_n hx hb dX4_registerB_0 rfl (lv_at hl 0 rfl) ?_
  refine mg_0 hx hb hts hi4 hown hK hP k9 dX4_registerB_1 ?_
  refine lv_iconst (v := nI 4) hx hb dX4_registerB_4 (by decide) ?_
  refine lv_aload_n hx hb dX4_registerB_5 rfl (lv_at hl 0 rfl) ?_
  refine mg_8 (v := N 8 0) hx hb hts hi4 hown hK hP k86 rfl dX4_registerB_6 ?_
  refine n_mul hx hb dX4_registerB_9 ?_
  refine lv_iconst (v := nI 3) hx hb dX4_registerB_10 (by decide) ?_
  refine n_add hx hb dX4_registerB_11 ?_
  refine ml_0 (v := N 0 ((4 * (N 8 0)) + 3)) hx hb hK hP (by omega) rfl dX4_registerB_12 ?_
  refine lv_bipush (v := nI 16) hx hb dX4_registerB_13 (by decide) ?_
  refine lv_irem hx hb dX4_registerB_15 (by decide) ?_
  refine lv_istore_n (lv' := [(1, .int ((nI (N 0 ((4 * (N 8 0)) + 3))) - (nI (N 0 ((4 * (N 8 0)) + 3))) / (nI 16) * (nI 16))), (0, .ref (a 0))]) hx hb dX4_registerB_16 rfl hl (by decide) rfl (fun ls hl => ?_)
  refine lv_iload_n hx hb dX4_registerB_17 rfl (lv_at hl 0 rfl) ?_
  refine lv_if_ge (tgt := 28) hx hb dX4_registerB_18 (by decide) (fun c_18 => ?_) (fun c_18 => ?_)
  · refine lv_iload_n hx hb dX4_registerB_28 rfl (lv_at hl 0 rfl) ?_
    exact g_reti hx hb hr hlocks (N, J) (by first | exact ⟨rg_pos hp0.2.2.2 c_18, rfl⟩ | exact ⟨rg_neg hp0.2.2.2 c_18, rfl⟩) hP hS dX4_registerB_29
  · refine lv_iload_n hx hb dX4_registerB_21 rfl (lv_at hl 0 rfl) ?_
    refine lv_bipush (v := nI 16) hx hb dX4_registerB_22 (by decide) ?_
    refine lv_iadd hx hb dX4_registerB_24 ?_
    refine lv_goto (tgt := 29) hx hb dX4_registerB_25 (by decide) ?_
    exact g_reti hx hb hr hlocks (N, J) (by first | exact ⟨rg_pos hp0.2.2.2 c_18, rfl⟩ | exact ⟨rg_neg hp0.2.2.2 c_18, rfl⟩) hP hS dX4_registerB_29
set_option maxHeartbeats 4000000 in
set_option maxRecDepth 100000 in
theorem tM_begins (l : Launch) (dC : Nat → ClassId) (dI : Nat → Nat → Nat) (a : Nat → Nat) (cI cL cZ : ClassId) (N : Nat → Nat → Nat) (J : Nat → Nat → Int64)  (hG : mG N) : MetI l yX4_begins wsX4_begins ({ frames := 0, cells := 0, slots := 0, locals := 0 } : Room) dC dI (gT cI cL cZ) (mF a cI cL cZ) (mL a) (N, J) [.ref (a 0)] (fun r u => r = nI (mBeg N) ∧ u = (N, J)) := by
  intro sz
  refine g_entry (bytes := cX4_begins) (maxL := 1) (ret := (some .int)) (Qc := fun sz => va_Qi (fun r u => r = nI (mBeg N) ∧ u = (N, J)) (gB dC dI (mF a cI cL cZ)) (aA (mL a) sz)) (by decide) rfl (Nat.le_of_ble_eq_true rfl) rfl ?_
  intro p e s m below meth c ls hx hb hr hml hts hown hlocks hK hP hD hS hZ hl
  have hP : va_P (dC, dI) vwCl (mW a cI cL cZ N J) s.heap := hP
  have hD : va_D (aA (mL a) s.heap.size) (mW a cI cL cZ N J) := hD
  have hown : s.vm.findClass RX4 = some m.cls := hown
  have hl : lv_has ls 1 [(0, .ref (a 0))] := hl
  have hi4 : ∀ w ∈ wsX40, w ∈ wsX4_begins := by decide +kernel
  have k70 := hts (.fieldLink RX4 70 "ScoreMachineModel" "width" "I") (by decide +kernel)
  have k83 := hts (.fieldLink RX4 83 "ScoreMachineModel" "many" "I") (by decide +kernel)
  have k89 := hts (.fieldLink RX4 89 "ScoreMachineModel" "issuedLast" "I") (by decide +kernel)
  have k92 := hts (.fieldLink RX4 92 "ScoreMachineModel" "issuedThen" "I") (by decide +kernel)
  obtain ⟨⟨hpl, hpr⟩, hun, hla, hwd, hsc, hrg, huw⟩ := id hG
  have hp0 := hpr (N 8 0) hpl
  refine lv_aload_n hx hb dX4_begins_0 rfl (lv_at hl 0 rfl) ?_
  refine mg_13 (v := N 13 0) hx hb hts hi4 hown hK hP k83 rfl dX4_begins_1 ?_
  refine n_if_ne (tgt := 9) hx hb (by omega) dX4_begins_4 (by decide) (fun c_4 => ?_) (fun c_4 => ?_)
  · refine lv_aload_n hx hb dX4_begins_9 rfl (lv_at hl 0 rfl) ?_
    refine mg_15 (v := N 15 0) hx hb hts hi4 hown hK hP k92 rfl dX4_begins_10 ?_
    refine lv_aload_n hx hb dX4_begins_13 rfl (lv_at hl 0 rfl) ?_
    refine mg_3 (v := N 3 0) hx hb hts hi4 hown hK hP k70 rfl dX4_begins_14 ?_
    refine n_icmp_ge (tgt := 27) hx hb (by omega) (by omega) dX4_begins_17 (by decide) (fun c_17 => ?_) (fun c_17 => ?_)
    · refine lv_aload_n hx hb dX4_begins_27 rfl (lv_at hl 0 rfl) ?_
      refine mg_14 (v := N 14 0) hx hb hts hi4 hown hK hP k89 rfl dX4_begins_28 ?_
      refine lv_iconst (v := nI 1) hx hb dX4_begins_31 (by decide) ?_
      refine n_add hx hb dX4_begins_32 ?_
      exact g_reti hx hb hr hlocks (N, J) (⟨by unfold mBeg; (repeat' split) <;> first | rfl | (exfalso; omega), rfl⟩) hP hS dX4_begins_33
    · refine lv_aload_n hx hb dX4_begins_20 rfl (lv_at hl 0 rfl) ?_
      refine mg_14 (v := N 14 0) hx hb hts hi4 hown hK hP k89 rfl dX4_begins_21 ?_
      refine lv_goto (tgt := 33) hx hb dX4_begins_24 (by decide) ?_
      exact g_reti hx hb hr hlocks (N, J) (⟨by unfold mBeg; (repeat' split) <;> first | rfl | (exfalso; omega), rfl⟩) hP hS dX4_begins_33
  · refine lv_iconst (v := nI 1) hx hb dX4_begins_7 (by decide) ?_
    exact g_reti hx hb hr hlocks (N, J) (⟨by unfold mBeg; (repeat' split) <;> first | rfl | (exfalso; omega), rfl⟩) hP hS dX4_begins_8
set_option maxHeartbeats 4000000 in
set_option maxRecDepth 100000 in
theorem tM_sameWritten (l : Launch) (dC : Nat → ClassId) (dI : Nat → Nat → Nat) (a : Nat → Nat) (cI cL cZ : ClassId) (N : Nat → Nat → Nat) (J : Nat → Nat → Int64)  (hG : mG N) : MetI l yX4_sameWritten wsX4_sameWritten ({ frames := 1, cells := 0, slots := 0, locals := 20 } : Room) dC dI (gT cI cL cZ) (mF a cI cL cZ) (mL a) (N, J) [.ref (a 0)] (fun r u => r = nI (mSW N) ∧ u = (N, J)) := by
  intro sz
  refine g_entry (bytes := cX4_sameWritten) (maxL := 1) (ret := (some .int)) (Qc := fun sz => va_Qi (fun r u => r = nI (mSW N) ∧ u = (N, J)) (gB dC dI (mF a cI cL cZ)) (aA (mL a) sz)) (by decide) rfl (Nat.le_of_ble_eq_true rfl) rfl ?_
  intro p e s m below meth c ls hx hb hr hml hts hown hlocks hK hP hD hS hZ hl
  have hP : va_P (dC, dI) vwCl (mW a cI cL cZ N J) s.heap := hP
  have hD : va_D (aA (mL a) s.heap.size) (mW a cI cL cZ N J) := hD
  have hown : s.vm.findClass RX4 = some m.cls := hown
  have hl : lv_has ls 1 [(0, .ref (a 0))] := hl
  have hi4 : ∀ w ∈ wsX40, w ∈ wsX4_sameWritten := by decide +kernel
  have k41 := hts (.fieldLink RX4 41 "ScoreMachineModel" "writtenOf" "[I") (by decide +kernel)
  have k86 := hts (.fieldLink RX4 86 "ScoreMachineModel" "place" "I") (by decide +kernel)
  have k9 := hts (.fieldLink RX4 9 "ScoreMachineModel" "program" "[I") (by decide +kernel)
  obtain ⟨⟨hpl, hpr⟩, hun, hla, hwd, hsc, hrg, huw⟩ := id hG
  have hp0 := hpr (N 8 0) hpl
  have hcd : mCode N ≤ 18 := hp0.1
  refine lv_aload_n hx hb dX4_sameWritten_0 rfl (lv_at hl 0 rfl) ?_
  refine g_calli (u := (N, J)) (g_runV (As := []) (rest := []) ⟨hx, hb, hml, hown, hts⟩ (tM_code l dC dI a cI cL cZ N J hG.1 s.heap.size) (cwV 0 hts gX4_sameWritten_X4_code rfl rfl rfl (by decide +kernel) ⟨Nat.le_of_ble_eq_true rfl, Nat.le_of_ble_eq_true rfl⟩) (va_recv hK hP (ci := 4) (q0 := 0) rfl rfl) hK hP hD hS hZ rfl hl.1 rfl (Nat.le_of_ble_eq_true rfl) dX4_sameWritten_1) (mW_L a cI cL cZ) hD hS (fun r_1 u H locs hw hP hD hS => ?_)
  obtain ⟨rfl, rfl⟩ := hw
  have hP : va_P (dC, dI) vwCl (mW a cI cL cZ N J) H := hP
  have hD : va_D (aA (mL a) s.heap.size) (mW a cI cL cZ N J) := hD
  refine s_calli (As := [.int (nI (mCode N))]) (rest := []) ⟨hx, hb, hml, hown, hts⟩ (tM_writes l (mCode N) (by omega)) (va_cwS 1 hts gX4_sameWritten_X4_writes rfl rfl rfl (by decide +kernel) ⟨Nat.le_of_ble_eq_true rfl, Nat.le_of_ble_eq_true rfl⟩) rfl hl.1 rfl (Nat.le_of_ble_eq_true rfl) dX4_sameWritten_4 (fun r_4 hw => ?_)
  subst hw
  refine n_if_eq (tgt := 31) hx hb (by split <;> omega) dX4_sameWritten_7 (by decide) (fun c_7 => ?_) (fun c_7 => ?_)
  · have c8 : ¬ mCode N < 15 := fun h => by rw [if_pos h] at c_7; exact absurd c_7 (by decide)
    refine lv_iconst (v := nI 0) hx hb dX4_sameWritten_31 (by decide) ?_
    exact g_reti hx hb hr hlocks (N, J) (⟨by unfold mSW; (repeat' split) <;> first | rfl | (exfalso; omega), rfl⟩) hP hS dX4_sameWritten_32
  · have c8 : mCode N < 15 := Classical.byContradiction fun h => c_7 (by rw [if_neg h])
    refine lv_aload_n hx hb dX4_sameWritten_10 rfl (lv_at hl 0 rfl) ?_
    refine mg_19 hx hb hts hi4 hown hK hP k41 dX4_sameWritten_11 ?_
    refine lv_aload_n hx hb dX4_sameWritten_14 rfl (lv_at hl 0 rfl) ?_
    refine mg_0 hx hb hts hi4 hown hK hP k9 dX4_sameWritten_15 ?_
    refine lv_iconst (v := nI 4) hx hb dX4_sameWritten_18 (by decide) ?_
    refine lv_aload_n hx hb dX4_sameWritten_19 rfl (lv_at hl 0 rfl) ?_
    refine mg_8 (v := N 8 0) hx hb hts hi4 hown hK hP k86 rfl dX4_sameWritten_20 ?_
    refine n_mul hx hb dX4_sameWritten_23 ?_
    refine lv_iconst (v := nI 1) hx hb dX4_sameWritten_24 (by decide) ?_
    refine n_add hx hb dX4_sameWritten_25 ?_
    refine ml_0 (v := N 0 ((4 * (N 8 0)) + 1)) hx hb hK hP (by omega) rfl dX4_sameWritten_26 ?_
    refine ml_19 (v := N 19 (N 0 ((4 * (N 8 0)) + 1))) hx hb hK hP hp0.2.1 rfl dX4_sameWritten_27 ?_
    refine lv_goto (tgt := 32) hx hb dX4_sameWritten_28 (by decide) ?_
    exact g_reti hx hb hr hlocks (N, J) (⟨by unfold mSW; (repeat' split) <;> first | rfl | (exfalso; omega), rfl⟩) hP hS dX4_sameWritten_32
set_option maxHeartbeats 4000000 in
set_option maxRecDepth 100000 in
theorem tM_unitWritten (l : Launch) (dC : Nat → ClassId) (dI : Nat → Nat → Nat) (a : Nat → Nat) (cI cL cZ : ClassId) (N : Nat → Nat → Nat) (J : Nat → Nat → Int64) (k : Nat) (hG : mG N) (hk : k < 6) : MetI l yX4_unitWritten wsX4_unitWritten ({ frames := 0, cells := 0, slots := 0, locals := 0 } : Room) dC dI (gT cI cL cZ) (mF a cI cL cZ) (mL a) (N, J) [.ref (a 0), .int (nI (k))] (fun r u => r = nI (mUW N k) ∧ u = (N, J)) := by
  intro sz
  refine g_entry (bytes := cX4_unitWritten) (maxL := 5) (ret := (some .int)) (Qc := fun sz => va_Qi (fun r u => r = nI (mUW N k) ∧ u = (N, J)) (gB dC dI (mF a cI cL cZ)) (aA (mL a) sz)) (by decide) rfl (Nat.le_of_ble_eq_true rfl) rfl ?_
  intro p e s m below meth c ls hx hb hr hml hts hown hlocks hK hP hD hS hZ hl
  have hP : va_P (dC, dI) vwCl (mW a cI cL cZ N J) s.heap := hP
  have hD : va_D (aA (mL a) s.heap.size) (mW a cI cL cZ N J) := hD
  have hown : s.vm.findClass RX4 = some m.cls := hown
  have hl : lv_has ls 5 [(0, .ref (a 0)), (1, .int (nI (k)))] := hl
  have hi4 : ∀ w ∈ wsX40, w ∈ wsX4_unitWritten := by decide +kernel
  have k13 := hts (.fieldLink RX4 13 "ScoreMachineModel" "units" "[I") (by decide +kernel)
  have k50 := hts (.fieldLink RX4 50 "ScoreMachineModel" "unitRow" "[I") (by decide +kernel)
  obtain ⟨⟨hpl, hpr⟩, hun, hla, hwd, hsc, hrg, huw⟩ := id hG
  have hp0 := hpr (N 8 0) hpl
  have hu := hun k hk
  have hb0 : N 22 (21 * k + 5) < 1073741824 := by have h := huw (3 * k) (by omega); rwa [show 7 * (3 * k) + 5 = 21 * k + 5 by omega] at h
  have hb1 := huw (3 * k + 1) (by omega)
  have hb2 := huw (3 * k + 2) (by omega)
  refine lv_aload_n hx hb dX4_unitWritten_0 rfl (lv_at hl 0 rfl) ?_
  refine mg_22 hx hb hts hi4 hown hK hP k50 dX4_unitWritten_1 ?_
  refine lv_bipush (v := nI 21) hx hb dX4_unitWritten_4 (by decide) ?_
  refine lv_iload_n hx hb dX4_unitWritten_6 rfl (lv_at hl 1 rfl) ?_
  refine n_mul hx hb dX4_unitWritten_7 ?_
  refine lv_iconst (v := nI 5) hx hb dX4_unitWritten_8 (by decide) ?_
  refine n_add hx hb dX4_unitWritten_9 ?_
  refine ml_22 (v := N 22 ((21 * k) + 5)) hx hb hK hP (by omega) rfl dX4_unitWritten_10 ?_
  refine lv_istore_n (lv' := [(2, .int (nI (N 22 ((21 * k) + 5)))), (0, .ref (a 0)), (1, .int (nI (k)))]) hx hb dX4_unitWritten_11 rfl hl (by decide) rfl (fun ls hl => ?_)
  refine lv_iconst (v := nI 1) hx hb dX4_unitWritten_12 (by decide) ?_
  refine lv_istore_n (lv' := [(3, .int (nI (1))), (2, .int (nI (N 22 ((21 * k) + 5)))), (0, .ref (a 0)), (1, .int (nI (k)))]) hx hb dX4_unitWritten_13 rfl hl (by decide) rfl (fun ls hl => ?_)
  refine lv_iload_n hx hb dX4_unitWritten_14 rfl (lv_at hl 0 rfl) ?_
  refine lv_aload_n hx hb dX4_unitWritten_15 rfl (lv_at hl 2 rfl) ?_
  refine mg_1 hx hb hts hi4 hown hK hP k13 dX4_unitWritten_16 ?_
  refine lv_iload_n hx hb dX4_unitWritten_19 rfl (lv_at hl 3 rfl) ?_
  refine ml_1 (v := N 1 k) hx hb hK hP (by omega) rfl dX4_unitWritten_20 ?_
  refine n_icmp_ge (tgt := 60) hx hb (by omega) (by omega) dX4_unitWritten_21 (by decide) (fun c_21 => ?_) (fun c_21 => ?_)
  · refine lv_iload_n hx hb dX4_unitWritten_60 rfl (lv_at hl 1 rfl) ?_
    exact g_reti hx hb hr hlocks (N, J) (⟨congrArg nI (by unfold mUW; (repeat' split) <;> omega), rfl⟩) hP hS dX4_unitWritten_61
  · refine lv_aload_n hx hb dX4_unitWritten_24 rfl (lv_at hl 2 rfl) ?_
    refine mg_22 hx hb hts hi4 hown hK hP k50 dX4_unitWritten_25 ?_
    refine lv_bipush (v := nI 7) hx hb dX4_unitWritten_28 (by decide) ?_
    refine lv_iconst (v := nI 3) hx hb dX4_unitWritten_30 (by decide) ?_
    refine lv_iload_n hx hb dX4_unitWritten_31 rfl (lv_at hl 3 rfl) ?_
    refine n_mul hx hb dX4_unitWritten_32 ?_
    refine lv_iload_n hx hb dX4_unitWritten_33 rfl (lv_at hl 0 rfl) ?_
    refine n_add hx hb dX4_unitWritten_34 ?_
    refine n_mul hx hb dX4_unitWritten_35 ?_
    refine lv_iconst (v := nI 5) hx hb dX4_unitWritten_36 (by decide) ?_
    refine n_add hx hb dX4_unitWritten_37 ?_
    refine ml_22 (v := N 22 ((7 * ((3 * k) + 1)) + 5)) hx hb hK hP (by omega) rfl dX4_unitWritten_38 ?_
    refine lv_istore (lv' := [(4, .int (nI (N 22 ((7 * ((3 * k) + 1)) + 5)))), (3, .int (nI (1))), (2, .int (nI (N 22 ((21 * k) + 5)))), (0, .ref (a 0)), (1, .int (nI (k)))]) hx hb dX4_unitWritten_39 hl (by decide) rfl (fun ls hl => ?_)
    refine lv_iload hx hb dX4_unitWritten_41 (lv_at hl 0 rfl) ?_
    refine lv_iload_n hx hb dX4_unitWritten_43 rfl (lv_at hl 2 rfl) ?_
    refine n_icmp_ge (tgt := 52) hx hb (by omega) (by omega) dX4_unitWritten_44 (by decide) (fun c_44 => ?_) (fun c_44 => ?_)
    · refine lv_iload_n hx hb dX4_unitWritten_52 rfl (lv_at hl 2 rfl) ?_
      refine lv_istore_n (lv' := [(2, .int (nI (N 22 ((21 * k) + 5)))), (4, .int (nI (N 22 ((7 * ((3 * k) + 1)) + 5)))), (3, .int (nI (1))), (0, .ref (a 0)), (1, .int (nI (k)))]) hx hb dX4_unitWritten_53 rfl hl (by decide) rfl (fun ls hl => ?_)
      refine lv_iinc (v := nI (2)) (lv' := [(3, .int (nI (2))), (2, .int (nI (N 22 ((21 * k) + 5)))), (4, .int (nI (N 22 ((7 * ((3 * k) + 1)) + 5)))), (0, .ref (a 0)), (1, .int (nI (k)))]) hx hb dX4_unitWritten_54 hl (k := 2) rfl (by decide) (by decide) rfl (fun ls hl => ?_)
      refine lv_goto (tgt := 14) hx hb dX4_unitWritten_57 (by decide) ?_
      refine lv_iload_n hx hb dX4_unitWritten_14 rfl (lv_at hl 0 rfl) ?_
      refine lv_aload_n hx hb dX4_unitWritten_15 rfl (lv_at hl 3 rfl) ?_
      refine mg_1 hx hb hts hi4 hown hK hP k13 dX4_unitWritten_16 ?_
      refine lv_iload_n hx hb dX4_unitWritten_19 rfl (lv_at hl 4 rfl) ?_
      refine ml_1 (v := N 1 k) hx hb hK hP (by omega) rfl dX4_unitWritten_20 ?_
      refine n_icmp_ge (tgt := 60) hx hb (by omega) (by omega) dX4_unitWritten_21 (by decide) (fun c_21 => ?_) (fun c_21 => ?_)
      · refine lv_iload_n hx hb dX4_unitWritten_60 rfl (lv_at hl 1 rfl) ?_
        exact g_reti hx hb hr hlocks (N, J) (⟨congrArg nI (by unfold mUW; (repeat' split) <;> omega), rfl⟩) hP hS dX4_unitWritten_61
      · refine lv_aload_n hx hb dX4_unitWritten_24 rfl (lv_at hl 3 rfl) ?_
        refine mg_22 hx hb hts hi4 hown hK hP k50 dX4_unitWritten_25 ?_
        refine lv_bipush (v := nI 7) hx hb dX4_unitWritten_28 (by decide) ?_
        refine lv_iconst (v := nI 3) hx hb dX4_unitWritten_30 (by decide) ?_
        refine lv_iload_n hx hb dX4_unitWritten_31 rfl (lv_at hl 4 rfl) ?_
        refine n_mul hx hb dX4_unitWritten_32 ?_
        refine lv_iload_n hx hb dX4_unitWritten_33 rfl (lv_at hl 0 rfl) ?_
        refine n_add hx hb dX4_unitWritten_34 ?_
        refine n_mul hx hb dX4_unitWritten_35 ?_
        refine lv_iconst (v := nI 5) hx hb dX4_unitWritten_36 (by decide) ?_
        refine n_add hx hb dX4_unitWritten_37 ?_
        refine ml_22 (v := N 22 ((7 * ((3 * k) + 2)) + 5)) hx hb hK hP (by omega) rfl dX4_unitWritten_38 ?_
        refine lv_istore (lv' := [(4, .int (nI (N 22 ((7 * ((3 * k) + 2)) + 5)))), (3, .int (nI (2))), (2, .int (nI (N 22 ((21 * k) + 5)))), (0, .ref (a 0)), (1, .int (nI (k)))]) hx hb dX4_unitWritten_39 hl (by decide) rfl (fun ls hl => ?_)
        refine lv_iload hx hb dX4_unitWritten_41 (lv_at hl 0 rfl) ?_
        refine lv_iload_n hx hb dX4_unitWritten_43 rfl (lv_at hl 2 rfl) ?_
        refine n_icmp_ge (tgt := 52) hx hb (by omega) (by omega) dX4_unitWritten_44 (by decide) (fun c_44 => ?_) (fun c_44 => ?_)
        · refine lv_iload_n hx hb dX4_unitWritten_52 rfl (lv_at hl 2 rfl) ?_
          refine lv_istore_n (lv' := [(2, .int (nI (N 22 ((21 * k) + 5)))), (4, .int (nI (N 22 ((7 * ((3 * k) + 2)) + 5)))), (3, .int (nI (2))), (0, .ref (a 0)), (1, .int (nI (k)))]) hx hb dX4_unitWritten_53 rfl hl (by decide) rfl (fun ls hl => ?_)
          refine lv_iinc (v := nI (3)) (lv' := [(3, .int (nI (3))), (2, .int (nI (N 22 ((21 * k) + 5)))), (4, .int (nI (N 22 ((7 * ((3 * k) + 2)) + 5)))), (0, .ref (a 0)), (1, .int (nI (k)))]) hx hb dX4_unitWritten_54 hl (k := 2) rfl (by decide) (by decide) rfl (fun ls hl => ?_)
          refine lv_goto (tgt := 14) hx hb dX4_unitWritten_57 (by decide) ?_
          refine lv_iload_n hx hb dX4_unitWritten_14 rfl (lv_at hl 0 rfl) ?_
          refine lv_aload_n hx hb dX4_unitWritten_15 rfl (lv_at hl 3 rfl) ?_
          refine mg_1 hx hb hts hi4 hown hK hP k13 dX4_unitWritten_16 ?_
          refine lv_iload_n hx hb dX4_unitWritten_19 rfl (lv_at hl 4 rfl) ?_
          refine ml_1 (v := N 1 k) hx hb hK hP (by omega) rfl dX4_unitWritten_20 ?_
          refine n_icmp_ge (tgt := 60) hx hb (by omega) (by omega) dX4_unitWritten_21 (by decide) (fun c_21 => ?_) (fun c_21 => absurd c_21 (by omega))
          refine lv_iload_n hx hb dX4_unitWritten_60 rfl (lv_at hl 1 rfl) ?_
          exact g_reti hx hb hr hlocks (N, J) (⟨congrArg nI (by unfold mUW; (repeat' split) <;> omega), rfl⟩) hP hS dX4_unitWritten_61
        · refine lv_iload hx hb dX4_unitWritten_47 (lv_at hl 0 rfl) ?_
          refine lv_goto (tgt := 53) hx hb dX4_unitWritten_49 (by decide) ?_
          refine lv_istore_n (lv' := [(2, .int (nI (N 22 ((7 * ((3 * k) + 2)) + 5)))), (4, .int (nI (N 22 ((7 * ((3 * k) + 2)) + 5)))), (3, .int (nI (2))), (0, .ref (a 0)), (1, .int (nI (k)))]) hx hb dX4_unitWritten_53 rfl hl (by decide) rfl (fun ls hl => ?_)
          refine lv_iinc (v := nI (3)) (lv' := [(3, .int (nI (3))), (2, .int (nI (N 22 ((7 * ((3 * k) + 2)) + 5)))), (4, .int (nI (N 22 ((7 * ((3 * k) + 2)) + 5)))), (0, .ref (a 0)), (1, .int (nI (k)))]) hx hb dX4_unitWritten_54 hl (k := 2) rfl (by decide) (by decide) rfl (fun ls hl => ?_)
          refine lv_goto (tgt := 14) hx hb dX4_unitWritten_57 (by decide) ?_
          refine lv_iload_n hx hb dX4_unitWritten_14 rfl (lv_at hl 0 rfl) ?_
          refine lv_aload_n hx hb dX4_unitWritten_15 rfl (lv_at hl 3 rfl) ?_
          refine mg_1 hx hb hts hi4 hown hK hP k13 dX4_unitWritten_16 ?_
          refine lv_iload_n hx hb dX4_unitWritten_19 rfl (lv_at hl 4 rfl) ?_
          refine ml_1 (v := N 1 k) hx hb hK hP (by omega) rfl dX4_unitWritten_20 ?_
          refine n_icmp_ge (tgt := 60) hx hb (by omega) (by omega) dX4_unitWritten_21 (by decide) (fun c_21 => ?_) (fun c_21 => absurd c_21 (by omega))
          refine lv_iload_n hx hb dX4_unitWritten_60 rfl (lv_at hl 1 rfl) ?_
          exact g_reti hx hb hr hlocks (N, J) (⟨congrArg nI (by unfold mUW; (repeat' split) <;> omega), rfl⟩) hP hS dX4_unitWritten_61
    · refine lv_iload hx hb dX4_unitWritten_47 (lv_at hl 0 rfl) ?_
      refine lv_goto (tgt := 53) hx hb dX4_unitWritten_49 (by decide) ?_
      refine lv_istore_n (lv' := [(2, .int (nI (N 22 ((7 * ((3 * k) + 1)) + 5)))), (4, .int (nI (N 22 ((7 * ((3 * k) + 1)) + 5)))), (3, .int (nI (1))), (0, .ref (a 0)), (1, .int (nI (k)))]) hx hb dX4_unitWritten_53 rfl hl (by decide) rfl (fun ls hl => ?_)
      refine lv_iinc (v := nI (2)) (lv' := [(3, .int (nI (2))), (2, .int (nI (N 22 ((7 * ((3 * k) + 1)) + 5)))), (4, .int (nI (N 22 ((7 * ((3 * k) + 1)) + 5)))), (0, .ref (a 0)), (1, .int (nI (k)))]) hx hb dX4_unitWritten_54 hl (k := 2) rfl (by decide) (by decide) rfl (fun ls hl => ?_)
      refine lv_goto (tgt := 14) hx hb dX4_unitWritten_57 (by decide) ?_
      refine lv_iload_n hx hb dX4_unitWritten_14 rfl (lv_at hl 0 rfl) ?_
      refine lv_aload_n hx hb dX4_unitWritten_15 rfl (lv_at hl 3 rfl) ?_
      refine mg_1 hx hb hts hi4 hown hK hP k13 dX4_unitWritten_16 ?_
      refine lv_iload_n hx hb dX4_unitWritten_19 rfl (lv_at hl 4 rfl) ?_
      refine ml_1 (v := N 1 k) hx hb hK hP (by omega) rfl dX4_unitWritten_20 ?_
      refine n_icmp_ge (tgt := 60) hx hb (by omega) (by omega) dX4_unitWritten_21 (by decide) (fun c_21 => ?_) (fun c_21 => ?_)
      · refine lv_iload_n hx hb dX4_unitWritten_60 rfl (lv_at hl 1 rfl) ?_
        exact g_reti hx hb hr hlocks (N, J) (⟨congrArg nI (by unfold mUW; (repeat' split) <;> omega), rfl⟩) hP hS dX4_unitWritten_61
      · refine lv_aload_n hx hb dX4_unitWritten_24 rfl (lv_at hl 3 rfl) ?_
        refine mg_22 hx hb hts hi4 hown hK hP k50 dX4_unitWritten_25 ?_
        refine lv_bipush (v := nI 7) hx hb dX4_unitWritten_28 (by decide) ?_
        refine lv_iconst (v := nI 3) hx hb dX4_unitWritten_30 (by decide) ?_
        refine lv_iload_n hx hb dX4_unitWritten_31 rfl (lv_at hl 4 rfl) ?_
        refine n_mul hx hb dX4_unitWritten_32 ?_
        refine lv_iload_n hx hb dX4_unitWritten_33 rfl (lv_at hl 0 rfl) ?_
        refine n_add hx hb dX4_unitWritten_34 ?_
        refine n_mul hx hb dX4_unitWritten_35 ?_
        refine lv_iconst (v := nI 5) hx hb dX4_unitWritten_36 (by decide) ?_
        refine n_add hx hb dX4_unitWritten_37 ?_
        refine ml_22 (v := N 22 ((7 * ((3 * k) + 2)) + 5)) hx hb hK hP (by omega) rfl dX4_unitWritten_38 ?_
        refine lv_istore (lv' := [(4, .int (nI (N 22 ((7 * ((3 * k) + 2)) + 5)))), (3, .int (nI (2))), (2, .int (nI (N 22 ((7 * ((3 * k) + 1)) + 5)))), (0, .ref (a 0)), (1, .int (nI (k)))]) hx hb dX4_unitWritten_39 hl (by decide) rfl (fun ls hl => ?_)
        refine lv_iload hx hb dX4_unitWritten_41 (lv_at hl 0 rfl) ?_
        refine lv_iload_n hx hb dX4_unitWritten_43 rfl (lv_at hl 2 rfl) ?_
        refine n_icmp_ge (tgt := 52) hx hb (by omega) (by omega) dX4_unitWritten_44 (by decide) (fun c_44 => ?_) (fun c_44 => ?_)
        · refine lv_iload_n hx hb dX4_unitWritten_52 rfl (lv_at hl 2 rfl) ?_
          refine lv_istore_n (lv' := [(2, .int (nI (N 22 ((7 * ((3 * k) + 1)) + 5)))), (4, .int (nI (N 22 ((7 * ((3 * k) + 2)) + 5)))), (3, .int (nI (2))), (0, .ref (a 0)), (1, .int (nI (k)))]) hx hb dX4_unitWritten_53 rfl hl (by decide) rfl (fun ls hl => ?_)
          refine lv_iinc (v := nI (3)) (lv' := [(3, .int (nI (3))), (2, .int (nI (N 22 ((7 * ((3 * k) + 1)) + 5)))), (4, .int (nI (N 22 ((7 * ((3 * k) + 2)) + 5)))), (0, .ref (a 0)), (1, .int (nI (k)))]) hx hb dX4_unitWritten_54 hl (k := 2) rfl (by decide) (by decide) rfl (fun ls hl => ?_)
          refine lv_goto (tgt := 14) hx hb dX4_unitWritten_57 (by decide) ?_
          refine lv_iload_n hx hb dX4_unitWritten_14 rfl (lv_at hl 0 rfl) ?_
          refine lv_aload_n hx hb dX4_unitWritten_15 rfl (lv_at hl 3 rfl) ?_
          refine mg_1 hx hb hts hi4 hown hK hP k13 dX4_unitWritten_16 ?_
          refine lv_iload_n hx hb dX4_unitWritten_19 rfl (lv_at hl 4 rfl) ?_
          refine ml_1 (v := N 1 k) hx hb hK hP (by omega) rfl dX4_unitWritten_20 ?_
          refine n_icmp_ge (tgt := 60) hx hb (by omega) (by omega) dX4_unitWritten_21 (by decide) (fun c_21 => ?_) (fun c_21 => absurd c_21 (by omega))
          refine lv_iload_n hx hb dX4_unitWritten_60 rfl (lv_at hl 1 rfl) ?_
          exact g_reti hx hb hr hlocks (N, J) (⟨congrArg nI (by unfold mUW; (repeat' split) <;> omega), rfl⟩) hP hS dX4_unitWritten_61
        · refine lv_iload hx hb dX4_unitWritten_47 (lv_at hl 0 rfl) ?_
          refine lv_goto (tgt := 53) hx hb dX4_unitWritten_49 (by decide) ?_
          refine lv_istore_n (lv' := [(2, .int (nI (N 22 ((7 * ((3 * k) + 2)) + 5)))), (4, .int (nI (N 22 ((7 * ((3 * k) + 2)) + 5)))), (3, .int (nI (2))), (0, .ref (a 0)), (1, .int (nI (k)))]) hx hb dX4_unitWritten_53 rfl hl (by decide) rfl (fun ls hl => ?_)
          refine lv_iinc (v := nI (3)) (lv' := [(3, .int (nI (3))), (2, .int (nI (N 22 ((7 * ((3 * k) + 2)) + 5)))), (4, .int (nI (N 22 ((7 * ((3 * k) + 2)) + 5)))), (0, .ref (a 0)), (1, .int (nI (k)))]) hx hb dX4_unitWritten_54 hl (k := 2) rfl (by decide) (by decide) rfl (fun ls hl => ?_)
          refine lv_goto (tgt := 14) hx hb dX4_unitWritten_57 (by decide) ?_
          refine lv_iload_n hx hb dX4_unitWritten_14 rfl (lv_at hl 0 rfl) ?_
          refine lv_aload_n hx hb dX4_unitWritten_15 rfl (lv_at hl 3 rfl) ?_
          refine mg_1 hx hb hts hi4 hown hK hP k13 dX4_unitWritten_16 ?_
          refine lv_iload_n hx hb dX4_unitWritten_19 rfl (lv_at hl 4 rfl) ?_
          refine ml_1 (v := N 1 k) hx hb hK hP (by omega) rfl dX4_unitWritten_20 ?_
          refine n_icmp_ge (tgt := 60) hx hb (by omega) (by omega) dX4_unitWritten_21 (by decide) (fun c_21 => ?_) (fun c_21 => absurd c_21 (by omega))
          refine lv_iload_n hx hb dX4_unitWritten_60 rfl (lv_at hl 1 rfl) ?_
          exact g_reti hx hb hr hlocks (N, J) (⟨congrArg nI (by unfold mUW; (repeat' split) <;> omega), rfl⟩) hP hS dX4_unitWritten_61
theorem mUW_lt {N : Nat → Nat → Nat} {k : Nat} (hG : mG N) (hk : k < 6) : mUW N k < 1073741824 := by
  obtain ⟨⟨hpl, hpr⟩, hun, hla, hwd, hsc, hrg, huw⟩ := hG
  have hb0 : N 22 (21 * k + 5) < 1073741824 := by have h := huw (3 * k) (by omega); rwa [show 7 * (3 * k) + 5 = 21 * k + 5 by omega] at h
  have hb1 := huw (3 * k + 1) (by omega)
  have hb2 := huw (3 * k + 2) (by omega)
  unfold mUW
  (repeat' split) <;> omega
theorem mSW_lt {N : Nat → Nat → Nat} (hG : mG N) : mSW N < 1073741824 := by
  obtain ⟨⟨hpl, hpr⟩, hun, hla, hwd, hsc, hrg, huw⟩ := hG
  unfold mSW
  split
  · exact (hrg _ (hpr _ hpl).2.1).1
  · decide
set_option maxHeartbeats 4000000 in
set_option maxRecDepth 100000 in
theorem tM_issues (l : Launch) (dC : Nat → ClassId) (dI : Nat → Nat → Nat) (a : Nat → Nat) (cI cL cZ : ClassId) (N : Nat → Nat → Nat) (J : Nat → Nat → Int64)  (hG : mG N) : MetI l yX4_issues wsX4_issues ({ frames := 2, cells := 0, slots := 0, locals := 40 } : Room) dC dI (gT cI cL cZ) (mF a cI cL cZ) (mL a) (N, J) [.ref (a 0)] (fun r u => r = nI (mT N) ∧ u = (N, J)) := by
  intro sz
  refine g_entry (bytes := cX4_issues) (maxL := 2) (ret := (some .int)) (Qc := fun sz => va_Qi (fun r u => r = nI (mT N) ∧ u = (N, J)) (gB dC dI (mF a cI cL cZ)) (aA (mL a) sz)) (by decide) rfl (Nat.le_of_ble_eq_true rfl) rfl ?_
  intro p e s m below meth c ls hx hb hr hml hts hown hlocks hK hP hD hS hZ hl
  have hP : va_P (dC, dI) vwCl (mW a cI cL cZ N J) s.heap := hP
  have hD : va_D (aA (mL a) s.heap.size) (mW a cI cL cZ N J) := hD
  have hown : s.vm.findClass RX4 = some m.cls := hown
  have hl : lv_has ls 2 [(0, .ref (a 0))] := hl
  have hi4 : ∀ w ∈ wsX40, w ∈ wsX4_issues := by decide +kernel
  have k95 := hts (.fieldLink RX4 95 "ScoreMachineModel" "branchWritten" "I") (by decide +kernel)
  obtain ⟨⟨hpl, hpr⟩, hun, hla, hwd, hsc, hrg, huw⟩ := id hG
  have hp0 := hpr (N 8 0) hpl
  have hcd : mCode N ≤ 18 := hp0.1
  have hkd := kdN_lt (mCode N)
  have hbB : mBeg N < 1073741825 := by unfold mBeg; (repeat' split) <;> omega
  have hbU : mUW N (kdN (mCode N)) < 1073741824 := mUW_lt hG hkd
  have hbS : mSW N < 1073741824 := mSW_lt hG
  refine lv_aload_n hx hb dX4_issues_0 rfl (lv_at hl 0 rfl) ?_
  refine g_calli (u := (N, J)) (g_runV (As := []) (rest := []) ⟨hx, hb, hml, hown, hts⟩ (tM_begins l dC dI a cI cL cZ N J hG s.heap.size) (cwV 0 hts gX4_issues_X4_begins rfl rfl rfl (by decide +kernel) ⟨Nat.le_of_ble_eq_true rfl, Nat.le_of_ble_eq_true rfl⟩) (va_recv hK hP (ci := 4) (q0 := 0) rfl rfl) hK hP hD hS hZ rfl hl.1 rfl (Nat.le_of_ble_eq_true rfl) dX4_issues_1) (mW_L a cI cL cZ) hD hS (fun r_1 u H locs hw hP hD hS => ?_)
  obtain ⟨rfl, rfl⟩ := hw
  have hP : va_P (dC, dI) vwCl (mW a cI cL cZ N J) H := hP
  have hD : va_D (aA (mL a) s.heap.size) (mW a cI cL cZ N J) := hD
  refine lv_aload_n hx hb dX4_issues_4 rfl (lv_at hl 0 rfl) ?_
  refine mg_16 (v := N 16 0) hx hb hts hi4 hown hK hP k95 rfl dX4_issues_5 ?_
  refine lv_iconst (v := nI 1) hx hb dX4_issues_8 (by decide) ?_
  refine n_add hx hb dX4_issues_9 ?_
  refine s_calli (As := [.int (nI (mBeg N)), .int (nI ((N 16 0) + 1))]) (rest := []) ⟨hx, hb, hml, hown, hts⟩ (tM_greater l (mBeg N) (N 16 0 + 1) (by omega) (by omega)) (va_cwS 2 hts gX4_issues_X4_greater rfl rfl rfl (by decide +kernel) ⟨Nat.le_of_ble_eq_true rfl, Nat.le_of_ble_eq_true rfl⟩) rfl hl.1 rfl (Nat.le_of_ble_eq_true rfl) dX4_issues_10 (fun r_10 hw => ?_)
  subst hw
  refine lv_istore_n (lv' := [(1, .int (nI (max (mBeg N) (N 16 0 + 1)))), (0, .ref (a 0))]) hx hb dX4_issues_13 rfl hl (by decide) rfl (fun ls hl => ?_)
  refine lv_iload_n hx hb dX4_issues_14 rfl (lv_at hl 0 rfl) ?_
  refine lv_aload_n hx hb dX4_issues_15 rfl (lv_at hl 1 rfl) ?_
  refine lv_aload_n hx hb dX4_issues_16 rfl (lv_at hl 1 rfl) ?_
  refine g_calli (u := (N, J)) (g_runV (As := []) (rest := [.ref (a 0), .int (nI (max (mBeg N) (N 16 0 + 1)))]) ⟨hx, hb, hml, hown, hts⟩ (tM_code l dC dI a cI cL cZ N J hG.1 H.size) (cwV 0 hts gX4_issues_X4_code rfl rfl rfl (by decide +kernel) ⟨Nat.le_of_ble_eq_true rfl, Nat.le_of_ble_eq_true rfl⟩) (va_recv hK hP (ci := 4) (q0 := 0) rfl rfl) hK hP hD hS hZ rfl hl.1 rfl (Nat.le_of_ble_eq_true rfl) dX4_issues_17) (mW_L a cI cL cZ) hD hS (fun r_17 u H locs hw hP hD hS => ?_)
  obtain ⟨rfl, rfl⟩ := hw
  have hP : va_P (dC, dI) vwCl (mW a cI cL cZ N J) H := hP
  have hD : va_D (aA (mL a) s.heap.size) (mW a cI cL cZ N J) := hD
  refine s_calli (As := [.int (nI (mCode N))]) (rest := [.ref (a 0), .int (nI (max (mBeg N) (N 16 0 + 1)))]) ⟨hx, hb, hml, hown, hts⟩ (tM_kindOf l (mCode N) (by omega)) (va_cwS 1 hts gX4_issues_X4_kindOf rfl rfl rfl (by decide +kernel) ⟨Nat.le_of_ble_eq_true rfl, Nat.le_of_ble_eq_true rfl⟩) rfl hl.1 rfl (Nat.le_of_ble_eq_true rfl) dX4_issues_20 (fun r_20 hw => ?_)
  subst hw
  refine g_calli (u := (N, J)) (g_runV (As := [.int (nI (kdN (mCode N)))]) (rest := [.int (nI (max (mBeg N) (N 16 0 + 1)))]) ⟨hx, hb, hml, hown, hts⟩ (tM_unitWritten l dC dI a cI cL cZ N J (kdN (mCode N)) hG hkd H.size) (cwV 1 hts gX4_issues_X4_unitWritten rfl rfl rfl (by decide +kernel) ⟨Nat.le_of_ble_eq_true rfl, Nat.le_of_ble_eq_true rfl⟩) (va_recv hK hP (ci := 4) (q0 := 0) rfl rfl) hK hP hD hS hZ rfl hl.1 rfl (Nat.le_of_ble_eq_true rfl) dX4_issues_23) (mW_L a cI cL cZ) hD hS (fun r_23 u H locs hw hP hD hS => ?_)
  obtain ⟨rfl, rfl⟩ := hw
  have hP : va_P (dC, dI) vwCl (mW a cI cL cZ N J) H := hP
  have hD : va_D (aA (mL a) s.heap.size) (mW a cI cL cZ N J) := hD
  refine lv_iconst (v := nI 1) hx hb dX4_issues_26 (by decide) ?_
  refine n_add hx hb dX4_issues_27 ?_
  refine s_calli (As := [.int (nI (max (mBeg N) (N 16 0 + 1))), .int (nI ((mUW N (kdN (mCode N))) + 1))]) (rest := []) ⟨hx, hb, hml, hown, hts⟩ (tM_greater l (max (mBeg N) (N 16 0 + 1)) (mUW N (kdN (mCode N)) + 1) (by omega) (by omega)) (va_cwS 2 hts gX4_issues_X4_greater rfl rfl rfl (by decide +kernel) ⟨Nat.le_of_ble_eq_true rfl, Nat.le_of_ble_eq_true rfl⟩) rfl hl.1 rfl (Nat.le_of_ble_eq_true rfl) dX4_issues_28 (fun r_28 hw => ?_)
  subst hw
  refine lv_istore_n (lv' := [(1, .int (nI (max (max (mBeg N) (N 16 0 + 1)) (mUW N (kdN (mCode N)) + 1)))), (0, .ref (a 0))]) hx hb dX4_issues_31 rfl hl (by decide) rfl (fun ls hl => ?_)
  refine lv_iload_n hx hb dX4_issues_32 rfl (lv_at hl 0 rfl) ?_
  refine lv_aload_n hx hb dX4_issues_33 rfl (lv_at hl 1 rfl) ?_
  refine g_calli (u := (N, J)) (g_runV (As := []) (rest := [.int (nI (max (max (mBeg N) (N 16 0 + 1)) (mUW N (kdN (mCode N)) + 1)))]) ⟨hx, hb, hml, hown, hts⟩ (tM_sameWritten l dC dI a cI cL cZ N J hG H.size) (cwV 0 hts gX4_issues_X4_sameWritten rfl rfl rfl (by decide +kernel) ⟨Nat.le_of_ble_eq_true rfl, Nat.le_of_ble_eq_true rfl⟩) (va_recv hK hP (ci := 4) (q0 := 0) rfl rfl) hK hP hD hS hZ rfl hl.1 rfl (Nat.le_of_ble_eq_true rfl) dX4_issues_34) (mW_L a cI cL cZ) hD hS (fun r_34 u H locs hw hP hD hS => ?_)
  obtain ⟨rfl, rfl⟩ := hw
  have hP : va_P (dC, dI) vwCl (mW a cI cL cZ N J) H := hP
  have hD : va_D (aA (mL a) s.heap.size) (mW a cI cL cZ N J) := hD
  refine lv_iconst (v := nI 1) hx hb dX4_issues_37 (by decide) ?_
  refine n_add hx hb dX4_issues_38 ?_
  refine s_calli (As := [.int (nI (max (max (mBeg N) (N 16 0 + 1)) (mUW N (kdN (mCode N)) + 1))), .int (nI ((mSW N) + 1))]) (rest := []) ⟨hx, hb, hml, hown, hts⟩ (tM_greater l (max (max (mBeg N) (N 16 0 + 1)) (mUW N (kdN (mCode N)) + 1)) (mSW N + 1) (by omega) (by omega)) (va_cwS 2 hts gX4_issues_X4_greater rfl rfl rfl (by decide +kernel) ⟨Nat.le_of_ble_eq_true rfl, Nat.le_of_ble_eq_true rfl⟩) rfl hl.1 rfl (Nat.le_of_ble_eq_true rfl) dX4_issues_39 (fun r_39 hw => ?_)
  subst hw
  exact g_reti hx hb hr hlocks (N, J) (⟨rfl, rfl⟩) hP hS dX4_issues_42
set_option maxHeartbeats 4000000 in
set_option maxRecDepth 100000 in
theorem tM_waited (l : Launch) (dC : Nat → ClassId) (dI : Nat → Nat → Nat) (a : Nat → Nat) (cI cL cZ : ClassId) (N : Nat → Nat → Nat) (J : Nat → Nat → Int64) (w t : Nat) (hG : mG N) (hw : w < 3) (ht : t < 1073741824) : MetI l yX4_waited wsX4_waited ({ frames := 2, cells := 0, slots := 0, locals := 40 } : Room) dC dI (gT cI cL cZ) (mF a cI cL cZ) (mL a) (N, J) [.ref (a 0), .int (nI (w)), .int (nI (t))] (fun r u => r = nI (mWt N w t) ∧ u = (N, J)) := by
  intro sz
  refine g_entry (bytes := cX4_waited) (maxL := 9) (ret := (some .int)) (Qc := fun sz => va_Qi (fun r u => r = nI (mWt N w t) ∧ u = (N, J)) (gB dC dI (mF a cI cL cZ)) (aA (mL a) sz)) (by decide) rfl (Nat.le_of_ble_eq_true rfl) rfl ?_
  intro p e s m below meth c ls hx hb hr hml hts hown hlocks hK hP hD hS hZ hl
  have hP : va_P (dC, dI) vwCl (mW a cI cL cZ N J) s.heap := hP
  have hD : va_D (aA (mL a) s.heap.size) (mW a cI cL cZ N J) := hD
  have hown : s.vm.findClass RX4 = some m.cls := hown
  have hl : lv_has ls 9 [(0, .ref (a 0)), (1, .int (nI (w))), (2, .int (nI (t)))] := hl
  have hi4 : ∀ w ∈ wsX40, w ∈ wsX4_waited := by decide +kernel
  have k95 := hts (.fieldLink RX4 95 "ScoreMachineModel" "branchWritten" "I") (by decide +kernel)
  obtain ⟨⟨hpl, hpr⟩, hun, hla, hwd, hsc, hrg, huw⟩ := id hG
  have hp0 := hpr (N 8 0) hpl
  have hcd : mCode N ≤ 18 := hp0.1
  have hkd := kdN_lt (mCode N)
  have hbB : mBeg N < 1073741825 := by unfold mBeg; (repeat' split) <;> omega
  have hbU : mUW N (kdN (mCode N)) < 1073741824 := mUW_lt hG hkd
  have hbS : mSW N < 1073741824 := mSW_lt hG
  have hb1 : 1 ≤ mBeg N := by unfold mBeg; (repeat' split) <;> omega
  refine lv_aload_n hx hb dX4_waited_0 rfl (lv_at hl 0 rfl) ?_
  refine g_calli (u := (N, J)) (g_runV (As := []) (rest := []) ⟨hx, hb, hml, hown, hts⟩ (tM_begins l dC dI a cI cL cZ N J hG s.heap.size) (cwV 0 hts gX4_waited_X4_begins rfl rfl rfl (by decide +kernel) ⟨Nat.le_of_ble_eq_true rfl, Nat.le_of_ble_eq_true rfl⟩) (va_recv hK hP (ci := 4) (q0 := 0) rfl rfl) hK hP hD hS hZ rfl hl.1 rfl (Nat.le_of_ble_eq_true rfl) dX4_waited_1) (mW_L a cI cL cZ) hD hS (fun r_1 u H locs hw hP hD hS => ?_)
  obtain ⟨rfl, rfl⟩ := hw
  have hP : va_P (dC, dI) vwCl (mW a cI cL cZ N J) H := hP
  have hD : va_D (aA (mL a) s.heap.size) (mW a cI cL cZ N J) := hD
  refine lv_istore_n (lv' := [(3, .int (nI (mBeg N))), (0, .ref (a 0)), (1, .int (nI (w))), (2, .int (nI (t)))]) hx hb dX4_waited_4 rfl hl (by decide) rfl (fun ls hl => ?_)
  refine lv_aload_n hx hb dX4_waited_5 rfl (lv_at hl 1 rfl) ?_
  refine mg_16 (v := N 16 0) hx hb hts hi4 hown hK hP k95 rfl dX4_waited_6 ?_
  refine lv_istore (lv' := [(4, .int (nI (N 16 0))), (3, .int (nI (mBeg N))), (0, .ref (a 0)), (1, .int (nI (w))), (2, .int (nI (t)))]) hx hb dX4_waited_9 hl (by decide) rfl (fun ls hl => ?_)
  refine lv_iload hx hb dX4_waited_11 (lv_at hl 0 rfl) ?_
  refine lv_aload_n hx hb dX4_waited_13 rfl (lv_at hl 2 rfl) ?_
  refine lv_aload_n hx hb dX4_waited_14 rfl (lv_at hl 2 rfl) ?_
  refine g_calli (u := (N, J)) (g_runV (As := []) (rest := [.ref (a 0), .int (nI (N 16 0))]) ⟨hx, hb, hml, hown, hts⟩ (tM_code l dC dI a cI cL cZ N J hG.1 H.size) (cwV 0 hts gX4_waited_X4_code rfl rfl rfl (by decide +kernel) ⟨Nat.le_of_ble_eq_true rfl, Nat.le_of_ble_eq_true rfl⟩) (va_recv hK hP (ci := 4) (q0 := 0) rfl rfl) hK hP hD hS hZ rfl hl.1 rfl (Nat.le_of_ble_eq_true rfl) dX4_waited_15) (mW_L a cI cL cZ) hD hS (fun r_15 u H locs hw hP hD hS => ?_)
  obtain ⟨rfl, rfl⟩ := hw
  have hP : va_P (dC, dI) vwCl (mW a cI cL cZ N J) H := hP
  have hD : va_D (aA (mL a) s.heap.size) (mW a cI cL cZ N J) := hD
  refine s_calli (As := [.int (nI (mCode N))]) (rest := [.ref (a 0), .int (nI (N 16 0))]) ⟨hx, hb, hml, hown, hts⟩ (tM_kindOf l (mCode N) (by omega)) (va_cwS 1 hts gX4_waited_X4_kindOf rfl rfl rfl (by decide +kernel) ⟨Nat.le_of_ble_eq_true rfl, Nat.le_of_ble_eq_true rfl⟩) rfl hl.1 rfl (Nat.le_of_ble_eq_true rfl) dX4_waited_18 (fun r_18 hw => ?_)
  subst hw
  refine g_calli (u := (N, J)) (g_runV (As := [.int (nI (kdN (mCode N)))]) (rest := [.int (nI (N 16 0))]) ⟨hx, hb, hml, hown, hts⟩ (tM_unitWritten l dC dI a cI cL cZ N J (kdN (mCode N)) hG hkd H.size) (cwV 1 hts gX4_waited_X4_unitWritten rfl rfl rfl (by decide +kernel) ⟨Nat.le_of_ble_eq_true rfl, Nat.le_of_ble_eq_true rfl⟩) (va_recv hK hP (ci := 4) (q0 := 0) rfl rfl) hK hP hD hS hZ rfl hl.1 rfl (Nat.le_of_ble_eq_true rfl) dX4_waited_21) (mW_L a cI cL cZ) hD hS (fun r_21 u H locs hw hP hD hS => ?_)
  obtain ⟨rfl, rfl⟩ := hw
  have hP : va_P (dC, dI) vwCl (mW a cI cL cZ N J) H := hP
  have hD : va_D (aA (mL a) s.heap.size) (mW a cI cL cZ N J) := hD
  refine s_calli (As := [.int (nI (N 16 0)), .int (nI (mUW N (kdN (mCode N))))]) (rest := []) ⟨hx, hb, hml, hown, hts⟩ (tM_greater l (N 16 0) (mUW N (kdN (mCode N))) (by omega) (by omega)) (va_cwS 2 hts gX4_waited_X4_greater rfl rfl rfl (by decide +kernel) ⟨Nat.le_of_ble_eq_true rfl, Nat.le_of_ble_eq_true rfl⟩) rfl hl.1 rfl (Nat.le_of_ble_eq_true rfl) dX4_waited_24 (fun r_24 hw => ?_)
  subst hw
  refine lv_istore (lv' := [(5, .int (nI (max (N 16 0) (mUW N (kdN (mCode N)))))), (4, .int (nI (N 16 0))), (3, .int (nI (mBeg N))), (0, .ref (a 0)), (1, .int (nI (w))), (2, .int (nI (t)))]) hx hb dX4_waited_27 hl (by decide) rfl (fun ls hl => ?_)
  refine lv_iload hx hb dX4_waited_29 (lv_at hl 0 rfl) ?_
  refine lv_aload_n hx hb dX4_waited_31 rfl (lv_at hl 3 rfl) ?_
  refine g_calli (u := (N, J)) (g_runV (As := []) (rest := [.int (nI (max (N 16 0) (mUW N (kdN (mCode N)))))]) ⟨hx, hb, hml, hown, hts⟩ (tM_sameWritten l dC dI a cI cL cZ N J hG H.size) (cwV 0 hts gX4_waited_X4_sameWritten rfl rfl rfl (by decide +kernel) ⟨Nat.le_of_ble_eq_true rfl, Nat.le_of_ble_eq_true rfl⟩) (va_recv hK hP (ci := 4) (q0 := 0) rfl rfl) hK hP hD hS hZ rfl hl.1 rfl (Nat.le_of_ble_eq_true rfl) dX4_waited_32) (mW_L a cI cL cZ) hD hS (fun r_32 u H locs hw hP hD hS => ?_)
  obtain ⟨rfl, rfl⟩ := hw
  have hP : va_P (dC, dI) vwCl (mW a cI cL cZ N J) H := hP
  have hD : va_D (aA (mL a) s.heap.size) (mW a cI cL cZ N J) := hD
  refine s_calli (As := [.int (nI (max (N 16 0) (mUW N (kdN (mCode N))))), .int (nI (mSW N))]) (rest := []) ⟨hx, hb, hml, hown, hts⟩ (tM_greater l (max (N 16 0) (mUW N (kdN (mCode N)))) (mSW N) (by omega) (by omega)) (va_cwS 2 hts gX4_waited_X4_greater rfl rfl rfl (by decide +kernel) ⟨Nat.le_of_ble_eq_true rfl, Nat.le_of_ble_eq_true rfl⟩) rfl hl.1 rfl (Nat.le_of_ble_eq_true rfl) dX4_waited_35 (fun r_35 hw => ?_)
  subst hw
  refine lv_istore (lv' := [(6, .int (nI (max (max (N 16 0) (mUW N (kdN (mCode N)))) (mSW N)))), (5, .int (nI (max (N 16 0) (mUW N (kdN (mCode N)))))), (4, .int (nI (N 16 0))), (3, .int (nI (mBeg N))), (0, .ref (a 0)), (1, .int (nI (w))), (2, .int (nI (t)))]) hx hb dX4_waited_38 hl (by decide) rfl (fun ls hl => ?_)
  refine lv_iload_n hx hb dX4_waited_40 rfl (lv_at hl 5 rfl) ?_
  refine n_if_ne (tgt := 50) hx hb (by omega) dX4_waited_41 (by decide) (fun c_41 => ?_) (fun c_41 => ?_)
  · refine lv_iload_n hx hb dX4_waited_50 rfl (lv_at hl 5 rfl) ?_
    refine lv_iconst (v := nI 1) hx hb dX4_waited_51 (by decide) ?_
    refine n_icmp_ne (tgt := 60) hx hb (by omega) (by omega) dX4_waited_52 (by decide) (fun c_52 => ?_) (fun c_52 => ?_)
    · refine lv_iload hx hb dX4_waited_60 (lv_at hl 1 rfl) ?_
      refine lv_istore (lv' := [(7, .int (nI (max (N 16 0) (mUW N (kdN (mCode N)))))), (6, .int (nI (max (max (N 16 0) (mUW N (kdN (mCode N)))) (mSW N)))), (5, .int (nI (max (N 16 0) (mUW N (kdN (mCode N)))))), (4, .int (nI (N 16 0))), (3, .int (nI (mBeg N))), (0, .ref (a 0)), (1, .int (nI (w))), (2, .int (nI (t)))]) hx hb dX4_waited_62 hl (by decide) rfl (fun ls hl => ?_)
      refine lv_iload_n hx hb dX4_waited_64 rfl (lv_at hl 6 rfl) ?_
      refine n_if_ne (tgt := 73) hx hb (by omega) dX4_waited_65 (by decide) (fun c_65 => ?_) (fun c_65 => absurd c_65 (by omega))
      refine lv_iload_n hx hb dX4_waited_73 rfl (lv_at hl 6 rfl) ?_
      refine lv_iconst (v := nI 1) hx hb dX4_waited_74 (by decide) ?_
      refine n_icmp_ne (tgt := 83) hx hb (by omega) (by omega) dX4_waited_75 (by decide) (fun c_75 => ?_) (fun c_75 => absurd c_75 (by omega))
      refine lv_iload hx hb dX4_waited_83 (lv_at hl 1 rfl) ?_
      refine lv_istore (lv' := [(8, .int (nI (max (max (N 16 0) (mUW N (kdN (mCode N)))) (mSW N)))), (7, .int (nI (max (N 16 0) (mUW N (kdN (mCode N)))))), (6, .int (nI (max (max (N 16 0) (mUW N (kdN (mCode N)))) (mSW N)))), (5, .int (nI (max (N 16 0) (mUW N (kdN (mCode N)))))), (4, .int (nI (N 16 0))), (3, .int (nI (mBeg N))), (0, .ref (a 0)), (1, .int (nI (w))), (2, .int (nI (t)))]) hx hb dX4_waited_85 hl (by decide) rfl (fun ls hl => ?_)
      refine lv_iload hx hb dX4_waited_87 (lv_at hl 1 rfl) ?_
      refine lv_iload_n hx hb dX4_waited_89 rfl (lv_at hl 5 rfl) ?_
      refine lv_iconst (v := nI 1) hx hb dX4_waited_90 (by decide) ?_
      refine n_sub hx hb (by omega) dX4_waited_91 ?_
      refine s_calli (As := [.int (nI (max (N 16 0) (mUW N (kdN (mCode N))))), .int (nI ((mBeg N) - 1))]) (rest := []) ⟨hx, hb, hml, hown, hts⟩ (tM_greater l (max (N 16 0) (mUW N (kdN (mCode N)))) (mBeg N - 1) (by omega) (by omega)) (va_cwS 2 hts gX4_waited_X4_greater rfl rfl rfl (by decide +kernel) ⟨Nat.le_of_ble_eq_true rfl, Nat.le_of_ble_eq_true rfl⟩) rfl hl.1 rfl (Nat.le_of_ble_eq_true rfl) dX4_waited_92 (fun r_92 hw => ?_)
      subst hw
      refine lv_istore (lv' := [(7, .int (nI (max (max (N 16 0) (mUW N (kdN (mCode N)))) (mBeg N - 1)))), (8, .int (nI (max (max (N 16 0) (mUW N (kdN (mCode N)))) (mSW N)))), (6, .int (nI (max (max (N 16 0) (mUW N (kdN (mCode N)))) (mSW N)))), (5, .int (nI (max (N 16 0) (mUW N (kdN (mCode N)))))), (4, .int (nI (N 16 0))), (3, .int (nI (mBeg N))), (0, .ref (a 0)), (1, .int (nI (w))), (2, .int (nI (t)))]) hx hb dX4_waited_95 hl (by decide) rfl (fun ls hl => ?_)
      refine lv_iload hx hb dX4_waited_97 (lv_at hl 1 rfl) ?_
      refine lv_iload_n hx hb dX4_waited_99 rfl (lv_at hl 8 rfl) ?_
      refine n_icmp_ge (tgt := 108) hx hb (by omega) (by omega) dX4_waited_100 (by decide) (fun c_100 => ?_) (fun c_100 => ?_)
      · refine lv_iload_n hx hb dX4_waited_108 rfl (lv_at hl 8 rfl) ?_
        refine lv_istore (lv' := [(8, .int (nI (t))), (7, .int (nI (max (max (N 16 0) (mUW N (kdN (mCode N)))) (mBeg N - 1)))), (6, .int (nI (max (max (N 16 0) (mUW N (kdN (mCode N)))) (mSW N)))), (5, .int (nI (max (N 16 0) (mUW N (kdN (mCode N)))))), (4, .int (nI (N 16 0))), (3, .int (nI (mBeg N))), (0, .ref (a 0)), (1, .int (nI (w))), (2, .int (nI (t)))]) hx hb dX4_waited_109 hl (by decide) rfl (fun ls hl => ?_)
        refine lv_iload hx hb dX4_waited_111 (lv_at hl 0 rfl) ?_
        refine lv_iload hx hb dX4_waited_113 (lv_at hl 1 rfl) ?_
        refine n_icmp_le (tgt := 126) hx hb (by omega) (by omega) dX4_waited_115 (by decide) (fun c_115 => ?_) (fun c_115 => ?_)
        · refine lv_iconst (v := nI 0) hx hb dX4_waited_126 (by decide) ?_
          exact g_reti hx hb hr hlocks (N, J) (⟨congrArg nI (by unfold mWt mHigh mLow; (repeat' split) <;> omega), rfl⟩) hP hS dX4_waited_127
        · refine lv_iload hx hb dX4_waited_118 (lv_at hl 0 rfl) ?_
          refine lv_iload hx hb dX4_waited_120 (lv_at hl 1 rfl) ?_
          refine n_sub hx hb (by omega) dX4_waited_122 ?_
          refine lv_goto (tgt := 127) hx hb dX4_waited_123 (by decide) ?_
          exact g_reti hx hb hr hlocks (N, J) (⟨congrArg nI (by unfold mWt mHigh mLow; (repeat' split) <;> omega), rfl⟩) hP hS dX4_waited_127
      · refine lv_iload hx hb dX4_waited_103 (lv_at hl 1 rfl) ?_
        refine lv_goto (tgt := 109) hx hb dX4_waited_105 (by decide) ?_
        refine lv_istore (lv' := [(8, .int (nI (max (max (N 16 0) (mUW N (kdN (mCode N)))) (mSW N)))), (7, .int (nI (max (max (N 16 0) (mUW N (kdN (mCode N)))) (mBeg N - 1)))), (6, .int (nI (max (max (N 16 0) (mUW N (kdN (mCode N)))) (mSW N)))), (5, .int (nI (max (N 16 0) (mUW N (kdN (mCode N)))))), (4, .int (nI (N 16 0))), (3, .int (nI (mBeg N))), (0, .ref (a 0)), (1, .int (nI (w))), (2, .int (nI (t)))]) hx hb dX4_waited_109 hl (by decide) rfl (fun ls hl => ?_)
        refine lv_iload hx hb dX4_waited_111 (lv_at hl 0 rfl) ?_
        refine lv_iload hx hb dX4_waited_113 (lv_at hl 1 rfl) ?_
        refine n_icmp_le (tgt := 126) hx hb (by omega) (by omega) dX4_waited_115 (by decide) (fun c_115 => ?_) (fun c_115 => ?_)
        · refine lv_iconst (v := nI 0) hx hb dX4_waited_126 (by decide) ?_
          exact g_reti hx hb hr hlocks (N, J) (⟨congrArg nI (by unfold mWt mHigh mLow; (repeat' split) <;> omega), rfl⟩) hP hS dX4_waited_127
        · refine lv_iload hx hb dX4_waited_118 (lv_at hl 0 rfl) ?_
          refine lv_iload hx hb dX4_waited_120 (lv_at hl 1 rfl) ?_
          refine n_sub hx hb (by omega) dX4_waited_122 ?_
          refine lv_goto (tgt := 127) hx hb dX4_waited_123 (by decide) ?_
          exact g_reti hx hb hr hlocks (N, J) (⟨congrArg nI (by unfold mWt mHigh mLow; (repeat' split) <;> omega), rfl⟩) hP hS dX4_waited_127
    · refine lv_iload hx hb dX4_waited_55 (lv_at hl 2 rfl) ?_
      refine lv_goto (tgt := 62) hx hb dX4_waited_57 (by decide) ?_
      refine lv_istore (lv' := [(7, .int (nI (N 16 0))), (6, .int (nI (max (max (N 16 0) (mUW N (kdN (mCode N)))) (mSW N)))), (5, .int (nI (max (N 16 0) (mUW N (kdN (mCode N)))))), (4, .int (nI (N 16 0))), (3, .int (nI (mBeg N))), (0, .ref (a 0)), (1, .int (nI (w))), (2, .int (nI (t)))]) hx hb dX4_waited_62 hl (by decide) rfl (fun ls hl => ?_)
      refine lv_iload_n hx hb dX4_waited_64 rfl (lv_at hl 6 rfl) ?_
      refine n_if_ne (tgt := 73) hx hb (by omega) dX4_waited_65 (by decide) (fun c_65 => ?_) (fun c_65 => absurd c_65 (by omega))
      refine lv_iload_n hx hb dX4_waited_73 rfl (lv_at hl 6 rfl) ?_
      refine lv_iconst (v := nI 1) hx hb dX4_waited_74 (by decide) ?_
      refine n_icmp_ne (tgt := 83) hx hb (by omega) (by omega) dX4_waited_75 (by decide) (fun c_75 => absurd c_75 (by omega)) (fun c_75 => ?_)
      refine lv_iload hx hb dX4_waited_78 (lv_at hl 2 rfl) ?_
      refine lv_goto (tgt := 85) hx hb dX4_waited_80 (by decide) ?_
      refine lv_istore (lv' := [(8, .int (nI (max (N 16 0) (mUW N (kdN (mCode N)))))), (7, .int (nI (N 16 0))), (6, .int (nI (max (max (N 16 0) (mUW N (kdN (mCode N)))) (mSW N)))), (5, .int (nI (max (N 16 0) (mUW N (kdN (mCode N)))))), (4, .int (nI (N 16 0))), (3, .int (nI (mBeg N))), (0, .ref (a 0)), (1, .int (nI (w))), (2, .int (nI (t)))]) hx hb dX4_waited_85 hl (by decide) rfl (fun ls hl => ?_)
      refine lv_iload hx hb dX4_waited_87 (lv_at hl 1 rfl) ?_
      refine lv_iload_n hx hb dX4_waited_89 rfl (lv_at hl 5 rfl) ?_
      refine lv_iconst (v := nI 1) hx hb dX4_waited_90 (by decide) ?_
      refine n_sub hx hb (by omega) dX4_waited_91 ?_
      refine s_calli (As := [.int (nI (N 16 0)), .int (nI ((mBeg N) - 1))]) (rest := []) ⟨hx, hb, hml, hown, hts⟩ (tM_greater l (N 16 0) (mBeg N - 1) (by omega) (by omega)) (va_cwS 2 hts gX4_waited_X4_greater rfl rfl rfl (by decide +kernel) ⟨Nat.le_of_ble_eq_true rfl, Nat.le_of_ble_eq_true rfl⟩) rfl hl.1 rfl (Nat.le_of_ble_eq_true rfl) dX4_waited_92 (fun r_92 hw => ?_)
      subst hw
      refine lv_istore (lv' := [(7, .int (nI (max (N 16 0) (mBeg N - 1)))), (8, .int (nI (max (N 16 0) (mUW N (kdN (mCode N)))))), (6, .int (nI (max (max (N 16 0) (mUW N (kdN (mCode N)))) (mSW N)))), (5, .int (nI (max (N 16 0) (mUW N (kdN (mCode N)))))), (4, .int (nI (N 16 0))), (3, .int (nI (mBeg N))), (0, .ref (a 0)), (1, .int (nI (w))), (2, .int (nI (t)))]) hx hb dX4_waited_95 hl (by decide) rfl (fun ls hl => ?_)
      refine lv_iload hx hb dX4_waited_97 (lv_at hl 1 rfl) ?_
      refine lv_iload_n hx hb dX4_waited_99 rfl (lv_at hl 8 rfl) ?_
      refine n_icmp_ge (tgt := 108) hx hb (by omega) (by omega) dX4_waited_100 (by decide) (fun c_100 => ?_) (fun c_100 => ?_)
      · refine lv_iload_n hx hb dX4_waited_108 rfl (lv_at hl 8 rfl) ?_
        refine lv_istore (lv' := [(8, .int (nI (t))), (7, .int (nI (max (N 16 0) (mBeg N - 1)))), (6, .int (nI (max (max (N 16 0) (mUW N (kdN (mCode N)))) (mSW N)))), (5, .int (nI (max (N 16 0) (mUW N (kdN (mCode N)))))), (4, .int (nI (N 16 0))), (3, .int (nI (mBeg N))), (0, .ref (a 0)), (1, .int (nI (w))), (2, .int (nI (t)))]) hx hb dX4_waited_109 hl (by decide) rfl (fun ls hl => ?_)
        refine lv_iload hx hb dX4_waited_111 (lv_at hl 0 rfl) ?_
        refine lv_iload hx hb dX4_waited_113 (lv_at hl 1 rfl) ?_
        refine n_icmp_le (tgt := 126) hx hb (by omega) (by omega) dX4_waited_115 (by decide) (fun c_115 => ?_) (fun c_115 => ?_)
        · refine lv_iconst (v := nI 0) hx hb dX4_waited_126 (by decide) ?_
          exact g_reti hx hb hr hlocks (N, J) (⟨congrArg nI (by unfold mWt mHigh mLow; (repeat' split) <;> omega), rfl⟩) hP hS dX4_waited_127
        · refine lv_iload hx hb dX4_waited_118 (lv_at hl 0 rfl) ?_
          refine lv_iload hx hb dX4_waited_120 (lv_at hl 1 rfl) ?_
          refine n_sub hx hb (by omega) dX4_waited_122 ?_
          refine lv_goto (tgt := 127) hx hb dX4_waited_123 (by decide) ?_
          exact g_reti hx hb hr hlocks (N, J) (⟨congrArg nI (by unfold mWt mHigh mLow; (repeat' split) <;> omega), rfl⟩) hP hS dX4_waited_127
      · refine lv_iload hx hb dX4_waited_103 (lv_at hl 1 rfl) ?_
        refine lv_goto (tgt := 109) hx hb dX4_waited_105 (by decide) ?_
        refine lv_istore (lv' := [(8, .int (nI (max (N 16 0) (mUW N (kdN (mCode N)))))), (7, .int (nI (max (N 16 0) (mBeg N - 1)))), (6, .int (nI (max (max (N 16 0) (mUW N (kdN (mCode N)))) (mSW N)))), (5, .int (nI (max (N 16 0) (mUW N (kdN (mCode N)))))), (4, .int (nI (N 16 0))), (3, .int (nI (mBeg N))), (0, .ref (a 0)), (1, .int (nI (w))), (2, .int (nI (t)))]) hx hb dX4_waited_109 hl (by decide) rfl (fun ls hl => ?_)
        refine lv_iload hx hb dX4_waited_111 (lv_at hl 0 rfl) ?_
        refine lv_iload hx hb dX4_waited_113 (lv_at hl 1 rfl) ?_
        refine n_icmp_le (tgt := 126) hx hb (by omega) (by omega) dX4_waited_115 (by decide) (fun c_115 => ?_) (fun c_115 => ?_)
        · refine lv_iconst (v := nI 0) hx hb dX4_waited_126 (by decide) ?_
          exact g_reti hx hb hr hlocks (N, J) (⟨congrArg nI (by unfold mWt mHigh mLow; (repeat' split) <;> omega), rfl⟩) hP hS dX4_waited_127
        · refine lv_iload hx hb dX4_waited_118 (lv_at hl 0 rfl) ?_
          refine lv_iload hx hb dX4_waited_120 (lv_at hl 1 rfl) ?_
          refine n_sub hx hb (by omega) dX4_waited_122 ?_
          refine lv_goto (tgt := 127) hx hb dX4_waited_123 (by decide) ?_
          exact g_reti hx hb hr hlocks (N, J) (⟨congrArg nI (by unfold mWt mHigh mLow; (repeat' split) <;> omega), rfl⟩) hP hS dX4_waited_127
  · refine lv_iload_n hx hb dX4_waited_44 rfl (lv_at hl 3 rfl) ?_
    refine lv_iconst (v := nI 1) hx hb dX4_waited_45 (by decide) ?_
    refine n_sub hx hb (by omega) dX4_waited_46 ?_
    refine lv_goto (tgt := 62) hx hb dX4_waited_47 (by decide) ?_
    refine lv_istore (lv' := [(7, .int (nI ((mBeg N) - 1))), (6, .int (nI (max (max (N 16 0) (mUW N (kdN (mCode N)))) (mSW N)))), (5, .int (nI (max (N 16 0) (mUW N (kdN (mCode N)))))), (4, .int (nI (N 16 0))), (3, .int (nI (mBeg N))), (0, .ref (a 0)), (1, .int (nI (w))), (2, .int (nI (t)))]) hx hb dX4_waited_62 hl (by decide) rfl (fun ls hl => ?_)
    refine lv_iload_n hx hb dX4_waited_64 rfl (lv_at hl 6 rfl) ?_
    refine n_if_ne (tgt := 73) hx hb (by omega) dX4_waited_65 (by decide) (fun c_65 => absurd c_65 (by omega)) (fun c_65 => ?_)
    refine lv_iload hx hb dX4_waited_68 (lv_at hl 3 rfl) ?_
    refine lv_goto (tgt := 85) hx hb dX4_waited_70 (by decide) ?_
    refine lv_istore (lv' := [(8, .int (nI (N 16 0))), (7, .int (nI ((mBeg N) - 1))), (6, .int (nI (max (max (N 16 0) (mUW N (kdN (mCode N)))) (mSW N)))), (5, .int (nI (max (N 16 0) (mUW N (kdN (mCode N)))))), (4, .int (nI (N 16 0))), (3, .int (nI (mBeg N))), (0, .ref (a 0)), (1, .int (nI (w))), (2, .int (nI (t)))]) hx hb dX4_waited_85 hl (by decide) rfl (fun ls hl => ?_)
    refine lv_iload hx hb dX4_waited_87 (lv_at hl 1 rfl) ?_
    refine lv_iload_n hx hb dX4_waited_89 rfl (lv_at hl 5 rfl) ?_
    refine lv_iconst (v := nI 1) hx hb dX4_waited_90 (by decide) ?_
    refine n_sub hx hb (by omega) dX4_waited_91 ?_
    refine s_calli (As := [.int (nI ((mBeg N) - 1)), .int (nI ((mBeg N) - 1))]) (rest := []) ⟨hx, hb, hml, hown, hts⟩ (tM_greater l ((mBeg N) - 1) (mBeg N - 1) (by omega) (by omega)) (va_cwS 2 hts gX4_waited_X4_greater rfl rfl rfl (by decide +kernel) ⟨Nat.le_of_ble_eq_true rfl, Nat.le_of_ble_eq_true rfl⟩) rfl hl.1 rfl (Nat.le_of_ble_eq_true rfl) dX4_waited_92 (fun r_92 hw => ?_)
    subst hw
    refine lv_istore (lv' := [(7, .int (nI (max ((mBeg N) - 1) (mBeg N - 1)))), (8, .int (nI (N 16 0))), (6, .int (nI (max (max (N 16 0) (mUW N (kdN (mCode N)))) (mSW N)))), (5, .int (nI (max (N 16 0) (mUW N (kdN (mCode N)))))), (4, .int (nI (N 16 0))), (3, .int (nI (mBeg N))), (0, .ref (a 0)), (1, .int (nI (w))), (2, .int (nI (t)))]) hx hb dX4_waited_95 hl (by decide) rfl (fun ls hl => ?_)
    refine lv_iload hx hb dX4_waited_97 (lv_at hl 1 rfl) ?_
    refine lv_iload_n hx hb dX4_waited_99 rfl (lv_at hl 8 rfl) ?_
    refine n_icmp_ge (tgt := 108) hx hb (by omega) (by omega) dX4_waited_100 (by decide) (fun c_100 => ?_) (fun c_100 => ?_)
    · refine lv_iload_n hx hb dX4_waited_108 rfl (lv_at hl 8 rfl) ?_
      refine lv_istore (lv' := [(8, .int (nI (t))), (7, .int (nI (max ((mBeg N) - 1) (mBeg N - 1)))), (6, .int (nI (max (max (N 16 0) (mUW N (kdN (mCode N)))) (mSW N)))), (5, .int (nI (max (N 16 0) (mUW N (kdN (mCode N)))))), (4, .int (nI (N 16 0))), (3, .int (nI (mBeg N))), (0, .ref (a 0)), (1, .int (nI (w))), (2, .int (nI (t)))]) hx hb dX4_waited_109 hl (by decide) rfl (fun ls hl => ?_)
      refine lv_iload hx hb dX4_waited_111 (lv_at hl 0 rfl) ?_
      refine lv_iload hx hb dX4_waited_113 (lv_at hl 1 rfl) ?_
      refine n_icmp_le (tgt := 126) hx hb (by omega) (by omega) dX4_waited_115 (by decide) (fun c_115 => ?_) (fun c_115 => ?_)
      · refine lv_iconst (v := nI 0) hx hb dX4_waited_126 (by decide) ?_
        exact g_reti hx hb hr hlocks (N, J) (⟨congrArg nI (by unfold mWt mHigh mLow; (repeat' split) <;> omega), rfl⟩) hP hS dX4_waited_127
      · refine lv_iload hx hb dX4_waited_118 (lv_at hl 0 rfl) ?_
        refine lv_iload hx hb dX4_waited_120 (lv_at hl 1 rfl) ?_
        refine n_sub hx hb (by omega) dX4_waited_122 ?_
        refine lv_goto (tgt := 127) hx hb dX4_waited_123 (by decide) ?_
        exact g_reti hx hb hr hlocks (N, J) (⟨congrArg nI (by unfold mWt mHigh mLow; (repeat' split) <;> omega), rfl⟩) hP hS dX4_waited_127
    · refine lv_iload hx hb dX4_waited_103 (lv_at hl 1 rfl) ?_
      refine lv_goto (tgt := 109) hx hb dX4_waited_105 (by decide) ?_
      refine lv_istore (lv' := [(8, .int (nI (N 16 0))), (7, .int (nI (max ((mBeg N) - 1) (mBeg N - 1)))), (6, .int (nI (max (max (N 16 0) (mUW N (kdN (mCode N)))) (mSW N)))), (5, .int (nI (max (N 16 0) (mUW N (kdN (mCode N)))))), (4, .int (nI (N 16 0))), (3, .int (nI (mBeg N))), (0, .ref (a 0)), (1, .int (nI (w))), (2, .int (nI (t)))]) hx hb dX4_waited_109 hl (by decide) rfl (fun ls hl => ?_)
      refine lv_iload hx hb dX4_waited_111 (lv_at hl 0 rfl) ?_
      refine lv_iload hx hb dX4_waited_113 (lv_at hl 1 rfl) ?_
      refine n_icmp_le (tgt := 126) hx hb (by omega) (by omega) dX4_waited_115 (by decide) (fun c_115 => ?_) (fun c_115 => ?_)
      · refine lv_iconst (v := nI 0) hx hb dX4_waited_126 (by decide) ?_
        exact g_reti hx hb hr hlocks (N, J) (⟨congrArg nI (by unfold mWt mHigh mLow; (repeat' split) <;> omega), rfl⟩) hP hS dX4_waited_127
      · refine lv_iload hx hb dX4_waited_118 (lv_at hl 0 rfl) ?_
        refine lv_iload hx hb dX4_waited_120 (lv_at hl 1 rfl) ?_
        refine n_sub hx hb (by omega) dX4_waited_122 ?_
        refine lv_goto (tgt := 127) hx hb dX4_waited_123 (by decide) ?_
        exact g_reti hx hb hr hlocks (N, J) (⟨congrArg nI (by unfold mWt mHigh mLow; (repeat' split) <;> omega), rfl⟩) hP hS dX4_waited_127
end
section
def cnN (f : Nat → Nat) : Nat → Nat
  | 0 => 0
  | n + 1 => cnN f n + (if f n = 0 then 0 else 1)
theorem cnN_le (f : Nat → Nat) : ∀ n, cnN f n ≤ n
  | 0 => Nat.le_refl 0
  | n + 1 => by
    have h := cnN_le f n
    show cnN f n + (if f n = 0 then 0 else 1) ≤ n + 1
    split <;> omega
set_option maxHeartbeats 4000000 in
set_option maxRecDepth 100000 in
theorem tM_open (l : Launch) (dC : Nat → ClassId) (dI : Nat → Nat → Nat) (a : Nat → Nat) (cI cL cZ : ClassId) (N : Nat → Nat → Nat) (J : Nat → Nat → Int64)  (hz : ∀ k, k < 18 → N 24 k < 2) : MetI l yX4_open wsX4_open ({ frames := 0, cells := 0, slots := 0, locals := 0 } : Room) dC dI (gT cI cL cZ) (mF a cI cL cZ) (mL a) (N, J) [.ref (a 0)] (fun r u => r = nI (cnN (N 24) 18) ∧ u = (N, J)) := by
  intro sz
  refine g_entry (bytes := cX4_open) (maxL := 3) (ret := (some .int)) (Qc := fun sz => va_Qi (fun r u => r = nI (cnN (N 24) 18) ∧ u = (N, J)) (gB dC dI (mF a cI cL cZ)) (aA (mL a) sz)) (by decide) rfl (Nat.le_of_ble_eq_true rfl) rfl ?_
  intro p e s m below meth c ls hx hb hr hml hts hown hlocks hK hP hD hS hZ hl
  have hP : va_P (dC, dI) vwCl (mW a cI cL cZ N J) s.heap := hP
  have hD : va_D (aA (mL a) s.heap.size) (mW a cI cL cZ N J) := hD
  have hown : s.vm.findClass RX4 = some m.cls := hown
  have hl : lv_has ls 3 [(0, .ref (a 0))] := hl
  have hi4 : ∀ w ∈ wsX40, w ∈ wsX4_open := by decide +kernel
  have k56 := hts (.fieldLink RX4 56 "ScoreMachineModel" "unitOpen" "[Z") (by decide +kernel)
  refine lv_iconst (v := nI 0) hx hb dX4_open_0 (by decide) ?_
  refine lv_istore_n (lv' := [(1, .int (nI (0))), (0, .ref (a 0))]) hx hb dX4_open_1 rfl hl (by decide) rfl (fun ls hl => ?_)
  refine lv_iconst (v := nI 0) hx hb dX4_open_2 (by decide) ?_
  refine lv_istore_n (lv' := [(2, .int (nI (0))), (1, .int (nI (0))), (0, .ref (a 0))]) hx hb dX4_open_3 rfl hl (by decide) rfl (fun ls hl => ?_)
  refine w_loop (X := Nat) (μ := fun x4 => 18 - x4) (P := fun x4 => x4 ≤ 18) (pj := 4) (nL := 3) (lv := fun x4 => [(0, .ref (a 0)), (1, .int (nI (cnN (N 24) x4))), (2, .int (nI (x4)))]) (st := fun x4 => []) (fun x4 ls ex4 hl jn_4 => ?_) 0 ls (by omega) (lv_sub hl [2, 1, 0] rfl)
  have ex4 : x4 ≤ 18 := ex4
  have hl : lv_has ls 3 [(0, .ref (a 0)), (1, .int (nI (cnN (N 24) x4))), (2, .int (nI (x4)))] := hl
  refine lv_iload_n hx hb dX4_open_4 rfl (lv_at hl 2 rfl) ?_
  refine lv_bipush (v := nI 18) hx hb dX4_open_5 (by decide) ?_
  refine n_icmp_ge (tgt := 28) hx hb (by omega) (by omega) dX4_open_7 (by decide) (fun c_7 => ?_) (fun c_7 => ?_)
  · have e18 : x4 = 18 := by omega
    subst e18
    refine lv_iload_n hx hb dX4_open_28 rfl (lv_at hl 1 rfl) ?_
    exact g_reti hx hb hr hlocks (N, J) (⟨rfl, rfl⟩) hP hS dX4_open_29
  · refine lv_aload_n hx hb dX4_open_10 rfl (lv_at hl 0 rfl) ?_
    refine mg_24 hx hb hts hi4 hown hK hP k56 dX4_open_11 ?_
    refine lv_iload_n hx hb dX4_open_14 rfl (lv_at hl 2 rfl) ?_
    refine ml_24 (v := N 24 x4) hx hb hK hP (by omega) rfl dX4_open_15 ?_
    refine n_if_eq (tgt := 22) hx hb (by have := hz x4 (by omega); omega) dX4_open_16 (by decide) (fun c_16 => ?_) (fun c_16 => ?_)
    · refine lv_iinc (v := nI (x4 + 1)) (lv' := [(2, .int (nI (x4 + 1))), (0, .ref (a 0)), (1, .int (nI (cnN (N 24) x4)))]) hx hb dX4_open_22 hl (k := 2) rfl (nI_1 _) (by decide) rfl (fun ls hl => ?_)
      refine lv_goto (tgt := 4) hx hb dX4_open_25 (by decide) ?_
      rw [show cnN (N 24) x4  = cnN (N 24) (x4 + 1) from (by show _ = cnN (N 24) x4 + (if N 24 x4 = 0 then 0 else 1); rw [if_pos c_16, Nat.add_zero])] at hl
      exact jn_4 (x4 + 1) ls (by omega) (by omega) (lv_sub hl [1, 2, 0] rfl)
    · refine lv_iinc (v := nI (cnN (N 24) x4 + 1)) (lv' := [(1, .int (nI (cnN (N 24) x4 + 1))), (0, .ref (a 0)), (2, .int (nI (x4)))]) hx hb dX4_open_19 hl (k := 1) rfl (nI_1 _) (by decide) rfl (fun ls hl => ?_)
      refine lv_iinc (v := nI (x4 + 1)) (lv' := [(2, .int (nI (x4 + 1))), (1, .int (nI (cnN (N 24) x4 + 1))), (0, .ref (a 0))]) hx hb dX4_open_22 hl (k := 2) rfl (nI_1 _) (by decide) rfl (fun ls hl => ?_)
      refine lv_goto (tgt := 4) hx hb dX4_open_25 (by decide) ?_
      rw [show cnN (N 24) x4 + 1 = cnN (N 24) (x4 + 1) from (by show _ = cnN (N 24) x4 + (if N 24 x4 = 0 then 0 else 1); rw [if_neg c_16])] at hl
      exact jn_4 (x4 + 1) ls (by omega) (by omega) (lv_sub hl [2, 1, 0] rfl)
set_option maxHeartbeats 4000000 in
set_option maxRecDepth 100000 in
theorem tM_commit_b (l : Launch) (dC : Nat → ClassId) (dI : Nat → Nat → Nat) (a : Nat → Nat) (cI cL cZ : ClassId) (N : Nat → Nat → Nat) (J : Nat → Nat → Int64) (k : Nat) (hk : k < 18) (hz : N 24 k < 2) (ht : N 22 (7 * k + 6) = 4294967295) : MetV l yX4_commit wsX4_commit ({ frames := 0, cells := 0, slots := 0, locals := 0 } : Room) dC dI (gT cI cL cZ) (mF a cI cL cZ) (mL a) (N, J) [.ref (a 0), .int (nI (k))] (fun u => u = mCm (N, J) k) := by
  intro sz
  refine g_entry (bytes := cX4_commit) (maxL := 3) (ret := none) (Qc := fun sz => va_Qv (fun u => u = mCm (N, J) k) (gB dC dI (mF a cI cL cZ)) (aA (mL a) sz)) (by decide) rfl (Nat.le_of_ble_eq_true rfl) rfl ?_
  intro p e s m below meth c ls hx hb hr hml hts hown hlocks hK hP hD hS hZ hl
  have hP : va_P (dC, dI) vwCl (mW a cI cL cZ N J) s.heap := hP
  have hD : va_D (aA (mL a) s.heap.size) (mW a cI cL cZ N J) := hD
  have hown : s.vm.findClass RX4 = some m.cls := hown
  have hl : lv_has ls 3 [(0, .ref (a 0)), (1, .int (nI (k)))] := hl
  have hi4 : ∀ w ∈ wsX40, w ∈ wsX4_commit := by decide +kernel
  have k50 := hts (.fieldLink RX4 50 "ScoreMachineModel" "unitRow" "[I") (by decide +kernel)
  have k56 := hts (.fieldLink RX4 56 "ScoreMachineModel" "unitOpen" "[Z") (by decide +kernel)
  refine lv_aload_n hx hb dX4_commit_0 rfl (lv_at hl 0 rfl) ?_
  refine mg_24 hx hb hts hi4 hown hK hP k56 dX4_commit_1 ?_
  refine lv_iload_n hx hb dX4_commit_4 rfl (lv_at hl 1 rfl) ?_
  refine ml_24 (v := N 24 k) hx hb hK hP (by omega) rfl dX4_commit_5 ?_
  refine n_if_ne (tgt := 10) hx hb (by omega) dX4_commit_6 (by decide) (fun c_6 => ?_) (fun c_6 => ?_)
  · refine lv_aload_n hx hb dX4_commit_10 rfl (lv_at hl 0 rfl) ?_
    refine mg_24 hx hb hts hi4 hown hK hP k56 dX4_commit_11 ?_
    refine lv_iload_n hx hb dX4_commit_14 rfl (lv_at hl 1 rfl) ?_
    refine lv_iconst (v := nI 0) hx hb dX4_commit_15 (by decide) ?_
    refine ms_24 hx hb hK hP hD hS (by omega) (by omega) dX4_commit_16 (fun H locs hP hD hS => ?_)
    refine lv_aload_n hx hb dX4_commit_17 rfl (lv_at hl 0 rfl) ?_
    refine mg_22 hx hb hts hi4 hown hK hP k50 dX4_commit_18 ?_
    refine lv_bipush (v := nI 7) hx hb dX4_commit_21 (by decide) ?_
    refine lv_iload_n hx hb dX4_commit_23 rfl (lv_at hl 1 rfl) ?_
    refine n_mul hx hb dX4_commit_24 ?_
    refine lv_bipush (v := nI 6) hx hb dX4_commit_25 (by decide) ?_
    refine n_add hx hb dX4_commit_27 ?_
    refine ml_22 (v := 4294967295) hx hb hK hP (by omega) ht dX4_commit_28 ?_
    refine lv_istore_n (lv' := [(2, .int (nI (4294967295))), (0, .ref (a 0)), (1, .int (nI (k)))]) hx hb dX4_commit_29 rfl hl (by decide) rfl (fun ls hl => ?_)
    refine lv_iload_n hx hb dX4_commit_30 rfl (lv_at hl 0 rfl) ?_
    refine lv_bipush (v := nI 16) hx hb dX4_commit_31 (by decide) ?_
    refine lv_icmp_lt (tgt := 54) hx hb dX4_commit_33 (by decide) (fun c_33 => ?_) (fun c_33 => absurd c_33 (by decide))
    refine lv_iload_n hx hb dX4_commit_54 rfl (lv_at hl 0 rfl) ?_
    refine lv_if_lt (tgt := 70) hx hb dX4_commit_55 (by decide) (fun c_55 => ?_) (fun c_55 => absurd c_55 (by decide))
    exact g_retv hx hb hr hlocks ((uN N 24 (k) (0)), J) (by show _ = mCm (N, J) k; unfold mCm; rw [if_neg (show ¬ N 24 k = 0 from c_6)]; dsimp only; rw [if_pos ht]) hP hS dX4_commit_70
  · exact g_retv hx hb hr hlocks (N, J) (by show _ = mCm (N, J) k; unfold mCm; rw [if_pos (show N 24 k = 0 from c_6)]) hP hS dX4_commit_9
set_option maxHeartbeats 4000000 in
set_option maxRecDepth 100000 in
theorem tM_commit_m (l : Launch) (dC : Nat → ClassId) (dI : Nat → Nat → Nat) (a : Nat → Nat) (cI cL cZ : ClassId) (N : Nat → Nat → Nat) (J : Nat → Nat → Int64) (k : Nat) (hk : k < 18) (hz : N 24 k < 2) (ht : 16 ≤ N 22 (7 * k + 6)) (ht2 : N 22 (7 * k + 6) < 272) : MetV l yX4_commit wsX4_commit ({ frames := 0, cells := 0, slots := 0, locals := 0 } : Room) dC dI (gT cI cL cZ) (mF a cI cL cZ) (mL a) (N, J) [.ref (a 0), .int (nI (k))] (fun u => u = mCm (N, J) k) := by
  intro sz
  refine g_entry (bytes := cX4_commit) (maxL := 3) (ret := none) (Qc := fun sz => va_Qv (fun u => u = mCm (N, J) k) (gB dC dI (mF a cI cL cZ)) (aA (mL a) sz)) (by decide) rfl (Nat.le_of_ble_eq_true rfl) rfl ?_
  intro p e s m below meth c ls hx hb hr hml hts hown hlocks hK hP hD hS hZ hl
  have hP : va_P (dC, dI) vwCl (mW a cI cL cZ N J) s.heap := hP
  have hD : va_D (aA (mL a) s.heap.size) (mW a cI cL cZ N J) := hD
  have hown : s.vm.findClass RX4 = some m.cls := hown
  have hl : lv_has ls 3 [(0, .ref (a 0)), (1, .int (nI (k)))] := hl
  have hi4 : ∀ w ∈ wsX40, w ∈ wsX4_commit := by decide +kernel
  have k35 := hts (.fieldLink RX4 35 "ScoreMachineModel" "memory" "[J") (by decide +kernel)
  have k50 := hts (.fieldLink RX4 50 "ScoreMachineModel" "unitRow" "[I") (by decide +kernel)
  have k53 := hts (.fieldLink RX4 53 "ScoreMachineModel" "unitValue" "[J") (by decide +kernel)
  have k56 := hts (.fieldLink RX4 56 "ScoreMachineModel" "unitOpen" "[Z") (by decide +kernel)
  refine lv_aload_n hx hb dX4_commit_0 rfl (lv_at hl 0 rfl) ?_
  refine mg_24 hx hb hts hi4 hown hK hP k56 dX4_commit_1 ?_
  refine lv_iload_n hx hb dX4_commit_4 rfl (lv_at hl 1 rfl) ?_
  refine ml_24 (v := N 24 k) hx hb hK hP (by omega) rfl dX4_commit_5 ?_
  refine n_if_ne (tgt := 10) hx hb (by omega) dX4_commit_6 (by decide) (fun c_6 => ?_) (fun c_6 => ?_)
  · refine lv_aload_n hx hb dX4_commit_10 rfl (lv_at hl 0 rfl) ?_
    refine mg_24 hx hb hts hi4 hown hK hP k56 dX4_commit_11 ?_
    refine lv_iload_n hx hb dX4_commit_14 rfl (lv_at hl 1 rfl) ?_
    refine lv_iconst (v := nI 0) hx hb dX4_commit_15 (by decide) ?_
    refine ms_24 hx hb hK hP hD hS (by omega) (by omega) dX4_commit_16 (fun H locs hP hD hS => ?_)
    refine lv_aload_n hx hb dX4_commit_17 rfl (lv_at hl 0 rfl) ?_
    refine mg_22 hx hb hts hi4 hown hK hP k50 dX4_commit_18 ?_
    refine lv_bipush (v := nI 7) hx hb dX4_commit_21 (by decide) ?_
    refine lv_iload_n hx hb dX4_commit_23 rfl (lv_at hl 1 rfl) ?_
    refine n_mul hx hb dX4_commit_24 ?_
    refine lv_bipush (v := nI 6) hx hb dX4_commit_25 (by decide) ?_
    refine n_add hx hb dX4_commit_27 ?_
    refine ml_22 (v := N 22 (7 * k + 6)) hx hb hK hP (by omega) rfl dX4_commit_28 ?_
    refine lv_istore_n (lv' := [(2, .int (nI (N 22 (7 * k + 6)))), (0, .ref (a 0)), (1, .int (nI (k)))]) hx hb dX4_commit_29 rfl hl (by decide) rfl (fun ls hl => ?_)
    refine lv_iload_n hx hb dX4_commit_30 rfl (lv_at hl 0 rfl) ?_
    refine lv_bipush (v := nI 16) hx hb dX4_commit_31 (by decide) ?_
    refine n_icmp_lt (tgt := 54) hx hb (by omega) (by omega) dX4_commit_33 (by decide) (fun c_33 => absurd c_33 (by omega)) (fun c_33 => ?_)
    refine lv_aload_n hx hb dX4_commit_36 rfl (lv_at hl 1 rfl) ?_
    refine mg_10 hx hb hts hi4 hown hK hP k35 dX4_commit_37 ?_
    refine lv_iload_n hx hb dX4_commit_40 rfl (lv_at hl 0 rfl) ?_
    refine lv_bipush (v := nI 16) hx hb dX4_commit_41 (by decide) ?_
    refine n_sub hx hb (by omega) dX4_commit_43 ?_
    refine lv_aload_n hx hb dX4_commit_44 rfl (lv_at hl 1 rfl) ?_
    refine mg_23 hx hb hts hi4 hown hK hP k53 dX4_commit_45 ?_
    refine lv_iload_n hx hb dX4_commit_48 rfl (lv_at hl 2 rfl) ?_
    refine ml_23 (v := J 23 k) hx hb hK hP (by omega) rfl dX4_commit_49 ?_
    refine ms_10 hx hb hK hP hD hS (by omega) dX4_commit_50 (fun H locs hP hD hS => ?_)
    refine lv_goto (tgt := 70) hx hb dX4_commit_51 (by decide) ?_
    exact g_retv hx hb hr hlocks ((uN N 24 (k) (0)), (uJ J 10 ((N 22 (7 * k + 6)) - 16) (J 23 k))) (by show _ = mCm (N, J) k; unfold mCm; rw [if_neg (show ¬ N 24 k = 0 from c_6)]; dsimp only; rw [if_neg (by omega), if_pos ht]) hP hS dX4_commit_70
  · exact g_retv hx hb hr hlocks (N, J) (by show _ = mCm (N, J) k; unfold mCm; rw [if_pos (show N 24 k = 0 from c_6)]) hP hS dX4_commit_9
set_option maxHeartbeats 4000000 in
set_option maxRecDepth 100000 in
theorem tM_commit_r (l : Launch) (dC : Nat → ClassId) (dI : Nat → Nat → Nat) (a : Nat → Nat) (cI cL cZ : ClassId) (N : Nat → Nat → Nat) (J : Nat → Nat → Int64) (k : Nat) (hk : k < 18) (hz : N 24 k < 2) (ht : N 22 (7 * k + 6) < 16) : MetV l yX4_commit wsX4_commit ({ frames := 0, cells := 0, slots := 0, locals := 0 } : Room) dC dI (gT cI cL cZ) (mF a cI cL cZ) (mL a) (N, J) [.ref (a 0), .int (nI (k))] (fun u => u = mCm (N, J) k) := by
  intro sz
  refine g_entry (bytes := cX4_commit) (maxL := 3) (ret := none) (Qc := fun sz => va_Qv (fun u => u = mCm (N, J) k) (gB dC dI (mF a cI cL cZ)) (aA (mL a) sz)) (by decide) rfl (Nat.le_of_ble_eq_true rfl) rfl ?_
  intro p e s m below meth c ls hx hb hr hml hts hown hlocks hK hP hD hS hZ hl
  have hP : va_P (dC, dI) vwCl (mW a cI cL cZ N J) s.heap := hP
  have hD : va_D (aA (mL a) s.heap.size) (mW a cI cL cZ N J) := hD
  have hown : s.vm.findClass RX4 = some m.cls := hown
  have hl : lv_has ls 3 [(0, .ref (a 0)), (1, .int (nI (k)))] := hl
  have hi4 : ∀ w ∈ wsX40, w ∈ wsX4_commit := by decide +kernel
  have k32 := hts (.fieldLink RX4 32 "ScoreMachineModel" "registers" "[J") (by decide +kernel)
  have k50 := hts (.fieldLink RX4 50 "ScoreMachineModel" "unitRow" "[I") (by decide +kernel)
  have k53 := hts (.fieldLink RX4 53 "ScoreMachineModel" "unitValue" "[J") (by decide +kernel)
  have k56 := hts (.fieldLink RX4 56 "ScoreMachineModel" "unitOpen" "[Z") (by decide +kernel)
  refine lv_aload_n hx hb dX4_commit_0 rfl (lv_at hl 0 rfl) ?_
  refine mg_24 hx hb hts hi4 hown hK hP k56 dX4_commit_1 ?_
  refine lv_iload_n hx hb dX4_commit_4 rfl (lv_at hl 1 rfl) ?_
  refine ml_24 (v := N 24 k) hx hb hK hP (by omega) rfl dX4_commit_5 ?_
  refine n_if_ne (tgt := 10) hx hb (by omega) dX4_commit_6 (by decide) (fun c_6 => ?_) (fun c_6 => ?_)
  · refine lv_aload_n hx hb dX4_commit_10 rfl (lv_at hl 0 rfl) ?_
    refine mg_24 hx hb hts hi4 hown hK hP k56 dX4_commit_11 ?_
    refine lv_iload_n hx hb dX4_commit_14 rfl (lv_at hl 1 rfl) ?_
    refine lv_iconst (v := nI 0) hx hb dX4_commit_15 (by decide) ?_
    refine ms_24 hx hb hK hP hD hS (by omega) (by omega) dX4_commit_16 (fun H locs hP hD hS => ?_)
    refine lv_aload_n hx hb dX4_commit_17 rfl (lv_at hl 0 rfl) ?_
    refine mg_22 hx hb hts hi4 hown hK hP k50 dX4_commit_18 ?_
    refine lv_bipush (v := nI 7) hx hb dX4_commit_21 (by decide) ?_
    refine lv_iload_n hx hb dX4_commit_23 rfl (lv_at hl 1 rfl) ?_
    refine n_mul hx hb dX4_commit_24 ?_
    refine lv_bipush (v := nI 6) hx hb dX4_commit_25 (by decide) ?_
    refine n_add hx hb dX4_commit_27 ?_
    refine ml_22 (v := N 22 (7 * k + 6)) hx hb hK hP (by omega) rfl dX4_commit_28 ?_
    refine lv_istore_n (lv' := [(2, .int (nI (N 22 (7 * k + 6)))), (0, .ref (a 0)), (1, .int (nI (k)))]) hx hb dX4_commit_29 rfl hl (by decide) rfl (fun ls hl => ?_)
    refine lv_iload_n hx hb dX4_commit_30 rfl (lv_at hl 0 rfl) ?_
    refine lv_bipush (v := nI 16) hx hb dX4_commit_31 (by decide) ?_
    refine n_icmp_lt (tgt := 54) hx hb (by omega) (by omega) dX4_commit_33 (by decide) (fun c_33 => ?_) (fun c_33 => absurd c_33 (by omega))
    refine lv_iload_n hx hb dX4_commit_54 rfl (lv_at hl 0 rfl) ?_
    refine n_if_lt (tgt := 70) hx hb (by omega) dX4_commit_55 (by decide) ?_
    refine lv_aload_n hx hb dX4_commit_58 rfl (lv_at hl 1 rfl) ?_
    refine mg_9 hx hb hts hi4 hown hK hP k32 dX4_commit_59 ?_
    refine lv_iload_n hx hb dX4_commit_62 rfl (lv_at hl 0 rfl) ?_
    refine lv_aload_n hx hb dX4_commit_63 rfl (lv_at hl 1 rfl) ?_
    refine mg_23 hx hb hts hi4 hown hK hP k53 dX4_commit_64 ?_
    refine lv_iload_n hx hb dX4_commit_67 rfl (lv_at hl 2 rfl) ?_
    refine ml_23 (v := J 23 k) hx hb hK hP (by omega) rfl dX4_commit_68 ?_
    refine ms_9 hx hb hK hP hD hS (by omega) dX4_commit_69 (fun H locs hP hD hS => ?_)
    exact g_retv hx hb hr hlocks ((uN N 24 (k) (0)), (uJ J 9 (N 22 (7 * k + 6)) (J 23 k))) (by show _ = mCm (N, J) k; unfold mCm; rw [if_neg (show ¬ N 24 k = 0 from c_6)]; dsimp only; rw [if_neg (by omega), if_neg (by omega)]) hP hS dX4_commit_70
  · exact g_retv hx hb hr hlocks (N, J) (by show _ = mCm (N, J) k; unfold mCm; rw [if_pos (show N 24 k = 0 from c_6)]) hP hS dX4_commit_9
theorem tM_commit (l : Launch) (dC : Nat → ClassId) (dI : Nat → Nat → Nat) (a : Nat → Nat) (cI cL cZ : ClassId) (N : Nat → Nat → Nat) (J : Nat → Nat → Int64) (k : Nat) (hk : k < 18) (hz : N 24 k < 2) (ht : N 22 (7 * k + 6) = 4294967295 ∨ N 22 (7 * k + 6) < 272) : MetV l yX4_commit wsX4_commit ({ frames := 0, cells := 0, slots := 0, locals := 0 } : Room) dC dI (gT cI cL cZ) (mF a cI cL cZ) (mL a) (N, J) [.ref (a 0), .int (nI k)] (fun u => u = mCm (N, J) k) := by
  rcases ht with h | h
  · exact tM_commit_b l dC dI a cI cL cZ N J k hk hz h
  · rcases Nat.lt_or_ge (N 22 (7 * k + 6)) 16 with h2 | h2
    · exact tM_commit_r l dC dI a cI cL cZ N J k hk hz h2
    · exact tM_commit_m l dC dI a cI cL cZ N J k hk hz h2 h
set_option maxHeartbeats 4000000 in
set_option maxRecDepth 100000 in
theorem tM_does (l : Launch) (dC : Nat → ClassId) (dI : Nat → Nat → Nat) (a : Nat → Nat) (cI cL cZ : ClassId) (N : Nat → Nat → Nat) (J : Nat → Nat → Int64)  (hG : mG0 N) (hc : 1 ≤ mCode N) : MetL l yX4_does wsX4_does ({ frames := 1, cells := 0, slots := 0, locals := 21 } : Room) dC dI (gT cI cL cZ) (mF a cI cL cZ) (mL a) (N, J) [.ref (a 0)] (fun r u => r = mV N J ∧ u = (uN N 8 0 (mNx N J), J)) := by
  intro sz
  refine g_entry (bytes := cX4_does) (maxL := 14) (ret := (some .long)) (Qc := fun sz => va_Ql (fun r u => r = mV N J ∧ u = (uN N 8 0 (mNx N J), J)) (gB dC dI (mF a cI cL cZ)) (aA (mL a) sz)) (by decide) rfl (Nat.le_of_ble_eq_true rfl) rfl ?_
  intro p e s m below meth c ls hx hb hr hml hts hown hlocks hK hP hD hS hZ hl
  have hP : va_P (dC, dI) vwCl (mW a cI cL cZ N J) s.heap := hP
  have hD : va_D (aA (mL a) s.heap.size) (mW a cI cL cZ N J) := hD
  have hown : s.vm.findClass RX4 = some m.cls := hown
  have hl : lv_has ls 14 [(0, .ref (a 0))] := hl
  have hi4 : ∀ w ∈ wsX40, w ∈ wsX4_does := by decide +kernel
  have k26 := hts (.fieldLink RX4 26 "ScoreMachineModel" "plainRegisters" "[J") (by decide +kernel)
  have k29 := hts (.fieldLink RX4 29 "ScoreMachineModel" "plainMemory" "[J") (by decide +kernel)
  have k86 := hts (.fieldLink RX4 86 "ScoreMachineModel" "place" "I") (by decide +kernel)
  have k9 := hts (.fieldLink RX4 9 "ScoreMachineModel" "program" "[I") (by decide +kernel)
  obtain ⟨hpl, hpr⟩ := id hG
  have hp0 := hpr (N 8 0) hpl
  have hcd : mCode N ≤ 18 := hp0.1
  refine lv_iconst (v := nI 4) hx hb dX4_does_0 (by decide) ?_
  refine lv_aload_n hx hb dX4_does_1 rfl (lv_at hl 0 rfl) ?_
  refine mg_8 (v := N 8 0) hx hb hts hi4 hown hK hP k86 rfl dX4_does_2 ?_
  refine n_mul hx hb dX4_does_5 ?_
  refine lv_istore_n (lv' := [(1, .int (nI (4 * (N 8 0)))), (0, .ref (a 0))]) hx hb dX4_does_6 rfl hl (by decide) rfl (fun ls hl => ?_)
  refine lv_aload_n hx hb dX4_does_7 rfl (lv_at hl 1 rfl) ?_
  refine mg_6 hx hb hts hi4 hown hK hP k26 dX4_does_8 ?_
  refine lv_aload_n hx hb dX4_does_11 rfl (lv_at hl 1 rfl) ?_
  refine mg_0 hx hb hts hi4 hown hK hP k9 dX4_does_12 ?_
  refine lv_iload_n hx hb dX4_does_15 rfl (lv_at hl 0 rfl) ?_
  refine lv_iconst (v := nI 1) hx hb dX4_does_16 (by decide) ?_
  refine n_add hx hb dX4_does_17 ?_
  refine ml_0 (v := mD N) hx hb hK hP (by omega) rfl dX4_does_18 ?_
  refine ml_6 (v := J 6 (mD N)) hx hb hK hP hp0.2.1 rfl dX4_does_19 ?_
  refine lv_lstore_n (lv' := [(2, .long (J 6 (mD N))), (1, .int (nI (4 * (N 8 0)))), (0, .ref (a 0))]) hx hb dX4_does_20 rfl hl (by decide) rfl (fun ls hl => ?_)
  refine lv_aload_n hx hb dX4_does_21 rfl (lv_at hl 2 rfl) ?_
  refine mg_6 hx hb hts hi4 hown hK hP k26 dX4_does_22 ?_
  refine lv_aload_n hx hb dX4_does_25 rfl (lv_at hl 2 rfl) ?_
  refine mg_0 hx hb hts hi4 hown hK hP k9 dX4_does_26 ?_
  refine lv_iload_n hx hb dX4_does_29 rfl (lv_at hl 1 rfl) ?_
  refine lv_iconst (v := nI 2) hx hb dX4_does_30 (by decide) ?_
  refine n_add hx hb dX4_does_31 ?_
  refine ml_0 (v := mA N) hx hb hK hP (by omega) rfl dX4_does_32 ?_
  refine ml_6 (v := J 6 (mA N)) hx hb hK hP hp0.2.2.1 rfl dX4_does_33 ?_
  refine lv_lstore (lv' := [(4, .long (J 6 (mA N))), (2, .long (J 6 (mD N))), (1, .int (nI (4 * (N 8 0)))), (0, .ref (a 0))]) hx hb dX4_does_34 hl (by decide) rfl (fun ls hl => ?_)
  refine lv_aload_n hx hb dX4_does_36 rfl (lv_at hl 3 rfl) ?_
  refine mg_6 hx hb hts hi4 hown hK hP k26 dX4_does_37 ?_
  refine lv_aload_n hx hb dX4_does_40 rfl (lv_at hl 3 rfl) ?_
  refine g_calli (u := (N, J)) (g_runV (As := []) (rest := [.ref (a 6)]) ⟨hx, hb, hml, hown, hts⟩ (tM_registerB l dC dI a cI cL cZ N J hG s.heap.size) (cwV 0 hts gX4_does_X4_registerB rfl rfl rfl (by decide +kernel) ⟨Nat.le_of_ble_eq_true rfl, Nat.le_of_ble_eq_true rfl⟩) (va_recv hK hP (ci := 4) (q0 := 0) rfl rfl) hK hP hD hS hZ rfl hl.1 rfl (Nat.le_of_ble_eq_true rfl) dX4_does_41) (mW_L a cI cL cZ) hD hS (fun r_41 u H locs hw hP hD hS => ?_)
  obtain ⟨rfl, rfl⟩ := hw
  have hP : va_P (dC, dI) vwCl (mW a cI cL cZ N J) H := hP
  have hD : va_D (aA (mL a) s.heap.size) (mW a cI cL cZ N J) := hD
  refine ml_6 (v := J 6 (mBB N % 16)) hx hb hK hP (by omega) rfl dX4_does_44 ?_
  refine lv_lstore (lv' := [(6, .long (J 6 (mBB N % 16))), (4, .long (J 6 (mA N))), (2, .long (J 6 (mD N))), (1, .int (nI (4 * (N 8 0)))), (0, .ref (a 0))]) hx hb dX4_does_45 hl (by decide) rfl (fun ls hl => ?_)
  refine lv_aload_n hx hb dX4_does_47 rfl (lv_at hl 4 rfl) ?_
  refine mg_0 hx hb hts hi4 hown hK hP k9 dX4_does_48 ?_
  refine lv_iload_n hx hb dX4_does_51 rfl (lv_at hl 3 rfl) ?_
  refine lv_iconst (v := nI 3) hx hb dX4_does_52 (by decide) ?_
  refine n_add hx hb dX4_does_53 ?_
  refine ml_0 (v := mBB N) hx hb hK hP (by omega) rfl dX4_does_54 ?_
  refine lv_i2l (v := ((nI (mBB N))).toInt64) hx hb dX4_does_55 rfl ?_
  refine lv_lstore (lv' := [(8, .long (((nI (mBB N))).toInt64)), (6, .long (J 6 (mBB N % 16))), (4, .long (J 6 (mA N))), (2, .long (J 6 (mD N))), (1, .int (nI (4 * (N 8 0)))), (0, .ref (a 0))]) hx hb dX4_does_56 hl (by decide) rfl (fun ls hl => ?_)
  refine lv_aload_n hx hb dX4_does_58 rfl (lv_at hl 5 rfl) ?_
  refine mg_8 (v := N 8 0) hx hb hts hi4 hown hK hP k86 rfl dX4_does_59 ?_
  refine lv_iconst (v := nI 1) hx hb dX4_does_62 (by decide) ?_
  refine n_add hx hb dX4_does_63 ?_
  refine lv_sipush (v := nI 256) hx hb dX4_does_64 (by decide) ?_
  refine n_rem hx hb (by omega) (by decide) (by decide) dX4_does_67 ?_
  refine lv_istore (lv' := [(10, .int (nI (((N 8 0) + 1) % 256))), (8, .long (((nI (mBB N))).toInt64)), (6, .long (J 6 (mBB N % 16))), (4, .long (J 6 (mA N))), (2, .long (J 6 (mD N))), (1, .int (nI (4 * (N 8 0)))), (0, .ref (a 0))]) hx hb dX4_does_68 hl (by decide) rfl (fun ls hl => ?_)
  refine lv_aload_n hx hb dX4_does_70 rfl (lv_at hl 6 rfl) ?_
  refine mg_0 hx hb hts hi4 hown hK hP k9 dX4_does_71 ?_
  refine lv_iload_n hx hb dX4_does_74 rfl (lv_at hl 5 rfl) ?_
  refine ml_0 (v := mCode N) hx hb hK hP (by omega) rfl dX4_does_75 ?_
  refine lv_istore (lv' := [(11, .int (nI (mCode N))), (10, .int (nI (((N 8 0) + 1) % 256))), (8, .long (((nI (mBB N))).toInt64)), (6, .long (J 6 (mBB N % 16))), (4, .long (J 6 (mA N))), (2, .long (J 6 (mD N))), (1, .int (nI (4 * (N 8 0)))), (0, .ref (a 0))]) hx hb dX4_does_76 hl (by decide) rfl (fun ls hl => ?_)
  refine lv_lconst (v := 0) hx hb dX4_does_78 (by decide) ?_
  refine lv_lstore (lv' := [(12, .long (0)), (11, .int (nI (mCode N))), (10, .int (nI (((N 8 0) + 1) % 256))), (8, .long (((nI (mBB N))).toInt64)), (6, .long (J 6 (mBB N % 16))), (4, .long (J 6 (mA N))), (2, .long (J 6 (mD N))), (1, .int (nI (4 * (N 8 0)))), (0, .ref (a 0))]) hx hb dX4_does_79 hl (by decide) rfl (fun ls hl => ?_)
  refine w_joinH (X := Int64 × Nat) (dC := dC) (dI := dI) (A := aA (mL a) s.heap.size) (H0 := s.heap) (Wf := mF a cI cL cZ) (u := fun x390 => (N, J)) (P := fun x390 => x390.1 = mV N J ∧ x390.2 = mNx N J) (pj := 390) (nL := 14) (lv := fun x390 => [(0, .ref (a 0)), (12, .long (x390.1)), (10, .int (nI (x390.2)))]) (st := fun x390 => []) (fun jn_390 => ?_) (fun x390 ls H locs ex390 hl hP hD hS => ?_)
  · refine lv_iload hx hb dX4_does_81 (lv_at hl 1 rfl) ?_
    rcases (by omega : mCode N = 1 ∨ mCode N = 2 ∨ mCode N = 3 ∨ mCode N = 4 ∨ mCode N = 5 ∨ mCode N = 6 ∨ mCode N = 7 ∨ mCode N = 8 ∨ mCode N = 9 ∨ mCode N = 10 ∨ mCode N = 11 ∨ mCode N = 12 ∨ mCode N = 13 ∨ mCode N = 14 ∨ mCode N = 15 ∨ mCode N = 16 ∨ mCode N = 17 ∨ mCode N = 18) with h9 | h9 | h9 | h9 | h9 | h9 | h9 | h9 | h9 | h9 | h9 | h9 | h9 | h9 | h9 | h9 | h9 | h9
    · refine n_w (b := 1) (h9) ?_
      refine lv_tableIn (off := 73) (tgt := 156) hx hb dX4_does_83 (by decide) (by decide) (by decide) (by decide) ?_
      refine lv_lload hx hb dX4_does_156 (lv_at hl 5 rfl) ?_
      refine lv_lload hx hb dX4_does_158 (lv_at hl 4 rfl) ?_
      refine lv_ladd hx hb dX4_does_160 ?_
      refine lv_lstore (lv' := [(12, .long ((J 6 (mA N)) + (J 6 (mBB N % 16)))), (11, .int (nI (mCode N))), (10, .int (nI (((N 8 0) + 1) % 256))), (8, .long (((nI (mBB N))).toInt64)), (6, .long (J 6 (mBB N % 16))), (4, .long (J 6 (mA N))), (2, .long (J 6 (mD N))), (1, .int (nI (4 * (N 8 0)))), (0, .ref (a 0))]) hx hb dX4_does_161 hl (by decide) rfl (fun ls hl => ?_)
      refine lv_goto (tgt := 390) hx hb dX4_does_163 (by decide) ?_
      exact jn_390 ((J 6 (mA N)) + (J 6 (mBB N % 16)), ((N 8 0) + 1) % 256) ls _ _ (⟨by unfold mV opV; rw [h9]; rfl, by unfold mNx nxP; rw [h9]; rfl⟩) (lv_sub hl [8, 0, 2] rfl) hP hD hS
    · refine n_w (b := 2) (h9) ?_
      refine lv_tableIn (off := 83) (tgt := 166) hx hb dX4_does_83 (by decide) (by decide) (by decide) (by decide) ?_
      refine lv_lload hx hb dX4_does_166 (lv_at hl 5 rfl) ?_
      refine lv_lload hx hb dX4_does_168 (lv_at hl 4 rfl) ?_
      refine lv_lsub hx hb dX4_does_170 ?_
      refine lv_lstore (lv' := [(12, .long ((J 6 (mA N)) - (J 6 (mBB N % 16)))), (11, .int (nI (mCode N))), (10, .int (nI (((N 8 0) + 1) % 256))), (8, .long (((nI (mBB N))).toInt64)), (6, .long (J 6 (mBB N % 16))), (4, .long (J 6 (mA N))), (2, .long (J 6 (mD N))), (1, .int (nI (4 * (N 8 0)))), (0, .ref (a 0))]) hx hb dX4_does_171 hl (by decide) rfl (fun ls hl => ?_)
      refine lv_goto (tgt := 390) hx hb dX4_does_173 (by decide) ?_
      exact jn_390 ((J 6 (mA N)) - (J 6 (mBB N % 16)), ((N 8 0) + 1) % 256) ls _ _ (⟨by unfold mV opV; rw [h9]; rfl, by unfold mNx nxP; rw [h9]; rfl⟩) (lv_sub hl [8, 0, 2] rfl) hP hD hS
    · refine n_w (b := 3) (h9) ?_
      refine lv_tableIn (off := 93) (tgt := 176) hx hb dX4_does_83 (by decide) (by decide) (by decide) (by decide) ?_
      refine lv_lload hx hb dX4_does_176 (lv_at hl 5 rfl) ?_
      refine lv_lload hx hb dX4_does_178 (lv_at hl 4 rfl) ?_
      refine lv_land hx hb dX4_does_180 ?_
      refine lv_lstore (lv' := [(12, .long ((J 6 (mA N)) &&& (J 6 (mBB N % 16)))), (11, .int (nI (mCode N))), (10, .int (nI (((N 8 0) + 1) % 256))), (8, .long (((nI (mBB N))).toInt64)), (6, .long (J 6 (mBB N % 16))), (4, .long (J 6 (mA N))), (2, .long (J 6 (mD N))), (1, .int (nI (4 * (N 8 0)))), (0, .ref (a 0))]) hx hb dX4_does_181 hl (by decide) rfl (fun ls hl => ?_)
      refine lv_goto (tgt := 390) hx hb dX4_does_183 (by decide) ?_
      exact jn_390 ((J 6 (mA N)) &&& (J 6 (mBB N % 16)), ((N 8 0) + 1) % 256) ls _ _ (⟨by unfold mV opV; rw [h9]; rfl, by unfold mNx nxP; rw [h9]; rfl⟩) (lv_sub hl [8, 0, 2] rfl) hP hD hS
    · refine n_w (b := 4) (h9) ?_
      refine lv_tableIn (off := 103) (tgt := 186) hx hb dX4_does_83 (by decide) (by decide) (by decide) (by decide) ?_
      refine lv_lload hx hb dX4_does_186 (lv_at hl 5 rfl) ?_
      refine lv_lload hx hb dX4_does_188 (lv_at hl 4 rfl) ?_
      refine lv_lor hx hb dX4_does_190 ?_
      refine lv_lstore (lv' := [(12, .long ((J 6 (mA N)) ||| (J 6 (mBB N % 16)))), (11, .int (nI (mCode N))), (10, .int (nI (((N 8 0) + 1) % 256))), (8, .long (((nI (mBB N))).toInt64)), (6, .long (J 6 (mBB N % 16))), (4, .long (J 6 (mA N))), (2, .long (J 6 (mD N))), (1, .int (nI (4 * (N 8 0)))), (0, .ref (a 0))]) hx hb dX4_does_191 hl (by decide) rfl (fun ls hl => ?_)
      refine lv_goto (tgt := 390) hx hb dX4_does_193 (by decide) ?_
      exact jn_390 ((J 6 (mA N)) ||| (J 6 (mBB N % 16)), ((N 8 0) + 1) % 256) ls _ _ (⟨by unfold mV opV; rw [h9]; rfl, by unfold mNx nxP; rw [h9]; rfl⟩) (lv_sub hl [8, 0, 2] rfl) hP hD hS
    · refine n_w (b := 5) (h9) ?_
      refine lv_tableIn (off := 113) (tgt := 196) hx hb dX4_does_83 (by decide) (by decide) (by decide) (by decide) ?_
      refine lv_lload hx hb dX4_does_196 (lv_at hl 5 rfl) ?_
      refine lv_lload hx hb dX4_does_198 (lv_at hl 4 rfl) ?_
      refine lv_lxor hx hb dX4_does_200 ?_
      refine lv_lstore (lv' := [(12, .long ((J 6 (mA N)) ^^^ (J 6 (mBB N % 16)))), (11, .int (nI (mCode N))), (10, .int (nI (((N 8 0) + 1) % 256))), (8, .long (((nI (mBB N))).toInt64)), (6, .long (J 6 (mBB N % 16))), (4, .long (J 6 (mA N))), (2, .long (J 6 (mD N))), (1, .int (nI (4 * (N 8 0)))), (0, .ref (a 0))]) hx hb dX4_does_201 hl (by decide) rfl (fun ls hl => ?_)
      refine lv_goto (tgt := 390) hx hb dX4_does_203 (by decide) ?_
      exact jn_390 ((J 6 (mA N)) ^^^ (J 6 (mBB N % 16)), ((N 8 0) + 1) % 256) ls _ _ (⟨by unfold mV opV; rw [h9]; rfl, by unfold mNx nxP; rw [h9]; rfl⟩) (lv_sub hl [8, 0, 2] rfl) hP hD hS
    · refine n_w (b := 6) (h9) ?_
      refine lv_tableIn (off := 123) (tgt := 206) hx hb dX4_does_83 (by decide) (by decide) (by decide) (by decide) ?_
      refine lv_lload hx hb dX4_does_206 (lv_at hl 3 rfl) ?_
      refine lv_lstore (lv' := [(12, .long (((nI (mBB N))).toInt64)), (11, .int (nI (mCode N))), (10, .int (nI (((N 8 0) + 1) % 256))), (8, .long (((nI (mBB N))).toInt64)), (6, .long (J 6 (mBB N % 16))), (4, .long (J 6 (mA N))), (2, .long (J 6 (mD N))), (1, .int (nI (4 * (N 8 0)))), (0, .ref (a 0))]) hx hb dX4_does_208 hl (by decide) rfl (fun ls hl => ?_)
      refine lv_goto (tgt := 390) hx hb dX4_does_210 (by decide) ?_
      exact jn_390 (((nI (mBB N))).toInt64, ((N 8 0) + 1) % 256) ls _ _ (⟨by unfold mV opV; rw [h9]; rfl, by unfold mNx nxP; rw [h9]; rfl⟩) (lv_sub hl [8, 0, 2] rfl) hP hD hS
    · refine n_w (b := 7) (h9) ?_
      refine lv_tableIn (off := 130) (tgt := 213) hx hb dX4_does_83 (by decide) (by decide) (by decide) (by decide) ?_
      refine lv_lload hx hb dX4_does_213 (lv_at hl 5 rfl) ?_
      refine lv_lload hx hb dX4_does_215 (lv_at hl 3 rfl) ?_
      refine lv_ladd hx hb dX4_does_217 ?_
      refine lv_lstore (lv' := [(12, .long ((J 6 (mA N)) + (((nI (mBB N))).toInt64))), (11, .int (nI (mCode N))), (10, .int (nI (((N 8 0) + 1) % 256))), (8, .long (((nI (mBB N))).toInt64)), (6, .long (J 6 (mBB N % 16))), (4, .long (J 6 (mA N))), (2, .long (J 6 (mD N))), (1, .int (nI (4 * (N 8 0)))), (0, .ref (a 0))]) hx hb dX4_does_218 hl (by decide) rfl (fun ls hl => ?_)
      refine lv_goto (tgt := 390) hx hb dX4_does_220 (by decide) ?_
      exact jn_390 ((J 6 (mA N)) + (((nI (mBB N))).toInt64), ((N 8 0) + 1) % 256) ls _ _ (⟨by unfold mV opV; rw [h9]; rfl, by unfold mNx nxP; rw [h9]; rfl⟩) (lv_sub hl [8, 0, 2] rfl) hP hD hS
    · refine n_w (b := 8) (h9) ?_
      refine lv_tableIn (off := 140) (tgt := 223) hx hb dX4_does_83 (by decide) (by decide) (by decide) (by decide) ?_
      refine lv_lload hx hb dX4_does_223 (lv_at hl 5 rfl) ?_
      refine lv_lload hx hb dX4_does_225 (lv_at hl 4 rfl) ?_
      refine lv_ldc2 (v := 63) hx hb hown (hts (.constantLong RX4 129 (63)) (by decide +kernel)) dX4_does_227 ?_
      refine lv_land hx hb dX4_does_230 ?_
      refine lv_l2i (v := ((J 6 (mBB N % 16)) &&& 63).toInt32) hx hb dX4_does_231 rfl ?_
      refine lv_lshl (v := (J 6 (mA N)) <<< (Int32.toInt64 ((((J 6 (mBB N % 16)) &&& 63).toInt32)) &&& 63)) hx hb dX4_does_232 rfl ?_
      refine lv_lstore (lv' := [(12, .long ((J 6 (mA N)) <<< (Int32.toInt64 ((((J 6 (mBB N % 16)) &&& 63).toInt32)) &&& 63))), (11, .int (nI (mCode N))), (10, .int (nI (((N 8 0) + 1) % 256))), (8, .long (((nI (mBB N))).toInt64)), (6, .long (J 6 (mBB N % 16))), (4, .long (J 6 (mA N))), (2, .long (J 6 (mD N))), (1, .int (nI (4 * (N 8 0)))), (0, .ref (a 0))]) hx hb dX4_does_233 hl (by decide) rfl (fun ls hl => ?_)
      refine lv_goto (tgt := 390) hx hb dX4_does_235 (by decide) ?_
      exact jn_390 ((J 6 (mA N)) <<< (Int32.toInt64 ((((J 6 (mBB N % 16)) &&& 63).toInt32)) &&& 63), ((N 8 0) + 1) % 256) ls _ _ (⟨by unfold mV opV; rw [h9]; rfl, by unfold mNx nxP; rw [h9]; rfl⟩) (lv_sub hl [8, 0, 2] rfl) hP hD hS
    · refine n_w (b := 9) (h9) ?_
      refine lv_tableIn (off := 155) (tgt := 238) hx hb dX4_does_83 (by decide) (by decide) (by decide) (by decide) ?_
      refine lv_lload hx hb dX4_does_238 (lv_at hl 5 rfl) ?_
      refine lv_lload hx hb dX4_does_240 (lv_at hl 4 rfl) ?_
      refine lv_ldc2 (v := 63) hx hb hown (hts (.constantLong RX4 129 (63)) (by decide +kernel)) dX4_does_242 ?_
      refine lv_land hx hb dX4_does_245 ?_
      refine lv_l2i (v := ((J 6 (mBB N % 16)) &&& 63).toInt32) hx hb dX4_does_246 rfl ?_
      refine lv_lshr (v := (J 6 (mA N)) >>> (Int32.toInt64 ((((J 6 (mBB N % 16)) &&& 63).toInt32)) &&& 63)) hx hb dX4_does_247 rfl ?_
      refine lv_lstore (lv' := [(12, .long ((J 6 (mA N)) >>> (Int32.toInt64 ((((J 6 (mBB N % 16)) &&& 63).toInt32)) &&& 63))), (11, .int (nI (mCode N))), (10, .int (nI (((N 8 0) + 1) % 256))), (8, .long (((nI (mBB N))).toInt64)), (6, .long (J 6 (mBB N % 16))), (4, .long (J 6 (mA N))), (2, .long (J 6 (mD N))), (1, .int (nI (4 * (N 8 0)))), (0, .ref (a 0))]) hx hb dX4_does_248 hl (by decide) rfl (fun ls hl => ?_)
      refine lv_goto (tgt := 390) hx hb dX4_does_250 (by decide) ?_
      exact jn_390 ((J 6 (mA N)) >>> (Int32.toInt64 ((((J 6 (mBB N % 16)) &&& 63).toInt32)) &&& 63), ((N 8 0) + 1) % 256) ls _ _ (⟨by unfold mV opV; rw [h9]; rfl, by unfold mNx nxP; rw [h9]; rfl⟩) (lv_sub hl [8, 0, 2] rfl) hP hD hS
    · refine n_w (b := 10) (h9) ?_
      refine lv_tableIn (off := 170) (tgt := 253) hx hb dX4_does_83 (by decide) (by decide) (by decide) (by decide) ?_
      refine lv_lload hx hb dX4_does_253 (lv_at hl 5 rfl) ?_
      refine lv_lload hx hb dX4_does_255 (lv_at hl 4 rfl) ?_
      refine lv_ldc2 (v := 63) hx hb hown (hts (.constantLong RX4 129 (63)) (by decide +kernel)) dX4_does_257 ?_
      refine lv_land hx hb dX4_does_260 ?_
      refine lv_l2i (v := ((J 6 (mBB N % 16)) &&& 63).toInt32) hx hb dX4_does_261 rfl ?_
      refine lv_lushr (v := (Int64.toUInt64 (J 6 (mA N)) >>> ((Int32.toInt64 ((((J 6 (mBB N % 16)) &&& 63).toInt32))).toUInt64 &&& Int64.toUInt64 63)).toInt64) hx hb dX4_does_262 rfl ?_
      refine lv_lstore (lv' := [(12, .long ((Int64.toUInt64 (J 6 (mA N)) >>> ((Int32.toInt64 ((((J 6 (mBB N % 16)) &&& 63).toInt32))).toUInt64 &&& Int64.toUInt64 63)).toInt64)), (11, .int (nI (mCode N))), (10, .int (nI (((N 8 0) + 1) % 256))), (8, .long (((nI (mBB N))).toInt64)), (6, .long (J 6 (mBB N % 16))), (4, .long (J 6 (mA N))), (2, .long (J 6 (mD N))), (1, .int (nI (4 * (N 8 0)))), (0, .ref (a 0))]) hx hb dX4_does_263 hl (by decide) rfl (fun ls hl => ?_)
      refine lv_goto (tgt := 390) hx hb dX4_does_265 (by decide) ?_
      exact jn_390 ((Int64.toUInt64 (J 6 (mA N)) >>> ((Int32.toInt64 ((((J 6 (mBB N % 16)) &&& 63).toInt32))).toUInt64 &&& Int64.toUInt64 63)).toInt64, ((N 8 0) + 1) % 256) ls _ _ (⟨by unfold mV opV; rw [h9]; rfl, by unfold mNx nxP; rw [h9]; rfl⟩) (lv_sub hl [8, 0, 2] rfl) hP hD hS
    · refine n_w (b := 11) (h9) ?_
      refine lv_tableIn (off := 185) (tgt := 268) hx hb dX4_does_83 (by decide) (by decide) (by decide) (by decide) ?_
      refine lv_lload hx hb dX4_does_268 (lv_at hl 5 rfl) ?_
      refine lv_lload hx hb dX4_does_270 (lv_at hl 4 rfl) ?_
      refine lv_lmul hx hb dX4_does_272 ?_
      refine lv_lstore (lv' := [(12, .long ((J 6 (mA N)) * (J 6 (mBB N % 16)))), (11, .int (nI (mCode N))), (10, .int (nI (((N 8 0) + 1) % 256))), (8, .long (((nI (mBB N))).toInt64)), (6, .long (J 6 (mBB N % 16))), (4, .long (J 6 (mA N))), (2, .long (J 6 (mD N))), (1, .int (nI (4 * (N 8 0)))), (0, .ref (a 0))]) hx hb dX4_does_273 hl (by decide) rfl (fun ls hl => ?_)
      refine lv_goto (tgt := 390) hx hb dX4_does_275 (by decide) ?_
      exact jn_390 ((J 6 (mA N)) * (J 6 (mBB N % 16)), ((N 8 0) + 1) % 256) ls _ _ (⟨by unfold mV opV; rw [h9]; rfl, by unfold mNx nxP; rw [h9]; rfl⟩) (lv_sub hl [8, 0, 2] rfl) hP hD hS
    · refine n_w (b := 12) (h9) ?_
      refine lv_tableIn (off := 195) (tgt := 278) hx hb dX4_does_83 (by decide) (by decide) (by decide) (by decide) ?_
      refine lv_lload hx hb dX4_does_278 (lv_at hl 4 rfl) ?_
      refine lv_lconst (v := 0) hx hb dX4_does_280 (by decide) ?_
      refine W.lcmp hx hb dX4_does_281 ?_
      refine lv_if_ne (tgt := 289) hx hb dX4_does_282 (by decide) (fun c_282 => ?_) (fun c_282 => ?_)
      · refine lv_lload hx hb dX4_does_289 (lv_at hl 5 rfl) ?_
        refine lv_lload hx hb dX4_does_291 (lv_at hl 4 rfl) ?_
        refine lv_ldiv hx hb dX4_does_293 (fun z => c_282 ((lg_cmp_eq _ _).mpr z)) ?_
        refine lv_lstore (lv' := [(12, .long ((J 6 (mA N)) / (J 6 (mBB N % 16)))), (11, .int (nI (mCode N))), (10, .int (nI (((N 8 0) + 1) % 256))), (8, .long (((nI (mBB N))).toInt64)), (6, .long (J 6 (mBB N % 16))), (4, .long (J 6 (mA N))), (2, .long (J 6 (mD N))), (1, .int (nI (4 * (N 8 0)))), (0, .ref (a 0))]) hx hb dX4_does_294 hl (by decide) rfl (fun ls hl => ?_)
        refine lv_goto (tgt := 390) hx hb dX4_does_296 (by decide) ?_
        exact jn_390 ((J 6 (mA N)) / (J 6 (mBB N % 16)), ((N 8 0) + 1) % 256) ls _ _ (⟨by unfold mV opV; rw [h9]; simp [show ¬ J 6 (mBB N % 16) = 0 from fun z => c_282 ((lg_cmp_eq _ _).mpr z)], by unfold mNx nxP; rw [h9]; rfl⟩) (lv_sub hl [8, 0, 2] rfl) hP hD hS
      · refine lv_lconst (v := 0) hx hb dX4_does_285 (by decide) ?_
        refine lv_goto (tgt := 294) hx hb dX4_does_286 (by decide) ?_
        refine lv_lstore (lv' := [(12, .long (0)), (11, .int (nI (mCode N))), (10, .int (nI (((N 8 0) + 1) % 256))), (8, .long (((nI (mBB N))).toInt64)), (6, .long (J 6 (mBB N % 16))), (4, .long (J 6 (mA N))), (2, .long (J 6 (mD N))), (1, .int (nI (4 * (N 8 0)))), (0, .ref (a 0))]) hx hb dX4_does_294 hl (by decide) rfl (fun ls hl => ?_)
        refine lv_goto (tgt := 390) hx hb dX4_does_296 (by decide) ?_
        exact jn_390 (0, ((N 8 0) + 1) % 256) ls _ _ (⟨by unfold mV opV; rw [h9]; simp [(lg_cmp_eq _ _).mp c_282], by unfold mNx nxP; rw [h9]; rfl⟩) (lv_sub hl [8, 0, 2] rfl) hP hD hS
    · refine n_w (b := 13) (h9) ?_
      refine lv_tableIn (off := 216) (tgt := 299) hx hb dX4_does_83 (by decide) (by decide) (by decide) (by decide) ?_
      refine lv_lload hx hb dX4_does_299 (lv_at hl 4 rfl) ?_
      refine lv_lconst (v := 0) hx hb dX4_does_301 (by decide) ?_
      refine W.lcmp hx hb dX4_does_302 ?_
      refine lv_if_ne (tgt := 310) hx hb dX4_does_303 (by decide) (fun c_303 => ?_) (fun c_303 => ?_)
      · refine lv_lload hx hb dX4_does_310 (lv_at hl 5 rfl) ?_
        refine lv_lload hx hb dX4_does_312 (lv_at hl 4 rfl) ?_
        refine lv_lrem hx hb dX4_does_314 (fun z => c_303 ((lg_cmp_eq _ _).mpr z)) ?_
        refine lv_lstore (lv' := [(12, .long ((J 6 (mA N)) - (J 6 (mA N)) / (J 6 (mBB N % 16)) * (J 6 (mBB N % 16)))), (11, .int (nI (mCode N))), (10, .int (nI (((N 8 0) + 1) % 256))), (8, .long (((nI (mBB N))).toInt64)), (6, .long (J 6 (mBB N % 16))), (4, .long (J 6 (mA N))), (2, .long (J 6 (mD N))), (1, .int (nI (4 * (N 8 0)))), (0, .ref (a 0))]) hx hb dX4_does_315 hl (by decide) rfl (fun ls hl => ?_)
        refine lv_goto (tgt := 390) hx hb dX4_does_317 (by decide) ?_
        exact jn_390 ((J 6 (mA N)) - (J 6 (mA N)) / (J 6 (mBB N % 16)) * (J 6 (mBB N % 16)), ((N 8 0) + 1) % 256) ls _ _ (⟨by unfold mV opV; rw [h9]; simp [show ¬ J 6 (mBB N % 16) = 0 from fun z => c_303 ((lg_cmp_eq _ _).mpr z)], by unfold mNx nxP; rw [h9]; rfl⟩) (lv_sub hl [8, 0, 2] rfl) hP hD hS
      · refine lv_lconst (v := 0) hx hb dX4_does_306 (by decide) ?_
        refine lv_goto (tgt := 315) hx hb dX4_does_307 (by decide) ?_
        refine lv_lstore (lv' := [(12, .long (0)), (11, .int (nI (mCode N))), (10, .int (nI (((N 8 0) + 1) % 256))), (8, .long (((nI (mBB N))).toInt64)), (6, .long (J 6 (mBB N % 16))), (4, .long (J 6 (mA N))), (2, .long (J 6 (mD N))), (1, .int (nI (4 * (N 8 0)))), (0, .ref (a 0))]) hx hb dX4_does_315 hl (by decide) rfl (fun ls hl => ?_)
        refine lv_goto (tgt := 390) hx hb dX4_does_317 (by decide) ?_
        exact jn_390 (0, ((N 8 0) + 1) % 256) ls _ _ (⟨by unfold mV opV; rw [h9]; simp [(lg_cmp_eq _ _).mp c_303], by unfold mNx nxP; rw [h9]; rfl⟩) (lv_sub hl [8, 0, 2] rfl) hP hD hS
    · refine n_w (b := 14) (h9) ?_
      refine lv_tableIn (off := 237) (tgt := 320) hx hb dX4_does_83 (by decide) (by decide) (by decide) (by decide) ?_
      refine lv_aload_n hx hb dX4_does_320 rfl (lv_at hl 8 rfl) ?_
      refine mg_7 hx hb hts hi4 hown hK hP k29 dX4_does_321 ?_
      refine lv_lload hx hb dX4_does_324 (lv_at hl 5 rfl) ?_
      refine lv_lload hx hb dX4_does_326 (lv_at hl 3 rfl) ?_
      refine lv_ladd hx hb dX4_does_328 ?_
      refine lv_ldc2 (v := 255) hx hb hown (hts (.constantLong RX4 131 (255)) (by decide +kernel)) dX4_does_329 ?_
      refine lv_land hx hb dX4_does_332 ?_
      refine lv_l2i (v := nI (clN (J 6 (mA N) + (nI (mBB N)).toInt64))) hx hb dX4_does_333 (clN_eq _) ?_
      refine ml_7 (v := J 7 (clN (J 6 (mA N) + (nI (mBB N)).toInt64))) hx hb hK hP (clN_lt _) rfl dX4_does_334 ?_
      refine lv_lstore (lv' := [(12, .long (J 7 (clN (J 6 (mA N) + (nI (mBB N)).toInt64)))), (11, .int (nI (mCode N))), (10, .int (nI (((N 8 0) + 1) % 256))), (8, .long (((nI (mBB N))).toInt64)), (6, .long (J 6 (mBB N % 16))), (4, .long (J 6 (mA N))), (2, .long (J 6 (mD N))), (1, .int (nI (4 * (N 8 0)))), (0, .ref (a 0))]) hx hb dX4_does_335 hl (by decide) rfl (fun ls hl => ?_)
      refine lv_goto (tgt := 390) hx hb dX4_does_337 (by decide) ?_
      exact jn_390 (J 7 (clN (J 6 (mA N) + (nI (mBB N)).toInt64)), ((N 8 0) + 1) % 256) ls _ _ (⟨by unfold mV opV; rw [h9]; rfl, by unfold mNx nxP; rw [h9]; rfl⟩) (lv_sub hl [8, 0, 2] rfl) hP hD hS
    · refine n_w (b := 15) (h9) ?_
      refine lv_tableIn (off := 257) (tgt := 340) hx hb dX4_does_83 (by decide) (by decide) (by decide) (by decide) ?_
      refine lv_lload_n hx hb dX4_does_340 rfl (lv_at hl 6 rfl) ?_
      refine lv_lstore (lv' := [(12, .long (J 6 (mD N))), (11, .int (nI (mCode N))), (10, .int (nI (((N 8 0) + 1) % 256))), (8, .long (((nI (mBB N))).toInt64)), (6, .long (J 6 (mBB N % 16))), (4, .long (J 6 (mA N))), (2, .long (J 6 (mD N))), (1, .int (nI (4 * (N 8 0)))), (0, .ref (a 0))]) hx hb dX4_does_341 hl (by decide) rfl (fun ls hl => ?_)
      refine lv_goto (tgt := 390) hx hb dX4_does_343 (by decide) ?_
      exact jn_390 (J 6 (mD N), ((N 8 0) + 1) % 256) ls _ _ (⟨by unfold mV opV; rw [h9]; rfl, by unfold mNx nxP; rw [h9]; rfl⟩) (lv_sub hl [8, 0, 2] rfl) hP hD hS
    · refine n_w (b := 16) (h9) ?_
      refine lv_tableOut (tgt := 346) hx hb dX4_does_83 (by decide) (by decide) ?_
      refine lv_iload hx hb dX4_does_346 (lv_at hl 1 rfl) ?_
      refine lv_bipush (v := nI 18) hx hb dX4_does_348 (by decide) ?_
      refine n_icmp_eq (tgt := 381) hx hb (by omega) (by omega) dX4_does_350 (by decide) (fun c_350 => absurd c_350 (by omega)) (fun c_350 => ?_)
      refine lv_iload hx hb dX4_does_353 (lv_at hl 1 rfl) ?_
      refine lv_bipush (v := nI 16) hx hb dX4_does_355 (by decide) ?_
      refine n_icmp_ne (tgt := 367) hx hb (by omega) (by omega) dX4_does_357 (by decide) (fun c_357 => absurd c_357 (by omega)) (fun c_357 => ?_)
      refine lv_lload hx hb dX4_does_360 (lv_at hl 5 rfl) ?_
      refine lv_lconst (v := 0) hx hb dX4_does_362 (by decide) ?_
      refine W.lcmp hx hb dX4_does_363 ?_
      refine lv_if_eq (tgt := 381) hx hb dX4_does_364 (by decide) (fun c_364 => ?_) (fun c_364 => ?_)
      · refine lv_lload hx hb dX4_does_381 (lv_at hl 3 rfl) ?_
        refine lv_ldc2 (v := 255) hx hb hown (hts (.constantLong RX4 131 (255)) (by decide +kernel)) dX4_does_383 ?_
        refine lv_land hx hb dX4_does_386 ?_
        refine lv_l2i (v := nI (mBB N % 256)) hx hb dX4_does_387 (cl_int hp0.2.2.2) ?_
        refine lv_istore (lv' := [(10, .int (nI (mBB N % 256))), (12, .long (0)), (11, .int (nI (mCode N))), (8, .long (((nI (mBB N))).toInt64)), (6, .long (J 6 (mBB N % 16))), (4, .long (J 6 (mA N))), (2, .long (J 6 (mD N))), (1, .int (nI (4 * (N 8 0)))), (0, .ref (a 0))]) hx hb dX4_does_388 hl (by decide) rfl (fun ls hl => ?_)
        exact jn_390 (0, mBB N % 256) ls _ _ (⟨by unfold mV opV; rw [h9]; rfl, by unfold mNx nxP; rw [h9]; simp [(lg_cmp_eq _ _).mp c_364]⟩) (lv_sub hl [8, 1, 0] rfl) hP hD hS
      · refine lv_iload hx hb dX4_does_367 (lv_at hl 1 rfl) ?_
        refine lv_bipush (v := nI 17) hx hb dX4_does_369 (by decide) ?_
        refine n_icmp_ne (tgt := 390) hx hb (by omega) (by omega) dX4_does_371 (by decide) (fun c_371 => ?_) (fun c_371 => absurd c_371 (by omega))
        exact jn_390 (0, ((N 8 0) + 1) % 256) ls _ _ (⟨by unfold mV opV; rw [h9]; rfl, by unfold mNx nxP; rw [h9]; simp [show ¬ J 6 (mA N) = 0 from fun z => c_364 ((lg_cmp_eq _ _).mpr z)]⟩) (lv_sub hl [8, 0, 2] rfl) hP hD hS
    · refine n_w (b := 17) (h9) ?_
      refine lv_tableOut (tgt := 346) hx hb dX4_does_83 (by decide) (by decide) ?_
      refine lv_iload hx hb dX4_does_346 (lv_at hl 1 rfl) ?_
      refine lv_bipush (v := nI 18) hx hb dX4_does_348 (by decide) ?_
      refine n_icmp_eq (tgt := 381) hx hb (by omega) (by omega) dX4_does_350 (by decide) (fun c_350 => absurd c_350 (by omega)) (fun c_350 => ?_)
      refine lv_iload hx hb dX4_does_353 (lv_at hl 1 rfl) ?_
      refine lv_bipush (v := nI 16) hx hb dX4_does_355 (by decide) ?_
      refine n_icmp_ne (tgt := 367) hx hb (by omega) (by omega) dX4_does_357 (by decide) (fun c_357 => ?_) (fun c_357 => absurd c_357 (by omega))
      refine lv_iload hx hb dX4_does_367 (lv_at hl 1 rfl) ?_
      refine lv_bipush (v := nI 17) hx hb dX4_does_369 (by decide) ?_
      refine n_icmp_ne (tgt := 390) hx hb (by omega) (by omega) dX4_does_371 (by decide) (fun c_371 => absurd c_371 (by omega)) (fun c_371 => ?_)
      refine lv_lload hx hb dX4_does_374 (lv_at hl 5 rfl) ?_
      refine lv_lconst (v := 0) hx hb dX4_does_376 (by decide) ?_
      refine W.lcmp hx hb dX4_does_377 ?_
      refine lv_if_ge (tgt := 390) hx hb dX4_does_378 (by decide) (fun c_378 => ?_) (fun c_378 => ?_)
      · exact jn_390 (0, ((N 8 0) + 1) % 256) ls _ _ (⟨by unfold mV opV; rw [h9]; rfl, by unfold mNx nxP; rw [h9]; simp [show ¬ (J 6 (mA N)) < 0 from fun z => absurd ((lg_cmp_lt _ _).mpr z) (Int32.not_lt.mpr c_378)]⟩) (lv_sub hl [8, 0, 2] rfl) hP hD hS
      · refine lv_lload hx hb dX4_does_381 (lv_at hl 3 rfl) ?_
        refine lv_ldc2 (v := 255) hx hb hown (hts (.constantLong RX4 131 (255)) (by decide +kernel)) dX4_does_383 ?_
        refine lv_land hx hb dX4_does_386 ?_
        refine lv_l2i (v := nI (mBB N % 256)) hx hb dX4_does_387 (cl_int hp0.2.2.2) ?_
        refine lv_istore (lv' := [(10, .int (nI (mBB N % 256))), (12, .long (0)), (11, .int (nI (mCode N))), (8, .long (((nI (mBB N))).toInt64)), (6, .long (J 6 (mBB N % 16))), (4, .long (J 6 (mA N))), (2, .long (J 6 (mD N))), (1, .int (nI (4 * (N 8 0)))), (0, .ref (a 0))]) hx hb dX4_does_388 hl (by decide) rfl (fun ls hl => ?_)
        exact jn_390 (0, mBB N % 256) ls _ _ (⟨by unfold mV opV; rw [h9]; rfl, by unfold mNx nxP; rw [h9]; simp [show (J 6 (mA N)) < 0 from (lg_cmp_lt _ _).mp (Int32.not_le.mp c_378)]⟩) (lv_sub hl [8, 1, 0] rfl) hP hD hS
    · refine n_w (b := 18) (h9) ?_
      refine lv_tableOut (tgt := 346) hx hb dX4_does_83 (by decide) (by decide) ?_
      refine lv_iload hx hb dX4_does_346 (lv_at hl 1 rfl) ?_
      refine lv_bipush (v := nI 18) hx hb dX4_does_348 (by decide) ?_
      refine n_icmp_eq (tgt := 381) hx hb (by omega) (by omega) dX4_does_350 (by decide) (fun c_350 => ?_) (fun c_350 => absurd c_350 (by omega))
      refine lv_lload hx hb dX4_does_381 (lv_at hl 3 rfl) ?_
      refine lv_ldc2 (v := 255) hx hb hown (hts (.constantLong RX4 131 (255)) (by decide +kernel)) dX4_does_383 ?_
      refine lv_land hx hb dX4_does_386 ?_
      refine lv_l2i (v := nI (mBB N % 256)) hx hb dX4_does_387 (cl_int hp0.2.2.2) ?_
      refine lv_istore (lv' := [(10, .int (nI (mBB N % 256))), (12, .long (0)), (11, .int (nI (mCode N))), (8, .long (((nI (mBB N))).toInt64)), (6, .long (J 6 (mBB N % 16))), (4, .long (J 6 (mA N))), (2, .long (J 6 (mD N))), (1, .int (nI (4 * (N 8 0)))), (0, .ref (a 0))]) hx hb dX4_does_388 hl (by decide) rfl (fun ls hl => ?_)
      exact jn_390 (0, mBB N % 256) ls _ _ (⟨by unfold mV opV; rw [h9]; rfl, by unfold mNx nxP; rw [h9]; rfl⟩) (lv_sub hl [8, 1, 0] rfl) hP hD hS
  · have ex390 : x390.1 = mV N J ∧ x390.2 = mNx N J := ex390
    have hl : lv_has ls 14 [(0, .ref (a 0)), (12, .long (x390.1)), (10, .int (nI (x390.2)))] := hl
    have hP : va_P (dC, dI) vwCl (mW a cI cL cZ N J) H := hP
    have hD : va_D (aA (mL a) s.heap.size) (mW a cI cL cZ N J) := hD
    refine lv_aload_n hx hb dX4_does_390 rfl (lv_at hl 0 rfl) ?_
    refine lv_iload hx hb dX4_does_391 (lv_at hl 2 rfl) ?_
    refine mp_8 hx hb hts hi4 hown hK hP hD hS k86 dX4_does_393 (fun H locs hP hD hS => ?_)
    refine lv_lload hx hb dX4_does_396 (lv_at hl 1 rfl) ?_
    exact g_retl hx hb hr hlocks ((uN N 8 (0) (x390.2)), J) (⟨ex390.1, by rw [ex390.2]⟩) hP hS dX4_does_398
end
