section VNT
variable {p : Program} {l : Launch} {e : Env} {R : Room} {s : State} {m : MethodId} {args : Array Value} {below : List Frame} {meth : Method} {c : Code} {H : Heap} {locs : List Loc} {cells slots : Nat}
variable {free : Addr → Prop} {ls : Array Slot} {rest : List Value} {Qc : Array Value → State → Outcome → State → Prop} {XC : String → State → State → Prop}
/-- 'throw new NoSuchElementException("text")' (the row vx_throwS, over vn_ctor) -/
theorem vn_throwS {cc : ByteArray} {pc : Nat} (hexec : p.tables.exec = Jvm.exec) (hb : c.code = cc) (hl : l.stackTraces = false) {own text : String} {ik is ic mc ms sa : Nat} {A : Nat → Prop}
    (hown : s.vm.findClass own = some m.cls)
    (hk : (Cond.classLink own ik vnNS).before args s = true) (hini : (Cond.initialized vnNS).before args s = true) (hstr : vk_R own is text sa s) (hat : ∀ w ∈ (vnA own ic).filter vx_no, w.before args s = true)
    (hgood : ∀ w ∈ Cond.classLink own ik vnNS :: Cond.initialized vnNS :: (vnA own ic).filter vx_no, vx_ot w = true)
    (hU : vx_Zq Bundle.tN "UNASSIGNED_STACK" Bundle.steD A s s.heap) (hN : vx_Zq Bundle.tN "SUPPRESSED_SENTINEL" Bundle.listD A s s.heap) (hS : va_S A s.heap H locs) (hsize : ls.size = c.maxLocals)
    (d0 : decode cc pc = .ok (.new ik, 3)) (d3 : decode cc (pc + 3) = .ok (.dup, 1)) (d4 : decode cc (pc + 4) = .ok (.ldc is, 2)) (d6 : decode cc (pc + 6) = .ok (.invokespecial ic, 3)) (d9 : decode cc (pc + 9) = .ok (.athrow, 1))
    (hout : ∀ x ∈ c.exceptionTable.toList, covers x (pc + 9) = false)
    (hRframes : 5 < R.frames) (hRlocals : (rest.map fun v => v.category).sum + 82 ≤ R.locals) (hRcells : cells + 1 ≤ R.cells) (hRslots : slots + 6 ≤ R.slots) (hlocks : meth.locks = false)
    (hx : ∀ t : State, s.vm.Alike t.vm → H.size ≤ t.heap.size → (∀ q : Nat, q < H.size → t.heap[q]? = H[q]?) → XC vnNS s t)
    (hf : ∀ z ∈ locs, free z.base) (hc : cells + 1 ≤ mc) (hs : slots + 6 ≤ ms) :
    W p l e R s m args below meth c H locs cells slots (vx_MQ below Qc XC args s mc ms free) (F0 m pc ls rest) := by
  intro T hT X
  have htr : e.platform.stackTraces = false := (show e.platform.stackTraces = l.stackTraces by rw [X.admits.platform]).trans hl
  have Y := vx_rebase X (R' := { frames := R.frames, locals := R.locals, cells := 1, slots := 6 }) (Nat.le_refl _) (Nat.le_refl _) hRcells hRslots
  obtain ⟨s', hA⟩ : ∃ z, z = (T.setVm s.vm).setFrames (.invoking m args :: below) := ⟨_, rfl⟩
  rw [← hA] at Y
  have hvm : s'.vm = s.vm := by rw [hA]; rfl
  have hhp : s'.heap = H := by rw [hA]; exact hT
  have hW0 : s.WarmedH s'.vm := by rw [hvm]; exact State.WarmedH.refl s
  have hat' : ∀ w ∈ (vnA own ic).filter vx_no, w.before args s' = true := fun w hw => vx_ot_at hW0 hvm.symm (hgood w (List.mem_cons_of_mem _ (List.mem_cons_of_mem _ hw))) (hat w hw)
  have hk' : (Cond.classLink own ik vnNS).before args s' = true := vx_ot_at hW0 hvm.symm (hgood _ List.mem_cons_self) hk
  have hini' : (Cond.initialized vnNS).before args s' = true := vx_ot_at hW0 hvm.symm (hgood _ (List.mem_cons_of_mem _ List.mem_cons_self)) hini
  have hU' : vx_Zq Bundle.tN "UNASSIGNED_STACK" Bundle.steD A s' s'.heap := by rw [hhp]; exact vx_Zq.moved hW0.alike (hU.kept hS.2.1)
  have hN' : vx_Zq Bundle.tN "SUPPRESSED_SENTINEL" Bundle.listD A s' s'.heap := by rw [hhp]; exact vx_Zq.moved hW0.alike (hN.kept hS.2.1)
  have h : ∀ w ∈ vnA own ic, w.before args s' = true := vx_own hat' (vx_isRefq hU'.1) (vx_isRefq hN'.1) hU'.2.word hN'.2.word
  have hown' : s'.vm.findClass own = some m.cls := by rw [hvm]; exact hown
  have hins : (Cond.instantiable vnNS 6).before args s' = true := h _ (List.mem_append_right _ (List.mem_append_right _ (List.mem_append_right _ (List.mem_append_right _ (by simp [vnE])))))
  obtain ⟨vm₁, cX, kX, hfX, hkX, -, -, X₁, st1⟩ := Y.newCold hexec (own := own) (C := vnNS) (index := ik) (n := 6) hown' hk' hins hini'
    (g := F0 m pc ls rest) rfl (by rw [hb]; exact d0) (Nat.le_refl _) (Nat.le_refl _)
  generalize hT1 : (T.setVm vm₁).pushCell { cls := cX, slots := kX.instanceTypes.map defaultValue, vm := .none } = T1 at X₁ st1
  have hcat : (Value.ref T.heap.size).category = 1 := rfl
  have hcellA : T1.heap[T.heap.size]? = some (freshCell cX kX) := by rw [← hT1]; exact State.heap_pushCell_size _ _
  have d3' : decode c.code (pc + 3) = .ok (.dup, 1) := by rw [hb]; exact d3
  have d4' : decode c.code (pc + 4) = .ok (.ldc is, 2) := by rw [hb]; exact d4
  have hstr' : vk_R own is text sa s' := vk_R.warm hW0 hstr
  obtain ⟨U, hsteps, hrun, hend, hW, hsame, ce, hce, hOv, hOc⟩ := vn_ctor X₁ hexec htr (own := own) (ic := ic) hown' h hfX hkX hcellA (by rw [hhp, hT]; exact Nat.le_refl _) (msg := .ref sa) rfl
    (g := { method := m, pc := pc + 6, locals := ls, stack := .ref sa :: .ref T.heap.size :: .ref T.heap.size :: rest, locked := none }) rfl hsize rfl rfl (rest := rest) rfl
    (by rw [hb]; exact d6) (by rw [hb]; exact d9) hout hRframes (by simp only [List.map_cons, List.sum_cons, hcat]; omega) hlocks
  obtain ⟨f1, f2⟩ := vx_frame hsame
  rw [hhp] at f1 f2
  have hWs : s.WarmedH U.vm := State.WarmedH.trans hW0 hW
  have hcl : s.vm.findClass vnNS = some ce.cls := by
    have h9 := hOc
    rw [hvm] at h9
    exact h9
  have hall : s.sameButNew ({ U with vm := s.vm } : State) locs mc ms := by
    subst hA
    obtain ⟨e1, e2⟩ := hsame
    rw [State.setFrames_setFrames] at e1
    have h2 : (T.setVm s.vm).sameButNew ({ U with vm := s.vm } : State) [] (0 + 1) (0 + 6) := ⟨e1, e2⟩
    have h3 := X.same.trans h2
    rw [List.append_nil] at h3
    exact h3.mono hc hs
  refine ⟨U, ?_, .threw T.heap.size, hrun, hend, Or.inr ⟨T.heap.size, rfl, vnNS, ce, locs, hx U hWs.alike f1 (fun q hq => f2 q hq (fun z hz => nomatch hz)), hce, hOv, hcl, hWs, hall, hf⟩⟩
  refine st1 _ ?_
  show Steps p.tables e below (T1.setTop { method := m, pc := pc + 3, locals := ls, stack := .ref T.heap.size :: rest, locked := none }) _
  jvm_step X₁.here [X₁.here.top, hexec, d3', Value.category]
  exact X₁.ldcString hexec (own := own) (text := text) (index := is) (a := sa) hown' hstr'.1 hstr'.2
    (g := { method := m, pc := pc + 4, locals := ls, stack := .ref T.heap.size :: .ref T.heap.size :: rest, locked := none }) rfl d4' _ hsteps
end VNT

def vnB : List Cond := (vnA RX3 115).filter vx_no
def vnW : List Cond := vnB.filter goodWord
def vnR : List Cond := [.declares (Bundle.initS vnRT), .declares (Bundle.initS "java/lang/Exception"), .declares (Bundle.initS Bundle.tN), .castable vnNS vnNS]
theorem vnB_rest : ∀ w ∈ vnB.filter (fun w => !goodWord w), w ∈ vnR := by decide +kernel
theorem vnW_good : vnW.all goodWord = true := by decide +kernel
theorem vnB_ot : ∀ w ∈ Cond.classLink RX3 111 vnNS :: Cond.initialized vnNS :: vnB, vx_ot w = true := by decide +kernel
def wnX3_register : List Cond := .code yX3_register cX3_register 2 (some .long) :: ([.classLink RX3 111 "java/util/NoSuchElementException", .initialized "java/util/NoSuchElementException", .fieldLink RX3 30 "ScoreMachine" "board" "LScoreMachine$Board;", .methodLink RX3 38 yX3_within, .static yX3_within, .initialized RX3, .code yX3_within cX3_within 2 (some .boolean), .methodLink RX3 118 yX0_registerNow, .instanceMethod yX0_registerNow, .selects RX0 yX0_registerNow yX0_registerNow, .initialized RX0, .code yX0_registerNow cX0_registerNow 2 (some .long), .fieldLink RX0 18 "ScoreMachine$Board" "writtenAt" "[I", .fieldLink RX0 45 "ScoreMachine$Board" "cycle" "I", .fieldLink RX0 21 "ScoreMachine$Board" "heldBefore" "[J", .fieldLink RX0 41 "ScoreMachine$Board" "plainMachine" "LScoreMachine$PlainMachine;", .fieldLink RX0 177 "ScoreMachine$PlainMachine" "registers" "[J"] ++ wsX30 ++ wsX00 ++ wsX10 ++ vnW)
def wnX3_memory : List Cond := .code yX3_memory cX3_memory 2 (some .long) :: ([.classLink RX3 111 "java/util/NoSuchElementException", .initialized "java/util/NoSuchElementException", .fieldLink RX3 30 "ScoreMachine" "board" "LScoreMachine$Board;", .methodLink RX3 38 yX3_within, .static yX3_within, .initialized RX3, .code yX3_within cX3_within 2 (some .boolean), .methodLink RX3 124 yX0_memoryNow, .instanceMethod yX0_memoryNow, .selects RX0 yX0_memoryNow yX0_memoryNow, .initialized RX0, .code yX0_memoryNow cX0_memoryNow 2 (some .long), .fieldLink RX0 65 "ScoreMachine$Board" "storeCell" "I", .fieldLink RX0 68 "ScoreMachine$Board" "storeWritten" "I", .fieldLink RX0 45 "ScoreMachine$Board" "cycle" "I", .fieldLink RX0 71 "ScoreMachine$Board" "storeBefore" "J", .fieldLink RX0 41 "ScoreMachine$Board" "plainMachine" "LScoreMachine$PlainMachine;", .fieldLink RX0 174 "ScoreMachine$PlainMachine" "memory" "[J"] ++ wsX30 ++ wsX00 ++ wsX10 ++ vnW)
def wnX3_plain : List Cond := .code yX3_plain cX3_plain 3 (some .long) :: ([.classLink RX3 111 "java/util/NoSuchElementException", .initialized "java/util/NoSuchElementException", .fieldLink RX3 21 "ScoreMachine" "plainMachine" "LScoreMachine$PlainMachine;", .fieldLink RX3 75 "ScoreMachine$PlainMachine" "registers" "[J", .fieldLink RX3 79 "ScoreMachine$PlainMachine" "memory" "[J", .methodLink RX3 68 yX3_isThere, .static yX3_isThere, .initialized RX3, .code yX3_isThere cX3_isThere 2 (some .boolean), .methodLink RX3 38 yX3_within, .static yX3_within, .code yX3_within cX3_within 2 (some .boolean)] ++ wsX30 ++ wsX10 ++ vnW)
def wnL_register : List Cond := .codeWith yL_register cL_register 4 (some .int) [(0, 8, 11, 13)] :: ([.classLink RL 13 "java/util/NoSuchElementException", .methodLink RL 7 yX3_register, .instanceMethod yX3_register, .selects RX3 yX3_register yX3_register, .initialized RX3, .code yX3_register cX3_register 2 (some .long), .classLink RX3 111 "java/util/NoSuchElementException", .initialized "java/util/NoSuchElementException", .fieldLink RX3 30 "ScoreMachine" "board" "LScoreMachine$Board;", .methodLink RX3 38 yX3_within, .static yX3_within, .code yX3_within cX3_within 2 (some .boolean), .methodLink RX3 118 yX0_registerNow, .instanceMethod yX0_registerNow, .selects RX0 yX0_registerNow yX0_registerNow, .initialized RX0, .code yX0_registerNow cX0_registerNow 2 (some .long), .fieldLink RX0 18 "ScoreMachine$Board" "writtenAt" "[I", .fieldLink RX0 45 "ScoreMachine$Board" "cycle" "I", .fieldLink RX0 21 "ScoreMachine$Board" "heldBefore" "[J", .fieldLink RX0 41 "ScoreMachine$Board" "plainMachine" "LScoreMachine$PlainMachine;", .fieldLink RX0 177 "ScoreMachine$PlainMachine" "registers" "[J"] ++ wsX30 ++ wsX00 ++ wsX10 ++ vnW)
def wnL_memory : List Cond := .codeWith yL_memory cL_memory 4 (some .int) [(0, 8, 11, 13)] :: ([.classLink RL 13 "java/util/NoSuchElementException", .methodLink RL 15 yX3_memory, .instanceMethod yX3_memory, .selects RX3 yX3_memory yX3_memory, .initialized RX3, .code yX3_memory cX3_memory 2 (some .long), .classLink RX3 111 "java/util/NoSuchElementException", .initialized "java/util/NoSuchElementException", .fieldLink RX3 30 "ScoreMachine" "board" "LScoreMachine$Board;", .methodLink RX3 38 yX3_within, .static yX3_within, .code yX3_within cX3_within 2 (some .boolean), .methodLink RX3 124 yX0_memoryNow, .instanceMethod yX0_memoryNow, .selects RX0 yX0_memoryNow yX0_memoryNow, .initialized RX0, .code yX0_memoryNow cX0_memoryNow 2 (some .long), .fieldLink RX0 65 "ScoreMachine$Board" "storeCell" "I", .fieldLink RX0 68 "ScoreMachine$Board" "storeWritten" "I", .fieldLink RX0 45 "ScoreMachine$Board" "cycle" "I", .fieldLink RX0 71 "ScoreMachine$Board" "storeBefore" "J", .fieldLink RX0 41 "ScoreMachine$Board" "plainMachine" "LScoreMachine$PlainMachine;", .fieldLink RX0 174 "ScoreMachine$PlainMachine" "memory" "[J"] ++ wsX30 ++ wsX00 ++ wsX10 ++ vnW)
def wnL_plain : List Cond := .codeWith yL_plain cL_plain 5 (some .int) [(0, 9, 12, 13)] :: ([.classLink RL 13 "java/util/NoSuchElementException", .methodLink RL 18 yX3_plain, .instanceMethod yX3_plain, .selects RX3 yX3_plain yX3_plain, .initialized RX3, .code yX3_plain cX3_plain 3 (some .long), .classLink RX3 111 "java/util/NoSuchElementException", .initialized "java/util/NoSuchElementException", .fieldLink RX3 21 "ScoreMachine" "plainMachine" "LScoreMachine$PlainMachine;", .fieldLink RX3 75 "ScoreMachine$PlainMachine" "registers" "[J", .fieldLink RX3 79 "ScoreMachine$PlainMachine" "memory" "[J", .methodLink RX3 68 yX3_isThere, .static yX3_isThere, .code yX3_isThere cX3_isThere 2 (some .boolean), .methodLink RX3 38 yX3_within, .static yX3_within, .code yX3_within cX3_within 2 (some .boolean)] ++ wsX30 ++ wsX10 ++ vnW)
set_option maxRecDepth 20000 in
theorem nggX3_register_X3_within : GoodIn wnX3_register wsX3_within := goodIn_c _ [7] [] rfl (by decide +kernel) (by decide +kernel)
set_option maxRecDepth 20000 in
theorem ngX3_register_X3_within : GoodIn wnX3_register (va_wsS RX3 38 yX3_within wsX3_within) := goodIn_app (goodIn_of _ (by decide +kernel)) nggX3_register_X3_within
set_option maxRecDepth 20000 in
theorem nggX3_register_X0_registerNow : GoodIn wnX3_register wsX0_registerNow := goodIn_c _ [12] [13, 14, 15, 16, 17, 21, 22, 23, 24, 25, 26, 27, 28, 29, 30, 31, 32, 33, 34, 35, 36, 37, 38, 39, 40, 41, 42] rfl (by decide +kernel) (by decide +kernel)
set_option maxRecDepth 20000 in
theorem ngX3_register_X0_registerNow : GoodIn wnX3_register (wsV RX3 118 RX0 yX0_registerNow wsX0_registerNow) := goodIn_app (goodIn_of _ (by decide +kernel)) nggX3_register_X0_registerNow
set_option maxRecDepth 20000 in
theorem nggX3_memory_X3_within : GoodIn wnX3_memory wsX3_within := goodIn_c _ [7] [] rfl (by decide +kernel) (by decide +kernel)
set_option maxRecDepth 20000 in
theorem ngX3_memory_X3_within : GoodIn wnX3_memory (va_wsS RX3 38 yX3_within wsX3_within) := goodIn_app (goodIn_of _ (by decide +kernel)) nggX3_memory_X3_within
set_option maxRecDepth 20000 in
theorem nggX3_memory_X0_memoryNow : GoodIn wnX3_memory wsX0_memoryNow := goodIn_c _ [12] [13, 14, 15, 16, 17, 18, 22, 23, 24, 25, 26, 27, 28, 29, 30, 31, 32, 33, 34, 35, 36, 37, 38, 39, 40, 41, 42, 43] rfl (by decide +kernel) (by decide +kernel)
set_option maxRecDepth 20000 in
theorem ngX3_memory_X0_memoryNow : GoodIn wnX3_memory (wsV RX3 124 RX0 yX0_memoryNow wsX0_memoryNow) := goodIn_app (goodIn_of _ (by decide +kernel)) nggX3_memory_X0_memoryNow
set_option maxRecDepth 20000 in
theorem nggX3_plain_X3_isThere : GoodIn wnX3_plain wsX3_isThere := goodIn_c _ [9, 12] [10, 11, 8] rfl (by decide +kernel) (by decide +kernel)
set_option maxRecDepth 20000 in
theorem ngX3_plain_X3_isThere : GoodIn wnX3_plain (va_wsS RX3 68 yX3_isThere wsX3_isThere) := goodIn_app (goodIn_of _ (by decide +kernel)) nggX3_plain_X3_isThere
