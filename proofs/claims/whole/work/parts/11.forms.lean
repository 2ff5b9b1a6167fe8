/-! contracts over a world that is a function of a state (numbers, longs) -/
abbrev gSt : Type := (Nat → Nat → Nat) × (Nat → Nat → Int64)
def aA (L : List Nat) (sz : Nat) : Nat → Prop := fun q => q ∈ L ∨ sz ≤ q
theorem aA_D {ws : va_W} {L : List Nat} {sz : Nat} {A : Nat → Prop} (hL : ws.map Prod.fst = L) (h : va_D A ws) : va_D (aA L sz) ws :=
  ⟨h.1, fun k q hq => Or.inl (by rw [← hL]; exact List.mem_map.mpr ⟨q, List.mem_of_getElem? hq, rfl⟩)⟩
theorem D_congr {ws ws' : va_W} {A : Nat → Prop} (hL : ws.map Prod.fst = ws'.map Prod.fst) (h : va_D A ws) : va_D A ws' := by
  have key : ∀ (k : Nat) (q : Nat × va_E), ws'[k]? = some q → ∃ z, ws[k]? = some z ∧ z.1 = q.1 := by
    intro k q hq
    have h1 : (ws'.map Prod.fst)[k]? = some q.1 := by rw [List.getElem?_map, hq]; rfl
    rw [← hL, List.getElem?_map] at h1
    cases hz : ws[k]? with
    | none => rw [hz] at h1; cases h1
    | some z => rw [hz] at h1; exact ⟨z, rfl, Option.some.inj h1⟩
  refine ⟨fun i j p q hp hq e => ?_, fun k q hq => ?_⟩
  · obtain ⟨z1, a1, b1⟩ := key i p hp
    obtain ⟨z2, a2, b2⟩ := key j q hq
    exact h.1 i j z1 z2 a1 a2 (by rw [b1, b2, e])
  · obtain ⟨z, a1, b1⟩ := key k q hq
    rw [← b1]
    exact h.2 k z a1
/-- the two static rows, and the links between nest mates -/
def kdN (j : Nat) : Nat := if j < 8 then 0 else if j < 11 then 1 else if j = 11 then 2 else if j < 14 then 3 else if j < 16 then 4 else 5
def kdV (j : Nat) : Int32 := if j = 0 then -1 else nI (kdN j)
def ltN (j : Nat) : Nat := if j = 0 then 2 else if j = 1 then 1 else if j = 2 then 6 else if j = 3 then 12 else if j = 4 then 3 else 1
def gNest (U : State) : Prop :=
  va_Nw (.fieldLinkNest RX0 95 "ScoreMachine" "KIND_OF_CODE" "[I" "ScoreMachine") U ∧ va_Nw (.fieldLinkNest RX2 46 "ScoreMachine" "FIRST_LATENCIES" "[I" "ScoreMachine") U ∧
  va_Nw (.methodLinkNest RX0 102 yX3_writesD "ScoreMachine") U ∧ va_Nw (.methodLinkNest RX0 116 yX3_unitRow "ScoreMachine") U ∧ va_Nw (.methodLinkNest RX0 136 yX3_readsA "ScoreMachine") U ∧
  va_Nw (.methodLinkNest RX0 147 yX3_readsB "ScoreMachine") U ∧ va_Nw (.methodLinkNest RX0 153 yX3_readsD "ScoreMachine") U ∧ va_Nw (.methodLinkNest RX1 58 yX3_writesD "ScoreMachine") U
theorem gNest.warm {s U : State} (hW : s.WarmedH U.vm) (h : gNest s) : gNest U := by
  obtain ⟨h1, h2, h3, h4, h5, h6, h7, h8⟩ := h
  exact ⟨h1.warmF hW, h2.warmF hW, h3.warmM hW, h4.warmM hW, h5.warmM hW, h6.warmM hW, h7.warmM hW, h8.warmM hW⟩
theorem gNest.same {s U : State} (hW : s.vm = U.vm) (h : gNest s) : gNest U := by
  obtain ⟨h1, h2, h3, h4, h5, h6, h7, h8⟩ := h
  exact ⟨va_Nw.same rfl hW h1, va_Nw.same rfl hW h2, va_Nw.same rfl hW h3, va_Nw.same rfl hW h4, va_Nw.same rfl hW h5, va_Nw.same rfl hW h6, va_Nw.same rfl hW h7, va_Nw.same rfl hW h8⟩
def gTab (tk tf : Nat) (A : Nat → Prop) (U : State) (H : Heap) : Prop :=
  va_Z "ScoreMachine" "KIND_OF_CODE" "[I" (.ref tk) A U H ∧ va_T .int tk 19 (fun j => .int (kdV j)) A U H ∧ va_Z "ScoreMachine" "FIRST_LATENCIES" "[I" (.ref tf) A U H ∧ va_T .int tf 6 (fun j => .int (nI (ltN j))) A U H
def gZ (A : Nat → Prop) (U : State) (H : Heap) : Prop := gNest U ∧ ∃ tk tf : Nat, gTab tk tf A U H
theorem gZ.go {A B : Nat → Prop} {s U : State} {H H1 : Heap} (h : gZ A s H) (hW : s.WarmedH U.vm) (hk : ∀ q : Nat, q < H.size → ¬ A q → H1[q]? = H[q]?) (hB : ∀ q, B q → A q) : gZ B U H1 := by
  obtain ⟨h0, tk, tf, h1, h2, h3, h4⟩ := h
  exact ⟨h0.warm hW, tk, tf, ((h1.kept hk).moved hW.alike).narrow hB, ((h2.kept hk).moved hW.alike).narrow hB, ((h3.kept hk).moved hW.alike).narrow hB, ((h4.kept hk).moved hW.alike).narrow hB⟩
def gPre (dC : Nat → ClassId) (dI : Nat → Nat → Nat) (tys : List (ClassId × FieldType)) (ws : va_W) (L : List Nat) (sz : Nat) : State → Prop := fun U =>
  U.heap.size = sz ∧ va_P (dC, dI) vwCl ws U.heap ∧ va_K (dC, dI) vwCl tys U ∧ va_D (fun _ => True) ws ∧ gZ (aA L sz) U U.heap
theorem gPre.blind {dC : Nat → ClassId} {dI : Nat → Nat → Nat} {tys : List (ClassId × FieldType)} {ws : va_W} {L : List Nat} {sz : Nat} {av : List Value} : FrameBlind (va_Pc av (gPre dC dI tys ws L sz)) := by
  intro a U g mk q
  obtain ⟨q0, q1, qP, qK, qD, qn, tk, tf, z1, z2, z3, z4⟩ := q
  have hv : U.vm.Alike (U.calling g mk a).vm := Vm.Alike.refl U.vm
  exact ⟨q0, q1, qP, va_K.moved (u := U) (U := U.calling g mk a) hv qK, qD, qn.same rfl, tk, tf, va_Z.moved (u := U) (U := U.calling g mk a) hv z1, va_T.moved (u := U) (U := U.calling g mk a) hv z2, va_Z.moved (u := U) (U := U.calling g mk a) hv z3, va_T.moved (u := U) (U := U.calling g mk a) hv z4⟩
abbrev gB (dC : Nat → ClassId) (dI : Nat → Nat → Nat) (Wf : gSt → va_W) : gSt → State → Prop := fun u t => va_P (dC, dI) vwCl (Wf u) t.heap
def MetI (l : Launch) (y : MethodName) (ws : List Cond) (rm : Room) (dC : Nat → ClassId) (dI : Nat → Nat → Nat) (tys : List (ClassId × FieldType)) (Wf : gSt → va_W) (L : List Nat) (u : gSt) (av : List Value) (post : Int32 → gSt → Prop) : Prop :=
  ∀ sz, Met l y ws rm (va_Pc av (gPre dC dI tys (Wf u) L sz)) (va_Qi post (gB dC dI Wf) (aA L sz)) 0 0 (aA L sz)
def MetL (l : Launch) (y : MethodName) (ws : List Cond) (rm : Room) (dC : Nat → ClassId) (dI : Nat → Nat → Nat) (tys : List (ClassId × FieldType)) (Wf : gSt → va_W) (L : List Nat) (u : gSt) (av : List Value) (post : Int64 → gSt → Prop) : Prop :=
  ∀ sz, Met l y ws rm (va_Pc av (gPre dC dI tys (Wf u) L sz)) (va_Ql post (gB dC dI Wf) (aA L sz)) 0 0 (aA L sz)
def MetV (l : Launch) (y : MethodName) (ws : List Cond) (rm : Room) (dC : Nat → ClassId) (dI : Nat → Nat → Nat) (tys : List (ClassId × FieldType)) (Wf : gSt → va_W) (L : List Nat) (u : gSt) (av : List Value) (post : gSt → Prop) : Prop :=
  ∀ sz, Met l y ws rm (va_Pc av (gPre dC dI tys (Wf u) L sz)) (va_Qv post (gB dC dI Wf) (aA L sz)) 0 0 (aA L sz)
/-- a static function of numbers alone -/
def MetS (l : Launch) (y : MethodName) (ws : List Cond) (rm : Room) (av : List Value) (post : Int32 → Prop) : Prop :=
  Met l y ws rm (va_Pc av (fun _ => True)) (vp_Si post) 0 0 (fun _ => False)
def MetSL (l : Launch) (y : MethodName) (ws : List Cond) (rm : Room) (av : List Value) (post : Int64 → Prop) : Prop :=
  Met l y ws rm (va_Pc av (fun _ => True)) (vp_Sl post) 0 0 (fun _ => False)
theorem g_entry {l : Launch} {y : MethodName} {ws ws' : List Cond} {rm : Room} {dC : Nat → ClassId} {dI : Nat → Nat → Nat} {tys : List (ClassId × FieldType)} {wd : va_W} {L : List Nat} {av : List Value} {Qc : Nat → Array Value → State → Outcome → State → Prop} {bytes : ByteArray} {maxL : Nat} {ret : Option FieldType} {sz : Nat}
    (hy : plainName y.cls = true) (hw : ws = Cond.code y bytes maxL ret :: ws') (hn : (lg_sl av).length ≤ maxL) (hL : wd.map Prod.fst = L)
    (body : ∀ (p : Program) (e : Env) (s : State) (m : MethodId) (below : List Frame) (meth : Method) (c : Code) (ls : Array Slot), p.tables.exec = Jvm.exec → c.code = bytes → meth.sig.returnType = ret → c.maxLocals = maxL → (∀ w ∈ ws, w.before av.toArray s = true) → s.vm.findClass y.cls = some m.cls → meth.locks = false →
      va_K (dC, dI) vwCl tys s → va_P (dC, dI) vwCl wd s.heap → va_D (aA L s.heap.size) wd → va_S (aA L s.heap.size) s.heap s.heap [] → gZ (aA L s.heap.size) s s.heap → lv_has ls maxL (lv_args 0 av) →
      W p l e rm s m av.toArray below meth c s.heap [] 0 0 (MQ below (Qc s.heap.size) av.toArray s 0 0 (aA L s.heap.size)) (F0 m 0 ls [])) :
    Met l y ws rm (va_Pc av (gPre dC dI tys wd L sz)) (Qc sz) 0 0 (aA L sz) := by
  refine Met.ofW (cc := bytes) (maxL := maxL) (ret := ret) hy hw ?_
  intro p e s m args below meth c s₁ B hml hv
  obtain ⟨rfl, hsz, hP, hK, hD0, hZ⟩ := hv
  subst hsz
  have hl := lv_entry av (n := maxL) hn
  rw [lg_entry_eq]
  exact body p e s m below meth c _ B.exec B.bytes B.returns hml (atoms_spec (ws := ws) B.pre) (findClass_of_methodNamed B.named) B.notSynchronized hK hP (aA_D hL hD0) va_S.rf hZ hl
theorem s_entry {l : Launch} {y : MethodName} {ws ws' : List Cond} {rm : Room} {av : List Value} {Qc : Array Value → State → Outcome → State → Prop} {bytes : ByteArray} {maxL : Nat} {ret : Option FieldType}
    (hy : plainName y.cls = true) (hw : ws = Cond.code y bytes maxL ret :: ws') (hn : (lg_sl av).length ≤ maxL)
    (body : ∀ (p : Program) (e : Env) (s : State) (m : MethodId) (below : List Frame) (meth : Method) (c : Code) (ls : Array Slot), p.tables.exec = Jvm.exec → c.code = bytes → meth.sig.returnType = ret → c.maxLocals = maxL → (∀ w ∈ ws, w.before av.toArray s = true) → s.vm.findClass y.cls = some m.cls → meth.locks = false → lv_has ls maxL (lv_args 0 av) →
      W p l e rm s m av.toArray below meth c s.heap [] 0 0 (MQ below Qc av.toArray s 0 0 (fun _ => False)) (F0 m 0 ls [])) :
    Met l y ws rm (va_Pc av (fun _ => True)) Qc 0 0 (fun _ => False) := by
  refine Met.ofW (cc := bytes) (maxL := maxL) (ret := ret) hy hw ?_
  intro p e s m args below meth c s₁ B hml hv
  obtain ⟨rfl, -⟩ := hv
  have hl := lv_entry av (n := maxL) hn
  rw [lg_entry_eq]
  exact body p e s m below meth c _ B.exec B.bytes B.returns hml (atoms_spec (ws := ws) B.pre) (findClass_of_methodNamed B.named) B.notSynchronized hl
section VR
variable {p : Program} {l : Launch} {e : Env} {R : Room} {s : State} {m : MethodId} {args : Array Value} {below : List Frame} {meth : Method} {c : Code} {H : Heap} {locs : List Loc} {cells slots : Nat} {Q : State → Prop}
variable {cc : ByteArray} {pc : Nat} {ls : Array Slot} {rest : List Value} {dC : Nat → ClassId} {dI : Nat → Nat → Nat} {tys : List (ClassId × FieldType)} {Wf : gSt → va_W} {L : List Nat}
theorem g_reti (hx : p.tables.exec = Jvm.exec) (hb : c.code = cc) (hr : meth.sig.returnType = some .int) (hlocks : meth.locks = false) {post : Int32 → gSt → Prop} {v : Int32} (u : gSt) (hpost : post v u) (hP : va_P (dC, dI) vwCl (Wf u) H) (hS : va_S (aA L s.heap.size) s.heap H locs) (hdg : decode cc pc = .ok (.ireturn, 1)) :
    W p l e R s m args below meth c H locs 0 0 (MQ below (va_Qi post (gB dC dI Wf) (aA L s.heap.size)) args s 0 0 (aA L s.heap.size)) (F0 m pc ls [.int v]) :=
  W.iret hx hb hr (fun t ht _ => ⟨⟨v, u, rfl, hpost, by show va_P _ _ _ t.heap; rw [ht]; exact hP⟩, hS.F ht⟩) hS.2.2 hdg hlocks
theorem g_retz (hx : p.tables.exec = Jvm.exec) (hb : c.code = cc) (hr : meth.sig.returnType = some .boolean) (hlocks : meth.locks = false) {post : Int32 → gSt → Prop} {v : Int32} (hv : v = 0 ∨ v = 1) (u : gSt) (hpost : post v u) (hP : va_P (dC, dI) vwCl (Wf u) H) (hS : va_S (aA L s.heap.size) s.heap H locs) (hdg : decode cc pc = .ok (.ireturn, 1)) :
    W p l e R s m args below meth c H locs 0 0 (MQ below (va_Qi post (gB dC dI Wf) (aA L s.heap.size)) args s 0 0 (aA L s.heap.size)) (F0 m pc ls [.int v]) :=
  W.zret hx hb hr (by rcases hv with h | h <;> subst h <;> decide) (fun t ht _ => ⟨⟨v, u, rfl, hpost, by show va_P _ _ _ t.heap; rw [ht]; exact hP⟩, hS.F ht⟩) hS.2.2 hdg hlocks
theorem g_retl (hx : p.tables.exec = Jvm.exec) (hb : c.code = cc) (hr : meth.sig.returnType = some .long) (hlocks : meth.locks = false) {post : Int64 → gSt → Prop} {v : Int64} (u : gSt) (hpost : post v u) (hP : va_P (dC, dI) vwCl (Wf u) H) (hS : va_S (aA L s.heap.size) s.heap H locs) (hdg : decode cc pc = .ok (.lreturn, 1)) :
    W p l e R s m args below meth c H locs 0 0 (MQ below (va_Ql post (gB dC dI Wf) (aA L s.heap.size)) args s 0 0 (aA L s.heap.size)) (F0 m pc ls [.long v]) :=
  W.lret hx hb hr (fun t ht _ => ⟨⟨v, u, rfl, hpost, by show va_P _ _ _ t.heap; rw [ht]; exact hP⟩, hS.F ht⟩) hS.2.2 hdg hlocks
theorem g_retv (hx : p.tables.exec = Jvm.exec) (hb : c.code = cc) (hr : meth.sig.returnType = none) (hlocks : meth.locks = false) {post : gSt → Prop} (u : gSt) (hpost : post u) (hP : va_P (dC, dI) vwCl (Wf u) H) (hS : va_S (aA L s.heap.size) s.heap H locs) (hdg : decode cc pc = .ok (.return_, 1)) :
    W p l e R s m args below meth c H locs 0 0 (MQ below (va_Qv post (gB dC dI Wf) (aA L s.heap.size)) args s 0 0 (aA L s.heap.size)) (F0 m pc ls []) :=
  W.vret hx hb hr (fun t ht _ => ⟨⟨u, rfl, hpost, by show va_P _ _ _ t.heap; rw [ht]; exact hP⟩, hS.F ht⟩) hS.2.2 hdg hlocks
theorem s_reti (hx : p.tables.exec = Jvm.exec) (hb : c.code = cc) (hr : meth.sig.returnType = some .int) (hlocks : meth.locks = false) {post : Int32 → Prop} {v : Int32} (hpost : post v) (hdg : decode cc pc = .ok (.ireturn, 1)) :
    W p l e R s m args below meth c s.heap [] 0 0 (MQ below (vp_Si post) args s 0 0 (fun _ => False)) (F0 m pc ls [.int v]) :=
  W.iret hx hb hr (fun t ht _ => ⟨v, rfl, hpost, ht⟩) (fun _ h => by cases h) hdg hlocks
theorem s_retz (hx : p.tables.exec = Jvm.exec) (hb : c.code = cc) (hr : meth.sig.returnType = some .boolean) (hlocks : meth.locks = false) {post : Int32 → Prop} {v : Int32} (hv : v = 0 ∨ v = 1) (hpost : post v) (hdg : decode cc pc = .ok (.ireturn, 1)) :
    W p l e R s m args below meth c s.heap [] 0 0 (MQ below (vp_Si post) args s 0 0 (fun _ => False)) (F0 m pc ls [.int v]) :=
  W.zret hx hb hr (by rcases hv with h | h <;> subst h <;> decide) (fun t ht _ => ⟨v, rfl, hpost, ht⟩) (fun _ h => by cases h) hdg hlocks
theorem s_retl (hx : p.tables.exec = Jvm.exec) (hb : c.code = cc) (hr : meth.sig.returnType = some .long) (hlocks : meth.locks = false) {post : Int64 → Prop} {v : Int64} (hpost : post v) (hdg : decode cc pc = .ok (.lreturn, 1)) :
    W p l e R s m args below meth c s.heap [] 0 0 (MQ below (vp_Sl post) args s 0 0 (fun _ => False)) (F0 m pc ls [.long v]) :=
  W.lret hx hb hr (fun t ht _ => ⟨v, rfl, hpost, ht⟩) (fun _ h => by cases h) hdg hlocks
variable {y : MethodName} {bytes : ByteArray} {maxL nL n index : Nat} {ret : Option FieldType} {ws : List Cond} {rm : Room} {Ts : List Cond} {own C : String} {b : Addr} {As : List Value} {st0 : List Value} {args0 : Array Value}
theorem aA_le {sz sz' : Nat} (h : sz ≤ sz') : ∀ q, aA L sz' q → aA L sz q := fun _ z => z.elim Or.inl (fun k => Or.inr (Nat.le_trans h k))
theorem g_pre {wd : va_W} (hK : va_K (dC, dI) vwCl tys s) (hP : va_P (dC, dI) vwCl wd H) (hD : va_D (aA L s.heap.size) wd) (hS : va_S (aA L s.heap.size) s.heap H locs) (hZ : gZ (aA L s.heap.size) s s.heap) (av : List Value) : ∀ U : State, U.heap = H → s.WarmedH U.vm → va_Pc av (gPre dC dI tys wd L H.size) av.toArray U := by
  intro U hU hW
  subst hU
  exact ⟨rfl, rfl, hP, va_K.moved hW.alike hK, hD.weaken (fun _ _ _ _ => trivial), hZ.go hW hS.2.1 (aA_le hS.1)⟩
theorem g_calli {post : Int32 → gSt → Prop} {u : gSt} (hr : va_Run p l e R s m args below meth c H locs 0 0 0 0 (F0 m pc ls st0) rest (va_Qi post (gB dC dI Wf) (aA L H.size) args0) (aA L H.size)) (hLf : ∀ v, (Wf v).map Prod.fst = L) (hD : va_D (aA L s.heap.size) (Wf u)) (hS : va_S (aA L s.heap.size) s.heap H locs)
    (kk : ∀ (r : Int32) (u' : gSt) (H1 : Heap) (locs1 : List Loc), post r u' → va_P (dC, dI) vwCl (Wf u') H1 → va_D (aA L s.heap.size) (Wf u') → va_S (aA L s.heap.size) s.heap H1 locs1 → W p l e R s m args below meth c H1 locs1 0 0 Q (F0 m (pc + 3) ls (.int r :: rest))) : W p l e R s m args below meth c H locs 0 0 Q (F0 m pc ls st0) :=
  va_calli hr hS (fun q _ h => aA_le hS.1 q h) (aA_le hS.1) (fun r u' t H1 locs1 ht _ hw hB _ _ hS1 => kk r u' H1 locs1 hw (by rw [← ht]; exact hB) (D_congr (by rw [hLf, hLf]) hD) hS1)
theorem g_calll {post : Int64 → gSt → Prop} {u : gSt} (hr : va_Run p l e R s m args below meth c H locs 0 0 0 0 (F0 m pc ls st0) rest (va_Ql post (gB dC dI Wf) (aA L H.size) args0) (aA L H.size)) (hLf : ∀ v, (Wf v).map Prod.fst = L) (hD : va_D (aA L s.heap.size) (Wf u)) (hS : va_S (aA L s.heap.size) s.heap H locs)
    (kk : ∀ (r : Int64) (u' : gSt) (H1 : Heap) (locs1 : List Loc), post r u' → va_P (dC, dI) vwCl (Wf u') H1 → va_D (aA L s.heap.size) (Wf u') → va_S (aA L s.heap.size) s.heap H1 locs1 → W p l e R s m args below meth c H1 locs1 0 0 Q (F0 m (pc + 3) ls (.long r :: rest))) : W p l e R s m args below meth c H locs 0 0 Q (F0 m pc ls st0) :=
  va_calll hr hS (fun q _ h => aA_le hS.1 q h) (aA_le hS.1) (fun r u' t H1 locs1 ht _ hw hB _ _ hS1 => kk r u' H1 locs1 hw (by rw [← ht]; exact hB) (D_congr (by rw [hLf, hLf]) hD) hS1)
theorem g_callv {post : gSt → Prop} {u : gSt} (hr : va_Run p l e R s m args below meth c H locs 0 0 0 0 (F0 m pc ls st0) rest (va_Qv post (gB dC dI Wf) (aA L H.size) args0) (aA L H.size)) (hLf : ∀ v, (Wf v).map Prod.fst = L) (hD : va_D (aA L s.heap.size) (Wf u)) (hS : va_S (aA L s.heap.size) s.heap H locs)
    (kk : ∀ (u' : gSt) (H1 : Heap) (locs1 : List Loc), post u' → va_P (dC, dI) vwCl (Wf u') H1 → va_D (aA L s.heap.size) (Wf u') → va_S (aA L s.heap.size) s.heap H1 locs1 → W p l e R s m args below meth c H1 locs1 0 0 Q (F0 m (pc + 3) ls rest)) : W p l e R s m args below meth c H locs 0 0 Q (F0 m pc ls st0) :=
  va_callv hr hS (fun q _ h => aA_le hS.1 q h) (aA_le hS.1) (fun u' t H1 locs1 ht _ hw hB _ _ hS1 => kk u' H1 locs1 hw (by rw [← ht]; exact hB) (D_congr (by rw [hLf, hLf]) hD) hS1)
theorem g_runV {Qc : Array Value → State → Outcome → State → Prop} {free : Addr → Prop} {wd : va_W} (S : CallFix p m c cc nL s args Ts own) (hM : Met l y ws rm (va_Pc (.ref b :: As) (gPre dC dI tys wd L H.size)) Qc 0 0 free) (cw : CallW R s args own C index y bytes maxL ret ws rm 0 0 n)
    (hrecv : ∃ cell : Cell, H[b]? = some cell ∧ cell.vm.isStatics = false ∧ s.vm.findClass C = some cell.cls) (hK : va_K (dC, dI) vwCl tys s) (hP : va_P (dC, dI) vwCl wd H) (hD : va_D (aA L s.heap.size) wd) (hS : va_S (aA L s.heap.size) s.heap H locs) (hZ : gZ (aA L s.heap.size) s s.heap)
    (hn : As.length = n) (hsize : ls.size = nL) (hstack : st0 = As.reverse ++ .ref b :: rest) (hW : (rest.map fun v => v.category).sum ≤ 8) (hdg : decode cc pc = .ok (.invokevirtual index, 3)) :
    va_Run p l e R s m args below meth c H locs 0 0 0 0 (F0 m pc ls st0) rest (Qc (Value.ref b :: As).toArray) free :=
  va_runV (As := As) (rest := rest) (b := b) S hM cw ⟨gPre.blind, hrecv, g_pre hK hP hD hS hZ _⟩ rfl hn hsize hstack (lv_room hW) hdg ⟨Nat.zero_le _, Nat.zero_le _⟩
theorem g_runS {Qc : Array Value → State → Outcome → State → Prop} {free : Addr → Prop} {wd : va_W} (S : CallFix p m c cc nL s args Ts own) (hM : Met l y ws rm (va_Pc As (gPre dC dI tys wd L H.size)) Qc 0 0 free) (cw : CallB R s args own index y bytes maxL ret ws rm 0 0 n ∧ (Cond.static y).before args s = true)
    (hK : va_K (dC, dI) vwCl tys s) (hP : va_P (dC, dI) vwCl wd H) (hD : va_D (aA L s.heap.size) wd) (hS : va_S (aA L s.heap.size) s.heap H locs) (hZ : gZ (aA L s.heap.size) s s.heap)
    (hn : As.length = n) (hsize : ls.size = nL) (hstack : st0 = As.reverse ++ rest) (hW : (rest.map fun v => v.category).sum ≤ 8) (hdg : decode cc pc = .ok (.invokestatic index, 3)) :
    va_Run p l e R s m args below meth c H locs 0 0 0 0 (F0 m pc ls st0) rest (Qc As.toArray) free :=
  va_runS (As := As) (rest := rest) S hM cw ⟨gPre.blind, g_pre hK hP hD hS hZ _⟩ rfl hn hsize hstack (lv_room hW) hdg ⟨Nat.zero_le _, Nat.zero_le _⟩
theorem s_calli {post : Int32 → Prop} (S : CallFix p m c cc nL s args Ts own) (hM : MetS l y ws rm As post) (cw : CallB R s args own index y bytes maxL ret ws rm 0 0 n ∧ (Cond.static y).before args s = true)
    (hn : As.length = n) (hsize : ls.size = nL) (hstack : st0 = As.reverse ++ rest) (hW : (rest.map fun v => v.category).sum ≤ 8) (hdg : decode cc pc = .ok (.invokestatic index, 3))
    (kk : ∀ r : Int32, post r → W p l e R s m args below meth c H locs 0 0 Q (F0 m (pc + 3) ls (.int r :: rest))) : W p l e R s m args below meth c H locs 0 0 Q (F0 m pc ls st0) :=
  vp_callSi (W.runS (As := As) (rest := rest) S hM cw ⟨fun _ _ _ _ q => q, fun _ _ _ => ⟨rfl, trivial⟩⟩ rfl hn hsize hstack (lv_room hW) hdg ⟨Nat.zero_le _, Nat.zero_le _⟩) kk
theorem s_calll {post : Int64 → Prop} (S : CallFix p m c cc nL s args Ts own) (hM : MetSL l y ws rm As post) (cw : CallB R s args own index y bytes maxL ret ws rm 0 0 n ∧ (Cond.static y).before args s = true)
    (hn : As.length = n) (hsize : ls.size = nL) (hstack : st0 = As.reverse ++ rest) (hW : (rest.map fun v => v.category).sum ≤ 8) (hdg : decode cc pc = .ok (.invokestatic index, 3))
    (kk : ∀ r : Int64, post r → W p l e R s m args below meth c H locs 0 0 Q (F0 m (pc + 3) ls (.long r :: rest))) : W p l e R s m args below meth c H locs 0 0 Q (F0 m pc ls st0) :=
  vp_callSl (W.runS (As := As) (rest := rest) S hM cw ⟨fun _ _ _ _ q => q, fun _ _ _ => ⟨rfl, trivial⟩⟩ rfl hn hsize hstack (lv_room hW) hdg ⟨Nat.zero_le _, Nat.zero_le _⟩) kk
theorem s_calliN {post : Int32 → Prop} {host : String} (S : CallFix p m c cc nL s args Ts own) (hM : MetS l y ws rm As post) (cw : va_CN R s args own index y host bytes maxL ret ws rm 0 0 n ∧ (Cond.static y).before args s = true ∧ True)
    (hn : As.length = n) (hsize : ls.size = nL) (hstack : st0 = As.reverse ++ rest) (hW : (rest.map fun v => v.category).sum ≤ 8) (hdg : decode cc pc = .ok (.invokestatic index, 3))
    (kk : ∀ r : Int32, post r → W p l e R s m args below meth c H locs 0 0 Q (F0 m (pc + 3) ls (.int r :: rest))) : W p l e R s m args below meth c H locs 0 0 Q (F0 m pc ls st0) :=
  vp_callSi (va_Run.run (va_runSN (As := As) (rest := rest) S hM cw ⟨fun _ _ _ _ q => q, fun _ _ _ => ⟨rfl, trivial⟩⟩ rfl hn hsize hstack (lv_room hW) hdg ⟨Nat.zero_le _, Nat.zero_le _⟩)) kk
end VR
theorem mW_L (a : Nat → Nat) (cI cL cZ : ClassId) : ∀ v : gSt, ((fun u : gSt => mW a cI cL cZ u.1 u.2) v).map Prod.fst = mL a := fun _ => rfl
theorem xW_L (a : Nat → Nat) (cI cL cZ : ClassId) : ∀ v : gSt, ((fun u : gSt => xW a cI cL cZ u.1 u.2) v).map Prod.fst = xL a := fun _ => rfl
abbrev mF (a : Nat → Nat) (cI cL cZ : ClassId) : gSt → va_W := fun u => mW a cI cL cZ u.1 u.2
abbrev xF (a : Nat → Nat) (cI cL cZ : ClassId) : gSt → va_W := fun u => xW a cI cL cZ u.1 u.2
