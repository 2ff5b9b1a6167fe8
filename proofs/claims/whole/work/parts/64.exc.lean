/-! register, memory and plain of the class: in range they answer, else they throw -/
def gX (A : Nat → Prop) (U : State) (H : Heap) : Prop :=
  va_Nw (.declares (Bundle.initS vnRT)) U ∧ va_Nw (.declares (Bundle.initS "java/lang/Exception")) U ∧ va_Nw (.declares (Bundle.initS Bundle.tN)) U ∧ va_Nw (.castable vnNS vnNS) U ∧
  vx_Zq Bundle.tN "UNASSIGNED_STACK" Bundle.steD A U H ∧ vx_Zq Bundle.tN "SUPPRESSED_SENTINEL" Bundle.listD A U H ∧
  (∃ q, vk_R RX3 113 "no such register" q U) ∧ (∃ q, vk_R RX3 122 "no such memory" q U) ∧ ∃ q, vk_R RX3 127 "no such register or memory" q U
theorem gX.go {A B : Nat → Prop} {s U : State} {H H1 : Heap} (h : gX A s H) (hW : s.WarmedH U.vm) (hk : ∀ q : Nat, q < H.size → ¬ A q → H1[q]? = H[q]?) (hB : ∀ q, B q → A q) : gX B U H1 := by
  obtain ⟨h1, h2, h3, h4, h5, h6, ⟨q1, r1⟩, ⟨q2, r2⟩, q3, r3⟩ := h
  exact ⟨h1.warmD hW, h2.warmD hW, h3.warmD hW, h4.warmC hW, ((h5.kept hk).moved hW.alike).narrow hB, ((h6.kept hk).moved hW.alike).narrow hB, ⟨q1, r1.warm hW⟩, ⟨q2, r2.warm hW⟩, q3, r3.warm hW⟩
theorem gX.same {A : Nat → Prop} {s U : State} {H : Heap} (hv : s.vm = U.vm) (h : gX A s H) : gX A U H := by
  obtain ⟨h1, h2, h3, h4, h5, h6, ⟨q1, r1⟩, ⟨q2, r2⟩, q3, r3⟩ := h
  have ha : s.vm.Alike U.vm := by rw [hv]; exact Vm.Alike.refl _
  exact ⟨va_Nw.same rfl hv h1, va_Nw.same rfl hv h2, va_Nw.same rfl hv h3, va_Nw.same rfl hv h4, h5.moved ha, h6.moved ha, ⟨q1, r1.same hv.symm⟩, ⟨q2, r2.same hv.symm⟩, q3, r3.same hv.symm⟩
def gPreX (dC : Nat → ClassId) (dI : Nat → Nat → Nat) (tys : List (ClassId × FieldType)) (ws : va_W) (L : List Nat) (sz : Nat) : State → Prop := fun U => gPre dC dI tys ws L sz U ∧ gX (aA L sz) U U.heap
theorem gPreX.blind {dC : Nat → ClassId} {dI : Nat → Nat → Nat} {tys : List (ClassId × FieldType)} {ws : va_W} {L : List Nat} {sz : Nat} {av : List Value} : FrameBlind (va_Pc av (gPreX dC dI tys ws L sz)) := by
  intro a U g mk q
  have h1 := gPre.blind (dC := dC) (dI := dI) (tys := tys) (ws := ws) (L := L) (sz := sz) (av := av) a U g mk ⟨q.1, q.2.1⟩
  exact ⟨h1.1, h1.2, gX.same (U := U.calling g mk a) rfl q.2.2⟩
theorem gx_hat {args : Array Value} {s : State} {A : Nat → Prop} {H : Heap} {ws : List Cond} (hts : ∀ w ∈ ws, w.before args s = true) (hi : ∀ w ∈ vnW, w ∈ ws) (h : gX A s H) : ∀ w ∈ vnB, w.before args s = true := by
  obtain ⟨h1, h2, h3, h4, -⟩ := h
  exact vx_hat (B := vnR) (fun w hw => hts w (hi w hw)) vnB_rest (vx_c (va_Nw.use rfl h1) (vx_c (va_Nw.use rfl h2) (vx_c (va_Nw.use rfl h3) (vx_c (va_Nw.use rfl h4) vx_n))))
/-- a method that always throws NoSuchElementException, its world as it was -/
def MetX (l : Launch) (y : MethodName) (ws : List Cond) (rm : Room) (dC : Nat → ClassId) (dI : Nat → Nat → Nat) (tys : List (ClassId × FieldType)) (wd : va_W) (L : List Nat) (av : List Value) : Prop :=
  ∀ sz, vx_Met l y ws rm (va_Pc av (gPreX dC dI tys wd L sz)) (va_Ql (fun (_ : Int64) (_ : Unit) => False) (fun _ _ => True) (aA L sz)) (vx_X (fun _ : Unit => True) (fun E _ t => E = vnNS ∧ va_P (dC, dI) vwCl wd t.heap) (aA L sz)) 1 6 (aA L sz)
theorem gx_entry {l : Launch} {y : MethodName} {ws ws' : List Cond} {rm : Room} {dC : Nat → ClassId} {dI : Nat → Nat → Nat} {tys : List (ClassId × FieldType)} {wd : va_W} {L : List Nat} {av : List Value} {Qc : Nat → Array Value → State → Outcome → State → Prop} {XC : Nat → String → State → State → Prop} {bytes : ByteArray} {maxL : Nat} {ret : Option FieldType} {sz mc ms : Nat}
    (hy : plainName y.cls = true) (hw : ws = Cond.code y bytes maxL ret :: ws') (hn : (lg_sl av).length ≤ maxL) (hL : wd.map Prod.fst = L)
    (body : ∀ (p : Program) (e : Env) (s : State) (m : MethodId) (below : List Frame) (meth : Method) (c : Code) (ls : Array Slot), p.tables.exec = Jvm.exec → c.code = bytes → meth.sig.returnType = ret → c.maxLocals = maxL → (∀ x ∈ c.exceptionTable.toList, False) → (∀ w ∈ ws, w.before av.toArray s = true) → s.vm.findClass y.cls = some m.cls → meth.locks = false →
      va_K (dC, dI) vwCl tys s → va_P (dC, dI) vwCl wd s.heap → va_D (aA L s.heap.size) wd → va_S (aA L s.heap.size) s.heap s.heap [] → gZ (aA L s.heap.size) s s.heap → gX (aA L s.heap.size) s s.heap → lv_has ls maxL (lv_args 0 av) →
      W p l e rm s m av.toArray below meth c s.heap [] 0 0 (vx_MQ below (Qc s.heap.size) (XC s.heap.size) av.toArray s mc ms (aA L s.heap.size)) (F0 m 0 ls [])) :
    vx_Met l y ws rm (va_Pc av (gPreX dC dI tys wd L sz)) (Qc sz) (XC sz) mc ms (aA L sz) := by
  refine vx_ofW (cc := bytes) (maxL := maxL) (ret := ret) hy hw ?_
  intro p e s m args below meth c s₁ B hml ht hv
  obtain ⟨rfl, ⟨hsz, hP, hK, hD0, hZ⟩, hX⟩ := hv
  subst hsz
  have hl := lv_entry av (n := maxL) hn
  rw [lg_entry_eq]
  exact body p e s m below meth c _ B.exec B.bytes B.returns hml ht (atoms_spec (ws := ws) B.pre) (findClass_of_methodNamed B.named) B.notSynchronized hK hP (aA_D hL hD0) va_S.rf hZ hX hl
set_option maxHeartbeats 4000000 in
set_option maxRecDepth 100000 in
theorem tA_register (l : Launch) (dC : Nat → ClassId) (dI : Nat → Nat → Nat) (a : Nat → Nat) (cI cL cZ : ClassId) (N : Nat → Nat → Nat) (J : Nat → Nat → Int64) (i : Nat) (hi : i < 16) (hc : N 22 0 < 2147483648) (hw2 : N 27 i < 2147483648) : MetL l yX3_register wnX3_register ({ frames := 2, cells := 0, slots := 0, locals := 42 } : Room) dC dI (gT cI cL cZ) (xF a cI cL cZ) (xL a) (N, J) [.ref (a 0), .int (nI (i))] (fun r u => r = (if N 22 0 < N 27 i then J 28 i else J 11 i) ∧ u = (N, J)) := by
  intro sz
  refine g_entry (bytes := cX3_register) (maxL := 2) (ret := (some .long)) (Qc := fun sz => va_Ql (fun r u => r = (if N 22 0 < N 27 i then J 28 i else J 11 i) ∧ u = (N, J)) (gB dC dI (xF a cI cL cZ)) (aA (xL a) sz)) (by decide) rfl (Nat.le_of_ble_eq_true rfl) rfl ?_
  intro p e s m below meth c ls hx hb hr hml hts hown hlocks hK hP hD hS hZ hl
  have hP : va_P (dC, dI) vwCl (xW a cI cL cZ N J) s.heap := hP
  have hD : va_D (aA (xL a) s.heap.size) (xW a cI cL cZ N J) := hD
  have hown : s.vm.findClass RX3 = some m.cls := hown
  have hl : lv_has ls 2 [(0, .ref (a 0)), (1, .int (nI (i)))] := hl
  have hi3 : ∀ w ∈ wsX30, w ∈ wnX3_register := by decide +kernel
  have k30 := hts (.fieldLink RX3 30 "ScoreMachine" "board" "LScoreMachine$Board;") (by decide +kernel)
  refine lv_iload_n hx hb dX3_register_0 rfl (lv_at hl 1 rfl) ?_
  refine lv_bipush (v := nI 16) hx hb dX3_register_1 (by decide) ?_
  refine s_calli (As := [.int (nI (i)), .int (nI (16))]) (rest := []) ⟨hx, hb, hml, hown, hts⟩ (tA_within l (nI i) 16 (by decide)) (va_cwS 2 hts ngX3_register_X3_within rfl rfl rfl (by decide +kernel) ⟨Nat.le_of_ble_eq_true rfl, Nat.le_of_ble_eq_true rfl⟩) rfl hl.1 rfl (Nat.le_of_ble_eq_true rfl) dX3_register_3 (fun r_3 hw => ?_)
  rw [if_pos (by rw [i_ti (by omega)]; omega)] at hw
  subst hw
  refine n_if_ne (tgt := 19) hx hb (by omega) dX3_register_6 (by decide) (fun c_6 => ?_) (fun c_6 => absurd c_6 (by decide))
  refine lv_aload_n hx hb dX3_register_19 rfl (lv_at hl 0 rfl) ?_
  refine xg_62 hx hb hts hi3 hown hK hP k30 dX3_register_20 ?_
  refine lv_iload_n hx hb dX3_register_23 rfl (lv_at hl 1 rfl) ?_
  refine g_calll (u := (N, J)) (g_runV (As := [.int (nI i)]) (rest := []) ⟨hx, hb, hml, hown, hts⟩ (tB_registerNow l dC dI a cI cL cZ N J i hi hc hw2 s.heap.size) (cwV 1 hts ngX3_register_X0_registerNow rfl rfl rfl (by decide +kernel) ⟨Nat.le_of_ble_eq_true rfl, Nat.le_of_ble_eq_true rfl⟩) (va_recv hK hP (ci := 0) (q0 := 3) rfl rfl) hK hP hD hS hZ rfl hl.1 rfl (Nat.le_of_ble_eq_true rfl) dX3_register_24) (xW_L a cI cL cZ) hD hS (fun r_9 u H locs hw hP hD hS => ?_)
  obtain ⟨hw1, hw2⟩ := hw
  subst hw1
  subst hw2
  have hP : va_P (dC, dI) vwCl (xW a cI cL cZ N J) H := hP
  exact g_retl hx hb hr hlocks (N, J) (⟨rfl, rfl⟩) hP hS dX3_register_27
set_option maxHeartbeats 4000000 in
set_option maxRecDepth 100000 in
theorem tA_memory (l : Launch) (dC : Nat → ClassId) (dI : Nat → Nat → Nat) (a : Nat → Nat) (cI cL cZ : ClassId) (N : Nat → Nat → Nat) (J : Nat → Nat → Int64) (i : Nat) (hi : i < 256) (hc : N 22 0 < 2147483648) (hw2 : N 30 0 < 2147483648) (hw3 : N 31 0 < 2147483648) : MetL l yX3_memory wnX3_memory ({ frames := 2, cells := 0, slots := 0, locals := 42 } : Room) dC dI (gT cI cL cZ) (xF a cI cL cZ) (xL a) (N, J) [.ref (a 0), .int (nI (i))] (fun r u => r = (if i = N 30 0 ∧ N 22 0 < N 31 0 then J 32 0 else J 12 i) ∧ u = (N, J)) := by
  intro sz
  refine g_entry (bytes := cX3_memory) (maxL := 2) (ret := (some .long)) (Qc := fun sz => va_Ql (fun r u => r = (if i = N 30 0 ∧ N 22 0 < N 31 0 then J 32 0 else J 12 i) ∧ u = (N, J)) (gB dC dI (xF a cI cL cZ)) (aA (xL a) sz)) (by decide) rfl (Nat.le_of_ble_eq_true rfl) rfl ?_
  intro p e s m below meth c ls hx hb hr hml hts hown hlocks hK hP hD hS hZ hl
  have hP : va_P (dC, dI) vwCl (xW a cI cL cZ N J) s.heap := hP
  have hD : va_D (aA (xL a) s.heap.size) (xW a cI cL cZ N J) := hD
  have hown : s.vm.findClass RX3 = some m.cls := hown
  have hl : lv_has ls 2 [(0, .ref (a 0)), (1, .int (nI (i)))] := hl
  have hi3 : ∀ w ∈ wsX30, w ∈ wnX3_memory := by decide +kernel
  have k30 := hts (.fieldLink RX3 30 "ScoreMachine" "board" "LScoreMachine$Board;") (by decide +kernel)
  refine lv_iload_n hx hb dX3_memory_0 rfl (lv_at hl 1 rfl) ?_
  refine lv_sipush (v := nI 256) hx hb dX3_memory_1 (by decide) ?_
  refine s_calli (As := [.int (nI (i)), .int (nI (256))]) (rest := []) ⟨hx, hb, hml, hown, hts⟩ (tA_within l (nI i) 256 (by decide)) (va_cwS 2 hts ngX3_memory_X3_within rfl rfl rfl (by decide +kernel) ⟨Nat.le_of_ble_eq_true rfl, Nat.le_of_ble_eq_true rfl⟩) rfl hl.1 rfl (Nat.le_of_ble_eq_true rfl) dX3_memory_4 (fun r_3 hw => ?_)
  rw [if_pos (by rw [i_ti (by omega)]; omega)] at hw
  subst hw
  refine n_if_ne (tgt := 20) hx hb (by omega) dX3_memory_7 (by decide) (fun c_6 => ?_) (fun c_6 => absurd c_6 (by decide))
  refine lv_aload_n hx hb dX3_memory_20 rfl (lv_at hl 0 rfl) ?_
  refine xg_62 hx hb hts hi3 hown hK hP k30 dX3_memory_21 ?_
  refine lv_iload_n hx hb dX3_memory_24 rfl (lv_at hl 1 rfl) ?_
  refine g_calll (u := (N, J)) (g_runV (As := [.int (nI i)]) (rest := []) ⟨hx, hb, hml, hown, hts⟩ (tB_memoryNow l dC dI a cI cL cZ N J i hi hc hw2 hw3 s.heap.size) (cwV 1 hts ngX3_memory_X0_memoryNow rfl rfl rfl (by decide +kernel) ⟨Nat.le_of_ble_eq_true rfl, Nat.le_of_ble_eq_true rfl⟩) (va_recv hK hP (ci := 0) (q0 := 3) rfl rfl) hK hP hD hS hZ rfl hl.1 rfl (Nat.le_of_ble_eq_true rfl) dX3_memory_25) (xW_L a cI cL cZ) hD hS (fun r_9 u H locs hw hP hD hS => ?_)
  obtain ⟨hw1, hw2⟩ := hw
  subst hw1
  subst hw2
  have hP : va_P (dC, dI) vwCl (xW a cI cL cZ N J) H := hP
  exact g_retl hx hb hr hlocks (N, J) (⟨rfl, rfl⟩) hP hS dX3_memory_28
set_option maxHeartbeats 4000000 in
set_option maxRecDepth 100000 in
theorem tA_plain0 (l : Launch) (dC : Nat → ClassId) (dI : Nat → Nat → Nat) (a : Nat → Nat) (cI cL cZ : ClassId) (N : Nat → Nat → Nat) (J : Nat → Nat → Int64) (i : Nat) (hi : i < 16) : MetL l yX3_plain wnX3_plain ({ frames := 2, cells := 0, slots := 0, locals := 42 } : Room) dC dI (gT cI cL cZ) (xF a cI cL cZ) (xL a) (N, J) [.ref (a 0), .int (nI (0)), .int (nI (i))] (fun r u => r = J 11 i ∧ u = (N, J)) := by
  intro sz
  refine g_entry (bytes := cX3_plain) (maxL := 3) (ret := (some .long)) (Qc := fun sz => va_Ql (fun r u => r = J 11 i ∧ u = (N, J)) (gB dC dI (xF a cI cL cZ)) (aA (xL a) sz)) (by decide) rfl (Nat.le_of_ble_eq_true rfl) rfl ?_
  intro p e s m below meth c ls hx hb hr hml hts hown hlocks hK hP hD hS hZ hl
  have hP : va_P (dC, dI) vwCl (xW a cI cL cZ N J) s.heap := hP
  have hD : va_D (aA (xL a) s.heap.size) (xW a cI cL cZ N J) := hD
  have hown : s.vm.findClass RX3 = some m.cls := hown
  have hl : lv_has ls 3 [(0, .ref (a 0)), (1, .int (nI (0))), (2, .int (nI (i)))] := hl
  have hi3 : ∀ w ∈ wsX30, w ∈ wnX3_plain := by decide +kernel
  have k21 := hts (.fieldLink RX3 21 "ScoreMachine" "plainMachine" "LScoreMachine$PlainMachine;") (by decide +kernel)
  have hi1 : ∀ w ∈ wsX10, w ∈ wnX3_plain := by decide +kernel
  have k75 := hts (.fieldLink RX3 75 "ScoreMachine$PlainMachine" "registers" "[J") (by decide +kernel)
  refine lv_iload_n hx hb dX3_plain_0 rfl (lv_at hl 1 rfl) ?_
  refine lv_iload_n hx hb dX3_plain_1 rfl (lv_at hl 2 rfl) ?_
  refine s_calli (As := [.int (nI (0)), .int (nI (i))]) (rest := []) ⟨hx, hb, hml, hown, hts⟩ (tA_isThere l (nI 0) (nI i)) (va_cwS 2 hts ngX3_plain_X3_isThere rfl rfl rfl (by decide +kernel) ⟨Nat.le_of_ble_eq_true rfl, Nat.le_of_ble_eq_true rfl⟩) rfl hl.1 rfl (Nat.le_of_ble_eq_true rfl) dX3_plain_2 (fun r_3 hw => ?_)
  rw [if_pos (by rw [i_ti (show i < 2147483648 by omega)]; have : (nI 0).toInt = 0 := by decide
                 omega)] at hw
  subst hw
  refine n_if_ne (tgt := 18) hx hb (by omega) dX3_plain_5 (by decide) (fun c_6 => ?_) (fun c_6 => absurd c_6 (by decide))
  refine lv_iload_n hx hb dX3_plain_18 rfl (lv_at hl 1 rfl) ?_
  refine n_if_ne (tgt := 34) hx hb (by decide) dX3_plain_19 (by decide) (fun c_19 => absurd c_19 (by decide)) (fun c_19 => ?_)
  refine lv_aload_n hx hb dX3_plain_22 rfl (lv_at hl 0 rfl) ?_
  refine xg_61 hx hb hts hi3 hown hK hP k21 dX3_plain_23 ?_
  refine xg_11 hx hb hts hi1 hown hK hP k75 dX3_plain_26 ?_
  refine lv_iload_n hx hb dX3_plain_29 rfl (lv_at hl 2 rfl) ?_
  refine xl_11 (v := J 11 i) hx hb hK hP (by omega) rfl dX3_plain_30 ?_
  refine lv_goto (tgt := 43) hx hb dX3_plain_31 (by decide) ?_
  exact g_retl hx hb hr hlocks (N, J) (⟨rfl, rfl⟩) hP hS dX3_plain_43
set_option maxHeartbeats 4000000 in
set_option maxRecDepth 100000 in
theorem tA_plain1 (l : Launch) (dC : Nat → ClassId) (dI : Nat → Nat → Nat) (a : Nat → Nat) (cI cL cZ : ClassId) (N : Nat → Nat → Nat) (J : Nat → Nat → Int64) (i : Nat) (hi : i < 256) : MetL l yX3_plain wnX3_plain ({ frames := 2, cells := 0, slots := 0, locals := 42 } : Room) dC dI (gT cI cL cZ) (xF a cI cL cZ) (xL a) (N, J) [.ref (a 0), .int (nI (1)), .int (nI (i))] (fun r u => r = J 12 i ∧ u = (N, J)) := by
  intro sz
  refine g_entry (bytes := cX3_plain) (maxL := 3) (ret := (some .long)) (Qc := fun sz => va_Ql (fun r u => r = J 12 i ∧ u = (N, J)) (gB dC dI (xF a cI cL cZ)) (aA (xL a) sz)) (by decide) rfl (Nat.le_of_ble_eq_true rfl) rfl ?_
  intro p e s m below meth c ls hx hb hr hml hts hown hlocks hK hP hD hS hZ hl
  have hP : va_P (dC, dI) vwCl (xW a cI cL cZ N J) s.heap := hP
  have hD : va_D (aA (xL a) s.heap.size) (xW a cI cL cZ N J) := hD
  have hown : s.vm.findClass RX3 = some m.cls := hown
  have hl : lv_has ls 3 [(0, .ref (a 0)), (1, .int (nI (1))), (2, .int (nI (i)))] := hl
  have hi3 : ∀ w ∈ wsX30, w ∈ wnX3_plain := by decide +kernel
  have k21 := hts (.fieldLink RX3 21 "ScoreMachine" "plainMachine" "LScoreMachine$PlainMachine;") (by decide +kernel)
  have hi1 : ∀ w ∈ wsX10, w ∈ wnX3_plain := by decide +kernel
  have k79 := hts (.fieldLink RX3 79 "ScoreMachine$PlainMachine" "memory" "[J") (by decide +kernel)
  refine lv_iload_n hx hb dX3_plain_0 rfl (lv_at hl 1 rfl) ?_
  refine lv_iload_n hx hb dX3_plain_1 rfl (lv_at hl 2 rfl) ?_
  refine s_calli (As := [.int (nI (1)), .int (nI (i))]) (rest := []) ⟨hx, hb, hml, hown, hts⟩ (tA_isThere l (nI 1) (nI i)) (va_cwS 2 hts ngX3_plain_X3_isThere rfl rfl rfl (by decide +kernel) ⟨Nat.le_of_ble_eq_true rfl, Nat.le_of_ble_eq_true rfl⟩) rfl hl.1 rfl (Nat.le_of_ble_eq_true rfl) dX3_plain_2 (fun r_3 hw => ?_)
  rw [if_pos (by rw [i_ti (show i < 2147483648 by omega)]; have : (nI 1).toInt = 1 := by decide
                 omega)] at hw
  subst hw
  refine n_if_ne (tgt := 18) hx hb (by omega) dX3_plain_5 (by decide) (fun c_6 => ?_) (fun c_6 => absurd c_6 (by decide))
  refine lv_iload_n hx hb dX3_plain_18 rfl (lv_at hl 1 rfl) ?_
  refine n_if_ne (tgt := 34) hx hb (by decide) dX3_plain_19 (by decide) (fun c_19 => ?_) (fun c_19 => absurd c_19 (by decide))
  refine lv_aload_n hx hb dX3_plain_34 rfl (lv_at hl 0 rfl) ?_
  refine xg_61 hx hb hts hi3 hown hK hP k21 dX3_plain_35 ?_
  refine xg_12 hx hb hts hi1 hown hK hP k79 dX3_plain_38 ?_
  refine lv_iload_n hx hb dX3_plain_41 rfl (lv_at hl 2 rfl) ?_
  refine xl_12 (v := J 12 i) hx hb hK hP (by omega) rfl dX3_plain_42 ?_
  exact g_retl hx hb hr hlocks (N, J) (⟨rfl, rfl⟩) hP hS dX3_plain_43
set_option maxHeartbeats 4000000 in
set_option maxRecDepth 100000 in
theorem tA_register_bad (l : Launch) (dC : Nat → ClassId) (dI : Nat → Nat → Nat) (a : Nat → Nat) (cI cL cZ : ClassId) (N : Nat → Nat → Nat) (J : Nat → Nat → Int64) (hl0 : l.stackTraces = false) (v1 : Int32) (hb0 : ¬ (0 ≤ v1.toInt ∧ v1.toInt < 16)) : MetX l yX3_register wnX3_register ({ frames := 6, cells := 1, slots := 6, locals := 90 } : Room) dC dI (gT cI cL cZ) (xW a cI cL cZ N J) (xL a) [.ref (a 0), .int (v1)] := by
  intro sz
  refine gx_entry (bytes := cX3_register) (maxL := 2) (ret := (some .long)) (Qc := fun sz => va_Ql (fun (_ : Int64) (_ : Unit) => False) (fun _ _ => True) (aA (xL a) sz)) (XC := fun sz => vx_X (fun _ : Unit => True) (fun E _ t => E = vnNS ∧ va_P (dC, dI) vwCl (xW a cI cL cZ N J) t.heap) (aA (xL a) sz)) (by decide) rfl (Nat.le_of_ble_eq_true rfl) rfl ?_
  intro p e s m below meth c ls hx hb hr hml htb hts hown hlocks hK hP hD hS hZ hX hl
  have hown : s.vm.findClass RX3 = some m.cls := hown
  have hl : lv_has ls 2 [(0, .ref (a 0)), (1, .int (v1))] := hl
  have hat := gx_hat hts (by decide +kernel) hX
  obtain ⟨-, -, -, -, hU, hN, ⟨q1, r1⟩, ⟨q2, r2⟩, q3, r3⟩ := hX
  refine lv_iload_n hx hb dX3_register_0 rfl (lv_at hl 1 rfl) ?_
  refine lv_bipush (v := nI 16) hx hb dX3_register_1 (by decide) ?_
  refine s_calli (As := [.int (v1), .int (nI (16))]) (rest := []) ⟨hx, hb, hml, hown, hts⟩ (tA_within l v1 16 (by decide)) (va_cwS 2 hts ngX3_register_X3_within rfl rfl rfl (by decide +kernel) ⟨Nat.le_of_ble_eq_true rfl, Nat.le_of_ble_eq_true rfl⟩) rfl hl.1 rfl (Nat.le_of_ble_eq_true rfl) dX3_register_3 (fun r_3 hw => ?_)
  subst hw
  refine n_if_ne (tgt := 19) hx hb bL dX3_register_6 (by decide) (fun c_6 => absurd c_6 (fun z => hb0 (b1 z))) (fun c_6 => ?_)
  exact vn_throwS (A := aA (xL a) s.heap.size) (ik := 111) (is := 113) (ic := 115) (text := "no such register") (sa := q1) hx hb hl0 hown (hts (.classLink RX3 111 vnNS) (by decide +kernel)) (hts (.initialized vnNS) (by decide +kernel)) r1 hat vnB_ot hU hN hS (by rw [hml]; exact hl.1) dX3_register_9 dX3_register_12 dX3_register_13 dX3_register_15 dX3_register_18 (fun x hx9 => absurd hx9 (fun z => htb x z)) (by decide) (by decide) (by decide) (by decide) hlocks (fun t ha h1 h2 => ⟨(), trivial, ⟨rfl, hP.kept (fun k z hz => h2 z.1 ((hP k z hz).lt))⟩, h1, fun q h3 _ => h2 q h3⟩) (fun z hz => nomatch hz) (Nat.le_refl _) (Nat.le_refl _)
set_option maxHeartbeats 4000000 in
set_option maxRecDepth 100000 in
theorem tA_memory_bad (l : Launch) (dC : Nat → ClassId) (dI : Nat → Nat → Nat) (a : Nat → Nat) (cI cL cZ : ClassId) (N : Nat → Nat → Nat) (J : Nat → Nat → Int64) (hl0 : l.stackTraces = false) (v1 : Int32) (hb0 : ¬ (0 ≤ v1.toInt ∧ v1.toInt < 256)) : MetX l yX3_memory wnX3_memory ({ frames := 6, cells := 1, slots := 6, locals := 90 } : Room) dC dI (gT cI cL cZ) (xW a cI cL cZ N J) (xL a) [.ref (a 0), .int (v1)] := by
  intro sz
  refine gx_entry (bytes := cX3_memory) (maxL := 2) (ret := (some .long)) (Qc := fun sz => va_Ql (fun (_ : Int64) (_ : Unit) => False) (fun _ _ => True) (aA (xL a) sz)) (XC := fun sz => vx_X (fun _ : Unit => True) (fun E _ t => E = vnNS ∧ va_P (dC, dI) vwCl (xW a cI cL cZ N J) t.heap) (aA (xL a) sz)) (by decide) rfl (Nat.le_of_ble_eq_true rfl) rfl ?_
  intro p e s m below meth c ls hx hb hr hml htb hts hown hlocks hK hP hD hS hZ hX hl
  have hown : s.vm.findClass RX3 = some m.cls := hown
  have hl : lv_has ls 2 [(0, .ref (a 0)), (1, .int (v1))] := hl
  have hat := gx_hat hts (by decide +kernel) hX
  obtain ⟨-, -, -, -, hU, hN, ⟨q1, r1⟩, ⟨q2, r2⟩, q3, r3⟩ := hX
  refine lv_iload_n hx hb dX3_memory_0 rfl (lv_at hl 1 rfl) ?_
  refine lv_sipush (v := nI 256) hx hb dX3_memory_1 (by decide) ?_
  refine s_calli (As := [.int (v1), .int (nI (256))]) (rest := []) ⟨hx, hb, hml, hown, hts⟩ (tA_within l v1 256 (by decide)) (va_cwS 2 hts ngX3_memory_X3_within rfl rfl rfl (by decide +kernel) ⟨Nat.le_of_ble_eq_true rfl, Nat.le_of_ble_eq_true rfl⟩) rfl hl.1 rfl (Nat.le_of_ble_eq_true rfl) dX3_memory_4 (fun r_3 hw => ?_)
  subst hw
  refine n_if_ne (tgt := 20) hx hb bL dX3_memory_7 (by decide) (fun c_6 => absurd c_6 (fun z => hb0 (b1 z))) (fun c_6 => ?_)
  exact vn_throwS (A := aA (xL a) s.heap.size) (ik := 111) (is := 122) (ic := 115) (text := "no such memory") (sa := q2) hx hb hl0 hown (hts (.classLink RX3 111 vnNS) (by decide +kernel)) (hts (.initialized vnNS) (by decide +kernel)) r2 hat vnB_ot hU hN hS (by rw [hml]; exact hl.1) dX3_memory_10 dX3_memory_13 dX3_memory_14 dX3_memory_16 dX3_memory_19 (fun x hx9 => absurd hx9 (fun z => htb x z)) (by decide) (by decide) (by decide) (by decide) hlocks (fun t ha h1 h2 => ⟨(), trivial, ⟨rfl, hP.kept (fun k z hz => h2 z.1 ((hP k z hz).lt))⟩, h1, fun q h3 _ => h2 q h3⟩) (fun z hz => nomatch hz) (Nat.le_refl _) (Nat.le_refl _)
set_option maxHeartbeats 4000000 in
set_option maxRecDepth 100000 in
theorem tA_plain_bad (l : Launch) (dC : Nat → ClassId) (dI : Nat → Nat → Nat) (a : Nat → Nat) (cI cL cZ : ClassId) (N : Nat → Nat → Nat) (J : Nat → Nat → Int64) (hl0 : l.stackTraces = false) (v1 v2 : Int32) (hb0 : ¬ ((v1.toInt = 0 ∧ 0 ≤ v2.toInt ∧ v2.toInt < 16) ∨ (v1.toInt = 1 ∧ 0 ≤ v2.toInt ∧ v2.toInt < 256))) : MetX l yX3_plain wnX3_plain ({ frames := 6, cells := 1, slots := 6, locals := 90 } : Room) dC dI (gT cI cL cZ) (xW a cI cL cZ N J) (xL a) [.ref (a 0), .int (v1), .int (v2)] := by
  intro sz
  refine gx_entry (bytes := cX3_plain) (maxL := 3) (ret := (some .long)) (Qc := fun sz => va_Ql (fun (_ : Int64) (_ : Unit) => False) (fun _ _ => True) (aA (xL a) sz)) (XC := fun sz => vx_X (fun _ : Unit => True) (fun E _ t => E = vnNS ∧ va_P (dC, dI) vwCl (xW a cI cL cZ N J) t.heap) (aA (xL a) sz)) (by decide) rfl (Nat.le_of_ble_eq_true rfl) rfl ?_
  intro p e s m below meth c ls hx hb hr hml htb hts hown hlocks hK hP hD hS hZ hX hl
  have hown : s.vm.findClass RX3 = some m.cls := hown
  have hl : lv_has ls 3 [(0, .ref (a 0)), (1, .int (v1)), (2, .int (v2))] := hl
  have hat := gx_hat hts (by decide +kernel) hX
  obtain ⟨-, -, -, -, hU, hN, ⟨q1, r1⟩, ⟨q2, r2⟩, q3, r3⟩ := hX
  refine lv_iload_n hx hb dX3_plain_0 rfl (lv_at hl 1 rfl) ?_
  refine lv_iload_n hx hb dX3_plain_1 rfl (lv_at hl 2 rfl) ?_
  refine s_calli (As := [.int (v1), .int (v2)]) (rest := []) ⟨hx, hb, hml, hown, hts⟩ (tA_isThere l v1 v2) (va_cwS 2 hts ngX3_plain_X3_isThere rfl rfl rfl (by decide +kernel) ⟨Nat.le_of_ble_eq_true rfl, Nat.le_of_ble_eq_true rfl⟩) rfl hl.1 rfl (Nat.le_of_ble_eq_true rfl) dX3_plain_2 (fun r_3 hw => ?_)
  subst hw
  refine n_if_ne (tgt := 18) hx hb bL dX3_plain_5 (by decide) (fun c_6 => absurd c_6 (fun z => hb0 (b1 z))) (fun c_6 => ?_)
  exact vn_throwS (A := aA (xL a) s.heap.size) (ik := 111) (is := 127) (ic := 115) (text := "no such register or memory") (sa := q3) hx hb hl0 hown (hts (.classLink RX3 111 vnNS) (by decide +kernel)) (hts (.initialized vnNS) (by decide +kernel)) r3 hat vnB_ot hU hN hS (by rw [hml]; exact hl.1) dX3_plain_8 dX3_plain_11 dX3_plain_12 dX3_plain_14 dX3_plain_17 (fun x hx9 => absurd hx9 (fun z => htb x z)) (by decide) (by decide) (by decide) (by decide) hlocks (fun t ha h1 h2 => ⟨(), trivial, ⟨rfl, hP.kept (fun k z hz => h2 z.1 ((hP k z hz).lt))⟩, h1, fun q h3 _ => h2 q h3⟩) (fun z hz => nomatch hz) (Nat.le_refl _) (Nat.le_refl _)
