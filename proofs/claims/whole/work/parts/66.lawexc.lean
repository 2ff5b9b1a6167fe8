/-! the law's own methods with a handler -/
theorem gw_entry {l : Launch} {y : MethodName} {ws ws' : List Cond} {rm : Room} {dC : Nat → ClassId} {dI : Nat → Nat → Nat} {tys : List (ClassId × FieldType)} {wd : va_W} {L : List Nat} {av : List Value} {Qc : Nat → Array Value → State → Outcome → State → Prop} {bytes : ByteArray} {maxL : Nat} {ret : Option FieldType} {hh : List (Nat × Nat × Nat × Nat)} {sz mc ms : Nat}
    (hy : plainName y.cls = true) (hw : ws = Cond.codeWith y bytes maxL ret hh :: ws') (hn : (lg_sl av).length ≤ maxL) (hL : wd.map Prod.fst = L)
    (body : ∀ (p : Program) (e : Env) (s : State) (m : MethodId) (below : List Frame) (meth : Method) (c : Code) (ls : Array Slot), p.tables.exec = Jvm.exec → c.code = bytes → meth.sig.returnType = ret → c.maxLocals = maxL → c.exceptionTable.toList = tableOf hh → (∀ w ∈ ws, w.before av.toArray s = true) → s.vm.findClass y.cls = some m.cls → meth.locks = false →
      va_K (dC, dI) vwCl tys s → va_P (dC, dI) vwCl wd s.heap → va_D (aA L s.heap.size) wd → va_S (aA L s.heap.size) s.heap s.heap [] → gZ (aA L s.heap.size) s s.heap → gX (aA L s.heap.size) s s.heap → lv_has ls maxL (lv_args 0 av) →
      W p l e rm s m av.toArray below meth c s.heap [] 0 0 (MQ below (Qc s.heap.size) av.toArray s mc ms (aA L s.heap.size)) (F0 m 0 ls [])) :
    Met l y ws rm (va_Pc av (gPreX dC dI tys wd L sz)) (Qc sz) mc ms (aA L sz) := by
  refine MetFree.of_bodyS (code := bytes) (maxLocals := maxL) (ret := ret) hy ?_ ?_
  · intro args s m h hn
    obtain ⟨m9, meth, c, hn9, h1, h2, h3, h4, -, h5, h6, -⟩ := Cond.codeWith_spec (atoms_spec (ws := ws) h _ (by rw [hw]; exact List.mem_cons_self))
    cases hn.symm.trans hn9
    exact ⟨meth, c, h1, h2, h3, h4, h5, h6⟩
  · intro p e s m args below meth c s₁ B hml hv _
    obtain ⟨rfl, ⟨hsz, hP, hK, hD0, hZ⟩, hX⟩ := hv
    subst hsz
    have hts := atoms_spec (ws := ws) B.pre
    have htb : c.exceptionTable.toList = tableOf hh := vx_table (x := y) B (hts _ (by rw [hw]; exact List.mem_cons_self))
    have hh0 : s₁.heap = s.heap := by rw [B.state]; rfl
    have hl := lv_entry av (n := maxL) hn
    have key := body p e s m below meth c _ B.exec B.bytes B.returns hml htb hts (findClass_of_methodNamed B.named) B.notSynchronized hK hP (aA_D hL hD0) va_S.rf hZ hX hl
    rw [← lg_entry_eq] at key
    obtain ⟨t, a1, o, b1, b2, b3⟩ := key s₁ hh0 (Stand.of_body B)
    exact ⟨t, o, a1, b1, b2, ⟨b3.1, b3.2⟩⟩
def hW (a : Nat → Nat) (o : Nat) (cI cL cZ : ClassId) (N : Nat → Nat → Nat) (J : Nat → Nat → Int64) (f : Nat → Int64) : va_W := xW a cI cL cZ N J ++ [(o, .inl (cL, 1, .inr (.inl f)))]
def hL (a : Nat → Nat) (o : Nat) : List Nat := xL a ++ [o]
def MetH (l : Launch) (y : MethodName) (ws : List Cond) (dC : Nat → ClassId) (dI : Nat → Nat → Nat) (a : Nat → Nat) (o : Nat) (cI cL cZ : ClassId) (N : Nat → Nat → Nat) (J : Nat → Nat → Int64) (f : Nat → Int64) (av : List Value) (post : Int32 → (Nat → Int64) → Prop) : Prop :=
  ∀ sz, Met l y ws ({ frames := 7, cells := 1, slots := 6, locals := 120 } : Room) (va_Pc av (gPreX dC dI (gT cI cL cZ) (hW a o cI cL cZ N J f) (hL a o) sz)) (va_Qi post (fun g t => va_P (dC, dI) vwCl (hW a o cI cL cZ N J g) t.heap) (aA (hL a o) sz)) 1 6 (aA (hL a o) sz)
theorem xL_hL (a : Nat → Nat) (o q : Nat) (h : q ∈ xL a) : q ∈ hL a o := List.mem_append_left _ h
set_option maxHeartbeats 4000000 in
set_option maxRecDepth 100000 in
theorem tL_register_ok (l : Launch) (dC : Nat → ClassId) (dI : Nat → Nat → Nat) (a : Nat → Nat) (o : Nat) (cI cL cZ : ClassId) (N : Nat → Nat → Nat) (J : Nat → Nat → Int64) (f : Nat → Int64) (v1 : Int32) (v : Int64) (hM : MetL l yX3_register wnX3_register ({ frames := 2, cells := 0, slots := 0, locals := 42 } : Room) dC dI (gT cI cL cZ) (xF a cI cL cZ) (xL a) (N, J) [.ref (a 0), .int v1] (fun r u => r = v ∧ u = (N, J))) : MetH l yL_register wnL_register dC dI a o cI cL cZ N J f [.ref (a 0), .int v1, .ref o] (fun (r : Int32) (g : Nat → Int64) => r = nI 0 ∧ ((0 : Nat) = 0 → g 0 = v)) := by
  intro sz
  refine gw_entry (hh := [(0, 8, 11, 13)]) (bytes := cL_register) (maxL := 4) (ret := (some .int)) (Qc := fun sz => va_Qi (fun (r : Int32) (g : Nat → Int64) => r = nI 0 ∧ ((0 : Nat) = 0 → g 0 = v)) (fun g t => va_P (dC, dI) vwCl (hW a o cI cL cZ N J g) t.heap) (aA (hL a o) sz)) (by decide) rfl (Nat.le_of_ble_eq_true rfl) rfl ?_
  intro p e s m below meth c ls hx hb hr hml htb hts hown hlocks hK hP hD hS hZ hX hl
  have hown : s.vm.findClass RL = some m.cls := hown
  have hl : lv_has ls 4 [(0, .ref (a 0)), (1, .int v1), (2, .ref o)] := hl
  have hPc : va_P (dC, dI) vwCl (xW a cI cL cZ N J) s.heap := hP.sub [0, 1, 2, 3, 4, 5, 6, 7, 8, 9, 10, 11, 12, 13, 14, 15, 16, 17, 18, 19, 20, 21] rfl
  have hDc : va_D (aA (hL a o) s.heap.size) (xW a cI cL cZ N J) := hD.sub [0, 1, 2, 3, 4, 5, 6, 7, 8, 9, 10, 11, 12, 13, 14, 15, 16, 17, 18, 19, 20, 21] (by decide) rfl
  have hsub : ∀ q, aA (xL a) s.heap.size q → aA (hL a o) s.heap.size q := fun q h => h.elim (fun z => Or.inl (xL_hL a o q z)) Or.inr
  refine lv_aload_n hx hb dL_register_0 rfl (lv_at hl 2 rfl) ?_
  refine lv_iconst (v := nI 0) hx hb dL_register_1 (by decide) ?_
  refine lv_aload_n hx hb dL_register_2 rfl (lv_at hl 0 rfl) ?_
  refine lv_iload_n hx hb dL_register_3 rfl (lv_at hl 1 rfl) ?_
  refine va_calll (va_runV (As := [.int v1]) (rest := [.int (nI 0), .ref o]) ⟨hx, hb, hml, hown, hts⟩ (hM s.heap.size) (cwV 1 hts ngL_register_X3_register rfl rfl rfl (by decide +kernel) ⟨Nat.le_of_ble_eq_true rfl, Nat.le_of_ble_eq_true rfl⟩) ⟨gPre.blind, va_recv hK hPc (ci := 3) (q0 := 0) rfl rfl, fun U hU hW => ⟨rfl, by rw [hU], by rw [hU]; exact hPc, va_K.moved hW.alike hK, hDc.weaken (fun _ _ _ _ => trivial), hZ.go hW (by rw [hU]; exact hS.2.1) hsub⟩⟩ rfl rfl hl.1 rfl (lv_room (Nat.le_of_ble_eq_true rfl)) dL_register_4 ⟨Nat.le_of_ble_eq_true rfl, Nat.le_of_ble_eq_true rfl⟩) hS (fun q _ h => hsub q h) hsub (fun r u t H locs ht hvm hw hB hz1 hk1 hS => ?_)
  obtain ⟨hw1, hw2⟩ := hw
  subst hw1
  subst hw2
  have hB : va_P (dC, dI) vwCl (xW a cI cL cZ N J) H := by rw [← ht]; exact hB
  obtain ⟨hPn, hDn⟩ := va_join (wc := xW a cI cL cZ N J) (wr := [(o, .inl (cL, 1, .inr (.inl f)))]) (w1 := xW a cI cL cZ N J) hP hD [0, 1, 2, 3, 4, 5, 6, 7, 8, 9, 10, 11, 12, 13, 14, 15, 16, 17, 18, 19, 20, 21] [22] rfl rfl (by decide) (by decide) (fun q h1 h2 => hk1 q h1 (fun z => h2 (va_aA (L := xL a) rfl z))) (fun q h => hsub q (aA_va (L := xL a) rfl h)) hB ((aA_D (L := xL a) (sz := s.heap.size) rfl hDc).weaken (fun _ _ _ z => va_aA (ws := xW a cI cL cZ N J) (L := xL a) rfl z))
  have hP : va_P (dC, dI) vwCl (hW a o cI cL cZ N J f) H := hPn.sub [1, 2, 3, 4, 5, 6, 7, 8, 9, 10, 11, 12, 13, 14, 15, 16, 17, 18, 19, 20, 21, 22, 0] rfl
  have hD : va_D (aA (hL a o) s.heap.size) (hW a o cI cL cZ N J f) := hDn.sub [1, 2, 3, 4, 5, 6, 7, 8, 9, 10, 11, 12, 13, 14, 15, 16, 17, 18, 19, 20, 21, 22, 0] (by decide) rfl
  refine va_last hx hb hK hP hD hS 22 1 rfl rfl (vp_in_nI (show 0 < 1 by decide) (by decide)) dL_register_7 (fun H locs hP hD hS => ?_)
  have hP : va_P (dC, dI) vwCl (hW a o cI cL cZ N J (vp_updL f (nI 0).toNatClampNeg r)) H := hP
  refine lv_goto (tgt := 14) hx hb dL_register_8 (by decide) ?_
  refine lv_iconst (v := nI 0) hx hb dL_register_14 (by decide) ?_
  refine W.widen (k := 1) (n := 6) (Nat.le_of_ble_eq_true rfl) (Nat.le_of_ble_eq_true rfl) ?_
  exact W.iret hx hb hr (fun t ht _ => ⟨⟨nI 0, vp_updL f (nI 0).toNatClampNeg r, rfl, ⟨rfl, fun _ => by rw [nI_clamp (by decide)]; rfl⟩, by show va_P _ _ _ t.heap; rw [ht]; exact hP⟩, hS.F ht⟩) hS.2.2 dL_register_15 hlocks
set_option maxHeartbeats 4000000 in
set_option maxRecDepth 100000 in
theorem tL_register_bad (l : Launch) (dC : Nat → ClassId) (dI : Nat → Nat → Nat) (a : Nat → Nat) (o : Nat) (cI cL cZ : ClassId) (N : Nat → Nat → Nat) (J : Nat → Nat → Int64) (f : Nat → Int64) (v1 : Int32) (v : Int64) (hM : MetX l yX3_register wnX3_register ({ frames := 6, cells := 1, slots := 6, locals := 90 } : Room) dC dI (gT cI cL cZ) (xW a cI cL cZ N J) (xL a) [.ref (a 0), .int v1]) : MetH l yL_register wnL_register dC dI a o cI cL cZ N J f [.ref (a 0), .int v1, .ref o] (fun (r : Int32) (g : Nat → Int64) => r = nI 1 ∧ ((1 : Nat) = 0 → g 0 = v)) := by
  intro sz
  refine gw_entry (hh := [(0, 8, 11, 13)]) (bytes := cL_register) (maxL := 4) (ret := (some .int)) (Qc := fun sz => va_Qi (fun (r : Int32) (g : Nat → Int64) => r = nI 1 ∧ ((1 : Nat) = 0 → g 0 = v)) (fun g t => va_P (dC, dI) vwCl (hW a o cI cL cZ N J g) t.heap) (aA (hL a o) sz)) (by decide) rfl (Nat.le_of_ble_eq_true rfl) rfl ?_
  intro p e s m below meth c ls hx hb hr hml htb hts hown hlocks hK hP hD hS hZ hX hl
  have hown : s.vm.findClass RL = some m.cls := hown
  have hl : lv_has ls 4 [(0, .ref (a 0)), (1, .int v1), (2, .ref o)] := hl
  have hPc : va_P (dC, dI) vwCl (xW a cI cL cZ N J) s.heap := hP.sub [0, 1, 2, 3, 4, 5, 6, 7, 8, 9, 10, 11, 12, 13, 14, 15, 16, 17, 18, 19, 20, 21] rfl
  have hDc : va_D (aA (hL a o) s.heap.size) (xW a cI cL cZ N J) := hD.sub [0, 1, 2, 3, 4, 5, 6, 7, 8, 9, 10, 11, 12, 13, 14, 15, 16, 17, 18, 19, 20, 21] (by decide) rfl
  have hsub : ∀ q, aA (xL a) s.heap.size q → aA (hL a o) s.heap.size q := fun q h => h.elim (fun z => Or.inl (xL_hL a o q z)) Or.inr
  refine lv_aload_n hx hb dL_register_0 rfl (lv_at hl 2 rfl) ?_
  refine lv_iconst (v := nI 0) hx hb dL_register_1 (by decide) ?_
  refine lv_aload_n hx hb dL_register_2 rfl (lv_at hl 0 rfl) ?_
  refine lv_iload_n hx hb dL_register_3 rfl (lv_at hl 1 rfl) ?_
  have hcast : (Cond.castable vnNS vnNS).before #[.ref (a 0), .int v1, .ref o] s = true := va_Nw.use rfl hX.2.2.2.1
  refine vx_calll (vx_runV (As := [.int v1]) (rest := [.int (nI 0), .ref o]) ⟨hx, hb, hml, hown, hts⟩ (hM s.heap.size) (cwV 1 hts ngL_register_X3_register rfl rfl rfl (by decide +kernel) ⟨Nat.le_of_ble_eq_true rfl, Nat.le_of_ble_eq_true rfl⟩) ⟨gPreX.blind, va_recv hK hPc (ci := 3) (q0 := 0) rfl rfl, fun U hU hW => ⟨rfl, ⟨by rw [hU], by rw [hU]; exact hPc, va_K.moved hW.alike hK, hDc.weaken (fun _ _ _ _ => trivial), hZ.go hW (by rw [hU]; exact hS.2.1) hsub⟩, hX.go hW (by rw [hU]; exact hS.2.1) hsub⟩⟩ rfl rfl hl.1 rfl (lv_room (Nat.le_of_ble_eq_true rfl)) dL_register_4 ⟨Nat.le_of_ble_eq_true rfl, Nat.le_of_ble_eq_true rfl⟩) hS (fun q _ h => hsub q h) hsub (fun q _ h => hsub q h) (fun E ce q9 u t H locs ht hvm hw hB hz1 hk1 hS hc9 hv9 hcl9 => ?_) (fun r u t H1 locs1 ht hvm hw => hw.elim)
  obtain ⟨hE, hB⟩ := hB
  subst hE
  have hB : va_P (dC, dI) vwCl (xW a cI cL cZ N J) H := by rw [← ht]; exact hB
  obtain ⟨hPn, hDn⟩ := va_join (wc := xW a cI cL cZ N J) (wr := [(o, .inl (cL, 1, .inr (.inl f)))]) (w1 := xW a cI cL cZ N J) hP hD [0, 1, 2, 3, 4, 5, 6, 7, 8, 9, 10, 11, 12, 13, 14, 15, 16, 17, 18, 19, 20, 21] [22] rfl rfl (by decide) (by decide) (fun q h1 h2 => hk1 q h1 (fun z => h2 (va_aA (L := xL a) rfl z))) (fun q h => hsub q (aA_va (L := xL a) rfl h)) hB ((aA_D (L := xL a) (sz := s.heap.size) rfl hDc).weaken (fun _ _ _ z => va_aA (ws := xW a cI cL cZ N J) (L := xL a) rfl z))
  have hP : va_P (dC, dI) vwCl (hW a o cI cL cZ N J f) H := hPn.sub [1, 2, 3, 4, 5, 6, 7, 8, 9, 10, 11, 12, 13, 14, 15, 16, 17, 18, 19, 20, 21, 22, 0] rfl
  have hD : va_D (aA (hL a o) s.heap.size) (hW a o cI cL cZ N J f) := hDn.sub [1, 2, 3, 4, 5, 6, 7, 8, 9, 10, 11, 12, 13, 14, 15, 16, 17, 18, 19, 20, 21, 22, 0] (by decide) rfl
  refine vx_catch (own := RL) (name := vnNS) hown [] ⟨0, 8, 11, 13⟩ [] htb (fun z hz => nomatch hz) (by decide) (by decide) (hts (.classLink RL 13 vnNS) (by decide +kernel)) hcast hc9 hv9 hcl9 ?_
  refine lv_astore_n (lv' := [(3, .ref q9), (0, .ref (a 0)), (1, .int v1), (2, .ref o)]) hx hb dL_register_11 rfl hl (by decide) rfl (fun ls hl => ?_)
  refine lv_iconst (v := nI 1) hx hb dL_register_12 (by decide) ?_
  exact W.iret hx hb hr (fun t ht _ => ⟨⟨nI 1, f, rfl, ⟨rfl, fun h => absurd h (by decide)⟩, by show va_P _ _ _ t.heap; rw [ht]; exact hP⟩, hS.F ht⟩) hS.2.2 dL_register_13 hlocks
set_option maxHeartbeats 4000000 in
set_option maxRecDepth 100000 in
theorem tL_memory_ok (l : Launch) (dC : Nat → ClassId) (dI : Nat → Nat → Nat) (a : Nat → Nat) (o : Nat) (cI cL cZ : ClassId) (N : Nat → Nat → Nat) (J : Nat → Nat → Int64) (f : Nat → Int64) (v1 : Int32) (v : Int64) (hM : MetL l yX3_memory wnX3_memory ({ frames := 2, cells := 0, slots := 0, locals := 42 } : Room) dC dI (gT cI cL cZ) (xF a cI cL cZ) (xL a) (N, J) [.ref (a 0), .int v1] (fun r u => r = v ∧ u = (N, J))) : MetH l yL_memory wnL_memory dC dI a o cI cL cZ N J f [.ref (a 0), .int v1, .ref o] (fun (r : Int32) (g : Nat → Int64) => r = nI 0 ∧ ((0 : Nat) = 0 → g 0 = v)) := by
  intro sz
  refine gw_entry (hh := [(0, 8, 11, 13)]) (bytes := cL_memory) (maxL := 4) (ret := (some .int)) (Qc := fun sz => va_Qi (fun (r : Int32) (g : Nat → Int64) => r = nI 0 ∧ ((0 : Nat) = 0 → g 0 = v)) (fun g t => va_P (dC, dI) vwCl (hW a o cI cL cZ N J g) t.heap) (aA (hL a o) sz)) (by decide) rfl (Nat.le_of_ble_eq_true rfl) rfl ?_
  intro p e s m below meth c ls hx hb hr hml htb hts hown hlocks hK hP hD hS hZ hX hl
  have hown : s.vm.findClass RL = some m.cls := hown
  have hl : lv_has ls 4 [(0, .ref (a 0)), (1, .int v1), (2, .ref o)] := hl
  have hPc : va_P (dC, dI) vwCl (xW a cI cL cZ N J) s.heap := hP.sub [0, 1, 2, 3, 4, 5, 6, 7, 8, 9, 10, 11, 12, 13, 14, 15, 16, 17, 18, 19, 20, 21] rfl
  have hDc : va_D (aA (hL a o) s.heap.size) (xW a cI cL cZ N J) := hD.sub [0, 1, 2, 3, 4, 5, 6, 7, 8, 9, 10, 11, 12, 13, 14, 15, 16, 17, 18, 19, 20, 21] (by decide) rfl
  have hsub : ∀ q, aA (xL a) s.heap.size q → aA (hL a o) s.heap.size q := fun q h => h.elim (fun z => Or.inl (xL_hL a o q z)) Or.inr
  refine lv_aload_n hx hb dL_memory_0 rfl (lv_at hl 2 rfl) ?_
  refine lv_iconst (v := nI 0) hx hb dL_memory_1 (by decide) ?_
  refine lv_aload_n hx hb dL_memory_2 rfl (lv_at hl 0 rfl) ?_
  refine lv_iload_n hx hb dL_memory_3 rfl (lv_at hl 1 rfl) ?_
  refine va_calll (va_runV (As := [.int v1]) (rest := [.int (nI 0), .ref o]) ⟨hx, hb, hml, hown, hts⟩ (hM s.heap.size) (cwV 1 hts ngL_memory_X3_memory rfl rfl rfl (by decide +kernel) ⟨Nat.le_of_ble_eq_true rfl, Nat.le_of_ble_eq_true rfl⟩) ⟨gPre.blind, va_recv hK hPc (ci := 3) (q0 := 0) rfl rfl, fun U hU hW => ⟨rfl, by rw [hU], by rw [hU]; exact hPc, va_K.moved hW.alike hK, hDc.weaken (fun _ _ _ _ => trivial), hZ.go hW (by rw [hU]; exact hS.2.1) hsub⟩⟩ rfl rfl hl.1 rfl (lv_room (Nat.le_of_ble_eq_true rfl)) dL_memory_4 ⟨Nat.le_of_ble_eq_true rfl, Nat.le_of_ble_eq_true rfl⟩) hS (fun q _ h => hsub q h) hsub (fun r u t H locs ht hvm hw hB hz1 hk1 hS => ?_)
  obtain ⟨hw1, hw2⟩ := hw
  subst hw1
  subst hw2
  have hB : va_P (dC, dI) vwCl (xW a cI cL cZ N J) H := by rw [← ht]; exact hB
  obtain ⟨hPn, hDn⟩ := va_join (wc := xW a cI cL cZ N J) (wr := [(o, .inl (cL, 1, .inr (.inl f)))]) (w1 := xW a cI cL cZ N J) hP hD [0, 1, 2, 3, 4, 5, 6, 7, 8, 9, 10, 11, 12, 13, 14, 15, 16, 17, 18, 19, 20, 21] [22] rfl rfl (by decide) (by decide) (fun q h1 h2 => hk1 q h1 (fun z => h2 (va_aA (L := xL a) rfl z))) (fun q h => hsub q (aA_va (L := xL a) rfl h)) hB ((aA_D (L := xL a) (sz := s.heap.size) rfl hDc).weaken (fun _ _ _ z => va_aA (ws := xW a cI cL cZ N J) (L := xL a) rfl z))
  have hP : va_P (dC, dI) vwCl (hW a o cI cL cZ N J f) H := hPn.sub [1, 2, 3, 4, 5, 6, 7, 8, 9, 10, 11, 12, 13, 14, 15, 16, 17, 18, 19, 20, 21, 22, 0] rfl
  have hD : va_D (aA (hL a o) s.heap.size) (hW a o cI cL cZ N J f) := hDn.sub [1, 2, 3, 4, 5, 6, 7, 8, 9, 10, 11, 12, 13, 14, 15, 16, 17, 18, 19, 20, 21, 22, 0] (by decide) rfl
  refine va_last hx hb hK hP hD hS 22 1 rfl rfl (vp_in_nI (show 0 < 1 by decide) (by decide)) dL_memory_7 (fun H locs hP hD hS => ?_)
  have hP : va_P (dC, dI) vwCl (hW a o cI cL cZ N J (vp_updL f (nI 0).toNatClampNeg r)) H := hP
  refine lv_goto (tgt := 14) hx hb dL_memory_8 (by decide) ?_
  refine lv_iconst (v := nI 0) hx hb dL_memory_14 (by decide) ?_
  refine W.widen (k := 1) (n := 6) (Nat.le_of_ble_eq_true rfl) (Nat.le_of_ble_eq_true rfl) ?_
  exact W.iret hx hb hr (fun t ht _ => ⟨⟨nI 0, vp_updL f (nI 0).toNatClampNeg r, rfl, ⟨rfl, fun _ => by rw [nI_clamp (by decide)]; rfl⟩, by show va_P _ _ _ t.heap; rw [ht]; exact hP⟩, hS.F ht⟩) hS.2.2 dL_memory_15 hlocks
set_option maxHeartbeats 4000000 in
set_option maxRecDepth 100000 in
theorem tL_memory_bad (l : Launch) (dC : Nat → ClassId) (dI : Nat → Nat → Nat) (a : Nat → Nat) (o : Nat) (cI cL cZ : ClassId) (N : Nat → Nat → Nat) (J : Nat → Nat → Int64) (f : Nat → Int64) (v1 : Int32) (v : Int64) (hM : MetX l yX3_memory wnX3_memory ({ frames := 6, cells := 1, slots := 6, locals := 90 } : Room) dC dI (gT cI cL cZ) (xW a cI cL cZ N J) (xL a) [.ref (a 0), .int v1]) : MetH l yL_memory wnL_memory dC dI a o cI cL cZ N J f [.ref (a 0), .int v1, .ref o] (fun (r : Int32) (g : Nat → Int64) => r = nI 1 ∧ ((1 : Nat) = 0 → g 0 = v)) := by
  intro sz
  refine gw_entry (hh := [(0, 8, 11, 13)]) (bytes := cL_memory) (maxL := 4) (ret := (some .int)) (Qc := fun sz => va_Qi (fun (r : Int32) (g : Nat → Int64) => r = nI 1 ∧ ((1 : Nat) = 0 → g 0 = v)) (fun g t => va_P (dC, dI) vwCl (hW a o cI cL cZ N J g) t.heap) (aA (hL a o) sz)) (by decide) rfl (Nat.le_of_ble_eq_true rfl) rfl ?_
  intro p e s m below meth c ls hx hb hr hml htb hts hown hlocks hK hP hD hS hZ hX hl
  have hown : s.vm.findClass RL = some m.cls := hown
  have hl : lv_has ls 4 [(0, .ref (a 0)), (1, .int v1), (2, .ref o)] := hl
  have hPc : va_P (dC, dI) vwCl (xW a cI cL cZ N J) s.heap := hP.sub [0, 1, 2, 3, 4, 5, 6, 7, 8, 9, 10, 11, 12, 13, 14, 15, 16, 17, 18, 19, 20, 21] rfl
  have hDc : va_D (aA (hL a o) s.heap.size) (xW a cI cL cZ N J) := hD.sub [0, 1, 2, 3, 4, 5, 6, 7, 8, 9, 10, 11, 12, 13, 14, 15, 16, 17, 18, 19, 20, 21] (by decide) rfl
  have hsub : ∀ q, aA (xL a) s.heap.size q → aA (hL a o) s.heap.size q := fun q h => h.elim (fun z => Or.inl (xL_hL a o q z)) Or.inr
  refine lv_aload_n hx hb dL_memory_0 rfl (lv_at hl 2 rfl) ?_
  refine lv_iconst (v := nI 0) hx hb dL_memory_1 (by decide) ?_
  refine lv_aload_n hx hb dL_memory_2 rfl (lv_at hl 0 rfl) ?_
  refine lv_iload_n hx hb dL_memory_3 rfl (lv_at hl 1 rfl) ?_
  have hcast : (Cond.castable vnNS vnNS).before #[.ref (a 0), .int v1, .ref o] s = true := va_Nw.use rfl hX.2.2.2.1
  refine vx_calll (vx_runV (As := [.int v1]) (rest := [.int (nI 0), .ref o]) ⟨hx, hb, hml, hown, hts⟩ (hM s.heap.size) (cwV 1 hts ngL_memory_X3_memory rfl rfl rfl (by decide +kernel) ⟨Nat.le_of_ble_eq_true rfl, Nat.le_of_ble_eq_true rfl⟩) ⟨gPreX.blind, va_recv hK hPc (ci := 3) (q0 := 0) rfl rfl, fun U hU hW => ⟨rfl, ⟨by rw [hU], by rw [hU]; exact hPc, va_K.moved hW.alike hK, hDc.weaken (fun _ _ _ _ => trivial), hZ.go hW (by rw [hU]; exact hS.2.1) hsub⟩, hX.go hW (by rw [hU]; exact hS.2.1) hsub⟩⟩ rfl rfl hl.1 rfl (lv_room (Nat.le_of_ble_eq_true rfl)) dL_memory_4 ⟨Nat.le_of_ble_eq_true rfl, Nat.le_of_ble_eq_true rfl⟩) hS (fun q _ h => hsub q h) hsub (fun q _ h => hsub q h) (fun E ce q9 u t H locs ht hvm hw hB hz1 hk1 hS hc9 hv9 hcl9 => ?_) (fun r u t H1 locs1 ht hvm hw => hw.elim)
  obtain ⟨hE, hB⟩ := hB
  subst hE
  have hB : va_P (dC, dI) vwCl (xW a cI cL cZ N J) H := by rw [← ht]; exact hB
  obtain ⟨hPn, hDn⟩ := va_join (wc := xW a cI cL cZ N J) (wr := [(o, .inl (cL, 1, .inr (.inl f)))]) (w1 := xW a cI cL cZ N J) hP hD [0, 1, 2, 3, 4, 5, 6, 7, 8, 9, 10, 11, 12, 13, 14, 15, 16, 17, 18, 19, 20, 21] [22] rfl rfl (by decide) (by decide) (fun q h1 h2 => hk1 q h1 (fun z => h2 (va_aA (L := xL a) rfl z))) (fun q h => hsub q (aA_va (L := xL a) rfl h)) hB ((aA_D (L := xL a) (sz := s.heap.size) rfl hDc).weaken (fun _ _ _ z => va_aA (ws := xW a cI cL cZ N J) (L := xL a) rfl z))
  have hP : va_P (dC, dI) vwCl (hW a o cI cL cZ N J f) H := hPn.sub [1, 2, 3, 4, 5, 6, 7, 8, 9, 10, 11, 12, 13, 14, 15, 16, 17, 18, 19, 20, 21, 22, 0] rfl
  have hD : va_D (aA (hL a o) s.heap.size) (hW a o cI cL cZ N J f) := hDn.sub [1, 2, 3, 4, 5, 6, 7, 8, 9, 10, 11, 12, 13, 14, 15, 16, 17, 18, 19, 20, 21, 22, 0] (by decide) rfl
  refine vx_catch (own := RL) (name := vnNS) hown [] ⟨0, 8, 11, 13⟩ [] htb (fun z hz => nomatch hz) (by decide) (by decide) (hts (.classLink RL 13 vnNS) (by decide +kernel)) hcast hc9 hv9 hcl9 ?_
  refine lv_astore_n (lv' := [(3, .ref q9), (0, .ref (a 0)), (1, .int v1), (2, .ref o)]) hx hb dL_memory_11 rfl hl (by decide) rfl (fun ls hl => ?_)
  refine lv_iconst (v := nI 1) hx hb dL_memory_12 (by decide) ?_
  exact W.iret hx hb hr (fun t ht _ => ⟨⟨nI 1, f, rfl, ⟨rfl, fun h => absurd h (by decide)⟩, by show va_P _ _ _ t.heap; rw [ht]; exact hP⟩, hS.F ht⟩) hS.2.2 dL_memory_13 hlocks
set_option maxHeartbeats 4000000 in
set_option maxRecDepth 100000 in
theorem tL_plain_ok (l : Launch) (dC : Nat → ClassId) (dI : Nat → Nat → Nat) (a : Nat → Nat) (o : Nat) (cI cL cZ : ClassId) (N : Nat → Nat → Nat) (J : Nat → Nat → Int64) (f : Nat → Int64) (v1 v2 : Int32) (v : Int64) (hM : MetL l yX3_plain wnX3_plain ({ frames := 2, cells := 0, slots := 0, locals := 42 } : Room) dC dI (gT cI cL cZ) (xF a cI cL cZ) (xL a) (N, J) [.ref (a 0), .int v1, .int v2] (fun r u => r = v ∧ u = (N, J))) : MetH l yL_plain wnL_plain dC dI a o cI cL cZ N J f [.ref (a 0), .int v1, .int v2, .ref o] (fun (r : Int32) (g : Nat → Int64) => r = nI 0 ∧ ((0 : Nat) = 0 → g 0 = v)) := by
  intro sz
  refine gw_entry (hh := [(0, 9, 12, 13)]) (bytes := cL_plain) (maxL := 5) (ret := (some .int)) (Qc := fun sz => va_Qi (fun (r : Int32) (g : Nat → Int64) => r = nI 0 ∧ ((0 : Nat) = 0 → g 0 = v)) (fun g t => va_P (dC, dI) vwCl (hW a o cI cL cZ N J g) t.heap) (aA (hL a o) sz)) (by decide) rfl (Nat.le_of_ble_eq_true rfl) rfl ?_
  intro p e s m below meth c ls hx hb hr hml htb hts hown hlocks hK hP hD hS hZ hX hl
  have hown : s.vm.findClass RL = some m.cls := hown
  have hl : lv_has ls 5 [(0, .ref (a 0)), (1, .int v1), (2, .int v2), (3, .ref o)] := hl
  have hPc : va_P (dC, dI) vwCl (xW a cI cL cZ N J) s.heap := hP.sub [0, 1, 2, 3, 4, 5, 6, 7, 8, 9, 10, 11, 12, 13, 14, 15, 16, 17, 18, 19, 20, 21] rfl
  have hDc : va_D (aA (hL a o) s.heap.size) (xW a cI cL cZ N J) := hD.sub [0, 1, 2, 3, 4, 5, 6, 7, 8, 9, 10, 11, 12, 13, 14, 15, 16, 17, 18, 19, 20, 21] (by decide) rfl
  have hsub : ∀ q, aA (xL a) s.heap.size q → aA (hL a o) s.heap.size q := fun q h => h.elim (fun z => Or.inl (xL_hL a o q z)) Or.inr
  refine lv_aload_n hx hb dL_plain_0 rfl (lv_at hl 3 rfl) ?_
  refine lv_iconst (v := nI 0) hx hb dL_plain_1 (by decide) ?_
  refine lv_aload_n hx hb dL_plain_2 rfl (lv_at hl 0 rfl) ?_
  refine lv_iload_n hx hb dL_plain_3 rfl (lv_at hl 1 rfl) ?_
  refine lv_iload_n hx hb dL_plain_4 rfl (lv_at hl 2 rfl) ?_
  refine va_calll (va_runV (As := [.int v1, .int v2]) (rest := [.int (nI 0), .ref o]) ⟨hx, hb, hml, hown, hts⟩ (hM s.heap.size) (cwV 2 hts ngL_plain_X3_plain rfl rfl rfl (by decide +kernel) ⟨Nat.le_of_ble_eq_true rfl, Nat.le_of_ble_eq_true rfl⟩) ⟨gPre.blind, va_recv hK hPc (ci := 3) (q0 := 0) rfl rfl, fun U hU hW => ⟨rfl, by rw [hU], by rw [hU]; exact hPc, va_K.moved hW.alike hK, hDc.weaken (fun _ _ _ _ => trivial), hZ.go hW (by rw [hU]; exact hS.2.1) hsub⟩⟩ rfl rfl hl.1 rfl (lv_room (Nat.le_of_ble_eq_true rfl)) dL_plain_5 ⟨Nat.le_of_ble_eq_true rfl, Nat.le_of_ble_eq_true rfl⟩) hS (fun q _ h => hsub q h) hsub (fun r u t H locs ht hvm hw hB hz1 hk1 hS => ?_)
  obtain ⟨hw1, hw2⟩ := hw
  subst hw1
  subst hw2
  have hB : va_P (dC, dI) vwCl (xW a cI cL cZ N J) H := by rw [← ht]; exact hB
  obtain ⟨hPn, hDn⟩ := va_join (wc := xW a cI cL cZ N J) (wr := [(o, .inl (cL, 1, .inr (.inl f)))]) (w1 := xW a cI cL cZ N J) hP hD [0, 1, 2, 3, 4, 5, 6, 7, 8, 9, 10, 11, 12, 13, 14, 15, 16, 17, 18, 19, 20, 21] [22] rfl rfl (by decide) (by decide) (fun q h1 h2 => hk1 q h1 (fun z => h2 (va_aA (L := xL a) rfl z))) (fun q h => hsub q (aA_va (L := xL a) rfl h)) hB ((aA_D (L := xL a) (sz := s.heap.size) rfl hDc).weaken (fun _ _ _ z => va_aA (ws := xW a cI cL cZ N J) (L := xL a) rfl z))
  have hP : va_P (dC, dI) vwCl (hW a o cI cL cZ N J f) H := hPn.sub [1, 2, 3, 4, 5, 6, 7, 8, 9, 10, 11, 12, 13, 14, 15, 16, 17, 18, 19, 20, 21, 22, 0] rfl
  have hD : va_D (aA (hL a o) s.heap.size) (hW a o cI cL cZ N J f) := hDn.sub [1, 2, 3, 4, 5, 6, 7, 8, 9, 10, 11, 12, 13, 14, 15, 16, 17, 18, 19, 20, 21, 22, 0] (by decide) rfl
  refine va_last hx hb hK hP hD hS 22 1 rfl rfl (vp_in_nI (show 0 < 1 by decide) (by decide)) dL_plain_8 (fun H locs hP hD hS => ?_)
  have hP : va_P (dC, dI) vwCl (hW a o cI cL cZ N J (vp_updL f (nI 0).toNatClampNeg r)) H := hP
  refine lv_goto (tgt := 16) hx hb dL_plain_9 (by decide) ?_
  refine lv_iconst (v := nI 0) hx hb dL_plain_16 (by decide) ?_
  refine W.widen (k := 1) (n := 6) (Nat.le_of_ble_eq_true rfl) (Nat.le_of_ble_eq_true rfl) ?_
  exact W.iret hx hb hr (fun t ht _ => ⟨⟨nI 0, vp_updL f (nI 0).toNatClampNeg r, rfl, ⟨rfl, fun _ => by rw [nI_clamp (by decide)]; rfl⟩, by show va_P _ _ _ t.heap; rw [ht]; exact hP⟩, hS.F ht⟩) hS.2.2 dL_plain_17 hlocks
set_option maxHeartbeats 4000000 in
set_option maxRecDepth 100000 in
theorem tL_plain_bad (l : Launch) (dC : Nat → ClassId) (dI : Nat → Nat → Nat) (a : Nat → Nat) (o : Nat) (cI cL cZ : ClassId) (N : Nat → Nat → Nat) (J : Nat → Nat → Int64) (f : Nat → Int64) (v1 v2 : Int32) (v : Int64) (hM : MetX l yX3_plain wnX3_plain ({ frames := 6, cells := 1, slots := 6, locals := 90 } : Room) dC dI (gT cI cL cZ) (xW a cI cL cZ N J) (xL a) [.ref (a 0), .int v1, .int v2]) : MetH l yL_plain wnL_plain dC dI a o cI cL cZ N J f [.ref (a 0), .int v1, .int v2, .ref o] (fun (r : Int32) (g : Nat → Int64) => r = nI 1 ∧ ((1 : Nat) = 0 → g 0 = v)) := by
  intro sz
  refine gw_entry (hh := [(0, 9, 12, 13)]) (bytes := cL_plain) (maxL := 5) (ret := (some .int)) (Qc := fun sz => va_Qi (fun (r : Int32) (g : Nat → Int64) => r = nI 1 ∧ ((1 : Nat) = 0 → g 0 = v)) (fun g t => va_P (dC, dI) vwCl (hW a o cI cL cZ N J g) t.heap) (aA (hL a o) sz)) (by decide) rfl (Nat.le_of_ble_eq_true rfl) rfl ?_
  intro p e s m below meth c ls hx hb hr hml htb hts hown hlocks hK hP hD hS hZ hX hl
  have hown : s.vm.findClass RL = some m.cls := hown
  have hl : lv_has ls 5 [(0, .ref (a 0)), (1, .int v1), (2, .int v2), (3, .ref o)] := hl
  have hPc : va_P (dC, dI) vwCl (xW a cI cL cZ N J) s.heap := hP.sub [0, 1, 2, 3, 4, 5, 6, 7, 8, 9, 10, 11, 12, 13, 14, 15, 16, 17, 18, 19, 20, 21] rfl
  have hDc : va_D (aA (hL a o) s.heap.size) (xW a cI cL cZ N J) := hD.sub [0, 1, 2, 3, 4, 5, 6, 7, 8, 9, 10, 11, 12, 13, 14, 15, 16, 17, 18, 19, 20, 21] (by decide) rfl
  have hsub : ∀ q, aA (xL a) s.heap.size q → aA (hL a o) s.heap.size q := fun q h => h.elim (fun z => Or.inl (xL_hL a o q z)) Or.inr
  refine lv_aload_n hx hb dL_plain_0 rfl (lv_at hl 3 rfl) ?_
  refine lv_iconst (v := nI 0) hx hb dL_plain_1 (by decide) ?_
  refine lv_aload_n hx hb dL_plain_2 rfl (lv_at hl 0 rfl) ?_
  refine lv_iload_n hx hb dL_plain_3 rfl (lv_at hl 1 rfl) ?_
  refine lv_iload_n hx hb dL_plain_4 rfl (lv_at hl 2 rfl) ?_
  have hcast : (Cond.castable vnNS vnNS).before #[.ref (a 0), .int v1, .int v2, .ref o] s = true := va_Nw.use rfl hX.2.2.2.1
  refine vx_calll (vx_runV (As := [.int v1, .int v2]) (rest := [.int (nI 0), .ref o]) ⟨hx, hb, hml, hown, hts⟩ (hM s.heap.size) (cwV 2 hts ngL_plain_X3_plain rfl rfl rfl (by decide +kernel) ⟨Nat.le_of_ble_eq_true rfl, Nat.le_of_ble_eq_true rfl⟩) ⟨gPreX.blind, va_recv hK hPc (ci := 3) (q0 := 0) rfl rfl, fun U hU hW => ⟨rfl, ⟨by rw [hU], by rw [hU]; exact hPc, va_K.moved hW.alike hK, hDc.weaken (fun _ _ _ _ => trivial), hZ.go hW (by rw [hU]; exact hS.2.1) hsub⟩, hX.go hW (by rw [hU]; exact hS.2.1) hsub⟩⟩ rfl rfl hl.1 rfl (lv_room (Nat.le_of_ble_eq_true rfl)) dL_plain_5 ⟨Nat.le_of_ble_eq_true rfl, Nat.le_of_ble_eq_true rfl⟩) hS (fun q _ h => hsub q h) hsub (fun q _ h => hsub q h) (fun E ce q9 u t H locs ht hvm hw hB hz1 hk1 hS hc9 hv9 hcl9 => ?_) (fun r u t H1 locs1 ht hvm hw => hw.elim)
  obtain ⟨hE, hB⟩ := hB
  subst hE
  have hB : va_P (dC, dI) vwCl (xW a cI cL cZ N J) H := by rw [← ht]; exact hB
  obtain ⟨hPn, hDn⟩ := va_join (wc := xW a cI cL cZ N J) (wr := [(o, .inl (cL, 1, .inr (.inl f)))]) (w1 := xW a cI cL cZ N J) hP hD [0, 1, 2, 3, 4, 5, 6, 7, 8, 9, 10, 11, 12, 13, 14, 15, 16, 17, 18, 19, 20, 21] [22] rfl rfl (by decide) (by decide) (fun q h1 h2 => hk1 q h1 (fun z => h2 (va_aA (L := xL a) rfl z))) (fun q h => hsub q (aA_va (L := xL a) rfl h)) hB ((aA_D (L := xL a) (sz := s.heap.size) rfl hDc).weaken (fun _ _ _ z => va_aA (ws := xW a cI cL cZ N J) (L := xL a) rfl z))
  have hP : va_P (dC, dI) vwCl (hW a o cI cL cZ N J f) H := hPn.sub [1, 2, 3, 4, 5, 6, 7, 8, 9, 10, 11, 12, 13, 14, 15, 16, 17, 18, 19, 20, 21, 22, 0] rfl
  have hD : va_D (aA (hL a o) s.heap.size) (hW a o cI cL cZ N J f) := hDn.sub [1, 2, 3, 4, 5, 6, 7, 8, 9, 10, 11, 12, 13, 14, 15, 16, 17, 18, 19, 20, 21, 22, 0] (by decide) rfl
  refine vx_catch (own := RL) (name := vnNS) hown [] ⟨0, 9, 12, 13⟩ [] htb (fun z hz => nomatch hz) (by decide) (by decide) (hts (.classLink RL 13 vnNS) (by decide +kernel)) hcast hc9 hv9 hcl9 ?_
  refine lv_astore (lv' := [(4, .ref q9), (0, .ref (a 0)), (1, .int v1), (2, .int v2), (3, .ref o)]) hx hb dL_plain_12 hl (by decide) rfl (fun ls hl => ?_)
  refine lv_iconst (v := nI 1) hx hb dL_plain_14 (by decide) ?_
  exact W.iret hx hb hr (fun t ht _ => ⟨⟨nI 1, f, rfl, ⟨rfl, fun h => absurd h (by decide)⟩, by show va_P _ _ _ t.heap; rw [ht]; exact hP⟩, hS.F ht⟩) hS.2.2 dL_plain_15 hlocks
