/-! the law from its entry -/
theorem ac_of {args : Array Value} {s : State} {ty : FieldType} (h : (Cond.arrayClass ty).before args s = true) : ∃ cA, ArrOfT s cA ty ∧ s.vm.findClass ("[" ++ ty.toString) = some cA := by
  obtain ⟨cA, kA, comp, h1, h2, h3⟩ := Cond.arrayClass_spec h
  exact ⟨cA, fun n z => ⟨fun k h => (by cases h), kA, h2, comp, h3⟩, h1⟩
theorem el_of {args : Array Value} {s : State} {t : Term} {v : Int32} (h : (Cond.eq t (.int v)).before args s = true) : t.eval args s none [] s = some (.int v) := by
  obtain ⟨y, h1, h2⟩ := Cond.eq_one h
  have e : (Term.int v).eval args s none [] s = some (.int v) := rfl
  rw [e] at h2
  rw [h1, ← h2]
set_option maxRecDepth 20000 in
theorem st_nest {args : Array Value} {s : State} (hts0 : ∀ w ∈ lw_tbl, w.before args s = true) : gNest s :=
  ⟨va_Nw.of rfl (hts0 (.fieldLinkNest RX0 95 "ScoreMachine" "KIND_OF_CODE" "[I" "ScoreMachine") (List.mem_of_getElem? (i := 265) (by decide +kernel))), va_Nw.of rfl (hts0 (.fieldLinkNest RX2 46 "ScoreMachine" "FIRST_LATENCIES" "[I" "ScoreMachine") (List.mem_of_getElem? (i := 56) (by decide +kernel))), va_Nw.of rfl (hts0 (.methodLinkNest RX0 102 yX3_writesD "ScoreMachine") (List.mem_of_getElem? (i := 273) (by decide +kernel))), va_Nw.of rfl (hts0 (.methodLinkNest RX0 116 yX3_unitRow "ScoreMachine") (List.mem_of_getElem? (i := 270) (by decide +kernel))), va_Nw.of rfl (hts0 (.methodLinkNest RX0 136 yX3_readsA "ScoreMachine") (List.mem_of_getElem? (i := 280) (by decide +kernel))), va_Nw.of rfl (hts0 (.methodLinkNest RX0 147 yX3_readsB "ScoreMachine") (List.mem_of_getElem? (i := 286) (by decide +kernel))), va_Nw.of rfl (hts0 (.methodLinkNest RX0 153 yX3_readsD "ScoreMachine") (List.mem_of_getElem? (i := 293) (by decide +kernel))), va_Nw.of rfl (hts0 (.methodLinkNest RX1 58 yX3_writesD "ScoreMachine") (List.mem_of_getElem? (i := 327) (by decide +kernel)))⟩
set_option maxRecDepth 20000 in
theorem st_kind {args : Array Value} {s : State} {A : Nat → Prop} (hts0 : ∀ w ∈ lw_tbl, w.before args s = true) (hs : ∀ w ∈ flatC (Jvm.Cond.and given_1 narrow_1), w.before args s = true) (hA : ∀ a : Nat, a < s.heap.size → ¬ A a) : ∃ t : Nat, va_Z "ScoreMachine" "KIND_OF_CODE" "[I" (.ref t) A s s.heap ∧ va_T .int t 19 (fun j => .int (kdV j)) A s s.heap := by
  obtain ⟨t, h1, h2⟩ := va_Tof (args := args) (s := s) (tm := (.static "ScoreMachine" "KIND_OF_CODE" "[I")) (ty := .int) (N := 19) (f := fun j => .int (kdV j)) (A := A) (by decide) (hs (.arrayOf (.static "ScoreMachine" "KIND_OF_CODE" "[I") .int) (by decide +kernel)) (el_of (hs (.eq (.length (.static "ScoreMachine" "KIND_OF_CODE" "[I")) (.int 19)) (by decide +kernel))) (fun j hj => by
    rcases (show j = 0 ∨ j = 1 ∨ j = 2 ∨ j = 3 ∨ j = 4 ∨ j = 5 ∨ j = 6 ∨ j = 7 ∨ j = 8 ∨ j = 9 ∨ j = 10 ∨ j = 11 ∨ j = 12 ∨ j = 13 ∨ j = 14 ∨ j = 15 ∨ j = 16 ∨ j = 17 ∨ j = 18 by omega) with rfl | rfl | rfl | rfl | rfl | rfl | rfl | rfl | rfl | rfl | rfl | rfl | rfl | rfl | rfl | rfl | rfl | rfl | rfl
    · exact el_of (hs (.eq (.elem (.static "ScoreMachine" "KIND_OF_CODE" "[I") (.int 0)) (.int (-1))) (by decide +kernel))
    · exact el_of (hs (.eq (.elem (.static "ScoreMachine" "KIND_OF_CODE" "[I") (.int 1)) (.int (0))) (by decide +kernel))
    · exact el_of (hs (.eq (.elem (.static "ScoreMachine" "KIND_OF_CODE" "[I") (.int 2)) (.int (0))) (by decide +kernel))
    · exact el_of (hs (.eq (.elem (.static "ScoreMachine" "KIND_OF_CODE" "[I") (.int 3)) (.int (0))) (by decide +kernel))
    · exact el_of (hs (.eq (.elem (.static "ScoreMachine" "KIND_OF_CODE" "[I") (.int 4)) (.int (0))) (by decide +kernel))
    · exact el_of (hs (.eq (.elem (.static "ScoreMachine" "KIND_OF_CODE" "[I") (.int 5)) (.int (0))) (by decide +kernel))
    · exact el_of (hs (.eq (.elem (.static "ScoreMachine" "KIND_OF_CODE" "[I") (.int 6)) (.int (0))) (by decide +kernel))
    · exact el_of (hs (.eq (.elem (.static "ScoreMachine" "KIND_OF_CODE" "[I") (.int 7)) (.int (0))) (by decide +kernel))
    · exact el_of (hs (.eq (.elem (.static "ScoreMachine" "KIND_OF_CODE" "[I") (.int 8)) (.int (1))) (by decide +kernel))
    · exact el_of (hs (.eq (.elem (.static "ScoreMachine" "KIND_OF_CODE" "[I") (.int 9)) (.int (1))) (by decide +kernel))
    · exact el_of (hs (.eq (.elem (.static "ScoreMachine" "KIND_OF_CODE" "[I") (.int 10)) (.int (1))) (by decide +kernel))
    · exact el_of (hs (.eq (.elem (.static "ScoreMachine" "KIND_OF_CODE" "[I") (.int 11)) (.int (2))) (by decide +kernel))
    · exact el_of (hs (.eq (.elem (.static "ScoreMachine" "KIND_OF_CODE" "[I") (.int 12)) (.int (3))) (by decide +kernel))
    · exact el_of (hs (.eq (.elem (.static "ScoreMachine" "KIND_OF_CODE" "[I") (.int 13)) (.int (3))) (by decide +kernel))
    · exact el_of (hs (.eq (.elem (.static "ScoreMachine" "KIND_OF_CODE" "[I") (.int 14)) (.int (4))) (by decide +kernel))
    · exact el_of (hs (.eq (.elem (.static "ScoreMachine" "KIND_OF_CODE" "[I") (.int 15)) (.int (4))) (by decide +kernel))
    · exact el_of (hs (.eq (.elem (.static "ScoreMachine" "KIND_OF_CODE" "[I") (.int 16)) (.int (5))) (by decide +kernel))
    · exact el_of (hs (.eq (.elem (.static "ScoreMachine" "KIND_OF_CODE" "[I") (.int 17)) (.int (5))) (by decide +kernel))
    · exact el_of (hs (.eq (.elem (.static "ScoreMachine" "KIND_OF_CODE" "[I") (.int 18)) (.int (5))) (by decide +kernel))) hA
  exact ⟨t, va_Zof (hts0 (.laysStatic "ScoreMachine" "KIND_OF_CODE" "[I") (List.mem_of_getElem? (i := 229) (by decide +kernel))) (hts0 (.initialized "ScoreMachine") (List.mem_of_getElem? (i := 23) (by decide +kernel))) h1 hA, h2⟩
set_option maxRecDepth 20000 in
theorem st_lat {args : Array Value} {s : State} {A : Nat → Prop} (hts0 : ∀ w ∈ lw_tbl, w.before args s = true) (hs : ∀ w ∈ flatC (Jvm.Cond.and given_1 narrow_1), w.before args s = true) (hA : ∀ a : Nat, a < s.heap.size → ¬ A a) : ∃ t : Nat, va_Z "ScoreMachine" "FIRST_LATENCIES" "[I" (.ref t) A s s.heap ∧ va_T .int t 6 (fun j => .int (nI (ltN j))) A s s.heap := by
  obtain ⟨t, h1, h2⟩ := va_Tof (args := args) (s := s) (tm := (.static "ScoreMachine" "FIRST_LATENCIES" "[I")) (ty := .int) (N := 6) (f := fun j => .int (nI (ltN j))) (A := A) (by decide) (hs (.arrayOf (.static "ScoreMachine" "FIRST_LATENCIES" "[I") .int) (by decide +kernel)) (el_of (hs (.eq (.length (.static "ScoreMachine" "FIRST_LATENCIES" "[I")) (.int 6)) (by decide +kernel))) (fun j hj => by
    rcases (show j = 0 ∨ j = 1 ∨ j = 2 ∨ j = 3 ∨ j = 4 ∨ j = 5 by omega) with rfl | rfl | rfl | rfl | rfl | rfl
    · exact el_of (hs (.eq (.elem (.static "ScoreMachine" "FIRST_LATENCIES" "[I") (.int 0)) (.int (2))) (by decide +kernel))
    · exact el_of (hs (.eq (.elem (.static "ScoreMachine" "FIRST_LATENCIES" "[I") (.int 1)) (.int (1))) (by decide +kernel))
    · exact el_of (hs (.eq (.elem (.static "ScoreMachine" "FIRST_LATENCIES" "[I") (.int 2)) (.int (6))) (by decide +kernel))
    · exact el_of (hs (.eq (.elem (.static "ScoreMachine" "FIRST_LATENCIES" "[I") (.int 3)) (.int (12))) (by decide +kernel))
    · exact el_of (hs (.eq (.elem (.static "ScoreMachine" "FIRST_LATENCIES" "[I") (.int 4)) (.int (3))) (by decide +kernel))
    · exact el_of (hs (.eq (.elem (.static "ScoreMachine" "FIRST_LATENCIES" "[I") (.int 5)) (.int (1))) (by decide +kernel))) hA
  exact ⟨t, va_Zof (hts0 (.laysStatic "ScoreMachine" "FIRST_LATENCIES" "[I") (List.mem_of_getElem? (i := 57) (by decide +kernel))) (hts0 (.initialized "ScoreMachine") (List.mem_of_getElem? (i := 23) (by decide +kernel))) h1 hA, h2⟩
theorem st_str {args : Array Value} {s : State} {k : Nat} {tx : String} {cur : ClassId} (hcur : s.vm.findClass RX3 = some cur) (h : (Cond.stringRef RX3 k tx).before args s = true) : ∃ q, vk_R RX3 k tx q s := by
  obtain ⟨_, _, _, a, -, -, -, -, -, h6⟩ := Cond.stringRef_spec hcur h
  exact ⟨a, vk_R.of h h6⟩
set_option maxRecDepth 20000 in
theorem st_X {args : Array Value} {s : State} {A : Nat → Prop} {cur : ClassId} (hcur : s.vm.findClass RX3 = some cur) (hts0 : ∀ w ∈ lw_tbl, w.before args s = true) (hs : ∀ w ∈ flatC (Jvm.Cond.and given_1 narrow_1), w.before args s = true) (hA : ∀ a : Nat, a < s.heap.size → ¬ A a) : gX A s s.heap :=
  ⟨va_Nw.of rfl (hts0 (.declares (Bundle.initS vnRT)) (List.mem_of_getElem? (i := 402) (by decide +kernel))), va_Nw.of rfl (hts0 (.declares (Bundle.initS "java/lang/Exception")) (List.mem_of_getElem? (i := 404) (by decide +kernel))), va_Nw.of rfl (hts0 (.declares (Bundle.initS Bundle.tN)) (List.mem_of_getElem? (i := 406) (by decide +kernel))), va_Nw.of rfl (hts0 (.castable vnNS vnNS) (List.mem_of_getElem? (i := 400) (by decide +kernel))), vx_Zqof (hts0 (.laysStatic Bundle.tN "UNASSIGNED_STACK" Bundle.steD) (List.mem_of_getElem? (i := 425) (by decide +kernel))) (hts0 (.initialized Bundle.tN) (List.mem_of_getElem? (i := 31) (by decide +kernel))) (hs (.isRef (.static Bundle.tN "UNASSIGNED_STACK" Bundle.steD)) (by decide +kernel)) hA, vx_Zqof (hts0 (.laysStatic Bundle.tN "SUPPRESSED_SENTINEL" Bundle.listD) (List.mem_of_getElem? (i := 427) (by decide +kernel))) (hts0 (.initialized Bundle.tN) (List.mem_of_getElem? (i := 31) (by decide +kernel))) (hs (.isRef (.static Bundle.tN "SUPPRESSED_SENTINEL" Bundle.listD)) (by decide +kernel)) hA, st_str hcur (hts0 (.stringRef RX3 113 "no such register") (List.mem_of_getElem? (i := 437) (by decide +kernel))), st_str hcur (hts0 (.stringRef RX3 122 "no such memory") (List.mem_of_getElem? (i := 475) (by decide +kernel))), st_str hcur (hts0 (.stringRef RX3 127 "no such register or memory") (List.mem_of_getElem? (i := 487) (by decide +kernel)))⟩
set_option maxHeartbeats 4000000 in
set_option maxRecDepth 100000 in
/-- THE LAW, from its entry -/
theorem whole_start {p : Program} {e : Env} {s : State} {m : MethodId} {below : List Frame} {meth : Method} {c : Code} (l : Launch) (hl0 : l.stackTraces = false) {b L : Nat} {xs : Nat → Int32} (hL : L ≤ 3072) (C0 : lw_At p s m meth c b L xs) : W p l e room_1 s m #[Value.ref b] below meth c s.heap [] 0 0 (lw_Z below #[Value.ref b] s) (entryFrame m ([Value.ref b] : List Value).toArray 8) := by
  obtain ⟨hx, hb, hr, hml, hown, hts0, hX, hbl, hlocks, hgv⟩ := id C0
  have hts : ∀ w ∈ wsN_law, w.before #[Value.ref b] s = true := fun w h => hts0 w (wsN_law_in w h)
  have hown : s.vm.findClass RL = some m.cls := hown
  have hs := flat_of_before _ hgv
  have hA : ∀ q : Nat, s.heap.size ≤ q → (fun q : Nat => s.heap.size ≤ q) q := fun _ h => h
  have hAn : ∀ a : Nat, a < s.heap.size → ¬ (fun q : Nat => s.heap.size ≤ q) a := fun a h => Nat.not_le.mpr h
  have hbA : ¬ (fun q : Nat => s.heap.size ≤ q) b := Nat.not_le.mpr hbl
  obtain ⟨c0, iS0, hKn0⟩ := u_known (C := RX0) (T := TX0) (N := 18) (n := 18) hts inlX0 (hts (.instantiable RX0 18) (by decide +kernel))
  obtain ⟨c1, iS1, hKn1⟩ := u_known (C := RX1) (T := TX1) (N := 4) (n := 4) hts inlX1 (hts (.instantiable RX1 4) (by decide +kernel))
  obtain ⟨c2, iS2, hKn2⟩ := u_known (C := RX2) (T := TX2) (N := 9) (n := 9) hts inlX2 (hts (.instantiable RX2 9) (by decide +kernel))
  obtain ⟨c3, iS3, hKn3⟩ := u_known (C := RX3) (T := TX3) (N := 3) (n := 3) hts inlX3 (hts (.instantiable RX3 3) (by decide +kernel))
  obtain ⟨c4, iS4, hKn4⟩ := u_known (C := RX4) (T := TX4) (N := 27) (n := 27) hts inlX4 (hts (.instantiable RX4 27) (by decide +kernel))
  obtain ⟨cI, hI1, hI2⟩ := ac_of (hts (.arrayClass .int) (by decide +kernel))
  obtain ⟨cL, hL1, hL2⟩ := ac_of (hts (.arrayClass .long) (by decide +kernel))
  obtain ⟨cZ, hZ1, hZ2⟩ := ac_of (hts (.arrayClass .boolean) (by decide +kernel))
  obtain ⟨dC, dI, hKc⟩ : ∃ (dC : Nat → ClassId) (dI : Nat → Nat → Nat), ∀ (k : Nat) (q : vw_C), vwCl[k]? = some q → u_Kn s q.1 q.2.1 q.2.2 (dC k) (dI k) := by
    refine ⟨fun k => if k = 0 then c0 else if k = 1 then c1 else if k = 2 then c2 else if k = 3 then c3 else c4, fun k => if k = 0 then iS0 else if k = 1 then iS1 else if k = 2 then iS2 else if k = 3 then iS3 else iS4, ?_⟩
    intro k q hq
    match k, hq with
    | 0, hq => cases hq; exact hKn0
    | 1, hq => cases hq; exact hKn1
    | 2, hq => cases hq; exact hKn2
    | 3, hq => cases hq; exact hKn3
    | 4, hq => cases hq; exact hKn4
    | k + 5, hq => simp [vwCl] at hq
  have hK : va_K (dC, dI) vwCl (gT cI cL cZ) s := by
    refine ⟨hKc, ?_⟩
    intro k q hq
    match k, hq with
    | 0, hq => cases hq; exact ⟨hI1, hI2⟩
    | 1, hq => cases hq; exact ⟨hL1, hL2⟩
    | 2, hq => cases hq; exact ⟨hZ1, hZ2⟩
    | k + 3, hq => simp [gT] at hq
  have hZ : gZ (fun q : Nat => s.heap.size ≤ q) s s.heap := by
    obtain ⟨tk, z1, z2⟩ := st_kind hts0 hs hAn
    obtain ⟨tf, z3, z4⟩ := st_lat hts0 hs hAn
    exact ⟨st_nest hts0, tk, tf, z1, z2, z3, z4⟩
  have hG : gX (fun q : Nat => s.heap.size ≤ q) s s.heap := st_X hKn3.2.1 hts0 hs hAn
  have hS : va_S (fun q : Nat => s.heap.size ≤ q) s.heap s.heap [] := va_S.rf
  have hP : va_P (dC, dI) vwCl [] s.heap := fun k q h => by simp at h
  have hD : va_D (fun q : Nat => s.heap.size ≤ q) [] := ⟨fun i j p q h => by simp at h, fun k q h => by simp at h⟩
  have hl := lv_entry ([.ref b]) (n := 8) (Nat.le_of_ble_eq_true rfl)
  rw [lg_entry_eq]
  generalize (lg_sl ([.ref b]) ++ List.replicate (8 - (lg_sl ([.ref b])).length) Slot.unset).toArray = ls at hl ⊢
  have hl : lv_has ls 8 [(0, .ref b)] := hl
  refine va_new (ci := 3) (fs := [.null, .null, .null]) (C := RX3) (T := TX3) (N := 3) hx hb hts inlX3 tyX3 tyX3_ok hown (hts (.classLink RL 8 RX3) (by decide +kernel)) (hts (.instantiable RX3 3) (by decide +kernel)) (hts (.initialized RX3) (by decide +kernel)) hK hP hD hS hA rfl (fun j hj => by rcases (show j = 0 ∨ j = 1 ∨ j = 2 by omega) with rfl | rfl | rfl <;> rfl) (Nat.le_of_ble_eq_true rfl) (Nat.le_of_ble_eq_true rfl) dL_law_0 (fun q0 H hP hD hS => ?_)
  have hP : va_P (dC, dI) vwCl ([(q0, .inr (3, [.null, .null, .null]))]) H := hP
  have hD : va_D (fun q : Nat => s.heap.size ≤ q) ([(q0, .inr (3, [.null, .null, .null]))]) := hD
  refine W.widen (k := 1) (n := 3) (Nat.le_of_ble_eq_true rfl) (Nat.le_of_ble_eq_true rfl) ?_
  refine lv_dup hx hb dL_law_3 rfl ?_
  have hPc := hP.sub (ws' := [(q0, .inr (3, [.null, .null, .null]))]) [0] rfl
  have hDc := hD.sub (ws' := [(q0, .inr (3, [.null, .null, .null]))]) [0] (by decide) rfl
  have hsub := gL_sub (ws := [(q0, .inr (3, [.null, .null, .null]))]) (L := [q0]) rfl hDc hA hS.1
  refine va_callv (va_runI (As := []) (rest := [.ref q0]) ⟨hx, hb, hml, hown, hts⟩ (tA_init l dC dI q0 cI cL cZ H.size) (cwI 0 hts ngL_law_X3_init rfl rfl rfl (hts (.initialized RX3) (by decide +kernel)) (hts (.methodLink RL 22 yX3_init) (by decide +kernel)) (hts (.instanceMethod yX3_init) (by decide +kernel)) rfl (by decide +kernel) ⟨Nat.le_of_ble_eq_true rfl, Nat.le_of_ble_eq_true rfl⟩) ⟨gPre.blind, fun U hU hW => ⟨rfl, by rw [hU], by rw [hU]; exact hPc, va_K.moved hW.alike hK, hDc.weaken (fun _ _ _ _ => trivial), hZ.go hW (by rw [hU]; exact hS.2.1) hsub⟩⟩ rfl rfl hl.1 rfl (lv_room (Nat.le_of_ble_eq_true rfl)) dL_law_4 ⟨Nat.le_of_ble_eq_true rfl, Nat.le_of_ble_eq_true rfl⟩) hS (fun q _ h => hsub q h) hsub (fun u t H locs ht hvm hw hB hz1 hk1 hS => ?_)
  obtain ⟨hP1, hD1⟩ := hB
  rw [ht] at hP1
  obtain ⟨hPn, hDn⟩ := va_join (wc := [(q0, .inr (3, [.null, .null, .null]))]) (wr := []) (w1 := xW u cI cL cZ (sBN gzN) (sBJ gzJ)) hP hD [0] [] rfl rfl (by decide) (by decide) (fun q h1 h2 => hk1 q h1 (fun z => h2 (va_aA (L := [q0]) rfl z))) (fun q h => hsub q (aA_va (L := [q0]) rfl h)) hP1 (hD1.weaken (fun _ _ _ z => va_aA (L := [q0]) rfl z))
  clear hP hD hPc hDc hsub hP1 hD1 hk1 hz1 ht
  refine W.widen (k := 22) (n := 2180) (Nat.le_of_ble_eq_true rfl) (Nat.le_of_ble_eq_true rfl) ?_
  have hw : u 0 = q0 := hw
  subst hw
  have hP : va_P (dC, dI) vwCl (xW u cI cL cZ (sBN gzN) (sBJ gzJ)) H := hPn
  have hD : va_D (fun q : Nat => s.heap.size ≤ q) (xW u cI cL cZ (sBN gzN) (sBJ gzJ)) := hDn
  clear hPn hDn
  refine lv_astore_n (lv' := [(1, .ref (u 0)), (0, .ref b)]) hx hb dL_law_7 rfl hl (by decide) rfl (fun ls hl => ?_)
  refine va_new (ci := 4) (fs := [.null, .null, .null, .int (nI 0), .null, .null, .null, .null, .int (nI 0), .null, .null, .int (nI 0), .int (nI 0), .int (nI 0), .int (nI 0), .int (nI 0), .int (nI 0), .int (nI 0), .null, .null, .null, .null, .null, .null, .null, .null, .int (nI 0)]) (C := RX4) (T := TX4) (N := 27) hx hb hts inlX4 tyX4 tyX4_ok hown (hts (.classLink RL 23 RX4) (by decide +kernel)) (hts (.instantiable RX4 27) (by decide +kernel)) (hts (.initialized RX4) (by decide +kernel)) hK hP hD hS hA rfl (fun j hj => by rcases (show j = 0 ∨ j = 1 ∨ j = 2 ∨ j = 3 ∨ j = 4 ∨ j = 5 ∨ j = 6 ∨ j = 7 ∨ j = 8 ∨ j = 9 ∨ j = 10 ∨ j = 11 ∨ j = 12 ∨ j = 13 ∨ j = 14 ∨ j = 15 ∨ j = 16 ∨ j = 17 ∨ j = 18 ∨ j = 19 ∨ j = 20 ∨ j = 21 ∨ j = 22 ∨ j = 23 ∨ j = 24 ∨ j = 25 ∨ j = 26 by omega) with rfl | rfl | rfl | rfl | rfl | rfl | rfl | rfl | rfl | rfl | rfl | rfl | rfl | rfl | rfl | rfl | rfl | rfl | rfl | rfl | rfl | rfl | rfl | rfl | rfl | rfl | rfl <;> rfl) (Nat.le_of_ble_eq_true rfl) (Nat.le_of_ble_eq_true rfl) dL_law_8 (fun q8 H hP hD hS => ?_)
  have hP : va_P (dC, dI) vwCl (xW u cI cL cZ (sBN gzN) (sBJ gzJ) ++ [(q8, .inr (4, [.null, .null, .null, .int (nI 0), .null, .null, .null, .null, .int (nI 0), .null, .null, .int (nI 0), .int (nI 0), .int (nI 0), .int (nI 0), .int (nI 0), .int (nI 0), .int (nI 0), .null, .null, .null, .null, .null, .null, .null, .null, .int (nI 0)]))]) H := hP
  have hD : va_D (fun q : Nat => s.heap.size ≤ q) (xW u cI cL cZ (sBN gzN) (sBJ gzJ) ++ [(q8, .inr (4, [.null, .null, .null, .int (nI 0), .null, .null, .null, .null, .int (nI 0), .null, .null, .int (nI 0), .int (nI 0), .int (nI 0), .int (nI 0), .int (nI 0), .int (nI 0), .int (nI 0), .null, .null, .null, .null, .null, .null, .null, .null, .int (nI 0)]))]) := hD
  refine W.widen (k := 23) (n := 2207) (Nat.le_of_ble_eq_true rfl) (Nat.le_of_ble_eq_true rfl) ?_
  refine lv_dup hx hb dL_law_11 rfl ?_
  have hPc := hP.sub (ws' := [(q8, .inr (4, [.null, .null, .null, .int (nI 0), .null, .null, .null, .null, .int (nI 0), .null, .null, .int (nI 0), .int (nI 0), .int (nI 0), .int (nI 0), .int (nI 0), .int (nI 0), .int (nI 0), .null, .null, .null, .null, .null, .null, .null, .null, .int (nI 0)]))]) [22] rfl
  have hDc := hD.sub (ws' := [(q8, .inr (4, [.null, .null, .null, .int (nI 0), .null, .null, .null, .null, .int (nI 0), .null, .null, .int (nI 0), .int (nI 0), .int (nI 0), .int (nI 0), .int (nI 0), .int (nI 0), .int (nI 0), .null, .null, .null, .null, .null, .null, .null, .null, .int (nI 0)]))]) [22] (by decide) rfl
  have hsub := gL_sub (ws := [(q8, .inr (4, [.null, .null, .null, .int (nI 0), .null, .null, .null, .null, .int (nI 0), .null, .null, .int (nI 0), .int (nI 0), .int (nI 0), .int (nI 0), .int (nI 0), .int (nI 0), .int (nI 0), .null, .null, .null, .null, .null, .null, .null, .null, .int (nI 0)]))]) (L := [q8]) rfl hDc hA hS.1
  refine va_callv (va_runI (As := []) (rest := [.ref q8]) ⟨hx, hb, hml, hown, hts⟩ (tM_init l dC dI q8 cI cL cZ H.size) (cwI 0 hts ngL_law_X4_init rfl rfl rfl (hts (.initialized RX4) (by decide +kernel)) (hts (.methodLink RL 25 yX4_init) (by decide +kernel)) (hts (.instanceMethod yX4_init) (by decide +kernel)) rfl (by decide +kernel) ⟨Nat.le_of_ble_eq_true rfl, Nat.le_of_ble_eq_true rfl⟩) ⟨gPre.blind, fun U hU hW => ⟨rfl, by rw [hU], by rw [hU]; exact hPc, va_K.moved hW.alike hK, hDc.weaken (fun _ _ _ _ => trivial), hZ.go hW (by rw [hU]; exact hS.2.1) hsub⟩⟩ rfl rfl hl.1 rfl (lv_room (Nat.le_of_ble_eq_true rfl)) dL_law_12 ⟨Nat.le_of_ble_eq_true rfl, Nat.le_of_ble_eq_true rfl⟩) hS (fun q _ h => hsub q h) hsub (fun v t H locs ht hvm hw hB hz1 hk1 hS => ?_)
  obtain ⟨hP1, hD1⟩ := hB
  rw [ht] at hP1
  obtain ⟨hPn, hDn⟩ := va_join (wc := [(q8, .inr (4, [.null, .null, .null, .int (nI 0), .null, .null, .null, .null, .int (nI 0), .null, .null, .int (nI 0), .int (nI 0), .int (nI 0), .int (nI 0), .int (nI 0), .int (nI 0), .int (nI 0), .null, .null, .null, .null, .null, .null, .null, .null, .int (nI 0)]))]) (wr := xW u cI cL cZ (sBN gzN) (sBJ gzJ)) (w1 := mW v cI cL cZ (mClear (gzN, gzJ)).1 (mClear (gzN, gzJ)).2) hP hD [22] [0, 1, 2, 3, 4, 5, 6, 7, 8, 9, 10, 11, 12, 13, 14, 15, 16, 17, 18, 19, 20, 21] rfl rfl (by decide) (by decide) (fun q h1 h2 => hk1 q h1 (fun z => h2 (va_aA (L := [q8]) rfl z))) (fun q h => hsub q (aA_va (L := [q8]) rfl h)) hP1 (hD1.weaken (fun _ _ _ z => va_aA (L := [q8]) rfl z))
  clear hP hD hPc hDc hsub hP1 hD1 hk1 hz1 ht
  refine W.widen (k := 40) (n := 4656) (Nat.le_of_ble_eq_true rfl) (Nat.le_of_ble_eq_true rfl) ?_
  have hw : v 0 = q8 := hw
  subst hw
  have hP : va_P (dC, dI) vwCl (xW u cI cL cZ (sBN gzN) (sBJ gzJ) ++ mW v cI cL cZ (mClear (gzN, gzJ)).1 (mClear (gzN, gzJ)).2) H := hPn
  have hD : va_D (fun q : Nat => s.heap.size ≤ q) (xW u cI cL cZ (sBN gzN) (sBJ gzJ) ++ mW v cI cL cZ (mClear (gzN, gzJ)).1 (mClear (gzN, gzJ)).2) := hDn
  clear hPn hDn
  refine lv_astore_n (lv' := [(2, .ref (v 0)), (1, .ref (u 0)), (0, .ref b)]) hx hb dL_law_15 rfl hl (by decide) rfl (fun ls hl => ?_)
  refine lv_iconst (v := nI 1) hx hb dL_law_16 (by decide) ?_
  refine va_newa (atype := .long) (ty := .long) (N' := 1) (a0 := (1, .inr (.inl (fun _ => 0)))) hx hb (hts (.arrayClass .long) (by decide +kernel)) rfl hK hP hD hS hA (nw_long 1) (by decide +kernel) (nI_clamp (by decide)) (Nat.le_of_ble_eq_true rfl) (Nat.le_of_ble_eq_true rfl) (Nat.le_of_ble_eq_true rfl) dL_law_17 (fun q17 cA H hKn hP hD hS => ?_)
  have eA : cA = cL := Option.some.inj ((va_nm_long (hKn.2 3 _ rfl).2).symm.trans (va_nm_long (hKn.2 1 _ rfl).2))
  rw [eA] at hP hD
  clear hKn eA
  have hP : va_P (dC, dI) vwCl (lW u v q17 cI cL cZ (sBN gzN, sBJ gzJ) (mClear (gzN, gzJ)) (fun _ => 0)) H := hP.sub [0, 1, 2, 3, 4, 5, 6, 7, 8, 9, 10, 11, 12, 13, 14, 15, 16, 17, 18, 19, 20, 21, 22, 23, 24, 25, 26, 27, 28, 29, 30, 31, 32, 33, 34, 35, 36, 37, 38, 39, 40] rfl
  have hD : va_D (fun q : Nat => s.heap.size ≤ q) (lW u v q17 cI cL cZ (sBN gzN, sBJ gzJ) (mClear (gzN, gzJ)) (fun _ => 0)) := hD.sub [0, 1, 2, 3, 4, 5, 6, 7, 8, 9, 10, 11, 12, 13, 14, 15, 16, 17, 18, 19, 20, 21, 22, 23, 24, 25, 26, 27, 28, 29, 30, 31, 32, 33, 34, 35, 36, 37, 38, 39, 40] (by decide) rfl
  refine lv_astore_n (lv' := [(3, .ref q17), (2, .ref (v 0)), (1, .ref (u 0)), (0, .ref b)]) hx hb dL_law_19 rfl hl (by decide) rfl (fun ls hl => ?_)
  refine lv_iconst (v := nI 0) hx hb dL_law_20 (by decide) ?_
  refine lv_istore (lv' := [(4, .int (nI 0)), (3, .ref q17), (2, .ref (v 0)), (1, .ref (u 0)), (0, .ref b)]) hx hb dL_law_21 hl (by decide) rfl (fun ls hl => ?_)
  exact law_loop hl0 C0 hbA hK hZ hG hL (L + 1) 0 _ _ _ _ _ _ (by omega) (by omega) rObs_born (Nat.le_of_eq (show (sBN gzN) 22 0 = 0 from sB_z (by decide) 0)) hP hD hS (lv_sub hl [0, 4, 3, 2, 1] rfl)
