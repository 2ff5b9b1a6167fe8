/-! the constructor of ScoreMachine -/
theorem flN_e {N : Nat → Nat → Nat} {f n v : Nat} (h : ∀ j, j < n → N f j = v) : flN N f n v = N := by
  funext k
  unfold flN
  by_cases hg : k = f
  · rw [if_pos hg]
    funext j
    by_cases hj : j < n
    · rw [if_pos hj, hg, h j hj]
    · rw [if_neg hj]
  · rw [if_neg hg]
theorem flJ_e {N : Nat → Nat → Int64} {f n : Nat} {v : Int64} (h : ∀ j, j < n → N f j = v) : flJ N f n v = N := by
  funext k
  unfold flJ
  by_cases hg : k = f
  · rw [if_pos hg]
    funext j
    by_cases hj : j < n
    · rw [if_pos hj, hg, h j hj]
    · rw [if_neg hj]
  · rw [if_neg hg]
theorem uN_e {N : Nat → Nat → Nat} {f i v : Nat} (h : N f i = v) : uN N f i v = N := by
  funext g
  unfold uN
  by_cases hg : g = f
  · rw [if_pos hg]
    funext j
    by_cases hj : j = i
    · rw [if_pos hj, hg, hj, h]
    · rw [if_neg hj]
  · rw [if_neg hg]
theorem uJ_e {N : Nat → Nat → Int64} {f i : Nat} {v : Int64} (h : N f i = v) : uJ N f i v = N := by
  funext g
  unfold uJ
  by_cases hg : g = f
  · rw [if_pos hg]
    funext j
    by_cases hj : j = i
    · rw [if_pos hj, hg, hj, h]
    · rw [if_neg hj]
  · rw [if_neg hg]
theorem cqJ_e {N : Nat → Nat → Int64} {f g n : Nat} (h : ∀ j, j < n → N f j = N g j) : cqJ N f g n = N := by
  funext k
  unfold cqJ
  by_cases hg : k = g
  · rw [if_pos hg]
    funext j
    by_cases hj : j < n
    · rw [if_pos hj, hg, h j hj]
    · rw [if_neg hj]
  · rw [if_neg hg]
theorem sB_z {f : Nat} (h : 9 ≤ f) (j : Nat) : sBN gzN f j = 0 := by
  unfold sBN
  rw [uN_o (by omega)]
  unfold ltF
  rw [if_neg (by omega)]
  unfold flN
  rw [if_neg (by omega), if_neg (by omega), if_neg (by omega), if_neg (by omega), if_neg (by omega)]
  rfl
theorem sBJ_z (f j : Nat) : sBJ gzJ f j = 0 := by
  have z : flJ gzJ 6 16 0 = gzJ := flJ_e (fun _ _ => rfl)
  have z2 : flJ gzJ 7 256 0 = gzJ := flJ_e (fun _ _ => rfl)
  unfold sBJ
  rw [z, z2]
  rfl
theorem xCl_z : xClN gzN = sBN gzN := by
  unfold xClN xBN xB2 xB1
  have z := fun f (h : 9 ≤ f) j => sB_z h j
  generalize sBN gzN = N at z ⊢
  rw [uN_e (z 13 (by decide) 0), uN_e (z 22 (by decide) 0), uN_e (z 23 (by decide) 0), uN_e (z 24 (by decide) 0), flN_e (fun j _ => z 25 (by decide) j), flN_e (fun j _ => z 26 (by decide) j), flN_e (fun j _ => z 27 (by decide) j), flN_e (fun j _ => z 29 (by decide) j), uN_e (z 30 (by decide) 0), uN_e (z 31 (by decide) 0), uN_e (z 33 (by decide) 0), uN_e (z 34 (by decide) 0), flN_e (fun j _ => z 36 (by decide) j), flN_e (fun j _ => z 37 (by decide) j)]
theorem xClJ_z : xClJ gzJ = sBJ gzJ := by
  unfold xClJ xBJ
  have z := sBJ_z
  generalize sBJ gzJ = J at z ⊢
  rw [cqJ_e (f := 6) (fun j _ => by rw [z, z]), cqJ_e (f := 7) (fun j _ => by rw [z, z]), flJ_e (fun j _ => z 28 j), uJ_e (z 32 0)]
theorem rObs_born : rObs (sBN gzN, sBJ gzJ) (mClear (gzN, gzJ)) := by
  have h := rObs_clear (x := (gzN, gzJ)) (m := (gzN, gzJ)) (fun k _ => Or.inr (show (0 : Nat) < 272 by decide))
  rw [show ((gzN, gzJ) : gSt).1 = gzN from rfl, show ((gzN, gzJ) : gSt).2 = gzJ from rfl, xCl_z, xClJ_z] at h
  exact h
theorem pW_eq (v : Nat → Nat) (cI cL cZ : ClassId) : pW v cI cL cZ = [(v 2, .inr (1, [.ref (v 1), .ref (v 12), .ref (v 13), .int (nI (sBN gzN 13 0))])), (v 12, .inl (cL, 16, .inr (.inl (fun j => sBJ gzJ 11 j)))), (v 13, .inl (cL, 256, .inr (.inl (fun j => sBJ gzJ 12 j))))] := by
  unfold pW
  simp only [sB_z (show 9 ≤ 13 by decide), sBJ_z]
theorem bW_eq (v : Nat → Nat) (cI cL cZ : ClassId) : bW v cI cL cZ = [(v 3, .inr (0, [.ref (v 1), .ref (v 2), .int (nI (sBN gzN 22 0)), .int (nI (sBN gzN 23 0)), .int (nI (sBN gzN 24 0)), .ref (v 14), .ref (v 15), .ref (v 16), .ref (v 17), .ref (v 18), .int (nI (sBN gzN 30 0)), .int (nI (sBN gzN 31 0)), .long (sBJ gzJ 32 0), .int (nI (sBN gzN 33 0)), .int (nI (sBN gzN 34 0)), .ref (v 19), .ref (v 20), .ref (v 21)])),
  (v 14, .inl (cI, 4, .inl (fun j => nI (sBN gzN 25 j)))), (v 15, .inl (cI, 16, .inl (fun j => nI (sBN gzN 26 j)))), (v 16, .inl (cI, 16, .inl (fun j => nI (sBN gzN 27 j)))), (v 17, .inl (cL, 16, .inr (.inl (fun j => sBJ gzJ 28 j)))), (v 18, .inl (cI, 16, .inl (fun j => nI (sBN gzN 29 j)))), (v 19, .inl (cI, 6, .inl (fun j => nI (sBN gzN 35 j)))), (v 20, .inl (cI, 108, .inl (fun j => nI (sBN gzN 36 j)))), (v 21, .inl (cI, 384, .inl (fun j => nI (sBN gzN 37 j))))] := by
  unfold bW
  simp only [sB_z (show 9 ≤ 22 by decide), sB_z (show 9 ≤ 23 by decide), sB_z (show 9 ≤ 24 by decide), sB_z (show 9 ≤ 25 by decide), sB_z (show 9 ≤ 26 by decide), sB_z (show 9 ≤ 27 by decide), sB_z (show 9 ≤ 29 by decide), sB_z (show 9 ≤ 30 by decide), sB_z (show 9 ≤ 31 by decide), sB_z (show 9 ≤ 33 by decide), sB_z (show 9 ≤ 34 by decide), sB_z (show 9 ≤ 35 by decide), sB_z (show 9 ≤ 36 by decide), sB_z (show 9 ≤ 37 by decide), sBJ_z]
set_option maxHeartbeats 4000000 in
set_option maxRecDepth 100000 in
theorem tA_init (l : Launch) (dC : Nat → ClassId) (dI : Nat → Nat → Nat) (h0 : Nat) (cI cL cZ : ClassId) : MetN l yX3_init wsX3_init ({ frames := 3, cells := 21, slots := 2177, locals := 80 } : Room) dC dI (gT cI cL cZ) [(h0, .inr (3, [.null, .null, .null]))] [h0] (fun a => xW a cI cL cZ (sBN gzN) (sBJ gzJ)) [.ref h0] (fun a => a 0 = h0) 21 2177 := by
  intro sz
  refine gi_entry (bytes := cX3_init) (maxL := 1) (ret := none) (Qc := fun sz => va_Qv (fun a : Nat → Nat => a 0 = h0) (fun a t => va_P (dC, dI) vwCl (xW a cI cL cZ (sBN gzN) (sBJ gzJ)) t.heap ∧ va_D (aA [h0] sz) (xW a cI cL cZ (sBN gzN) (sBJ gzJ))) (aA [h0] sz)) (by decide) rfl (Nat.le_of_ble_eq_true rfl) rfl ?_
  intro p e s m below meth c ls hx hb hr hml hts hown hlocks hnm hK hP hD hS hZ hl
  have hown : s.vm.findClass RX3 = some m.cls := hown
  have hnm : meth.name = "<init>" := hnm
  have hA : ∀ q, s.heap.size ≤ q → aA [h0] s.heap.size q := fun q h => Or.inr h
  have hl : lv_has ls 1 [(0, .ref h0)] := hl
  have hi3 : ∀ w ∈ wsX30, w ∈ wsX3_init := by decide +kernel
  have hi2 : ∀ w ∈ wsX20, w ∈ wsX3_init := by decide +kernel
  have hi1 : ∀ w ∈ wsX10, w ∈ wsX3_init := by decide +kernel
  have hi0 : ∀ w ∈ wsX00, w ∈ wsX3_init := by decide +kernel
  have k10 := hts (.fieldLink RX3 10 "ScoreMachine" "setup" "LScoreMachine$Setup;") (by decide +kernel)
  have k21 := hts (.fieldLink RX3 21 "ScoreMachine" "plainMachine" "LScoreMachine$PlainMachine;") (by decide +kernel)
  have k30 := hts (.fieldLink RX3 30 "ScoreMachine" "board" "LScoreMachine$Board;") (by decide +kernel)
  refine lv_aload_n hx hb dX3_init_0 rfl (lv_at hl 0 rfl) ?_
  refine W.objInit hx hb hown (hts (.methodLink RX3 1 objectInit) (by decide +kernel)) (hts (.instanceMethod objectInit) (by decide +kernel)) (hts (.code objectInit ⟨#[0xb1]⟩ 1 none) (by decide +kernel)) rfl (by rw [hml]; exact hl.1) rfl dX3_init_1 (Nat.le_of_ble_eq_true rfl) (Nat.le_of_ble_eq_true rfl) ?_
  refine W.eq (g2 := F0 m 4 ls []) rfl ?_
  refine lv_aload_n hx hb dX3_init_4 rfl (lv_at hl 0 rfl) ?_
  refine va_new (ci := 2) (fs := [.null, .null, .null, .null, .null, .null, .null, .null, .int (nI 0)]) (C := RX2) (T := TX2) (N := 9) hx hb hts hi2 tyX2 tyX2_ok hown (hts (.classLink RX3 7 RX2) (by decide +kernel)) (hts (.instantiable RX2 9) (by decide +kernel)) (hts (.initialized RX2) (by decide +kernel)) hK hP hD hS hA rfl (fun j hj => by rcases (show j = 0 ∨ j = 1 ∨ j = 2 ∨ j = 3 ∨ j = 4 ∨ j = 5 ∨ j = 6 ∨ j = 7 ∨ j = 8 by omega) with rfl | rfl | rfl | rfl | rfl | rfl | rfl | rfl | rfl <;> rfl) (Nat.le_of_ble_eq_true rfl) (Nat.le_of_ble_eq_true rfl) dX3_init_5 (fun q5 H hP hD hS => ?_)
  have hP : va_P (dC, dI) vwCl ([(h0, .inr (3, [.null, .null, .null]))] ++ [(q5, .inr (2, [.null, .null, .null, .null, .null, .null, .null, .null, .int (nI 0)]))]) H := hP
  have hD : va_D (aA [h0] s.heap.size) ([(h0, .inr (3, [.null, .null, .null]))] ++ [(q5, .inr (2, [.null, .null, .null, .null, .null, .null, .null, .null, .int (nI 0)]))]) := hD
  refine W.widen (k := 1) (n := 9) (Nat.le_of_ble_eq_true rfl) (Nat.le_of_ble_eq_true rfl) ?_
  refine lv_dup hx hb dX3_init_8 rfl ?_
  have hPc := hP.sub (ws' := [(q5, .inr (2, [.null, .null, .null, .null, .null, .null, .null, .null, .int (nI 0)]))]) [1] rfl
  have hDc := hD.sub (ws' := [(q5, .inr (2, [.null, .null, .null, .null, .null, .null, .null, .null, .int (nI 0)]))]) [1] (by decide) rfl
  have hsub := gL_sub (ws := [(q5, .inr (2, [.null, .null, .null, .null, .null, .null, .null, .null, .int (nI 0)]))]) (L := [q5]) rfl hDc hA hS.1
  refine va_callv (va_runI (As := []) (rest := [.ref q5, .ref h0]) ⟨hx, hb, hml, hown, hts⟩ (tS_init l dC dI q5  cI cL cZ H.size) (cwI 0 hts gX3_init_X2_init rfl rfl rfl (hts (.initialized RX2) (by decide +kernel)) (hts (.methodLink RX3 9 yX2_init) (by decide +kernel)) (hts (.instanceMethod yX2_init) (by decide +kernel)) rfl (by decide +kernel) ⟨Nat.le_of_ble_eq_true rfl, Nat.le_of_ble_eq_true rfl⟩) ⟨gPre.blind, fun U hU hW => ⟨rfl, by rw [hU], by rw [hU]; exact hPc, va_K.moved hW.alike hK, hDc.weaken (fun _ _ _ _ => trivial), hZ.go hW (by rw [hU]; exact hS.2.1) hsub⟩⟩ rfl rfl hl.1 rfl (lv_room (Nat.le_of_ble_eq_true rfl)) dX3_init_9 ⟨Nat.le_of_ble_eq_true rfl, Nat.le_of_ble_eq_true rfl⟩) hS (fun q _ h => hsub q h) hsub (fun u t H locs ht hvm hw hB hz1 hk1 hS => ?_)
  obtain ⟨hP1, hD1⟩ := hB
  rw [ht] at hP1
  obtain ⟨hPn, hDn⟩ := va_join (wc := [(q5, .inr (2, [.null, .null, .null, .null, .null, .null, .null, .null, .int (nI 0)]))]) (wr := [(h0, .inr (3, [.null, .null, .null]))]) (w1 := sW u cI cL cZ (sBN gzN) (sBJ gzJ)) hP hD [1] [0] rfl rfl (by decide) (by decide) (fun q h1 h2 => hk1 q h1 (fun z => h2 (va_aA (L := [q5]) rfl z))) (fun q h => hsub q (aA_va (L := [q5]) rfl h)) hP1 (hD1.weaken (fun _ _ _ z => va_aA (L := [q5]) rfl z))
  clear hP hD hPc hDc hsub hP1 hD1 hk1 hz1 ht
  refine W.widen (k := 9) (n := 1317) (Nat.le_of_ble_eq_true rfl) (Nat.le_of_ble_eq_true rfl) ?_
  have hw : u 1 = q5 := hw
  subst hw
  have hP := hPn
  have hD := hDn
  clear hPn hDn
  refine va_putF (D := (dC, dI)) (ci := 3) (v := .ref (u 1)) (ty := .object "ScoreMachine$Setup") (C := RX3) (T := TX3) (N := 3) hx hb hts hi3 tyX3 tyX3_ok nmX3 hown hK hP hD hS 0 rfl rfl 0 (by decide) k10 (fun _ h9 => h9) rfl hnm rfl (by decide +kernel) rfl rfl (Nat.le_of_ble_eq_true rfl) dX3_init_12 (fun H locs hP hD hS => ?_)
  have hP : va_P (dC, dI) vwCl ([(h0, .inr (3, [.ref (u 1), .null, .null]))] ++ sW u cI cL cZ (sBN gzN) (sBJ gzJ)) H := hP
  have hD : va_D (aA [h0] s.heap.size) ([(h0, .inr (3, [.ref (u 1), .null, .null]))] ++ sW u cI cL cZ (sBN gzN) (sBJ gzJ)) := hD
  refine lv_aload_n hx hb dX3_init_15 rfl (lv_at hl 0 rfl) ?_
  refine va_new (ci := 1) (fs := [.null, .null, .null, .int (nI 0)]) (C := RX1) (T := TX1) (N := 4) hx hb hts hi1 tyX1 tyX1_ok hown (hts (.classLink RX3 16 RX1) (by decide +kernel)) (hts (.instantiable RX1 4) (by decide +kernel)) (hts (.initialized RX1) (by decide +kernel)) hK hP hD hS hA rfl (fun j hj => by rcases (show j = 0 ∨ j = 1 ∨ j = 2 ∨ j = 3 by omega) with rfl | rfl | rfl | rfl <;> rfl) (Nat.le_of_ble_eq_true rfl) (Nat.le_of_ble_eq_true rfl) dX3_init_16 (fun q16 H hP hD hS => ?_)
  have hP : va_P (dC, dI) vwCl (([(h0, .inr (3, [.ref (u 1), .null, .null]))] ++ sW u cI cL cZ (sBN gzN) (sBJ gzJ)) ++ [(q16, .inr (1, [.null, .null, .null, .int (nI 0)]))]) H := hP
  have hD : va_D (aA [h0] s.heap.size) (([(h0, .inr (3, [.ref (u 1), .null, .null]))] ++ sW u cI cL cZ (sBN gzN) (sBJ gzJ)) ++ [(q16, .inr (1, [.null, .null, .null, .int (nI 0)]))]) := hD
  refine W.widen (k := 10) (n := 1321) (Nat.le_of_ble_eq_true rfl) (Nat.le_of_ble_eq_true rfl) ?_
  refine lv_dup hx hb dX3_init_19 rfl ?_
  refine lv_aload_n hx hb dX3_init_20 rfl (lv_at hl 0 rfl) ?_
  refine va_get (D := (dC, dI)) (ci := 3) (C := RX3) (T := TX3) (N := 3) (v := .ref (u 1)) hx hb hts hi3 hown hK hP 0 rfl rfl 0 (by decide) k10 (fun _ h9 => h9) rfl dX3_init_21 ?_
  have hPc := hP.sub (ws' := [(q16, .inr (1, [.null, .null, .null, .int (nI 0)]))]) [10] rfl
  have hDc := hD.sub (ws' := [(q16, .inr (1, [.null, .null, .null, .int (nI 0)]))]) [10] (by decide) rfl
  have hsub := gL_sub (ws := [(q16, .inr (1, [.null, .null, .null, .int (nI 0)]))]) (L := [q16]) rfl hDc hA hS.1
  refine va_callv (va_runI (As := [.ref (u 1)]) (rest := [.ref q16, .ref h0]) ⟨hx, hb, hml, hown, hts⟩ (tP_init l dC dI q16 (u 1) cI cL cZ H.size) (cwI 1 hts gX3_init_X1_init rfl rfl rfl (hts (.initialized RX1) (by decide +kernel)) (hts (.methodLink RX3 18 yX1_init) (by decide +kernel)) (hts (.instanceMethod yX1_init) (by decide +kernel)) rfl (by decide +kernel) ⟨Nat.le_of_ble_eq_true rfl, Nat.le_of_ble_eq_true rfl⟩) ⟨gPre.blind, fun U hU hW => ⟨rfl, by rw [hU], by rw [hU]; exact hPc, va_K.moved hW.alike hK, hDc.weaken (fun _ _ _ _ => trivial), hZ.go hW (by rw [hU]; exact hS.2.1) hsub⟩⟩ rfl rfl hl.1 rfl (lv_room (Nat.le_of_ble_eq_true rfl)) dX3_init_24 ⟨Nat.le_of_ble_eq_true rfl, Nat.le_of_ble_eq_true rfl⟩) hS (fun q _ h => hsub q h) hsub (fun v t H locs ht hvm hw hB hz1 hk1 hS => ?_)
  obtain ⟨hP1, hD1⟩ := hB
  rw [ht] at hP1
  obtain ⟨hPn, hDn⟩ := va_join (wc := [(q16, .inr (1, [.null, .null, .null, .int (nI 0)]))]) (wr := ([(h0, .inr (3, [.ref (u 1), .null, .null]))] ++ sW u cI cL cZ (sBN gzN) (sBJ gzJ))) (w1 := pW v cI cL cZ) hP hD [10] [0, 1, 2, 3, 4, 5, 6, 7, 8, 9] rfl rfl (by decide) (by decide) (fun q h1 h2 => hk1 q h1 (fun z => h2 (va_aA (L := [q16]) rfl z))) (fun q h => hsub q (aA_va (L := [q16]) rfl h)) hP1 (hD1.weaken (fun _ _ _ z => va_aA (L := [q16]) rfl z))
  clear hP hD hPc hDc hsub hP1 hD1 hk1 hz1 ht
  refine W.widen (k := 12) (n := 1593) (Nat.le_of_ble_eq_true rfl) (Nat.le_of_ble_eq_true rfl) ?_
  have hw : v 1 = u 1 ∧ v 2 = q16 := hw
  obtain ⟨hv1, hw⟩ := hw
  subst hw
  have hP := hPn
  have hD := hDn
  clear hPn hDn
  refine va_putF (D := (dC, dI)) (ci := 3) (v := .ref (v 2)) (ty := .object "ScoreMachine$PlainMachine") (C := RX3) (T := TX3) (N := 3) hx hb hts hi3 tyX3 tyX3_ok nmX3 hown hK hP hD hS 0 rfl rfl 1 (by decide) k21 (fun _ h9 => h9) rfl hnm rfl (by decide +kernel) rfl rfl (Nat.le_of_ble_eq_true rfl) dX3_init_27 (fun H locs hP hD hS => ?_)
  have hP : va_P (dC, dI) vwCl ([(h0, .inr (3, [.ref (u 1), .ref (v 2), .null]))] ++ sW u cI cL cZ (sBN gzN) (sBJ gzJ) ++ pW v cI cL cZ) H := hP
  have hD : va_D (aA [h0] s.heap.size) ([(h0, .inr (3, [.ref (u 1), .ref (v 2), .null]))] ++ sW u cI cL cZ (sBN gzN) (sBJ gzJ) ++ pW v cI cL cZ) := hD
  refine lv_aload_n hx hb dX3_init_30 rfl (lv_at hl 0 rfl) ?_
  refine va_new (ci := 0) (fs := [.null, .null, .int (nI 0), .int (nI 0), .int (nI 0), .null, .null, .null, .null, .null, .int (nI 0), .int (nI 0), .long 0, .int (nI 0), .int (nI 0), .null, .null, .null]) (C := RX0) (T := TX0) (N := 18) hx hb hts hi0 tyX0 tyX0_ok hown (hts (.classLink RX3 25 RX0) (by decide +kernel)) (hts (.instantiable RX0 18) (by decide +kernel)) (hts (.initialized RX0) (by decide +kernel)) hK hP hD hS hA rfl (fun j hj => by rcases (show j = 0 ∨ j = 1 ∨ j = 2 ∨ j = 3 ∨ j = 4 ∨ j = 5 ∨ j = 6 ∨ j = 7 ∨ j = 8 ∨ j = 9 ∨ j = 10 ∨ j = 11 ∨ j = 12 ∨ j = 13 ∨ j = 14 ∨ j = 15 ∨ j = 16 ∨ j = 17 by omega) with rfl | rfl | rfl | rfl | rfl | rfl | rfl | rfl | rfl | rfl | rfl | rfl | rfl | rfl | rfl | rfl | rfl | rfl <;> rfl) (Nat.le_of_ble_eq_true rfl) (Nat.le_of_ble_eq_true rfl) dX3_init_31 (fun q31 H hP hD hS => ?_)
  have hP : va_P (dC, dI) vwCl (([(h0, .inr (3, [.ref (u 1), .ref (v 2), .null]))] ++ sW u cI cL cZ (sBN gzN) (sBJ gzJ) ++ pW v cI cL cZ) ++ [(q31, .inr (0, [.null, .null, .int (nI 0), .int (nI 0), .int (nI 0), .null, .null, .null, .null, .null, .int (nI 0), .int (nI 0), .long 0, .int (nI 0), .int (nI 0), .null, .null, .null]))]) H := hP
  have hD : va_D (aA [h0] s.heap.size) (([(h0, .inr (3, [.ref (u 1), .ref (v 2), .null]))] ++ sW u cI cL cZ (sBN gzN) (sBJ gzJ) ++ pW v cI cL cZ) ++ [(q31, .inr (0, [.null, .null, .int (nI 0), .int (nI 0), .int (nI 0), .null, .null, .null, .null, .null, .int (nI 0), .int (nI 0), .long 0, .int (nI 0), .int (nI 0), .null, .null, .null]))]) := hD
  refine W.widen (k := 13) (n := 1611) (Nat.le_of_ble_eq_true rfl) (Nat.le_of_ble_eq_true rfl) ?_
  refine lv_dup hx hb dX3_init_34 rfl ?_
  refine lv_aload_n hx hb dX3_init_35 rfl (lv_at hl 0 rfl) ?_
  refine va_get (D := (dC, dI)) (ci := 3) (C := RX3) (T := TX3) (N := 3) (v := .ref (u 1)) hx hb hts hi3 hown hK hP 0 rfl rfl 0 (by decide) k10 (fun _ h9 => h9) rfl dX3_init_36 ?_
  refine lv_aload_n hx hb dX3_init_39 rfl (lv_at hl 0 rfl) ?_
  refine va_get (D := (dC, dI)) (ci := 3) (C := RX3) (T := TX3) (N := 3) (v := .ref (v 2)) hx hb hts hi3 hown hK hP 0 rfl rfl 1 (by decide) k21 (fun _ h9 => h9) rfl dX3_init_40 ?_
  have hPc := hP.sub (ws' := [(q31, .inr (0, [.null, .null, .int (nI 0), .int (nI 0), .int (nI 0), .null, .null, .null, .null, .null, .int (nI 0), .int (nI 0), .long 0, .int (nI 0), .int (nI 0), .null, .null, .null]))]) [13] rfl
  have hDc := hD.sub (ws' := [(q31, .inr (0, [.null, .null, .int (nI 0), .int (nI 0), .int (nI 0), .null, .null, .null, .null, .null, .int (nI 0), .int (nI 0), .long 0, .int (nI 0), .int (nI 0), .null, .null, .null]))]) [13] (by decide) rfl
  have hsub := gL_sub (ws := [(q31, .inr (0, [.null, .null, .int (nI 0), .int (nI 0), .int (nI 0), .null, .null, .null, .null, .null, .int (nI 0), .int (nI 0), .long 0, .int (nI 0), .int (nI 0), .null, .null, .null]))]) (L := [q31]) rfl hDc hA hS.1
  refine va_callv (va_runI (As := [.ref (u 1), .ref (v 2)]) (rest := [.ref q31, .ref h0]) ⟨hx, hb, hml, hown, hts⟩ (tB_init l dC dI q31 (u 1) (v 2) cI cL cZ H.size) (cwI 2 hts gX3_init_X0_init rfl rfl rfl (hts (.initialized RX0) (by decide +kernel)) (hts (.methodLink RX3 27 yX0_init) (by decide +kernel)) (hts (.instanceMethod yX0_init) (by decide +kernel)) rfl (by decide +kernel) ⟨Nat.le_of_ble_eq_true rfl, Nat.le_of_ble_eq_true rfl⟩) ⟨gPre.blind, fun U hU hW => ⟨rfl, by rw [hU], by rw [hU]; exact hPc, va_K.moved hW.alike hK, hDc.weaken (fun _ _ _ _ => trivial), hZ.go hW (by rw [hU]; exact hS.2.1) hsub⟩⟩ rfl rfl hl.1 rfl (lv_room (Nat.le_of_ble_eq_true rfl)) dX3_init_43 ⟨Nat.le_of_ble_eq_true rfl, Nat.le_of_ble_eq_true rfl⟩) hS (fun q _ h => hsub q h) hsub (fun w t H locs ht hvm hw hB hz1 hk1 hS => ?_)
  obtain ⟨hP1, hD1⟩ := hB
  rw [ht] at hP1
  obtain ⟨hPn, hDn⟩ := va_join (wc := [(q31, .inr (0, [.null, .null, .int (nI 0), .int (nI 0), .int (nI 0), .null, .null, .null, .null, .null, .int (nI 0), .int (nI 0), .long 0, .int (nI 0), .int (nI 0), .null, .null, .null]))]) (wr := ([(h0, .inr (3, [.ref (u 1), .ref (v 2), .null]))] ++ sW u cI cL cZ (sBN gzN) (sBJ gzJ) ++ pW v cI cL cZ)) (w1 := bW w cI cL cZ) hP hD [13] [0, 1, 2, 3, 4, 5, 6, 7, 8, 9, 10, 11, 12] rfl rfl (by decide) (by decide) (fun q h1 h2 => hk1 q h1 (fun z => h2 (va_aA (L := [q31]) rfl z))) (fun q h => hsub q (aA_va (L := [q31]) rfl h)) hP1 (hD1.weaken (fun _ _ _ z => va_aA (L := [q31]) rfl z))
  clear hP hD hPc hDc hsub hP1 hD1 hk1 hz1 ht
  refine W.widen (k := 21) (n := 2177) (Nat.le_of_ble_eq_true rfl) (Nat.le_of_ble_eq_true rfl) ?_
  have hw : w 1 = u 1 ∧ w 2 = v 2 ∧ w 3 = q31 := hw
  obtain ⟨hw1, hw2, hw⟩ := hw
  subst hw
  have hP := hPn
  have hD := hDn
  clear hPn hDn
  refine va_putF (D := (dC, dI)) (ci := 3) (v := .ref (w 3)) (ty := .object "ScoreMachine$Board") (C := RX3) (T := TX3) (N := 3) hx hb hts hi3 tyX3 tyX3_ok nmX3 hown hK hP hD hS 0 rfl rfl 2 (by decide) k30 (fun _ h9 => h9) rfl hnm rfl (by decide +kernel) rfl rfl (Nat.le_of_ble_eq_true rfl) dX3_init_46 (fun H locs hP hD hS => ?_)
  have hP : va_P (dC, dI) vwCl ([(h0, .inr (3, [.ref (u 1), .ref (v 2), .ref (w 3)]))] ++ sW u cI cL cZ (sBN gzN) (sBJ gzJ) ++ pW v cI cL cZ ++ bW w cI cL cZ) H := hP
  have hD : va_D (aA [h0] s.heap.size) ([(h0, .inr (3, [.ref (u 1), .ref (v 2), .ref (w 3)]))] ++ sW u cI cL cZ (sBN gzN) (sBJ gzJ) ++ pW v cI cL cZ ++ bW w cI cL cZ) := hD
  rw [pW_eq, bW_eq, hv1, hw1, hw2] at hP hD
  have hP : va_P (dC, dI) vwCl (xW (fun k => if k = 0 then h0 else if k = 1 then u 1 else if k = 2 then v 2 else if k = 3 then w 3 else if k < 12 then u k else if k < 14 then v k else w k) cI cL cZ (sBN gzN) (sBJ gzJ)) H := hP.sub [0, 1, 10, 13, 2, 3, 4, 5, 6, 7, 8, 9, 11, 12, 14, 15, 16, 17, 18, 19, 20, 21] rfl
  have hD : va_D (aA [h0] s.heap.size) (xW (fun k => if k = 0 then h0 else if k = 1 then u 1 else if k = 2 then v 2 else if k = 3 then w 3 else if k < 12 then u k else if k < 14 then v k else w k) cI cL cZ (sBN gzN) (sBJ gzJ)) := hD.sub [0, 1, 10, 13, 2, 3, 4, 5, 6, 7, 8, 9, 11, 12, 14, 15, 16, 17, 18, 19, 20, 21] (by decide) rfl
  exact W.vret hx hb hr (fun t ht _ => ⟨⟨(fun k => if k = 0 then h0 else if k = 1 then u 1 else if k = 2 then v 2 else if k = 3 then w 3 else if k < 12 then u k else if k < 14 then v k else w k), rfl, rfl, by rw [ht]; exact hP, hD⟩, hS.F ht⟩) hS.2.2 dX3_init_49 hlocks
