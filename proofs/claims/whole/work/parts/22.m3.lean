theorem mFr_ok {N : Nat → Nat → Nat} {k t : Nat} (h : mUW N k < t) : ¬ (t ≤ N 22 (7 * (3 * k + 0) + 5) ∧ t ≤ N 22 (7 * (3 * k + 1) + 5) ∧ t ≤ N 22 (7 * (3 * k + 2) + 5)) := by
  have e : 7 * (3 * k + 0) + 5 = 21 * k + 5 := by omega
  rw [e]
  unfold mUW at h
  revert h
  (repeat' split) <;> omega
set_option maxHeartbeats 4000000 in
set_option maxRecDepth 100000 in
theorem tM_issue (l : Launch) (dC : Nat → ClassId) (dI : Nat → Nat → Nat) (a : Nat → Nat) (cI cL cZ : ClassId) (N : Nat → Nat → Nat) (J : Nat → Nat → Int64) (t : Nat) (hG : mG N) (hc : 1 ≤ mCode N) (ht1 : 1 ≤ t) (ht : t < 1073741824) (hfr : mUW N (kdN (mCode N)) < t) (hz : ∀ k, k < 18 → N 24 k < 2) (ht6 : ∀ k, k < 18 → N 22 (7 * k + 6) = 4294967295 ∨ N 22 (7 * k + 6) < 272) : MetV l yX4_issue wsX4_issue ({ frames := 3, cells := 0, slots := 0, locals := 68 } : Room) dC dI (gT cI cL cZ) (mF a cI cL cZ) (mL a) (N, J) [.ref (a 0), .int (nI (t))] (fun u => u = mIss (N, J) t) := by
  intro sz
  refine g_entry (bytes := cX4_issue) (maxL := 14) (ret := none) (Qc := fun sz => va_Qv (fun u => u = mIss (N, J) t) (gB dC dI (mF a cI cL cZ)) (aA (mL a) sz)) (by decide) rfl (Nat.le_of_ble_eq_true rfl) rfl ?_
  intro p e s m below meth c ls hx hb hr hml hts hown hlocks hK hP hD hS hZ hl
  have hP : va_P (dC, dI) vwCl (mW a cI cL cZ N J) s.heap := hP
  have hD : va_D (aA (mL a) s.heap.size) (mW a cI cL cZ N J) := hD
  have hown : s.vm.findClass RX4 = some m.cls := hown
  have hl : lv_has ls 14 [(0, .ref (a 0)), (1, .int (nI (t)))] := hl
  have hi4 : ∀ w ∈ wsX40, w ∈ wsX4_issue := by decide +kernel
  have k16 := hts (.fieldLink RX4 16 "ScoreMachineModel" "latencies" "[I") (by decide +kernel)
  have k26 := hts (.fieldLink RX4 26 "ScoreMachineModel" "plainRegisters" "[J") (by decide +kernel)
  have k29 := hts (.fieldLink RX4 29 "ScoreMachineModel" "plainMemory" "[J") (by decide +kernel)
  have k38 := hts (.fieldLink RX4 38 "ScoreMachineModel" "stalls" "[I") (by decide +kernel)
  have k41 := hts (.fieldLink RX4 41 "ScoreMachineModel" "writtenOf" "[I") (by decide +kernel)
  have k44 := hts (.fieldLink RX4 44 "ScoreMachineModel" "writerOf" "[I") (by decide +kernel)
  have k47 := hts (.fieldLink RX4 47 "ScoreMachineModel" "readOf" "[I") (by decide +kernel)
  have k50 := hts (.fieldLink RX4 50 "ScoreMachineModel" "unitRow" "[I") (by decide +kernel)
  have k53 := hts (.fieldLink RX4 53 "ScoreMachineModel" "unitValue" "[J") (by decide +kernel)
  have k56 := hts (.fieldLink RX4 56 "ScoreMachineModel" "unitOpen" "[Z") (by decide +kernel)
  have k60 := hts (.fieldLink RX4 60 "ScoreMachineModel" "rows" "[I") (by decide +kernel)
  have k83 := hts (.fieldLink RX4 83 "ScoreMachineModel" "many" "I") (by decide +kernel)
  have k86 := hts (.fieldLink RX4 86 "ScoreMachineModel" "place" "I") (by decide +kernel)
  have k89 := hts (.fieldLink RX4 89 "ScoreMachineModel" "issuedLast" "I") (by decide +kernel)
  have k9 := hts (.fieldLink RX4 9 "ScoreMachineModel" "program" "[I") (by decide +kernel)
  have k92 := hts (.fieldLink RX4 92 "ScoreMachineModel" "issuedThen" "I") (by decide +kernel)
  have k95 := hts (.fieldLink RX4 95 "ScoreMachineModel" "branchWritten" "I") (by decide +kernel)
  have k98 := hts (.fieldLink RX4 98 "ScoreMachineModel" "mostWritten" "I") (by decide +kernel)
  obtain ⟨⟨hpl, hpr⟩, hun, hla, hwd, hsc, hrg, huw⟩ := id hG
  have hp0 := hpr (N 8 0) hpl
  have hcd : mCode N ≤ 18 := hp0.1
  have hkd := kdN_lt (mCode N)
  have hbB : mBeg N < 1073741825 := by unfold mBeg; (repeat' split) <;> omega
  have hbU : mUW N (kdN (mCode N)) < 1073741824 := mUW_lt hG hkd
  have hbS : mSW N < 1073741824 := mSW_lt hG
  have hfr : ¬ (t ≤ N 22 (7 * (3 * kdN (mCode N) + 0) + 5) ∧ t ≤ N 22 (7 * (3 * kdN (mCode N) + 1) + 5) ∧ t ≤ N 22 (7 * (3 * kdN (mCode N) + 2) + 5)) := mFr_ok hfr
  have hwa : N 19 (mA N) < 1073741824 := (hrg _ hp0.2.2.1).1
  have hwb := (hrg (mBB N % 16) (by omega)).1
  have hwd0 : N 19 (mD N) < 1073741824 := (hrg _ hp0.2.1).1
  have hra : N 21 (mA N) < 1073741824 := (hrg _ hp0.2.2.1).2
  have hrd : N 21 (mD N) < 1073741824 := (hrg _ hp0.2.1).2
  have hlat := hla _ hkd
  have hu0 := huw (3 * kdN (mCode N) + 0) (by omega)
  have hu1 := huw (3 * kdN (mCode N) + 1) (by omega)
  have hu2 := huw (3 * kdN (mCode N) + 2) (by omega)
  have hmD : mD N < 16 := hp0.2.1
  have hmA : mA N < 16 := hp0.2.2.1
  refine lv_aload_n hx hb dX4_issue_0 rfl (lv_at hl 0 rfl) ?_
  refine g_calli (u := (N, J)) (g_runV (As := []) (rest := []) ⟨hx, hb, hml, hown, hts⟩ (tM_code l dC dI a cI cL cZ N J hG.1 s.heap.size) (cwV 0 hts gX4_issue_X4_code rfl rfl rfl (by decide +kernel) ⟨Nat.le_of_ble_eq_true rfl, Nat.le_of_ble_eq_true rfl⟩) (va_recv hK hP (ci := 4) (q0 := 0) rfl rfl) hK hP hD hS hZ rfl hl.1 rfl (Nat.le_of_ble_eq_true rfl) dX4_issue_1) (mW_L a cI cL cZ) hD hS (fun r_1 u H locs hw hP hD hS => ?_)
  obtain ⟨rfl, rfl⟩ := hw
  have hP : va_P (dC, dI) vwCl (mW a cI cL cZ N J) H := hP
  have hD : va_D (aA (mL a) s.heap.size) (mW a cI cL cZ N J) := hD
  refine lv_istore_n (lv' := [(2, .int (nI (mCode N))), (0, .ref (a 0)), (1, .int (nI (t)))]) hx hb dX4_issue_4 rfl hl (by decide) rfl (fun ls hl => ?_)
  refine lv_iload_n hx hb dX4_issue_5 rfl (lv_at hl 0 rfl) ?_
  refine s_calli (As := [.int (nI (mCode N))]) (rest := []) ⟨hx, hb, hml, hown, hts⟩ (tM_kindOf l (mCode N) (by omega)) (va_cwS 1 hts gX4_issue_X4_kindOf rfl rfl rfl (by decide +kernel) ⟨Nat.le_of_ble_eq_true rfl, Nat.le_of_ble_eq_true rfl⟩) rfl hl.1 rfl (Nat.le_of_ble_eq_true rfl) dX4_issue_6 (fun r_6 hw => ?_)
  subst hw
  refine lv_istore_n (lv' := [(3, .int (nI (kdN (mCode N)))), (2, .int (nI (mCode N))), (0, .ref (a 0)), (1, .int (nI (t)))]) hx hb dX4_issue_9 rfl hl (by decide) rfl (fun ls hl => ?_)
  refine lv_aload_n hx hb dX4_issue_10 rfl (lv_at hl 2 rfl) ?_
  refine mg_0 hx hb hts hi4 hown hK hP k9 dX4_issue_11 ?_
  refine lv_iconst (v := nI 4) hx hb dX4_issue_14 (by decide) ?_
  refine lv_aload_n hx hb dX4_issue_15 rfl (lv_at hl 2 rfl) ?_
  refine mg_8 (v := N 8 0) hx hb hts hi4 hown hK hP k86 rfl dX4_issue_16 ?_
  refine n_mul hx hb dX4_issue_19 ?_
  refine lv_iconst (v := nI 1) hx hb dX4_issue_20 (by decide) ?_
  refine n_add hx hb dX4_issue_21 ?_
  refine ml_0 (v := mD N) hx hb hK hP (by omega) rfl dX4_issue_22 ?_
  refine lv_istore (lv' := [(4, .int (nI (mD N))), (3, .int (nI (kdN (mCode N)))), (2, .int (nI (mCode N))), (0, .ref (a 0)), (1, .int (nI (t)))]) hx hb dX4_issue_23 hl (by decide) rfl (fun ls hl => ?_)
  refine lv_aload_n hx hb dX4_issue_25 rfl (lv_at hl 3 rfl) ?_
  refine mg_0 hx hb hts hi4 hown hK hP k9 dX4_issue_26 ?_
  refine lv_iconst (v := nI 4) hx hb dX4_issue_29 (by decide) ?_
  refine lv_aload_n hx hb dX4_issue_30 rfl (lv_at hl 3 rfl) ?_
  refine mg_8 (v := N 8 0) hx hb hts hi4 hown hK hP k86 rfl dX4_issue_31 ?_
  refine n_mul hx hb dX4_issue_34 ?_
  refine lv_iconst (v := nI 2) hx hb dX4_issue_35 (by decide) ?_
  refine n_add hx hb dX4_issue_36 ?_
  refine ml_0 (v := mA N) hx hb hK hP (by omega) rfl dX4_issue_37 ?_
  refine lv_istore (lv' := [(5, .int (nI (mA N))), (4, .int (nI (mD N))), (3, .int (nI (kdN (mCode N)))), (2, .int (nI (mCode N))), (0, .ref (a 0)), (1, .int (nI (t)))]) hx hb dX4_issue_38 hl (by decide) rfl (fun ls hl => ?_)
  refine lv_aload_n hx hb dX4_issue_40 rfl (lv_at hl 4 rfl) ?_
  refine g_calli (u := (N, J)) (g_runV (As := []) (rest := []) ⟨hx, hb, hml, hown, hts⟩ (tM_registerB l dC dI a cI cL cZ N J hG.1 H.size) (cwV 0 hts gX4_issue_X4_registerB rfl rfl rfl (by decide +kernel) ⟨Nat.le_of_ble_eq_true rfl, Nat.le_of_ble_eq_true rfl⟩) (va_recv hK hP (ci := 4) (q0 := 0) rfl rfl) hK hP hD hS hZ rfl hl.1 rfl (Nat.le_of_ble_eq_true rfl) dX4_issue_41) (mW_L a cI cL cZ) hD hS (fun r_41 u H locs hw hP hD hS => ?_)
  obtain ⟨rfl, rfl⟩ := hw
  have hP : va_P (dC, dI) vwCl (mW a cI cL cZ N J) H := hP
  have hD : va_D (aA (mL a) s.heap.size) (mW a cI cL cZ N J) := hD
  refine lv_istore (lv' := [(6, .int (nI (mBB N % 16))), (5, .int (nI (mA N))), (4, .int (nI (mD N))), (3, .int (nI (kdN (mCode N)))), (2, .int (nI (mCode N))), (0, .ref (a 0)), (1, .int (nI (t)))]) hx hb dX4_issue_44 hl (by decide) rfl (fun ls hl => ?_)
  refine lv_iconst (v := nI 0) hx hb dX4_issue_46 (by decide) ?_
  refine lv_istore (lv' := [(7, .int (nI (0))), (6, .int (nI (mBB N % 16))), (5, .int (nI (mA N))), (4, .int (nI (mD N))), (3, .int (nI (kdN (mCode N)))), (2, .int (nI (mCode N))), (0, .ref (a 0)), (1, .int (nI (t)))]) hx hb dX4_issue_47 hl (by decide) rfl (fun ls hl => ?_)
  refine lv_iload hx hb dX4_issue_49 (lv_at hl 0 rfl) ?_
  refine lv_iconst (v := nI 3) hx hb dX4_issue_51 (by decide) ?_
  refine n_icmp_ge (tgt := 80) hx hb (by omega) (by omega) dX4_issue_52 (by decide) (fun c_52 => absurd c_52 (by omega)) (fun c_52 => ?_)
  refine lv_aload_n hx hb dX4_issue_55 rfl (lv_at hl 6 rfl) ?_
  refine mg_18 hx hb hts hi4 hown hK hP k38 dX4_issue_56 ?_
  refine lv_iload hx hb dX4_issue_59 (lv_at hl 0 rfl) ?_
  refine lv_dup2_11 hx hb dX4_issue_61 rfl rfl ?_
  refine ml_18 (v := N 18 0) hx hb hK hP (by omega) rfl dX4_issue_62 ?_
  refine lv_aload_n hx hb dX4_issue_63 rfl (lv_at hl 6 rfl) ?_
  refine lv_iload hx hb dX4_issue_64 (lv_at hl 0 rfl) ?_
  refine lv_iload_n hx hb dX4_issue_66 rfl (lv_at hl 7 rfl) ?_
  refine lv_iconst (v := nI 1) hx hb dX4_issue_67 (by decide) ?_
  refine n_sub hx hb (by omega) dX4_issue_68 ?_
  refine g_calli (u := (N, J)) (g_runV (As := [.int (nI (0)), .int (nI (t - 1))]) (rest := [.int (nI (N 18 0)), .int (nI (0)), .ref (a 10)]) ⟨hx, hb, hml, hown, hts⟩ (tM_waited l dC dI a cI cL cZ N J 0 (t - 1) hG (by decide) (by omega) H.size) (cwV 2 hts gX4_issue_X4_waited rfl rfl rfl (by decide +kernel) ⟨Nat.le_of_ble_eq_true rfl, Nat.le_of_ble_eq_true rfl⟩) (va_recv hK hP (ci := 4) (q0 := 0) rfl rfl) hK hP hD hS hZ rfl hl.1 rfl (Nat.le_of_ble_eq_true rfl) dX4_issue_69) (mW_L a cI cL cZ) hD hS (fun r_69 u H locs hw hP hD hS => ?_)
  obtain ⟨hr9, hu9⟩ := hw
  have hr9 : r_69 = nI (mWt N 0 (t - 1)) := hr9
  subst hr9
  subst hu9
  have hP : va_P (dC, dI) vwCl (mW a cI cL cZ N J) H := hP
  have hD : va_D (aA (mL a) s.heap.size) (mW a cI cL cZ N J) := hD
  refine n_add hx hb dX4_issue_72 ?_
  refine ms_18 hx hb hK hP hD hS (by omega) dX4_issue_73 (fun H locs hP hD hS => ?_)
  refine lv_iinc (v := nI (1)) (lv' := [(7, .int (nI (1))), (6, .int (nI (mBB N % 16))), (5, .int (nI (mA N))), (4, .int (nI (mD N))), (3, .int (nI (kdN (mCode N)))), (2, .int (nI (mCode N))), (0, .ref (a 0)), (1, .int (nI (t)))]) hx hb dX4_issue_74 hl (k := 0) rfl (by decide) (by decide) rfl (fun ls hl => ?_)
  refine lv_goto (tgt := 49) hx hb dX4_issue_77 (by decide) ?_
  refine lv_iload hx hb dX4_issue_49 (lv_at hl 0 rfl) ?_
  refine lv_iconst (v := nI 3) hx hb dX4_issue_51 (by decide) ?_
  refine n_icmp_ge (tgt := 80) hx hb (by omega) (by omega) dX4_issue_52 (by decide) (fun c_52 => absurd c_52 (by omega)) (fun c_52 => ?_)
  refine lv_aload_n hx hb dX4_issue_55 rfl (lv_at hl 6 rfl) ?_
  refine mg_18 hx hb hts hi4 hown hK hP k38 dX4_issue_56 ?_
  refine lv_iload hx hb dX4_issue_59 (lv_at hl 0 rfl) ?_
  refine lv_dup2_11 hx hb dX4_issue_61 rfl rfl ?_
  refine ml_18 (v := N 18 1) hx hb hK hP (by omega) rfl dX4_issue_62 ?_
  refine lv_aload_n hx hb dX4_issue_63 rfl (lv_at hl 6 rfl) ?_
  refine lv_iload hx hb dX4_issue_64 (lv_at hl 0 rfl) ?_
  refine lv_iload_n hx hb dX4_issue_66 rfl (lv_at hl 7 rfl) ?_
  refine lv_iconst (v := nI 1) hx hb dX4_issue_67 (by decide) ?_
  refine n_sub hx hb (by omega) dX4_issue_68 ?_
  refine g_calli (u := ((uN N 18 (0) ((N 18 0) + (mWt N 0 (t - 1)))), J)) (g_runV (As := [.int (nI (1)), .int (nI (t - 1))]) (rest := [.int (nI (N 18 1)), .int (nI (1)), .ref (a 10)]) ⟨hx, hb, hml, hown, hts⟩ (tM_waited l dC dI a cI cL cZ (uN N 18 (0) ((N 18 0) + (mWt N 0 (t - 1)))) J 1 (t - 1) hG (by decide) (by omega) H.size) (cwV 2 hts gX4_issue_X4_waited rfl rfl rfl (by decide +kernel) ⟨Nat.le_of_ble_eq_true rfl, Nat.le_of_ble_eq_true rfl⟩) (va_recv hK hP (ci := 4) (q0 := 0) rfl rfl) hK hP hD hS hZ rfl hl.1 rfl (Nat.le_of_ble_eq_true rfl) dX4_issue_69) (mW_L a cI cL cZ) hD hS (fun r_69 u H locs hw hP hD hS => ?_)
  obtain ⟨hr9, hu9⟩ := hw
  have hr9 : r_69 = nI (mWt N 1 (t - 1)) := hr9
  subst hr9
  subst hu9
  have hP : va_P (dC, dI) vwCl (mW a cI cL cZ (uN N 18 (0) ((N 18 0) + (mWt N 0 (t - 1)))) J) H := hP
  have hD : va_D (aA (mL a) s.heap.size) (mW a cI cL cZ (uN N 18 (0) ((N 18 0) + (mWt N 0 (t - 1)))) J) := hD
  refine n_add hx hb dX4_issue_72 ?_
  refine ms_18 hx hb hK hP hD hS (by omega) dX4_issue_73 (fun H locs hP hD hS => ?_)
  refine lv_iinc (v := nI (2)) (lv' := [(7, .int (nI (2))), (6, .int (nI (mBB N % 16))), (5, .int (nI (mA N))), (4, .int (nI (mD N))), (3, .int (nI (kdN (mCode N)))), (2, .int (nI (mCode N))), (0, .ref (a 0)), (1, .int (nI (t)))]) hx hb dX4_issue_74 hl (k := 0) rfl (by decide) (by decide) rfl (fun ls hl => ?_)
  refine lv_goto (tgt := 49) hx hb dX4_issue_77 (by decide) ?_
  refine lv_iload hx hb dX4_issue_49 (lv_at hl 0 rfl) ?_
  refine lv_iconst (v := nI 3) hx hb dX4_issue_51 (by decide) ?_
  refine n_icmp_ge (tgt := 80) hx hb (by omega) (by omega) dX4_issue_52 (by decide) (fun c_52 => absurd c_52 (by omega)) (fun c_52 => ?_)
  refine lv_aload_n hx hb dX4_issue_55 rfl (lv_at hl 6 rfl) ?_
  refine mg_18 hx hb hts hi4 hown hK hP k38 dX4_issue_56 ?_
  refine lv_iload hx hb dX4_issue_59 (lv_at hl 0 rfl) ?_
  refine lv_dup2_11 hx hb dX4_issue_61 rfl rfl ?_
  refine ml_18 (v := N 18 2) hx hb hK hP (by omega) rfl dX4_issue_62 ?_
  refine lv_aload_n hx hb dX4_issue_63 rfl (lv_at hl 6 rfl) ?_
  refine lv_iload hx hb dX4_issue_64 (lv_at hl 0 rfl) ?_
  refine lv_iload_n hx hb dX4_issue_66 rfl (lv_at hl 7 rfl) ?_
  refine lv_iconst (v := nI 1) hx hb dX4_issue_67 (by decide) ?_
  refine n_sub hx hb (by omega) dX4_issue_68 ?_
  refine g_calli (u := ((uN (uN N 18 (0) ((N 18 0) + (mWt N 0 (t - 1)))) 18 (1) ((N 18 1) + (mWt N 1 (t - 1)))), J)) (g_runV (As := [.int (nI (2)), .int (nI (t - 1))]) (rest := [.int (nI (N 18 2)), .int (nI (2)), .ref (a 10)]) ⟨hx, hb, hml, hown, hts⟩ (tM_waited l dC dI a cI cL cZ (uN (uN N 18 (0) ((N 18 0) + (mWt N 0 (t - 1)))) 18 (1) ((N 18 1) + (mWt N 1 (t - 1)))) J 2 (t - 1) hG (by decide) (by omega) H.size) (cwV 2 hts gX4_issue_X4_waited rfl rfl rfl (by decide +kernel) ⟨Nat.le_of_ble_eq_true rfl, Nat.le_of_ble_eq_true rfl⟩) (va_recv hK hP (ci := 4) (q0 := 0) rfl rfl) hK hP hD hS hZ rfl hl.1 rfl (Nat.le_of_ble_eq_true rfl) dX4_issue_69) (mW_L a cI cL cZ) hD hS (fun r_69 u H locs hw hP hD hS => ?_)
  obtain ⟨hr9, hu9⟩ := hw
  have hr9 : r_69 = nI (mWt N 2 (t - 1)) := hr9
  subst hr9
  subst hu9
  have hP : va_P (dC, dI) vwCl (mW a cI cL cZ (uN (uN N 18 (0) ((N 18 0) + (mWt N 0 (t - 1)))) 18 (1) ((N 18 1) + (mWt N 1 (t - 1)))) J) H := hP
  have hD : va_D (aA (mL a) s.heap.size) (mW a cI cL cZ (uN (uN N 18 (0) ((N 18 0) + (mWt N 0 (t - 1)))) 18 (1) ((N 18 1) + (mWt N 1 (t - 1)))) J) := hD
  refine n_add hx hb dX4_issue_72 ?_
  refine ms_18 hx hb hK hP hD hS (by omega) dX4_issue_73 (fun H locs hP hD hS => ?_)
  refine lv_iinc (v := nI (3)) (lv' := [(7, .int (nI (3))), (6, .int (nI (mBB N % 16))), (5, .int (nI (mA N))), (4, .int (nI (mD N))), (3, .int (nI (kdN (mCode N)))), (2, .int (nI (mCode N))), (0, .ref (a 0)), (1, .int (nI (t)))]) hx hb dX4_issue_74 hl (k := 0) rfl (by decide) (by decide) rfl (fun ls hl => ?_)
  refine lv_goto (tgt := 49) hx hb dX4_issue_77 (by decide) ?_
  refine lv_iload hx hb dX4_issue_49 (lv_at hl 0 rfl) ?_
  refine lv_iconst (v := nI 3) hx hb dX4_issue_51 (by decide) ?_
  refine n_icmp_ge (tgt := 80) hx hb (by omega) (by omega) dX4_issue_52 (by decide) (fun c_52 => ?_) (fun c_52 => absurd c_52 (by omega))
  refine lv_iconst (v := nI 0) hx hb dX4_issue_80 (by decide) ?_
  refine lv_istore (lv' := [(7, .int (nI (0))), (6, .int (nI (mBB N % 16))), (5, .int (nI (mA N))), (4, .int (nI (mD N))), (3, .int (nI (kdN (mCode N)))), (2, .int (nI (mCode N))), (0, .ref (a 0)), (1, .int (nI (t)))]) hx hb dX4_issue_81 hl (by decide) rfl (fun ls hl => ?_)
  refine w_join (X := Nat) (P := fun x109 => x109 = mFr N t ∧ x109 < 3) (pj := 109) (nL := 14) (lv := fun x109 => [(6, .int (nI (mBB N % 16))), (5, .int (nI (mA N))), (4, .int (nI (mD N))), (3, .int (nI (kdN (mCode N)))), (2, .int (nI (mCode N))), (0, .ref (a 0)), (1, .int (nI (t))), (7, .int (nI (x109)))]) (st := fun x109 => []) (fun jn_109 => ?_) (fun x109 ls ex109 hl => ?_)
  · refine lv_aload_n hx hb dX4_issue_83 rfl (lv_at hl 6 rfl) ?_
    refine mg_22 hx hb hts hi4 hown hK hP k50 dX4_issue_84 ?_
    refine lv_bipush (v := nI 7) hx hb dX4_issue_87 (by decide) ?_
    refine lv_iconst (v := nI 3) hx hb dX4_issue_89 (by decide) ?_
    refine lv_iload_n hx hb dX4_issue_90 rfl (lv_at hl 4 rfl) ?_
    refine n_mul hx hb dX4_issue_91 ?_
    refine lv_iload hx hb dX4_issue_92 (lv_at hl 0 rfl) ?_
    refine n_add hx hb dX4_issue_94 ?_
    refine n_mul hx hb dX4_issue_95 ?_
    refine lv_iconst (v := nI 5) hx hb dX4_issue_96 (by decide) ?_
    refine n_add hx hb dX4_issue_97 ?_
    refine ml_22 (v := N 22 ((7 * ((3 * (kdN (mCode N))) + 0)) + 5)) hx hb hK hP (by omega) rfl dX4_issue_98 ?_
    refine lv_iload_n hx hb dX4_issue_99 rfl (lv_at hl 7 rfl) ?_
    refine n_icmp_lt (tgt := 109) hx hb (by omega) (by omega) dX4_issue_100 (by decide) (fun c_100 => ?_) (fun c_100 => ?_)
    · exact jn_109 0 ls (⟨by unfold mFr; rw [if_pos c_100], by decide⟩) (lv_sub hl [1, 2, 3, 4, 5, 6, 7, 0] rfl)
    · have d0 := c_100
      refine lv_iinc (v := nI (1)) (lv' := [(7, .int (nI (1))), (6, .int (nI (mBB N % 16))), (5, .int (nI (mA N))), (4, .int (nI (mD N))), (3, .int (nI (kdN (mCode N)))), (2, .int (nI (mCode N))), (0, .ref (a 0)), (1, .int (nI (t)))]) hx hb dX4_issue_103 hl (k := 0) rfl (by decide) (by decide) rfl (fun ls hl => ?_)
      refine lv_goto (tgt := 83) hx hb dX4_issue_106 (by decide) ?_
      refine lv_aload_n hx hb dX4_issue_83 rfl (lv_at hl 6 rfl) ?_
      refine mg_22 hx hb hts hi4 hown hK hP k50 dX4_issue_84 ?_
      refine lv_bipush (v := nI 7) hx hb dX4_issue_87 (by decide) ?_
      refine lv_iconst (v := nI 3) hx hb dX4_issue_89 (by decide) ?_
      refine lv_iload_n hx hb dX4_issue_90 rfl (lv_at hl 4 rfl) ?_
      refine n_mul hx hb dX4_issue_91 ?_
      refine lv_iload hx hb dX4_issue_92 (lv_at hl 0 rfl) ?_
      refine n_add hx hb dX4_issue_94 ?_
      refine n_mul hx hb dX4_issue_95 ?_
      refine lv_iconst (v := nI 5) hx hb dX4_issue_96 (by decide) ?_
      refine n_add hx hb dX4_issue_97 ?_
      refine ml_22 (v := N 22 ((7 * ((3 * (kdN (mCode N))) + 1)) + 5)) hx hb hK hP (by omega) rfl dX4_issue_98 ?_
      refine lv_iload_n hx hb dX4_issue_99 rfl (lv_at hl 7 rfl) ?_
      refine n_icmp_lt (tgt := 109) hx hb (by omega) (by omega) dX4_issue_100 (by decide) (fun c_100 => ?_) (fun c_100 => ?_)
      · exact jn_109 1 ls (⟨by unfold mFr; rw [if_neg (by omega), if_pos c_100], by decide⟩) (lv_sub hl [1, 2, 3, 4, 5, 6, 7, 0] rfl)
      · have d1 := c_100
        refine lv_iinc (v := nI (2)) (lv' := [(7, .int (nI (2))), (6, .int (nI (mBB N % 16))), (5, .int (nI (mA N))), (4, .int (nI (mD N))), (3, .int (nI (kdN (mCode N)))), (2, .int (nI (mCode N))), (0, .ref (a 0)), (1, .int (nI (t)))]) hx hb dX4_issue_103 hl (k := 0) rfl (by decide) (by decide) rfl (fun ls hl => ?_)
        refine lv_goto (tgt := 83) hx hb dX4_issue_106 (by decide) ?_
        refine lv_aload_n hx hb dX4_issue_83 rfl (lv_at hl 6 rfl) ?_
        refine mg_22 hx hb hts hi4 hown hK hP k50 dX4_issue_84 ?_
        refine lv_bipush (v := nI 7) hx hb dX4_issue_87 (by decide) ?_
        refine lv_iconst (v := nI 3) hx hb dX4_issue_89 (by decide) ?_
        refine lv_iload_n hx hb dX4_issue_90 rfl (lv_at hl 4 rfl) ?_
        refine n_mul hx hb dX4_issue_91 ?_
        refine lv_iload hx hb dX4_issue_92 (lv_at hl 0 rfl) ?_
        refine n_add hx hb dX4_issue_94 ?_
        refine n_mul hx hb dX4_issue_95 ?_
        refine lv_iconst (v := nI 5) hx hb dX4_issue_96 (by decide) ?_
        refine n_add hx hb dX4_issue_97 ?_
        refine ml_22 (v := N 22 ((7 * ((3 * (kdN (mCode N))) + 2)) + 5)) hx hb hK hP (by omega) rfl dX4_issue_98 ?_
        refine lv_iload_n hx hb dX4_issue_99 rfl (lv_at hl 7 rfl) ?_
        refine n_icmp_lt (tgt := 109) hx hb (by omega) (by omega) dX4_issue_100 (by decide) (fun c_100 => ?_) (fun c_100 => absurd c_100 (by have := hfr; omega))
        exact jn_109 2 ls (⟨by unfold mFr; rw [if_neg (by omega), if_neg (by omega)], by decide⟩) (lv_sub hl [1, 2, 3, 4, 5, 6, 7, 0] rfl)
  · have ex109 : x109 = mFr N t ∧ x109 < 3 := ex109
    have hl : lv_has ls 14 [(6, .int (nI (mBB N % 16))), (5, .int (nI (mA N))), (4, .int (nI (mD N))), (3, .int (nI (kdN (mCode N)))), (2, .int (nI (mCode N))), (0, .ref (a 0)), (1, .int (nI (t))), (7, .int (nI (x109)))] := hl
    refine lv_iload hx hb dX4_issue_109 (lv_at hl 7 rfl) ?_
    refine lv_iconst (v := nI 3) hx hb dX4_issue_111 (by decide) ?_
    refine lv_iload_n hx hb dX4_issue_112 rfl (lv_at hl 3 rfl) ?_
    refine n_mul hx hb dX4_issue_113 ?_
    refine n_add hx hb dX4_issue_114 ?_
    obtain ⟨U, eU⟩ : ∃ z : Nat, z = x109 + (3 * (kdN (mCode N))) := ⟨_, rfl⟩
    rw [← eU]
    refine lv_istore (lv' := [(7, .int (nI (U))), (6, .int (nI (mBB N % 16))), (5, .int (nI (mA N))), (4, .int (nI (mD N))), (3, .int (nI (kdN (mCode N)))), (2, .int (nI (mCode N))), (0, .ref (a 0)), (1, .int (nI (t)))]) hx hb dX4_issue_115 hl (by decide) rfl (fun ls hl => ?_)
    have hU : U = mU N t := by rw [eU, ex109.1]; rfl
    have hU18 : U < 18 := by omega
    refine lv_iconst (v := nI 0) hx hb dX4_issue_117 (by decide) ?_
    refine lv_istore (lv' := [(8, .int (nI (0))), (7, .int (nI (U))), (6, .int (nI (mBB N % 16))), (5, .int (nI (mA N))), (4, .int (nI (mD N))), (3, .int (nI (kdN (mCode N)))), (2, .int (nI (mCode N))), (0, .ref (a 0)), (1, .int (nI (t)))]) hx hb dX4_issue_118 hl (by decide) rfl (fun ls hl => ?_)
    refine w_loopH (X := Nat) (μ := fun x120 => 18 - x120) (dC := dC) (dI := dI) (A := aA (mL a) s.heap.size) (H0 := s.heap) (Wf := mF a cI cL cZ) (u := fun x120 => ((mCA t x120 (mI1 N t, J)).1, (mCA t x120 (mI1 N t, J)).2)) (P := fun x120 => x120 ≤ 18) (pj := 120) (nL := 14) (lv := fun x120 => [(7, .int (nI (U))), (6, .int (nI (mBB N % 16))), (5, .int (nI (mA N))), (4, .int (nI (mD N))), (3, .int (nI (kdN (mCode N)))), (2, .int (nI (mCode N))), (0, .ref (a 0)), (1, .int (nI (t))), (8, .int (nI (x120)))]) (st := fun x120 => []) (fun x120 ls H locs ex120 hl hP hD hS jn_120 => ?_) 0 ls (by omega) (lv_sub hl [1, 2, 3, 4, 5, 6, 7, 8, 0] rfl) hP hD hS
    have ex120 : x120 ≤ 18 := ex120
    have hl : lv_has ls 14 [(7, .int (nI (U))), (6, .int (nI (mBB N % 16))), (5, .int (nI (mA N))), (4, .int (nI (mD N))), (3, .int (nI (kdN (mCode N)))), (2, .int (nI (mCode N))), (0, .ref (a 0)), (1, .int (nI (t))), (8, .int (nI (x120)))] := hl
    have hP : va_P (dC, dI) vwCl (mW a cI cL cZ (mCA t x120 (mI1 N t, J)).1 (mCA t x120 (mI1 N t, J)).2) H := hP
    have hD : va_D (aA (mL a) s.heap.size) (mW a cI cL cZ (mCA t x120 (mI1 N t, J)).1 (mCA t x120 (mI1 N t, J)).2) := hD
    have eC22 : (mCA t x120 (mI1 N t, J)).1 22 (7 * x120 + 5) = N 22 (7 * x120 + 5) := congrFun (mCA_N t (mI1 N t, J) 22 (by decide) x120) _
    have eC6 : (mCA t x120 (mI1 N t, J)).1 22 (7 * x120 + 6) = N 22 (7 * x120 + 6) := congrFun (mCA_N t (mI1 N t, J) 22 (by decide) x120) _
    have hz9 := mCA_z t (mI1 N t, J) hz x120
    refine lv_iload hx hb dX4_issue_120 (lv_at hl 8 rfl) ?_
    refine lv_bipush (v := nI 18) hx hb dX4_issue_122 (by decide) ?_
    refine n_icmp_ge (tgt := 165) hx hb (by omega) (by omega) dX4_issue_124 (by decide) (fun c_124 => ?_) (fun c_124 => ?_)
    · have e18 : x120 = 18 := by omega
      obtain ⟨⟨N2, J2⟩, e2⟩ : ∃ z : gSt, z = mCA t x120 (mI1 N t, J) := ⟨_, rfl⟩
      have eN2 : ∀ f, (f ≠ 24 ∧ f ≠ 18) → N2 f = N f := fun f hf => by have z := mCA_N t (mI1 N t, J) f hf.1 x120; rw [← e2] at z; have z : N2 f = mI1 N t f := z; rw [z]; unfold mI1; rw [uN_o hf.2, uN_o hf.2, uN_o hf.2]
      have eJ2 : ∀ f, (f ≠ 9 ∧ f ≠ 10) → J2 f = J f := fun f hf => by have z := mCA_J t (mI1 N t, J) f hf.1 hf.2 x120; rw [← e2] at z; exact z
      rw [← e2] at hP hD
      have hP : va_P (dC, dI) vwCl (mW a cI cL cZ N2 J2) H := hP
      have hD : va_D (aA (mL a) s.heap.size) (mW a cI cL cZ N2 J2) := hD
      rw [e18] at e2
      clear hz9 eC22 eC6 jn_120
      refine lv_iload_n hx hb dX4_issue_165 rfl (lv_at hl 7 rfl) ?_
      refine lv_iconst (v := nI 1) hx hb dX4_issue_166 (by decide) ?_
      refine n_add hx hb dX4_issue_167 ?_
      refine lv_istore (lv' := [(8, .int (nI (t + 1))), (7, .int (nI (U))), (6, .int (nI (mBB N % 16))), (5, .int (nI (mA N))), (4, .int (nI (mD N))), (3, .int (nI (kdN (mCode N)))), (2, .int (nI (mCode N))), (0, .ref (a 0)), (1, .int (nI (t)))]) hx hb dX4_issue_168 hl (by decide) rfl (fun ls hl => ?_)
      refine w_join (X := Nat) (P := fun x193 => x193 = mR1 N t) (pj := 193) (nL := 14) (lv := fun x193 => [(7, .int (nI (U))), (6, .int (nI (mBB N % 16))), (5, .int (nI (mA N))), (4, .int (nI (mD N))), (3, .int (nI (kdN (mCode N)))), (2, .int (nI (mCode N))), (0, .ref (a 0)), (1, .int (nI (t))), (8, .int (nI (x193)))]) (st := fun x193 => []) (fun jn_193 => ?_) (fun x193 ls ex193 hl => ?_)
      · refine lv_iload_n hx hb dX4_issue_170 rfl (lv_at hl 6 rfl) ?_
        refine s_calli (As := [.int (nI (mCode N))]) (rest := []) ⟨hx, hb, hml, hown, hts⟩ (tM_readsA l (mCode N) (by omega)) (va_cwS 1 hts gX4_issue_X4_readsA rfl rfl rfl (by decide +kernel) ⟨Nat.le_of_ble_eq_true rfl, Nat.le_of_ble_eq_true rfl⟩) rfl hl.1 rfl (Nat.le_of_ble_eq_true rfl) dX4_issue_171 (fun r_171 hw => ?_)
        subst hw
        refine n_if_eq (tgt := 193) hx hb bL dX4_issue_174 (by decide) (fun c_174 => ?_) (fun c_174 => ?_)
        · exact jn_193 (t + 1) ls (by unfold mR1; rw [if_neg (b0 c_174)]) (lv_sub hl [1, 2, 3, 4, 5, 6, 7, 8, 0] rfl)
        · refine lv_iload hx hb dX4_issue_177 (lv_at hl 0 rfl) ?_
          refine lv_aload_n hx hb dX4_issue_179 rfl (lv_at hl 7 rfl) ?_
          refine mg_19 hx hb hts hi4 hown hK hP k41 dX4_issue_180 ?_
          refine lv_iload hx hb dX4_issue_183 (lv_at hl 3 rfl) ?_
          refine ml_19 (v := N 19 (mA N)) hx hb hK hP hp0.2.2.1 (congrFun (eN2 19 (by decide)) (mA N)) dX4_issue_185 ?_
          refine lv_iconst (v := nI 1) hx hb dX4_issue_186 (by decide) ?_
          refine n_add hx hb dX4_issue_187 ?_
          refine s_calli (As := [.int (nI (t + 1)), .int (nI ((N 19 (mA N)) + 1))]) (rest := []) ⟨hx, hb, hml, hown, hts⟩ (tM_greater l (t + 1) (N 19 (mA N) + 1) (by omega) (by omega)) (va_cwS 2 hts gX4_issue_X4_greater rfl rfl rfl (by decide +kernel) ⟨Nat.le_of_ble_eq_true rfl, Nat.le_of_ble_eq_true rfl⟩) rfl hl.1 rfl (Nat.le_of_ble_eq_true rfl) dX4_issue_188 (fun r_188 hw => ?_)
          subst hw
          refine lv_istore (lv' := [(8, .int (nI (max (t + 1) (N 19 (mA N) + 1)))), (7, .int (nI (U))), (6, .int (nI (mBB N % 16))), (5, .int (nI (mA N))), (4, .int (nI (mD N))), (3, .int (nI (kdN (mCode N)))), (2, .int (nI (mCode N))), (0, .ref (a 0)), (1, .int (nI (t)))]) hx hb dX4_issue_191 hl (by decide) rfl (fun ls hl => ?_)
          exact jn_193 (max (t + 1) (N 19 (mA N) + 1)) ls (by unfold mR1; rw [if_pos (b1 c_174)]) (lv_sub hl [1, 2, 3, 4, 5, 6, 7, 8, 0] rfl)
      · have ex193 : x193 = mR1 N t := ex193
        have hl : lv_has ls 14 [(7, .int (nI (U))), (6, .int (nI (mBB N % 16))), (5, .int (nI (mA N))), (4, .int (nI (mD N))), (3, .int (nI (kdN (mCode N)))), (2, .int (nI (mCode N))), (0, .ref (a 0)), (1, .int (nI (t))), (8, .int (nI (x193)))] := hl
        have bx193 : x193 < 1073741826 := by rw [ex193]; unfold mR1; split <;> omega
        refine w_join (X := Nat) (P := fun x216 => x216 = mR2 N t) (pj := 216) (nL := 14) (lv := fun x216 => [(7, .int (nI (U))), (6, .int (nI (mBB N % 16))), (5, .int (nI (mA N))), (4, .int (nI (mD N))), (3, .int (nI (kdN (mCode N)))), (2, .int (nI (mCode N))), (0, .ref (a 0)), (1, .int (nI (t))), (8, .int (nI (x216)))]) (st := fun x216 => []) (fun jn_216 => ?_) (fun x216 ls ex216 hl => ?_)
        · refine lv_iload_n hx hb dX4_issue_193 rfl (lv_at hl 5 rfl) ?_
          refine s_calli (As := [.int (nI (mCode N))]) (rest := []) ⟨hx, hb, hml, hown, hts⟩ (tM_readsB l (mCode N) (by omega)) (va_cwS 1 hts gX4_issue_X4_readsB rfl rfl rfl (by decide +kernel) ⟨Nat.le_of_ble_eq_true rfl, Nat.le_of_ble_eq_true rfl⟩) rfl hl.1 rfl (Nat.le_of_ble_eq_true rfl) dX4_issue_194 (fun r_194 hw => ?_)
          subst hw
          refine n_if_eq (tgt := 216) hx hb bL dX4_issue_197 (by decide) (fun c_197 => ?_) (fun c_197 => ?_)
          · exact jn_216 x193 ls (by unfold mR2; rw [if_neg (b0 c_197), ex193]) (lv_sub hl [0, 1, 2, 3, 4, 5, 6, 7, 8] rfl)
          · refine lv_iload hx hb dX4_issue_200 (lv_at hl 8 rfl) ?_
            refine lv_aload_n hx hb dX4_issue_202 rfl (lv_at hl 6 rfl) ?_
            refine mg_19 hx hb hts hi4 hown hK hP k41 dX4_issue_203 ?_
            refine lv_iload hx hb dX4_issue_206 (lv_at hl 1 rfl) ?_
            refine ml_19 (v := N 19 (mBB N % 16)) hx hb hK hP (by omega) (congrFun (eN2 19 (by decide)) (mBB N % 16)) dX4_issue_208 ?_
            refine lv_iconst (v := nI 1) hx hb dX4_issue_209 (by decide) ?_
            refine n_add hx hb dX4_issue_210 ?_
            refine s_calli (As := [.int (nI (x193)), .int (nI ((N 19 (mBB N % 16)) + 1))]) (rest := []) ⟨hx, hb, hml, hown, hts⟩ (tM_greater l (x193) (N 19 (mBB N % 16) + 1) (by omega) (by omega)) (va_cwS 2 hts gX4_issue_X4_greater rfl rfl rfl (by decide +kernel) ⟨Nat.le_of_ble_eq_true rfl, Nat.le_of_ble_eq_true rfl⟩) rfl hl.1 rfl (Nat.le_of_ble_eq_true rfl) dX4_issue_211 (fun r_211 hw => ?_)
            subst hw
            refine lv_istore (lv' := [(8, .int (nI (max (x193) (N 19 (mBB N % 16) + 1)))), (7, .int (nI (U))), (6, .int (nI (mBB N % 16))), (5, .int (nI (mA N))), (4, .int (nI (mD N))), (3, .int (nI (kdN (mCode N)))), (2, .int (nI (mCode N))), (0, .ref (a 0)), (1, .int (nI (t)))]) hx hb dX4_issue_214 hl (by decide) rfl (fun ls hl => ?_)
            exact jn_216 (max (x193) (N 19 (mBB N % 16) + 1)) ls (by unfold mR2; rw [if_pos (b1 c_197), ex193]) (lv_sub hl [1, 2, 3, 4, 5, 6, 7, 8, 0] rfl)
        · have ex216 : x216 = mR2 N t := ex216
          have hl : lv_has ls 14 [(7, .int (nI (U))), (6, .int (nI (mBB N % 16))), (5, .int (nI (mA N))), (4, .int (nI (mD N))), (3, .int (nI (kdN (mCode N)))), (2, .int (nI (mCode N))), (0, .ref (a 0)), (1, .int (nI (t))), (8, .int (nI (x216)))] := hl
          have bx216 : x216 < 1073741826 := by rw [ex216]; unfold mR2; split <;> omega
          refine w_join (X := Nat) (P := fun x238 => x238 = mR3 N t) (pj := 238) (nL := 14) (lv := fun x238 => [(7, .int (nI (U))), (6, .int (nI (mBB N % 16))), (5, .int (nI (mA N))), (4, .int (nI (mD N))), (3, .int (nI (kdN (mCode N)))), (2, .int (nI (mCode N))), (0, .ref (a 0)), (1, .int (nI (t))), (8, .int (nI (x238)))]) (st := fun x238 => []) (fun jn_238 => ?_) (fun x238 ls ex238 hl => ?_)
          · refine lv_iload_n hx hb dX4_issue_216 rfl (lv_at hl 5 rfl) ?_
            refine lv_bipush (v := nI 15) hx hb dX4_issue_217 (by decide) ?_
            refine n_icmp_ne (tgt := 238) hx hb (by omega) (by omega) dX4_issue_219 (by decide) (fun c_219 => ?_) (fun c_219 => ?_)
            · exact jn_238 x216 ls (by unfold mR3; rw [if_neg c_219, ex216]) (lv_sub hl [0, 1, 2, 3, 4, 5, 6, 7, 8] rfl)
            · refine lv_iload hx hb dX4_issue_222 (lv_at hl 8 rfl) ?_
              refine lv_aload_n hx hb dX4_issue_224 rfl (lv_at hl 6 rfl) ?_
              refine mg_19 hx hb hts hi4 hown hK hP k41 dX4_issue_225 ?_
              refine lv_iload hx hb dX4_issue_228 (lv_at hl 3 rfl) ?_
              refine ml_19 (v := N 19 (mD N)) hx hb hK hP hp0.2.1 (congrFun (eN2 19 (by decide)) (mD N)) dX4_issue_230 ?_
              refine lv_iconst (v := nI 1) hx hb dX4_issue_231 (by decide) ?_
              refine n_add hx hb dX4_issue_232 ?_
              refine s_calli (As := [.int (nI (x216)), .int (nI ((N 19 (mD N)) + 1))]) (rest := []) ⟨hx, hb, hml, hown, hts⟩ (tM_greater l (x216) (N 19 (mD N) + 1) (by omega) (by omega)) (va_cwS 2 hts gX4_issue_X4_greater rfl rfl rfl (by decide +kernel) ⟨Nat.le_of_ble_eq_true rfl, Nat.le_of_ble_eq_true rfl⟩) rfl hl.1 rfl (Nat.le_of_ble_eq_true rfl) dX4_issue_233 (fun r_233 hw => ?_)
              subst hw
              refine lv_istore (lv' := [(8, .int (nI (max (x216) (N 19 (mD N) + 1)))), (7, .int (nI (U))), (6, .int (nI (mBB N % 16))), (5, .int (nI (mA N))), (4, .int (nI (mD N))), (3, .int (nI (kdN (mCode N)))), (2, .int (nI (mCode N))), (0, .ref (a 0)), (1, .int (nI (t)))]) hx hb dX4_issue_236 hl (by decide) rfl (fun ls hl => ?_)
              exact jn_238 (max (x216) (N 19 (mD N) + 1)) ls (by unfold mR3; rw [if_pos c_219, ex216]) (lv_sub hl [1, 2, 3, 4, 5, 6, 7, 8, 0] rfl)
          · have ex238 : x238 = mR3 N t := ex238
            have hl : lv_has ls 14 [(7, .int (nI (U))), (6, .int (nI (mBB N % 16))), (5, .int (nI (mA N))), (4, .int (nI (mD N))), (3, .int (nI (kdN (mCode N)))), (2, .int (nI (mCode N))), (0, .ref (a 0)), (1, .int (nI (t))), (8, .int (nI (x238)))] := hl
            have bx238 : x238 < 1073741826 := by rw [ex238]; unfold mR3; split <;> omega
            refine lv_iload hx hb dX4_issue_238 (lv_at hl 8 rfl) ?_
            refine lv_aload_n hx hb dX4_issue_240 rfl (lv_at hl 6 rfl) ?_
            refine mg_2 hx hb hts hi4 hown hK hP k16 dX4_issue_241 ?_
            refine lv_iload_n hx hb dX4_issue_244 rfl (lv_at hl 4 rfl) ?_
            refine ml_2 (v := N 2 (kdN (mCode N))) hx hb hK hP hkd (congrFun (eN2 2 (by decide)) (kdN (mCode N))) dX4_issue_245 ?_
            refine n_add hx hb dX4_issue_246 ?_
            obtain ⟨dn, edn⟩ : ∃ z : Nat, z = x238 + (N 2 (kdN (mCode N))) := ⟨_, rfl⟩
            rw [← edn]
            refine lv_istore (lv' := [(9, .int (nI (dn))), (7, .int (nI (U))), (6, .int (nI (mBB N % 16))), (5, .int (nI (mA N))), (4, .int (nI (mD N))), (3, .int (nI (kdN (mCode N)))), (2, .int (nI (mCode N))), (0, .ref (a 0)), (1, .int (nI (t))), (8, .int (nI (x238)))]) hx hb dX4_issue_247 hl (by decide) rfl (fun ls hl => ?_)
            have hdn : dn = mDn N t := by rw [edn, ex238]; rfl
            refine lv_iload hx hb dX4_issue_249 (lv_at hl 0 rfl) ?_
            refine lv_iconst (v := nI 1) hx hb dX4_issue_251 (by decide) ?_
            refine n_add hx hb dX4_issue_252 ?_
            refine lv_istore (lv' := [(10, .int (nI (dn + 1))), (9, .int (nI (dn))), (7, .int (nI (U))), (6, .int (nI (mBB N % 16))), (5, .int (nI (mA N))), (4, .int (nI (mD N))), (3, .int (nI (kdN (mCode N)))), (2, .int (nI (mCode N))), (0, .ref (a 0)), (1, .int (nI (t))), (8, .int (nI (x238)))]) hx hb dX4_issue_253 hl (by decide) rfl (fun ls hl => ?_)
            refine w_join (X := Nat) (P := fun x278 => x278 = mWn N t) (pj := 278) (nL := 14) (lv := fun x278 => [(9, .int (nI (dn))), (7, .int (nI (U))), (6, .int (nI (mBB N % 16))), (5, .int (nI (mA N))), (4, .int (nI (mD N))), (3, .int (nI (kdN (mCode N)))), (2, .int (nI (mCode N))), (0, .ref (a 0)), (1, .int (nI (t))), (8, .int (nI (x238))), (10, .int (nI (x278)))]) (st := fun x278 => []) (fun jn_278 => ?_) (fun x278 ls ex278 hl => ?_)
            · refine lv_iload_n hx hb dX4_issue_255 rfl (lv_at hl 7 rfl) ?_
              refine s_calli (As := [.int (nI (mCode N))]) (rest := []) ⟨hx, hb, hml, hown, hts⟩ (tM_writes l (mCode N) (by omega)) (va_cwS 1 hts gX4_issue_X4_writes rfl rfl rfl (by decide +kernel) ⟨Nat.le_of_ble_eq_true rfl, Nat.le_of_ble_eq_true rfl⟩) rfl hl.1 rfl (Nat.le_of_ble_eq_true rfl) dX4_issue_256 (fun r_256 hw => ?_)
              subst hw
              refine n_if_eq (tgt := 278) hx hb bL dX4_issue_259 (by decide) (fun c_259 => ?_) (fun c_259 => ?_)
              · exact jn_278 (dn + 1) ls (by unfold mWn; rw [if_neg (b0 c_259), ← hdn]) (lv_sub hl [1, 2, 3, 4, 5, 6, 7, 8, 9, 10, 0] rfl)
              · refine lv_iload hx hb dX4_issue_262 (lv_at hl 0 rfl) ?_
                refine lv_aload_n hx hb dX4_issue_264 rfl (lv_at hl 8 rfl) ?_
                refine mg_21 hx hb hts hi4 hown hK hP k47 dX4_issue_265 ?_
                refine lv_iload hx hb dX4_issue_268 (lv_at hl 5 rfl) ?_
                refine ml_21 (v := N 21 (mD N)) hx hb hK hP hp0.2.1 (congrFun (eN2 21 (by decide)) (mD N)) dX4_issue_270 ?_
                refine lv_iconst (v := nI 1) hx hb dX4_issue_271 (by decide) ?_
                refine n_add hx hb dX4_issue_272 ?_
                refine s_calli (As := [.int (nI (dn + 1)), .int (nI ((N 21 (mD N)) + 1))]) (rest := []) ⟨hx, hb, hml, hown, hts⟩ (tM_greater l (dn + 1) (N 21 (mD N) + 1) (by omega) (by omega)) (va_cwS 2 hts gX4_issue_X4_greater rfl rfl rfl (by decide +kernel) ⟨Nat.le_of_ble_eq_true rfl, Nat.le_of_ble_eq_true rfl⟩) rfl hl.1 rfl (Nat.le_of_ble_eq_true rfl) dX4_issue_273 (fun r_273 hw => ?_)
                subst hw
                refine lv_istore (lv' := [(10, .int (nI (max (dn + 1) (N 21 (mD N) + 1)))), (9, .int (nI (dn))), (7, .int (nI (U))), (6, .int (nI (mBB N % 16))), (5, .int (nI (mA N))), (4, .int (nI (mD N))), (3, .int (nI (kdN (mCode N)))), (2, .int (nI (mCode N))), (0, .ref (a 0)), (1, .int (nI (t))), (8, .int (nI (x238)))]) hx hb dX4_issue_276 hl (by decide) rfl (fun ls hl => ?_)
                exact jn_278 (max (dn + 1) (N 21 (mD N) + 1)) ls (by unfold mWn; rw [if_pos (b1 c_259), ← hdn]) (lv_sub hl [1, 2, 3, 4, 5, 6, 7, 8, 9, 10, 0] rfl)
            · have ex278 : x278 = mWn N t := ex278
              have hl : lv_has ls 14 [(9, .int (nI (dn))), (7, .int (nI (U))), (6, .int (nI (mBB N % 16))), (5, .int (nI (mA N))), (4, .int (nI (mD N))), (3, .int (nI (kdN (mCode N)))), (2, .int (nI (mCode N))), (0, .ref (a 0)), (1, .int (nI (t))), (8, .int (nI (x238))), (10, .int (nI (x278)))] := hl
              have bx278 : x278 < 1073741900 := by rw [ex278]; unfold mWn; rw [← hdn]; split <;> omega
              refine w_joinH (X := Nat → Nat → Nat) (dC := dC) (dI := dI) (A := aA (mL a) s.heap.size) (H0 := s.heap) (Wf := mF a cI cL cZ) (u := fun x304 => (x304, J2)) (P := fun x304 => x304 = mI3a N N2 x238) (pj := 304) (nL := 14) (lv := fun x304 => [(9, .int (nI (dn))), (7, .int (nI (U))), (6, .int (nI (mBB N % 16))), (5, .int (nI (mA N))), (4, .int (nI (mD N))), (3, .int (nI (kdN (mCode N)))), (2, .int (nI (mCode N))), (0, .ref (a 0)), (1, .int (nI (t))), (8, .int (nI (x238))), (10, .int (nI (x278)))]) (st := fun x304 => []) (fun jn_304 => ?_) (fun x304 ls H locs ex304 hl hP hD hS => ?_)
              · refine lv_iload_n hx hb dX4_issue_278 rfl (lv_at hl 6 rfl) ?_
                refine s_calli (As := [.int (nI (mCode N))]) (rest := []) ⟨hx, hb, hml, hown, hts⟩ (tM_readsA l (mCode N) (by omega)) (va_cwS 1 hts gX4_issue_X4_readsA rfl rfl rfl (by decide +kernel) ⟨Nat.le_of_ble_eq_true rfl, Nat.le_of_ble_eq_true rfl⟩) rfl hl.1 rfl (Nat.le_of_ble_eq_true rfl) dX4_issue_279 (fun r_279 hw => ?_)
                subst hw
                refine n_if_eq (tgt := 304) hx hb bL dX4_issue_282 (by decide) (fun c_282 => ?_) (fun c_282 => ?_)
                · exact jn_304 (N2) ls _ _ (by unfold mI3a; rw [if_neg (b0 c_282)]) (lv_sub hl [0, 1, 2, 3, 4, 5, 6, 7, 8, 9, 10] rfl) hP hD hS
                · refine lv_aload_n hx hb dX4_issue_285 rfl (lv_at hl 7 rfl) ?_
                  refine mg_21 hx hb hts hi4 hown hK hP k47 dX4_issue_286 ?_
                  refine lv_iload hx hb dX4_issue_289 (lv_at hl 3 rfl) ?_
                  refine lv_aload_n hx hb dX4_issue_291 rfl (lv_at hl 7 rfl) ?_
                  refine mg_21 hx hb hts hi4 hown hK hP k47 dX4_issue_292 ?_
                  refine lv_iload hx hb dX4_issue_295 (lv_at hl 3 rfl) ?_
                  refine ml_21 (v := N2 21 (mA N)) hx hb hK hP hp0.2.2.1 rfl dX4_issue_297 ?_
                  refine lv_iload hx hb dX4_issue_298 (lv_at hl 9 rfl) ?_
                  refine s_calli (As := [.int (nI (N2 21 (mA N))), .int (nI (x238))]) (rest := [.int (nI (mA N)), .ref (a 13)]) ⟨hx, hb, hml, hown, hts⟩ (tM_greater l (N2 21 (mA N)) x238 (by rw [eN2 21 (by decide)]; omega) (by omega)) (va_cwS 2 hts gX4_issue_X4_greater rfl rfl rfl (by decide +kernel) ⟨Nat.le_of_ble_eq_true rfl, Nat.le_of_ble_eq_true rfl⟩) rfl hl.1 rfl (Nat.le_of_ble_eq_true rfl) dX4_issue_300 (fun r_300 hw => ?_)
                  subst hw
                  refine ms_21 hx hb hK hP hD hS hp0.2.2.1 dX4_issue_303 (fun H locs hP hD hS => ?_)
                  exact jn_304 (uN N2 21 (mA N) (max (N2 21 (mA N)) x238)) ls _ _ (by unfold mI3a; rw [if_pos (b1 c_282)]) (lv_sub hl [0, 1, 2, 3, 4, 5, 6, 7, 8, 9, 10] rfl) hP hD hS
              · have ex304 : x304 = mI3a N N2 x238 := ex304
                have hl : lv_has ls 14 [(9, .int (nI (dn))), (7, .int (nI (U))), (6, .int (nI (mBB N % 16))), (5, .int (nI (mA N))), (4, .int (nI (mD N))), (3, .int (nI (kdN (mCode N)))), (2, .int (nI (mCode N))), (0, .ref (a 0)), (1, .int (nI (t))), (8, .int (nI (x238))), (10, .int (nI (x278)))] := hl
                have hP : va_P (dC, dI) vwCl (mW a cI cL cZ x304 J2) H := hP
                have hD : va_D (aA (mL a) s.heap.size) (mW a cI cL cZ x304 J2) := hD
                have qx304 : ∀ f, (f ≠ 24 ∧ f ≠ 18 ∧ f ≠ 21) → x304 f = N f := fun f hf => by rw [ex304, mI3a_o hf.2.2]; exact eN2 f ⟨hf.1, hf.2.1⟩
                have bx304 : ∀ j, j < 16 → x304 21 j < 1073741826 := by rw [ex304]; exact mI3a_b hp0.2.2.1 (fun j hj => by rw [eN2 21 (by decide)]; have := (hrg j hj).2; omega) bx238
                refine w_joinH (X := Nat → Nat → Nat) (dC := dC) (dI := dI) (A := aA (mL a) s.heap.size) (H0 := s.heap) (Wf := mF a cI cL cZ) (u := fun x330 => (x330, J2)) (P := fun x330 => x330 = mI3b N x304 x238) (pj := 330) (nL := 14) (lv := fun x330 => [(9, .int (nI (dn))), (7, .int (nI (U))), (6, .int (nI (mBB N % 16))), (5, .int (nI (mA N))), (4, .int (nI (mD N))), (3, .int (nI (kdN (mCode N)))), (2, .int (nI (mCode N))), (0, .ref (a 0)), (1, .int (nI (t))), (8, .int (nI (x238))), (10, .int (nI (x278)))]) (st := fun x330 => []) (fun jn_330 => ?_) (fun x330 ls H locs ex330 hl hP hD hS => ?_)
                · refine lv_iload_n hx hb dX4_issue_304 rfl (lv_at hl 6 rfl) ?_
                  refine s_calli (As := [.int (nI (mCode N))]) (rest := []) ⟨hx, hb, hml, hown, hts⟩ (tM_readsB l (mCode N) (by omega)) (va_cwS 1 hts gX4_issue_X4_readsB rfl rfl rfl (by decide +kernel) ⟨Nat.le_of_ble_eq_true rfl, Nat.le_of_ble_eq_true rfl⟩) rfl hl.1 rfl (Nat.le_of_ble_eq_true rfl) dX4_issue_305 (fun r_305 hw => ?_)
                  subst hw
                  refine n_if_eq (tgt := 330) hx hb bL dX4_issue_308 (by decide) (fun c_308 => ?_) (fun c_308 => ?_)
                  · exact jn_330 (x304) ls _ _ (by unfold mI3b; rw [if_neg (b0 c_308)]) (lv_sub hl [0, 1, 2, 3, 4, 5, 6, 7, 8, 9, 10] rfl) hP hD hS
                  · refine lv_aload_n hx hb dX4_issue_311 rfl (lv_at hl 7 rfl) ?_
                    refine mg_21 hx hb hts hi4 hown hK hP k47 dX4_issue_312 ?_
                    refine lv_iload hx hb dX4_issue_315 (lv_at hl 2 rfl) ?_
                    refine lv_aload_n hx hb dX4_issue_317 rfl (lv_at hl 7 rfl) ?_
                    refine mg_21 hx hb hts hi4 hown hK hP k47 dX4_issue_318 ?_
                    refine lv_iload hx hb dX4_issue_321 (lv_at hl 2 rfl) ?_
                    refine ml_21 (v := x304 21 (mBB N % 16)) hx hb hK hP (by omega) rfl dX4_issue_323 ?_
                    refine lv_iload hx hb dX4_issue_324 (lv_at hl 9 rfl) ?_
                    refine s_calli (As := [.int (nI (x304 21 (mBB N % 16))), .int (nI (x238))]) (rest := [.int (nI (mBB N % 16)), .ref (a 13)]) ⟨hx, hb, hml, hown, hts⟩ (tM_greater l (x304 21 (mBB N % 16)) x238 (by have := bx304 (mBB N % 16) (by omega); omega) (by omega)) (va_cwS 2 hts gX4_issue_X4_greater rfl rfl rfl (by decide +kernel) ⟨Nat.le_of_ble_eq_true rfl, Nat.le_of_ble_eq_true rfl⟩) rfl hl.1 rfl (Nat.le_of_ble_eq_true rfl) dX4_issue_326 (fun r_326 hw => ?_)
                    subst hw
                    refine ms_21 hx hb hK hP hD hS (by omega) dX4_issue_329 (fun H locs hP hD hS => ?_)
                    exact jn_330 (uN x304 21 (mBB N % 16) (max (x304 21 (mBB N % 16)) x238)) ls _ _ (by unfold mI3b; rw [if_pos (b1 c_308)]) (lv_sub hl [0, 1, 2, 3, 4, 5, 6, 7, 8, 9, 10] rfl) hP hD hS
                · have ex330 : x330 = mI3b N x304 x238 := ex330
                  have hl : lv_has ls 14 [(9, .int (nI (dn))), (7, .int (nI (U))), (6, .int (nI (mBB N % 16))), (5, .int (nI (mA N))), (4, .int (nI (mD N))), (3, .int (nI (kdN (mCode N)))), (2, .int (nI (mCode N))), (0, .ref (a 0)), (1, .int (nI (t))), (8, .int (nI (x238))), (10, .int (nI (x278)))] := hl
                  have hP : va_P (dC, dI) vwCl (mW a cI cL cZ x330 J2) H := hP
                  have hD : va_D (aA (mL a) s.heap.size) (mW a cI cL cZ x330 J2) := hD
                  have qx330 : ∀ f, (f ≠ 24 ∧ f ≠ 18 ∧ f ≠ 21) → x330 f = N f := fun f hf => by rw [ex330, mI3b_o hf.2.2]; exact qx304 f hf
                  have bx330 : ∀ j, j < 16 → x330 21 j < 1073741826 := by rw [ex330]; exact mI3b_b bx304 bx238
                  refine w_joinH (X := Nat → Nat → Nat) (dC := dC) (dI := dI) (A := aA (mL a) s.heap.size) (H0 := s.heap) (Wf := mF a cI cL cZ) (u := fun x355 => (x355, J2)) (P := fun x355 => x355 = mI3c N x330 x238) (pj := 355) (nL := 14) (lv := fun x355 => [(9, .int (nI (dn))), (7, .int (nI (U))), (6, .int (nI (mBB N % 16))), (5, .int (nI (mA N))), (4, .int (nI (mD N))), (3, .int (nI (kdN (mCode N)))), (2, .int (nI (mCode N))), (0, .ref (a 0)), (1, .int (nI (t))), (8, .int (nI (x238))), (10, .int (nI (x278)))]) (st := fun x355 => []) (fun jn_355 => ?_) (fun x355 ls H locs ex355 hl hP hD hS => ?_)
                  · refine lv_iload_n hx hb dX4_issue_330 rfl (lv_at hl 6 rfl) ?_
                    refine lv_bipush (v := nI 15) hx hb dX4_issue_331 (by decide) ?_
                    refine n_icmp_ne (tgt := 355) hx hb (by omega) (by omega) dX4_issue_333 (by decide) (fun c_333 => ?_) (fun c_333 => ?_)
                    · exact jn_355 (x330) ls _ _ (by unfold mI3c; rw [if_neg c_333]) (lv_sub hl [0, 1, 2, 3, 4, 5, 6, 7, 8, 9, 10] rfl) hP hD hS
                    · refine lv_aload_n hx hb dX4_issue_336 rfl (lv_at hl 7 rfl) ?_
                      refine mg_21 hx hb hts hi4 hown hK hP k47 dX4_issue_337 ?_
                      refine lv_iload hx hb dX4_issue_340 (lv_at hl 4 rfl) ?_
                      refine lv_aload_n hx hb dX4_issue_342 rfl (lv_at hl 7 rfl) ?_
                      refine mg_21 hx hb hts hi4 hown hK hP k47 dX4_issue_343 ?_
                      refine lv_iload hx hb dX4_issue_346 (lv_at hl 4 rfl) ?_
                      refine ml_21 (v := x330 21 (mD N)) hx hb hK hP hp0.2.1 rfl dX4_issue_348 ?_
                      refine lv_iload hx hb dX4_issue_349 (lv_at hl 9 rfl) ?_
                      refine s_calli (As := [.int (nI (x330 21 (mD N))), .int (nI (x238))]) (rest := [.int (nI (mD N)), .ref (a 13)]) ⟨hx, hb, hml, hown, hts⟩ (tM_greater l (x330 21 (mD N)) x238 (by have := bx330 (mD N) hp0.2.1; omega) (by omega)) (va_cwS 2 hts gX4_issue_X4_greater rfl rfl rfl (by decide +kernel) ⟨Nat.le_of_ble_eq_true rfl, Nat.le_of_ble_eq_true rfl⟩) rfl hl.1 rfl (Nat.le_of_ble_eq_true rfl) dX4_issue_351 (fun r_351 hw => ?_)
                      subst hw
                      refine ms_21 hx hb hK hP hD hS hp0.2.1 dX4_issue_354 (fun H locs hP hD hS => ?_)
                      exact jn_355 (uN x330 21 (mD N) (max (x330 21 (mD N)) x238)) ls _ _ (by unfold mI3c; rw [if_pos c_333]) (lv_sub hl [0, 1, 2, 3, 4, 5, 6, 7, 8, 9, 10] rfl) hP hD hS
                  · have ex355 : x355 = mI3c N x330 x238 := ex355
                    have hl : lv_has ls 14 [(9, .int (nI (dn))), (7, .int (nI (U))), (6, .int (nI (mBB N % 16))), (5, .int (nI (mA N))), (4, .int (nI (mD N))), (3, .int (nI (kdN (mCode N)))), (2, .int (nI (mCode N))), (0, .ref (a 0)), (1, .int (nI (t))), (8, .int (nI (x238))), (10, .int (nI (x278)))] := hl
                    have hP : va_P (dC, dI) vwCl (mW a cI cL cZ x355 J2) H := hP
                    have hD : va_D (aA (mL a) s.heap.size) (mW a cI cL cZ x355 J2) := hD
                    have qx355 : ∀ f, (f ≠ 24 ∧ f ≠ 18 ∧ f ≠ 21) → x355 f = N f := fun f hf => by rw [ex355, mI3c_o hf.2.2]; exact qx330 f hf
                    refine w_join (X := Nat) (P := fun x395 => x395 = mCl N J) (pj := 395) (nL := 14) (lv := fun x395 => [(9, .int (nI (dn))), (7, .int (nI (U))), (6, .int (nI (mBB N % 16))), (5, .int (nI (mA N))), (4, .int (nI (mD N))), (3, .int (nI (kdN (mCode N)))), (2, .int (nI (mCode N))), (0, .ref (a 0)), (1, .int (nI (t))), (8, .int (nI (x238))), (10, .int (nI (x278)))]) (st := fun x395 => [.int (nI (x395))]) (fun jn_395 => ?_) (fun x395 ls ex395 hl => ?_)
                    · refine lv_iload_n hx hb dX4_issue_355 rfl (lv_at hl 6 rfl) ?_
                      refine lv_bipush (v := nI 15) hx hb dX4_issue_356 (by decide) ?_
                      refine n_icmp_ne (tgt := 394) hx hb (by omega) (by omega) dX4_issue_358 (by decide) (fun c_358 => ?_) (fun c_358 => ?_)
                      · refine lv_iconst (v := nI 4294967295) hx hb dX4_issue_394 (by decide) ?_
                        exact jn_395 4294967295 ls (by unfold mCl; rw [if_neg c_358]) (lv_sub hl [0, 1, 2, 3, 4, 5, 6, 7, 8, 9, 10] rfl)
                      · refine lv_bipush (v := nI 16) hx hb dX4_issue_361 (by decide) ?_
                        refine lv_aload_n hx hb dX4_issue_363 rfl (lv_at hl 7 rfl) ?_
                        refine mg_6 hx hb hts hi4 hown hK hP k26 dX4_issue_364 ?_
                        refine lv_iload hx hb dX4_issue_367 (lv_at hl 3 rfl) ?_
                        refine ml_6 (v := J 6 (mA N)) hx hb hK hP hp0.2.2.1 (congrFun (eJ2 6 (by decide)) (mA N)) dX4_issue_369 ?_
                        refine lv_aload_n hx hb dX4_issue_370 rfl (lv_at hl 7 rfl) ?_
                        refine mg_0 hx hb hts hi4 hown hK hP k9 dX4_issue_371 ?_
                        refine lv_iconst (v := nI 4) hx hb dX4_issue_374 (by decide) ?_
                        refine lv_aload_n hx hb dX4_issue_375 rfl (lv_at hl 7 rfl) ?_
                        refine mg_8 (v := N 8 0) hx hb hts hi4 hown hK hP k86 (congrFun (qx355 8 (by decide)) 0) dX4_issue_376 ?_
                        refine n_mul hx hb dX4_issue_379 ?_
                        refine lv_iconst (v := nI 3) hx hb dX4_issue_380 (by decide) ?_
                        refine n_add hx hb dX4_issue_381 ?_
                        refine ml_0 (v := mBB N) hx hb hK hP (by omega) (by have z1 := qx355 8 (by decide); have z2 := qx355 0 (by decide); rw [z2]; rfl) dX4_issue_382 ?_
                        refine lv_i2l (v := ((nI (mBB N))).toInt64) hx hb dX4_issue_383 rfl ?_
                        refine lv_ladd hx hb dX4_issue_384 ?_
                        refine lv_ldc2 (v := 255) hx hb hown (hts (.constantLong RX4 131 (255)) (by decide +kernel)) dX4_issue_385 ?_
                        refine lv_land hx hb dX4_issue_388 ?_
                        refine lv_l2i (v := nI (clN (J 6 (mA N) + (nI (mBB N)).toInt64))) hx hb dX4_issue_389 (clN_eq _) ?_
                        refine n_add hx hb dX4_issue_390 ?_
                        refine lv_goto (tgt := 395) hx hb dX4_issue_391 (by decide) ?_
                        exact jn_395 (16 + (clN (J 6 (mA N) + (nI (mBB N)).toInt64))) ls (by unfold mCl; rw [if_pos c_358]) (lv_sub hl [0, 1, 2, 3, 4, 5, 6, 7, 8, 9, 10] rfl)
                    · have ex395 : x395 = mCl N J := ex395
                      have hl : lv_has ls 14 [(9, .int (nI (dn))), (7, .int (nI (U))), (6, .int (nI (mBB N % 16))), (5, .int (nI (mA N))), (4, .int (nI (mD N))), (3, .int (nI (kdN (mCode N)))), (2, .int (nI (mCode N))), (0, .ref (a 0)), (1, .int (nI (t))), (8, .int (nI (x238))), (10, .int (nI (x278)))] := hl
                      refine lv_istore (lv' := [(11, .int (nI (x395))), (9, .int (nI (dn))), (7, .int (nI (U))), (6, .int (nI (mBB N % 16))), (5, .int (nI (mA N))), (4, .int (nI (mD N))), (3, .int (nI (kdN (mCode N)))), (2, .int (nI (mCode N))), (0, .ref (a 0)), (1, .int (nI (t))), (8, .int (nI (x238))), (10, .int (nI (x278)))]) hx hb dX4_issue_395 hl (by decide) rfl (fun ls hl => ?_)
                      refine lv_aload_n hx hb dX4_issue_397 rfl (lv_at hl 8 rfl) ?_
                      refine mg_22 hx hb hts hi4 hown hK hP k50 dX4_issue_398 ?_
                      refine lv_bipush (v := nI 7) hx hb dX4_issue_401 (by decide) ?_
                      refine lv_iload hx hb dX4_issue_403 (lv_at hl 2 rfl) ?_
                      refine n_mul hx hb dX4_issue_405 ?_
                      refine lv_aload_n hx hb dX4_issue_406 rfl (lv_at hl 8 rfl) ?_
                      refine mg_8 (v := N 8 0) hx hb hts hi4 hown hK hP k86 (congrFun (qx355 8 (by decide)) 0) dX4_issue_407 ?_
                      refine ms_22 hx hb hK hP hD hS (by omega) dX4_issue_410 (fun H locs hP hD hS => ?_)
                      refine lv_aload_n hx hb dX4_issue_411 rfl (lv_at hl 8 rfl) ?_
                      refine mg_22 hx hb hts hi4 hown hK hP k50 dX4_issue_412 ?_
                      refine lv_bipush (v := nI 7) hx hb dX4_issue_415 (by decide) ?_
                      refine lv_iload hx hb dX4_issue_417 (lv_at hl 2 rfl) ?_
                      refine n_mul hx hb dX4_issue_419 ?_
                      refine lv_iconst (v := nI 1) hx hb dX4_issue_420 (by decide) ?_
                      refine n_add hx hb dX4_issue_421 ?_
                      refine lv_aload_n hx hb dX4_issue_422 rfl (lv_at hl 8 rfl) ?_
                      refine mg_13 (v := N 13 0) hx hb hts hi4 hown hK hP k83 (congrFun (qx355 13 (by decide)) 0) dX4_issue_423 ?_
                      refine ms_22 hx hb hK hP hD hS (by omega) dX4_issue_426 (fun H locs hP hD hS => ?_)
                      refine lv_aload_n hx hb dX4_issue_427 rfl (lv_at hl 8 rfl) ?_
                      refine mg_22 hx hb hts hi4 hown hK hP k50 dX4_issue_428 ?_
                      refine lv_bipush (v := nI 7) hx hb dX4_issue_431 (by decide) ?_
                      refine lv_iload hx hb dX4_issue_433 (lv_at hl 2 rfl) ?_
                      refine n_mul hx hb dX4_issue_435 ?_
                      refine lv_iconst (v := nI 2) hx hb dX4_issue_436 (by decide) ?_
                      refine n_add hx hb dX4_issue_437 ?_
                      refine lv_iload_n hx hb dX4_issue_438 rfl (lv_at hl 9 rfl) ?_
                      refine ms_22 hx hb hK hP hD hS (by omega) dX4_issue_439 (fun H locs hP hD hS => ?_)
                      refine lv_aload_n hx hb dX4_issue_440 rfl (lv_at hl 8 rfl) ?_
                      refine mg_22 hx hb hts hi4 hown hK hP k50 dX4_issue_441 ?_
                      refine lv_bipush (v := nI 7) hx hb dX4_issue_444 (by decide) ?_
                      refine lv_iload hx hb dX4_issue_446 (lv_at hl 2 rfl) ?_
                      refine n_mul hx hb dX4_issue_448 ?_
                      refine lv_iconst (v := nI 3) hx hb dX4_issue_449 (by decide) ?_
                      refine n_add hx hb dX4_issue_450 ?_
                      refine lv_iload hx hb dX4_issue_451 (lv_at hl 10 rfl) ?_
                      refine ms_22 hx hb hK hP hD hS (by omega) dX4_issue_453 (fun H locs hP hD hS => ?_)
                      refine lv_aload_n hx hb dX4_issue_454 rfl (lv_at hl 8 rfl) ?_
                      refine mg_22 hx hb hts hi4 hown hK hP k50 dX4_issue_455 ?_
                      refine lv_bipush (v := nI 7) hx hb dX4_issue_458 (by decide) ?_
                      refine lv_iload hx hb dX4_issue_460 (lv_at hl 2 rfl) ?_
                      refine n_mul hx hb dX4_issue_462 ?_
                      refine lv_iconst (v := nI 4) hx hb dX4_issue_463 (by decide) ?_
                      refine n_add hx hb dX4_issue_464 ?_
                      refine lv_iload hx hb dX4_issue_465 (lv_at hl 1 rfl) ?_
                      refine ms_22 hx hb hK hP hD hS (by omega) dX4_issue_467 (fun H locs hP hD hS => ?_)
                      refine lv_aload_n hx hb dX4_issue_468 rfl (lv_at hl 8 rfl) ?_
                      refine mg_22 hx hb hts hi4 hown hK hP k50 dX4_issue_469 ?_
                      refine lv_bipush (v := nI 7) hx hb dX4_issue_472 (by decide) ?_
                      refine lv_iload hx hb dX4_issue_474 (lv_at hl 2 rfl) ?_
                      refine n_mul hx hb dX4_issue_476 ?_
                      refine lv_iconst (v := nI 5) hx hb dX4_issue_477 (by decide) ?_
                      refine n_add hx hb dX4_issue_478 ?_
                      refine lv_iload hx hb dX4_issue_479 (lv_at hl 11 rfl) ?_
                      refine ms_22 hx hb hK hP hD hS (by omega) dX4_issue_481 (fun H locs hP hD hS => ?_)
                      refine lv_aload_n hx hb dX4_issue_482 rfl (lv_at hl 8 rfl) ?_
                      refine mg_22 hx hb hts hi4 hown hK hP k50 dX4_issue_483 ?_
                      refine lv_bipush (v := nI 7) hx hb dX4_issue_486 (by decide) ?_
                      refine lv_iload hx hb dX4_issue_488 (lv_at hl 2 rfl) ?_
                      refine n_mul hx hb dX4_issue_490 ?_
                      refine lv_bipush (v := nI 6) hx hb dX4_issue_491 (by decide) ?_
                      refine n_add hx hb dX4_issue_493 ?_
                      refine w_join (X := Nat) (P := fun x508 => x508 = mTo N J) (pj := 508) (nL := 14) (lv := fun x508 => [(11, .int (nI (x395))), (9, .int (nI (dn))), (7, .int (nI (U))), (6, .int (nI (mBB N % 16))), (5, .int (nI (mA N))), (4, .int (nI (mD N))), (3, .int (nI (kdN (mCode N)))), (2, .int (nI (mCode N))), (0, .ref (a 0)), (1, .int (nI (t))), (8, .int (nI (x238))), (10, .int (nI (x278)))]) (st := fun x508 => [.int (nI (x508)), .int (nI ((7 * U) + 6)), .ref (a 14)]) (fun jn_508 => ?_) (fun x508 ls ex508 hl => ?_)
                      · refine lv_iload_n hx hb dX4_issue_494 rfl (lv_at hl 7 rfl) ?_
                        refine s_calli (As := [.int (nI (mCode N))]) (rest := [.int (nI ((7 * U) + 6)), .ref (a 14)]) ⟨hx, hb, hml, hown, hts⟩ (tM_writes l (mCode N) (by omega)) (va_cwS 1 hts gX4_issue_X4_writes rfl rfl rfl (by decide +kernel) ⟨Nat.le_of_ble_eq_true rfl, Nat.le_of_ble_eq_true rfl⟩) rfl hl.1 rfl (Nat.le_of_ble_eq_true rfl) dX4_issue_495 (fun r_495 hw => ?_)
                        subst hw
                        refine n_if_eq (tgt := 506) hx hb bL dX4_issue_498 (by decide) (fun c_498 => ?_) (fun c_498 => ?_)
                        · refine lv_iload hx hb dX4_issue_506 (lv_at hl 0 rfl) ?_
                          exact jn_508 x395 ls (by unfold mTo; rw [if_neg (b0 c_498), ← ex395]) (lv_sub hl [0, 1, 2, 3, 4, 5, 6, 7, 8, 9, 10, 11] rfl)
                        · refine lv_iload hx hb dX4_issue_501 (lv_at hl 5 rfl) ?_
                          refine lv_goto (tgt := 508) hx hb dX4_issue_503 (by decide) ?_
                          exact jn_508 (mD N) ls (by unfold mTo; rw [if_pos (b1 c_498)]) (lv_sub hl [0, 1, 2, 3, 4, 5, 6, 7, 8, 9, 10, 11] rfl)
                      · have ex508 : x508 = mTo N J := ex508
                        have hl : lv_has ls 14 [(11, .int (nI (x395))), (9, .int (nI (dn))), (7, .int (nI (U))), (6, .int (nI (mBB N % 16))), (5, .int (nI (mA N))), (4, .int (nI (mD N))), (3, .int (nI (kdN (mCode N)))), (2, .int (nI (mCode N))), (0, .ref (a 0)), (1, .int (nI (t))), (8, .int (nI (x238))), (10, .int (nI (x278)))] := hl
                        refine ms_22 hx hb hK hP hD hS (by omega) dX4_issue_508 (fun H locs hP hD hS => ?_)
                        refine lv_iconst (v := nI 0) hx hb dX4_issue_509 (by decide) ?_
                        refine lv_istore (lv' := [(12, .int (nI (0))), (11, .int (nI (x395))), (9, .int (nI (dn))), (7, .int (nI (U))), (6, .int (nI (mBB N % 16))), (5, .int (nI (mA N))), (4, .int (nI (mD N))), (3, .int (nI (kdN (mCode N)))), (2, .int (nI (mCode N))), (0, .ref (a 0)), (1, .int (nI (t))), (8, .int (nI (x238))), (10, .int (nI (x278)))]) hx hb dX4_issue_510 hl (by decide) rfl (fun ls hl => ?_)
                        refine lv_iload hx hb dX4_issue_512 (lv_at hl 0 rfl) ?_
                        refine lv_bipush (v := nI 6) hx hb dX4_issue_514 (by decide) ?_
                        refine n_icmp_ge (tgt := 556) hx hb (by omega) (by omega) dX4_issue_516 (by decide) (fun c_516 => absurd c_516 (by omega)) (fun c_516 => ?_)
                        refine lv_aload_n hx hb dX4_issue_519 rfl (lv_at hl 9 rfl) ?_
                        refine mg_25 hx hb hts hi4 hown hK hP k60 dX4_issue_520 ?_
                        refine lv_bipush (v := nI 6) hx hb dX4_issue_523 (by decide) ?_
                        refine lv_aload_n hx hb dX4_issue_525 rfl (lv_at hl 9 rfl) ?_
                        refine mg_13 (v := N 13 0) hx hb hts hi4 hown hK hP k83 (congrFun (qx355 13 (by decide)) 0) dX4_issue_526 ?_
                        refine lv_bipush (v := nI 64) hx hb dX4_issue_529 (by decide) ?_
                        refine n_rem hx hb (by omega) (by decide) (by decide) dX4_issue_531 ?_
                        refine n_mul hx hb dX4_issue_532 ?_
                        refine lv_iload hx hb dX4_issue_533 (lv_at hl 0 rfl) ?_
                        refine n_add hx hb dX4_issue_535 ?_
                        refine lv_aload_n hx hb dX4_issue_536 rfl (lv_at hl 9 rfl) ?_
                        refine mg_22 hx hb hts hi4 hown hK hP k50 dX4_issue_537 ?_
                        refine lv_bipush (v := nI 7) hx hb dX4_issue_540 (by decide) ?_
                        refine lv_iload hx hb dX4_issue_542 (lv_at hl 3 rfl) ?_
                        refine n_mul hx hb dX4_issue_544 ?_
                        refine lv_iload hx hb dX4_issue_545 (lv_at hl 0 rfl) ?_
                        refine n_add hx hb dX4_issue_547 ?_
                        refine ml_22 (v := N 8 0) hx hb hK hP (by omega) (by simp [uN]) dX4_issue_548 ?_
                        refine ms_25 hx hb hK hP hD hS (by omega) dX4_issue_549 (fun H locs hP hD hS => ?_)
                        refine lv_iinc (v := nI (1)) (lv' := [(12, .int (nI (1))), (11, .int (nI (x395))), (9, .int (nI (dn))), (7, .int (nI (U))), (6, .int (nI (mBB N % 16))), (5, .int (nI (mA N))), (4, .int (nI (mD N))), (3, .int (nI (kdN (mCode N)))), (2, .int (nI (mCode N))), (0, .ref (a 0)), (1, .int (nI (t))), (8, .int (nI (x238))), (10, .int (nI (x278)))]) hx hb dX4_issue_550 hl (k := 0) rfl (by decide) (by decide) rfl (fun ls hl => ?_)
                        refine lv_goto (tgt := 512) hx hb dX4_issue_553 (by decide) ?_
                        refine lv_iload hx hb dX4_issue_512 (lv_at hl 0 rfl) ?_
                        refine lv_bipush (v := nI 6) hx hb dX4_issue_514 (by decide) ?_
                        refine n_icmp_ge (tgt := 556) hx hb (by omega) (by omega) dX4_issue_516 (by decide) (fun c_516 => absurd c_516 (by omega)) (fun c_516 => ?_)
                        refine lv_aload_n hx hb dX4_issue_519 rfl (lv_at hl 9 rfl) ?_
                        refine mg_25 hx hb hts hi4 hown hK hP k60 dX4_issue_520 ?_
                        refine lv_bipush (v := nI 6) hx hb dX4_issue_523 (by decide) ?_
                        refine lv_aload_n hx hb dX4_issue_525 rfl (lv_at hl 9 rfl) ?_
                        refine mg_13 (v := N 13 0) hx hb hts hi4 hown hK hP k83 (congrFun (qx355 13 (by decide)) 0) dX4_issue_526 ?_
                        refine lv_bipush (v := nI 64) hx hb dX4_issue_529 (by decide) ?_
                        refine n_rem hx hb (by omega) (by decide) (by decide) dX4_issue_531 ?_
                        refine n_mul hx hb dX4_issue_532 ?_
                        refine lv_iload hx hb dX4_issue_533 (lv_at hl 0 rfl) ?_
                        refine n_add hx hb dX4_issue_535 ?_
                        refine lv_aload_n hx hb dX4_issue_536 rfl (lv_at hl 9 rfl) ?_
                        refine mg_22 hx hb hts hi4 hown hK hP k50 dX4_issue_537 ?_
                        refine lv_bipush (v := nI 7) hx hb dX4_issue_540 (by decide) ?_
                        refine lv_iload hx hb dX4_issue_542 (lv_at hl 3 rfl) ?_
                        refine n_mul hx hb dX4_issue_544 ?_
                        refine lv_iload hx hb dX4_issue_545 (lv_at hl 0 rfl) ?_
                        refine n_add hx hb dX4_issue_547 ?_
                        refine ml_22 (v := N 13 0) hx hb hK hP (by omega) (by simp [uN]) dX4_issue_548 ?_
                        refine ms_25 hx hb hK hP hD hS (by omega) dX4_issue_549 (fun H locs hP hD hS => ?_)
                        refine lv_iinc (v := nI (2)) (lv' := [(12, .int (nI (2))), (11, .int (nI (x395))), (9, .int (nI (dn))), (7, .int (nI (U))), (6, .int (nI (mBB N % 16))), (5, .int (nI (mA N))), (4, .int (nI (mD N))), (3, .int (nI (kdN (mCode N)))), (2, .int (nI (mCode N))), (0, .ref (a 0)), (1, .int (nI (t))), (8, .int (nI (x238))), (10, .int (nI (x278)))]) hx hb dX4_issue_550 hl (k := 0) rfl (by decide) (by decide) rfl (fun ls hl => ?_)
                        refine lv_goto (tgt := 512) hx hb dX4_issue_553 (by decide) ?_
                        refine lv_iload hx hb dX4_issue_512 (lv_at hl 0 rfl) ?_
                        refine lv_bipush (v := nI 6) hx hb dX4_issue_514 (by decide) ?_
                        refine n_icmp_ge (tgt := 556) hx hb (by omega) (by omega) dX4_issue_516 (by decide) (fun c_516 => absurd c_516 (by omega)) (fun c_516 => ?_)
                        refine lv_aload_n hx hb dX4_issue_519 rfl (lv_at hl 9 rfl) ?_
                        refine mg_25 hx hb hts hi4 hown hK hP k60 dX4_issue_520 ?_
                        refine lv_bipush (v := nI 6) hx hb dX4_issue_523 (by decide) ?_
                        refine lv_aload_n hx hb dX4_issue_525 rfl (lv_at hl 9 rfl) ?_
                        refine mg_13 (v := N 13 0) hx hb hts hi4 hown hK hP k83 (congrFun (qx355 13 (by decide)) 0) dX4_issue_526 ?_
                        refine lv_bipush (v := nI 64) hx hb dX4_issue_529 (by decide) ?_
                        refine n_rem hx hb (by omega) (by decide) (by decide) dX4_issue_531 ?_
                        refine n_mul hx hb dX4_issue_532 ?_
                        refine lv_iload hx hb dX4_issue_533 (lv_at hl 0 rfl) ?_
                        refine n_add hx hb dX4_issue_535 ?_
                        refine lv_aload_n hx hb dX4_issue_536 rfl (lv_at hl 9 rfl) ?_
                        refine mg_22 hx hb hts hi4 hown hK hP k50 dX4_issue_537 ?_
                        refine lv_bipush (v := nI 7) hx hb dX4_issue_540 (by decide) ?_
                        refine lv_iload hx hb dX4_issue_542 (lv_at hl 3 rfl) ?_
                        refine n_mul hx hb dX4_issue_544 ?_
                        refine lv_iload hx hb dX4_issue_545 (lv_at hl 0 rfl) ?_
                        refine n_add hx hb dX4_issue_547 ?_
                        refine ml_22 (v := t) hx hb hK hP (by omega) (by simp [uN]) dX4_issue_548 ?_
                        refine ms_25 hx hb hK hP hD hS (by omega) dX4_issue_549 (fun H locs hP hD hS => ?_)
                        refine lv_iinc (v := nI (3)) (lv' := [(12, .int (nI (3))), (11, .int (nI (x395))), (9, .int (nI (dn))), (7, .int (nI (U))), (6, .int (nI (mBB N % 16))), (5, .int (nI (mA N))), (4, .int (nI (mD N))), (3, .int (nI (kdN (mCode N)))), (2, .int (nI (mCode N))), (0, .ref (a 0)), (1, .int (nI (t))), (8, .int (nI (x238))), (10, .int (nI (x278)))]) hx hb dX4_issue_550 hl (k := 0) rfl (by decide) (by decide) rfl (fun ls hl => ?_)
                        refine lv_goto (tgt := 512) hx hb dX4_issue_553 (by decide) ?_
                        refine lv_iload hx hb dX4_issue_512 (lv_at hl 0 rfl) ?_
                        refine lv_bipush (v := nI 6) hx hb dX4_issue_514 (by decide) ?_
                        refine n_icmp_ge (tgt := 556) hx hb (by omega) (by omega) dX4_issue_516 (by decide) (fun c_516 => absurd c_516 (by omega)) (fun c_516 => ?_)
                        refine lv_aload_n hx hb dX4_issue_519 rfl (lv_at hl 9 rfl) ?_
                        refine mg_25 hx hb hts hi4 hown hK hP k60 dX4_issue_520 ?_
                        refine lv_bipush (v := nI 6) hx hb dX4_issue_523 (by decide) ?_
                        refine lv_aload_n hx hb dX4_issue_525 rfl (lv_at hl 9 rfl) ?_
                        refine mg_13 (v := N 13 0) hx hb hts hi4 hown hK hP k83 (congrFun (qx355 13 (by decide)) 0) dX4_issue_526 ?_
                        refine lv_bipush (v := nI 64) hx hb dX4_issue_529 (by decide) ?_
                        refine n_rem hx hb (by omega) (by decide) (by decide) dX4_issue_531 ?_
                        refine n_mul hx hb dX4_issue_532 ?_
                        refine lv_iload hx hb dX4_issue_533 (lv_at hl 0 rfl) ?_
                        refine n_add hx hb dX4_issue_535 ?_
                        refine lv_aload_n hx hb dX4_issue_536 rfl (lv_at hl 9 rfl) ?_
                        refine mg_22 hx hb hts hi4 hown hK hP k50 dX4_issue_537 ?_
                        refine lv_bipush (v := nI 7) hx hb dX4_issue_540 (by decide) ?_
                        refine lv_iload hx hb dX4_issue_542 (lv_at hl 3 rfl) ?_
                        refine n_mul hx hb dX4_issue_544 ?_
                        refine lv_iload hx hb dX4_issue_545 (lv_at hl 0 rfl) ?_
                        refine n_add hx hb dX4_issue_547 ?_
                        refine ml_22 (v := x238) hx hb hK hP (by omega) (by simp [uN]) dX4_issue_548 ?_
                        refine ms_25 hx hb hK hP hD hS (by omega) dX4_issue_549 (fun H locs hP hD hS => ?_)
                        refine lv_iinc (v := nI (4)) (lv' := [(12, .int (nI (4))), (11, .int (nI (x395))), (9, .int (nI (dn))), (7, .int (nI (U))), (6, .int (nI (mBB N % 16))), (5, .int (nI (mA N))), (4, .int (nI (mD N))), (3, .int (nI (kdN (mCode N)))), (2, .int (nI (mCode N))), (0, .ref (a 0)), (1, .int (nI (t))), (8, .int (nI (x238))), (10, .int (nI (x278)))]) hx hb dX4_issue_550 hl (k := 0) rfl (by decide) (by decide) rfl (fun ls hl => ?_)
                        refine lv_goto (tgt := 512) hx hb dX4_issue_553 (by decide) ?_
                        refine lv_iload hx hb dX4_issue_512 (lv_at hl 0 rfl) ?_
                        refine lv_bipush (v := nI 6) hx hb dX4_issue_514 (by decide) ?_
                        refine n_icmp_ge (tgt := 556) hx hb (by omega) (by omega) dX4_issue_516 (by decide) (fun c_516 => absurd c_516 (by omega)) (fun c_516 => ?_)
                        refine lv_aload_n hx hb dX4_issue_519 rfl (lv_at hl 9 rfl) ?_
                        refine mg_25 hx hb hts hi4 hown hK hP k60 dX4_issue_520 ?_
                        refine lv_bipush (v := nI 6) hx hb dX4_issue_523 (by decide) ?_
                        refine lv_aload_n hx hb dX4_issue_525 rfl (lv_at hl 9 rfl) ?_
                        refine mg_13 (v := N 13 0) hx hb hts hi4 hown hK hP k83 (congrFun (qx355 13 (by decide)) 0) dX4_issue_526 ?_
                        refine lv_bipush (v := nI 64) hx hb dX4_issue_529 (by decide) ?_
                        refine n_rem hx hb (by omega) (by decide) (by decide) dX4_issue_531 ?_
                        refine n_mul hx hb dX4_issue_532 ?_
                        refine lv_iload hx hb dX4_issue_533 (lv_at hl 0 rfl) ?_
                        refine n_add hx hb dX4_issue_535 ?_
                        refine lv_aload_n hx hb dX4_issue_536 rfl (lv_at hl 9 rfl) ?_
                        refine mg_22 hx hb hts hi4 hown hK hP k50 dX4_issue_537 ?_
                        refine lv_bipush (v := nI 7) hx hb dX4_issue_540 (by decide) ?_
                        refine lv_iload hx hb dX4_issue_542 (lv_at hl 3 rfl) ?_
                        refine n_mul hx hb dX4_issue_544 ?_
                        refine lv_iload hx hb dX4_issue_545 (lv_at hl 0 rfl) ?_
                        refine n_add hx hb dX4_issue_547 ?_
                        refine ml_22 (v := dn) hx hb hK hP (by omega) (by simp [uN]) dX4_issue_548 ?_
                        refine ms_25 hx hb hK hP hD hS (by omega) dX4_issue_549 (fun H locs hP hD hS => ?_)
                        refine lv_iinc (v := nI (5)) (lv' := [(12, .int (nI (5))), (11, .int (nI (x395))), (9, .int (nI (dn))), (7, .int (nI (U))), (6, .int (nI (mBB N % 16))), (5, .int (nI (mA N))), (4, .int (nI (mD N))), (3, .int (nI (kdN (mCode N)))), (2, .int (nI (mCode N))), (0, .ref (a 0)), (1, .int (nI (t))), (8, .int (nI (x238))), (10, .int (nI (x278)))]) hx hb dX4_issue_550 hl (k := 0) rfl (by decide) (by decide) rfl (fun ls hl => ?_)
                        refine lv_goto (tgt := 512) hx hb dX4_issue_553 (by decide) ?_
                        refine lv_iload hx hb dX4_issue_512 (lv_at hl 0 rfl) ?_
                        refine lv_bipush (v := nI 6) hx hb dX4_issue_514 (by decide) ?_
                        refine n_icmp_ge (tgt := 556) hx hb (by omega) (by omega) dX4_issue_516 (by decide) (fun c_516 => absurd c_516 (by omega)) (fun c_516 => ?_)
                        refine lv_aload_n hx hb dX4_issue_519 rfl (lv_at hl 9 rfl) ?_
                        refine mg_25 hx hb hts hi4 hown hK hP k60 dX4_issue_520 ?_
                        refine lv_bipush (v := nI 6) hx hb dX4_issue_523 (by decide) ?_
                        refine lv_aload_n hx hb dX4_issue_525 rfl (lv_at hl 9 rfl) ?_
                        refine mg_13 (v := N 13 0) hx hb hts hi4 hown hK hP k83 (congrFun (qx355 13 (by decide)) 0) dX4_issue_526 ?_
                        refine lv_bipush (v := nI 64) hx hb dX4_issue_529 (by decide) ?_
                        refine n_rem hx hb (by omega) (by decide) (by decide) dX4_issue_531 ?_
                        refine n_mul hx hb dX4_issue_532 ?_
                        refine lv_iload hx hb dX4_issue_533 (lv_at hl 0 rfl) ?_
                        refine n_add hx hb dX4_issue_535 ?_
                        refine lv_aload_n hx hb dX4_issue_536 rfl (lv_at hl 9 rfl) ?_
                        refine mg_22 hx hb hts hi4 hown hK hP k50 dX4_issue_537 ?_
                        refine lv_bipush (v := nI 7) hx hb dX4_issue_540 (by decide) ?_
                        refine lv_iload hx hb dX4_issue_542 (lv_at hl 3 rfl) ?_
                        refine n_mul hx hb dX4_issue_544 ?_
                        refine lv_iload hx hb dX4_issue_545 (lv_at hl 0 rfl) ?_
                        refine n_add hx hb dX4_issue_547 ?_
                        refine ml_22 (v := x278) hx hb hK hP (by omega) (by simp [uN]) dX4_issue_548 ?_
                        refine ms_25 hx hb hK hP hD hS (by omega) dX4_issue_549 (fun H locs hP hD hS => ?_)
                        refine lv_iinc (v := nI (6)) (lv' := [(12, .int (nI (6))), (11, .int (nI (x395))), (9, .int (nI (dn))), (7, .int (nI (U))), (6, .int (nI (mBB N % 16))), (5, .int (nI (mA N))), (4, .int (nI (mD N))), (3, .int (nI (kdN (mCode N)))), (2, .int (nI (mCode N))), (0, .ref (a 0)), (1, .int (nI (t))), (8, .int (nI (x238))), (10, .int (nI (x278)))]) hx hb dX4_issue_550 hl (k := 0) rfl (by decide) (by decide) rfl (fun ls hl => ?_)
                        refine lv_goto (tgt := 512) hx hb dX4_issue_553 (by decide) ?_
                        refine lv_iload hx hb dX4_issue_512 (lv_at hl 0 rfl) ?_
                        refine lv_bipush (v := nI 6) hx hb dX4_issue_514 (by decide) ?_
                        refine n_icmp_ge (tgt := 556) hx hb (by omega) (by omega) dX4_issue_516 (by decide) (fun c_516 => ?_) (fun c_516 => absurd c_516 (by omega))
                        have e5 : (uN (uN (uN (uN (uN (uN (uN (uN (uN (uN (uN (uN (uN x355 22 (7 * U) (N 8 0)) 22 ((7 * U) + 1) (N 13 0)) 22 ((7 * U) + 2) (t)) 22 ((7 * U) + 3) (x238)) 22 ((7 * U) + 4) (dn)) 22 ((7 * U) + 5) (x278)) 22 ((7 * U) + 6) (x508)) 25 ((6 * ((N 13 0) % 64)) + 0) (N 8 0)) 25 ((6 * ((N 13 0) % 64)) + 1) (N 13 0)) 25 ((6 * ((N 13 0) % 64)) + 2) (t)) 25 ((6 * ((N 13 0) % 64)) + 3) (x238)) 25 ((6 * ((N 13 0) % 64)) + 4) (dn)) 25 ((6 * ((N 13 0) % 64)) + 5) (x278)) = mI5 N (mI4 N x355 J t U) t := by unfold mI5 mI4; rw [← ex508, ← ex278, ← hdn, ← ex238]
                        rw [e5] at hP hD
                        have q5 : ∀ f, (f ≠ 24 ∧ f ≠ 18 ∧ f ≠ 21 ∧ f ≠ 22 ∧ f ≠ 25) → mI5 N (mI4 N x355 J t U) t f = N f := fun f hf => by unfold mI5 mI4; simp only [uN_o hf.2.2.2.2, uN_o hf.2.2.2.1]; exact qx355 f ⟨hf.1, hf.2.1, hf.2.2.1⟩
                        obtain ⟨N5, e5n⟩ : ∃ z, z = mI5 N (mI4 N x355 J t U) t := ⟨_, rfl⟩
                        rw [← e5n] at hP hD q5
                        have hG5 : mG0 N5 := by unfold mG0; rw [q5 8 (by decide), q5 0 (by decide)]; exact hG.1
                        have hc5 : mCode N5 = mCode N := by unfold mCode; rw [q5 0 (by decide), q5 8 (by decide)]
                        have hV5 : mV N5 J2 = mV N J := by unfold mV mCode mA mBB mD; rw [q5 0 (by decide), q5 8 (by decide), eJ2 6 (by decide), eJ2 7 (by decide)]
                        have hX5 : mNx N5 J2 = mNx N J := by unfold mNx mCode mA mBB; rw [q5 0 (by decide), q5 8 (by decide), eJ2 6 (by decide)]
                        refine lv_aload_n hx hb dX4_issue_556 rfl (lv_at hl 9 rfl) ?_
                        refine g_calll (u := (N5, J2)) (g_runV (As := []) (rest := []) ⟨hx, hb, hml, hown, hts⟩ (tM_does l dC dI a cI cL cZ N5 J2 hG5 (by rw [hc5]; exact hc) H.size) (cwV 0 hts gX4_issue_X4_does rfl rfl rfl (by decide +kernel) ⟨Nat.le_of_ble_eq_true rfl, Nat.le_of_ble_eq_true rfl⟩) (va_recv hK hP (ci := 4) (q0 := 0) rfl rfl) hK hP hD hS hZ rfl hl.1 rfl (Nat.le_of_ble_eq_true rfl) dX4_issue_557) (mW_L a cI cL cZ) hD hS (fun r_557 u H locs hw hP hD hS => ?_)
                        obtain ⟨hr9, hu9⟩ := hw
                        rw [hV5] at hr9
                        rw [hX5] at hu9
                        subst hr9
                        subst hu9
                        have hP : va_P (dC, dI) vwCl (mW a cI cL cZ (uN N5 8 0 (mNx N J)) J2) H := hP
                        have hD : va_D (aA (mL a) s.heap.size) (mW a cI cL cZ (uN N5 8 0 (mNx N J)) J2) := hD
                        have q6 : ∀ f, (f ≠ 24 ∧ f ≠ 18 ∧ f ≠ 21 ∧ f ≠ 22 ∧ f ≠ 25 ∧ f ≠ 8) → uN N5 8 0 (mNx N J) f = N f := fun f hf => by rw [uN_o hf.2.2.2.2.2]; exact q5 f ⟨hf.1, hf.2.1, hf.2.2.1, hf.2.2.2.1, hf.2.2.2.2.1⟩
                        refine lv_lstore (lv' := [(12, .long (mV N J)), (11, .int (nI (x395))), (9, .int (nI (dn))), (7, .int (nI (U))), (6, .int (nI (mBB N % 16))), (5, .int (nI (mA N))), (4, .int (nI (mD N))), (3, .int (nI (kdN (mCode N)))), (2, .int (nI (mCode N))), (0, .ref (a 0)), (1, .int (nI (t))), (8, .int (nI (x238))), (10, .int (nI (x278)))]) hx hb dX4_issue_560 hl (by decide) rfl (fun ls hl => ?_)
                        refine lv_aload_n hx hb dX4_issue_562 rfl (lv_at hl 9 rfl) ?_
                        refine mg_23 hx hb hts hi4 hown hK hP k53 dX4_issue_563 ?_
                        refine lv_iload hx hb dX4_issue_566 (lv_at hl 3 rfl) ?_
                        refine lv_lload hx hb dX4_issue_568 (lv_at hl 0 rfl) ?_
                        refine ms_23 hx hb hK hP hD hS (by omega) dX4_issue_570 (fun H locs hP hD hS => ?_)
                        refine lv_aload_n hx hb dX4_issue_571 rfl (lv_at hl 9 rfl) ?_
                        refine mg_24 hx hb hts hi4 hown hK hP k56 dX4_issue_572 ?_
                        refine lv_iload hx hb dX4_issue_575 (lv_at hl 3 rfl) ?_
                        refine lv_iconst (v := nI 1) hx hb dX4_issue_577 (by decide) ?_
                        refine ms_24 hx hb hK hP hD hS (by omega) (by decide) dX4_issue_578 (fun H locs hP hD hS => ?_)
                        refine w_joinH (X := gSt) (dC := dC) (dI := dI) (A := aA (mL a) s.heap.size) (H0 := s.heap) (Wf := mF a cI cL cZ) (u := fun x636 => (x636.1, x636.2)) (P := fun x636 => x636 = mI6 N J t ((uN (uN N5 8 0 (mNx N J)) 24 U 1), (uJ J2 23 U (mV N J)))) (pj := 636) (nL := 14) (lv := fun x636 => [(12, .long (mV N J)), (11, .int (nI (x395))), (9, .int (nI (dn))), (7, .int (nI (U))), (6, .int (nI (mBB N % 16))), (5, .int (nI (mA N))), (4, .int (nI (mD N))), (3, .int (nI (kdN (mCode N)))), (2, .int (nI (mCode N))), (0, .ref (a 0)), (1, .int (nI (t))), (8, .int (nI (x238))), (10, .int (nI (x278)))]) (st := fun x636 => []) (fun jn_636 => ?_) (fun x636 ls H locs ex636 hl hP hD hS => ?_)
                        · refine lv_iload_n hx hb dX4_issue_579 rfl (lv_at hl 8 rfl) ?_
                          refine s_calli (As := [.int (nI (mCode N))]) (rest := []) ⟨hx, hb, hml, hown, hts⟩ (tM_writes l (mCode N) (by omega)) (va_cwS 1 hts gX4_issue_X4_writes rfl rfl rfl (by decide +kernel) ⟨Nat.le_of_ble_eq_true rfl, Nat.le_of_ble_eq_true rfl⟩) rfl hl.1 rfl (Nat.le_of_ble_eq_true rfl) dX4_issue_580 (fun r_580 hw => ?_)
                          subst hw
                          refine n_if_eq (tgt := 618) hx hb bL dX4_issue_583 (by decide) (fun c_583 => ?_) (fun c_583 => ?_)
                          · refine lv_iload_n hx hb dX4_issue_618 rfl (lv_at hl 8 rfl) ?_
                            refine lv_bipush (v := nI 15) hx hb dX4_issue_619 (by decide) ?_
                            refine n_icmp_ne (tgt := 636) hx hb (by omega) (by omega) dX4_issue_621 (by decide) (fun c_621 => ?_) (fun c_621 => ?_)
                            · exact jn_636 ((uN (uN N5 8 0 (mNx N J)) 24 U 1), (uJ J2 23 U (mV N J))) ls _ _ (by unfold mI6; rw [if_neg (b0 c_583), if_neg c_621]) (lv_sub hl [0, 1, 2, 3, 4, 5, 6, 7, 8, 9, 10, 11, 12] rfl) hP hD hS
                            · refine lv_aload_n hx hb dX4_issue_624 rfl (lv_at hl 9 rfl) ?_
                              refine mg_7 hx hb hts hi4 hown hK hP k29 dX4_issue_625 ?_
                              refine lv_iload hx hb dX4_issue_628 (lv_at hl 1 rfl) ?_
                              refine lv_bipush (v := nI 16) hx hb dX4_issue_630 (by decide) ?_
                              refine n_sub hx hb (by rw [ex395]; unfold mCl; rw [if_pos c_621]; omega) dX4_issue_632 ?_
                              refine n_w (b := clN (J 6 (mA N) + (nI (mBB N)).toInt64)) (by rw [ex395]; unfold mCl; rw [if_pos c_621]; omega) ?_
                              refine lv_lload hx hb dX4_issue_633 (lv_at hl 0 rfl) ?_
                              refine ms_7 hx hb hK hP hD hS (clN_lt _) dX4_issue_635 (fun H locs hP hD hS => ?_)
                              exact jn_636 ((uN (uN N5 8 0 (mNx N J)) 24 U 1), uJ (uJ J2 23 U (mV N J)) 7 (clN (J 6 (mA N) + (nI (mBB N)).toInt64)) (mV N J)) ls _ _ (by unfold mI6; rw [if_neg (b0 c_583), if_pos c_621]) (lv_sub hl [0, 1, 2, 3, 4, 5, 6, 7, 8, 9, 10, 11, 12] rfl) hP hD hS
                          · refine lv_aload_n hx hb dX4_issue_586 rfl (lv_at hl 9 rfl) ?_
                            refine mg_6 hx hb hts hi4 hown hK hP k26 dX4_issue_587 ?_
                            refine lv_iload hx hb dX4_issue_590 (lv_at hl 6 rfl) ?_
                            refine lv_lload hx hb dX4_issue_592 (lv_at hl 0 rfl) ?_
                            refine ms_6 hx hb hK hP hD hS hmD dX4_issue_594 (fun H locs hP hD hS => ?_)
                            refine lv_aload_n hx hb dX4_issue_595 rfl (lv_at hl 9 rfl) ?_
                            refine mg_19 hx hb hts hi4 hown hK hP k41 dX4_issue_596 ?_
                            refine lv_iload hx hb dX4_issue_599 (lv_at hl 6 rfl) ?_
                            refine lv_iload hx hb dX4_issue_601 (lv_at hl 12 rfl) ?_
                            refine ms_19 hx hb hK hP hD hS hmD dX4_issue_603 (fun H locs hP hD hS => ?_)
                            refine lv_aload_n hx hb dX4_issue_604 rfl (lv_at hl 9 rfl) ?_
                            refine mg_20 hx hb hts hi4 hown hK hP k44 dX4_issue_605 ?_
                            refine lv_iload hx hb dX4_issue_608 (lv_at hl 6 rfl) ?_
                            refine lv_aload_n hx hb dX4_issue_610 rfl (lv_at hl 9 rfl) ?_
                            refine mg_13 (v := N 13 0) hx hb hts hi4 hown hK hP k83 (congrFun (q6 13 (by decide)) 0) dX4_issue_611 ?_
                            refine ms_20 hx hb hK hP hD hS hmD dX4_issue_614 (fun H locs hP hD hS => ?_)
                            refine lv_goto (tgt := 636) hx hb dX4_issue_615 (by decide) ?_
                            exact jn_636 (uN (uN (uN (uN N5 8 0 (mNx N J)) 24 U 1) 19 (mD N) x278) 20 (mD N) (N 13 0), uJ (uJ J2 23 U (mV N J)) 6 (mD N) (mV N J)) ls _ _ (by unfold mI6; rw [if_pos (b1 c_583), ← ex278]) (lv_sub hl [0, 1, 2, 3, 4, 5, 6, 7, 8, 9, 10, 11, 12] rfl) hP hD hS
                        · have ex636 : x636 = mI6 N J t ((uN (uN N5 8 0 (mNx N J)) 24 U 1), (uJ J2 23 U (mV N J))) := ex636
                          have hl : lv_has ls 14 [(12, .long (mV N J)), (11, .int (nI (x395))), (9, .int (nI (dn))), (7, .int (nI (U))), (6, .int (nI (mBB N % 16))), (5, .int (nI (mA N))), (4, .int (nI (mD N))), (3, .int (nI (kdN (mCode N)))), (2, .int (nI (mCode N))), (0, .ref (a 0)), (1, .int (nI (t))), (8, .int (nI (x238))), (10, .int (nI (x278)))] := hl
                          have hP : va_P (dC, dI) vwCl (mW a cI cL cZ x636.1 x636.2) H := hP
                          have hD : va_D (aA (mL a) s.heap.size) (mW a cI cL cZ x636.1 x636.2) := hD
                          have q7 : ∀ f, (f ≠ 24 ∧ f ≠ 18 ∧ f ≠ 21 ∧ f ≠ 22 ∧ f ≠ 25 ∧ f ≠ 8 ∧ f ≠ 19 ∧ f ≠ 20) → x636.1 f = N f := by
                            intro f hf
                            have z := q6 f ⟨hf.1, hf.2.1, hf.2.2.1, hf.2.2.2.1, hf.2.2.2.2.1, hf.2.2.2.2.2.1⟩
                            rw [ex636]
                            unfold mI6
                            split
                            · show uN (uN (uN (uN N5 8 0 (mNx N J)) 24 U 1) 19 _ _) 20 _ _ f = N f
                              rw [uN_o hf.2.2.2.2.2.2.2, uN_o hf.2.2.2.2.2.2.1, uN_o hf.1]
                              exact z
                            · split
                              · show (uN (uN N5 8 0 (mNx N J)) 24 U 1) f = N f
                                rw [uN_o hf.1]
                                exact z
                              · show (uN (uN N5 8 0 (mNx N J)) 24 U 1) f = N f
                                rw [uN_o hf.1]
                                exact z
                          refine w_joinH (X := Nat → Nat → Nat) (dC := dC) (dI := dI) (A := aA (mL a) s.heap.size) (H0 := s.heap) (Wf := mF a cI cL cZ) (u := fun x647 => (x647, x636.2)) (P := fun x647 => x647 = mI7 N x636.1 t) (pj := 647) (nL := 14) (lv := fun x647 => [(12, .long (mV N J)), (11, .int (nI (x395))), (9, .int (nI (dn))), (7, .int (nI (U))), (6, .int (nI (mBB N % 16))), (5, .int (nI (mA N))), (4, .int (nI (mD N))), (3, .int (nI (kdN (mCode N)))), (2, .int (nI (mCode N))), (0, .ref (a 0)), (1, .int (nI (t))), (8, .int (nI (x238))), (10, .int (nI (x278)))]) (st := fun x647 => []) (fun jn_647 => ?_) (fun x647 ls H locs ex647 hl hP hD hS => ?_)
                          · refine lv_iload_n hx hb dX4_issue_636 rfl (lv_at hl 7 rfl) ?_
                            refine lv_iconst (v := nI 5) hx hb dX4_issue_637 (by decide) ?_
                            refine n_icmp_ne (tgt := 647) hx hb (by omega) (by omega) dX4_issue_638 (by decide) (fun c_638 => ?_) (fun c_638 => ?_)
                            · exact jn_647 x636.1 ls _ _ (by unfold mI7; rw [if_neg c_638]) (lv_sub hl [0, 1, 2, 3, 4, 5, 6, 7, 8, 9, 10, 11, 12] rfl) hP hD hS
                            · refine lv_aload_n hx hb dX4_issue_641 rfl (lv_at hl 9 rfl) ?_
                              refine lv_iload hx hb dX4_issue_642 (lv_at hl 12 rfl) ?_
                              refine mp_16 hx hb hts hi4 hown hK hP hD hS k95 dX4_issue_644 (fun H locs hP hD hS => ?_)
                              exact jn_647 (uN x636.1 16 0 x278) ls _ _ (by unfold mI7; rw [if_pos c_638, ← ex278]) (lv_sub hl [0, 1, 2, 3, 4, 5, 6, 7, 8, 9, 10, 11, 12] rfl) hP hD hS
                          · have ex647 : x647 = mI7 N x636.1 t := ex647
                            have hl : lv_has ls 14 [(12, .long (mV N J)), (11, .int (nI (x395))), (9, .int (nI (dn))), (7, .int (nI (U))), (6, .int (nI (mBB N % 16))), (5, .int (nI (mA N))), (4, .int (nI (mD N))), (3, .int (nI (kdN (mCode N)))), (2, .int (nI (mCode N))), (0, .ref (a 0)), (1, .int (nI (t))), (8, .int (nI (x238))), (10, .int (nI (x278)))] := hl
                            have hP : va_P (dC, dI) vwCl (mW a cI cL cZ x647 x636.2) H := hP
                            have hD : va_D (aA (mL a) s.heap.size) (mW a cI cL cZ x647 x636.2) := hD
                            have q8 : ∀ f, (f ≠ 24 ∧ f ≠ 18 ∧ f ≠ 21 ∧ f ≠ 22 ∧ f ≠ 25 ∧ f ≠ 8 ∧ f ≠ 19 ∧ f ≠ 20 ∧ f ≠ 16) → x647 f = N f := by
                              intro f hf
                              have z := q7 f ⟨hf.1, hf.2.1, hf.2.2.1, hf.2.2.2.1, hf.2.2.2.2.1, hf.2.2.2.2.2.1, hf.2.2.2.2.2.2.1, hf.2.2.2.2.2.2.2.1⟩
                              rw [ex647]
                              unfold mI7
                              split
                              · rw [uN_o hf.2.2.2.2.2.2.2.2]
                                exact z
                              · exact z
                            refine lv_aload_n hx hb dX4_issue_647 rfl (lv_at hl 9 rfl) ?_
                            refine lv_aload_n hx hb dX4_issue_648 rfl (lv_at hl 9 rfl) ?_
                            refine mg_17 (v := N 17 0) hx hb hts hi4 hown hK hP k98 (congrFun (q8 17 (by decide)) 0) dX4_issue_649 ?_
                            refine lv_iload hx hb dX4_issue_652 (lv_at hl 12 rfl) ?_
                            refine s_calli (As := [.int (nI (N 17 0)), .int (nI (x278))]) (rest := [.ref (a 0)]) ⟨hx, hb, hml, hown, hts⟩ (tM_greater l (N 17 0) x278 (by omega) (by omega)) (va_cwS 2 hts gX4_issue_X4_greater rfl rfl rfl (by decide +kernel) ⟨Nat.le_of_ble_eq_true rfl, Nat.le_of_ble_eq_true rfl⟩) rfl hl.1 rfl (Nat.le_of_ble_eq_true rfl) dX4_issue_654 (fun r_654 hw => ?_)
                            subst hw
                            refine mp_17 hx hb hts hi4 hown hK hP hD hS k98 dX4_issue_657 (fun H locs hP hD hS => ?_)
                            refine lv_aload_n hx hb dX4_issue_660 rfl (lv_at hl 9 rfl) ?_
                            refine w_join (X := Nat) (P := fun x679 => x679 = if t = N 14 0 then N 15 0 + 1 else 1) (pj := 679) (nL := 14) (lv := fun x679 => [(12, .long (mV N J)), (11, .int (nI (x395))), (9, .int (nI (dn))), (7, .int (nI (U))), (6, .int (nI (mBB N % 16))), (5, .int (nI (mA N))), (4, .int (nI (mD N))), (3, .int (nI (kdN (mCode N)))), (2, .int (nI (mCode N))), (0, .ref (a 0)), (1, .int (nI (t))), (8, .int (nI (x238))), (10, .int (nI (x278)))]) (st := fun x679 => [.int (nI (x679)), .ref (a 0)]) (fun jn_679 => ?_) (fun x679 ls ex679 hl => ?_)
                            · refine lv_iload_n hx hb dX4_issue_661 rfl (lv_at hl 10 rfl) ?_
                              refine lv_aload_n hx hb dX4_issue_662 rfl (lv_at hl 9 rfl) ?_
                              refine mg_14 (v := N 14 0) hx hb hts hi4 hown hK hP k89 (congrFun (q8 14 (by decide)) 0) dX4_issue_663 ?_
                              refine n_icmp_ne (tgt := 678) hx hb (by omega) (by omega) dX4_issue_666 (by decide) (fun c_666 => ?_) (fun c_666 => ?_)
                              · refine lv_iconst (v := nI 1) hx hb dX4_issue_678 (by decide) ?_
                                exact jn_679 1 ls (by rw [if_neg c_666]) (lv_sub hl [0, 1, 2, 3, 4, 5, 6, 7, 8, 9, 10, 11, 12] rfl)
                              · refine lv_aload_n hx hb dX4_issue_669 rfl (lv_at hl 9 rfl) ?_
                                refine mg_15 (v := N 15 0) hx hb hts hi4 hown hK hP k92 (congrFun (q8 15 (by decide)) 0) dX4_issue_670 ?_
                                refine lv_iconst (v := nI 1) hx hb dX4_issue_673 (by decide) ?_
                                refine n_add hx hb dX4_issue_674 ?_
                                refine lv_goto (tgt := 679) hx hb dX4_issue_675 (by decide) ?_
                                exact jn_679 ((N 15 0) + 1) ls (by rw [if_pos c_666]) (lv_sub hl [0, 1, 2, 3, 4, 5, 6, 7, 8, 9, 10, 11, 12] rfl)
                            · have ex679 : x679 = if t = N 14 0 then N 15 0 + 1 else 1 := ex679
                              have hl : lv_has ls 14 [(12, .long (mV N J)), (11, .int (nI (x395))), (9, .int (nI (dn))), (7, .int (nI (U))), (6, .int (nI (mBB N % 16))), (5, .int (nI (mA N))), (4, .int (nI (mD N))), (3, .int (nI (kdN (mCode N)))), (2, .int (nI (mCode N))), (0, .ref (a 0)), (1, .int (nI (t))), (8, .int (nI (x238))), (10, .int (nI (x278)))] := hl
                              refine mp_15 hx hb hts hi4 hown hK hP hD hS k92 dX4_issue_679 (fun H locs hP hD hS => ?_)
                              refine lv_aload_n hx hb dX4_issue_682 rfl (lv_at hl 9 rfl) ?_
                              refine lv_iload_n hx hb dX4_issue_683 rfl (lv_at hl 10 rfl) ?_
                              refine mp_14 hx hb hts hi4 hown hK hP hD hS k89 dX4_issue_684 (fun H locs hP hD hS => ?_)
                              refine lv_aload_n hx hb dX4_issue_687 rfl (lv_at hl 9 rfl) ?_
                              refine lv_dup hx hb dX4_issue_688 rfl ?_
                              refine mg_13 (v := N 13 0) hx hb hts hi4 hown hK hP k83 (congrFun (q8 13 (by decide)) 0) dX4_issue_689 ?_
                              refine lv_iconst (v := nI 1) hx hb dX4_issue_692 (by decide) ?_
                              refine n_add hx hb dX4_issue_693 ?_
                              refine mp_13 hx hb hts hi4 hown hK hP hD hS k83 dX4_issue_694 (fun H locs hP hD hS => ?_)
                              have hC : mC (N, J) t = (N2, J2) := e2.symm
                              have h5 : mX5 (N, J) t = uN N5 8 0 (mNx N J) := by
                                show uN (mI5 N (mI4 N (mI3c N (mI3b N (mI3a N (mC (N, J) t).1 (mR3 N t)) (mR3 N t)) (mR3 N t)) J t (mU N t)) t) 8 0 (mNx N J) = _
                                rw [hC, ← ex238, ← hU, e5n, ex355, ex330, ex304]
                              have hX6 : mX6 (N, J) t = x636 := by
                                show mI6 N J t (uN (mX5 (N, J) t) 24 (mU N t) 1, uJ (mC (N, J) t).2 23 (mU N t) (mV N J)) = x636
                                rw [h5, hC, ← hU, ex636]
                              exact g_retv hx hb hr hlocks ((uN (uN (uN (uN x647 17 (0) (max (N 17 0) x278)) 15 (0) (x679)) 14 (0) (t)) 13 (0) ((N 13 0) + 1)), x636.2) (by show _ = (mI8 N (mI7 N (mX6 (N, J) t).1 t) t, (mX6 (N, J) t).2); rw [hX6, ← ex647]; unfold mI8; rw [← ex278, ← ex679]) hP hS dX4_issue_697
    · refine lv_aload_n hx hb dX4_issue_127 rfl (lv_at hl 6 rfl) ?_
      refine mg_24 hx hb hts hi4 hown hK hP k56 dX4_issue_128 ?_
      refine lv_iload hx hb dX4_issue_131 (lv_at hl 8 rfl) ?_
      refine ml_24 (v := (mCA t x120 (mI1 N t, J)).1 24 x120) hx hb hK hP (by omega) rfl dX4_issue_133 ?_
      refine n_if_eq (tgt := 159) hx hb (by have := hz9 x120 (by omega); omega) dX4_issue_134 (by decide) (fun c_134 => ?_) (fun c_134 => ?_)
      · refine lv_iinc (v := nI (x120 + 1)) (lv' := [(8, .int (nI (x120 + 1))), (7, .int (nI (U))), (6, .int (nI (mBB N % 16))), (5, .int (nI (mA N))), (4, .int (nI (mD N))), (3, .int (nI (kdN (mCode N)))), (2, .int (nI (mCode N))), (0, .ref (a 0)), (1, .int (nI (t)))]) hx hb dX4_issue_159 hl (k := 8) rfl (nI_1 _) (by decide) rfl (fun ls hl => ?_)
        refine lv_goto (tgt := 120) hx hb dX4_issue_162 (by decide) ?_
        have eM : mCA t (x120 + 1) (mI1 N t, J) = (mCA t x120 (mI1 N t, J)) := if_neg (fun z => z.1 c_134)
        rw [← eM] at hP hD
        exact jn_120 (x120 + 1) ls _ _ (by omega) (by omega) (lv_sub hl [1, 2, 3, 4, 5, 6, 7, 8, 0] rfl) hP hD hS
      · refine lv_aload_n hx hb dX4_issue_137 rfl (lv_at hl 6 rfl) ?_
        refine mg_22 hx hb hts hi4 hown hK hP k50 dX4_issue_138 ?_
        refine lv_bipush (v := nI 7) hx hb dX4_issue_141 (by decide) ?_
        refine lv_iload hx hb dX4_issue_143 (lv_at hl 8 rfl) ?_
        refine n_mul hx hb dX4_issue_145 ?_
        refine lv_iconst (v := nI 5) hx hb dX4_issue_146 (by decide) ?_
        refine n_add hx hb dX4_issue_147 ?_
        refine ml_22 (v := N 22 (7 * x120 + 5)) hx hb hK hP (by omega) eC22 dX4_issue_148 ?_
        refine lv_iload_n hx hb dX4_issue_149 rfl (lv_at hl 7 rfl) ?_
        refine n_icmp_ge (tgt := 159) hx hb (by have := huw x120 (by omega); omega) (by omega) dX4_issue_150 (by decide) (fun c_150 => ?_) (fun c_150 => ?_)
        · refine lv_iinc (v := nI (x120 + 1)) (lv' := [(8, .int (nI (x120 + 1))), (7, .int (nI (U))), (6, .int (nI (mBB N % 16))), (5, .int (nI (mA N))), (4, .int (nI (mD N))), (3, .int (nI (kdN (mCode N)))), (2, .int (nI (mCode N))), (0, .ref (a 0)), (1, .int (nI (t)))]) hx hb dX4_issue_159 hl (k := 8) rfl (nI_1 _) (by decide) rfl (fun ls hl => ?_)
          refine lv_goto (tgt := 120) hx hb dX4_issue_162 (by decide) ?_
          have eM : mCA t (x120 + 1) (mI1 N t, J) = (mCA t x120 (mI1 N t, J)) := if_neg (fun z => absurd z.2 (by rw [eC22]; exact Nat.not_lt.mpr c_150))
          rw [← eM] at hP hD
          exact jn_120 (x120 + 1) ls _ _ (by omega) (by omega) (lv_sub hl [1, 2, 3, 4, 5, 6, 7, 8, 0] rfl) hP hD hS
        · refine lv_aload_n hx hb dX4_issue_153 rfl (lv_at hl 6 rfl) ?_
          refine lv_iload hx hb dX4_issue_154 (lv_at hl 8 rfl) ?_
          refine g_callv (u := ((mCA t x120 (mI1 N t, J)).1, (mCA t x120 (mI1 N t, J)).2)) (g_runV (As := [.int (nI (x120))]) (rest := []) ⟨hx, hb, hml, hown, hts⟩ (tM_commit l dC dI a cI cL cZ (mCA t x120 (mI1 N t, J)).1 (mCA t x120 (mI1 N t, J)).2 x120 (by omega) (hz9 x120 (by omega)) (by rw [eC6]; exact ht6 x120 (by omega)) H.size) (cwV 1 hts gX4_issue_X4_commit rfl rfl rfl (by decide +kernel) ⟨Nat.le_of_ble_eq_true rfl, Nat.le_of_ble_eq_true rfl⟩) (va_recv hK hP (ci := 4) (q0 := 0) rfl rfl) hK hP hD hS hZ rfl hl.1 rfl (Nat.le_of_ble_eq_true rfl) dX4_issue_156) (mW_L a cI cL cZ) hD hS (fun u H locs hw hP hD hS => ?_)
          subst hw
          have hP : va_P (dC, dI) vwCl (mW a cI cL cZ (mCm (mCA t x120 (mI1 N t, J)) x120).1 (mCm (mCA t x120 (mI1 N t, J)) x120).2) H := hP
          have hD : va_D (aA (mL a) s.heap.size) (mW a cI cL cZ (mCm (mCA t x120 (mI1 N t, J)) x120).1 (mCm (mCA t x120 (mI1 N t, J)) x120).2) := hD
          refine lv_iinc (v := nI (x120 + 1)) (lv' := [(8, .int (nI (x120 + 1))), (7, .int (nI (U))), (6, .int (nI (mBB N % 16))), (5, .int (nI (mA N))), (4, .int (nI (mD N))), (3, .int (nI (kdN (mCode N)))), (2, .int (nI (mCode N))), (0, .ref (a 0)), (1, .int (nI (t)))]) hx hb dX4_issue_159 hl (k := 8) rfl (nI_1 _) (by decide) rfl (fun ls hl => ?_)
          refine lv_goto (tgt := 120) hx hb dX4_issue_162 (by decide) ?_
          have eM : mCA t (x120 + 1) (mI1 N t, J) = mCm (mCA t x120 (mI1 N t, J)) x120 := if_pos ⟨c_134, by rw [eC22]; exact c_150⟩
          rw [← eM] at hP hD
          exact jn_120 (x120 + 1) ls _ _ (by omega) (by omega) (lv_sub hl [1, 2, 3, 4, 5, 6, 7, 8, 0] rfl) hP hD hS
