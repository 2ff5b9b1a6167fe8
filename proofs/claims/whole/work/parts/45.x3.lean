theorem xHin_le (N : Nat → Nat → Nat) : xHin N ≤ 3 := by
  unfold xHin
  (repeat' split) <;> decide
theorem xWn_bd {N : Nat → Nat → Nat} (hG : xG N) : xa3 N < 1073741825 ∧ xDn N < 1073741857 ∧ xWn N < 1073741860 := by
  obtain ⟨hG0, hun, hla, hwd, hsc, hrg, huw⟩ := id hG
  have hp0 := hG0.2 (N 13 0) hG0.1
  have hA := (hrg (xA N) hp0.2.2.1).1
  have hB := (hrg (xBB N % 16) (by omega)).1
  have hD := hrg (xD N) hp0.2.1
  have hl := hla _ (kdN_lt (xCode N))
  have e1 : xa1 N < 1073741825 := by unfold xa1; split <;> omega
  have e2 : xa2 N < 1073741825 := by unfold xa2; split <;> omega
  have e3 : xa3 N < 1073741825 := by unfold xa3; split <;> omega
  have e4 : xDn N < 1073741857 := by unfold xDn; omega
  have e5 : xWn N < 1073741860 := by unfold xWn; split <;> omega
  exact ⟨e3, e4, e5⟩
theorem kdV_pos {k : Nat} (h : 1 ≤ k) (h2 : k < 2147483648) : (fun j => Value.int (kdV j)) (nI k).toNatClampNeg = .int (nI (kdN k)) := by
  rw [nI_clamp (by omega)]
  show Value.int (kdV k) = _
  unfold kdV
  rw [if_neg (by omega)]
set_option maxHeartbeats 4000000 in
set_option maxRecDepth 100000 in
theorem tB_tryToIssue (l : Launch) (dC : Nat → ClassId) (dI : Nat → Nat → Nat) (a : Nat → Nat) (cI cL cZ : ClassId) (N : Nat → Nat → Nat) (J : Nat → Nat → Int64)  (hG : xG N) (hc : 1 ≤ xCode N) : MetI l yX0_tryToIssue wsX0_tryToIssue ({ frames := 3, cells := 0, slots := 0, locals := 69 } : Room) dC dI (gT cI cL cZ) (xF a cI cL cZ) (xL a) (N, J) [.ref (a 3)] (fun r u => r = nI (xHin N) ∧ u = if xHin N = 0 then xIss (N, J) else (N, J)) := by
  intro sz
  refine g_entry (bytes := cX0_tryToIssue) (maxL := 4) (ret := (some .int)) (Qc := fun sz => va_Qi (fun r u => r = nI (xHin N) ∧ u = if xHin N = 0 then xIss (N, J) else (N, J)) (gB dC dI (xF a cI cL cZ)) (aA (xL a) sz)) (by decide) rfl (Nat.le_of_ble_eq_true rfl) rfl ?_
  intro p e s m below meth c ls hx hb hr hml hts hown hlocks hK hP hD hS hZ hl
  have hP : va_P (dC, dI) vwCl (xW a cI cL cZ N J) s.heap := hP
  have hD : va_D (aA (xL a) s.heap.size) (xW a cI cL cZ N J) := hD
  have hown : s.vm.findClass RX0 = some m.cls := hown
  have hl : lv_has ls 4 [(0, .ref (a 3))] := hl
  have hi0 : ∀ w ∈ wsX00, w ∈ wsX0_tryToIssue := by decide +kernel
  have hi1 : ∀ w ∈ wsX10, w ∈ wsX0_tryToIssue := by decide +kernel
  have hi2 : ∀ w ∈ wsX20, w ∈ wsX0_tryToIssue := by decide +kernel
  have k106 := hts (.fieldLink RX0 106 "ScoreMachine$Setup" "ds" "[I") (by decide +kernel)
  have k109 := hts (.fieldLink RX0 109 "ScoreMachine$PlainMachine" "place" "I") (by decide +kernel)
  have k18 := hts (.fieldLink RX0 18 "ScoreMachine$Board" "writtenAt" "[I") (by decide +kernel)
  have k37 := hts (.fieldLink RX0 37 "ScoreMachine$Board" "setup" "LScoreMachine$Setup;") (by decide +kernel)
  have k41 := hts (.fieldLink RX0 41 "ScoreMachine$Board" "plainMachine" "LScoreMachine$PlainMachine;") (by decide +kernel)
  have k45 := hts (.fieldLink RX0 45 "ScoreMachine$Board" "cycle" "I") (by decide +kernel)
  have k53 := hts (.fieldLink RX0 53 "ScoreMachine$Board" "issued" "I") (by decide +kernel)
  have k75 := hts (.fieldLink RX0 75 "ScoreMachine$Board" "branchWritten" "I") (by decide +kernel)
  obtain ⟨hG0, hun, hla, hwd, hsc, hrg, huw⟩ := id hG
  obtain ⟨hpl, hpr⟩ := id hG0
  have hp0 := hpr (N 13 0) hpl
  have hcd : xCode N ≤ 18 := hp0.1
  have hkd := kdN_lt (xCode N)
  have hmD : xD N < 16 := hp0.2.1
  have hmA : xA N < 16 := hp0.2.2.1
  obtain ⟨hnest, tk, tf, hz1, hz2, -, -⟩ := id hZ
  obtain ⟨wb1, wb2, wb3⟩ := xWn_bd hG
  have hfo := xFr_or N (kdN (xCode N))
  refine lv_aload_n hx hb dX0_tryToIssue_0 rfl (lv_at hl 0 rfl) ?_
  refine xg_21 hx hb hts hi0 hown hK hP k41 dX0_tryToIssue_1 ?_
  refine g_calli (u := (N, J)) (g_runV (As := []) (rest := []) ⟨hx, hb, hml, hown, hts⟩ (tP_code l dC dI a cI cL cZ N J hG.1 s.heap.size) (cwV 0 hts gX0_tryToIssue_X1_code rfl rfl rfl (by decide +kernel) ⟨Nat.le_of_ble_eq_true rfl, Nat.le_of_ble_eq_true rfl⟩) (va_recv hK hP (ci := 1) (q0 := 2) rfl rfl) hK hP hD hS hZ rfl hl.1 rfl (Nat.le_of_ble_eq_true rfl) dX0_tryToIssue_4) (xW_L a cI cL cZ) hD hS (fun r_4 u H locs hw hP hD hS => ?_)
  obtain ⟨rfl, rfl⟩ := hw
  have hP : va_P (dC, dI) vwCl (xW a cI cL cZ N J) H := hP
  have hD : va_D (aA (xL a) s.heap.size) (xW a cI cL cZ N J) := hD
  refine lv_istore_n (lv' := [(1, .int (nI (xCode N))), (0, .ref (a 3))]) hx hb dX0_tryToIssue_7 rfl hl (by decide) rfl (fun ls hl => ?_)
  refine va_getsN hx hb hz1 hS hown (va_Nw.use rfl hnest.1) (fun _ h => h) dX0_tryToIssue_8 ?_
  refine lv_iload_n hx hb dX0_tryToIssue_11 rfl (lv_at hl 0 rfl) ?_
  refine va_ti (v := .int (nI (kdN (xCode N)))) hx hb hz2 hS (vp_in_nI (show xCode N < 19 by omega) (by decide)) (kdV_pos hc (by omega)) dX0_tryToIssue_12 ?_
  refine lv_istore_n (lv' := [(2, .int (nI (kdN (xCode N)))), (1, .int (nI (xCode N))), (0, .ref (a 3))]) hx hb dX0_tryToIssue_13 rfl hl (by decide) rfl (fun ls hl => ?_)
  refine lv_aload_n hx hb dX0_tryToIssue_14 rfl (lv_at hl 2 rfl) ?_
  refine xg_33 (v := N 33 0) hx hb hts hi0 hown hK hP k75 rfl dX0_tryToIssue_15 ?_
  refine lv_aload_n hx hb dX0_tryToIssue_18 rfl (lv_at hl 2 rfl) ?_
  refine xg_22 (v := N 22 0) hx hb hts hi0 hown hK hP k45 rfl dX0_tryToIssue_19 ?_
  refine n_icmp_lt (tgt := 27) hx hb (by omega) (by omega) dX0_tryToIssue_22 (by decide) (fun c_22 => ?_) (fun c_22 => ?_)
  · refine lv_aload_n hx hb dX0_tryToIssue_27 rfl (lv_at hl 2 rfl) ?_
    refine lv_iload_n hx hb dX0_tryToIssue_28 rfl (lv_at hl 0 rfl) ?_
    refine g_calli (u := (N, J)) (g_runV (As := [.int (nI (kdN (xCode N)))]) (rest := []) ⟨hx, hb, hml, hown, hts⟩ (tB_lowestFreeUnit l dC dI a cI cL cZ N J (kdN (xCode N)) hG hkd H.size) (cwV 1 hts gX0_tryToIssue_X0_lowestFreeUnit rfl rfl rfl (by decide +kernel) ⟨Nat.le_of_ble_eq_true rfl, Nat.le_of_ble_eq_true rfl⟩) (va_recv hK hP (ci := 0) (q0 := 3) rfl rfl) hK hP hD hS hZ rfl hl.1 rfl (Nat.le_of_ble_eq_true rfl) dX0_tryToIssue_29) (xW_L a cI cL cZ) hD hS (fun r_29 u H locs hw hP hD hS => ?_)
    obtain ⟨rfl, rfl⟩ := hw
    have hP : va_P (dC, dI) vwCl (xW a cI cL cZ N J) H := hP
    have hD : va_D (aA (xL a) s.heap.size) (xW a cI cL cZ N J) := hD
    refine lv_istore_n (lv' := [(3, .int (nI (xFr N (kdN (xCode N))))), (2, .int (nI (kdN (xCode N)))), (1, .int (nI (xCode N))), (0, .ref (a 3))]) hx hb dX0_tryToIssue_32 rfl hl (by decide) rfl (fun ls hl => ?_)
    refine lv_iload_n hx hb dX0_tryToIssue_33 rfl (lv_at hl 0 rfl) ?_
    refine lv_iconst (v := nI 4294967295) hx hb dX0_tryToIssue_34 (by decide) ?_
    refine lv_icmp_ne (tgt := 40) hx hb dX0_tryToIssue_35 (by decide) (fun c_35 => ?_) (fun c_35 => ?_)
    · have hfr : xFr N (kdN (xCode N)) ≤ 2 := hfo.resolve_right (fun z => c_35 (by rw [z]))
      refine w_join (X := Unit) (P := fun x76 => xHin N = 0) (pj := 76) (nL := 4) (lv := fun x76 => [(3, .int (nI (xFr N (kdN (xCode N))))), (2, .int (nI (kdN (xCode N)))), (1, .int (nI (xCode N))), (0, .ref (a 3))]) (st := fun x76 => []) (fun jn_76 => ?_) (fun x76 ls ex76 hl => ?_)
      · refine lv_iload_n hx hb dX0_tryToIssue_40 rfl (lv_at hl 2 rfl) ?_
        refine s_calliN (As := [.int (nI (xCode N))]) (rest := []) ⟨hx, hb, hml, hown, hts⟩ (tA_writesD l (xCode N) (by omega)) ⟨va_cnB (host := "ScoreMachine") 1 hts gX0_tryToIssue_X3_writesD_n102 rfl rfl rfl hZ.1.2.2.1 (hts (.initialized RX3) (by decide +kernel)) (by decide +kernel) ⟨Nat.le_of_ble_eq_true rfl, Nat.le_of_ble_eq_true rfl⟩, hts (.static yX3_writesD) (by decide +kernel), trivial⟩ rfl hl.1 rfl (Nat.le_of_ble_eq_true rfl) dX0_tryToIssue_41 (fun r_41 hw => ?_)
        subst hw
        refine n_if_eq (tgt := 76) hx hb bL dX0_tryToIssue_44 (by decide) (fun c_44 => ?_) (fun c_44 => ?_)
        · exact jn_76 () ls (by unfold xHin; rw [if_neg (by omega), if_neg (by omega), if_neg (fun z => b0 c_44 z.1)]) (lv_sub hl [0, 1, 2, 3] rfl)
        · refine lv_aload_n hx hb dX0_tryToIssue_47 rfl (lv_at hl 3 rfl) ?_
          refine xg_27 hx hb hts hi0 hown hK hP k18 dX0_tryToIssue_48 ?_
          refine lv_aload_n hx hb dX0_tryToIssue_51 rfl (lv_at hl 3 rfl) ?_
          refine xg_20 hx hb hts hi0 hown hK hP k37 dX0_tryToIssue_52 ?_
          refine xg_1 hx hb hts hi2 hown hK hP k106 dX0_tryToIssue_55 ?_
          refine lv_aload_n hx hb dX0_tryToIssue_58 rfl (lv_at hl 3 rfl) ?_
          refine xg_21 hx hb hts hi0 hown hK hP k41 dX0_tryToIssue_59 ?_
          refine xg_13 (v := N 13 0) hx hb hts hi1 hown hK hP k109 rfl dX0_tryToIssue_62 ?_
          refine xl_1 (v := xD N) hx hb hK hP (by omega) rfl dX0_tryToIssue_65 ?_
          refine xl_27 (v := N 27 (xD N)) hx hb hK hP hmD rfl dX0_tryToIssue_66 ?_
          refine lv_aload_n hx hb dX0_tryToIssue_67 rfl (lv_at hl 3 rfl) ?_
          refine xg_22 (v := N 22 0) hx hb hts hi0 hown hK hP k45 rfl dX0_tryToIssue_68 ?_
          refine n_icmp_lt (tgt := 76) hx hb (by have := (hrg _ hmD).1; omega) (by omega) dX0_tryToIssue_71 (by decide) (fun c_71 => ?_) (fun c_71 => ?_)
          · exact jn_76 () ls (by unfold xHin; rw [if_neg (by omega), if_neg (by omega), if_neg (fun z => absurd z.2 (by omega))]) (lv_sub hl [0, 1, 2, 3] rfl)
          · have hh : xHin N = 3 := by unfold xHin; rw [if_neg (by omega), if_neg (by omega), if_pos ⟨b1 c_44, c_71⟩]
            refine lv_iconst (v := nI 3) hx hb dX0_tryToIssue_74 (by decide) ?_
            exact g_reti hx hb hr hlocks (N, J) (⟨by rw [hh], by rw [if_neg (by rw [hh]; decide)]⟩) hP hS dX0_tryToIssue_75
      · have ex76 : xHin N = 0 := ex76
        have hl : lv_has ls 4 [(3, .int (nI (xFr N (kdN (xCode N))))), (2, .int (nI (kdN (xCode N)))), (1, .int (nI (xCode N))), (0, .ref (a 3))] := hl
        have hU18 : xU N < 18 := by unfold xU; omega
        refine lv_aload_n hx hb dX0_tryToIssue_76 rfl (lv_at hl 3 rfl) ?_
        refine lv_iload_n hx hb dX0_tryToIssue_77 rfl (lv_at hl 2 rfl) ?_
        refine lv_iload_n hx hb dX0_tryToIssue_78 rfl (lv_at hl 1 rfl) ?_
        refine g_callv (u := (N, J)) (g_runV (As := [.int (nI (xCode N)), .int (nI (kdN (xCode N)))]) (rest := []) ⟨hx, hb, hml, hown, hts⟩ (tB_settleCycles l dC dI a cI cL cZ N J hG H.size) (cwV 2 hts gX0_tryToIssue_X0_settleCycles rfl rfl rfl (by decide +kernel) ⟨Nat.le_of_ble_eq_true rfl, Nat.le_of_ble_eq_true rfl⟩) (va_recv hK hP (ci := 0) (q0 := 3) rfl rfl) hK hP hD hS hZ rfl hl.1 rfl (Nat.le_of_ble_eq_true rfl) dX0_tryToIssue_79) (xW_L a cI cL cZ) hD hS (fun u H locs hw hP hD hS => ?_)
        subst hw
        have hP : va_P (dC, dI) vwCl (xW a cI cL cZ (xS1 N) J) H := hP
        have hD : va_D (aA (xL a) s.heap.size) (xW a cI cL cZ (xS1 N) J) := hD
        refine lv_aload_n hx hb dX0_tryToIssue_82 rfl (lv_at hl 3 rfl) ?_
        refine lv_iload_n hx hb dX0_tryToIssue_83 rfl (lv_at hl 1 rfl) ?_
        refine lv_iload_n hx hb dX0_tryToIssue_84 rfl (lv_at hl 0 rfl) ?_
        refine s_calliN (As := [.int (nI (kdN (xCode N))), .int (nI (xFr N (kdN (xCode N))))]) (rest := [.ref (a 3)]) ⟨hx, hb, hml, hown, hts⟩ (tA_unitRow l (kdN (xCode N)) (xFr N (kdN (xCode N)))) ⟨va_cnB (host := "ScoreMachine") 2 hts gX0_tryToIssue_X3_unitRow_n116 rfl rfl rfl hZ.1.2.2.2.1 (hts (.initialized RX3) (by decide +kernel)) (by decide +kernel) ⟨Nat.le_of_ble_eq_true rfl, Nat.le_of_ble_eq_true rfl⟩, hts (.static yX3_unitRow) (by decide +kernel), trivial⟩ rfl hl.1 rfl (Nat.le_of_ble_eq_true rfl) dX0_tryToIssue_85 (fun r_85 hw => ?_)
        have hw : r_85 = nI (xU N) := hw
        subst hw
        refine g_callv (u := ((xS1 N), J)) (g_runV (As := [.int (nI (xU N))]) (rest := []) ⟨hx, hb, hml, hown, hts⟩ (tB_keepRow l dC dI a cI cL cZ (xS1 N) J (xU N) hU18 (by show N 24 0 < _; omega) H.size) (cwV 1 hts gX0_tryToIssue_X0_keepRow rfl rfl rfl (by decide +kernel) ⟨Nat.le_of_ble_eq_true rfl, Nat.le_of_ble_eq_true rfl⟩) (va_recv hK hP (ci := 0) (q0 := 3) rfl rfl) hK hP hD hS hZ rfl hl.1 rfl (Nat.le_of_ble_eq_true rfl) dX0_tryToIssue_88) (xW_L a cI cL cZ) hD hS (fun u H locs hw hP hD hS => ?_)
        subst hw
        have hP : va_P (dC, dI) vwCl (xW a cI cL cZ (xKeep (xS1 N) (xU N)) J) H := hP
        have hD : va_D (aA (xL a) s.heap.size) (xW a cI cL cZ (xKeep (xS1 N) (xU N)) J) := hD
        refine lv_aload_n hx hb dX0_tryToIssue_91 rfl (lv_at hl 3 rfl) ?_
        refine lv_iload_n hx hb dX0_tryToIssue_92 rfl (lv_at hl 2 rfl) ?_
        refine g_callv (u := ((xKeep (xS1 N) (xU N)), J)) (g_runV (As := [.int (nI (xCode N))]) (rest := []) ⟨hx, hb, hml, hown, hts⟩ (tB_noteReading l dC dI a cI cL cZ (xKeep (xS1 N) (xU N)) J hG.1 (fun j hj => by have := (hrg j hj).2; show N 29 j < _; omega) (by show xa3 N + 1 < _; omega) H.size) (cwV 1 hts gX0_tryToIssue_X0_noteReading rfl rfl rfl (by decide +kernel) ⟨Nat.le_of_ble_eq_true rfl, Nat.le_of_ble_eq_true rfl⟩) (va_recv hK hP (ci := 0) (q0 := 3) rfl rfl) hK hP hD hS hZ rfl hl.1 rfl (Nat.le_of_ble_eq_true rfl) dX0_tryToIssue_93) (xW_L a cI cL cZ) hD hS (fun u H locs hw hP hD hS => ?_)
        subst hw
        have hP : va_P (dC, dI) vwCl (xW a cI cL cZ (xNR (xKeep (xS1 N) (xU N))) J) H := hP
        have hD : va_D (aA (xL a) s.heap.size) (xW a cI cL cZ (xNR (xKeep (xS1 N) (xU N))) J) := hD
        have q3 : ∀ f, (f ≠ 29 ∧ f ≠ 35 ∧ f ≠ 36 ∧ f ≠ 37) → xNR (xKeep (xS1 N) (xU N)) f = N f := fun f hf => xI3_o N hf
        have q35 : xNR (xKeep (xS1 N) (xU N)) 35 5 = xWn N := (xI3_c (N, J)).2.2.2
        obtain ⟨N3, e3⟩ : ∃ z, z = xNR (xKeep (xS1 N) (xU N)) := ⟨_, rfl⟩
        rw [← e3] at hP hD q3 q35
        have hG3 : xG0 N3 := by unfold xG0; rw [q3 13 (by decide), q3 0 (by decide), q3 1 (by decide), q3 2 (by decide), q3 3 (by decide)]; exact hG.1
        have hc3 : xCode N3 = xCode N := by unfold xCode; rw [q3 13 (by decide), q3 0 (by decide)]
        refine lv_aload_n hx hb dX0_tryToIssue_96 rfl (lv_at hl 3 rfl) ?_
        refine lv_iload_n hx hb dX0_tryToIssue_97 rfl (lv_at hl 2 rfl) ?_
        refine lv_iload_n hx hb dX0_tryToIssue_98 rfl (lv_at hl 1 rfl) ?_
        refine g_callv (u := (N3, J)) (g_runV (As := [.int (nI (xCode N)), .int (nI (kdN (xCode N)))]) (rest := []) ⟨hx, hb, hml, hown, hts⟩ ((show MetV l yX0_noteWriting wsX0_noteWriting _ dC dI (gT cI cL cZ) (xF a cI cL cZ) (xL a) (N3, J) [.ref (a 3), .int (nI (xCode N)), .int (nI (kdN (xCode N)))] (fun u => u = xNW (N3, J)) by rw [← hc3]; exact tB_noteWriting l dC dI a cI cL cZ N3 J hG3 (by rw [q3 34 (by decide)]; omega) (by rw [q35]; omega)) H.size) (cwV 2 hts gX0_tryToIssue_X0_noteWriting rfl rfl rfl (by decide +kernel) ⟨Nat.le_of_ble_eq_true rfl, Nat.le_of_ble_eq_true rfl⟩) (va_recv hK hP (ci := 0) (q0 := 3) rfl rfl) hK hP hD hS hZ rfl hl.1 rfl (Nat.le_of_ble_eq_true rfl) dX0_tryToIssue_99) (xW_L a cI cL cZ) hD hS (fun u H locs hw hP hD hS => ?_)
        subst hw
        have hP : va_P (dC, dI) vwCl (xW a cI cL cZ (xNW (N3, J)).1 (xNW (N3, J)).2) H := hP
        have hD : va_D (aA (xL a) s.heap.size) (xW a cI cL cZ (xNW (N3, J)).1 (xNW (N3, J)).2) := hD
        have q4 : ∀ f, ((f ≠ 34 ∧ f ≠ 33 ∧ f ≠ 30 ∧ f ≠ 31 ∧ f ≠ 26 ∧ f ≠ 27) ∧ (f ≠ 29 ∧ f ≠ 35 ∧ f ≠ 36 ∧ f ≠ 37)) → (xNW (N3, J)).1 f = N f := fun f hf => by rw [xNW_o hf.1]; exact q3 f hf.2
        have j4 : ∀ f, (f ≠ 28 ∧ f ≠ 32) → (xNW (N3, J)).2 f = J f := fun f hf => xNW_J hf
        have e4 : xI4 (N, J) = xNW (N3, J) := by rw [e3]; rfl
        generalize xNW (N3, J) = U4 at hP hD q4 j4 e4
        obtain ⟨N4, J4⟩ := U4
        have hP : va_P (dC, dI) vwCl (xW a cI cL cZ N4 J4) H := hP
        have hD : va_D (aA (xL a) s.heap.size) (xW a cI cL cZ N4 J4) := hD
        have q4 : ∀ f, ((f ≠ 34 ∧ f ≠ 33 ∧ f ≠ 30 ∧ f ≠ 31 ∧ f ≠ 26 ∧ f ≠ 27) ∧ (f ≠ 29 ∧ f ≠ 35 ∧ f ≠ 36 ∧ f ≠ 37)) → N4 f = N f := q4
        have j4 : ∀ f, (f ≠ 28 ∧ f ≠ 32) → J4 f = J f := j4
        have hG4 : xG0 N4 := by unfold xG0; rw [q4 13 (by decide), q4 0 (by decide), q4 1 (by decide), q4 2 (by decide), q4 3 (by decide)]; exact hG.1
        have hc4 : xCode N4 = xCode N := by unfold xCode; rw [q4 13 (by decide), q4 0 (by decide)]
        have hx4 : xNx N4 J4 = xNx N J := xNx_c (q4 0 (by decide)) (q4 2 (by decide)) (q4 3 (by decide)) (q4 13 (by decide)) (j4 11 (by decide))
        have hs4 : xStepJ N4 J4 = xStepJ N J4 := xStepJ_c (J := J) (q4 0 (by decide)) (q4 1 (by decide)) (q4 2 (by decide)) (q4 3 (by decide)) (q4 13 (by decide))
        refine lv_aload_n hx hb dX0_tryToIssue_102 rfl (lv_at hl 3 rfl) ?_
        refine xg_21 hx hb hts hi0 hown hK hP k41 dX0_tryToIssue_103 ?_
        refine g_callv (u := (N4, J4)) (g_runV (As := []) (rest := []) ⟨hx, hb, hml, hown, hts⟩ (tP_step l dC dI a cI cL cZ N4 J4 hG4 (by rw [hc4]; exact hc) H.size) (cwV 0 hts gX0_tryToIssue_X1_step rfl rfl rfl (by decide +kernel) ⟨Nat.le_of_ble_eq_true rfl, Nat.le_of_ble_eq_true rfl⟩) (va_recv hK hP (ci := 1) (q0 := 2) rfl rfl) hK hP hD hS hZ rfl hl.1 rfl (Nat.le_of_ble_eq_true rfl) dX0_tryToIssue_106) (xW_L a cI cL cZ) hD hS (fun u H locs hw hP hD hS => ?_)
        rw [hx4, hs4] at hw
        subst hw
        have hP : va_P (dC, dI) vwCl (xW a cI cL cZ (uN N4 13 0 (xNx N J)) (xStepJ N J4)) H := hP
        have hD : va_D (aA (xL a) s.heap.size) (xW a cI cL cZ (uN N4 13 0 (xNx N J)) (xStepJ N J4)) := hD
        refine lv_aload_n hx hb dX0_tryToIssue_109 rfl (lv_at hl 3 rfl) ?_
        refine lv_dup hx hb dX0_tryToIssue_110 rfl ?_
        refine xg_24 (v := N 24 0) hx hb hts hi0 hown hK hP k53 (by rw [uN_o (by decide), q4 24 (by decide)]) dX0_tryToIssue_111 ?_
        refine lv_iconst (v := nI 1) hx hb dX0_tryToIssue_114 (by decide) ?_
        refine n_add hx hb dX0_tryToIssue_115 ?_
        refine xp_24 hx hb hts hi0 hown hK hP hD hS k53 dX0_tryToIssue_116 (fun H locs hP hD hS => ?_)
        refine lv_iconst (v := nI 0) hx hb dX0_tryToIssue_119 (by decide) ?_
        exact g_reti hx hb hr hlocks ((uN (uN N4 13 0 (xNx N J)) 24 (0) ((N 24 0) + 1)), (xStepJ N J4)) (⟨by rw [ex76], by rw [if_pos ex76]; unfold xIss xI5; rw [e4]⟩) hP hS dX0_tryToIssue_120
    · have hfr : xFr N (kdN (xCode N)) = 4294967295 := hfo.resolve_left (fun z => nI_m1 z c_35)
      have hh : xHin N = 2 := by unfold xHin; rw [if_neg (by omega), if_pos hfr]
      refine lv_iconst (v := nI 2) hx hb dX0_tryToIssue_38 (by decide) ?_
      exact g_reti hx hb hr hlocks (N, J) (⟨by rw [hh], by rw [if_neg (by rw [hh]; decide)]⟩) hP hS dX0_tryToIssue_39
  · refine lv_iconst (v := nI 1) hx hb dX0_tryToIssue_25 (by decide) ?_
    exact g_reti hx hb hr hlocks (N, J) (⟨by unfold xHin; rw [if_pos c_22], by rw [if_neg (by unfold xHin; rw [if_pos c_22]; decide)]⟩) hP hS dX0_tryToIssue_26
/-- what holds of the class's numbers at all times -/
def xInv (N : Nat → Nat → Nat) : Prop := xG0 N ∧ (∀ k, k < 6 → 1 ≤ N 4 k ∧ N 4 k ≤ 3) ∧ (∀ k, k < 6 → 1 ≤ N 5 k ∧ N 5 k ≤ 30) ∧ (1 ≤ N 8 0 ∧ N 8 0 ≤ 4)
  ∧ N 34 0 ≤ N 22 0 + 32 * N 24 0 ∧ N 33 0 ≤ N 34 0 ∧ (∀ j, j < 16 → N 27 j ≤ N 34 0 ∧ N 29 j ≤ N 34 0) ∧ (∀ k, k < 18 → N 36 (6 * k + 5) ≤ N 34 0) ∧ N 30 0 < 256 ∧ N 31 0 ≤ N 34 0
  ∧ (∀ i, i < 108 → N 36 i ≤ N 34 0 + 256 + N 24 0) ∧ (∀ i, i < 384 → N 37 i ≤ N 34 0 + 256 + N 24 0)
theorem xInv_G {N : Nat → Nat → Nat} (h : xInv N) (hb : N 22 0 ≤ 2000000) (h24 : N 24 0 ≤ 4 * N 22 0) : xG N := by
  obtain ⟨h0, h1, h2, h3, h4, h5, h6, h7, h8, h9, h10⟩ := h
  refine ⟨h0, h1, fun k hk => (h2 k hk).2, h3, ⟨by omega, by omega, by omega, by omega⟩, fun j hj => ?_, fun k hk => ?_⟩
  · have := h6 j hj
    omega
  · have := h7 k hk
    omega
theorem xW_bd {N : Nat → Nat → Nat} (h : xInv N) : N 22 0 ≤ xa3 N ∧ xa3 N + 2 ≤ xDn N ∧ xDn N + 1 ≤ xWn N ∧ xWn N ≤ max (N 22 0) (N 34 0) + 32 := by
  obtain ⟨h0, h1, h2, h3, h4, h5, h6, h7, h8, h9, h10⟩ := h
  have hp := h0.2 _ h0.1
  have hA := h6 (xA N) hp.2.2.1
  have hB := h6 (xBB N % 16) (by omega)
  have hD := h6 (xD N) hp.2.1
  have hl := h2 (kdN (xCode N)) (kdN_lt _)
  have e1 : N 22 0 ≤ xa1 N ∧ xa1 N ≤ max (N 22 0) (N 34 0) := by unfold xa1; split <;> omega
  have e2 : N 22 0 ≤ xa2 N ∧ xa2 N ≤ max (N 22 0) (N 34 0) := by unfold xa2; split <;> omega
  have e3 : N 22 0 ≤ xa3 N ∧ xa3 N ≤ max (N 22 0) (N 34 0) := by unfold xa3; split <;> omega
  have e4 : xDn N = xa3 N + 1 + N 5 (kdN (xCode N)) := rfl
  have e5 : xDn N + 1 ≤ xWn N ∧ xWn N ≤ max (N 22 0) (N 34 0) + 32 := by unfold xWn; split <;> omega
  omega
theorem xS1_35 (N : Nat → Nat → Nat) (h : xInv N) (i : Nat) (hi : i < 6) : xS1 N 35 i ≤ xWn N + 256 + N 24 0 := by
  have hw := xW_bd h
  have hp := h.1.1
  rcases (show i = 0 ∨ i = 1 ∨ i = 2 ∨ i = 3 ∨ i = 4 ∨ i = 5 by omega) with z | z | z | z | z | z <;> subst z
  · show N 13 0 ≤ _
    omega
  · show N 24 0 ≤ _
    omega
  · show N 22 0 ≤ _
    omega
  · show xa3 N + 1 ≤ _
    omega
  · show xDn N ≤ _
    omega
  · show xWn N ≤ _
    omega
theorem xInv_iss {u : gSt} (h : xInv u.1) (hf : xFr u.1 (kdN (xCode u.1)) ≤ 2) : xInv (xIss u).1 := by
  have hw := xW_bd h
  have hI := h
  obtain ⟨h0, h1, h2, h3, h4, h5, h6, h7, h8, h9, h10, h11⟩ := h
  have o0 : (xIss u).1 0 = u.1 0 := xIss_o u (by decide) (by decide) (by decide)
  have o1 : (xIss u).1 1 = u.1 1 := xIss_o u (by decide) (by decide) (by decide)
  have o2 : (xIss u).1 2 = u.1 2 := xIss_o u (by decide) (by decide) (by decide)
  have o3 : (xIss u).1 3 = u.1 3 := xIss_o u (by decide) (by decide) (by decide)
  have o4 : (xIss u).1 4 = u.1 4 := xIss_o u (by decide) (by decide) (by decide)
  have o5 : (xIss u).1 5 = u.1 5 := xIss_o u (by decide) (by decide) (by decide)
  have o8 : (xIss u).1 8 = u.1 8 := xIss_o u (by decide) (by decide) (by decide)
  have o22 : (xIss u).1 22 = u.1 22 := xIss_o u (by decide) (by decide) (by decide)
  have e34 := xIss_34 u
  have e24 := xIss_24 u
  refine ⟨⟨?_, ?_⟩, ?_, ?_, ?_, ?_, ?_, ?_, ?_, ?_, ?_, ?_, ?_⟩
  · rw [xIss_13]
    unfold xNx nxP
    split <;> omega
  · rw [o0, o1, o2, o3]
    exact h0.2
  · rw [o4]
    exact h1
  · rw [o5]
    exact h2
  · rw [o8]
    exact h3
  · rw [e34, e24, o22]
    omega
  · rw [xIss_33, e34]
    split <;> omega
  · intro j hj
    have := h6 j hj
    rw [xIss_27, xIss_29, e34]
    constructor
    · split <;> omega
    · split <;> omega
  · intro k hk
    have := h7 k hk
    rw [xIss_36, e34]
    split
    · rename_i z
      have e : 6 * k + 5 - xU u.1 * 6 = 5 := by omega
      rw [e]
      show xWn u.1 ≤ _
      omega
    · omega
  · rw [xIss_30]
    split
    · exact clN_lt _
    · exact h8
  · rw [xIss_31, e34]
    split <;> omega
  · intro i hi
    have := h10 i hi
    rw [xIss_36, e34, e24]
    split
    · rename_i z
      have := xS1_35 u.1 hI (i - xU u.1 * 6) (by omega)
      omega
    · omega
  · intro i hi
    have := h11 i hi
    rw [xIss_37, e34, e24]
    split
    · rename_i z
      have := xS1_35 u.1 hI (i - u.1 24 0 % 64 * 6) (by omega)
      omega
    · omega
theorem xHin_0 {N : Nat → Nat → Nat} (h : xHin N = 0) : N 33 0 < N 22 0 ∧ xFr N (kdN (xCode N)) ≤ 2 ∧ (xWD (xCode N) → N 27 (xD N) < N 22 0) := by
  have hf := xFr_or N (kdN (xCode N))
  unfold xHin at h
  split at h
  · cases h
  · split at h
    · cases h
    · split at h
      · cases h
      · rename_i z1 z2 z3
        exact ⟨by omega, by omega, fun z => by omega⟩
theorem xLp_iss {n : Nat} {u : gSt} (h : ¬ xCode u.1 = 0) (h2 : xHin u.1 = 0) : xLp (n + 1) u = xLp n (xIss u) := by
  show (if xCode u.1 = 0 then _ else if xHin u.1 ≠ 0 then _ else xLp n (xIss u)) = _
  rw [if_neg h, if_neg (fun z => z h2)]
theorem xInv_22 {N : Nat → Nat → Nat} (h : xInv N) : xInv (uN N 22 0 (N 22 0 + 1)) := by
  obtain ⟨h0, h1, h2, h3, h4, h5⟩ := h
  exact ⟨h0, h1, h2, h3, by show N 34 0 ≤ N 22 0 + 1 + 32 * N 24 0; omega, h5⟩
set_option maxHeartbeats 4000000 in
set_option maxRecDepth 100000 in
theorem tB_goOneCycle (l : Launch) (dC : Nat → ClassId) (dI : Nat → Nat → Nat) (a : Nat → Nat) (cI cL cZ : ClassId) (N : Nat → Nat → Nat) (J : Nat → Nat → Int64)  (hI : xInv N) (h24 : N 24 0 ≤ 4 * N 22 0) (hcy : N 22 0 ≤ 1600000) : MetV l yX0_goOneCycle wsX0_goOneCycle ({ frames := 4, cells := 0, slots := 0, locals := 92 } : Room) dC dI (gT cI cL cZ) (xF a cI cL cZ) (xL a) (N, J) [.ref (a 3)] (fun u => u = xCyc (N, J)) := by
  intro sz
  refine g_entry (bytes := cX0_goOneCycle) (maxL := 3) (ret := none) (Qc := fun sz => va_Qv (fun u => u = xCyc (N, J)) (gB dC dI (xF a cI cL cZ)) (aA (xL a) sz)) (by decide) rfl (Nat.le_of_ble_eq_true rfl) rfl ?_
  intro p e s m below meth c ls hx hb hr hml hts hown hlocks hK hP hD hS hZ hl
  have hP : va_P (dC, dI) vwCl (xW a cI cL cZ N J) s.heap := hP
  have hD : va_D (aA (xL a) s.heap.size) (xW a cI cL cZ N J) := hD
  have hown : s.vm.findClass RX0 = some m.cls := hown
  have hl : lv_has ls 3 [(0, .ref (a 3))] := hl
  have hi0 : ∀ w ∈ wsX00, w ∈ wsX0_goOneCycle := by decide +kernel
  have hi2 : ∀ w ∈ wsX20, w ∈ wsX0_goOneCycle := by decide +kernel
  have k37 := hts (.fieldLink RX0 37 "ScoreMachine$Board" "setup" "LScoreMachine$Setup;") (by decide +kernel)
  have k41 := hts (.fieldLink RX0 41 "ScoreMachine$Board" "plainMachine" "LScoreMachine$PlainMachine;") (by decide +kernel)
  have k45 := hts (.fieldLink RX0 45 "ScoreMachine$Board" "cycle" "I") (by decide +kernel)
  have k49 := hts (.fieldLink RX0 49 "ScoreMachine$Board" "over" "Z") (by decide +kernel)
  have k78 := hts (.fieldLink RX0 78 "ScoreMachine$Board" "lastWritten" "I") (by decide +kernel)
  have k81 := hts (.fieldLink RX0 81 "ScoreMachine$Setup" "width" "I") (by decide +kernel)
  have k9 := hts (.fieldLink RX0 9 "ScoreMachine$Board" "stalls" "[I") (by decide +kernel)
  refine lv_aload_n hx hb dX0_goOneCycle_0 rfl (lv_at hl 0 rfl) ?_
  refine lv_dup hx hb dX0_goOneCycle_1 rfl ?_
  refine xg_22 (v := N 22 0) hx hb hts hi0 hown hK hP k45 rfl dX0_goOneCycle_2 ?_
  refine lv_iconst (v := nI 1) hx hb dX0_goOneCycle_5 (by decide) ?_
  refine n_add hx hb dX0_goOneCycle_6 ?_
  refine xp_22 hx hb hts hi0 hown hK hP hD hS k45 dX0_goOneCycle_7 (fun H locs hP hD hS => ?_)
  refine lv_iconst (v := nI 0) hx hb dX0_goOneCycle_10 (by decide) ?_
  refine lv_istore_n (lv' := [(1, .int (nI (0))), (0, .ref (a 3))]) hx hb dX0_goOneCycle_11 rfl hl (by decide) rfl (fun ls hl => ?_)
  refine w_loopH (X := gSt × Nat) (μ := fun x12 => N 8 0 - x12.2) (dC := dC) (dI := dI) (A := aA (xL a) s.heap.size) (H0 := s.heap) (Wf := xF a cI cL cZ) (u := fun x12 => (x12.1.1, x12.1.2)) (P := fun x12 => xInv x12.1.1 ∧ x12.1.1 22 0 = N 22 0 + 1 ∧ x12.1.1 8 0 = N 8 0 ∧ x12.1.1 24 0 ≤ 4 * N 22 0 + x12.2 ∧ x12.2 ≤ N 8 0 ∧ xLp (N 8 0 - x12.2) x12.1 = xCyc (N, J)) (pj := 12) (nL := 3) (lv := fun x12 => [(0, .ref (a 3)), (1, .int (nI (x12.2)))]) (st := fun x12 => []) (fun x12 ls H locs ex12 hl hP hD hS jn_12 => ?_) ((uN N 22 0 (N 22 0 + 1), J), 0) ls (⟨xInv_22 hI, rfl, rfl, h24, Nat.zero_le _, rfl⟩) (lv_sub hl [1, 0] rfl) hP hD hS
  have ex12 : xInv x12.1.1 ∧ x12.1.1 22 0 = N 22 0 + 1 ∧ x12.1.1 8 0 = N 8 0 ∧ x12.1.1 24 0 ≤ 4 * N 22 0 + x12.2 ∧ x12.2 ≤ N 8 0 ∧ xLp (N 8 0 - x12.2) x12.1 = xCyc (N, J) := ex12
  have hl : lv_has ls 3 [(0, .ref (a 3)), (1, .int (nI (x12.2)))] := hl
  have hP : va_P (dC, dI) vwCl (xW a cI cL cZ x12.1.1 x12.1.2) H := hP
  have hD : va_D (aA (xL a) s.heap.size) (xW a cI cL cZ x12.1.1 x12.1.2) := hD
  have h8 : 1 ≤ x12.1.1 8 0 ∧ x12.1.1 8 0 ≤ 4 := ex12.1.2.2.2.1
  have hG := xInv_G ex12.1 (by omega) (by omega)
  have hc18 : xCode x12.1.1 ≤ 18 := (hG.1.2 _ hG.1.1).1
  obtain ⟨-, -, -, -, hsc, -, -⟩ := id hG
  have hhl := xHin_le x12.1.1
  refine lv_iload_n hx hb dX0_goOneCycle_12 rfl (lv_at hl 1 rfl) ?_
  refine lv_aload_n hx hb dX0_goOneCycle_13 rfl (lv_at hl 0 rfl) ?_
  refine xg_20 hx hb hts hi0 hown hK hP k37 dX0_goOneCycle_14 ?_
  refine xg_8 (v := x12.1.1 8 0) hx hb hts hi2 hown hK hP k81 rfl dX0_goOneCycle_17 ?_
  refine n_icmp_ge (tgt := 80) hx hb (by omega) (by omega) dX0_goOneCycle_20 (by decide) (fun c_20 => ?_) (fun c_20 => ?_)
  · have hZ9 : x12.1 = xCyc (N, J) := by rw [← ex12.2.2.2.2.2, show N 8 0 - x12.2 = 0 by omega]; rfl
    exact g_retv hx hb hr hlocks (x12.1.1, x12.1.2) (hZ9) hP hS dX0_goOneCycle_80
  · refine lv_aload_n hx hb dX0_goOneCycle_23 rfl (lv_at hl 0 rfl) ?_
    refine xg_21 hx hb hts hi0 hown hK hP k41 dX0_goOneCycle_24 ?_
    refine g_calli (u := (x12.1.1, x12.1.2)) (g_runV (As := []) (rest := []) ⟨hx, hb, hml, hown, hts⟩ (tP_code l dC dI a cI cL cZ x12.1.1 x12.1.2 hG.1 H.size) (cwV 0 hts gX0_goOneCycle_X1_code rfl rfl rfl (by decide +kernel) ⟨Nat.le_of_ble_eq_true rfl, Nat.le_of_ble_eq_true rfl⟩) (va_recv hK hP (ci := 1) (q0 := 2) rfl rfl) hK hP hD hS hZ rfl hl.1 rfl (Nat.le_of_ble_eq_true rfl) dX0_goOneCycle_27) (xW_L a cI cL cZ) hD hS (fun r_27 u H locs hw hP hD hS => ?_)
    obtain ⟨rfl, rfl⟩ := hw
    have hP : va_P (dC, dI) vwCl (xW a cI cL cZ x12.1.1 x12.1.2) H := hP
    have hD : va_D (aA (xL a) s.heap.size) (xW a cI cL cZ x12.1.1 x12.1.2) := hD
    refine n_if_ne (tgt := 54) hx hb (by omega) dX0_goOneCycle_30 (by decide) (fun c_30 => ?_) (fun c_30 => ?_)
    · refine lv_aload_n hx hb dX0_goOneCycle_54 rfl (lv_at hl 0 rfl) ?_
      refine g_calli (u := (x12.1.1, x12.1.2)) (g_runV (As := []) (rest := []) ⟨hx, hb, hml, hown, hts⟩ (tB_tryToIssue l dC dI a cI cL cZ x12.1.1 x12.1.2 hG (by omega) H.size) (cwV 0 hts gX0_goOneCycle_X0_tryToIssue rfl rfl rfl (by decide +kernel) ⟨Nat.le_of_ble_eq_true rfl, Nat.le_of_ble_eq_true rfl⟩) (va_recv hK hP (ci := 0) (q0 := 3) rfl rfl) hK hP hD hS hZ rfl hl.1 rfl (Nat.le_of_ble_eq_true rfl) dX0_goOneCycle_55) (xW_L a cI cL cZ) hD hS (fun r_55 u H locs hw hP hD hS => ?_)
      obtain ⟨hr9, hu9⟩ := hw
      have hr9 : r_55 = nI (xHin x12.1.1) := hr9
      subst hr9
      subst hu9
      have hP : va_P (dC, dI) vwCl (xW a cI cL cZ (if xHin x12.1.1 = 0 then xIss (x12.1.1, x12.1.2) else (x12.1.1, x12.1.2)).1 (if xHin x12.1.1 = 0 then xIss (x12.1.1, x12.1.2) else (x12.1.1, x12.1.2)).2) H := hP
      have hD : va_D (aA (xL a) s.heap.size) (xW a cI cL cZ (if xHin x12.1.1 = 0 then xIss (x12.1.1, x12.1.2) else (x12.1.1, x12.1.2)).1 (if xHin x12.1.1 = 0 then xIss (x12.1.1, x12.1.2) else (x12.1.1, x12.1.2)).2) := hD
      refine lv_istore_n (lv' := [(2, .int (nI (xHin x12.1.1))), (0, .ref (a 3)), (1, .int (nI (x12.2)))]) hx hb dX0_goOneCycle_58 rfl hl (by decide) rfl (fun ls hl => ?_)
      refine lv_iload_n hx hb dX0_goOneCycle_59 rfl (lv_at hl 0 rfl) ?_
      refine n_if_eq (tgt := 74) hx hb (by omega) dX0_goOneCycle_60 (by decide) (fun c_60 => ?_) (fun c_60 => ?_)
      · rw [if_pos c_60] at hP hD
        have hP : va_P (dC, dI) vwCl (xW a cI cL cZ (xIss x12.1).1 (xIss x12.1).2) H := hP
        have hD : va_D (aA (xL a) s.heap.size) (xW a cI cL cZ (xIss x12.1).1 (xIss x12.1).2) := hD
        refine lv_iinc (v := nI (x12.2 + 1)) (lv' := [(1, .int (nI (x12.2 + 1))), (2, .int (nI (xHin x12.1.1))), (0, .ref (a 3))]) hx hb dX0_goOneCycle_74 hl (k := 2) rfl (nI_1 _) (by decide) rfl (fun ls hl => ?_)
        refine lv_goto (tgt := 12) hx hb dX0_goOneCycle_77 (by decide) ?_
        exact jn_12 (xIss x12.1, x12.2 + 1) ls _ _ (⟨xInv_iss ex12.1 (xHin_0 c_60).2.1, by rw [show (xIss x12.1).1 22 = x12.1.1 22 from xIss_o x12.1 (by decide) (by decide) (by decide)]; exact ex12.2.1, by rw [show (xIss x12.1).1 8 = x12.1.1 8 from xIss_o x12.1 (by decide) (by decide) (by decide)]; exact ex12.2.2.1, by rw [xIss_24]; omega, by show x12.2 + 1 ≤ _; omega, by have z := ex12.2.2.2.2.2; rw [show N 8 0 - x12.2 = (N 8 0 - (x12.2 + 1)) + 1 by omega] at z; rw [xLp_iss c_30 c_60] at z; exact z⟩) (by show N 8 0 - (x12.2 + 1) < N 8 0 - x12.2; omega) (lv_sub hl [2, 0] rfl) hP hD hS
      · rw [if_neg c_60] at hP hD
        have hP : va_P (dC, dI) vwCl (xW a cI cL cZ x12.1.1 x12.1.2) H := hP
        have hD : va_D (aA (xL a) s.heap.size) (xW a cI cL cZ x12.1.1 x12.1.2) := hD
        refine lv_aload_n hx hb dX0_goOneCycle_63 rfl (lv_at hl 1 rfl) ?_
        refine xg_25 hx hb hts hi0 hown hK hP k9 dX0_goOneCycle_64 ?_
        refine lv_iload_n hx hb dX0_goOneCycle_67 rfl (lv_at hl 0 rfl) ?_
        refine lv_dup2_11 hx hb dX0_goOneCycle_68 rfl rfl ?_
        refine xl_25 (v := x12.1.1 25 (xHin x12.1.1)) hx hb hK hP (by omega) rfl dX0_goOneCycle_69 ?_
        refine lv_iconst (v := nI 1) hx hb dX0_goOneCycle_70 (by decide) ?_
        refine n_add hx hb dX0_goOneCycle_71 ?_
        refine xs_25 hx hb hK hP hD hS (by omega) dX0_goOneCycle_72 (fun H locs hP hD hS => ?_)
        have hZ9 : (uN x12.1.1 25 (xHin x12.1.1) (x12.1.1 25 (xHin x12.1.1) + 1), x12.1.2) = xCyc (N, J) := by rw [← ex12.2.2.2.2.2, show N 8 0 - x12.2 = (N 8 0 - (x12.2 + 1)) + 1 by omega]; unfold xLp; rw [if_neg c_30, if_pos c_60]
        exact g_retv hx hb hr hlocks ((uN x12.1.1 25 (xHin x12.1.1) ((x12.1.1 25 (xHin x12.1.1)) + 1)), x12.1.2) (hZ9) hP hS dX0_goOneCycle_73
    · refine lv_aload_n hx hb dX0_goOneCycle_33 rfl (lv_at hl 0 rfl) ?_
      refine lv_aload_n hx hb dX0_goOneCycle_34 rfl (lv_at hl 0 rfl) ?_
      refine xg_34 (v := x12.1.1 34 0) hx hb hts hi0 hown hK hP k78 rfl dX0_goOneCycle_35 ?_
      refine lv_aload_n hx hb dX0_goOneCycle_38 rfl (lv_at hl 0 rfl) ?_
      refine xg_22 (v := x12.1.1 22 0) hx hb hts hi0 hown hK hP k45 rfl dX0_goOneCycle_39 ?_
      refine n_icmp_ge (tgt := 49) hx hb (by omega) (by omega) dX0_goOneCycle_42 (by decide) (fun c_42 => ?_) (fun c_42 => ?_)
      · refine lv_iconst (v := nI 0) hx hb dX0_goOneCycle_49 (by decide) ?_
        refine xp_23 hx hb hts hi0 hown hK hP hD hS k49 (by decide) dX0_goOneCycle_50 (fun H locs hP hD hS => ?_)
        have hZ9 : (uN x12.1.1 23 0 0, x12.1.2) = xCyc (N, J) := by rw [← ex12.2.2.2.2.2, show N 8 0 - x12.2 = (N 8 0 - (x12.2 + 1)) + 1 by omega]; unfold xLp; rw [if_pos c_30, if_neg (by omega)]
        exact g_retv hx hb hr hlocks ((uN x12.1.1 23 (0) (0)), x12.1.2) (hZ9) hP hS dX0_goOneCycle_53
      · refine lv_iconst (v := nI 1) hx hb dX0_goOneCycle_45 (by decide) ?_
        refine lv_goto (tgt := 50) hx hb dX0_goOneCycle_46 (by decide) ?_
        refine xp_23 hx hb hts hi0 hown hK hP hD hS k49 (by decide) dX0_goOneCycle_50 (fun H locs hP hD hS => ?_)
        have hZ9 : (uN x12.1.1 23 0 1, x12.1.2) = xCyc (N, J) := by rw [← ex12.2.2.2.2.2, show N 8 0 - x12.2 = (N 8 0 - (x12.2 + 1)) + 1 by omega]; unfold xLp; rw [if_pos c_30, if_pos c_42]
        exact g_retv hx hb hr hlocks ((uN x12.1.1 23 (0) (1)), x12.1.2) (hZ9) hP hS dX0_goOneCycle_53
