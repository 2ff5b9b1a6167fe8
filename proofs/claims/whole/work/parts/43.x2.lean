set_option maxHeartbeats 4000000 in
set_option maxRecDepth 100000 in
theorem tB_lowestFreeUnit (l : Launch) (dC : Nat → ClassId) (dI : Nat → Nat → Nat) (a : Nat → Nat) (cI cL cZ : ClassId) (N : Nat → Nat → Nat) (J : Nat → Nat → Int64) (k : Nat) (hG : xG N) (hk : k < 6) : MetI l yX0_lowestFreeUnit wsX0_lowestFreeUnit ({ frames := 1, cells := 0, slots := 0, locals := 21 } : Room) dC dI (gT cI cL cZ) (xF a cI cL cZ) (xL a) (N, J) [.ref (a 3), .int (nI (k))] (fun r u => r = nI (xFr N k) ∧ u = (N, J)) := by
  intro sz
  refine g_entry (bytes := cX0_lowestFreeUnit) (maxL := 3) (ret := (some .int)) (Qc := fun sz => va_Qi (fun r u => r = nI (xFr N k) ∧ u = (N, J)) (gB dC dI (xF a cI cL cZ)) (aA (xL a) sz)) (by decide) rfl (Nat.le_of_ble_eq_true rfl) rfl ?_
  intro p e s m below meth c ls hx hb hr hml hts hown hlocks hK hP hD hS hZ hl
  have hP : va_P (dC, dI) vwCl (xW a cI cL cZ N J) s.heap := hP
  have hD : va_D (aA (xL a) s.heap.size) (xW a cI cL cZ N J) := hD
  have hown : s.vm.findClass RX0 = some m.cls := hown
  have hl : lv_has ls 3 [(0, .ref (a 3)), (1, .int (nI (k)))] := hl
  have hi0 : ∀ w ∈ wsX00, w ∈ wsX0_lowestFreeUnit := by decide +kernel
  have hi2 : ∀ w ∈ wsX20, w ∈ wsX0_lowestFreeUnit := by decide +kernel
  have k133 := hts (.fieldLink RX0 133 "ScoreMachine$Setup" "unitsOf" "[I") (by decide +kernel)
  have k31 := hts (.fieldLink RX0 31 "ScoreMachine$Board" "unitRows" "[I") (by decide +kernel)
  have k37 := hts (.fieldLink RX0 37 "ScoreMachine$Board" "setup" "LScoreMachine$Setup;") (by decide +kernel)
  have k45 := hts (.fieldLink RX0 45 "ScoreMachine$Board" "cycle" "I") (by decide +kernel)
  obtain ⟨hG0, hun, hla, hwd, hsc, hrg, huw⟩ := id hG
  obtain ⟨hpl, hpr⟩ := id hG0
  have hp0 := hpr (N 13 0) hpl
  have hcd : xCode N ≤ 18 := hp0.1
  have hkd := kdN_lt (xCode N)
  have hmD : xD N < 16 := hp0.2.1
  have hmA : xA N < 16 := hp0.2.2.1
  have hu := hun k hk
  have hb0 : N 36 ((k * 3 + 0) * 6 + 5) < 1073741824 := by have h := huw (k * 3 + 0) (by omega); rwa [show 6 * (k * 3 + 0) + 5 = (k * 3 + 0) * 6 + 5 by omega] at h
  have hb1 : N 36 ((k * 3 + 1) * 6 + 5) < 1073741824 := by have h := huw (k * 3 + 1) (by omega); rwa [show 6 * (k * 3 + 1) + 5 = (k * 3 + 1) * 6 + 5 by omega] at h
  have hb2 : N 36 ((k * 3 + 2) * 6 + 5) < 1073741824 := by have h := huw (k * 3 + 2) (by omega); rwa [show 6 * (k * 3 + 2) + 5 = (k * 3 + 2) * 6 + 5 by omega] at h
  refine lv_iconst (v := nI 0) hx hb dX0_lowestFreeUnit_0 (by decide) ?_
  refine lv_istore_n (lv' := [(2, .int (nI (0))), (0, .ref (a 3)), (1, .int (nI (k)))]) hx hb dX0_lowestFreeUnit_1 rfl hl (by decide) rfl (fun ls hl => ?_)
  refine lv_iload_n hx hb dX0_lowestFreeUnit_2 rfl (lv_at hl 0 rfl) ?_
  refine lv_aload_n hx hb dX0_lowestFreeUnit_3 rfl (lv_at hl 1 rfl) ?_
  refine xg_20 hx hb hts hi0 hown hK hP k37 dX0_lowestFreeUnit_4 ?_
  refine xg_4 hx hb hts hi2 hown hK hP k133 dX0_lowestFreeUnit_7 ?_
  refine lv_iload_n hx hb dX0_lowestFreeUnit_10 rfl (lv_at hl 2 rfl) ?_
  refine xl_4 (v := N 4 k) hx hb hK hP (by omega) rfl dX0_lowestFreeUnit_11 ?_
  refine n_icmp_ge (tgt := 45) hx hb (by omega) (by omega) dX0_lowestFreeUnit_12 (by decide) (fun c_12 => absurd c_12 (by omega)) (fun c_12 => ?_)
  refine lv_aload_n hx hb dX0_lowestFreeUnit_15 rfl (lv_at hl 1 rfl) ?_
  refine xg_36 hx hb hts hi0 hown hK hP k31 dX0_lowestFreeUnit_16 ?_
  refine lv_iload_n hx hb dX0_lowestFreeUnit_19 rfl (lv_at hl 2 rfl) ?_
  refine lv_iload_n hx hb dX0_lowestFreeUnit_20 rfl (lv_at hl 0 rfl) ?_
  refine s_calliN (As := [.int (nI (k)), .int (nI (0))]) (rest := [.ref (a 20)]) ⟨hx, hb, hml, hown, hts⟩ (tA_unitRow l k 0) ⟨va_cnB (host := "ScoreMachine") 2 hts gX0_lowestFreeUnit_X3_unitRow_n116 rfl rfl rfl hZ.1.2.2.2.1 (hts (.initialized RX3) (by decide +kernel)) (by decide +kernel) ⟨Nat.le_of_ble_eq_true rfl, Nat.le_of_ble_eq_true rfl⟩, hts (.static yX3_unitRow) (by decide +kernel), trivial⟩ rfl hl.1 rfl (Nat.le_of_ble_eq_true rfl) dX0_lowestFreeUnit_21 (fun r_21 hw => ?_)
  subst hw
  refine lv_bipush (v := nI 6) hx hb dX0_lowestFreeUnit_24 (by decide) ?_
  refine n_mul hx hb dX0_lowestFreeUnit_26 ?_
  refine lv_iconst (v := nI 5) hx hb dX0_lowestFreeUnit_27 (by decide) ?_
  refine n_add hx hb dX0_lowestFreeUnit_28 ?_
  refine xl_36 (v := N 36 (((k * 3 + 0) * 6) + 5)) hx hb hK hP (by omega) rfl dX0_lowestFreeUnit_29 ?_
  refine lv_aload_n hx hb dX0_lowestFreeUnit_30 rfl (lv_at hl 1 rfl) ?_
  refine xg_22 (v := N 22 0) hx hb hts hi0 hown hK hP k45 rfl dX0_lowestFreeUnit_31 ?_
  refine n_icmp_ge (tgt := 39) hx hb (by omega) (by omega) dX0_lowestFreeUnit_34 (by decide) (fun c_34 => ?_) (fun c_34 => ?_)
  · have d0 := c_34
    refine lv_iinc (v := nI (1)) (lv' := [(2, .int (nI (1))), (0, .ref (a 3)), (1, .int (nI (k)))]) hx hb dX0_lowestFreeUnit_39 hl (k := 0) rfl (by decide) (by decide) rfl (fun ls hl => ?_)
    refine lv_goto (tgt := 2) hx hb dX0_lowestFreeUnit_42 (by decide) ?_
    refine lv_iload_n hx hb dX0_lowestFreeUnit_2 rfl (lv_at hl 0 rfl) ?_
    refine lv_aload_n hx hb dX0_lowestFreeUnit_3 rfl (lv_at hl 1 rfl) ?_
    refine xg_20 hx hb hts hi0 hown hK hP k37 dX0_lowestFreeUnit_4 ?_
    refine xg_4 hx hb hts hi2 hown hK hP k133 dX0_lowestFreeUnit_7 ?_
    refine lv_iload_n hx hb dX0_lowestFreeUnit_10 rfl (lv_at hl 2 rfl) ?_
    refine xl_4 (v := N 4 k) hx hb hK hP (by omega) rfl dX0_lowestFreeUnit_11 ?_
    refine n_icmp_ge (tgt := 45) hx hb (by omega) (by omega) dX0_lowestFreeUnit_12 (by decide) (fun c_12 => ?_) (fun c_12 => ?_)
    · refine lv_iconst (v := nI 4294967295) hx hb dX0_lowestFreeUnit_45 (by decide) ?_
      exact g_reti hx hb hr hlocks (N, J) (⟨congrArg nI (by unfold xFr; (repeat' split) <;> first | rfl | (exfalso; omega)), rfl⟩) hP hS dX0_lowestFreeUnit_46
    · refine lv_aload_n hx hb dX0_lowestFreeUnit_15 rfl (lv_at hl 1 rfl) ?_
      refine xg_36 hx hb hts hi0 hown hK hP k31 dX0_lowestFreeUnit_16 ?_
      refine lv_iload_n hx hb dX0_lowestFreeUnit_19 rfl (lv_at hl 2 rfl) ?_
      refine lv_iload_n hx hb dX0_lowestFreeUnit_20 rfl (lv_at hl 0 rfl) ?_
      refine s_calliN (As := [.int (nI (k)), .int (nI (1))]) (rest := [.ref (a 20)]) ⟨hx, hb, hml, hown, hts⟩ (tA_unitRow l k 1) ⟨va_cnB (host := "ScoreMachine") 2 hts gX0_lowestFreeUnit_X3_unitRow_n116 rfl rfl rfl hZ.1.2.2.2.1 (hts (.initialized RX3) (by decide +kernel)) (by decide +kernel) ⟨Nat.le_of_ble_eq_true rfl, Nat.le_of_ble_eq_true rfl⟩, hts (.static yX3_unitRow) (by decide +kernel), trivial⟩ rfl hl.1 rfl (Nat.le_of_ble_eq_true rfl) dX0_lowestFreeUnit_21 (fun r_21 hw => ?_)
      subst hw
      refine lv_bipush (v := nI 6) hx hb dX0_lowestFreeUnit_24 (by decide) ?_
      refine n_mul hx hb dX0_lowestFreeUnit_26 ?_
      refine lv_iconst (v := nI 5) hx hb dX0_lowestFreeUnit_27 (by decide) ?_
      refine n_add hx hb dX0_lowestFreeUnit_28 ?_
      refine xl_36 (v := N 36 (((k * 3 + 1) * 6) + 5)) hx hb hK hP (by omega) rfl dX0_lowestFreeUnit_29 ?_
      refine lv_aload_n hx hb dX0_lowestFreeUnit_30 rfl (lv_at hl 1 rfl) ?_
      refine xg_22 (v := N 22 0) hx hb hts hi0 hown hK hP k45 rfl dX0_lowestFreeUnit_31 ?_
      refine n_icmp_ge (tgt := 39) hx hb (by omega) (by omega) dX0_lowestFreeUnit_34 (by decide) (fun c_34 => ?_) (fun c_34 => ?_)
      · have d1 := c_34
        refine lv_iinc (v := nI (2)) (lv' := [(2, .int (nI (2))), (0, .ref (a 3)), (1, .int (nI (k)))]) hx hb dX0_lowestFreeUnit_39 hl (k := 0) rfl (by decide) (by decide) rfl (fun ls hl => ?_)
        refine lv_goto (tgt := 2) hx hb dX0_lowestFreeUnit_42 (by decide) ?_
        refine lv_iload_n hx hb dX0_lowestFreeUnit_2 rfl (lv_at hl 0 rfl) ?_
        refine lv_aload_n hx hb dX0_lowestFreeUnit_3 rfl (lv_at hl 1 rfl) ?_
        refine xg_20 hx hb hts hi0 hown hK hP k37 dX0_lowestFreeUnit_4 ?_
        refine xg_4 hx hb hts hi2 hown hK hP k133 dX0_lowestFreeUnit_7 ?_
        refine lv_iload_n hx hb dX0_lowestFreeUnit_10 rfl (lv_at hl 2 rfl) ?_
        refine xl_4 (v := N 4 k) hx hb hK hP (by omega) rfl dX0_lowestFreeUnit_11 ?_
        refine n_icmp_ge (tgt := 45) hx hb (by omega) (by omega) dX0_lowestFreeUnit_12 (by decide) (fun c_12 => ?_) (fun c_12 => ?_)
        · refine lv_iconst (v := nI 4294967295) hx hb dX0_lowestFreeUnit_45 (by decide) ?_
          exact g_reti hx hb hr hlocks (N, J) (⟨congrArg nI (by unfold xFr; (repeat' split) <;> first | rfl | (exfalso; omega)), rfl⟩) hP hS dX0_lowestFreeUnit_46
        · refine lv_aload_n hx hb dX0_lowestFreeUnit_15 rfl (lv_at hl 1 rfl) ?_
          refine xg_36 hx hb hts hi0 hown hK hP k31 dX0_lowestFreeUnit_16 ?_
          refine lv_iload_n hx hb dX0_lowestFreeUnit_19 rfl (lv_at hl 2 rfl) ?_
          refine lv_iload_n hx hb dX0_lowestFreeUnit_20 rfl (lv_at hl 0 rfl) ?_
          refine s_calliN (As := [.int (nI (k)), .int (nI (2))]) (rest := [.ref (a 20)]) ⟨hx, hb, hml, hown, hts⟩ (tA_unitRow l k 2) ⟨va_cnB (host := "ScoreMachine") 2 hts gX0_lowestFreeUnit_X3_unitRow_n116 rfl rfl rfl hZ.1.2.2.2.1 (hts (.initialized RX3) (by decide +kernel)) (by decide +kernel) ⟨Nat.le_of_ble_eq_true rfl, Nat.le_of_ble_eq_true rfl⟩, hts (.static yX3_unitRow) (by decide +kernel), trivial⟩ rfl hl.1 rfl (Nat.le_of_ble_eq_true rfl) dX0_lowestFreeUnit_21 (fun r_21 hw => ?_)
          subst hw
          refine lv_bipush (v := nI 6) hx hb dX0_lowestFreeUnit_24 (by decide) ?_
          refine n_mul hx hb dX0_lowestFreeUnit_26 ?_
          refine lv_iconst (v := nI 5) hx hb dX0_lowestFreeUnit_27 (by decide) ?_
          refine n_add hx hb dX0_lowestFreeUnit_28 ?_
          refine xl_36 (v := N 36 (((k * 3 + 2) * 6) + 5)) hx hb hK hP (by omega) rfl dX0_lowestFreeUnit_29 ?_
          refine lv_aload_n hx hb dX0_lowestFreeUnit_30 rfl (lv_at hl 1 rfl) ?_
          refine xg_22 (v := N 22 0) hx hb hts hi0 hown hK hP k45 rfl dX0_lowestFreeUnit_31 ?_
          refine n_icmp_ge (tgt := 39) hx hb (by omega) (by omega) dX0_lowestFreeUnit_34 (by decide) (fun c_34 => ?_) (fun c_34 => ?_)
          · have d2 := c_34
            refine lv_iinc (v := nI (3)) (lv' := [(2, .int (nI (3))), (0, .ref (a 3)), (1, .int (nI (k)))]) hx hb dX0_lowestFreeUnit_39 hl (k := 0) rfl (by decide) (by decide) rfl (fun ls hl => ?_)
            refine lv_goto (tgt := 2) hx hb dX0_lowestFreeUnit_42 (by decide) ?_
            refine lv_iload_n hx hb dX0_lowestFreeUnit_2 rfl (lv_at hl 0 rfl) ?_
            refine lv_aload_n hx hb dX0_lowestFreeUnit_3 rfl (lv_at hl 1 rfl) ?_
            refine xg_20 hx hb hts hi0 hown hK hP k37 dX0_lowestFreeUnit_4 ?_
            refine xg_4 hx hb hts hi2 hown hK hP k133 dX0_lowestFreeUnit_7 ?_
            refine lv_iload_n hx hb dX0_lowestFreeUnit_10 rfl (lv_at hl 2 rfl) ?_
            refine xl_4 (v := N 4 k) hx hb hK hP (by omega) rfl dX0_lowestFreeUnit_11 ?_
            refine n_icmp_ge (tgt := 45) hx hb (by omega) (by omega) dX0_lowestFreeUnit_12 (by decide) (fun c_12 => ?_) (fun c_12 => absurd c_12 (by omega))
            refine lv_iconst (v := nI 4294967295) hx hb dX0_lowestFreeUnit_45 (by decide) ?_
            exact g_reti hx hb hr hlocks (N, J) (⟨congrArg nI (by unfold xFr; (repeat' split) <;> first | rfl | (exfalso; omega)), rfl⟩) hP hS dX0_lowestFreeUnit_46
          · refine lv_iload_n hx hb dX0_lowestFreeUnit_37 rfl (lv_at hl 0 rfl) ?_
            exact g_reti hx hb hr hlocks (N, J) (⟨congrArg nI (by unfold xFr; (repeat' split) <;> first | rfl | (exfalso; omega)), rfl⟩) hP hS dX0_lowestFreeUnit_38
      · refine lv_iload_n hx hb dX0_lowestFreeUnit_37 rfl (lv_at hl 0 rfl) ?_
        exact g_reti hx hb hr hlocks (N, J) (⟨congrArg nI (by unfold xFr; (repeat' split) <;> first | rfl | (exfalso; omega)), rfl⟩) hP hS dX0_lowestFreeUnit_38
  · refine lv_iload_n hx hb dX0_lowestFreeUnit_37 rfl (lv_at hl 0 rfl) ?_
    exact g_reti hx hb hr hlocks (N, J) (⟨congrArg nI (by unfold xFr; (repeat' split) <;> first | rfl | (exfalso; omega)), rfl⟩) hP hS dX0_lowestFreeUnit_38
set_option maxHeartbeats 4000000 in
set_option maxRecDepth 100000 in
theorem tB_settleCycles (l : Launch) (dC : Nat → ClassId) (dI : Nat → Nat → Nat) (a : Nat → Nat) (cI cL cZ : ClassId) (N : Nat → Nat → Nat) (J : Nat → Nat → Int64)  (hG : xG N) : MetV l yX0_settleCycles wsX0_settleCycles ({ frames := 1, cells := 0, slots := 0, locals := 24 } : Room) dC dI (gT cI cL cZ) (xF a cI cL cZ) (xL a) (N, J) [.ref (a 3), .int (nI (xCode N)), .int (nI (kdN (xCode N)))] (fun u => u = (xS1 N, J)) := by
  intro sz
  refine g_entry (bytes := cX0_settleCycles) (maxL := 8) (ret := none) (Qc := fun sz => va_Qv (fun u => u = (xS1 N, J)) (gB dC dI (xF a cI cL cZ)) (aA (xL a) sz)) (by decide) rfl (Nat.le_of_ble_eq_true rfl) rfl ?_
  intro p e s m below meth c ls hx hb hr hml hts hown hlocks hK hP hD hS hZ hl
  have hP : va_P (dC, dI) vwCl (xW a cI cL cZ N J) s.heap := hP
  have hD : va_D (aA (xL a) s.heap.size) (xW a cI cL cZ N J) := hD
  have hown : s.vm.findClass RX0 = some m.cls := hown
  have hl : lv_has ls 8 [(0, .ref (a 3)), (1, .int (nI (xCode N))), (2, .int (nI (kdN (xCode N))))] := hl
  have hi0 : ∀ w ∈ wsX00, w ∈ wsX0_settleCycles := by decide +kernel
  have hi1 : ∀ w ∈ wsX10, w ∈ wsX0_settleCycles := by decide +kernel
  have hi2 : ∀ w ∈ wsX20, w ∈ wsX0_settleCycles := by decide +kernel
  have k106 := hts (.fieldLink RX0 106 "ScoreMachine$Setup" "ds" "[I") (by decide +kernel)
  have k109 := hts (.fieldLink RX0 109 "ScoreMachine$PlainMachine" "place" "I") (by decide +kernel)
  have k139 := hts (.fieldLink RX0 139 "ScoreMachine$Setup" "as" "[I") (by decide +kernel)
  have k156 := hts (.fieldLink RX0 156 "ScoreMachine$Setup" "latencies" "[I") (by decide +kernel)
  have k18 := hts (.fieldLink RX0 18 "ScoreMachine$Board" "writtenAt" "[I") (by decide +kernel)
  have k25 := hts (.fieldLink RX0 25 "ScoreMachine$Board" "readAt" "[I") (by decide +kernel)
  have k28 := hts (.fieldLink RX0 28 "ScoreMachine$Board" "row" "[I") (by decide +kernel)
  have k37 := hts (.fieldLink RX0 37 "ScoreMachine$Board" "setup" "LScoreMachine$Setup;") (by decide +kernel)
  have k41 := hts (.fieldLink RX0 41 "ScoreMachine$Board" "plainMachine" "LScoreMachine$PlainMachine;") (by decide +kernel)
  have k45 := hts (.fieldLink RX0 45 "ScoreMachine$Board" "cycle" "I") (by decide +kernel)
  have k53 := hts (.fieldLink RX0 53 "ScoreMachine$Board" "issued" "I") (by decide +kernel)
  obtain ⟨hG0, hun, hla, hwd, hsc, hrg, huw⟩ := id hG
  obtain ⟨hpl, hpr⟩ := id hG0
  have hp0 := hpr (N 13 0) hpl
  have hcd : xCode N ≤ 18 := hp0.1
  have hkd := kdN_lt (xCode N)
  have hmD : xD N < 16 := hp0.2.1
  have hmA : xA N < 16 := hp0.2.2.1
  have hwa : N 27 (xA N) < 1073741824 := (hrg _ hmA).1
  have hwb : N 27 (xBB N % 16) < 1073741824 := (hrg _ (by omega)).1
  have hwd0 : N 27 (xD N) < 1073741824 := (hrg _ hmD).1
  have hrd : N 29 (xD N) < 1073741824 := (hrg _ hmD).2
  have hlat := hla _ hkd
  refine lv_aload_n hx hb dX0_settleCycles_0 rfl (lv_at hl 0 rfl) ?_
  refine xg_21 hx hb hts hi0 hown hK hP k41 dX0_settleCycles_1 ?_
  refine xg_13 (v := N 13 0) hx hb hts hi1 hown hK hP k109 rfl dX0_settleCycles_4 ?_
  refine lv_istore_n (lv' := [(3, .int (nI (N 13 0))), (0, .ref (a 3)), (1, .int (nI (xCode N))), (2, .int (nI (kdN (xCode N))))]) hx hb dX0_settleCycles_7 rfl hl (by decide) rfl (fun ls hl => ?_)
  refine lv_aload_n hx hb dX0_settleCycles_8 rfl (lv_at hl 1 rfl) ?_
  refine xg_22 (v := N 22 0) hx hb hts hi0 hown hK hP k45 rfl dX0_settleCycles_9 ?_
  refine lv_istore (lv' := [(4, .int (nI (N 22 0))), (3, .int (nI (N 13 0))), (0, .ref (a 3)), (1, .int (nI (xCode N))), (2, .int (nI (kdN (xCode N))))]) hx hb dX0_settleCycles_12 hl (by decide) rfl (fun ls hl => ?_)
  refine w_join (X := Nat) (P := fun x42 => x42 = xa1 N) (pj := 42) (nL := 8) (lv := fun x42 => [(3, .int (nI (N 13 0))), (0, .ref (a 3)), (1, .int (nI (xCode N))), (2, .int (nI (kdN (xCode N)))), (4, .int (nI (x42)))]) (st := fun x42 => []) (fun jn_42 => ?_) (fun x42 ls ex42 hl => ?_)
  · refine lv_iload_n hx hb dX0_settleCycles_14 rfl (lv_at hl 3 rfl) ?_
    refine s_calliN (As := [.int (nI (xCode N))]) (rest := []) ⟨hx, hb, hml, hown, hts⟩ (tA_readsA l (xCode N) (by omega)) ⟨va_cnB (host := "ScoreMachine") 1 hts gX0_settleCycles_X3_readsA_n136 rfl rfl rfl hZ.1.2.2.2.2.1 (hts (.initialized RX3) (by decide +kernel)) (by decide +kernel) ⟨Nat.le_of_ble_eq_true rfl, Nat.le_of_ble_eq_true rfl⟩, hts (.static yX3_readsA) (by decide +kernel), trivial⟩ rfl hl.1 rfl (Nat.le_of_ble_eq_true rfl) dX0_settleCycles_15 (fun r_15 hw => ?_)
    subst hw
    refine n_if_eq (tgt := 42) hx hb bL dX0_settleCycles_18 (by decide) (fun c_18 => ?_) (fun c_18 => ?_)
    · exact jn_42 (N 22 0) ls (by unfold xa1; rw [if_neg (b0 c_18)]) (lv_sub hl [1, 2, 3, 4, 0] rfl)
    · refine lv_iload hx hb dX0_settleCycles_21 (lv_at hl 0 rfl) ?_
      refine lv_aload_n hx hb dX0_settleCycles_23 rfl (lv_at hl 2 rfl) ?_
      refine xg_27 hx hb hts hi0 hown hK hP k18 dX0_settleCycles_24 ?_
      refine lv_aload_n hx hb dX0_settleCycles_27 rfl (lv_at hl 2 rfl) ?_
      refine xg_20 hx hb hts hi0 hown hK hP k37 dX0_settleCycles_28 ?_
      refine xg_2 hx hb hts hi2 hown hK hP k139 dX0_settleCycles_31 ?_
      refine lv_iload_n hx hb dX0_settleCycles_34 rfl (lv_at hl 1 rfl) ?_
      refine xl_2 (v := xA N) hx hb hK hP (by omega) rfl dX0_settleCycles_35 ?_
      refine xl_27 (v := N 27 (xA N)) hx hb hK hP hmA rfl dX0_settleCycles_36 ?_
      refine n_max hx hb (hml.trans hl.1.symm) hown (hts (.methodLink RX0 142 Lib.Math.max.name) (by decide +kernel)) (hts (.static Lib.Math.max.name) (by decide +kernel)) (hts (.initialized "java/lang/Math") (by decide +kernel)) (hts (.code Lib.Math.max.name Lib.Math.max.code 2 (some .int)) (by decide +kernel)) (Nat.le_of_ble_eq_true rfl) (Nat.le_of_ble_eq_true rfl) (Nat.zero_le _) (Nat.zero_le _) (by omega) (by omega) dX0_settleCycles_37 ?_
      refine lv_istore (lv' := [(4, .int (nI (max (N 22 0) (N 27 (xA N))))), (3, .int (nI (N 13 0))), (0, .ref (a 3)), (1, .int (nI (xCode N))), (2, .int (nI (kdN (xCode N))))]) hx hb dX0_settleCycles_40 hl (by decide) rfl (fun ls hl => ?_)
      exact jn_42 (max (N 22 0) (N 27 (xA N))) ls (by unfold xa1; rw [if_pos (b1 c_18)]) (lv_sub hl [1, 2, 3, 4, 0] rfl)
  · have ex42 : x42 = xa1 N := ex42
    have hl : lv_has ls 8 [(3, .int (nI (N 13 0))), (0, .ref (a 3)), (1, .int (nI (xCode N))), (2, .int (nI (kdN (xCode N)))), (4, .int (nI (x42)))] := hl
    have bx42 : x42 < 1073741825 := by rw [ex42]; unfold xa1; split <;> omega
    refine w_joinH (X := Nat) (dC := dC) (dI := dI) (A := aA (xL a) s.heap.size) (H0 := s.heap) (Wf := xF a cI cL cZ) (u := fun x69 => (N, J)) (P := fun x69 => x69 = xa2 N) (pj := 69) (nL := 8) (lv := fun x69 => [(3, .int (nI (N 13 0))), (0, .ref (a 3)), (1, .int (nI (xCode N))), (2, .int (nI (kdN (xCode N)))), (4, .int (nI (x69)))]) (st := fun x69 => []) (fun jn_69 => ?_) (fun x69 ls H locs ex69 hl hP hD hS => ?_)
    · refine lv_iload_n hx hb dX0_settleCycles_42 rfl (lv_at hl 2 rfl) ?_
      refine s_calliN (As := [.int (nI (xCode N))]) (rest := []) ⟨hx, hb, hml, hown, hts⟩ (tA_readsB l (xCode N) (by omega)) ⟨va_cnB (host := "ScoreMachine") 1 hts gX0_settleCycles_X3_readsB_n147 rfl rfl rfl hZ.1.2.2.2.2.2.1 (hts (.initialized RX3) (by decide +kernel)) (by decide +kernel) ⟨Nat.le_of_ble_eq_true rfl, Nat.le_of_ble_eq_true rfl⟩, hts (.static yX3_readsB) (by decide +kernel), trivial⟩ rfl hl.1 rfl (Nat.le_of_ble_eq_true rfl) dX0_settleCycles_43 (fun r_43 hw => ?_)
      subst hw
      refine n_if_eq (tgt := 69) hx hb bL dX0_settleCycles_46 (by decide) (fun c_46 => ?_) (fun c_46 => ?_)
      · exact jn_69 x42 ls _ _ (by unfold xa2; rw [if_neg (b0 c_46), ex42]) (lv_sub hl [0, 1, 2, 3, 4] rfl) hP hD hS
      · refine lv_iload hx hb dX0_settleCycles_49 (lv_at hl 4 rfl) ?_
        refine lv_aload_n hx hb dX0_settleCycles_51 rfl (lv_at hl 1 rfl) ?_
        refine xg_27 hx hb hts hi0 hown hK hP k18 dX0_settleCycles_52 ?_
        refine lv_aload_n hx hb dX0_settleCycles_55 rfl (lv_at hl 1 rfl) ?_
        refine xg_20 hx hb hts hi0 hown hK hP k37 dX0_settleCycles_56 ?_
        refine lv_iload_n hx hb dX0_settleCycles_59 rfl (lv_at hl 0 rfl) ?_
        refine g_calli (u := (N, J)) (g_runV (As := [.int (nI (N 13 0))]) (rest := [.ref (a 16), .int (nI (x42))]) ⟨hx, hb, hml, hown, hts⟩ (tS_registerB l dC dI a cI cL cZ N J (N 13 0) hpl hp0.2.2.2 s.heap.size) (cwV 1 hts gX0_settleCycles_X2_registerB rfl rfl rfl (by decide +kernel) ⟨Nat.le_of_ble_eq_true rfl, Nat.le_of_ble_eq_true rfl⟩) (va_recv hK hP (ci := 2) (q0 := 1) rfl rfl) hK hP hD hS hZ rfl hl.1 rfl (Nat.le_of_ble_eq_true rfl) dX0_settleCycles_60) (xW_L a cI cL cZ) hD hS (fun r_60 u H locs hw hP hD hS => ?_)
        obtain ⟨rfl, rfl⟩ := hw
        have hP : va_P (dC, dI) vwCl (xW a cI cL cZ N J) H := hP
        have hD : va_D (aA (xL a) s.heap.size) (xW a cI cL cZ N J) := hD
        refine xl_27 (v := N 27 (xBB N % 16)) hx hb hK hP (by omega) rfl dX0_settleCycles_63 ?_
        refine n_max hx hb (hml.trans hl.1.symm) hown (hts (.methodLink RX0 142 Lib.Math.max.name) (by decide +kernel)) (hts (.static Lib.Math.max.name) (by decide +kernel)) (hts (.initialized "java/lang/Math") (by decide +kernel)) (hts (.code Lib.Math.max.name Lib.Math.max.code 2 (some .int)) (by decide +kernel)) (Nat.le_of_ble_eq_true rfl) (Nat.le_of_ble_eq_true rfl) (Nat.zero_le _) (Nat.zero_le _) (by omega) (by omega) dX0_settleCycles_64 ?_
        refine lv_istore (lv' := [(4, .int (nI (max x42 (N 27 (xBB N % 16))))), (3, .int (nI (N 13 0))), (0, .ref (a 3)), (1, .int (nI (xCode N))), (2, .int (nI (kdN (xCode N))))]) hx hb dX0_settleCycles_67 hl (by decide) rfl (fun ls hl => ?_)
        exact jn_69 (max x42 (N 27 (xBB N % 16))) ls _ _ (by unfold xa2; rw [if_pos (b1 c_46), ex42]) (lv_sub hl [1, 2, 3, 4, 0] rfl) hP hD hS
    · have ex69 : x69 = xa2 N := ex69
      have hl : lv_has ls 8 [(3, .int (nI (N 13 0))), (0, .ref (a 3)), (1, .int (nI (xCode N))), (2, .int (nI (kdN (xCode N)))), (4, .int (nI (x69)))] := hl
      have hP : va_P (dC, dI) vwCl (xW a cI cL cZ N J) H := hP
      have hD : va_D (aA (xL a) s.heap.size) (xW a cI cL cZ N J) := hD
      have bx69 : x69 < 1073741825 := by rw [ex69]; unfold xa2; split <;> omega
      refine w_join (X := Nat) (P := fun x97 => x97 = xa3 N) (pj := 97) (nL := 8) (lv := fun x97 => [(3, .int (nI (N 13 0))), (0, .ref (a 3)), (1, .int (nI (xCode N))), (2, .int (nI (kdN (xCode N)))), (4, .int (nI (x97)))]) (st := fun x97 => []) (fun jn_97 => ?_) (fun x97 ls ex97 hl => ?_)
      · refine lv_iload_n hx hb dX0_settleCycles_69 rfl (lv_at hl 2 rfl) ?_
        refine s_calliN (As := [.int (nI (xCode N))]) (rest := []) ⟨hx, hb, hml, hown, hts⟩ (tA_readsD l (xCode N) (by omega)) ⟨va_cnB (host := "ScoreMachine") 1 hts gX0_settleCycles_X3_readsD_n153 rfl rfl rfl hZ.1.2.2.2.2.2.2.1 (hts (.initialized RX3) (by decide +kernel)) (by decide +kernel) ⟨Nat.le_of_ble_eq_true rfl, Nat.le_of_ble_eq_true rfl⟩, hts (.static yX3_readsD) (by decide +kernel), trivial⟩ rfl hl.1 rfl (Nat.le_of_ble_eq_true rfl) dX0_settleCycles_70 (fun r_70 hw => ?_)
        subst hw
        refine n_if_eq (tgt := 97) hx hb bL dX0_settleCycles_73 (by decide) (fun c_73 => ?_) (fun c_73 => ?_)
        · exact jn_97 x69 ls (by unfold xa3; rw [if_neg (b0 c_73), ex69]) (lv_sub hl [0, 1, 2, 3, 4] rfl)
        · refine lv_iload hx hb dX0_settleCycles_76 (lv_at hl 4 rfl) ?_
          refine lv_aload_n hx hb dX0_settleCycles_78 rfl (lv_at hl 1 rfl) ?_
          refine xg_27 hx hb hts hi0 hown hK hP k18 dX0_settleCycles_79 ?_
          refine lv_aload_n hx hb dX0_settleCycles_82 rfl (lv_at hl 1 rfl) ?_
          refine xg_20 hx hb hts hi0 hown hK hP k37 dX0_settleCycles_83 ?_
          refine xg_1 hx hb hts hi2 hown hK hP k106 dX0_settleCycles_86 ?_
          refine lv_iload_n hx hb dX0_settleCycles_89 rfl (lv_at hl 0 rfl) ?_
          refine xl_1 (v := xD N) hx hb hK hP (by omega) rfl dX0_settleCycles_90 ?_
          refine xl_27 (v := N 27 (xD N)) hx hb hK hP hmD rfl dX0_settleCycles_91 ?_
          refine n_max hx hb (hml.trans hl.1.symm) hown (hts (.methodLink RX0 142 Lib.Math.max.name) (by decide +kernel)) (hts (.static Lib.Math.max.name) (by decide +kernel)) (hts (.initialized "java/lang/Math") (by decide +kernel)) (hts (.code Lib.Math.max.name Lib.Math.max.code 2 (some .int)) (by decide +kernel)) (Nat.le_of_ble_eq_true rfl) (Nat.le_of_ble_eq_true rfl) (Nat.zero_le _) (Nat.zero_le _) (by omega) (by omega) dX0_settleCycles_92 ?_
          refine lv_istore (lv' := [(4, .int (nI (max x69 (N 27 (xD N))))), (3, .int (nI (N 13 0))), (0, .ref (a 3)), (1, .int (nI (xCode N))), (2, .int (nI (kdN (xCode N))))]) hx hb dX0_settleCycles_95 hl (by decide) rfl (fun ls hl => ?_)
          exact jn_97 (max x69 (N 27 (xD N))) ls (by unfold xa3; rw [if_pos (b1 c_73), ex69]) (lv_sub hl [1, 2, 3, 4, 0] rfl)
      · have ex97 : x97 = xa3 N := ex97
        have hl : lv_has ls 8 [(3, .int (nI (N 13 0))), (0, .ref (a 3)), (1, .int (nI (xCode N))), (2, .int (nI (kdN (xCode N)))), (4, .int (nI (x97)))] := hl
        have bx97 : x97 < 1073741825 := by rw [ex97]; unfold xa3; split <;> omega
        refine lv_iload hx hb dX0_settleCycles_97 (lv_at hl 4 rfl) ?_
        refine lv_iconst (v := nI 1) hx hb dX0_settleCycles_99 (by decide) ?_
        refine n_add hx hb dX0_settleCycles_100 ?_
        refine lv_istore (lv' := [(5, .int (nI (x97 + 1))), (3, .int (nI (N 13 0))), (0, .ref (a 3)), (1, .int (nI (xCode N))), (2, .int (nI (kdN (xCode N)))), (4, .int (nI (x97)))]) hx hb dX0_settleCycles_101 hl (by decide) rfl (fun ls hl => ?_)
        refine lv_iload hx hb dX0_settleCycles_103 (lv_at hl 0 rfl) ?_
        refine lv_aload_n hx hb dX0_settleCycles_105 rfl (lv_at hl 2 rfl) ?_
        refine xg_20 hx hb hts hi0 hown hK hP k37 dX0_settleCycles_106 ?_
        refine xg_5 hx hb hts hi2 hown hK hP k156 dX0_settleCycles_109 ?_
        refine lv_iload_n hx hb dX0_settleCycles_112 rfl (lv_at hl 4 rfl) ?_
        refine xl_5 (v := N 5 (kdN (xCode N))) hx hb hK hP hkd rfl dX0_settleCycles_113 ?_
        refine n_add hx hb dX0_settleCycles_114 ?_
        obtain ⟨dn, edn⟩ : ∃ z : Nat, z = (x97 + 1) + (N 5 (kdN (xCode N))) := ⟨_, rfl⟩
        rw [← edn]
        refine lv_istore (lv' := [(6, .int (nI (dn))), (5, .int (nI (x97 + 1))), (3, .int (nI (N 13 0))), (0, .ref (a 3)), (1, .int (nI (xCode N))), (2, .int (nI (kdN (xCode N)))), (4, .int (nI (x97)))]) hx hb dX0_settleCycles_115 hl (by decide) rfl (fun ls hl => ?_)
        have hdn : dn = xDn N := by rw [edn, ex97]; rfl
        have bdn : dn < 1073741860 := by omega
        refine lv_iload hx hb dX0_settleCycles_117 (lv_at hl 0 rfl) ?_
        refine lv_iconst (v := nI 1) hx hb dX0_settleCycles_119 (by decide) ?_
        refine n_add hx hb dX0_settleCycles_120 ?_
        refine lv_istore (lv' := [(7, .int (nI (dn + 1))), (6, .int (nI (dn))), (5, .int (nI (x97 + 1))), (3, .int (nI (N 13 0))), (0, .ref (a 3)), (1, .int (nI (xCode N))), (2, .int (nI (kdN (xCode N)))), (4, .int (nI (x97)))]) hx hb dX0_settleCycles_121 hl (by decide) rfl (fun ls hl => ?_)
        refine w_join (X := Nat) (P := fun x153 => x153 = xWn N) (pj := 153) (nL := 8) (lv := fun x153 => [(6, .int (nI (dn))), (5, .int (nI (x97 + 1))), (3, .int (nI (N 13 0))), (0, .ref (a 3)), (1, .int (nI (xCode N))), (2, .int (nI (kdN (xCode N)))), (4, .int (nI (x97))), (7, .int (nI (x153)))]) (st := fun x153 => []) (fun jn_153 => ?_) (fun x153 ls ex153 hl => ?_)
        · refine lv_iload_n hx hb dX0_settleCycles_123 rfl (lv_at hl 5 rfl) ?_
          refine s_calliN (As := [.int (nI (xCode N))]) (rest := []) ⟨hx, hb, hml, hown, hts⟩ (tA_writesD l (xCode N) (by omega)) ⟨va_cnB (host := "ScoreMachine") 1 hts gX0_settleCycles_X3_writesD_n102 rfl rfl rfl hZ.1.2.2.1 (hts (.initialized RX3) (by decide +kernel)) (by decide +kernel) ⟨Nat.le_of_ble_eq_true rfl, Nat.le_of_ble_eq_true rfl⟩, hts (.static yX3_writesD) (by decide +kernel), trivial⟩ rfl hl.1 rfl (Nat.le_of_ble_eq_true rfl) dX0_settleCycles_124 (fun r_124 hw => ?_)
          subst hw
          refine n_if_eq (tgt := 153) hx hb bL dX0_settleCycles_127 (by decide) (fun c_127 => ?_) (fun c_127 => ?_)
          · exact jn_153 (dn + 1) ls (by unfold xWn; rw [if_neg (b0 c_127), ← hdn]) (lv_sub hl [1, 2, 3, 4, 5, 6, 7, 0] rfl)
          · refine lv_iload hx hb dX0_settleCycles_130 (lv_at hl 0 rfl) ?_
            refine lv_aload_n hx hb dX0_settleCycles_132 rfl (lv_at hl 4 rfl) ?_
            refine xg_29 hx hb hts hi0 hown hK hP k25 dX0_settleCycles_133 ?_
            refine lv_aload_n hx hb dX0_settleCycles_136 rfl (lv_at hl 4 rfl) ?_
            refine xg_20 hx hb hts hi0 hown hK hP k37 dX0_settleCycles_137 ?_
            refine xg_1 hx hb hts hi2 hown hK hP k106 dX0_settleCycles_140 ?_
            refine lv_iload_n hx hb dX0_settleCycles_143 rfl (lv_at hl 3 rfl) ?_
            refine xl_1 (v := xD N) hx hb hK hP (by omega) rfl dX0_settleCycles_144 ?_
            refine xl_29 (v := N 29 (xD N)) hx hb hK hP hmD rfl dX0_settleCycles_145 ?_
            refine lv_iconst (v := nI 1) hx hb dX0_settleCycles_146 (by decide) ?_
            refine n_add hx hb dX0_settleCycles_147 ?_
            refine n_max hx hb (hml.trans hl.1.symm) hown (hts (.methodLink RX0 142 Lib.Math.max.name) (by decide +kernel)) (hts (.static Lib.Math.max.name) (by decide +kernel)) (hts (.initialized "java/lang/Math") (by decide +kernel)) (hts (.code Lib.Math.max.name Lib.Math.max.code 2 (some .int)) (by decide +kernel)) (Nat.le_of_ble_eq_true rfl) (Nat.le_of_ble_eq_true rfl) (Nat.zero_le _) (Nat.zero_le _) (by omega) (by omega) dX0_settleCycles_148 ?_
            refine lv_istore (lv' := [(7, .int (nI (max (dn + 1) ((N 29 (xD N)) + 1)))), (6, .int (nI (dn))), (5, .int (nI (x97 + 1))), (3, .int (nI (N 13 0))), (0, .ref (a 3)), (1, .int (nI (xCode N))), (2, .int (nI (kdN (xCode N)))), (4, .int (nI (x97)))]) hx hb dX0_settleCycles_151 hl (by decide) rfl (fun ls hl => ?_)
            exact jn_153 (max (dn + 1) ((N 29 (xD N)) + 1)) ls (by unfold xWn; rw [if_pos (b1 c_127), ← hdn]) (lv_sub hl [1, 2, 3, 4, 5, 6, 7, 0] rfl)
        · have ex153 : x153 = xWn N := ex153
          have hl : lv_has ls 8 [(6, .int (nI (dn))), (5, .int (nI (x97 + 1))), (3, .int (nI (N 13 0))), (0, .ref (a 3)), (1, .int (nI (xCode N))), (2, .int (nI (kdN (xCode N)))), (4, .int (nI (x97))), (7, .int (nI (x153)))] := hl
          refine lv_aload_n hx hb dX0_settleCycles_153 rfl (lv_at hl 3 rfl) ?_
          refine xg_35 hx hb hts hi0 hown hK hP k28 dX0_settleCycles_154 ?_
          refine lv_iconst (v := nI 0) hx hb dX0_settleCycles_157 (by decide) ?_
          refine lv_iload_n hx hb dX0_settleCycles_158 rfl (lv_at hl 2 rfl) ?_
          refine xs_35 hx hb hK hP hD hS (by omega) dX0_settleCycles_159 (fun H locs hP hD hS => ?_)
          refine lv_aload_n hx hb dX0_settleCycles_160 rfl (lv_at hl 3 rfl) ?_
          refine xg_35 hx hb hts hi0 hown hK hP k28 dX0_settleCycles_161 ?_
          refine lv_iconst (v := nI 1) hx hb dX0_settleCycles_164 (by decide) ?_
          refine lv_aload_n hx hb dX0_settleCycles_165 rfl (lv_at hl 3 rfl) ?_
          refine xg_24 (v := N 24 0) hx hb hts hi0 hown hK hP k53 rfl dX0_settleCycles_166 ?_
          refine xs_35 hx hb hK hP hD hS (by omega) dX0_settleCycles_169 (fun H locs hP hD hS => ?_)
          refine lv_aload_n hx hb dX0_settleCycles_170 rfl (lv_at hl 3 rfl) ?_
          refine xg_35 hx hb hts hi0 hown hK hP k28 dX0_settleCycles_171 ?_
          refine lv_iconst (v := nI 2) hx hb dX0_settleCycles_174 (by decide) ?_
          refine lv_aload_n hx hb dX0_settleCycles_175 rfl (lv_at hl 3 rfl) ?_
          refine xg_22 (v := N 22 0) hx hb hts hi0 hown hK hP k45 rfl dX0_settleCycles_176 ?_
          refine xs_35 hx hb hK hP hD hS (by omega) dX0_settleCycles_179 (fun H locs hP hD hS => ?_)
          refine lv_aload_n hx hb dX0_settleCycles_180 rfl (lv_at hl 3 rfl) ?_
          refine xg_35 hx hb hts hi0 hown hK hP k28 dX0_settleCycles_181 ?_
          refine lv_iconst (v := nI 3) hx hb dX0_settleCycles_184 (by decide) ?_
          refine lv_iload hx hb dX0_settleCycles_185 (lv_at hl 1 rfl) ?_
          refine xs_35 hx hb hK hP hD hS (by omega) dX0_settleCycles_187 (fun H locs hP hD hS => ?_)
          refine lv_aload_n hx hb dX0_settleCycles_188 rfl (lv_at hl 3 rfl) ?_
          refine xg_35 hx hb hts hi0 hown hK hP k28 dX0_settleCycles_189 ?_
          refine lv_iconst (v := nI 4) hx hb dX0_settleCycles_192 (by decide) ?_
          refine lv_iload hx hb dX0_settleCycles_193 (lv_at hl 0 rfl) ?_
          refine xs_35 hx hb hK hP hD hS (by omega) dX0_settleCycles_195 (fun H locs hP hD hS => ?_)
          refine lv_aload_n hx hb dX0_settleCycles_196 rfl (lv_at hl 3 rfl) ?_
          refine xg_35 hx hb hts hi0 hown hK hP k28 dX0_settleCycles_197 ?_
          refine lv_iconst (v := nI 5) hx hb dX0_settleCycles_200 (by decide) ?_
          refine lv_iload hx hb dX0_settleCycles_201 (lv_at hl 7 rfl) ?_
          refine xs_35 hx hb hK hP hD hS (by omega) dX0_settleCycles_203 (fun H locs hP hD hS => ?_)
          exact g_retv hx hb hr hlocks ((uN (uN (uN (uN (uN (uN N 35 (0) (N 13 0)) 35 (1) (N 24 0)) 35 (2) (N 22 0)) 35 (3) (x97 + 1)) 35 (4) (dn)) 35 (5) (x153)), J) (by unfold xS1; rw [← ex153, ← hdn, ← ex97]) hP hS dX0_settleCycles_204
set_option maxHeartbeats 4000000 in
set_option maxRecDepth 100000 in
theorem tB_keepRow (l : Launch) (dC : Nat → ClassId) (dI : Nat → Nat → Nat) (a : Nat → Nat) (cI cL cZ : ClassId) (N : Nat → Nat → Nat) (J : Nat → Nat → Int64) (k : Nat) (hk : k < 18) (hm : N 24 0 < 1073741824) : MetV l yX0_keepRow wsX0_keepRow ({ frames := 1, cells := 0, slots := 0, locals := 40 } : Room) dC dI (gT cI cL cZ) (xF a cI cL cZ) (xL a) (N, J) [.ref (a 3), .int (nI (k))] (fun u => u = (xKeep N k, J)) := by
  intro sz
  refine g_entry (bytes := cX0_keepRow) (maxL := 2) (ret := none) (Qc := fun sz => va_Qv (fun u => u = (xKeep N k, J)) (gB dC dI (xF a cI cL cZ)) (aA (xL a) sz)) (by decide) rfl (Nat.le_of_ble_eq_true rfl) rfl ?_
  intro p e s m below meth c ls hx hb hr hml hts hown hlocks hK hP hD hS hZ hl
  have hP : va_P (dC, dI) vwCl (xW a cI cL cZ N J) s.heap := hP
  have hD : va_D (aA (xL a) s.heap.size) (xW a cI cL cZ N J) := hD
  have hown : s.vm.findClass RX0 = some m.cls := hown
  have hl : lv_has ls 2 [(0, .ref (a 3)), (1, .int (nI (k)))] := hl
  have hi0 : ∀ w ∈ wsX00, w ∈ wsX0_keepRow := by decide +kernel
  have k28 := hts (.fieldLink RX0 28 "ScoreMachine$Board" "row" "[I") (by decide +kernel)
  have k31 := hts (.fieldLink RX0 31 "ScoreMachine$Board" "unitRows" "[I") (by decide +kernel)
  have k34 := hts (.fieldLink RX0 34 "ScoreMachine$Board" "issuedRows" "[I") (by decide +kernel)
  have k53 := hts (.fieldLink RX0 53 "ScoreMachine$Board" "issued" "I") (by decide +kernel)
  refine lv_aload_n hx hb dX0_keepRow_0 rfl (lv_at hl 0 rfl) ?_
  refine xg_35 hx hb hts hi0 hown hK hP k28 dX0_keepRow_1 ?_
  refine lv_iconst (v := nI 0) hx hb dX0_keepRow_4 (by decide) ?_
  refine lv_aload_n hx hb dX0_keepRow_5 rfl (lv_at hl 0 rfl) ?_
  refine xg_36 hx hb hts hi0 hown hK hP k31 dX0_keepRow_6 ?_
  refine lv_iload_n hx hb dX0_keepRow_9 rfl (lv_at hl 1 rfl) ?_
  refine lv_bipush (v := nI 6) hx hb dX0_keepRow_10 (by decide) ?_
  refine n_mul hx hb dX0_keepRow_12 ?_
  refine lv_bipush (v := nI 6) hx hb dX0_keepRow_13 (by decide) ?_
  refine x_cp36 hx hb (hml.trans hl.1.symm) hown (hts (.methodLink RX0 159 arraycopyName) (by decide +kernel)) (hts (.native arraycopyName) (by decide +kernel)) (hts (.static arraycopyName) (by decide +kernel)) (hts (.initialized "java/lang/System") (by decide +kernel)) hK hP hD hS (by omega) (Nat.le_of_ble_eq_true rfl) (Nat.le_of_ble_eq_true rfl) dX0_keepRow_15 (fun H locs hP hD hS => ?_)
  refine lv_aload_n hx hb dX0_keepRow_18 rfl (lv_at hl 0 rfl) ?_
  refine xg_35 hx hb hts hi0 hown hK hP k28 dX0_keepRow_19 ?_
  refine lv_iconst (v := nI 0) hx hb dX0_keepRow_22 (by decide) ?_
  refine lv_aload_n hx hb dX0_keepRow_23 rfl (lv_at hl 0 rfl) ?_
  refine xg_37 hx hb hts hi0 hown hK hP k34 dX0_keepRow_24 ?_
  refine lv_aload_n hx hb dX0_keepRow_27 rfl (lv_at hl 0 rfl) ?_
  refine xg_24 (v := N 24 0) hx hb hts hi0 hown hK hP k53 rfl dX0_keepRow_28 ?_
  refine s_calli (As := [.int (nI (N 24 0))]) (rest := [.ref (a 21), .int (nI (0)), .ref (a 19)]) ⟨hx, hb, hml, hown, hts⟩ (tB_issuedStart l (N 24 0) (by omega)) (va_cwS 1 hts gX0_keepRow_X0_issuedStart rfl rfl rfl (by decide +kernel) ⟨Nat.le_of_ble_eq_true rfl, Nat.le_of_ble_eq_true rfl⟩) rfl hl.1 rfl (Nat.le_of_ble_eq_true rfl) dX0_keepRow_31 (fun r_31 hw => ?_)
  subst hw
  refine lv_bipush (v := nI 6) hx hb dX0_keepRow_34 (by decide) ?_
  refine x_cp37 hx hb (hml.trans hl.1.symm) hown (hts (.methodLink RX0 159 arraycopyName) (by decide +kernel)) (hts (.native arraycopyName) (by decide +kernel)) (hts (.static arraycopyName) (by decide +kernel)) (hts (.initialized "java/lang/System") (by decide +kernel)) hK hP hD hS (by omega) (Nat.le_of_ble_eq_true rfl) (Nat.le_of_ble_eq_true rfl) dX0_keepRow_36 (fun H locs hP hD hS => ?_)
  exact g_retv hx hb hr hlocks ((cpN (cpN N 35 36 (k * 6) 6) 35 37 (N 24 0 % 64 * 6) 6), J) (rfl) hP hS dX0_keepRow_39
set_option maxHeartbeats 4000000 in
set_option maxRecDepth 100000 in
theorem tB_noteReader (l : Launch) (dC : Nat → ClassId) (dI : Nat → Nat → Nat) (a : Nat → Nat) (cI cL cZ : ClassId) (N : Nat → Nat → Nat) (J : Nat → Nat → Int64) (j : Nat) (hj : j < 16) (h1 : N 29 j < 2147483648) (h2 : N 35 3 < 2147483648) : MetV l yX0_noteReader wsX0_noteReader ({ frames := 1, cells := 0, slots := 0, locals := 24 } : Room) dC dI (gT cI cL cZ) (xF a cI cL cZ) (xL a) (N, J) [.ref (a 3), .int (nI (j))] (fun u => u = (xNr N j, J)) := by
  intro sz
  refine g_entry (bytes := cX0_noteReader) (maxL := 2) (ret := none) (Qc := fun sz => va_Qv (fun u => u = (xNr N j, J)) (gB dC dI (xF a cI cL cZ)) (aA (xL a) sz)) (by decide) rfl (Nat.le_of_ble_eq_true rfl) rfl ?_
  intro p e s m below meth c ls hx hb hr hml hts hown hlocks hK hP hD hS hZ hl
  have hP : va_P (dC, dI) vwCl (xW a cI cL cZ N J) s.heap := hP
  have hD : va_D (aA (xL a) s.heap.size) (xW a cI cL cZ N J) := hD
  have hown : s.vm.findClass RX0 = some m.cls := hown
  have hl : lv_has ls 2 [(0, .ref (a 3)), (1, .int (nI (j)))] := hl
  have hi0 : ∀ w ∈ wsX00, w ∈ wsX0_noteReader := by decide +kernel
  have k25 := hts (.fieldLink RX0 25 "ScoreMachine$Board" "readAt" "[I") (by decide +kernel)
  have k28 := hts (.fieldLink RX0 28 "ScoreMachine$Board" "row" "[I") (by decide +kernel)
  refine lv_aload_n hx hb dX0_noteReader_0 rfl (lv_at hl 0 rfl) ?_
  refine xg_29 hx hb hts hi0 hown hK hP k25 dX0_noteReader_1 ?_
  refine lv_iload_n hx hb dX0_noteReader_4 rfl (lv_at hl 1 rfl) ?_
  refine lv_aload_n hx hb dX0_noteReader_5 rfl (lv_at hl 0 rfl) ?_
  refine xg_29 hx hb hts hi0 hown hK hP k25 dX0_noteReader_6 ?_
  refine lv_iload_n hx hb dX0_noteReader_9 rfl (lv_at hl 1 rfl) ?_
  refine xl_29 (v := N 29 j) hx hb hK hP (by omega) rfl dX0_noteReader_10 ?_
  refine lv_aload_n hx hb dX0_noteReader_11 rfl (lv_at hl 0 rfl) ?_
  refine xg_35 hx hb hts hi0 hown hK hP k28 dX0_noteReader_12 ?_
  refine lv_iconst (v := nI 3) hx hb dX0_noteReader_15 (by decide) ?_
  refine xl_35 (v := N 35 3) hx hb hK hP (by omega) rfl dX0_noteReader_16 ?_
  refine n_max hx hb (hml.trans hl.1.symm) hown (hts (.methodLink RX0 142 Lib.Math.max.name) (by decide +kernel)) (hts (.static Lib.Math.max.name) (by decide +kernel)) (hts (.initialized "java/lang/Math") (by decide +kernel)) (hts (.code Lib.Math.max.name Lib.Math.max.code 2 (some .int)) (by decide +kernel)) (Nat.le_of_ble_eq_true rfl) (Nat.le_of_ble_eq_true rfl) (Nat.zero_le _) (Nat.zero_le _) (by omega) (by omega) dX0_noteReader_17 ?_
  refine xs_29 hx hb hK hP hD hS (by omega) dX0_noteReader_20 (fun H locs hP hD hS => ?_)
  exact g_retv hx hb hr hlocks ((uN N 29 (j) (max (N 29 j) (N 35 3))), J) (rfl) hP hS dX0_noteReader_21
theorem xNr_o {N : Nat → Nat → Nat} {j f : Nat} (h : f ≠ 29) : xNr N j f = N f := uN_o h
theorem xNR1_o {N : Nat → Nat → Nat} {f : Nat} (h : f ≠ 29) : xNR1 N f = N f := by
  unfold xNR1
  split
  · exact xNr_o h
  · rfl
theorem xNR2_o {N X : Nat → Nat → Nat} {f : Nat} (h : f ≠ 29) : xNR2 N X f = X f := by
  unfold xNR2
  split
  · exact xNr_o h
  · rfl
theorem xNR3_o {N X : Nat → Nat → Nat} {f : Nat} (h : f ≠ 29) : xNR3 N X f = X f := by
  unfold xNR3
  split
  · exact xNr_o h
  · rfl
theorem xNr_b {N : Nat → Nat → Nat} {k B : Nat} (hk : k < 16) (h : ∀ j, j < 16 → N 29 j < B) (h3 : N 35 3 < B) : ∀ j, j < 16 → xNr N k 29 j < B := fun j hj => uN_b (h j hj) (Nat.max_lt.mpr ⟨h k hk, h3⟩)
theorem xNR1_b {N : Nat → Nat → Nat} {B : Nat} (hA : xA N < 16) (h : ∀ j, j < 16 → N 29 j < B) (h3 : N 35 3 < B) : ∀ j, j < 16 → xNR1 N 29 j < B := by
  unfold xNR1
  split
  · exact xNr_b hA h h3
  · exact h
theorem xNR2_b {N X : Nat → Nat → Nat} {B : Nat} (h : ∀ j, j < 16 → X 29 j < B) (h3 : X 35 3 < B) : ∀ j, j < 16 → xNR2 N X 29 j < B := by
  unfold xNR2
  split
  · exact xNr_b (Nat.mod_lt _ (by decide)) h h3
  · exact h
set_option maxHeartbeats 4000000 in
set_option maxRecDepth 100000 in
theorem tB_noteReading (l : Launch) (dC : Nat → ClassId) (dI : Nat → Nat → Nat) (a : Nat → Nat) (cI cL cZ : ClassId) (N : Nat → Nat → Nat) (J : Nat → Nat → Int64)  (hG : xG0 N) (hr2 : ∀ j, j < 16 → N 29 j < 2147483648) (h3 : N 35 3 < 2147483648) : MetV l yX0_noteReading wsX0_noteReading ({ frames := 2, cells := 0, slots := 0, locals := 45 } : Room) dC dI (gT cI cL cZ) (xF a cI cL cZ) (xL a) (N, J) [.ref (a 3), .int (nI (xCode N))] (fun u => u = (xNR N, J)) := by
  intro sz
  refine g_entry (bytes := cX0_noteReading) (maxL := 3) (ret := none) (Qc := fun sz => va_Qv (fun u => u = (xNR N, J)) (gB dC dI (xF a cI cL cZ)) (aA (xL a) sz)) (by decide) rfl (Nat.le_of_ble_eq_true rfl) rfl ?_
  intro p e s m below meth c ls hx hb hr hml hts hown hlocks hK hP hD hS hZ hl
  have hP : va_P (dC, dI) vwCl (xW a cI cL cZ N J) s.heap := hP
  have hD : va_D (aA (xL a) s.heap.size) (xW a cI cL cZ N J) := hD
  have hown : s.vm.findClass RX0 = some m.cls := hown
  have hl : lv_has ls 3 [(0, .ref (a 3)), (1, .int (nI (xCode N)))] := hl
  have hi0 : ∀ w ∈ wsX00, w ∈ wsX0_noteReading := by decide +kernel
  have hi1 : ∀ w ∈ wsX10, w ∈ wsX0_noteReading := by decide +kernel
  have hi2 : ∀ w ∈ wsX20, w ∈ wsX0_noteReading := by decide +kernel
  have k106 := hts (.fieldLink RX0 106 "ScoreMachine$Setup" "ds" "[I") (by decide +kernel)
  have k109 := hts (.fieldLink RX0 109 "ScoreMachine$PlainMachine" "place" "I") (by decide +kernel)
  have k139 := hts (.fieldLink RX0 139 "ScoreMachine$Setup" "as" "[I") (by decide +kernel)
  have k37 := hts (.fieldLink RX0 37 "ScoreMachine$Board" "setup" "LScoreMachine$Setup;") (by decide +kernel)
  have k41 := hts (.fieldLink RX0 41 "ScoreMachine$Board" "plainMachine" "LScoreMachine$PlainMachine;") (by decide +kernel)
  obtain ⟨hpl, hpr⟩ := id hG
  have hp0 := hpr (N 13 0) hpl
  have hcd : xCode N ≤ 18 := hp0.1
  have hmD : xD N < 16 := hp0.2.1
  have hmA : xA N < 16 := hp0.2.2.1
  refine lv_aload_n hx hb dX0_noteReading_0 rfl (lv_at hl 0 rfl) ?_
  refine xg_21 hx hb hts hi0 hown hK hP k41 dX0_noteReading_1 ?_
  refine xg_13 (v := N 13 0) hx hb hts hi1 hown hK hP k109 rfl dX0_noteReading_4 ?_
  refine lv_istore_n (lv' := [(2, .int (nI (N 13 0))), (0, .ref (a 3)), (1, .int (nI (xCode N)))]) hx hb dX0_noteReading_7 rfl hl (by decide) rfl (fun ls hl => ?_)
  refine w_joinH (X := Nat → Nat → Nat) (dC := dC) (dI := dI) (A := aA (xL a) s.heap.size) (H0 := s.heap) (Wf := xF a cI cL cZ) (u := fun x28 => (x28, J)) (P := fun x28 => x28 = xNR1 N) (pj := 28) (nL := 3) (lv := fun x28 => [(2, .int (nI (N 13 0))), (0, .ref (a 3)), (1, .int (nI (xCode N)))]) (st := fun x28 => []) (fun jn_28 => ?_) (fun x28 ls H locs ex28 hl hP hD hS => ?_)
  · refine lv_iload_n hx hb dX0_noteReading_8 rfl (lv_at hl 2 rfl) ?_
    refine s_calliN (As := [.int (nI (xCode N))]) (rest := []) ⟨hx, hb, hml, hown, hts⟩ (tA_readsA l (xCode N) (by omega)) ⟨va_cnB (host := "ScoreMachine") 1 hts gX0_noteReading_X3_readsA_n136 rfl rfl rfl hZ.1.2.2.2.2.1 (hts (.initialized RX3) (by decide +kernel)) (by decide +kernel) ⟨Nat.le_of_ble_eq_true rfl, Nat.le_of_ble_eq_true rfl⟩, hts (.static yX3_readsA) (by decide +kernel), trivial⟩ rfl hl.1 rfl (Nat.le_of_ble_eq_true rfl) dX0_noteReading_9 (fun r_9 hw => ?_)
    subst hw
    refine n_if_eq (tgt := 28) hx hb bL dX0_noteReading_12 (by decide) (fun c_12 => ?_) (fun c_12 => ?_)
    · exact jn_28 N ls _ _ (by unfold xNR1; rw [if_neg (b0 c_12)]) (lv_sub hl [0, 1, 2] rfl) hP hD hS
    · refine lv_aload_n hx hb dX0_noteReading_15 rfl (lv_at hl 1 rfl) ?_
      refine lv_aload_n hx hb dX0_noteReading_16 rfl (lv_at hl 1 rfl) ?_
      refine xg_20 hx hb hts hi0 hown hK hP k37 dX0_noteReading_17 ?_
      refine xg_2 hx hb hts hi2 hown hK hP k139 dX0_noteReading_20 ?_
      refine lv_iload_n hx hb dX0_noteReading_23 rfl (lv_at hl 0 rfl) ?_
      refine xl_2 (v := xA N) hx hb hK hP (by omega) rfl dX0_noteReading_24 ?_
      refine g_callv (u := (N, J)) (g_runV (As := [.int (nI (xA N))]) (rest := []) ⟨hx, hb, hml, hown, hts⟩ (tB_noteReader l dC dI a cI cL cZ N J (xA N) hmA (hr2 _ hmA) h3 s.heap.size) (cwV 1 hts gX0_noteReading_X0_noteReader rfl rfl rfl (by decide +kernel) ⟨Nat.le_of_ble_eq_true rfl, Nat.le_of_ble_eq_true rfl⟩) (va_recv hK hP (ci := 0) (q0 := 3) rfl rfl) hK hP hD hS hZ rfl hl.1 rfl (Nat.le_of_ble_eq_true rfl) dX0_noteReading_25) (xW_L a cI cL cZ) hD hS (fun u H locs hw hP hD hS => ?_)
      subst hw
      have hP : va_P (dC, dI) vwCl (xW a cI cL cZ (xNr N (xA N)) J) H := hP
      have hD : va_D (aA (xL a) s.heap.size) (xW a cI cL cZ (xNr N (xA N)) J) := hD
      exact jn_28 (xNr N (xA N)) ls _ _ (by unfold xNR1; rw [if_pos (b1 c_12)]) (lv_sub hl [0, 1, 2] rfl) hP hD hS
  · have ex28 : x28 = xNR1 N := ex28
    have hl : lv_has ls 3 [(2, .int (nI (N 13 0))), (0, .ref (a 3)), (1, .int (nI (xCode N)))] := hl
    have hP : va_P (dC, dI) vwCl (xW a cI cL cZ x28 J) H := hP
    have hD : va_D (aA (xL a) s.heap.size) (xW a cI cL cZ x28 J) := hD
    have q28 : ∀ f, f ≠ 29 → x28 f = N f := fun f hf => by rw [ex28]; exact xNR1_o hf
    have b28 : ∀ j, j < 16 → x28 29 j < 2147483648 := by rw [ex28]; exact xNR1_b hmA hr2 h3
    refine w_joinH (X := Nat → Nat → Nat) (dC := dC) (dI := dI) (A := aA (xL a) s.heap.size) (H0 := s.heap) (Wf := xF a cI cL cZ) (u := fun x47 => (x47, J)) (P := fun x47 => x47 = xNR2 N x28) (pj := 47) (nL := 3) (lv := fun x47 => [(2, .int (nI (N 13 0))), (0, .ref (a 3)), (1, .int (nI (xCode N)))]) (st := fun x47 => []) (fun jn_47 => ?_) (fun x47 ls H locs ex47 hl hP hD hS => ?_)
    · refine lv_iload_n hx hb dX0_noteReading_28 rfl (lv_at hl 2 rfl) ?_
      refine s_calliN (As := [.int (nI (xCode N))]) (rest := []) ⟨hx, hb, hml, hown, hts⟩ (tA_readsB l (xCode N) (by omega)) ⟨va_cnB (host := "ScoreMachine") 1 hts gX0_noteReading_X3_readsB_n147 rfl rfl rfl hZ.1.2.2.2.2.2.1 (hts (.initialized RX3) (by decide +kernel)) (by decide +kernel) ⟨Nat.le_of_ble_eq_true rfl, Nat.le_of_ble_eq_true rfl⟩, hts (.static yX3_readsB) (by decide +kernel), trivial⟩ rfl hl.1 rfl (Nat.le_of_ble_eq_true rfl) dX0_noteReading_29 (fun r_29 hw => ?_)
      subst hw
      refine n_if_eq (tgt := 47) hx hb bL dX0_noteReading_32 (by decide) (fun c_32 => ?_) (fun c_32 => ?_)
      · exact jn_47 x28 ls _ _ (by unfold xNR2; rw [if_neg (b0 c_32)]) (lv_sub hl [0, 1, 2] rfl) hP hD hS
      · refine lv_aload_n hx hb dX0_noteReading_35 rfl (lv_at hl 1 rfl) ?_
        refine lv_aload_n hx hb dX0_noteReading_36 rfl (lv_at hl 1 rfl) ?_
        refine xg_20 hx hb hts hi0 hown hK hP k37 dX0_noteReading_37 ?_
        refine lv_iload_n hx hb dX0_noteReading_40 rfl (lv_at hl 0 rfl) ?_
        refine g_calli (u := (x28, J)) (g_runV (As := [.int (nI (N 13 0))]) (rest := [.ref (a 3)]) ⟨hx, hb, hml, hown, hts⟩ (tS_registerB l dC dI a cI cL cZ x28 J (N 13 0) hpl (by rw [q28 3 (by decide)]; exact hp0.2.2.2) H.size) (cwV 1 hts gX0_noteReading_X2_registerB rfl rfl rfl (by decide +kernel) ⟨Nat.le_of_ble_eq_true rfl, Nat.le_of_ble_eq_true rfl⟩) (va_recv hK hP (ci := 2) (q0 := 1) rfl rfl) hK hP hD hS hZ rfl hl.1 rfl (Nat.le_of_ble_eq_true rfl) dX0_noteReading_41) (xW_L a cI cL cZ) hD hS (fun r_41 u H locs hw hP hD hS => ?_)
        obtain ⟨hr9, hu9⟩ := hw
        have hr9 : r_41 = nI (xBB N % 16) := by rw [hr9, q28 3 (by decide)]; rfl
        subst hr9
        subst hu9
        have hP : va_P (dC, dI) vwCl (xW a cI cL cZ x28 J) H := hP
        have hD : va_D (aA (xL a) s.heap.size) (xW a cI cL cZ x28 J) := hD
        refine g_callv (u := (x28, J)) (g_runV (As := [.int (nI (xBB N % 16))]) (rest := []) ⟨hx, hb, hml, hown, hts⟩ (tB_noteReader l dC dI a cI cL cZ x28 J (xBB N % 16) (by omega) (b28 _ (by omega)) (by rw [q28 35 (by decide)]; exact h3) H.size) (cwV 1 hts gX0_noteReading_X0_noteReader rfl rfl rfl (by decide +kernel) ⟨Nat.le_of_ble_eq_true rfl, Nat.le_of_ble_eq_true rfl⟩) (va_recv hK hP (ci := 0) (q0 := 3) rfl rfl) hK hP hD hS hZ rfl hl.1 rfl (Nat.le_of_ble_eq_true rfl) dX0_noteReading_44) (xW_L a cI cL cZ) hD hS (fun u H locs hw hP hD hS => ?_)
        subst hw
        have hP : va_P (dC, dI) vwCl (xW a cI cL cZ (xNr x28 (xBB N % 16)) J) H := hP
        have hD : va_D (aA (xL a) s.heap.size) (xW a cI cL cZ (xNr x28 (xBB N % 16)) J) := hD
        exact jn_47 (xNr x28 (xBB N % 16)) ls _ _ (by unfold xNR2; rw [if_pos (b1 c_32)]) (lv_sub hl [0, 1, 2] rfl) hP hD hS
    · have ex47 : x47 = xNR2 N x28 := ex47
      have hl : lv_has ls 3 [(2, .int (nI (N 13 0))), (0, .ref (a 3)), (1, .int (nI (xCode N)))] := hl
      have hP : va_P (dC, dI) vwCl (xW a cI cL cZ x47 J) H := hP
      have hD : va_D (aA (xL a) s.heap.size) (xW a cI cL cZ x47 J) := hD
      have q47 : ∀ f, f ≠ 29 → x47 f = N f := fun f hf => by rw [ex47, xNR2_o hf]; exact q28 f hf
      have b47 : ∀ j, j < 16 → x47 29 j < 2147483648 := by rw [ex47]; exact xNR2_b b28 (by rw [q28 35 (by decide)]; exact h3)
      refine w_joinH (X := Nat → Nat → Nat) (dC := dC) (dI := dI) (A := aA (xL a) s.heap.size) (H0 := s.heap) (Wf := xF a cI cL cZ) (u := fun x67 => (x67, J)) (P := fun x67 => x67 = xNR3 N x47) (pj := 67) (nL := 3) (lv := fun x67 => [(2, .int (nI (N 13 0))), (0, .ref (a 3)), (1, .int (nI (xCode N)))]) (st := fun x67 => []) (fun jn_67 => ?_) (fun x67 ls H locs ex67 hl hP hD hS => ?_)
      · refine lv_iload_n hx hb dX0_noteReading_47 rfl (lv_at hl 2 rfl) ?_
        refine s_calliN (As := [.int (nI (xCode N))]) (rest := []) ⟨hx, hb, hml, hown, hts⟩ (tA_readsD l (xCode N) (by omega)) ⟨va_cnB (host := "ScoreMachine") 1 hts gX0_noteReading_X3_readsD_n153 rfl rfl rfl hZ.1.2.2.2.2.2.2.1 (hts (.initialized RX3) (by decide +kernel)) (by decide +kernel) ⟨Nat.le_of_ble_eq_true rfl, Nat.le_of_ble_eq_true rfl⟩, hts (.static yX3_readsD) (by decide +kernel), trivial⟩ rfl hl.1 rfl (Nat.le_of_ble_eq_true rfl) dX0_noteReading_48 (fun r_48 hw => ?_)
        subst hw
        refine n_if_eq (tgt := 67) hx hb bL dX0_noteReading_51 (by decide) (fun c_51 => ?_) (fun c_51 => ?_)
        · exact jn_67 x47 ls _ _ (by unfold xNR3; rw [if_neg (b0 c_51)]) (lv_sub hl [0, 1, 2] rfl) hP hD hS
        · refine lv_aload_n hx hb dX0_noteReading_54 rfl (lv_at hl 1 rfl) ?_
          refine lv_aload_n hx hb dX0_noteReading_55 rfl (lv_at hl 1 rfl) ?_
          refine xg_20 hx hb hts hi0 hown hK hP k37 dX0_noteReading_56 ?_
          refine xg_1 hx hb hts hi2 hown hK hP k106 dX0_noteReading_59 ?_
          refine lv_iload_n hx hb dX0_noteReading_62 rfl (lv_at hl 0 rfl) ?_
          refine xl_1 (v := xD N) hx hb hK hP (by omega) (by rw [q47 1 (by decide)]; rfl) dX0_noteReading_63 ?_
          refine g_callv (u := (x47, J)) (g_runV (As := [.int (nI (xD N))]) (rest := []) ⟨hx, hb, hml, hown, hts⟩ (tB_noteReader l dC dI a cI cL cZ x47 J (xD N) hmD (b47 _ hmD) (by rw [q47 35 (by decide)]; exact h3) H.size) (cwV 1 hts gX0_noteReading_X0_noteReader rfl rfl rfl (by decide +kernel) ⟨Nat.le_of_ble_eq_true rfl, Nat.le_of_ble_eq_true rfl⟩) (va_recv hK hP (ci := 0) (q0 := 3) rfl rfl) hK hP hD hS hZ rfl hl.1 rfl (Nat.le_of_ble_eq_true rfl) dX0_noteReading_64) (xW_L a cI cL cZ) hD hS (fun u H locs hw hP hD hS => ?_)
          subst hw
          have hP : va_P (dC, dI) vwCl (xW a cI cL cZ (xNr x47 (xD N)) J) H := hP
          have hD : va_D (aA (xL a) s.heap.size) (xW a cI cL cZ (xNr x47 (xD N)) J) := hD
          exact jn_67 (xNr x47 (xD N)) ls _ _ (by unfold xNR3; rw [if_pos (b1 c_51)]) (lv_sub hl [0, 1, 2] rfl) hP hD hS
      · have ex67 : x67 = xNR3 N x47 := ex67
        have hl : lv_has ls 3 [(2, .int (nI (N 13 0))), (0, .ref (a 3)), (1, .int (nI (xCode N)))] := hl
        have hP : va_P (dC, dI) vwCl (xW a cI cL cZ x67 J) H := hP
        have hD : va_D (aA (xL a) s.heap.size) (xW a cI cL cZ x67 J) := hD
        exact g_retv hx hb hr hlocks (x67, J) (by rw [ex67, ex47, ex28]; rfl) hP hS dX0_noteReading_67
set_option maxHeartbeats 4000000 in
set_option maxRecDepth 100000 in
theorem tB_noteWriting (l : Launch) (dC : Nat → ClassId) (dI : Nat → Nat → Nat) (a : Nat → Nat) (cI cL cZ : ClassId) (N : Nat → Nat → Nat) (J : Nat → Nat → Int64)  (hG : xG0 N) (h34 : N 34 0 < 2147483648) (h35 : N 35 5 < 2147483648) : MetV l yX0_noteWriting wsX0_noteWriting ({ frames := 1, cells := 0, slots := 0, locals := 24 } : Room) dC dI (gT cI cL cZ) (xF a cI cL cZ) (xL a) (N, J) [.ref (a 3), .int (nI (xCode N)), .int (nI (kdN (xCode N)))] (fun u => u = xNW (N, J)) := by
  intro sz
  refine g_entry (bytes := cX0_noteWriting) (maxL := 5) (ret := none) (Qc := fun sz => va_Qv (fun u => u = xNW (N, J)) (gB dC dI (xF a cI cL cZ)) (aA (xL a) sz)) (by decide) rfl (Nat.le_of_ble_eq_true rfl) rfl ?_
  intro p e s m below meth c ls hx hb hr hml hts hown hlocks hK hP hD hS hZ hl
  have hP : va_P (dC, dI) vwCl (xW a cI cL cZ N J) s.heap := hP
  have hD : va_D (aA (xL a) s.heap.size) (xW a cI cL cZ N J) := hD
  have hown : s.vm.findClass RX0 = some m.cls := hown
  have hl : lv_has ls 5 [(0, .ref (a 3)), (1, .int (nI (xCode N))), (2, .int (nI (kdN (xCode N))))] := hl
  have hi0 : ∀ w ∈ wsX00, w ∈ wsX0_noteWriting := by decide +kernel
  have hi1 : ∀ w ∈ wsX10, w ∈ wsX0_noteWriting := by decide +kernel
  have hi2 : ∀ w ∈ wsX20, w ∈ wsX0_noteWriting := by decide +kernel
  have k106 := hts (.fieldLink RX0 106 "ScoreMachine$Setup" "ds" "[I") (by decide +kernel)
  have k109 := hts (.fieldLink RX0 109 "ScoreMachine$PlainMachine" "place" "I") (by decide +kernel)
  have k15 := hts (.fieldLink RX0 15 "ScoreMachine$Board" "writer" "[I") (by decide +kernel)
  have k174 := hts (.fieldLink RX0 174 "ScoreMachine$PlainMachine" "memory" "[J") (by decide +kernel)
  have k177 := hts (.fieldLink RX0 177 "ScoreMachine$PlainMachine" "registers" "[J") (by decide +kernel)
  have k18 := hts (.fieldLink RX0 18 "ScoreMachine$Board" "writtenAt" "[I") (by decide +kernel)
  have k21 := hts (.fieldLink RX0 21 "ScoreMachine$Board" "heldBefore" "[J") (by decide +kernel)
  have k28 := hts (.fieldLink RX0 28 "ScoreMachine$Board" "row" "[I") (by decide +kernel)
  have k37 := hts (.fieldLink RX0 37 "ScoreMachine$Board" "setup" "LScoreMachine$Setup;") (by decide +kernel)
  have k41 := hts (.fieldLink RX0 41 "ScoreMachine$Board" "plainMachine" "LScoreMachine$PlainMachine;") (by decide +kernel)
  have k53 := hts (.fieldLink RX0 53 "ScoreMachine$Board" "issued" "I") (by decide +kernel)
  have k65 := hts (.fieldLink RX0 65 "ScoreMachine$Board" "storeCell" "I") (by decide +kernel)
  have k68 := hts (.fieldLink RX0 68 "ScoreMachine$Board" "storeWritten" "I") (by decide +kernel)
  have k71 := hts (.fieldLink RX0 71 "ScoreMachine$Board" "storeBefore" "J") (by decide +kernel)
  have k75 := hts (.fieldLink RX0 75 "ScoreMachine$Board" "branchWritten" "I") (by decide +kernel)
  have k78 := hts (.fieldLink RX0 78 "ScoreMachine$Board" "lastWritten" "I") (by decide +kernel)
  obtain ⟨hpl, hpr⟩ := id hG
  have hp0 := hpr (N 13 0) hpl
  have hcd : xCode N ≤ 18 := hp0.1
  have hmD : xD N < 16 := hp0.2.1
  have hmA : xA N < 16 := hp0.2.2.1
  have hkd := kdN_lt (xCode N)
  refine lv_aload_n hx hb dX0_noteWriting_0 rfl (lv_at hl 0 rfl) ?_
  refine xg_35 hx hb hts hi0 hown hK hP k28 dX0_noteWriting_1 ?_
  refine lv_iconst (v := nI 5) hx hb dX0_noteWriting_4 (by decide) ?_
  refine xl_35 (v := N 35 5) hx hb hK hP (by omega) rfl dX0_noteWriting_5 ?_
  refine lv_istore_n (lv' := [(3, .int (nI (N 35 5))), (0, .ref (a 3)), (1, .int (nI (xCode N))), (2, .int (nI (kdN (xCode N))))]) hx hb dX0_noteWriting_6 rfl hl (by decide) rfl (fun ls hl => ?_)
  refine lv_aload_n hx hb dX0_noteWriting_7 rfl (lv_at hl 1 rfl) ?_
  refine lv_aload_n hx hb dX0_noteWriting_8 rfl (lv_at hl 1 rfl) ?_
  refine xg_34 (v := N 34 0) hx hb hts hi0 hown hK hP k78 rfl dX0_noteWriting_9 ?_
  refine lv_iload_n hx hb dX0_noteWriting_12 rfl (lv_at hl 0 rfl) ?_
  refine n_max hx hb (hml.trans hl.1.symm) hown (hts (.methodLink RX0 142 Lib.Math.max.name) (by decide +kernel)) (hts (.static Lib.Math.max.name) (by decide +kernel)) (hts (.initialized "java/lang/Math") (by decide +kernel)) (hts (.code Lib.Math.max.name Lib.Math.max.code 2 (some .int)) (by decide +kernel)) (Nat.le_of_ble_eq_true rfl) (Nat.le_of_ble_eq_true rfl) (Nat.zero_le _) (Nat.zero_le _) (by omega) (by omega) dX0_noteWriting_13 ?_
  refine xp_34 hx hb hts hi0 hown hK hP hD hS k78 dX0_noteWriting_16 (fun H locs hP hD hS => ?_)
  refine lv_iload_n hx hb dX0_noteWriting_19 rfl (lv_at hl 3 rfl) ?_
  refine lv_iconst (v := nI 5) hx hb dX0_noteWriting_20 (by decide) ?_
  refine n_icmp_ne (tgt := 32) hx hb (by omega) (by omega) dX0_noteWriting_21 (by decide) (fun c_21 => ?_) (fun c_21 => ?_)
  · refine lv_iload_n hx hb dX0_noteWriting_32 rfl (lv_at hl 2 rfl) ?_
    refine lv_bipush (v := nI 15) hx hb dX0_noteWriting_33 (by decide) ?_
    refine n_icmp_ne (tgt := 73) hx hb (by omega) (by omega) dX0_noteWriting_35 (by decide) (fun c_35 => ?_) (fun c_35 => ?_)
    · refine lv_aload_n hx hb dX0_noteWriting_73 rfl (lv_at hl 1 rfl) ?_
      refine xg_20 hx hb hts hi0 hown hK hP k37 dX0_noteWriting_74 ?_
      refine xg_1 hx hb hts hi2 hown hK hP k106 dX0_noteWriting_77 ?_
      refine lv_aload_n hx hb dX0_noteWriting_80 rfl (lv_at hl 1 rfl) ?_
      refine xg_21 hx hb hts hi0 hown hK hP k41 dX0_noteWriting_81 ?_
      refine xg_13 (v := N 13 0) hx hb hts hi1 hown hK hP k109 rfl dX0_noteWriting_84 ?_
      refine xl_1 (v := xD N) hx hb hK hP (by omega) rfl dX0_noteWriting_87 ?_
      refine lv_istore (lv' := [(4, .int (nI (xD N))), (3, .int (nI (N 35 5))), (0, .ref (a 3)), (1, .int (nI (xCode N))), (2, .int (nI (kdN (xCode N))))]) hx hb dX0_noteWriting_88 hl (by decide) rfl (fun ls hl => ?_)
      refine lv_aload_n hx hb dX0_noteWriting_90 rfl (lv_at hl 2 rfl) ?_
      refine xg_26 hx hb hts hi0 hown hK hP k15 dX0_noteWriting_91 ?_
      refine lv_iload hx hb dX0_noteWriting_94 (lv_at hl 0 rfl) ?_
      refine lv_aload_n hx hb dX0_noteWriting_96 rfl (lv_at hl 2 rfl) ?_
      refine xg_24 (v := N 24 0) hx hb hts hi0 hown hK hP k53 rfl dX0_noteWriting_97 ?_
      refine xs_26 hx hb hK hP hD hS hmD dX0_noteWriting_100 (fun H locs hP hD hS => ?_)
      refine lv_aload_n hx hb dX0_noteWriting_101 rfl (lv_at hl 2 rfl) ?_
      refine xg_27 hx hb hts hi0 hown hK hP k18 dX0_noteWriting_102 ?_
      refine lv_iload hx hb dX0_noteWriting_105 (lv_at hl 0 rfl) ?_
      refine lv_iload_n hx hb dX0_noteWriting_107 rfl (lv_at hl 1 rfl) ?_
      refine xs_27 hx hb hK hP hD hS hmD dX0_noteWriting_108 (fun H locs hP hD hS => ?_)
      refine lv_aload_n hx hb dX0_noteWriting_109 rfl (lv_at hl 2 rfl) ?_
      refine xg_28 hx hb hts hi0 hown hK hP k21 dX0_noteWriting_110 ?_
      refine lv_iload hx hb dX0_noteWriting_113 (lv_at hl 0 rfl) ?_
      refine lv_aload_n hx hb dX0_noteWriting_115 rfl (lv_at hl 2 rfl) ?_
      refine xg_21 hx hb hts hi0 hown hK hP k41 dX0_noteWriting_116 ?_
      refine xg_11 hx hb hts hi1 hown hK hP k177 dX0_noteWriting_119 ?_
      refine lv_iload hx hb dX0_noteWriting_122 (lv_at hl 0 rfl) ?_
      refine xl_11 (v := J 11 (xD N)) hx hb hK hP hmD rfl dX0_noteWriting_124 ?_
      refine xs_28 hx hb hK hP hD hS hmD dX0_noteWriting_125 (fun H locs hP hD hS => ?_)
      exact g_retv hx hb hr hlocks ((uN (uN (uN N 34 (0) (max (N 34 0) (N 35 5))) 26 (xD N) (N 24 0)) 27 (xD N) (N 35 5)), (uJ J 28 (xD N) (J 11 (xD N)))) (by show _ = xNW (N, J); unfold xNW; rw [if_neg (show ¬ kdN (xCode N) = 5 from c_21), if_neg (show ¬ xCode N = 15 from c_35)]) hP hS dX0_noteWriting_126
    · refine lv_aload_n hx hb dX0_noteWriting_38 rfl (lv_at hl 1 rfl) ?_
      refine lv_aload_n hx hb dX0_noteWriting_39 rfl (lv_at hl 1 rfl) ?_
      refine xg_21 hx hb hts hi0 hown hK hP k41 dX0_noteWriting_40 ?_
      refine g_calli (u := ((uN N 34 (0) (max (N 34 0) (N 35 5))), J)) (g_runV (As := []) (rest := [.ref (a 3)]) ⟨hx, hb, hml, hown, hts⟩ (tP_cell l dC dI a cI cL cZ (uN N 34 (0) (max (N 34 0) (N 35 5))) J hG H.size) (cwV 0 hts gX0_noteWriting_X1_cell rfl rfl rfl (by decide +kernel) ⟨Nat.le_of_ble_eq_true rfl, Nat.le_of_ble_eq_true rfl⟩) (va_recv hK hP (ci := 1) (q0 := 2) rfl rfl) hK hP hD hS hZ rfl hl.1 rfl (Nat.le_of_ble_eq_true rfl) dX0_noteWriting_43) (xW_L a cI cL cZ) hD hS (fun r_43 u H locs hw hP hD hS => ?_)
      obtain ⟨hr9, hu9⟩ := hw
      have hr9 : r_43 = nI (xCl N J) := hr9
      subst hr9
      subst hu9
      have hP : va_P (dC, dI) vwCl (xW a cI cL cZ (uN N 34 (0) (max (N 34 0) (N 35 5))) J) H := hP
      have hD : va_D (aA (xL a) s.heap.size) (xW a cI cL cZ (uN N 34 (0) (max (N 34 0) (N 35 5))) J) := hD
      refine xp_30 hx hb hts hi0 hown hK hP hD hS k65 dX0_noteWriting_46 (fun H locs hP hD hS => ?_)
      refine lv_aload_n hx hb dX0_noteWriting_49 rfl (lv_at hl 1 rfl) ?_
      refine lv_iload_n hx hb dX0_noteWriting_50 rfl (lv_at hl 0 rfl) ?_
      refine xp_31 hx hb hts hi0 hown hK hP hD hS k68 dX0_noteWriting_51 (fun H locs hP hD hS => ?_)
      refine lv_aload_n hx hb dX0_noteWriting_54 rfl (lv_at hl 1 rfl) ?_
      refine lv_aload_n hx hb dX0_noteWriting_55 rfl (lv_at hl 1 rfl) ?_
      refine xg_21 hx hb hts hi0 hown hK hP k41 dX0_noteWriting_56 ?_
      refine xg_12 hx hb hts hi1 hown hK hP k174 dX0_noteWriting_59 ?_
      refine lv_aload_n hx hb dX0_noteWriting_62 rfl (lv_at hl 1 rfl) ?_
      refine xg_30 (v := xCl N J) hx hb hts hi0 hown hK hP k65 rfl dX0_noteWriting_63 ?_
      refine xl_12 (v := J 12 (xCl N J)) hx hb hK hP (clN_lt _) rfl dX0_noteWriting_66 ?_
      refine xp_32 hx hb hts hi0 hown hK hP hD hS k71 dX0_noteWriting_67 (fun H locs hP hD hS => ?_)
      refine lv_goto (tgt := 126) hx hb dX0_noteWriting_70 (by decide) ?_
      exact g_retv hx hb hr hlocks ((uN (uN (uN N 34 (0) (max (N 34 0) (N 35 5))) 30 (0) (xCl N J)) 31 (0) (N 35 5)), (uJ J 32 (0) (J 12 (xCl N J)))) (by show _ = xNW (N, J); unfold xNW; rw [if_neg (show ¬ kdN (xCode N) = 5 from c_21), if_pos (show xCode N = 15 from c_35)]) hP hS dX0_noteWriting_126
  · refine lv_aload_n hx hb dX0_noteWriting_24 rfl (lv_at hl 1 rfl) ?_
    refine lv_iload_n hx hb dX0_noteWriting_25 rfl (lv_at hl 0 rfl) ?_
    refine xp_33 hx hb hts hi0 hown hK hP hD hS k75 dX0_noteWriting_26 (fun H locs hP hD hS => ?_)
    refine lv_goto (tgt := 126) hx hb dX0_noteWriting_29 (by decide) ?_
    exact g_retv hx hb hr hlocks ((uN (uN N 34 (0) (max (N 34 0) (N 35 5))) 33 (0) (N 35 5)), J) (by show _ = xNW (N, J); unfold xNW; rw [if_pos (show kdN (xCode N) = 5 from c_21)]) hP hS dX0_noteWriting_126
set_option maxHeartbeats 4000000 in
set_option maxRecDepth 100000 in
theorem tB_registerNow (l : Launch) (dC : Nat → ClassId) (dI : Nat → Nat → Nat) (a : Nat → Nat) (cI cL cZ : ClassId) (N : Nat → Nat → Nat) (J : Nat → Nat → Int64) (i : Nat) (hi : i < 16) (hc : N 22 0 < 2147483648) (hw2 : N 27 i < 2147483648) : MetL l yX0_registerNow wsX0_registerNow ({ frames := 0, cells := 0, slots := 0, locals := 0 } : Room) dC dI (gT cI cL cZ) (xF a cI cL cZ) (xL a) (N, J) [.ref (a 3), .int (nI (i))] (fun r u => r = (if N 22 0 < N 27 i then J 28 i else J 11 i) ∧ u = (N, J)) := by
  intro sz
  refine g_entry (bytes := cX0_registerNow) (maxL := 2) (ret := (some .long)) (Qc := fun sz => va_Ql (fun r u => r = (if N 22 0 < N 27 i then J 28 i else J 11 i) ∧ u = (N, J)) (gB dC dI (xF a cI cL cZ)) (aA (xL a) sz)) (by decide) rfl (Nat.le_of_ble_eq_true rfl) rfl ?_
  intro p e s m below meth c ls hx hb hr hml hts hown hlocks hK hP hD hS hZ hl
  have hP : va_P (dC, dI) vwCl (xW a cI cL cZ N J) s.heap := hP
  have hD : va_D (aA (xL a) s.heap.size) (xW a cI cL cZ N J) := hD
  have hown : s.vm.findClass RX0 = some m.cls := hown
  have hl : lv_has ls 2 [(0, .ref (a 3)), (1, .int (nI (i)))] := hl
  have hi0 : ∀ w ∈ wsX00, w ∈ wsX0_registerNow := by decide +kernel
  have hi1 : ∀ w ∈ wsX10, w ∈ wsX0_registerNow := by decide +kernel
  have k177 := hts (.fieldLink RX0 177 "ScoreMachine$PlainMachine" "registers" "[J") (by decide +kernel)
  have k18 := hts (.fieldLink RX0 18 "ScoreMachine$Board" "writtenAt" "[I") (by decide +kernel)
  have k21 := hts (.fieldLink RX0 21 "ScoreMachine$Board" "heldBefore" "[J") (by decide +kernel)
  have k41 := hts (.fieldLink RX0 41 "ScoreMachine$Board" "plainMachine" "LScoreMachine$PlainMachine;") (by decide +kernel)
  have k45 := hts (.fieldLink RX0 45 "ScoreMachine$Board" "cycle" "I") (by decide +kernel)
  refine lv_aload_n hx hb dX0_registerNow_0 rfl (lv_at hl 0 rfl) ?_
  refine xg_27 hx hb hts hi0 hown hK hP k18 dX0_registerNow_1 ?_
  refine lv_iload_n hx hb dX0_registerNow_4 rfl (lv_at hl 1 rfl) ?_
  refine xl_27 (v := N 27 i) hx hb hK hP (by omega) rfl dX0_registerNow_5 ?_
  refine lv_aload_n hx hb dX0_registerNow_6 rfl (lv_at hl 0 rfl) ?_
  refine xg_22 (v := N 22 0) hx hb hts hi0 hown hK hP k45 rfl dX0_registerNow_7 ?_
  refine n_icmp_le (tgt := 22) hx hb (by omega) (by omega) dX0_registerNow_10 (by decide) (fun c_10 => ?_) (fun c_10 => ?_)
  · refine lv_aload_n hx hb dX0_registerNow_22 rfl (lv_at hl 0 rfl) ?_
    refine xg_21 hx hb hts hi0 hown hK hP k41 dX0_registerNow_23 ?_
    refine xg_11 hx hb hts hi1 hown hK hP k177 dX0_registerNow_26 ?_
    refine lv_iload_n hx hb dX0_registerNow_29 rfl (lv_at hl 1 rfl) ?_
    refine xl_11 (v := J 11 i) hx hb hK hP (by omega) rfl dX0_registerNow_30 ?_
    exact g_retl hx hb hr hlocks (N, J) (⟨by (repeat' split) <;> first | rfl | (exfalso; omega), rfl⟩) hP hS dX0_registerNow_31
  · refine lv_aload_n hx hb dX0_registerNow_13 rfl (lv_at hl 0 rfl) ?_
    refine xg_28 hx hb hts hi0 hown hK hP k21 dX0_registerNow_14 ?_
    refine lv_iload_n hx hb dX0_registerNow_17 rfl (lv_at hl 1 rfl) ?_
    refine xl_28 (v := J 28 i) hx hb hK hP (by omega) rfl dX0_registerNow_18 ?_
    refine lv_goto (tgt := 31) hx hb dX0_registerNow_19 (by decide) ?_
    exact g_retl hx hb hr hlocks (N, J) (⟨by (repeat' split) <;> first | rfl | (exfalso; omega), rfl⟩) hP hS dX0_registerNow_31
set_option maxHeartbeats 4000000 in
set_option maxRecDepth 100000 in
theorem tB_memoryNow (l : Launch) (dC : Nat → ClassId) (dI : Nat → Nat → Nat) (a : Nat → Nat) (cI cL cZ : ClassId) (N : Nat → Nat → Nat) (J : Nat → Nat → Int64) (i : Nat) (hi : i < 256) (hc : N 22 0 < 2147483648) (hw2 : N 30 0 < 2147483648) (hw3 : N 31 0 < 2147483648) : MetL l yX0_memoryNow wsX0_memoryNow ({ frames := 0, cells := 0, slots := 0, locals := 0 } : Room) dC dI (gT cI cL cZ) (xF a cI cL cZ) (xL a) (N, J) [.ref (a 3), .int (nI (i))] (fun r u => r = (if i = N 30 0 ∧ N 22 0 < N 31 0 then J 32 0 else J 12 i) ∧ u = (N, J)) := by
  intro sz
  refine g_entry (bytes := cX0_memoryNow) (maxL := 2) (ret := (some .long)) (Qc := fun sz => va_Ql (fun r u => r = (if i = N 30 0 ∧ N 22 0 < N 31 0 then J 32 0 else J 12 i) ∧ u = (N, J)) (gB dC dI (xF a cI cL cZ)) (aA (xL a) sz)) (by decide) rfl (Nat.le_of_ble_eq_true rfl) rfl ?_
  intro p e s m below meth c ls hx hb hr hml hts hown hlocks hK hP hD hS hZ hl
  have hP : va_P (dC, dI) vwCl (xW a cI cL cZ N J) s.heap := hP
  have hD : va_D (aA (xL a) s.heap.size) (xW a cI cL cZ N J) := hD
  have hown : s.vm.findClass RX0 = some m.cls := hown
  have hl : lv_has ls 2 [(0, .ref (a 3)), (1, .int (nI (i)))] := hl
  have hi0 : ∀ w ∈ wsX00, w ∈ wsX0_memoryNow := by decide +kernel
  have hi1 : ∀ w ∈ wsX10, w ∈ wsX0_memoryNow := by decide +kernel
  have k174 := hts (.fieldLink RX0 174 "ScoreMachine$PlainMachine" "memory" "[J") (by decide +kernel)
  have k41 := hts (.fieldLink RX0 41 "ScoreMachine$Board" "plainMachine" "LScoreMachine$PlainMachine;") (by decide +kernel)
  have k45 := hts (.fieldLink RX0 45 "ScoreMachine$Board" "cycle" "I") (by decide +kernel)
  have k65 := hts (.fieldLink RX0 65 "ScoreMachine$Board" "storeCell" "I") (by decide +kernel)
  have k68 := hts (.fieldLink RX0 68 "ScoreMachine$Board" "storeWritten" "I") (by decide +kernel)
  have k71 := hts (.fieldLink RX0 71 "ScoreMachine$Board" "storeBefore" "J") (by decide +kernel)
  refine lv_iload_n hx hb dX0_memoryNow_0 rfl (lv_at hl 1 rfl) ?_
  refine lv_aload_n hx hb dX0_memoryNow_1 rfl (lv_at hl 0 rfl) ?_
  refine xg_30 (v := N 30 0) hx hb hts hi0 hown hK hP k65 rfl dX0_memoryNow_2 ?_
  refine n_icmp_ne (tgt := 26) hx hb (by omega) (by omega) dX0_memoryNow_5 (by decide) (fun c_5 => ?_) (fun c_5 => ?_)
  · refine lv_aload_n hx hb dX0_memoryNow_26 rfl (lv_at hl 0 rfl) ?_
    refine xg_21 hx hb hts hi0 hown hK hP k41 dX0_memoryNow_27 ?_
    refine xg_12 hx hb hts hi1 hown hK hP k174 dX0_memoryNow_30 ?_
    refine lv_iload_n hx hb dX0_memoryNow_33 rfl (lv_at hl 1 rfl) ?_
    refine xl_12 (v := J 12 i) hx hb hK hP (by omega) rfl dX0_memoryNow_34 ?_
    exact g_retl hx hb hr hlocks (N, J) (⟨by (repeat' split) <;> first | rfl | (exfalso; omega), rfl⟩) hP hS dX0_memoryNow_35
  · refine lv_aload_n hx hb dX0_memoryNow_8 rfl (lv_at hl 0 rfl) ?_
    refine xg_31 (v := N 31 0) hx hb hts hi0 hown hK hP k68 rfl dX0_memoryNow_9 ?_
    refine lv_aload_n hx hb dX0_memoryNow_12 rfl (lv_at hl 0 rfl) ?_
    refine xg_22 (v := N 22 0) hx hb hts hi0 hown hK hP k45 rfl dX0_memoryNow_13 ?_
    refine n_icmp_le (tgt := 26) hx hb (by omega) (by omega) dX0_memoryNow_16 (by decide) (fun c_16 => ?_) (fun c_16 => ?_)
    · refine lv_aload_n hx hb dX0_memoryNow_26 rfl (lv_at hl 0 rfl) ?_
      refine xg_21 hx hb hts hi0 hown hK hP k41 dX0_memoryNow_27 ?_
      refine xg_12 hx hb hts hi1 hown hK hP k174 dX0_memoryNow_30 ?_
      refine lv_iload_n hx hb dX0_memoryNow_33 rfl (lv_at hl 1 rfl) ?_
      refine xl_12 (v := J 12 i) hx hb hK hP (by omega) rfl dX0_memoryNow_34 ?_
      exact g_retl hx hb hr hlocks (N, J) (⟨by (repeat' split) <;> first | rfl | (exfalso; omega), rfl⟩) hP hS dX0_memoryNow_35
    · refine lv_aload_n hx hb dX0_memoryNow_19 rfl (lv_at hl 0 rfl) ?_
      refine xg_32 (v := J 32 0) hx hb hts hi0 hown hK hP k71 rfl dX0_memoryNow_20 ?_
      refine lv_goto (tgt := 35) hx hb dX0_memoryNow_23 (by decide) ?_
      exact g_retl hx hb hr hlocks (N, J) (⟨by (repeat' split) <;> first | rfl | (exfalso; omega), rfl⟩) hP hS dX0_memoryNow_35
def xTI (N : Nat → Nat → Nat) (k w : Nat) : Int32 := if 2 ≤ w ∧ N 22 0 < N 37 (k % 64 * 6 + w) then -1 else nI (N 37 (k % 64 * 6 + w))
def xTU (N : Nat → Nat → Nat) (r w : Nat) : Int32 := if N 36 (r * 6 + 5) ≤ N 22 0 then -1 else if w = 0 then nI (N 36 (r * 6 + 0)) else if w = 1 then nI (N 36 (r * 6 + 1)) else if N 36 (r * 6 + 4) ≤ N 22 0 then nI 3 else if N 36 (r * 6 + 3) ≤ N 22 0 then nI 2 else nI 1
set_option maxHeartbeats 4000000 in
set_option maxRecDepth 100000 in
theorem tB_tellIssued (l : Launch) (dC : Nat → ClassId) (dI : Nat → Nat → Nat) (a : Nat → Nat) (cI cL cZ : ClassId) (N : Nat → Nat → Nat) (J : Nat → Nat → Int64) (k w : Nat) (hk : k < 2147483648) (hw2 : w < 6) (hc : N 22 0 < 2147483648) (hr2 : N 37 (k % 64 * 6 + w) < 2147483648) : MetI l yX0_tellIssued wsX0_tellIssued ({ frames := 1, cells := 0, slots := 0, locals := 20 } : Room) dC dI (gT cI cL cZ) (xF a cI cL cZ) (xL a) (N, J) [.ref (a 3), .int (nI (k)), .int (nI (w))] (fun r u => r = xTI N k w ∧ u = (N, J)) := by
  intro sz
  refine g_entry (bytes := cX0_tellIssued) (maxL := 4) (ret := (some .int)) (Qc := fun sz => va_Qi (fun r u => r = xTI N k w ∧ u = (N, J)) (gB dC dI (xF a cI cL cZ)) (aA (xL a) sz)) (by decide) rfl (Nat.le_of_ble_eq_true rfl) rfl ?_
  intro p e s m below meth c ls hx hb hr hml hts hown hlocks hK hP hD hS hZ hl
  have hP : va_P (dC, dI) vwCl (xW a cI cL cZ N J) s.heap := hP
  have hD : va_D (aA (xL a) s.heap.size) (xW a cI cL cZ N J) := hD
  have hown : s.vm.findClass RX0 = some m.cls := hown
  have hl : lv_has ls 4 [(0, .ref (a 3)), (1, .int (nI (k))), (2, .int (nI (w)))] := hl
  have hi0 : ∀ w ∈ wsX00, w ∈ wsX0_tellIssued := by decide +kernel
  have k34 := hts (.fieldLink RX0 34 "ScoreMachine$Board" "issuedRows" "[I") (by decide +kernel)
  have k45 := hts (.fieldLink RX0 45 "ScoreMachine$Board" "cycle" "I") (by decide +kernel)
  refine lv_aload_n hx hb dX0_tellIssued_0 rfl (lv_at hl 0 rfl) ?_
  refine xg_37 hx hb hts hi0 hown hK hP k34 dX0_tellIssued_1 ?_
  refine lv_iload_n hx hb dX0_tellIssued_4 rfl (lv_at hl 1 rfl) ?_
  refine s_calli (As := [.int (nI (k))]) (rest := [.ref (a 21)]) ⟨hx, hb, hml, hown, hts⟩ (tB_issuedStart l k (by omega)) (va_cwS 1 hts gX0_tellIssued_X0_issuedStart rfl rfl rfl (by decide +kernel) ⟨Nat.le_of_ble_eq_true rfl, Nat.le_of_ble_eq_true rfl⟩) rfl hl.1 rfl (Nat.le_of_ble_eq_true rfl) dX0_tellIssued_5 (fun r_5 hw => ?_)
  subst hw
  refine lv_iload_n hx hb dX0_tellIssued_8 rfl (lv_at hl 2 rfl) ?_
  refine n_add hx hb dX0_tellIssued_9 ?_
  refine xl_37 (v := N 37 ((k % 64 * 6) + w)) hx hb hK hP (by omega) rfl dX0_tellIssued_10 ?_
  refine lv_istore_n (lv' := [(3, .int (nI (N 37 ((k % 64 * 6) + w)))), (0, .ref (a 3)), (1, .int (nI (k))), (2, .int (nI (w)))]) hx hb dX0_tellIssued_11 rfl hl (by decide) rfl (fun ls hl => ?_)
  refine lv_iload_n hx hb dX0_tellIssued_12 rfl (lv_at hl 3 rfl) ?_
  refine lv_iconst (v := nI 2) hx hb dX0_tellIssued_13 (by decide) ?_
  refine n_icmp_lt (tgt := 29) hx hb (by omega) (by omega) dX0_tellIssued_14 (by decide) (fun c_14 => ?_) (fun c_14 => ?_)
  · refine lv_iload_n hx hb dX0_tellIssued_29 rfl (lv_at hl 0 rfl) ?_
    exact g_reti hx hb hr hlocks (N, J) (⟨by unfold xTI; (repeat' split) <;> first | rfl | (exfalso; omega), rfl⟩) hP hS dX0_tellIssued_30
  · refine lv_iload_n hx hb dX0_tellIssued_17 rfl (lv_at hl 0 rfl) ?_
    refine lv_aload_n hx hb dX0_tellIssued_18 rfl (lv_at hl 1 rfl) ?_
    refine xg_22 (v := N 22 0) hx hb hts hi0 hown hK hP k45 rfl dX0_tellIssued_19 ?_
    refine n_icmp_le (tgt := 29) hx hb (by omega) (by omega) dX0_tellIssued_22 (by decide) (fun c_22 => ?_) (fun c_22 => ?_)
    · refine lv_iload_n hx hb dX0_tellIssued_29 rfl (lv_at hl 0 rfl) ?_
      exact g_reti hx hb hr hlocks (N, J) (⟨by unfold xTI; (repeat' split) <;> first | rfl | (exfalso; omega), rfl⟩) hP hS dX0_tellIssued_30
    · refine lv_iconst (v := -1) hx hb dX0_tellIssued_25 (by decide) ?_
      refine lv_goto (tgt := 30) hx hb dX0_tellIssued_26 (by decide) ?_
      exact g_reti hx hb hr hlocks (N, J) (⟨by unfold xTI; (repeat' split) <;> first | rfl | (exfalso; omega), rfl⟩) hP hS dX0_tellIssued_30
set_option maxHeartbeats 4000000 in
set_option maxRecDepth 100000 in
theorem tB_tellUnit (l : Launch) (dC : Nat → ClassId) (dI : Nat → Nat → Nat) (a : Nat → Nat) (cI cL cZ : ClassId) (N : Nat → Nat → Nat) (J : Nat → Nat → Int64) (k w : Nat) (hk : k < 18) (hw2 : w ≤ 2) (hc : N 22 0 < 2147483648) (h5 : N 36 (k * 6 + 5) < 2147483648) (h4 : N 36 (k * 6 + 4) < 2147483648) (h3 : N 36 (k * 6 + 3) < 2147483648) : MetI l yX0_tellUnit wsX0_tellUnit ({ frames := 0, cells := 0, slots := 0, locals := 0 } : Room) dC dI (gT cI cL cZ) (xF a cI cL cZ) (xL a) (N, J) [.ref (a 3), .int (nI (k)), .int (nI (w))] (fun r u => r = xTU N k w ∧ u = (N, J)) := by
  intro sz
  refine g_entry (bytes := cX0_tellUnit) (maxL := 4) (ret := (some .int)) (Qc := fun sz => va_Qi (fun r u => r = xTU N k w ∧ u = (N, J)) (gB dC dI (xF a cI cL cZ)) (aA (xL a) sz)) (by decide) rfl (Nat.le_of_ble_eq_true rfl) rfl ?_
  intro p e s m below meth c ls hx hb hr hml hts hown hlocks hK hP hD hS hZ hl
  have hP : va_P (dC, dI) vwCl (xW a cI cL cZ N J) s.heap := hP
  have hD : va_D (aA (xL a) s.heap.size) (xW a cI cL cZ N J) := hD
  have hown : s.vm.findClass RX0 = some m.cls := hown
  have hl : lv_has ls 4 [(0, .ref (a 3)), (1, .int (nI (k))), (2, .int (nI (w)))] := hl
  have hi0 : ∀ w ∈ wsX00, w ∈ wsX0_tellUnit := by decide +kernel
  have k31 := hts (.fieldLink RX0 31 "ScoreMachine$Board" "unitRows" "[I") (by decide +kernel)
  have k45 := hts (.fieldLink RX0 45 "ScoreMachine$Board" "cycle" "I") (by decide +kernel)
  refine lv_iload_n hx hb dX0_tellUnit_0 rfl (lv_at hl 1 rfl) ?_
  refine lv_bipush (v := nI 6) hx hb dX0_tellUnit_1 (by decide) ?_
  refine n_mul hx hb dX0_tellUnit_3 ?_
  refine lv_istore_n (lv' := [(3, .int (nI (k * 6))), (0, .ref (a 3)), (1, .int (nI (k))), (2, .int (nI (w)))]) hx hb dX0_tellUnit_4 rfl hl (by decide) rfl (fun ls hl => ?_)
  refine lv_aload_n hx hb dX0_tellUnit_5 rfl (lv_at hl 1 rfl) ?_
  refine xg_36 hx hb hts hi0 hown hK hP k31 dX0_tellUnit_6 ?_
  refine lv_iload_n hx hb dX0_tellUnit_9 rfl (lv_at hl 0 rfl) ?_
  refine lv_iconst (v := nI 5) hx hb dX0_tellUnit_10 (by decide) ?_
  refine n_add hx hb dX0_tellUnit_11 ?_
  refine xl_36 (v := N 36 ((k * 6) + 5)) hx hb hK hP (by omega) rfl dX0_tellUnit_12 ?_
  refine lv_aload_n hx hb dX0_tellUnit_13 rfl (lv_at hl 1 rfl) ?_
  refine xg_22 (v := N 22 0) hx hb hts hi0 hown hK hP k45 rfl dX0_tellUnit_14 ?_
  refine n_icmp_gt (tgt := 22) hx hb (by omega) (by omega) dX0_tellUnit_17 (by decide) (fun c_17 => ?_) (fun c_17 => ?_)
  · refine lv_iload_n hx hb dX0_tellUnit_22 rfl (lv_at hl 3 rfl) ?_
    rcases (by omega : w = 0 ∨ w = 1 ∨ w = 2) with h9 | h9 | h9
    · refine n_w (b := 0) (h9) ?_
      refine lv_tableIn (off := 25) (tgt := 48) hx hb dX0_tellUnit_23 (by decide) (by decide) (by decide) (by decide) ?_
      refine lv_aload_n hx hb dX0_tellUnit_48 rfl (lv_at hl 1 rfl) ?_
      refine xg_36 hx hb hts hi0 hown hK hP k31 dX0_tellUnit_49 ?_
      refine lv_iload_n hx hb dX0_tellUnit_52 rfl (lv_at hl 0 rfl) ?_
      refine lv_iconst (v := nI 0) hx hb dX0_tellUnit_53 (by decide) ?_
      refine n_add hx hb dX0_tellUnit_54 ?_
      refine xl_36 (v := N 36 ((k * 6) + 0)) hx hb hK hP (by omega) rfl dX0_tellUnit_55 ?_
      exact g_reti hx hb hr hlocks (N, J) (⟨by unfold xTU; (repeat' split) <;> first | rfl | (exfalso; omega), rfl⟩) hP hS dX0_tellUnit_56
    · refine n_w (b := 1) (h9) ?_
      refine lv_tableIn (off := 34) (tgt := 57) hx hb dX0_tellUnit_23 (by decide) (by decide) (by decide) (by decide) ?_
      refine lv_aload_n hx hb dX0_tellUnit_57 rfl (lv_at hl 1 rfl) ?_
      refine xg_36 hx hb hts hi0 hown hK hP k31 dX0_tellUnit_58 ?_
      refine lv_iload_n hx hb dX0_tellUnit_61 rfl (lv_at hl 0 rfl) ?_
      refine lv_iconst (v := nI 1) hx hb dX0_tellUnit_62 (by decide) ?_
      refine n_add hx hb dX0_tellUnit_63 ?_
      refine xl_36 (v := N 36 ((k * 6) + 1)) hx hb hK hP (by omega) rfl dX0_tellUnit_64 ?_
      exact g_reti hx hb hr hlocks (N, J) (⟨by unfold xTU; (repeat' split) <;> first | rfl | (exfalso; omega), rfl⟩) hP hS dX0_tellUnit_65
    · refine n_w (b := 2) (h9) ?_
      refine lv_tableIn (off := 43) (tgt := 66) hx hb dX0_tellUnit_23 (by decide) (by decide) (by decide) (by decide) ?_
      refine lv_aload_n hx hb dX0_tellUnit_66 rfl (lv_at hl 1 rfl) ?_
      refine xg_36 hx hb hts hi0 hown hK hP k31 dX0_tellUnit_67 ?_
      refine lv_iload_n hx hb dX0_tellUnit_70 rfl (lv_at hl 0 rfl) ?_
      refine lv_iconst (v := nI 4) hx hb dX0_tellUnit_71 (by decide) ?_
      refine n_add hx hb dX0_tellUnit_72 ?_
      refine xl_36 (v := N 36 ((k * 6) + 4)) hx hb hK hP (by omega) rfl dX0_tellUnit_73 ?_
      refine lv_aload_n hx hb dX0_tellUnit_74 rfl (lv_at hl 1 rfl) ?_
      refine xg_22 (v := N 22 0) hx hb hts hi0 hown hK hP k45 rfl dX0_tellUnit_75 ?_
      refine n_icmp_gt (tgt := 85) hx hb (by omega) (by omega) dX0_tellUnit_78 (by decide) (fun c_78 => ?_) (fun c_78 => ?_)
      · refine lv_aload_n hx hb dX0_tellUnit_85 rfl (lv_at hl 1 rfl) ?_
        refine xg_36 hx hb hts hi0 hown hK hP k31 dX0_tellUnit_86 ?_
        refine lv_iload_n hx hb dX0_tellUnit_89 rfl (lv_at hl 0 rfl) ?_
        refine lv_iconst (v := nI 3) hx hb dX0_tellUnit_90 (by decide) ?_
        refine n_add hx hb dX0_tellUnit_91 ?_
        refine xl_36 (v := N 36 ((k * 6) + 3)) hx hb hK hP (by omega) rfl dX0_tellUnit_92 ?_
        refine lv_aload_n hx hb dX0_tellUnit_93 rfl (lv_at hl 1 rfl) ?_
        refine xg_22 (v := N 22 0) hx hb hts hi0 hown hK hP k45 rfl dX0_tellUnit_94 ?_
        refine n_icmp_gt (tgt := 104) hx hb (by omega) (by omega) dX0_tellUnit_97 (by decide) (fun c_97 => ?_) (fun c_97 => ?_)
        · refine lv_iconst (v := nI 1) hx hb dX0_tellUnit_104 (by decide) ?_
          exact g_reti hx hb hr hlocks (N, J) (⟨by unfold xTU; (repeat' split) <;> first | rfl | (exfalso; omega), rfl⟩) hP hS dX0_tellUnit_105
        · refine lv_iconst (v := nI 2) hx hb dX0_tellUnit_100 (by decide) ?_
          refine lv_goto (tgt := 105) hx hb dX0_tellUnit_101 (by decide) ?_
          exact g_reti hx hb hr hlocks (N, J) (⟨by unfold xTU; (repeat' split) <;> first | rfl | (exfalso; omega), rfl⟩) hP hS dX0_tellUnit_105
      · refine lv_iconst (v := nI 3) hx hb dX0_tellUnit_81 (by decide) ?_
        refine lv_goto (tgt := 105) hx hb dX0_tellUnit_82 (by decide) ?_
        exact g_reti hx hb hr hlocks (N, J) (⟨by unfold xTU; (repeat' split) <;> first | rfl | (exfalso; omega), rfl⟩) hP hS dX0_tellUnit_105
  · refine lv_iconst (v := -1) hx hb dX0_tellUnit_20 (by decide) ?_
    exact g_reti hx hb hr hlocks (N, J) (⟨by unfold xTU; (repeat' split) <;> first | rfl | (exfalso; omega), rfl⟩) hP hS dX0_tellUnit_21
set_option maxHeartbeats 4000000 in
set_option maxRecDepth 100000 in
theorem tB_tellUnit_bad (l : Launch) (dC : Nat → ClassId) (dI : Nat → Nat → Nat) (a : Nat → Nat) (cI cL cZ : ClassId) (N : Nat → Nat → Nat) (J : Nat → Nat → Int64) (k : Nat) (v : Int32) (hk : k < 18) (hv : v.toInt < 0 ∨ 2 < v.toInt) (hc : N 22 0 < 2147483648) (h5 : N 36 (k * 6 + 5) < 2147483648) : MetI l yX0_tellUnit wsX0_tellUnit ({ frames := 0, cells := 0, slots := 0, locals := 0 } : Room) dC dI (gT cI cL cZ) (xF a cI cL cZ) (xL a) (N, J) [.ref (a 3), .int (nI (k)), .int (v)] (fun r u => r = -1 ∧ u = (N, J)) := by
  intro sz
  refine g_entry (bytes := cX0_tellUnit) (maxL := 4) (ret := (some .int)) (Qc := fun sz => va_Qi (fun r u => r = -1 ∧ u = (N, J)) (gB dC dI (xF a cI cL cZ)) (aA (xL a) sz)) (by decide) rfl (Nat.le_of_ble_eq_true rfl) rfl ?_
  intro p e s m below meth c ls hx hb hr hml hts hown hlocks hK hP hD hS hZ hl
  have hP : va_P (dC, dI) vwCl (xW a cI cL cZ N J) s.heap := hP
  have hD : va_D (aA (xL a) s.heap.size) (xW a cI cL cZ N J) := hD
  have hown : s.vm.findClass RX0 = some m.cls := hown
  have hl : lv_has ls 4 [(0, .ref (a 3)), (1, .int (nI (k))), (2, .int (v))] := hl
  have hi0 : ∀ w ∈ wsX00, w ∈ wsX0_tellUnit := by decide +kernel
  have k31 := hts (.fieldLink RX0 31 "ScoreMachine$Board" "unitRows" "[I") (by decide +kernel)
  have k45 := hts (.fieldLink RX0 45 "ScoreMachine$Board" "cycle" "I") (by decide +kernel)
  refine lv_iload_n hx hb dX0_tellUnit_0 rfl (lv_at hl 1 rfl) ?_
  refine lv_bipush (v := nI 6) hx hb dX0_tellUnit_1 (by decide) ?_
  refine n_mul hx hb dX0_tellUnit_3 ?_
  refine lv_istore_n (lv' := [(3, .int (nI (k * 6))), (0, .ref (a 3)), (1, .int (nI (k))), (2, .int (v))]) hx hb dX0_tellUnit_4 rfl hl (by decide) rfl (fun ls hl => ?_)
  refine lv_aload_n hx hb dX0_tellUnit_5 rfl (lv_at hl 1 rfl) ?_
  refine xg_36 hx hb hts hi0 hown hK hP k31 dX0_tellUnit_6 ?_
  refine lv_iload_n hx hb dX0_tellUnit_9 rfl (lv_at hl 0 rfl) ?_
  refine lv_iconst (v := nI 5) hx hb dX0_tellUnit_10 (by decide) ?_
  refine n_add hx hb dX0_tellUnit_11 ?_
  refine xl_36 (v := N 36 ((k * 6) + 5)) hx hb hK hP (by omega) rfl dX0_tellUnit_12 ?_
  refine lv_aload_n hx hb dX0_tellUnit_13 rfl (lv_at hl 1 rfl) ?_
  refine xg_22 (v := N 22 0) hx hb hts hi0 hown hK hP k45 rfl dX0_tellUnit_14 ?_
  refine n_icmp_gt (tgt := 22) hx hb (by omega) (by omega) dX0_tellUnit_17 (by decide) (fun c_17 => ?_) (fun c_17 => ?_)
  · refine lv_iload_n hx hb dX0_tellUnit_22 rfl (lv_at hl 3 rfl) ?_
    refine lv_tableOut (tgt := 106) hx hb dX0_tellUnit_23 hv (by decide) ?_
    refine lv_iconst (v := -1) hx hb dX0_tellUnit_106 (by decide) ?_
    exact g_reti hx hb hr hlocks (N, J) (⟨rfl, rfl⟩) hP hS dX0_tellUnit_107
  · refine lv_iconst (v := -1) hx hb dX0_tellUnit_20 (by decide) ?_
    exact g_reti hx hb hr hlocks (N, J) (⟨rfl, rfl⟩) hP hS dX0_tellUnit_21
