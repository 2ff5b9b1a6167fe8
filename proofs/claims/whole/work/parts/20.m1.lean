set_option maxHeartbeats 4000000 in
set_option maxRecDepth 100000 in
theorem tM_writes (l : Launch) (k : Nat) (hk : k < 2147483648) : MetS l yX4_writes wsX4_writes ({ frames := 0, cells := 0, slots := 0, locals := 0 } : Room) [.int (nI (k))] (fun r => r = nI (if k < 15 then 1 else 0)) := by
  refine s_entry (bytes := cX4_writes) (maxL := 1) (ret := (some .boolean)) (by decide) rfl (Nat.le_of_ble_eq_true rfl) ?_
  intro p e s m below meth c ls hx hb hr hml hts hown hlocks hl
  have hown : s.vm.findClass RX4 = some m.cls := hown
  have hl : lv_has ls 1 [(0, .int (nI (k)))] := hl
  refine lv_iload_n hx hb dX4_writes_0 rfl (lv_at hl 0 rfl) ?_
  refine lv_bipush (v := nI 15) hx hb dX4_writes_1 (by decide) ?_
  refine n_icmp_ge (tgt := 10) hx hb (by omega) (by omega) dX4_writes_3 (by decide) (fun c_3 => ?_) (fun c_3 => ?_)
  · refine lv_iconst (v := nI 0) hx hb dX4_writes_10 (by decide) ?_
    exact s_retz hx hb hr hlocks (by decide) (by (repeat' split) <;> first | rfl | (exfalso; omega)) dX4_writes_11
  · refine lv_iconst (v := nI 1) hx hb dX4_writes_6 (by decide) ?_
    refine lv_goto (tgt := 11) hx hb dX4_writes_7 (by decide) ?_
    exact s_retz hx hb hr hlocks (by decide) (by (repeat' split) <;> first | rfl | (exfalso; omega)) dX4_writes_11
set_option maxHeartbeats 4000000 in
set_option maxRecDepth 100000 in
theorem tM_readsA (l : Launch) (k : Nat) (hk : k < 2147483648) : MetS l yX4_readsA wsX4_readsA ({ frames := 0, cells := 0, slots := 0, locals := 0 } : Room) [.int (nI (k))] (fun r => r = nI (if k ≠ 6 ∧ k ≠ 18 then 1 else 0)) := by
  refine s_entry (bytes := cX4_readsA) (maxL := 1) (ret := (some .boolean)) (by decide) rfl (Nat.le_of_ble_eq_true rfl) ?_
  intro p e s m below meth c ls hx hb hr hml hts hown hlocks hl
  have hown : s.vm.findClass RX4 = some m.cls := hown
  have hl : lv_has ls 1 [(0, .int (nI (k)))] := hl
  refine lv_iload_n hx hb dX4_readsA_0 rfl (lv_at hl 0 rfl) ?_
  refine lv_bipush (v := nI 6) hx hb dX4_readsA_1 (by decide) ?_
  refine n_icmp_eq (tgt := 16) hx hb (by omega) (by omega) dX4_readsA_3 (by decide) (fun c_3 => ?_) (fun c_3 => ?_)
  · refine lv_iconst (v := nI 0) hx hb dX4_readsA_16 (by decide) ?_
    exact s_retz hx hb hr hlocks (by decide) (by (repeat' split) <;> first | rfl | (exfalso; omega)) dX4_readsA_17
  · refine lv_iload_n hx hb dX4_readsA_6 rfl (lv_at hl 0 rfl) ?_
    refine lv_bipush (v := nI 18) hx hb dX4_readsA_7 (by decide) ?_
    refine n_icmp_eq (tgt := 16) hx hb (by omega) (by omega) dX4_readsA_9 (by decide) (fun c_9 => ?_) (fun c_9 => ?_)
    · refine lv_iconst (v := nI 0) hx hb dX4_readsA_16 (by decide) ?_
      exact s_retz hx hb hr hlocks (by decide) (by (repeat' split) <;> first | rfl | (exfalso; omega)) dX4_readsA_17
    · refine lv_iconst (v := nI 1) hx hb dX4_readsA_12 (by decide) ?_
      refine lv_goto (tgt := 17) hx hb dX4_readsA_13 (by decide) ?_
      exact s_retz hx hb hr hlocks (by decide) (by (repeat' split) <;> first | rfl | (exfalso; omega)) dX4_readsA_17
set_option maxHeartbeats 4000000 in
set_option maxRecDepth 100000 in
theorem tM_readsB (l : Launch) (k : Nat) (hk : k < 2147483648) : MetS l yX4_readsB wsX4_readsB ({ frames := 0, cells := 0, slots := 0, locals := 0 } : Room) [.int (nI (k))] (fun r => r = nI (if k < 6 ∨ (7 < k ∧ k < 14) then 1 else 0)) := by
  refine s_entry (bytes := cX4_readsB) (maxL := 1) (ret := (some .boolean)) (by decide) rfl (Nat.le_of_ble_eq_true rfl) ?_
  intro p e s m below meth c ls hx hb hr hml hts hown hlocks hl
  have hown : s.vm.findClass RX4 = some m.cls := hown
  have hl : lv_has ls 1 [(0, .int (nI (k)))] := hl
  refine lv_iload_n hx hb dX4_readsB_0 rfl (lv_at hl 0 rfl) ?_
  refine lv_bipush (v := nI 6) hx hb dX4_readsB_1 (by decide) ?_
  refine n_icmp_lt (tgt := 18) hx hb (by omega) (by omega) dX4_readsB_3 (by decide) (fun c_3 => ?_) (fun c_3 => ?_)
  · refine lv_iconst (v := nI 1) hx hb dX4_readsB_18 (by decide) ?_
    refine lv_goto (tgt := 23) hx hb dX4_readsB_19 (by decide) ?_
    exact s_retz hx hb hr hlocks (by decide) (by (repeat' split) <;> first | rfl | (exfalso; omega)) dX4_readsB_23
  · refine lv_iload_n hx hb dX4_readsB_6 rfl (lv_at hl 0 rfl) ?_
    refine lv_bipush (v := nI 7) hx hb dX4_readsB_7 (by decide) ?_
    refine n_icmp_le (tgt := 22) hx hb (by omega) (by omega) dX4_readsB_9 (by decide) (fun c_9 => ?_) (fun c_9 => ?_)
    · refine lv_iconst (v := nI 0) hx hb dX4_readsB_22 (by decide) ?_
      exact s_retz hx hb hr hlocks (by decide) (by (repeat' split) <;> first | rfl | (exfalso; omega)) dX4_readsB_23
    · refine lv_iload_n hx hb dX4_readsB_12 rfl (lv_at hl 0 rfl) ?_
      refine lv_bipush (v := nI 14) hx hb dX4_readsB_13 (by decide) ?_
      refine n_icmp_ge (tgt := 22) hx hb (by omega) (by omega) dX4_readsB_15 (by decide) (fun c_15 => ?_) (fun c_15 => ?_)
      · refine lv_iconst (v := nI 0) hx hb dX4_readsB_22 (by decide) ?_
        exact s_retz hx hb hr hlocks (by decide) (by (repeat' split) <;> first | rfl | (exfalso; omega)) dX4_readsB_23
      · refine lv_iconst (v := nI 1) hx hb dX4_readsB_18 (by decide) ?_
        refine lv_goto (tgt := 23) hx hb dX4_readsB_19 (by decide) ?_
        exact s_retz hx hb hr hlocks (by decide) (by (repeat' split) <;> first | rfl | (exfalso; omega)) dX4_readsB_23
set_option maxHeartbeats 4000000 in
set_option maxRecDepth 100000 in
theorem tM_kindOf (l : Launch) (k : Nat) (hk : k < 2147483648) : MetS l yX4_kindOf wsX4_kindOf ({ frames := 0, cells := 0, slots := 0, locals := 0 } : Room) [.int (nI (k))] (fun r => r = nI (kdN k)) := by
  refine s_entry (bytes := cX4_kindOf) (maxL := 1) (ret := (some .int)) (by decide) rfl (Nat.le_of_ble_eq_true rfl) ?_
  intro p e s m below meth c ls hx hb hr hml hts hown hlocks hl
  have hown : s.vm.findClass RX4 = some m.cls := hown
  have hl : lv_has ls 1 [(0, .int (nI (k)))] := hl
  refine lv_iload_n hx hb dX4_kindOf_0 rfl (lv_at hl 0 rfl) ?_
  refine lv_bipush (v := nI 8) hx hb dX4_kindOf_1 (by decide) ?_
  refine n_icmp_ge (tgt := 10) hx hb (by omega) (by omega) dX4_kindOf_3 (by decide) (fun c_3 => ?_) (fun c_3 => ?_)
  · refine lv_iload_n hx hb dX4_kindOf_10 rfl (lv_at hl 0 rfl) ?_
    refine lv_bipush (v := nI 11) hx hb dX4_kindOf_11 (by decide) ?_
    refine n_icmp_ge (tgt := 20) hx hb (by omega) (by omega) dX4_kindOf_13 (by decide) (fun c_13 => ?_) (fun c_13 => ?_)
    · refine lv_iload_n hx hb dX4_kindOf_20 rfl (lv_at hl 0 rfl) ?_
      refine lv_bipush (v := nI 11) hx hb dX4_kindOf_21 (by decide) ?_
      refine n_icmp_ne (tgt := 30) hx hb (by omega) (by omega) dX4_kindOf_23 (by decide) (fun c_23 => ?_) (fun c_23 => ?_)
      · refine lv_iload_n hx hb dX4_kindOf_30 rfl (lv_at hl 0 rfl) ?_
        refine lv_bipush (v := nI 14) hx hb dX4_kindOf_31 (by decide) ?_
        refine n_icmp_ge (tgt := 40) hx hb (by omega) (by omega) dX4_kindOf_33 (by decide) (fun c_33 => ?_) (fun c_33 => ?_)
        · refine lv_iload_n hx hb dX4_kindOf_40 rfl (lv_at hl 0 rfl) ?_
          refine lv_bipush (v := nI 16) hx hb dX4_kindOf_41 (by decide) ?_
          refine n_icmp_ge (tgt := 50) hx hb (by omega) (by omega) dX4_kindOf_43 (by decide) (fun c_43 => ?_) (fun c_43 => ?_)
          · refine lv_iconst (v := nI 5) hx hb dX4_kindOf_50 (by decide) ?_
            exact s_reti hx hb hr hlocks (by unfold kdN; (repeat' split) <;> first | rfl | (exfalso; omega)) dX4_kindOf_51
          · refine lv_iconst (v := nI 4) hx hb dX4_kindOf_46 (by decide) ?_
            refine lv_goto (tgt := 51) hx hb dX4_kindOf_47 (by decide) ?_
            exact s_reti hx hb hr hlocks (by unfold kdN; (repeat' split) <;> first | rfl | (exfalso; omega)) dX4_kindOf_51
        · refine lv_iconst (v := nI 3) hx hb dX4_kindOf_36 (by decide) ?_
          refine lv_goto (tgt := 51) hx hb dX4_kindOf_37 (by decide) ?_
          exact s_reti hx hb hr hlocks (by unfold kdN; (repeat' split) <;> first | rfl | (exfalso; omega)) dX4_kindOf_51
      · refine lv_iconst (v := nI 2) hx hb dX4_kindOf_26 (by decide) ?_
        refine lv_goto (tgt := 51) hx hb dX4_kindOf_27 (by decide) ?_
        exact s_reti hx hb hr hlocks (by unfold kdN; (repeat' split) <;> first | rfl | (exfalso; omega)) dX4_kindOf_51
    · refine lv_iconst (v := nI 1) hx hb dX4_kindOf_16 (by decide) ?_
      refine lv_goto (tgt := 51) hx hb dX4_kindOf_17 (by decide) ?_
      exact s_reti hx hb hr hlocks (by unfold kdN; (repeat' split) <;> first | rfl | (exfalso; omega)) dX4_kindOf_51
  · refine lv_iconst (v := nI 0) hx hb dX4_kindOf_6 (by decide) ?_
    refine lv_goto (tgt := 51) hx hb dX4_kindOf_7 (by decide) ?_
    exact s_reti hx hb hr hlocks (by unfold kdN; (repeat' split) <;> first | rfl | (exfalso; omega)) dX4_kindOf_51
set_option maxHeartbeats 4000000 in
set_option maxRecDepth 100000 in
theorem tM_greater (l : Launch) (x y : Nat) (hk : x < 2147483648) (hk2 : y < 2147483648) : MetS l yX4_greater wsX4_greater ({ frames := 0, cells := 0, slots := 0, locals := 0 } : Room) [.int (nI (x)), .int (nI (y))] (fun r => r = nI (max x y)) := by
  refine s_entry (bytes := cX4_greater) (maxL := 2) (ret := (some .int)) (by decide) rfl (Nat.le_of_ble_eq_true rfl) ?_
  intro p e s m below meth c ls hx hb hr hml hts hown hlocks hl
  have hown : s.vm.findClass RX4 = some m.cls := hown
  have hl : lv_has ls 2 [(0, .int (nI (x))), (1, .int (nI (y)))] := hl
  refine lv_iload_n hx hb dX4_greater_0 rfl (lv_at hl 0 rfl) ?_
  refine lv_iload_n hx hb dX4_greater_1 rfl (lv_at hl 1 rfl) ?_
  refine n_icmp_le (tgt := 9) hx hb (by omega) (by omega) dX4_greater_2 (by decide) (fun c_2 => ?_) (fun c_2 => ?_)
  · refine lv_iload_n hx hb dX4_greater_9 rfl (lv_at hl 1 rfl) ?_
    exact s_reti hx hb hr hlocks (by first | rw [Nat.max_eq_left (by omega)] | rw [Nat.max_eq_right (by omega)]) dX4_greater_10
  · refine lv_iload_n hx hb dX4_greater_5 rfl (lv_at hl 0 rfl) ?_
    refine lv_goto (tgt := 10) hx hb dX4_greater_6 (by decide) ?_
    exact s_reti hx hb hr hlocks (by first | rw [Nat.max_eq_left (by omega)] | rw [Nat.max_eq_right (by omega)]) dX4_greater_10
set_option maxHeartbeats 4000000 in
set_option maxRecDepth 100000 in
theorem tM_thrown (l : Launch) (dC : Nat → ClassId) (dI : Nat → Nat → Nat) (a : Nat → Nat) (cI cL cZ : ClassId) (N : Nat → Nat → Nat) (J : Nat → Nat → Int64)   : MetI l yX4_thrown wsX4_thrown ({ frames := 0, cells := 0, slots := 0, locals := 0 } : Room) dC dI (gT cI cL cZ) (mF a cI cL cZ) (mL a) (N, J) [.ref (a 0)] (fun r u => r = nI (N 26 0) ∧ u = (N, J)) := by
  intro sz
  refine g_entry (bytes := cX4_thrown) (maxL := 1) (ret := (some .int)) (Qc := fun sz => va_Qi (fun r u => r = nI (N 26 0) ∧ u = (N, J)) (gB dC dI (mF a cI cL cZ)) (aA (mL a) sz)) (by decide) rfl (Nat.le_of_ble_eq_true rfl) rfl ?_
  intro p e s m below meth c ls hx hb hr hml hts hown hlocks hK hP hD hS hZ hl
  have hP : va_P (dC, dI) vwCl (mW a cI cL cZ N J) s.heap := hP
  have hD : va_D (aA (mL a) s.heap.size) (mW a cI cL cZ N J) := hD
  have hown : s.vm.findClass RX4 = some m.cls := hown
  have hl : lv_has ls 1 [(0, .ref (a 0))] := hl
  have hi4 : ∀ w ∈ wsX40, w ∈ wsX4_thrown := by decide +kernel
  have k66 := hts (.fieldLink RX4 66 "ScoreMachineModel" "thrown" "I") (by decide +kernel)
  refine lv_aload_n hx hb dX4_thrown_0 rfl (lv_at hl 0 rfl) ?_
  refine mg_26 (v := N 26 0) hx hb hts hi4 hown hK hP k66 rfl dX4_thrown_1 ?_
  exact g_reti hx hb hr hlocks (N, J) (⟨rfl, rfl⟩) hP hS dX4_thrown_4
set_option maxHeartbeats 4000000 in
set_option maxRecDepth 100000 in
theorem tM_code (l : Launch) (dC : Nat → ClassId) (dI : Nat → Nat → Nat) (a : Nat → Nat) (cI cL cZ : ClassId) (N : Nat → Nat → Nat) (J : Nat → Nat → Int64)  (hG : mG0 N) : MetI l yX4_code wsX4_code ({ frames := 0, cells := 0, slots := 0, locals := 0 } : Room) dC dI (gT cI cL cZ) (mF a cI cL cZ) (mL a) (N, J) [.ref (a 0)] (fun r u => r = nI (mCode N) ∧ u = (N, J)) := by
  intro sz
  refine g_entry (bytes := cX4_code) (maxL := 1) (ret := (some .int)) (Qc := fun sz => va_Qi (fun r u => r = nI (mCode N) ∧ u = (N, J)) (gB dC dI (mF a cI cL cZ)) (aA (mL a) sz)) (by decide) rfl (Nat.le_of_ble_eq_true rfl) rfl ?_
  intro p e s m below meth c ls hx hb hr hml hts hown hlocks hK hP hD hS hZ hl
  have hP : va_P (dC, dI) vwCl (mW a cI cL cZ N J) s.heap := hP
  have hD : va_D (aA (mL a) s.heap.size) (mW a cI cL cZ N J) := hD
  have hown : s.vm.findClass RX4 = some m.cls := hown
  have hl : lv_has ls 1 [(0, .ref (a 0))] := hl
  have hi4 : ∀ w ∈ wsX40, w ∈ wsX4_code := by decide +kernel
  have k86 := hts (.fieldLink RX4 86 "ScoreMachineModel" "place" "I") (by decide +kernel)
  have k9 := hts (.fieldLink RX4 9 "ScoreMachineModel" "program" "[I") (by decide +kernel)
  obtain ⟨hpl, hpr⟩ := id hG
  have hp0 := hpr (N 8 0) hpl
  refine lv_aload_n hx hb dX4_code_0 rfl (lv_at hl 0 rfl) ?_
  refine mg_0 hx hb hts hi4 hown hK hP k9 dX4_code_1 ?_
  refine lv_iconst (v := nI 4) hx hb dX4_code_4 (by decide) ?_
  refine lv_aload_n hx hb dX4_code_5 rfl (lv_at hl 0 rfl) ?_
  refine mg_8 (v := N 8 0) hx hb hts hi4 hown hK hP k86 rfl dX4_code_6 ?_
  refine n_mul hx hb dX4_code_9 ?_
  refine ml_0 (v := N 0 (4 * (N 8 0))) hx hb hK hP (by omega) rfl dX4_code_10 ?_
  exact g_reti hx hb hr hlocks (N, J) (⟨rfl, rfl⟩) hP hS dX4_code_11
set_option maxHeartbeats 4000000 in
set_option maxRecDepth 100000 in
theorem tM_registerB (l : Launch) (dC : Nat → ClassId) (dI : Nat → Nat → Nat) (a : Nat → Nat) (cI cL cZ : ClassId) (N : Nat → Nat → Nat) (J : Nat → Nat → Int64)  (hG : mG0 N) : MetI l yX4_registerB wsX4_registerB ({ frames := 0, cells := 0, slots := 0, locals := 0 } : Room) dC dI (gT cI cL cZ) (mF a cI cL cZ) (mL a) (N, J) [.ref (a 0)] (fun r u => r = nI (mBB N % 16) ∧ u = (N, J)) := by
  intro sz
  refine g_entry (bytes := cX4_registerB) (maxL := 2) (ret := (some .int)) (Qc := fun sz => va_Qi (fun r u => r = nI (mBB N % 16) ∧ u = (N, J)) (gB dC dI (mF a cI cL cZ)) (aA (mL a) sz)) (by decide) rfl (Nat.le_of_ble_eq_true rfl) rfl ?_
  intro p e s m below meth c ls hx hb hr hml hts hown hlocks hK hP hD hS hZ hl
  have hP : va_P (dC, dI) vwCl (mW a cI cL cZ N J) s.heap := hP
  have hD : va_D (aA (mL a) s.heap.size) (mW a cI cL cZ N J) := hD
  have hown : s.vm.findClass RX4 = some m.cls := hown
  have hl : lv_has ls 2 [(0, .ref (a 0))] := hl
  have hi4 : ∀ w ∈ wsX40, w ∈ wsX4_registerB := by decide +kernel
  have k86 := hts (.fieldLink RX4 86 "ScoreMachineModel" "place" "I") (by decide +kernel)
  have k9 := hts (.fieldLink RX4 9 "ScoreMachineModel" "program" "[I") (by decide +kernel)
  obtain ⟨hpl, hpr⟩ := id hG
  have hp0 := hpr (N 8 0) hpl
  refine lv_aload_n hx hb dX4_registerB_0 rfl (lv_at hl 0 rfl) ?_
  refine mg_0 hx hb hts hi4 hown hK hP k9 dX4_registerB_1 ?_
  refine lv_iconst (v := nI 4) hx hb dX4_registerB_4 (by decide) ?_
  refine lv_aload_n hx hb dX4_registerB_5 rfl (lv_at hl 0 rfl) ?_
  refine mg_8 (v := N 8 0) hx hb hts hi4 hown hK hP k86 rfl dX4_registerB_6 ?_
  refine n_mul hx hb dX4_registerB_9 ?_
  refine lv_iconst (v := nI 3) hx hb dX4_registerB_10 (by decide) ?_
  refine n_add hx hb dX4_registerB_11 ?_
  refine ml_0 (v := N 0 ((4 * (N 8 0)) + 3)) hx hb hK hP (by omega) rfl dX4_registerB_12 ?_
  refine lv_bipush (v := nI 16) hx hb dX4_registerB_13 (by decide) ?_
  refine lv_irem hx hb dX4_registerB_15 (by decide) ?_
  refine lv_istore_n (lv' := [(1, .int ((nI (N 0 ((4 * (N 8 0)) + 3))) - (nI (N 0 ((4 * (N 8 0)) + 3))) / (nI 16) * (nI 16))), (0, .ref (a 0))]) hx hb dX4_registerB_16 rfl hl (by decide) rfl (fun ls hl => ?_)
  refine lv_iload_n hx hb dX4_registerB_17 rfl (lv_at hl 0 rfl) ?_
  refine lv_if_ge (tgt := 28) hx hb dX4_registerB_18 (by decide) (fun c_18 => ?_) (fun c_18 => ?_)
  · refine lv_iload_n hx hb dX4_registerB_28 rfl (lv_at hl 0 rfl) ?_
    exact g_reti hx hb hr hlocks (N, J) (by first | exact ⟨rg_pos hp0.2.2.2 c_18, rfl⟩ | exact ⟨rg_neg hp0.2.2.2 c_18, rfl⟩) hP hS dX4_registerB_29
  · refine lv_iload_n hx hb dX4_registerB_21 rfl (lv_at hl 0 rfl) ?_
    refine lv_bipush (v := nI 16) hx hb dX4_registerB_22 (by decide) ?_
    refine lv_iadd hx hb dX4_registerB_24 ?_
    refine lv_goto (tgt := 29) hx hb dX4_registerB_25 (by decide) ?_
    exact g_reti hx hb hr hlocks (N, J) (by first | exact ⟨rg_pos hp0.2.2.2 c_18, rfl⟩ | exact ⟨rg_neg hp0.2.2.2 c_18, rfl⟩) hP hS dX4_registerB_29
set_option maxHeartbeats 4000000 in
set_option maxRecDepth 100000 in
theorem tM_begins (l : Launch) (dC : Nat → ClassId) (dI : Nat → Nat → Nat) (a : Nat → Nat) (cI cL cZ : ClassId) (N : Nat → Nat → Nat) (J : Nat → Nat → Int64)  (hG : mG N) : MetI l yX4_begins wsX4_begins ({ frames := 0, cells := 0, slots := 0, locals := 0 } : Room) dC dI (gT cI cL cZ) (mF a cI cL cZ) (mL a) (N, J) [.ref (a 0)] (fun r u => r = nI (mBeg N) ∧ u = (N, J)) := by
  intro sz
  refine g_entry (bytes := cX4_begins) (maxL := 1) (ret := (some .int)) (Qc := fun sz => va_Qi (fun r u => r = nI (mBeg N) ∧ u = (N, J)) (gB dC dI (mF a cI cL cZ)) (aA (mL a) sz)) (by decide) rfl (Nat.le_of_ble_eq_true rfl) rfl ?_
  intro p e s m below meth c ls hx hb hr hml hts hown hlocks hK hP hD hS hZ hl
  have hP : va_P (dC, dI) vwCl (mW a cI cL cZ N J) s.heap := hP
  have hD : va_D (aA (mL a) s.heap.size) (mW a cI cL cZ N J) := hD
  have hown : s.vm.findClass RX4 = some m.cls := hown
  have hl : lv_has ls 1 [(0, .ref (a 0))] := hl
  have hi4 : ∀ w ∈ wsX40, w ∈ wsX4_begins := by decide +kernel
  have k70 := hts (.fieldLink RX4 70 "ScoreMachineModel" "width" "I") (by decide +kernel)
  have k83 := hts (.fieldLink RX4 83 "ScoreMachineModel" "many" "I") (by decide +kernel)
  have k89 := hts (.fieldLink RX4 89 "ScoreMachineModel" "issuedLast" "I") (by decide +kernel)
  have k92 := hts (.fieldLink RX4 92 "ScoreMachineModel" "issuedThen" "I") (by decide +kernel)
  obtain ⟨⟨hpl, hpr⟩, hun, hla, hwd, hsc, hrg, huw⟩ := id hG
  have hp0 := hpr (N 8 0) hpl
  refine lv_aload_n hx hb dX4_begins_0 rfl (lv_at hl 0 rfl) ?_
  refine mg_13 (v := N 13 0) hx hb hts hi4 hown hK hP k83 rfl dX4_begins_1 ?_
  refine n_if_ne (tgt := 9) hx hb (by omega) dX4_begins_4 (by decide) (fun c_4 => ?_) (fun c_4 => ?_)
  · refine lv_aload_n hx hb dX4_begins_9 rfl (lv_at hl 0 rfl) ?_
    refine mg_15 (v := N 15 0) hx hb hts hi4 hown hK hP k92 rfl dX4_begins_10 ?_
    refine lv_aload_n hx hb dX4_begins_13 rfl (lv_at hl 0 rfl) ?_
    refine mg_3 (v := N 3 0) hx hb hts hi4 hown hK hP k70 rfl dX4_begins_14 ?_
    refine n_icmp_ge (tgt := 27) hx hb (by omega) (by omega) dX4_begins_17 (by decide) (fun c_17 => ?_) (fun c_17 => ?_)
    · refine lv_aload_n hx hb dX4_begins_27 rfl (lv_at hl 0 rfl) ?_
      refine mg_14 (v := N 14 0) hx hb hts hi4 hown hK hP k89 rfl dX4_begins_28 ?_
      refine lv_iconst (v := nI 1) hx hb dX4_begins_31 (by decide) ?_
      refine n_add hx hb dX4_begins_32 ?_
      exact g_reti hx hb hr hlocks (N, J) (⟨by unfold mBeg; (repeat' split) <;> first | rfl | (exfalso; omega), rfl⟩) hP hS dX4_begins_33
    · refine lv_aload_n hx hb dX4_begins_20 rfl (lv_at hl 0 rfl) ?_
      refine mg_14 (v := N 14 0) hx hb hts hi4 hown hK hP k89 rfl dX4_begins_21 ?_
      refine lv_goto (tgt := 33) hx hb dX4_begins_24 (by decide) ?_
      exact g_reti hx hb hr hlocks (N, J) (⟨by unfold mBeg; (repeat' split) <;> first | rfl | (exfalso; omega), rfl⟩) hP hS dX4_begins_33
  · refine lv_iconst (v := nI 1) hx hb dX4_begins_7 (by decide) ?_
    exact g_reti hx hb hr hlocks (N, J) (⟨by unfold mBeg; (repeat' split) <;> first | rfl | (exfalso; omega), rfl⟩) hP hS dX4_begins_8
set_option maxHeartbeats 4000000 in
set_option maxRecDepth 100000 in
theorem tM_sameWritten (l : Launch) (dC : Nat → ClassId) (dI : Nat → Nat → Nat) (a : Nat → Nat) (cI cL cZ : ClassId) (N : Nat → Nat → Nat) (J : Nat → Nat → Int64)  (hG : mG N) : MetI l yX4_sameWritten wsX4_sameWritten ({ frames := 1, cells := 0, slots := 0, locals := 20 } : Room) dC dI (gT cI cL cZ) (mF a cI cL cZ) (mL a) (N, J) [.ref (a 0)] (fun r u => r = nI (mSW N) ∧ u = (N, J)) := by
  intro sz
  refine g_entry (bytes := cX4_sameWritten) (maxL := 1) (ret := (some .int)) (Qc := fun sz => va_Qi (fun r u => r = nI (mSW N) ∧ u = (N, J)) (gB dC dI (mF a cI cL cZ)) (aA (mL a) sz)) (by decide) rfl (Nat.le_of_ble_eq_true rfl) rfl ?_
  intro p e s m below meth c ls hx hb hr hml hts hown hlocks hK hP hD hS hZ hl
  have hP : va_P (dC, dI) vwCl (mW a cI cL cZ N J) s.heap := hP
  have hD : va_D (aA (mL a) s.heap.size) (mW a cI cL cZ N J) := hD
  have hown : s.vm.findClass RX4 = some m.cls := hown
  have hl : lv_has ls 1 [(0, .ref (a 0))] := hl
  have hi4 : ∀ w ∈ wsX40, w ∈ wsX4_sameWritten := by decide +kernel
  have k41 := hts (.fieldLink RX4 41 "ScoreMachineModel" "writtenOf" "[I") (by decide +kernel)
  have k86 := hts (.fieldLink RX4 86 "ScoreMachineModel" "place" "I") (by decide +kernel)
  have k9 := hts (.fieldLink RX4 9 "ScoreMachineModel" "program" "[I") (by decide +kernel)
  obtain ⟨⟨hpl, hpr⟩, hun, hla, hwd, hsc, hrg, huw⟩ := id hG
  have hp0 := hpr (N 8 0) hpl
  have hcd : mCode N ≤ 18 := hp0.1
  refine lv_aload_n hx hb dX4_sameWritten_0 rfl (lv_at hl 0 rfl) ?_
  refine g_calli (u := (N, J)) (g_runV (As := []) (rest := []) ⟨hx, hb, hml, hown, hts⟩ (tM_code l dC dI a cI cL cZ N J hG.1 s.heap.size) (cwV 0 hts gX4_sameWritten_X4_code rfl rfl rfl (by decide +kernel) ⟨Nat.le_of_ble_eq_true rfl, Nat.le_of_ble_eq_true rfl⟩) (va_recv hK hP (ci := 4) (q0 := 0) rfl rfl) hK hP hD hS hZ rfl hl.1 rfl (Nat.le_of_ble_eq_true rfl) dX4_sameWritten_1) (mW_L a cI cL cZ) hD hS (fun r_1 u H locs hw hP hD hS => ?_)
  obtain ⟨rfl, rfl⟩ := hw
  have hP : va_P (dC, dI) vwCl (mW a cI cL cZ N J) H := hP
  have hD : va_D (aA (mL a) s.heap.size) (mW a cI cL cZ N J) := hD
  refine s_calli (As := [.int (nI (mCode N))]) (rest := []) ⟨hx, hb, hml, hown, hts⟩ (tM_writes l (mCode N) (by omega)) (va_cwS 1 hts gX4_sameWritten_X4_writes rfl rfl rfl (by decide +kernel) ⟨Nat.le_of_ble_eq_true rfl, Nat.le_of_ble_eq_true rfl⟩) rfl hl.1 rfl (Nat.le_of_ble_eq_true rfl) dX4_sameWritten_4 (fun r_4 hw => ?_)
  subst hw
  refine n_if_eq (tgt := 31) hx hb (by split <;> omega) dX4_sameWritten_7 (by decide) (fun c_7 => ?_) (fun c_7 => ?_)
  · have c8 : ¬ mCode N < 15 := fun h => by rw [if_pos h] at c_7; exact absurd c_7 (by decide)
    refine lv_iconst (v := nI 0) hx hb dX4_sameWritten_31 (by decide) ?_
    exact g_reti hx hb hr hlocks (N, J) (⟨by unfold mSW; (repeat' split) <;> first | rfl | (exfalso; omega), rfl⟩) hP hS dX4_sameWritten_32
  · have c8 : mCode N < 15 := Classical.byContradiction fun h => c_7 (by rw [if_neg h])
    refine lv_aload_n hx hb dX4_sameWritten_10 rfl (lv_at hl 0 rfl) ?_
    refine mg_19 hx hb hts hi4 hown hK hP k41 dX4_sameWritten_11 ?_
    refine lv_aload_n hx hb dX4_sameWritten_14 rfl (lv_at hl 0 rfl) ?_
    refine mg_0 hx hb hts hi4 hown hK hP k9 dX4_sameWritten_15 ?_
    refine lv_iconst (v := nI 4) hx hb dX4_sameWritten_18 (by decide) ?_
    refine lv_aload_n hx hb dX4_sameWritten_19 rfl (lv_at hl 0 rfl) ?_
    refine mg_8 (v := N 8 0) hx hb hts hi4 hown hK hP k86 rfl dX4_sameWritten_20 ?_
    refine n_mul hx hb dX4_sameWritten_23 ?_
    refine lv_iconst (v := nI 1) hx hb dX4_sameWritten_24 (by decide) ?_
    refine n_add hx hb dX4_sameWritten_25 ?_
    refine ml_0 (v := N 0 ((4 * (N 8 0)) + 1)) hx hb hK hP (by omega) rfl dX4_sameWritten_26 ?_
    refine ml_19 (v := N 19 (N 0 ((4 * (N 8 0)) + 1))) hx hb hK hP hp0.2.1 rfl dX4_sameWritten_27 ?_
    refine lv_goto (tgt := 32) hx hb dX4_sameWritten_28 (by decide) ?_
    exact g_reti hx hb hr hlocks (N, J) (⟨by unfold mSW; (repeat' split) <;> first | rfl | (exfalso; omega), rfl⟩) hP hS dX4_sameWritten_32
set_option maxHeartbeats 4000000 in
set_option maxRecDepth 100000 in
theorem tM_unitWritten (l : Launch) (dC : Nat → ClassId) (dI : Nat → Nat → Nat) (a : Nat → Nat) (cI cL cZ : ClassId) (N : Nat → Nat → Nat) (J : Nat → Nat → Int64) (k : Nat) (hG : mG N) (hk : k < 6) : MetI l yX4_unitWritten wsX4_unitWritten ({ frames := 0, cells := 0, slots := 0, locals := 0 } : Room) dC dI (gT cI cL cZ) (mF a cI cL cZ) (mL a) (N, J) [.ref (a 0), .int (nI (k))] (fun r u => r = nI (mUW N k) ∧ u = (N, J)) := by
  intro sz
  refine g_entry (bytes := cX4_unitWritten) (maxL := 5) (ret := (some .int)) (Qc := fun sz => va_Qi (fun r u => r = nI (mUW N k) ∧ u = (N, J)) (gB dC dI (mF a cI cL cZ)) (aA (mL a) sz)) (by decide) rfl (Nat.le_of_ble_eq_true rfl) rfl ?_
  intro p e s m below meth c ls hx hb hr hml hts hown hlocks hK hP hD hS hZ hl
  have hP : va_P (dC, dI) vwCl (mW a cI cL cZ N J) s.heap := hP
  have hD : va_D (aA (mL a) s.heap.size) (mW a cI cL cZ N J) := hD
  have hown : s.vm.findClass RX4 = some m.cls := hown
  have hl : lv_has ls 5 [(0, .ref (a 0)), (1, .int (nI (k)))] := hl
  have hi4 : ∀ w ∈ wsX40, w ∈ wsX4_unitWritten := by decide +kernel
  have k13 := hts (.fieldLink RX4 13 "ScoreMachineModel" "units" "[I") (by decide +kernel)
  have k50 := hts (.fieldLink RX4 50 "ScoreMachineModel" "unitRow" "[I") (by decide +kernel)
  obtain ⟨⟨hpl, hpr⟩, hun, hla, hwd, hsc, hrg, huw⟩ := id hG
  have hp0 := hpr (N 8 0) hpl
  have hu := hun k hk
  have hb0 : N 22 (21 * k + 5) < 1073741824 := by have h := huw (3 * k) (by omega); rwa [show 7 * (3 * k) + 5 = 21 * k + 5 by omega] at h
  have hb1 := huw (3 * k + 1) (by omega)
  have hb2 := huw (3 * k + 2) (by omega)
  refine lv_aload_n hx hb dX4_unitWritten_0 rfl (lv_at hl 0 rfl) ?_
  refine mg_22 hx hb hts hi4 hown hK hP k50 dX4_unitWritten_1 ?_
  refine lv_bipush (v := nI 21) hx hb dX4_unitWritten_4 (by decide) ?_
  refine lv_iload_n hx hb dX4_unitWritten_6 rfl (lv_at hl 1 rfl) ?_
  refine n_mul hx hb dX4_unitWritten_7 ?_
  refine lv_iconst (v := nI 5) hx hb dX4_unitWritten_8 (by decide) ?_
  refine n_add hx hb dX4_unitWritten_9 ?_
  refine ml_22 (v := N 22 ((21 * k) + 5)) hx hb hK hP (by omega) rfl dX4_unitWritten_10 ?_
  refine lv_istore_n (lv' := [(2, .int (nI (N 22 ((21 * k) + 5)))), (0, .ref (a 0)), (1, .int (nI (k)))]) hx hb dX4_unitWritten_11 rfl hl (by decide) rfl (fun ls hl => ?_)
  refine lv_iconst (v := nI 1) hx hb dX4_unitWritten_12 (by decide) ?_
  refine lv_istore_n (lv' := [(3, .int (nI (1))), (2, .int (nI (N 22 ((21 * k) + 5)))), (0, .ref (a 0)), (1, .int (nI (k)))]) hx hb dX4_unitWritten_13 rfl hl (by decide) rfl (fun ls hl => ?_)
  refine lv_iload_n hx hb dX4_unitWritten_14 rfl (lv_at hl 0 rfl) ?_
  refine lv_aload_n hx hb dX4_unitWritten_15 rfl (lv_at hl 2 rfl) ?_
  refine mg_1 hx hb hts hi4 hown hK hP k13 dX4_unitWritten_16 ?_
  refine lv_iload_n hx hb dX4_unitWritten_19 rfl (lv_at hl 3 rfl) ?_
  refine ml_1 (v := N 1 k) hx hb hK hP (by omega) rfl dX4_unitWritten_20 ?_
  refine n_icmp_ge (tgt := 60) hx hb (by omega) (by omega) dX4_unitWritten_21 (by decide) (fun c_21 => ?_) (fun c_21 => ?_)
  · refine lv_iload_n hx hb dX4_unitWritten_60 rfl (lv_at hl 1 rfl) ?_
    exact g_reti hx hb hr hlocks (N, J) (⟨congrArg nI (by unfold mUW; (repeat' split) <;> omega), rfl⟩) hP hS dX4_unitWritten_61
  · refine lv_aload_n hx hb dX4_unitWritten_24 rfl (lv_at hl 2 rfl) ?_
    refine mg_22 hx hb hts hi4 hown hK hP k50 dX4_unitWritten_25 ?_
    refine lv_bipush (v := nI 7) hx hb dX4_unitWritten_28 (by decide) ?_
    refine lv_iconst (v := nI 3) hx hb dX4_unitWritten_30 (by decide) ?_
    refine lv_iload_n hx hb dX4_unitWritten_31 rfl (lv_at hl 3 rfl) ?_
    refine n_mul hx hb dX4_unitWritten_32 ?_
    refine lv_iload_n hx hb dX4_unitWritten_33 rfl (lv_at hl 0 rfl) ?_
    refine n_add hx hb dX4_unitWritten_34 ?_
    refine n_mul hx hb dX4_unitWritten_35 ?_
    refine lv_iconst (v := nI 5) hx hb dX4_unitWritten_36 (by decide) ?_
    refine n_add hx hb dX4_unitWritten_37 ?_
    refine ml_22 (v := N 22 ((7 * ((3 * k) + 1)) + 5)) hx hb hK hP (by omega) rfl dX4_unitWritten_38 ?_
    refine lv_istore (lv' := [(4, .int (nI (N 22 ((7 * ((3 * k) + 1)) + 5)))), (3, .int (nI (1))), (2, .int (nI (N 22 ((21 * k) + 5)))), (0, .ref (a 0)), (1, .int (nI (k)))]) hx hb dX4_unitWritten_39 hl (by decide) rfl (fun ls hl => ?_)
    refine lv_iload hx hb dX4_unitWritten_41 (lv_at hl 0 rfl) ?_
    refine lv_iload_n hx hb dX4_unitWritten_43 rfl (lv_at hl 2 rfl) ?_
    refine n_icmp_ge (tgt := 52) hx hb (by omega) (by omega) dX4_unitWritten_44 (by decide) (fun c_44 => ?_) (fun c_44 => ?_)
    · refine lv_iload_n hx hb dX4_unitWritten_52 rfl (lv_at hl 2 rfl) ?_
      refine lv_istore_n (lv' := [(2, .int (nI (N 22 ((21 * k) + 5)))), (4, .int (nI (N 22 ((7 * ((3 * k) + 1)) + 5)))), (3, .int (nI (1))), (0, .ref (a 0)), (1, .int (nI (k)))]) hx hb dX4_unitWritten_53 rfl hl (by decide) rfl (fun ls hl => ?_)
      refine lv_iinc (v := nI (2)) (lv' := [(3, .int (nI (2))), (2, .int (nI (N 22 ((21 * k) + 5)))), (4, .int (nI (N 22 ((7 * ((3 * k) + 1)) + 5)))), (0, .ref (a 0)), (1, .int (nI (k)))]) hx hb dX4_unitWritten_54 hl (k := 2) rfl (by decide) (by decide) rfl (fun ls hl => ?_)
      refine lv_goto (tgt := 14) hx hb dX4_unitWritten_57 (by decide) ?_
      refine lv_iload_n hx hb dX4_unitWritten_14 rfl (lv_at hl 0 rfl) ?_
      refine lv_aload_n hx hb dX4_unitWritten_15 rfl (lv_at hl 3 rfl) ?_
      refine mg_1 hx hb hts hi4 hown hK hP k13 dX4_unitWritten_16 ?_
      refine lv_iload_n hx hb dX4_unitWritten_19 rfl (lv_at hl 4 rfl) ?_
      refine ml_1 (v := N 1 k) hx hb hK hP (by omega) rfl dX4_unitWritten_20 ?_
      refine n_icmp_ge (tgt := 60) hx hb (by omega) (by omega) dX4_unitWritten_21 (by decide) (fun c_21 => ?_) (fun c_21 => ?_)
      · refine lv_iload_n hx hb dX4_unitWritten_60 rfl (lv_at hl 1 rfl) ?_
        exact g_reti hx hb hr hlocks (N, J) (⟨congrArg nI (by unfold mUW; (repeat' split) <;> omega), rfl⟩) hP hS dX4_unitWritten_61
      · refine lv_aload_n hx hb dX4_unitWritten_24 rfl (lv_at hl 3 rfl) ?_
        refine mg_22 hx hb hts hi4 hown hK hP k50 dX4_unitWritten_25 ?_
        refine lv_bipush (v := nI 7) hx hb dX4_unitWritten_28 (by decide) ?_
        refine lv_iconst (v := nI 3) hx hb dX4_unitWritten_30 (by decide) ?_
        refine lv_iload_n hx hb dX4_unitWritten_31 rfl (lv_at hl 4 rfl) ?_
        refine n_mul hx hb dX4_unitWritten_32 ?_
        refine lv_iload_n hx hb dX4_unitWritten_33 rfl (lv_at hl 0 rfl) ?_
        refine n_add hx hb dX4_unitWritten_34 ?_
        refine n_mul hx hb dX4_unitWritten_35 ?_
        refine lv_iconst (v := nI 5) hx hb dX4_unitWritten_36 (by decide) ?_
        refine n_add hx hb dX4_unitWritten_37 ?_
        refine ml_22 (v := N 22 ((7 * ((3 * k) + 2)) + 5)) hx hb hK hP (by omega) rfl dX4_unitWritten_38 ?_
        refine lv_istore (lv' := [(4, .int (nI (N 22 ((7 * ((3 * k) + 2)) + 5)))), (3, .int (nI (2))), (2, .int (nI (N 22 ((21 * k) + 5)))), (0, .ref (a 0)), (1, .int (nI (k)))]) hx hb dX4_unitWritten_39 hl (by decide) rfl (fun ls hl => ?_)
        refine lv_iload hx hb dX4_unitWritten_41 (lv_at hl 0 rfl) ?_
        refine lv_iload_n hx hb dX4_unitWritten_43 rfl (lv_at hl 2 rfl) ?_
        refine n_icmp_ge (tgt := 52) hx hb (by omega) (by omega) dX4_unitWritten_44 (by decide) (fun c_44 => ?_) (fun c_44 => ?_)
        · refine lv_iload_n hx hb dX4_unitWritten_52 rfl (lv_at hl 2 rfl) ?_
          refine lv_istore_n (lv' := [(2, .int (nI (N 22 ((21 * k) + 5)))), (4, .int (nI (N 22 ((7 * ((3 * k) + 2)) + 5)))), (3, .int (nI (2))), (0, .ref (a 0)), (1, .int (nI (k)))]) hx hb dX4_unitWritten_53 rfl hl (by decide) rfl (fun ls hl => ?_)
          refine lv_iinc (v := nI (3)) (lv' := [(3, .int (nI (3))), (2, .int (nI (N 22 ((21 * k) + 5)))), (4, .int (nI (N 22 ((7 * ((3 * k) + 2)) + 5)))), (0, .ref (a 0)), (1, .int (nI (k)))]) hx hb dX4_unitWritten_54 hl (k := 2) rfl (by decide) (by decide) rfl (fun ls hl => ?_)
          refine lv_goto (tgt := 14) hx hb dX4_unitWritten_57 (by decide) ?_
          refine lv_iload_n hx hb dX4_unitWritten_14 rfl (lv_at hl 0 rfl) ?_
          refine lv_aload_n hx hb dX4_unitWritten_15 rfl (lv_at hl 3 rfl) ?_
          refine mg_1 hx hb hts hi4 hown hK hP k13 dX4_unitWritten_16 ?_
          refine lv_iload_n hx hb dX4_unitWritten_19 rfl (lv_at hl 4 rfl) ?_
          refine ml_1 (v := N 1 k) hx hb hK hP (by omega) rfl dX4_unitWritten_20 ?_
          refine n_icmp_ge (tgt := 60) hx hb (by omega) (by omega) dX4_unitWritten_21 (by decide) (fun c_21 => ?_) (fun c_21 => absurd c_21 (by omega))
          refine lv_iload_n hx hb dX4_unitWritten_60 rfl (lv_at hl 1 rfl) ?_
          exact g_reti hx hb hr hlocks (N, J) (⟨congrArg nI (by unfold mUW; (repeat' split) <;> omega), rfl⟩) hP hS dX4_unitWritten_61
        · refine lv_iload hx hb dX4_unitWritten_47 (lv_at hl 0 rfl) ?_
          refine lv_goto (tgt := 53) hx hb dX4_unitWritten_49 (by decide) ?_
          refine lv_istore_n (lv' := [(2, .int (nI (N 22 ((7 * ((3 * k) + 2)) + 5)))), (4, .int (nI (N 22 ((7 * ((3 * k) + 2)) + 5)))), (3, .int (nI (2))), (0, .ref (a 0)), (1, .int (nI (k)))]) hx hb dX4_unitWritten_53 rfl hl (by decide) rfl (fun ls hl => ?_)
          refine lv_iinc (v := nI (3)) (lv' := [(3, .int (nI (3))), (2, .int (nI (N 22 ((7 * ((3 * k) + 2)) + 5)))), (4, .int (nI (N 22 ((7 * ((3 * k) + 2)) + 5)))), (0, .ref (a 0)), (1, .int (nI (k)))]) hx hb dX4_unitWritten_54 hl (k := 2) rfl (by decide) (by decide) rfl (fun ls hl => ?_)
          refine lv_goto (tgt := 14) hx hb dX4_unitWritten_57 (by decide) ?_
          refine lv_iload_n hx hb dX4_unitWritten_14 rfl (lv_at hl 0 rfl) ?_
          refine lv_aload_n hx hb dX4_unitWritten_15 rfl (lv_at hl 3 rfl) ?_
          refine mg_1 hx hb hts hi4 hown hK hP k13 dX4_unitWritten_16 ?_
          refine lv_iload_n hx hb dX4_unitWritten_19 rfl (lv_at hl 4 rfl) ?_
          refine ml_1 (v := N 1 k) hx hb hK hP (by omega) rfl dX4_unitWritten_20 ?_
          refine n_icmp_ge (tgt := 60) hx hb (by omega) (by omega) dX4_unitWritten_21 (by decide) (fun c_21 => ?_) (fun c_21 => absurd c_21 (by omega))
          refine lv_iload_n hx hb dX4_unitWritten_60 rfl (lv_at hl 1 rfl) ?_
          exact g_reti hx hb hr hlocks (N, J) (⟨congrArg nI (by unfold mUW; (repeat' split) <;> omega), rfl⟩) hP hS dX4_unitWritten_61
    · refine lv_iload hx hb dX4_unitWritten_47 (lv_at hl 0 rfl) ?_
      refine lv_goto (tgt := 53) hx hb dX4_unitWritten_49 (by decide) ?_
      refine lv_istore_n (lv' := [(2, .int (nI (N 22 ((7 * ((3 * k) + 1)) + 5)))), (4, .int (nI (N 22 ((7 * ((3 * k) + 1)) + 5)))), (3, .int (nI (1))), (0, .ref (a 0)), (1, .int (nI (k)))]) hx hb dX4_unitWritten_53 rfl hl (by decide) rfl (fun ls hl => ?_)
      refine lv_iinc (v := nI (2)) (lv' := [(3, .int (nI (2))), (2, .int (nI (N 22 ((7 * ((3 * k) + 1)) + 5)))), (4, .int (nI (N 22 ((7 * ((3 * k) + 1)) + 5)))), (0, .ref (a 0)), (1, .int (nI (k)))]) hx hb dX4_unitWritten_54 hl (k := 2) rfl (by decide) (by decide) rfl (fun ls hl => ?_)
      refine lv_goto (tgt := 14) hx hb dX4_unitWritten_57 (by decide) ?_
      refine lv_iload_n hx hb dX4_unitWritten_14 rfl (lv_at hl 0 rfl) ?_
      refine lv_aload_n hx hb dX4_unitWritten_15 rfl (lv_at hl 3 rfl) ?_
      refine mg_1 hx hb hts hi4 hown hK hP k13 dX4_unitWritten_16 ?_
      refine lv_iload_n hx hb dX4_unitWritten_19 rfl (lv_at hl 4 rfl) ?_
      refine ml_1 (v := N 1 k) hx hb hK hP (by omega) rfl dX4_unitWritten_20 ?_
      refine n_icmp_ge (tgt := 60) hx hb (by omega) (by omega) dX4_unitWritten_21 (by decide) (fun c_21 => ?_) (fun c_21 => ?_)
      · refine lv_iload_n hx hb dX4_unitWritten_60 rfl (lv_at hl 1 rfl) ?_
        exact g_reti hx hb hr hlocks (N, J) (⟨congrArg nI (by unfold mUW; (repeat' split) <;> omega), rfl⟩) hP hS dX4_unitWritten_61
      · refine lv_aload_n hx hb dX4_unitWritten_24 rfl (lv_at hl 3 rfl) ?_
        refine mg_22 hx hb hts hi4 hown hK hP k50 dX4_unitWritten_25 ?_
        refine lv_bipush (v := nI 7) hx hb dX4_unitWritten_28 (by decide) ?_
        refine lv_iconst (v := nI 3) hx hb dX4_unitWritten_30 (by decide) ?_
        refine lv_iload_n hx hb dX4_unitWritten_31 rfl (lv_at hl 4 rfl) ?_
        refine n_mul hx hb dX4_unitWritten_32 ?_
        refine lv_iload_n hx hb dX4_unitWritten_33 rfl (lv_at hl 0 rfl) ?_
        refine n_add hx hb dX4_unitWritten_34 ?_
        refine n_mul hx hb dX4_unitWritten_35 ?_
        refine lv_iconst (v := nI 5) hx hb dX4_unitWritten_36 (by decide) ?_
        refine n_add hx hb dX4_unitWritten_37 ?_
        refine ml_22 (v := N 22 ((7 * ((3 * k) + 2)) + 5)) hx hb hK hP (by omega) rfl dX4_unitWritten_38 ?_
        refine lv_istore (lv' := [(4, .int (nI (N 22 ((7 * ((3 * k) + 2)) + 5)))), (3, .int (nI (2))), (2, .int (nI (N 22 ((7 * ((3 * k) + 1)) + 5)))), (0, .ref (a 0)), (1, .int (nI (k)))]) hx hb dX4_unitWritten_39 hl (by decide) rfl (fun ls hl => ?_)
        refine lv_iload hx hb dX4_unitWritten_41 (lv_at hl 0 rfl) ?_
        refine lv_iload_n hx hb dX4_unitWritten_43 rfl (lv_at hl 2 rfl) ?_
        refine n_icmp_ge (tgt := 52) hx hb (by omega) (by omega) dX4_unitWritten_44 (by decide) (fun c_44 => ?_) (fun c_44 => ?_)
        · refine lv_iload_n hx hb dX4_unitWritten_52 rfl (lv_at hl 2 rfl) ?_
          refine lv_istore_n (lv' := [(2, .int (nI (N 22 ((7 * ((3 * k) + 1)) + 5)))), (4, .int (nI (N 22 ((7 * ((3 * k) + 2)) + 5)))), (3, .int (nI (2))), (0, .ref (a 0)), (1, .int (nI (k)))]) hx hb dX4_unitWritten_53 rfl hl (by decide) rfl (fun ls hl => ?_)
          refine lv_iinc (v := nI (3)) (lv' := [(3, .int (nI (3))), (2, .int (nI (N 22 ((7 * ((3 * k) + 1)) + 5)))), (4, .int (nI (N 22 ((7 * ((3 * k) + 2)) + 5)))), (0, .ref (a 0)), (1, .int (nI (k)))]) hx hb dX4_unitWritten_54 hl (k := 2) rfl (by decide) (by decide) rfl (fun ls hl => ?_)
          refine lv_goto (tgt := 14) hx hb dX4_unitWritten_57 (by decide) ?_
          refine lv_iload_n hx hb dX4_unitWritten_14 rfl (lv_at hl 0 rfl) ?_
          refine lv_aload_n hx hb dX4_unitWritten_15 rfl (lv_at hl 3 rfl) ?_
          refine mg_1 hx hb hts hi4 hown hK hP k13 dX4_unitWritten_16 ?_
          refine lv_iload_n hx hb dX4_unitWritten_19 rfl (lv_at hl 4 rfl) ?_
          refine ml_1 (v := N 1 k) hx hb hK hP (by omega) rfl dX4_unitWritten_20 ?_
          refine n_icmp_ge (tgt := 60) hx hb (by omega) (by omega) dX4_unitWritten_21 (by decide) (fun c_21 => ?_) (fun c_21 => absurd c_21 (by omega))
          refine lv_iload_n hx hb dX4_unitWritten_60 rfl (lv_at hl 1 rfl) ?_
          exact g_reti hx hb hr hlocks (N, J) (⟨congrArg nI (by unfold mUW; (repeat' split) <;> omega), rfl⟩) hP hS dX4_unitWritten_61
        · refine lv_iload hx hb dX4_unitWritten_47 (lv_at hl 0 rfl) ?_
          refine lv_goto (tgt := 53) hx hb dX4_unitWritten_49 (by decide) ?_
          refine lv_istore_n (lv' := [(2, .int (nI (N 22 ((7 * ((3 * k) + 2)) + 5)))), (4, .int (nI (N 22 ((7 * ((3 * k) + 2)) + 5)))), (3, .int (nI (2))), (0, .ref (a 0)), (1, .int (nI (k)))]) hx hb dX4_unitWritten_53 rfl hl (by decide) rfl (fun ls hl => ?_)
          refine lv_iinc (v := nI (3)) (lv' := [(3, .int (nI (3))), (2, .int (nI (N 22 ((7 * ((3 * k) + 2)) + 5)))), (4, .int (nI (N 22 ((7 * ((3 * k) + 2)) + 5)))), (0, .ref (a 0)), (1, .int (nI (k)))]) hx hb dX4_unitWritten_54 hl (k := 2) rfl (by decide) (by decide) rfl (fun ls hl => ?_)
          refine lv_goto (tgt := 14) hx hb dX4_unitWritten_57 (by decide) ?_
          refine lv_iload_n hx hb dX4_unitWritten_14 rfl (lv_at hl 0 rfl) ?_
          refine lv_aload_n hx hb dX4_unitWritten_15 rfl (lv_at hl 3 rfl) ?_
          refine mg_1 hx hb hts hi4 hown hK hP k13 dX4_unitWritten_16 ?_
          refine lv_iload_n hx hb dX4_unitWritten_19 rfl (lv_at hl 4 rfl) ?_
          refine ml_1 (v := N 1 k) hx hb hK hP (by omega) rfl dX4_unitWritten_20 ?_
          refine n_icmp_ge (tgt := 60) hx hb (by omega) (by omega) dX4_unitWritten_21 (by decide) (fun c_21 => ?_) (fun c_21 => absurd c_21 (by omega))
          refine lv_iload_n hx hb dX4_unitWritten_60 rfl (lv_at hl 1 rfl) ?_
          exact g_reti hx hb hr hlocks (N, J) (⟨congrArg nI (by unfold mUW; (repeat' split) <;> omega), rfl⟩) hP hS dX4_unitWritten_61
theorem mUW_lt {N : Nat → Nat → Nat} {k : Nat} (hG : mG N) (hk : k < 6) : mUW N k < 1073741824 := by
  obtain ⟨⟨hpl, hpr⟩, hun, hla, hwd, hsc, hrg, huw⟩ := hG
  have hb0 : N 22 (21 * k + 5) < 1073741824 := by have h := huw (3 * k) (by omega); rwa [show 7 * (3 * k) + 5 = 21 * k + 5 by omega] at h
  have hb1 := huw (3 * k + 1) (by omega)
  have hb2 := huw (3 * k + 2) (by omega)
  unfold mUW
  (repeat' split) <;> omega
theorem mSW_lt {N : Nat → Nat → Nat} (hG : mG N) : mSW N < 1073741824 := by
  obtain ⟨⟨hpl, hpr⟩, hun, hla, hwd, hsc, hrg, huw⟩ := hG
  unfold mSW
  split
  · exact (hrg _ (hpr _ hpl).2.1).1
  · decide
set_option maxHeartbeats 4000000 in
set_option maxRecDepth 100000 in
theorem tM_issues (l : Launch) (dC : Nat → ClassId) (dI : Nat → Nat → Nat) (a : Nat → Nat) (cI cL cZ : ClassId) (N : Nat → Nat → Nat) (J : Nat → Nat → Int64)  (hG : mG N) : MetI l yX4_issues wsX4_issues ({ frames := 2, cells := 0, slots := 0, locals := 40 } : Room) dC dI (gT cI cL cZ) (mF a cI cL cZ) (mL a) (N, J) [.ref (a 0)] (fun r u => r = nI (mT N) ∧ u = (N, J)) := by
  intro sz
  refine g_entry (bytes := cX4_issues) (maxL := 2) (ret := (some .int)) (Qc := fun sz => va_Qi (fun r u => r = nI (mT N) ∧ u = (N, J)) (gB dC dI (mF a cI cL cZ)) (aA (mL a) sz)) (by decide) rfl (Nat.le_of_ble_eq_true rfl) rfl ?_
  intro p e s m below meth c ls hx hb hr hml hts hown hlocks hK hP hD hS hZ hl
  have hP : va_P (dC, dI) vwCl (mW a cI cL cZ N J) s.heap := hP
  have hD : va_D (aA (mL a) s.heap.size) (mW a cI cL cZ N J) := hD
  have hown : s.vm.findClass RX4 = some m.cls := hown
  have hl : lv_has ls 2 [(0, .ref (a 0))] := hl
  have hi4 : ∀ w ∈ wsX40, w ∈ wsX4_issues := by decide +kernel
  have k95 := hts (.fieldLink RX4 95 "ScoreMachineModel" "branchWritten" "I") (by decide +kernel)
  obtain ⟨⟨hpl, hpr⟩, hun, hla, hwd, hsc, hrg, huw⟩ := id hG
  have hp0 := hpr (N 8 0) hpl
  have hcd : mCode N ≤ 18 := hp0.1
  have hkd := kdN_lt (mCode N)
  have hbB : mBeg N < 1073741825 := by unfold mBeg; (repeat' split) <;> omega
  have hbU : mUW N (kdN (mCode N)) < 1073741824 := mUW_lt hG hkd
  have hbS : mSW N < 1073741824 := mSW_lt hG
  refine lv_aload_n hx hb dX4_issues_0 rfl (lv_at hl 0 rfl) ?_
  refine g_calli (u := (N, J)) (g_runV (As := []) (rest := []) ⟨hx, hb, hml, hown, hts⟩ (tM_begins l dC dI a cI cL cZ N J hG s.heap.size) (cwV 0 hts gX4_issues_X4_begins rfl rfl rfl (by decide +kernel) ⟨Nat.le_of_ble_eq_true rfl, Nat.le_of_ble_eq_true rfl⟩) (va_recv hK hP (ci := 4) (q0 := 0) rfl rfl) hK hP hD hS hZ rfl hl.1 rfl (Nat.le_of_ble_eq_true rfl) dX4_issues_1) (mW_L a cI cL cZ) hD hS (fun r_1 u H locs hw hP hD hS => ?_)
  obtain ⟨rfl, rfl⟩ := hw
  have hP : va_P (dC, dI) vwCl (mW a cI cL cZ N J) H := hP
  have hD : va_D (aA (mL a) s.heap.size) (mW a cI cL cZ N J) := hD
  refine lv_aload_n hx hb dX4_issues_4 rfl (lv_at hl 0 rfl) ?_
  refine mg_16 (v := N 16 0) hx hb hts hi4 hown hK hP k95 rfl dX4_issues_5 ?_
  refine lv_iconst (v := nI 1) hx hb dX4_issues_8 (by decide) ?_
  refine n_add hx hb dX4_issues_9 ?_
  refine s_calli (As := [.int (nI (mBeg N)), .int (nI ((N 16 0) + 1))]) (rest := []) ⟨hx, hb, hml, hown, hts⟩ (tM_greater l (mBeg N) (N 16 0 + 1) (by omega) (by omega)) (va_cwS 2 hts gX4_issues_X4_greater rfl rfl rfl (by decide +kernel) ⟨Nat.le_of_ble_eq_true rfl, Nat.le_of_ble_eq_true rfl⟩) rfl hl.1 rfl (Nat.le_of_ble_eq_true rfl) dX4_issues_10 (fun r_10 hw => ?_)
  subst hw
  refine lv_istore_n (lv' := [(1, .int (nI (max (mBeg N) (N 16 0 + 1)))), (0, .ref (a 0))]) hx hb dX4_issues_13 rfl hl (by decide) rfl (fun ls hl => ?_)
  refine lv_iload_n hx hb dX4_issues_14 rfl (lv_at hl 0 rfl) ?_
  refine lv_aload_n hx hb dX4_issues_15 rfl (lv_at hl 1 rfl) ?_
  refine lv_aload_n hx hb dX4_issues_16 rfl (lv_at hl 1 rfl) ?_
  refine g_calli (u := (N, J)) (g_runV (As := []) (rest := [.ref (a 0), .int (nI (max (mBeg N) (N 16 0 + 1)))]) ⟨hx, hb, hml, hown, hts⟩ (tM_code l dC dI a cI cL cZ N J hG.1 H.size) (cwV 0 hts gX4_issues_X4_code rfl rfl rfl (by decide +kernel) ⟨Nat.le_of_ble_eq_true rfl, Nat.le_of_ble_eq_true rfl⟩) (va_recv hK hP (ci := 4) (q0 := 0) rfl rfl) hK hP hD hS hZ rfl hl.1 rfl (Nat.le_of_ble_eq_true rfl) dX4_issues_17) (mW_L a cI cL cZ) hD hS (fun r_17 u H locs hw hP hD hS => ?_)
  obtain ⟨rfl, rfl⟩ := hw
  have hP : va_P (dC, dI) vwCl (mW a cI cL cZ N J) H := hP
  have hD : va_D (aA (mL a) s.heap.size) (mW a cI cL cZ N J) := hD
  refine s_calli (As := [.int (nI (mCode N))]) (rest := [.ref (a 0), .int (nI (max (mBeg N) (N 16 0 + 1)))]) ⟨hx, hb, hml, hown, hts⟩ (tM_kindOf l (mCode N) (by omega)) (va_cwS 1 hts gX4_issues_X4_kindOf rfl rfl rfl (by decide +kernel) ⟨Nat.le_of_ble_eq_true rfl, Nat.le_of_ble_eq_true rfl⟩) rfl hl.1 rfl (Nat.le_of_ble_eq_true rfl) dX4_issues_20 (fun r_20 hw => ?_)
  subst hw
  refine g_calli (u := (N, J)) (g_runV (As := [.int (nI (kdN (mCode N)))]) (rest := [.int (nI (max (mBeg N) (N 16 0 + 1)))]) ⟨hx, hb, hml, hown, hts⟩ (tM_unitWritten l dC dI a cI cL cZ N J (kdN (mCode N)) hG hkd H.size) (cwV 1 hts gX4_issues_X4_unitWritten rfl rfl rfl (by decide +kernel) ⟨Nat.le_of_ble_eq_true rfl, Nat.le_of_ble_eq_true rfl⟩) (va_recv hK hP (ci := 4) (q0 := 0) rfl rfl) hK hP hD hS hZ rfl hl.1 rfl (Nat.le_of_ble_eq_true rfl) dX4_issues_23) (mW_L a cI cL cZ) hD hS (fun r_23 u H locs hw hP hD hS => ?_)
  obtain ⟨rfl, rfl⟩ := hw
  have hP : va_P (dC, dI) vwCl (mW a cI cL cZ N J) H := hP
  have hD : va_D (aA (mL a) s.heap.size) (mW a cI cL cZ N J) := hD
  refine lv_iconst (v := nI 1) hx hb dX4_issues_26 (by decide) ?_
  refine n_add hx hb dX4_issues_27 ?_
  refine s_calli (As := [.int (nI (max (mBeg N) (N 16 0 + 1))), .int (nI ((mUW N (kdN (mCode N))) + 1))]) (rest := []) ⟨hx, hb, hml, hown, hts⟩ (tM_greater l (max (mBeg N) (N 16 0 + 1)) (mUW N (kdN (mCode N)) + 1) (by omega) (by omega)) (va_cwS 2 hts gX4_issues_X4_greater rfl rfl rfl (by decide +kernel) ⟨Nat.le_of_ble_eq_true rfl, Nat.le_of_ble_eq_true rfl⟩) rfl hl.1 rfl (Nat.le_of_ble_eq_true rfl) dX4_issues_28 (fun r_28 hw => ?_)
  subst hw
  refine lv_istore_n (lv' := [(1, .int (nI (max (max (mBeg N) (N 16 0 + 1)) (mUW N (kdN (mCode N)) + 1)))), (0, .ref (a 0))]) hx hb dX4_issues_31 rfl hl (by decide) rfl (fun ls hl => ?_)
  refine lv_iload_n hx hb dX4_issues_32 rfl (lv_at hl 0 rfl) ?_
  refine lv_aload_n hx hb dX4_issues_33 rfl (lv_at hl 1 rfl) ?_
  refine g_calli (u := (N, J)) (g_runV (As := []) (rest := [.int (nI (max (max (mBeg N) (N 16 0 + 1)) (mUW N (kdN (mCode N)) + 1)))]) ⟨hx, hb, hml, hown, hts⟩ (tM_sameWritten l dC dI a cI cL cZ N J hG H.size) (cwV 0 hts gX4_issues_X4_sameWritten rfl rfl rfl (by decide +kernel) ⟨Nat.le_of_ble_eq_true rfl, Nat.le_of_ble_eq_true rfl⟩) (va_recv hK hP (ci := 4) (q0 := 0) rfl rfl) hK hP hD hS hZ rfl hl.1 rfl (Nat.le_of_ble_eq_true rfl) dX4_issues_34) (mW_L a cI cL cZ) hD hS (fun r_34 u H locs hw hP hD hS => ?_)
  obtain ⟨rfl, rfl⟩ := hw
  have hP : va_P (dC, dI) vwCl (mW a cI cL cZ N J) H := hP
  have hD : va_D (aA (mL a) s.heap.size) (mW a cI cL cZ N J) := hD
  refine lv_iconst (v := nI 1) hx hb dX4_issues_37 (by decide) ?_
  refine n_add hx hb dX4_issues_38 ?_
  refine s_calli (As := [.int (nI (max (max (mBeg N) (N 16 0 + 1)) (mUW N (kdN (mCode N)) + 1))), .int (nI ((mSW N) + 1))]) (rest := []) ⟨hx, hb, hml, hown, hts⟩ (tM_greater l (max (max (mBeg N) (N 16 0 + 1)) (mUW N (kdN (mCode N)) + 1)) (mSW N + 1) (by omega) (by omega)) (va_cwS 2 hts gX4_issues_X4_greater rfl rfl rfl (by decide +kernel) ⟨Nat.le_of_ble_eq_true rfl, Nat.le_of_ble_eq_true rfl⟩) rfl hl.1 rfl (Nat.le_of_ble_eq_true rfl) dX4_issues_39 (fun r_39 hw => ?_)
  subst hw
  exact g_reti hx hb hr hlocks (N, J) (⟨rfl, rfl⟩) hP hS dX4_issues_42
set_option maxHeartbeats 4000000 in
set_option maxRecDepth 100000 in
theorem tM_waited (l : Launch) (dC : Nat → ClassId) (dI : Nat → Nat → Nat) (a : Nat → Nat) (cI cL cZ : ClassId) (N : Nat → Nat → Nat) (J : Nat → Nat → Int64) (w t : Nat) (hG : mG N) (hw : w < 3) (ht : t < 1073741824) : MetI l yX4_waited wsX4_waited ({ frames := 2, cells := 0, slots := 0, locals := 40 } : Room) dC dI (gT cI cL cZ) (mF a cI cL cZ) (mL a) (N, J) [.ref (a 0), .int (nI (w)), .int (nI (t))] (fun r u => r = nI (mWt N w t) ∧ u = (N, J)) := by
  intro sz
  refine g_entry (bytes := cX4_waited) (maxL := 9) (ret := (some .int)) (Qc := fun sz => va_Qi (fun r u => r = nI (mWt N w t) ∧ u = (N, J)) (gB dC dI (mF a cI cL cZ)) (aA (mL a) sz)) (by decide) rfl (Nat.le_of_ble_eq_true rfl) rfl ?_
  intro p e s m below meth c ls hx hb hr hml hts hown hlocks hK hP hD hS hZ hl
  have hP : va_P (dC, dI) vwCl (mW a cI cL cZ N J) s.heap := hP
  have hD : va_D (aA (mL a) s.heap.size) (mW a cI cL cZ N J) := hD
  have hown : s.vm.findClass RX4 = some m.cls := hown
  have hl : lv_has ls 9 [(0, .ref (a 0)), (1, .int (nI (w))), (2, .int (nI (t)))] := hl
  have hi4 : ∀ w ∈ wsX40, w ∈ wsX4_waited := by decide +kernel
  have k95 := hts (.fieldLink RX4 95 "ScoreMachineModel" "branchWritten" "I") (by decide +kernel)
  obtain ⟨⟨hpl, hpr⟩, hun, hla, hwd, hsc, hrg, huw⟩ := id hG
  have hp0 := hpr (N 8 0) hpl
  have hcd : mCode N ≤ 18 := hp0.1
  have hkd := kdN_lt (mCode N)
  have hbB : mBeg N < 1073741825 := by unfold mBeg; (repeat' split) <;> omega
  have hbU : mUW N (kdN (mCode N)) < 1073741824 := mUW_lt hG hkd
  have hbS : mSW N < 1073741824 := mSW_lt hG
  have hb1 : 1 ≤ mBeg N := by unfold mBeg; (repeat' split) <;> omega
  refine lv_aload_n hx hb dX4_waited_0 rfl (lv_at hl 0 rfl) ?_
  refine g_calli (u := (N, J)) (g_runV (As := []) (rest := []) ⟨hx, hb, hml, hown, hts⟩ (tM_begins l dC dI a cI cL cZ N J hG s.heap.size) (cwV 0 hts gX4_waited_X4_begins rfl rfl rfl (by decide +kernel) ⟨Nat.le_of_ble_eq_true rfl, Nat.le_of_ble_eq_true rfl⟩) (va_recv hK hP (ci := 4) (q0 := 0) rfl rfl) hK hP hD hS hZ rfl hl.1 rfl (Nat.le_of_ble_eq_true rfl) dX4_waited_1) (mW_L a cI cL cZ) hD hS (fun r_1 u H locs hw hP hD hS => ?_)
  obtain ⟨rfl, rfl⟩ := hw
  have hP : va_P (dC, dI) vwCl (mW a cI cL cZ N J) H := hP
  have hD : va_D (aA (mL a) s.heap.size) (mW a cI cL cZ N J) := hD
  refine lv_istore_n (lv' := [(3, .int (nI (mBeg N))), (0, .ref (a 0)), (1, .int (nI (w))), (2, .int (nI (t)))]) hx hb dX4_waited_4 rfl hl (by decide) rfl (fun ls hl => ?_)
  refine lv_aload_n hx hb dX4_waited_5 rfl (lv_at hl 1 rfl) ?_
  refine mg_16 (v := N 16 0) hx hb hts hi4 hown hK hP k95 rfl dX4_waited_6 ?_
  refine lv_istore (lv' := [(4, .int (nI (N 16 0))), (3, .int (nI (mBeg N))), (0, .ref (a 0)), (1, .int (nI (w))), (2, .int (nI (t)))]) hx hb dX4_waited_9 hl (by decide) rfl (fun ls hl => ?_)
  refine lv_iload hx hb dX4_waited_11 (lv_at hl 0 rfl) ?_
  refine lv_aload_n hx hb dX4_waited_13 rfl (lv_at hl 2 rfl) ?_
  refine lv_aload_n hx hb dX4_waited_14 rfl (lv_at hl 2 rfl) ?_
  refine g_calli (u := (N, J)) (g_runV (As := []) (rest := [.ref (a 0), .int (nI (N 16 0))]) ⟨hx, hb, hml, hown, hts⟩ (tM_code l dC dI a cI cL cZ N J hG.1 H.size) (cwV 0 hts gX4_waited_X4_code rfl rfl rfl (by decide +kernel) ⟨Nat.le_of_ble_eq_true rfl, Nat.le_of_ble_eq_true rfl⟩) (va_recv hK hP (ci := 4) (q0 := 0) rfl rfl) hK hP hD hS hZ rfl hl.1 rfl (Nat.le_of_ble_eq_true rfl) dX4_waited_15) (mW_L a cI cL cZ) hD hS (fun r_15 u H locs hw hP hD hS => ?_)
  obtain ⟨rfl, rfl⟩ := hw
  have hP : va_P (dC, dI) vwCl (mW a cI cL cZ N J) H := hP
  have hD : va_D (aA (mL a) s.heap.size) (mW a cI cL cZ N J) := hD
  refine s_calli (As := [.int (nI (mCode N))]) (rest := [.ref (a 0), .int (nI (N 16 0))]) ⟨hx, hb, hml, hown, hts⟩ (tM_kindOf l (mCode N) (by omega)) (va_cwS 1 hts gX4_waited_X4_kindOf rfl rfl rfl (by decide +kernel) ⟨Nat.le_of_ble_eq_true rfl, Nat.le_of_ble_eq_true rfl⟩) rfl hl.1 rfl (Nat.le_of_ble_eq_true rfl) dX4_waited_18 (fun r_18 hw => ?_)
  subst hw
  refine g_calli (u := (N, J)) (g_runV (As := [.int (nI (kdN (mCode N)))]) (rest := [.int (nI (N 16 0))]) ⟨hx, hb, hml, hown, hts⟩ (tM_unitWritten l dC dI a cI cL cZ N J (kdN (mCode N)) hG hkd H.size) (cwV 1 hts gX4_waited_X4_unitWritten rfl rfl rfl (by decide +kernel) ⟨Nat.le_of_ble_eq_true rfl, Nat.le_of_ble_eq_true rfl⟩) (va_recv hK hP (ci := 4) (q0 := 0) rfl rfl) hK hP hD hS hZ rfl hl.1 rfl (Nat.le_of_ble_eq_true rfl) dX4_waited_21) (mW_L a cI cL cZ) hD hS (fun r_21 u H locs hw hP hD hS => ?_)
  obtain ⟨rfl, rfl⟩ := hw
  have hP : va_P (dC, dI) vwCl (mW a cI cL cZ N J) H := hP
  have hD : va_D (aA (mL a) s.heap.size) (mW a cI cL cZ N J) := hD
  refine s_calli (As := [.int (nI (N 16 0)), .int (nI (mUW N (kdN (mCode N))))]) (rest := []) ⟨hx, hb, hml, hown, hts⟩ (tM_greater l (N 16 0) (mUW N (kdN (mCode N))) (by omega) (by omega)) (va_cwS 2 hts gX4_waited_X4_greater rfl rfl rfl (by decide +kernel) ⟨Nat.le_of_ble_eq_true rfl, Nat.le_of_ble_eq_true rfl⟩) rfl hl.1 rfl (Nat.le_of_ble_eq_true rfl) dX4_waited_24 (fun r_24 hw => ?_)
  subst hw
  refine lv_istore (lv' := [(5, .int (nI (max (N 16 0) (mUW N (kdN (mCode N)))))), (4, .int (nI (N 16 0))), (3, .int (nI (mBeg N))), (0, .ref (a 0)), (1, .int (nI (w))), (2, .int (nI (t)))]) hx hb dX4_waited_27 hl (by decide) rfl (fun ls hl => ?_)
  refine lv_iload hx hb dX4_waited_29 (lv_at hl 0 rfl) ?_
  refine lv_aload_n hx hb dX4_waited_31 rfl (lv_at hl 3 rfl) ?_
  refine g_calli (u := (N, J)) (g_runV (As := []) (rest := [.int (nI (max (N 16 0) (mUW N (kdN (mCode N)))))]) ⟨hx, hb, hml, hown, hts⟩ (tM_sameWritten l dC dI a cI cL cZ N J hG H.size) (cwV 0 hts gX4_waited_X4_sameWritten rfl rfl rfl (by decide +kernel) ⟨Nat.le_of_ble_eq_true rfl, Nat.le_of_ble_eq_true rfl⟩) (va_recv hK hP (ci := 4) (q0 := 0) rfl rfl) hK hP hD hS hZ rfl hl.1 rfl (Nat.le_of_ble_eq_true rfl) dX4_waited_32) (mW_L a cI cL cZ) hD hS (fun r_32 u H locs hw hP hD hS => ?_)
  obtain ⟨rfl, rfl⟩ := hw
  have hP : va_P (dC, dI) vwCl (mW a cI cL cZ N J) H := hP
  have hD : va_D (aA (mL a) s.heap.size) (mW a cI cL cZ N J) := hD
  refine s_calli (As := [.int (nI (max (N 16 0) (mUW N (kdN (mCode N))))), .int (nI (mSW N))]) (rest := []) ⟨hx, hb, hml, hown, hts⟩ (tM_greater l (max (N 16 0) (mUW N (kdN (mCode N)))) (mSW N) (by omega) (by omega)) (va_cwS 2 hts gX4_waited_X4_greater rfl rfl rfl (by decide +kernel) ⟨Nat.le_of_ble_eq_true rfl, Nat.le_of_ble_eq_true rfl⟩) rfl hl.1 rfl (Nat.le_of_ble_eq_true rfl) dX4_waited_35 (fun r_35 hw => ?_)
  subst hw
  refine lv_istore (lv' := [(6, .int (nI (max (max (N 16 0) (mUW N (kdN (mCode N)))) (mSW N)))), (5, .int (nI (max (N 16 0) (mUW N (kdN (mCode N)))))), (4, .int (nI (N 16 0))), (3, .int (nI (mBeg N))), (0, .ref (a 0)), (1, .int (nI (w))), (2, .int (nI (t)))]) hx hb dX4_waited_38 hl (by decide) rfl (fun ls hl => ?_)
  refine lv_iload_n hx hb dX4_waited_40 rfl (lv_at hl 5 rfl) ?_
  refine n_if_ne (tgt := 50) hx hb (by omega) dX4_waited_41 (by decide) (fun c_41 => ?_) (fun c_41 => ?_)
  · refine lv_iload_n hx hb dX4_waited_50 rfl (lv_at hl 5 rfl) ?_
    refine lv_iconst (v := nI 1) hx hb dX4_waited_51 (by decide) ?_
    refine n_icmp_ne (tgt := 60) hx hb (by omega) (by omega) dX4_waited_52 (by decide) (fun c_52 => ?_) (fun c_52 => ?_)
    · refine lv_iload hx hb dX4_waited_60 (lv_at hl 1 rfl) ?_
      refine lv_istore (lv' := [(7, .int (nI (max (N 16 0) (mUW N (kdN (mCode N)))))), (6, .int (nI (max (max (N 16 0) (mUW N (kdN (mCode N)))) (mSW N)))), (5, .int (nI (max (N 16 0) (mUW N (kdN (mCode N)))))), (4, .int (nI (N 16 0))), (3, .int (nI (mBeg N))), (0, .ref (a 0)), (1, .int (nI (w))), (2, .int (nI (t)))]) hx hb dX4_waited_62 hl (by decide) rfl (fun ls hl => ?_)
      refine lv_iload_n hx hb dX4_waited_64 rfl (lv_at hl 6 rfl) ?_
      refine n_if_ne (tgt := 73) hx hb (by omega) dX4_waited_65 (by decide) (fun c_65 => ?_) (fun c_65 => absurd c_65 (by omega))
      refine lv_iload_n hx hb dX4_waited_73 rfl (lv_at hl 6 rfl) ?_
      refine lv_iconst (v := nI 1) hx hb dX4_waited_74 (by decide) ?_
      refine n_icmp_ne (tgt := 83) hx hb (by omega) (by omega) dX4_waited_75 (by decide) (fun c_75 => ?_) (fun c_75 => absurd c_75 (by omega))
      refine lv_iload hx hb dX4_waited_83 (lv_at hl 1 rfl) ?_
      refine lv_istore (lv' := [(8, .int (nI (max (max (N 16 0) (mUW N (kdN (mCode N)))) (mSW N)))), (7, .int (nI (max (N 16 0) (mUW N (kdN (mCode N)))))), (6, .int (nI (max (max (N 16 0) (mUW N (kdN (mCode N)))) (mSW N)))), (5, .int (nI (max (N 16 0) (mUW N (kdN (mCode N)))))), (4, .int (nI (N 16 0))), (3, .int (nI (mBeg N))), (0, .ref (a 0)), (1, .int (nI (w))), (2, .int (nI (t)))]) hx hb dX4_waited_85 hl (by decide) rfl (fun ls hl => ?_)
      refine lv_iload hx hb dX4_waited_87 (lv_at hl 1 rfl) ?_
      refine lv_iload_n hx hb dX4_waited_89 rfl (lv_at hl 5 rfl) ?_
      refine lv_iconst (v := nI 1) hx hb dX4_waited_90 (by decide) ?_
      refine n_sub hx hb (by omega) dX4_waited_91 ?_
      refine s_calli (As := [.int (nI (max (N 16 0) (mUW N (kdN (mCode N))))), .int (nI ((mBeg N) - 1))]) (rest := []) ⟨hx, hb, hml, hown, hts⟩ (tM_greater l (max (N 16 0) (mUW N (kdN (mCode N)))) (mBeg N - 1) (by omega) (by omega)) (va_cwS 2 hts gX4_waited_X4_greater rfl rfl rfl (by decide +kernel) ⟨Nat.le_of_ble_eq_true rfl, Nat.le_of_ble_eq_true rfl⟩) rfl hl.1 rfl (Nat.le_of_ble_eq_true rfl) dX4_waited_92 (fun r_92 hw => ?_)
      subst hw
      refine lv_istore (lv' := [(7, .int (nI (max (max (N 16 0) (mUW N (kdN (mCode N)))) (mBeg N - 1)))), (8, .int (nI (max (max (N 16 0) (mUW N (kdN (mCode N)))) (mSW N)))), (6, .int (nI (max (max (N 16 0) (mUW N (kdN (mCode N)))) (mSW N)))), (5, .int (nI (max (N 16 0) (mUW N (kdN (mCode N)))))), (4, .int (nI (N 16 0))), (3, .int (nI (mBeg N))), (0, .ref (a 0)), (1, .int (nI (w))), (2, .int (nI (t)))]) hx hb dX4_waited_95 hl (by decide) rfl (fun ls hl => ?_)
      refine lv_iload hx hb dX4_waited_97 (lv_at hl 1 rfl) ?_
      refine lv_iload_n hx hb dX4_waited_99 rfl (lv_at hl 8 rfl) ?_
      refine n_icmp_ge (tgt := 108) hx hb (by omega) (by omega) dX4_waited_100 (by decide) (fun c_100 => ?_) (fun c_100 => ?_)
      · refine lv_iload_n hx hb dX4_waited_108 rfl (lv_at hl 8 rfl) ?_
        refine lv_istore (lv' := [(8, .int (nI (t))), (7, .int (nI (max (max (N 16 0) (mUW N (kdN (mCode N)))) (mBeg N - 1)))), (6, .int (nI (max (max (N 16 0) (mUW N (kdN (mCode N)))) (mSW N)))), (5, .int (nI (max (N 16 0) (mUW N (kdN (mCode N)))))), (4, .int (nI (N 16 0))), (3, .int (nI (mBeg N))), (0, .ref (a 0)), (1, .int (nI (w))), (2, .int (nI (t)))]) hx hb dX4_waited_109 hl (by decide) rfl (fun ls hl => ?_)
        refine lv_iload hx hb dX4_waited_111 (lv_at hl 0 rfl) ?_
        refine lv_iload hx hb dX4_waited_113 (lv_at hl 1 rfl) ?_
        refine n_icmp_le (tgt := 126) hx hb (by omega) (by omega) dX4_waited_115 (by decide) (fun c_115 => ?_) (fun c_115 => ?_)
        · refine lv_iconst (v := nI 0) hx hb dX4_waited_126 (by decide) ?_
          exact g_reti hx hb hr hlocks (N, J) (⟨congrArg nI (by unfold mWt mHigh mLow; (repeat' split) <;> omega), rfl⟩) hP hS dX4_waited_127
        · refine lv_iload hx hb dX4_waited_118 (lv_at hl 0 rfl) ?_
          refine lv_iload hx hb dX4_waited_120 (lv_at hl 1 rfl) ?_
          refine n_sub hx hb (by omega) dX4_waited_122 ?_
          refine lv_goto (tgt := 127) hx hb dX4_waited_123 (by decide) ?_
          exact g_reti hx hb hr hlocks (N, J) (⟨congrArg nI (by unfold mWt mHigh mLow; (repeat' split) <;> omega), rfl⟩) hP hS dX4_waited_127
      · refine lv_iload hx hb dX4_waited_103 (lv_at hl 1 rfl) ?_
        refine lv_goto (tgt := 109) hx hb dX4_waited_105 (by decide) ?_
        refine lv_istore (lv' := [(8, .int (nI (max (max (N 16 0) (mUW N (kdN (mCode N)))) (mSW N)))), (7, .int (nI (max (max (N 16 0) (mUW N (kdN (mCode N)))) (mBeg N - 1)))), (6, .int (nI (max (max (N 16 0) (mUW N (kdN (mCode N)))) (mSW N)))), (5, .int (nI (max (N 16 0) (mUW N (kdN (mCode N)))))), (4, .int (nI (N 16 0))), (3, .int (nI (mBeg N))), (0, .ref (a 0)), (1, .int (nI (w))), (2, .int (nI (t)))]) hx hb dX4_waited_109 hl (by decide) rfl (fun ls hl => ?_)
        refine lv_iload hx hb dX4_waited_111 (lv_at hl 0 rfl) ?_
        refine lv_iload hx hb dX4_waited_113 (lv_at hl 1 rfl) ?_
        refine n_icmp_le (tgt := 126) hx hb (by omega) (by omega) dX4_waited_115 (by decide) (fun c_115 => ?_) (fun c_115 => ?_)
        · refine lv_iconst (v := nI 0) hx hb dX4_waited_126 (by decide) ?_
          exact g_reti hx hb hr hlocks (N, J) (⟨congrArg nI (by unfold mWt mHigh mLow; (repeat' split) <;> omega), rfl⟩) hP hS dX4_waited_127
        · refine lv_iload hx hb dX4_waited_118 (lv_at hl 0 rfl) ?_
          refine lv_iload hx hb dX4_waited_120 (lv_at hl 1 rfl) ?_
          refine n_sub hx hb (by omega) dX4_waited_122 ?_
          refine lv_goto (tgt := 127) hx hb dX4_waited_123 (by decide) ?_
          exact g_reti hx hb hr hlocks (N, J) (⟨congrArg nI (by unfold mWt mHigh mLow; (repeat' split) <;> omega), rfl⟩) hP hS dX4_waited_127
    · refine lv_iload hx hb dX4_waited_55 (lv_at hl 2 rfl) ?_
      refine lv_goto (tgt := 62) hx hb dX4_waited_57 (by decide) ?_
      refine lv_istore (lv' := [(7, .int (nI (N 16 0))), (6, .int (nI (max (max (N 16 0) (mUW N (kdN (mCode N)))) (mSW N)))), (5, .int (nI (max (N 16 0) (mUW N (kdN (mCode N)))))), (4, .int (nI (N 16 0))), (3, .int (nI (mBeg N))), (0, .ref (a 0)), (1, .int (nI (w))), (2, .int (nI (t)))]) hx hb dX4_waited_62 hl (by decide) rfl (fun ls hl => ?_)
      refine lv_iload_n hx hb dX4_waited_64 rfl (lv_at hl 6 rfl) ?_
      refine n_if_ne (tgt := 73) hx hb (by omega) dX4_waited_65 (by decide) (fun c_65 => ?_) (fun c_65 => absurd c_65 (by omega))
      refine lv_iload_n hx hb dX4_waited_73 rfl (lv_at hl 6 rfl) ?_
      refine lv_iconst (v := nI 1) hx hb dX4_waited_74 (by decide) ?_
      refine n_icmp_ne (tgt := 83) hx hb (by omega) (by omega) dX4_waited_75 (by decide) (fun c_75 => absurd c_75 (by omega)) (fun c_75 => ?_)
      refine lv_iload hx hb dX4_waited_78 (lv_at hl 2 rfl) ?_
      refine lv_goto (tgt := 85) hx hb dX4_waited_80 (by decide) ?_
      refine lv_istore (lv' := [(8, .int (nI (max (N 16 0) (mUW N (kdN (mCode N)))))), (7, .int (nI (N 16 0))), (6, .int (nI (max (max (N 16 0) (mUW N (kdN (mCode N)))) (mSW N)))), (5, .int (nI (max (N 16 0) (mUW N (kdN (mCode N)))))), (4, .int (nI (N 16 0))), (3, .int (nI (mBeg N))), (0, .ref (a 0)), (1, .int (nI (w))), (2, .int (nI (t)))]) hx hb dX4_waited_85 hl (by decide) rfl (fun ls hl => ?_)
      refine lv_iload hx hb dX4_waited_87 (lv_at hl 1 rfl) ?_
      refine lv_iload_n hx hb dX4_waited_89 rfl (lv_at hl 5 rfl) ?_
      refine lv_iconst (v := nI 1) hx hb dX4_waited_90 (by decide) ?_
      refine n_sub hx hb (by omega) dX4_waited_91 ?_
      refine s_calli (As := [.int (nI (N 16 0)), .int (nI ((mBeg N) - 1))]) (rest := []) ⟨hx, hb, hml, hown, hts⟩ (tM_greater l (N 16 0) (mBeg N - 1) (by omega) (by omega)) (va_cwS 2 hts gX4_waited_X4_greater rfl rfl rfl (by decide +kernel) ⟨Nat.le_of_ble_eq_true rfl, Nat.le_of_ble_eq_true rfl⟩) rfl hl.1 rfl (Nat.le_of_ble_eq_true rfl) dX4_waited_92 (fun r_92 hw => ?_)
      subst hw
      refine lv_istore (lv' := [(7, .int (nI (max (N 16 0) (mBeg N - 1)))), (8, .int (nI (max (N 16 0) (mUW N (kdN (mCode N)))))), (6, .int (nI (max (max (N 16 0) (mUW N (kdN (mCode N)))) (mSW N)))), (5, .int (nI (max (N 16 0) (mUW N (kdN (mCode N)))))), (4, .int (nI (N 16 0))), (3, .int (nI (mBeg N))), (0, .ref (a 0)), (1, .int (nI (w))), (2, .int (nI (t)))]) hx hb dX4_waited_95 hl (by decide) rfl (fun ls hl => ?_)
      refine lv_iload hx hb dX4_waited_97 (lv_at hl 1 rfl) ?_
      refine lv_iload_n hx hb dX4_waited_99 rfl (lv_at hl 8 rfl) ?_
      refine n_icmp_ge (tgt := 108) hx hb (by omega) (by omega) dX4_waited_100 (by decide) (fun c_100 => ?_) (fun c_100 => ?_)
      · refine lv_iload_n hx hb dX4_waited_108 rfl (lv_at hl 8 rfl) ?_
        refine lv_istore (lv' := [(8, .int (nI (t))), (7, .int (nI (max (N 16 0) (mBeg N - 1)))), (6, .int (nI (max (max (N 16 0) (mUW N (kdN (mCode N)))) (mSW N)))), (5, .int (nI (max (N 16 0) (mUW N (kdN (mCode N)))))), (4, .int (nI (N 16 0))), (3, .int (nI (mBeg N))), (0, .ref (a 0)), (1, .int (nI (w))), (2, .int (nI (t)))]) hx hb dX4_waited_109 hl (by decide) rfl (fun ls hl => ?_)
        refine lv_iload hx hb dX4_waited_111 (lv_at hl 0 rfl) ?_
        refine lv_iload hx hb dX4_waited_113 (lv_at hl 1 rfl) ?_
        refine n_icmp_le (tgt := 126) hx hb (by omega) (by omega) dX4_waited_115 (by decide) (fun c_115 => ?_) (fun c_115 => ?_)
        · refine lv_iconst (v := nI 0) hx hb dX4_waited_126 (by decide) ?_
          exact g_reti hx hb hr hlocks (N, J) (⟨congrArg nI (by unfold mWt mHigh mLow; (repeat' split) <;> omega), rfl⟩) hP hS dX4_waited_127
        · refine lv_iload hx hb dX4_waited_118 (lv_at hl 0 rfl) ?_
          refine lv_iload hx hb dX4_waited_120 (lv_at hl 1 rfl) ?_
          refine n_sub hx hb (by omega) dX4_waited_122 ?_
          refine lv_goto (tgt := 127) hx hb dX4_waited_123 (by decide) ?_
          exact g_reti hx hb hr hlocks (N, J) (⟨congrArg nI (by unfold mWt mHigh mLow; (repeat' split) <;> omega), rfl⟩) hP hS dX4_waited_127
      · refine lv_iload hx hb dX4_waited_103 (lv_at hl 1 rfl) ?_
        refine lv_goto (tgt := 109) hx hb dX4_waited_105 (by decide) ?_
        refine lv_istore (lv' := [(8, .int (nI (max (N 16 0) (mUW N (kdN (mCode N)))))), (7, .int (nI (max (N 16 0) (mBeg N - 1)))), (6, .int (nI (max (max (N 16 0) (mUW N (kdN (mCode N)))) (mSW N)))), (5, .int (nI (max (N 16 0) (mUW N (kdN (mCode N)))))), (4, .int (nI (N 16 0))), (3, .int (nI (mBeg N))), (0, .ref (a 0)), (1, .int (nI (w))), (2, .int (nI (t)))]) hx hb dX4_waited_109 hl (by decide) rfl (fun ls hl => ?_)
        refine lv_iload hx hb dX4_waited_111 (lv_at hl 0 rfl) ?_
        refine lv_iload hx hb dX4_waited_113 (lv_at hl 1 rfl) ?_
        refine n_icmp_le (tgt := 126) hx hb (by omega) (by omega) dX4_waited_115 (by decide) (fun c_115 => ?_) (fun c_115 => ?_)
        · refine lv_iconst (v := nI 0) hx hb dX4_waited_126 (by decide) ?_
          exact g_reti hx hb hr hlocks (N, J) (⟨congrArg nI (by unfold mWt mHigh mLow; (repeat' split) <;> omega), rfl⟩) hP hS dX4_waited_127
        · refine lv_iload hx hb dX4_waited_118 (lv_at hl 0 rfl) ?_
          refine lv_iload hx hb dX4_waited_120 (lv_at hl 1 rfl) ?_
          refine n_sub hx hb (by omega) dX4_waited_122 ?_
          refine lv_goto (tgt := 127) hx hb dX4_waited_123 (by decide) ?_
          exact g_reti hx hb hr hlocks (N, J) (⟨congrArg nI (by unfold mWt mHigh mLow; (repeat' split) <;> omega), rfl⟩) hP hS dX4_waited_127
  · refine lv_iload_n hx hb dX4_waited_44 rfl (lv_at hl 3 rfl) ?_
    refine lv_iconst (v := nI 1) hx hb dX4_waited_45 (by decide) ?_
    refine n_sub hx hb (by omega) dX4_waited_46 ?_
    refine lv_goto (tgt := 62) hx hb dX4_waited_47 (by decide) ?_
    refine lv_istore (lv' := [(7, .int (nI ((mBeg N) - 1))), (6, .int (nI (max (max (N 16 0) (mUW N (kdN (mCode N)))) (mSW N)))), (5, .int (nI (max (N 16 0) (mUW N (kdN (mCode N)))))), (4, .int (nI (N 16 0))), (3, .int (nI (mBeg N))), (0, .ref (a 0)), (1, .int (nI (w))), (2, .int (nI (t)))]) hx hb dX4_waited_62 hl (by decide) rfl (fun ls hl => ?_)
    refine lv_iload_n hx hb dX4_waited_64 rfl (lv_at hl 6 rfl) ?_
    refine n_if_ne (tgt := 73) hx hb (by omega) dX4_waited_65 (by decide) (fun c_65 => absurd c_65 (by omega)) (fun c_65 => ?_)
    refine lv_iload hx hb dX4_waited_68 (lv_at hl 3 rfl) ?_
    refine lv_goto (tgt := 85) hx hb dX4_waited_70 (by decide) ?_
    refine lv_istore (lv' := [(8, .int (nI (N 16 0))), (7, .int (nI ((mBeg N) - 1))), (6, .int (nI (max (max (N 16 0) (mUW N (kdN (mCode N)))) (mSW N)))), (5, .int (nI (max (N 16 0) (mUW N (kdN (mCode N)))))), (4, .int (nI (N 16 0))), (3, .int (nI (mBeg N))), (0, .ref (a 0)), (1, .int (nI (w))), (2, .int (nI (t)))]) hx hb dX4_waited_85 hl (by decide) rfl (fun ls hl => ?_)
    refine lv_iload hx hb dX4_waited_87 (lv_at hl 1 rfl) ?_
    refine lv_iload_n hx hb dX4_waited_89 rfl (lv_at hl 5 rfl) ?_
    refine lv_iconst (v := nI 1) hx hb dX4_waited_90 (by decide) ?_
    refine n_sub hx hb (by omega) dX4_waited_91 ?_
    refine s_calli (As := [.int (nI ((mBeg N) - 1)), .int (nI ((mBeg N) - 1))]) (rest := []) ⟨hx, hb, hml, hown, hts⟩ (tM_greater l ((mBeg N) - 1) (mBeg N - 1) (by omega) (by omega)) (va_cwS 2 hts gX4_waited_X4_greater rfl rfl rfl (by decide +kernel) ⟨Nat.le_of_ble_eq_true rfl, Nat.le_of_ble_eq_true rfl⟩) rfl hl.1 rfl (Nat.le_of_ble_eq_true rfl) dX4_waited_92 (fun r_92 hw => ?_)
    subst hw
    refine lv_istore (lv' := [(7, .int (nI (max ((mBeg N) - 1) (mBeg N - 1)))), (8, .int (nI (N 16 0))), (6, .int (nI (max (max (N 16 0) (mUW N (kdN (mCode N)))) (mSW N)))), (5, .int (nI (max (N 16 0) (mUW N (kdN (mCode N)))))), (4, .int (nI (N 16 0))), (3, .int (nI (mBeg N))), (0, .ref (a 0)), (1, .int (nI (w))), (2, .int (nI (t)))]) hx hb dX4_waited_95 hl (by decide) rfl (fun ls hl => ?_)
    refine lv_iload hx hb dX4_waited_97 (lv_at hl 1 rfl) ?_
    refine lv_iload_n hx hb dX4_waited_99 rfl (lv_at hl 8 rfl) ?_
    refine n_icmp_ge (tgt := 108) hx hb (by omega) (by omega) dX4_waited_100 (by decide) (fun c_100 => ?_) (fun c_100 => ?_)
    · refine lv_iload_n hx hb dX4_waited_108 rfl (lv_at hl 8 rfl) ?_
      refine lv_istore (lv' := [(8, .int (nI (t))), (7, .int (nI (max ((mBeg N) - 1) (mBeg N - 1)))), (6, .int (nI (max (max (N 16 0) (mUW N (kdN (mCode N)))) (mSW N)))), (5, .int (nI (max (N 16 0) (mUW N (kdN (mCode N)))))), (4, .int (nI (N 16 0))), (3, .int (nI (mBeg N))), (0, .ref (a 0)), (1, .int (nI (w))), (2, .int (nI (t)))]) hx hb dX4_waited_109 hl (by decide) rfl (fun ls hl => ?_)
      refine lv_iload hx hb dX4_waited_111 (lv_at hl 0 rfl) ?_
      refine lv_iload hx hb dX4_waited_113 (lv_at hl 1 rfl) ?_
      refine n_icmp_le (tgt := 126) hx hb (by omega) (by omega) dX4_waited_115 (by decide) (fun c_115 => ?_) (fun c_115 => ?_)
      · refine lv_iconst (v := nI 0) hx hb dX4_waited_126 (by decide) ?_
        exact g_reti hx hb hr hlocks (N, J) (⟨congrArg nI (by unfold mWt mHigh mLow; (repeat' split) <;> omega), rfl⟩) hP hS dX4_waited_127
      · refine lv_iload hx hb dX4_waited_118 (lv_at hl 0 rfl) ?_
        refine lv_iload hx hb dX4_waited_120 (lv_at hl 1 rfl) ?_
        refine n_sub hx hb (by omega) dX4_waited_122 ?_
        refine lv_goto (tgt := 127) hx hb dX4_waited_123 (by decide) ?_
        exact g_reti hx hb hr hlocks (N, J) (⟨congrArg nI (by unfold mWt mHigh mLow; (repeat' split) <;> omega), rfl⟩) hP hS dX4_waited_127
    · refine lv_iload hx hb dX4_waited_103 (lv_at hl 1 rfl) ?_
      refine lv_goto (tgt := 109) hx hb dX4_waited_105 (by decide) ?_
      refine lv_istore (lv' := [(8, .int (nI (N 16 0))), (7, .int (nI (max ((mBeg N) - 1) (mBeg N - 1)))), (6, .int (nI (max (max (N 16 0) (mUW N (kdN (mCode N)))) (mSW N)))), (5, .int (nI (max (N 16 0) (mUW N (kdN (mCode N)))))), (4, .int (nI (N 16 0))), (3, .int (nI (mBeg N))), (0, .ref (a 0)), (1, .int (nI (w))), (2, .int (nI (t)))]) hx hb dX4_waited_109 hl (by decide) rfl (fun ls hl => ?_)
      refine lv_iload hx hb dX4_waited_111 (lv_at hl 0 rfl) ?_
      refine lv_iload hx hb dX4_waited_113 (lv_at hl 1 rfl) ?_
      refine n_icmp_le (tgt := 126) hx hb (by omega) (by omega) dX4_waited_115 (by decide) (fun c_115 => ?_) (fun c_115 => ?_)
      · refine lv_iconst (v := nI 0) hx hb dX4_waited_126 (by decide) ?_
        exact g_reti hx hb hr hlocks (N, J) (⟨congrArg nI (by unfold mWt mHigh mLow; (repeat' split) <;> omega), rfl⟩) hP hS dX4_waited_127
      · refine lv_iload hx hb dX4_waited_118 (lv_at hl 0 rfl) ?_
        refine lv_iload hx hb dX4_waited_120 (lv_at hl 1 rfl) ?_
        refine n_sub hx hb (by omega) dX4_waited_122 ?_
        refine lv_goto (tgt := 127) hx hb dX4_waited_123 (by decide) ?_
        exact g_reti hx hb hr hlocks (N, J) (⟨congrArg nI (by unfold mWt mHigh mLow; (repeat' split) <;> omega), rfl⟩) hP hS dX4_waited_127
