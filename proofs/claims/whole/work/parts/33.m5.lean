/-! ints against numbers -/
theorem i_lt0 (v : Int32) : v < 0 ↔ v.toInt < 0 := Int32.lt_iff_toInt_lt
theorem i_ge0 (v : Int32) : 0 ≤ v ↔ 0 ≤ v.toInt := Int32.le_iff_toInt_le
theorem i_eq0 (v : Int32) : v = 0 ↔ v.toInt = 0 := by rw [← Int32.toInt_inj]; exact Iff.rfl
theorem i_ti {c : Nat} (h : c < 2147483648) : (nI c).toInt = c := nI_toInt (by omega)
theorem i_ltc (v : Int32) (c : Nat) (h : c < 2147483648) : v < nI c ↔ v.toInt < c := by rw [Int32.lt_iff_toInt_lt, i_ti h]
theorem i_lec (v : Int32) (c : Nat) (h : c < 2147483648) : v ≤ nI c ↔ v.toInt ≤ c := by rw [Int32.le_iff_toInt_le, i_ti h]
theorem i_cle (v : Int32) (c : Nat) (h : c < 2147483648) : nI c ≤ v ↔ c ≤ v.toInt := by rw [Int32.le_iff_toInt_le, i_ti h]
theorem i_clt (v : Int32) (c : Nat) (h : c < 2147483648) : nI c < v ↔ c < v.toInt := by rw [Int32.lt_iff_toInt_lt, i_ti h]
theorem i_eqc (v : Int32) (c : Nat) (h : c < 2147483648) : v = nI c ↔ v.toInt = c := by rw [← Int32.toInt_inj, i_ti h]
theorem i_nat {v : Int32} {c : Nat} (h0 : 0 ≤ v.toInt) (h : v.toInt < c) (hc : c < 2147483648) : ∃ j, j < c ∧ v = nI j := by
  refine ⟨v.toInt.toNat, by omega, ?_⟩
  rw [i_eqc _ _ (by omega)]
  omega
set_option maxHeartbeats 4000000 in
set_option maxRecDepth 100000 in
theorem tM_put_bad (l : Launch) (dC : Nat → ClassId) (dI : Nat → Nat → Nat) (a : Nat → Nat) (cI cL cZ : ClassId) (N : Nat → Nat → Nat) (J : Nat → Nat → Int64) (v1 : Int32) (v2 : Int32) (v3 : Int32) (v4 : Int32) (v5 : Int32) (hcy : N 11 0 < 2147483648) (hb0 : ¬ (N 11 0 = 0 ∧ 0 ≤ v1.toInt ∧ v1.toInt < 256 ∧ 0 ≤ v2.toInt ∧ v2.toInt < 19 ∧ 0 ≤ v3.toInt ∧ v3.toInt < 16 ∧ 0 ≤ v4.toInt ∧ v4.toInt < 16)) : MetI l yX4_put wsX4_put ({ frames := 0, cells := 0, slots := 0, locals := 0 } : Room) dC dI (gT cI cL cZ) (mF a cI cL cZ) (mL a) (N, J) [.ref (a 0), .int (v1), .int (v2), .int (v3), .int (v4), .int (v5)] (fun r u => r = nI 0 ∧ u = (uN N 26 0 0, J)) := by
  intro sz
  refine g_entry (bytes := cX4_put) (maxL := 6) (ret := (some .boolean)) (Qc := fun sz => va_Qi (fun r u => r = nI 0 ∧ u = (uN N 26 0 0, J)) (gB dC dI (mF a cI cL cZ)) (aA (mL a) sz)) (by decide) rfl (Nat.le_of_ble_eq_true rfl) rfl ?_
  intro p e s m below meth c ls hx hb hr hml hts hown hlocks hK hP hD hS hZ hl
  have hP : va_P (dC, dI) vwCl (mW a cI cL cZ N J) s.heap := hP
  have hD : va_D (aA (mL a) s.heap.size) (mW a cI cL cZ N J) := hD
  have hown : s.vm.findClass RX4 = some m.cls := hown
  have hl : lv_has ls 6 [(0, .ref (a 0)), (1, .int (v1)), (2, .int (v2)), (3, .int (v3)), (4, .int (v4)), (5, .int (v5))] := hl
  have hi4 : ∀ w ∈ wsX40, w ∈ wsX4_put := by decide +kernel
  have k66 := hts (.fieldLink RX4 66 "ScoreMachineModel" "thrown" "I") (by decide +kernel)
  have k76 := hts (.fieldLink RX4 76 "ScoreMachineModel" "cycle" "I") (by decide +kernel)
  refine lv_aload_n hx hb dX4_put_0 rfl (lv_at hl 0 rfl) ?_
  refine lv_iconst (v := nI 0) hx hb dX4_put_1 (by decide) ?_
  refine mp_26 hx hb hts hi4 hown hK hP hD hS k66 dX4_put_2 (fun H locs hP hD hS => ?_)
  refine lv_aload_n hx hb dX4_put_5 rfl (lv_at hl 0 rfl) ?_
  refine mg_11 (v := N 11 0) hx hb hts hi4 hown hK hP k76 rfl dX4_put_6 ?_
  refine n_if_gt (tgt := 55) hx hb (by omega) dX4_put_9 (by decide) (fun c_9 => ?_) (fun c_9 => ?_)
  · refine lv_iconst (v := nI 0) hx hb dX4_put_55 (by decide) ?_
    exact g_retz hx hb hr hlocks (by decide) ((uN N 26 (0) (0)), J) (⟨rfl, rfl⟩) hP hS dX4_put_56
  · refine lv_iload_n hx hb dX4_put_12 rfl (lv_at hl 1 rfl) ?_
    refine lv_if_lt (tgt := 55) hx hb dX4_put_13 (by decide) (fun c_13 => ?_) (fun c_13 => ?_)
    · refine lv_iconst (v := nI 0) hx hb dX4_put_55 (by decide) ?_
      exact g_retz hx hb hr hlocks (by decide) ((uN N 26 (0) (0)), J) (⟨rfl, rfl⟩) hP hS dX4_put_56
    · refine lv_iload_n hx hb dX4_put_16 rfl (lv_at hl 1 rfl) ?_
      refine lv_sipush (v := nI 256) hx hb dX4_put_17 (by decide) ?_
      refine lv_icmp_ge (tgt := 55) hx hb dX4_put_20 (by decide) (fun c_20 => ?_) (fun c_20 => ?_)
      · refine lv_iconst (v := nI 0) hx hb dX4_put_55 (by decide) ?_
        exact g_retz hx hb hr hlocks (by decide) ((uN N 26 (0) (0)), J) (⟨rfl, rfl⟩) hP hS dX4_put_56
      · refine lv_iload_n hx hb dX4_put_23 rfl (lv_at hl 2 rfl) ?_
        refine lv_if_lt (tgt := 55) hx hb dX4_put_24 (by decide) (fun c_24 => ?_) (fun c_24 => ?_)
        · refine lv_iconst (v := nI 0) hx hb dX4_put_55 (by decide) ?_
          exact g_retz hx hb hr hlocks (by decide) ((uN N 26 (0) (0)), J) (⟨rfl, rfl⟩) hP hS dX4_put_56
        · refine lv_iload_n hx hb dX4_put_27 rfl (lv_at hl 2 rfl) ?_
          refine lv_bipush (v := nI 18) hx hb dX4_put_28 (by decide) ?_
          refine lv_icmp_gt (tgt := 55) hx hb dX4_put_30 (by decide) (fun c_30 => ?_) (fun c_30 => ?_)
          · refine lv_iconst (v := nI 0) hx hb dX4_put_55 (by decide) ?_
            exact g_retz hx hb hr hlocks (by decide) ((uN N 26 (0) (0)), J) (⟨rfl, rfl⟩) hP hS dX4_put_56
          · refine lv_iload_n hx hb dX4_put_33 rfl (lv_at hl 3 rfl) ?_
            refine lv_if_lt (tgt := 55) hx hb dX4_put_34 (by decide) (fun c_34 => ?_) (fun c_34 => ?_)
            · refine lv_iconst (v := nI 0) hx hb dX4_put_55 (by decide) ?_
              exact g_retz hx hb hr hlocks (by decide) ((uN N 26 (0) (0)), J) (⟨rfl, rfl⟩) hP hS dX4_put_56
            · refine lv_iload_n hx hb dX4_put_37 rfl (lv_at hl 3 rfl) ?_
              refine lv_bipush (v := nI 15) hx hb dX4_put_38 (by decide) ?_
              refine lv_icmp_gt (tgt := 55) hx hb dX4_put_40 (by decide) (fun c_40 => ?_) (fun c_40 => ?_)
              · refine lv_iconst (v := nI 0) hx hb dX4_put_55 (by decide) ?_
                exact g_retz hx hb hr hlocks (by decide) ((uN N 26 (0) (0)), J) (⟨rfl, rfl⟩) hP hS dX4_put_56
              · refine lv_iload hx hb dX4_put_43 (lv_at hl 4 rfl) ?_
                refine lv_if_lt (tgt := 55) hx hb dX4_put_45 (by decide) (fun c_45 => ?_) (fun c_45 => ?_)
                · refine lv_iconst (v := nI 0) hx hb dX4_put_55 (by decide) ?_
                  exact g_retz hx hb hr hlocks (by decide) ((uN N 26 (0) (0)), J) (⟨rfl, rfl⟩) hP hS dX4_put_56
                · refine lv_iload hx hb dX4_put_48 (lv_at hl 4 rfl) ?_
                  refine lv_bipush (v := nI 15) hx hb dX4_put_50 (by decide) ?_
                  refine lv_icmp_le (tgt := 57) hx hb dX4_put_52 (by decide) (fun c_52 => absurd c_52 (by simp (disch := first | decide | assumption) only [i_lt0, i_ge0, i_ltc, i_lec, i_cle, i_clt, i_eqc, i_eq0, Int32.not_lt, Int32.not_le] at *; omega)) (fun c_52 => ?_)
                  refine lv_iconst (v := nI 0) hx hb dX4_put_55 (by decide) ?_
                  exact g_retz hx hb hr hlocks (by decide) ((uN N 26 (0) (0)), J) (⟨rfl, rfl⟩) hP hS dX4_put_56
set_option maxHeartbeats 4000000 in
set_option maxRecDepth 100000 in
theorem tM_units_bad (l : Launch) (dC : Nat → ClassId) (dI : Nat → Nat → Nat) (a : Nat → Nat) (cI cL cZ : ClassId) (N : Nat → Nat → Nat) (J : Nat → Nat → Int64) (v1 : Int32) (v2 : Int32) (hcy : N 11 0 < 2147483648) (hb0 : ¬ (N 11 0 = 0 ∧ 0 ≤ v1.toInt ∧ v1.toInt < 4 ∧ 1 ≤ v2.toInt ∧ v2.toInt < 4)) : MetI l yX4_units wsX4_units ({ frames := 0, cells := 0, slots := 0, locals := 0 } : Room) dC dI (gT cI cL cZ) (mF a cI cL cZ) (mL a) (N, J) [.ref (a 0), .int (v1), .int (v2)] (fun r u => r = nI 0 ∧ u = (uN N 26 0 0, J)) := by
  intro sz
  refine g_entry (bytes := cX4_units) (maxL := 3) (ret := (some .boolean)) (Qc := fun sz => va_Qi (fun r u => r = nI 0 ∧ u = (uN N 26 0 0, J)) (gB dC dI (mF a cI cL cZ)) (aA (mL a) sz)) (by decide) rfl (Nat.le_of_ble_eq_true rfl) rfl ?_
  intro p e s m below meth c ls hx hb hr hml hts hown hlocks hK hP hD hS hZ hl
  have hP : va_P (dC, dI) vwCl (mW a cI cL cZ N J) s.heap := hP
  have hD : va_D (aA (mL a) s.heap.size) (mW a cI cL cZ N J) := hD
  have hown : s.vm.findClass RX4 = some m.cls := hown
  have hl : lv_has ls 3 [(0, .ref (a 0)), (1, .int (v1)), (2, .int (v2))] := hl
  have hi4 : ∀ w ∈ wsX40, w ∈ wsX4_units := by decide +kernel
  have k66 := hts (.fieldLink RX4 66 "ScoreMachineModel" "thrown" "I") (by decide +kernel)
  have k76 := hts (.fieldLink RX4 76 "ScoreMachineModel" "cycle" "I") (by decide +kernel)
  refine lv_aload_n hx hb dX4_units_0 rfl (lv_at hl 0 rfl) ?_
  refine lv_iconst (v := nI 0) hx hb dX4_units_1 (by decide) ?_
  refine mp_26 hx hb hts hi4 hown hK hP hD hS k66 dX4_units_2 (fun H locs hP hD hS => ?_)
  refine lv_aload_n hx hb dX4_units_5 rfl (lv_at hl 0 rfl) ?_
  refine mg_11 (v := N 11 0) hx hb hts hi4 hown hK hP k76 rfl dX4_units_6 ?_
  refine n_if_gt (tgt := 31) hx hb (by omega) dX4_units_9 (by decide) (fun c_9 => ?_) (fun c_9 => ?_)
  · refine lv_iconst (v := nI 0) hx hb dX4_units_31 (by decide) ?_
    exact g_retz hx hb hr hlocks (by decide) ((uN N 26 (0) (0)), J) (⟨rfl, rfl⟩) hP hS dX4_units_32
  · refine lv_iload_n hx hb dX4_units_12 rfl (lv_at hl 1 rfl) ?_
    refine lv_if_lt (tgt := 31) hx hb dX4_units_13 (by decide) (fun c_13 => ?_) (fun c_13 => ?_)
    · refine lv_iconst (v := nI 0) hx hb dX4_units_31 (by decide) ?_
      exact g_retz hx hb hr hlocks (by decide) ((uN N 26 (0) (0)), J) (⟨rfl, rfl⟩) hP hS dX4_units_32
    · refine lv_iload_n hx hb dX4_units_16 rfl (lv_at hl 1 rfl) ?_
      refine lv_iconst (v := nI 3) hx hb dX4_units_17 (by decide) ?_
      refine lv_icmp_gt (tgt := 31) hx hb dX4_units_18 (by decide) (fun c_18 => ?_) (fun c_18 => ?_)
      · refine lv_iconst (v := nI 0) hx hb dX4_units_31 (by decide) ?_
        exact g_retz hx hb hr hlocks (by decide) ((uN N 26 (0) (0)), J) (⟨rfl, rfl⟩) hP hS dX4_units_32
      · refine lv_iload_n hx hb dX4_units_21 rfl (lv_at hl 2 rfl) ?_
        refine lv_iconst (v := nI 1) hx hb dX4_units_22 (by decide) ?_
        refine lv_icmp_lt (tgt := 31) hx hb dX4_units_23 (by decide) (fun c_23 => ?_) (fun c_23 => ?_)
        · refine lv_iconst (v := nI 0) hx hb dX4_units_31 (by decide) ?_
          exact g_retz hx hb hr hlocks (by decide) ((uN N 26 (0) (0)), J) (⟨rfl, rfl⟩) hP hS dX4_units_32
        · refine lv_iload_n hx hb dX4_units_26 rfl (lv_at hl 2 rfl) ?_
          refine lv_iconst (v := nI 3) hx hb dX4_units_27 (by decide) ?_
          refine lv_icmp_le (tgt := 33) hx hb dX4_units_28 (by decide) (fun c_28 => absurd c_28 (by simp (disch := first | decide | assumption) only [i_lt0, i_ge0, i_ltc, i_lec, i_cle, i_clt, i_eqc, i_eq0, Int32.not_lt, Int32.not_le] at *; omega)) (fun c_28 => ?_)
          refine lv_iconst (v := nI 0) hx hb dX4_units_31 (by decide) ?_
          exact g_retz hx hb hr hlocks (by decide) ((uN N 26 (0) (0)), J) (⟨rfl, rfl⟩) hP hS dX4_units_32
set_option maxHeartbeats 4000000 in
set_option maxRecDepth 100000 in
theorem tM_latency_bad (l : Launch) (dC : Nat → ClassId) (dI : Nat → Nat → Nat) (a : Nat → Nat) (cI cL cZ : ClassId) (N : Nat → Nat → Nat) (J : Nat → Nat → Int64) (v1 : Int32) (v2 : Int32) (hcy : N 11 0 < 2147483648) (hb0 : ¬ (N 11 0 = 0 ∧ 0 ≤ v1.toInt ∧ v1.toInt < 6 ∧ 1 ≤ v2.toInt ∧ v2.toInt < 31)) : MetI l yX4_latency wsX4_latency ({ frames := 0, cells := 0, slots := 0, locals := 0 } : Room) dC dI (gT cI cL cZ) (mF a cI cL cZ) (mL a) (N, J) [.ref (a 0), .int (v1), .int (v2)] (fun r u => r = nI 0 ∧ u = (uN N 26 0 0, J)) := by
  intro sz
  refine g_entry (bytes := cX4_latency) (maxL := 3) (ret := (some .boolean)) (Qc := fun sz => va_Qi (fun r u => r = nI 0 ∧ u = (uN N 26 0 0, J)) (gB dC dI (mF a cI cL cZ)) (aA (mL a) sz)) (by decide) rfl (Nat.le_of_ble_eq_true rfl) rfl ?_
  intro p e s m below meth c ls hx hb hr hml hts hown hlocks hK hP hD hS hZ hl
  have hP : va_P (dC, dI) vwCl (mW a cI cL cZ N J) s.heap := hP
  have hD : va_D (aA (mL a) s.heap.size) (mW a cI cL cZ N J) := hD
  have hown : s.vm.findClass RX4 = some m.cls := hown
  have hl : lv_has ls 3 [(0, .ref (a 0)), (1, .int (v1)), (2, .int (v2))] := hl
  have hi4 : ∀ w ∈ wsX40, w ∈ wsX4_latency := by decide +kernel
  have k66 := hts (.fieldLink RX4 66 "ScoreMachineModel" "thrown" "I") (by decide +kernel)
  have k76 := hts (.fieldLink RX4 76 "ScoreMachineModel" "cycle" "I") (by decide +kernel)
  refine lv_aload_n hx hb dX4_latency_0 rfl (lv_at hl 0 rfl) ?_
  refine lv_iconst (v := nI 0) hx hb dX4_latency_1 (by decide) ?_
  refine mp_26 hx hb hts hi4 hown hK hP hD hS k66 dX4_latency_2 (fun H locs hP hD hS => ?_)
  refine lv_aload_n hx hb dX4_latency_5 rfl (lv_at hl 0 rfl) ?_
  refine mg_11 (v := N 11 0) hx hb hts hi4 hown hK hP k76 rfl dX4_latency_6 ?_
  refine n_if_gt (tgt := 32) hx hb (by omega) dX4_latency_9 (by decide) (fun c_9 => ?_) (fun c_9 => ?_)
  · refine lv_iconst (v := nI 0) hx hb dX4_latency_32 (by decide) ?_
    exact g_retz hx hb hr hlocks (by decide) ((uN N 26 (0) (0)), J) (⟨rfl, rfl⟩) hP hS dX4_latency_33
  · refine lv_iload_n hx hb dX4_latency_12 rfl (lv_at hl 1 rfl) ?_
    refine lv_if_lt (tgt := 32) hx hb dX4_latency_13 (by decide) (fun c_13 => ?_) (fun c_13 => ?_)
    · refine lv_iconst (v := nI 0) hx hb dX4_latency_32 (by decide) ?_
      exact g_retz hx hb hr hlocks (by decide) ((uN N 26 (0) (0)), J) (⟨rfl, rfl⟩) hP hS dX4_latency_33
    · refine lv_iload_n hx hb dX4_latency_16 rfl (lv_at hl 1 rfl) ?_
      refine lv_iconst (v := nI 5) hx hb dX4_latency_17 (by decide) ?_
      refine lv_icmp_gt (tgt := 32) hx hb dX4_latency_18 (by decide) (fun c_18 => ?_) (fun c_18 => ?_)
      · refine lv_iconst (v := nI 0) hx hb dX4_latency_32 (by decide) ?_
        exact g_retz hx hb hr hlocks (by decide) ((uN N 26 (0) (0)), J) (⟨rfl, rfl⟩) hP hS dX4_latency_33
      · refine lv_iload_n hx hb dX4_latency_21 rfl (lv_at hl 2 rfl) ?_
        refine lv_iconst (v := nI 1) hx hb dX4_latency_22 (by decide) ?_
        refine lv_icmp_lt (tgt := 32) hx hb dX4_latency_23 (by decide) (fun c_23 => ?_) (fun c_23 => ?_)
        · refine lv_iconst (v := nI 0) hx hb dX4_latency_32 (by decide) ?_
          exact g_retz hx hb hr hlocks (by decide) ((uN N 26 (0) (0)), J) (⟨rfl, rfl⟩) hP hS dX4_latency_33
        · refine lv_iload_n hx hb dX4_latency_26 rfl (lv_at hl 2 rfl) ?_
          refine lv_bipush (v := nI 30) hx hb dX4_latency_27 (by decide) ?_
          refine lv_icmp_le (tgt := 34) hx hb dX4_latency_29 (by decide) (fun c_29 => absurd c_29 (by simp (disch := first | decide | assumption) only [i_lt0, i_ge0, i_ltc, i_lec, i_cle, i_clt, i_eqc, i_eq0, Int32.not_lt, Int32.not_le] at *; omega)) (fun c_29 => ?_)
          refine lv_iconst (v := nI 0) hx hb dX4_latency_32 (by decide) ?_
          exact g_retz hx hb hr hlocks (by decide) ((uN N 26 (0) (0)), J) (⟨rfl, rfl⟩) hP hS dX4_latency_33
set_option maxHeartbeats 4000000 in
set_option maxRecDepth 100000 in
theorem tM_width_bad (l : Launch) (dC : Nat → ClassId) (dI : Nat → Nat → Nat) (a : Nat → Nat) (cI cL cZ : ClassId) (N : Nat → Nat → Nat) (J : Nat → Nat → Int64) (v1 : Int32) (hcy : N 11 0 < 2147483648) (hb0 : ¬ (N 11 0 = 0 ∧ 1 ≤ v1.toInt ∧ v1.toInt < 5)) : MetI l yX4_width wsX4_width ({ frames := 0, cells := 0, slots := 0, locals := 0 } : Room) dC dI (gT cI cL cZ) (mF a cI cL cZ) (mL a) (N, J) [.ref (a 0), .int (v1)] (fun r u => r = nI 0 ∧ u = (uN N 26 0 0, J)) := by
  intro sz
  refine g_entry (bytes := cX4_width) (maxL := 2) (ret := (some .boolean)) (Qc := fun sz => va_Qi (fun r u => r = nI 0 ∧ u = (uN N 26 0 0, J)) (gB dC dI (mF a cI cL cZ)) (aA (mL a) sz)) (by decide) rfl (Nat.le_of_ble_eq_true rfl) rfl ?_
  intro p e s m below meth c ls hx hb hr hml hts hown hlocks hK hP hD hS hZ hl
  have hP : va_P (dC, dI) vwCl (mW a cI cL cZ N J) s.heap := hP
  have hD : va_D (aA (mL a) s.heap.size) (mW a cI cL cZ N J) := hD
  have hown : s.vm.findClass RX4 = some m.cls := hown
  have hl : lv_has ls 2 [(0, .ref (a 0)), (1, .int (v1))] := hl
  have hi4 : ∀ w ∈ wsX40, w ∈ wsX4_width := by decide +kernel
  have k66 := hts (.fieldLink RX4 66 "ScoreMachineModel" "thrown" "I") (by decide +kernel)
  have k76 := hts (.fieldLink RX4 76 "ScoreMachineModel" "cycle" "I") (by decide +kernel)
  refine lv_aload_n hx hb dX4_width_0 rfl (lv_at hl 0 rfl) ?_
  refine lv_iconst (v := nI 0) hx hb dX4_width_1 (by decide) ?_
  refine mp_26 hx hb hts hi4 hown hK hP hD hS k66 dX4_width_2 (fun H locs hP hD hS => ?_)
  refine lv_aload_n hx hb dX4_width_5 rfl (lv_at hl 0 rfl) ?_
  refine mg_11 (v := N 11 0) hx hb hts hi4 hown hK hP k76 rfl dX4_width_6 ?_
  refine n_if_gt (tgt := 22) hx hb (by omega) dX4_width_9 (by decide) (fun c_9 => ?_) (fun c_9 => ?_)
  · refine lv_iconst (v := nI 0) hx hb dX4_width_22 (by decide) ?_
    exact g_retz hx hb hr hlocks (by decide) ((uN N 26 (0) (0)), J) (⟨rfl, rfl⟩) hP hS dX4_width_23
  · refine lv_iload_n hx hb dX4_width_12 rfl (lv_at hl 1 rfl) ?_
    refine lv_iconst (v := nI 1) hx hb dX4_width_13 (by decide) ?_
    refine lv_icmp_lt (tgt := 22) hx hb dX4_width_14 (by decide) (fun c_14 => ?_) (fun c_14 => ?_)
    · refine lv_iconst (v := nI 0) hx hb dX4_width_22 (by decide) ?_
      exact g_retz hx hb hr hlocks (by decide) ((uN N 26 (0) (0)), J) (⟨rfl, rfl⟩) hP hS dX4_width_23
    · refine lv_iload_n hx hb dX4_width_17 rfl (lv_at hl 1 rfl) ?_
      refine lv_iconst (v := nI 4) hx hb dX4_width_18 (by decide) ?_
      refine lv_icmp_le (tgt := 24) hx hb dX4_width_19 (by decide) (fun c_19 => absurd c_19 (by simp (disch := first | decide | assumption) only [i_lt0, i_ge0, i_ltc, i_lec, i_cle, i_clt, i_eqc, i_eq0, Int32.not_lt, Int32.not_le] at *; omega)) (fun c_19 => ?_)
      refine lv_iconst (v := nI 0) hx hb dX4_width_22 (by decide) ?_
      exact g_retz hx hb hr hlocks (by decide) ((uN N 26 (0) (0)), J) (⟨rfl, rfl⟩) hP hS dX4_width_23
set_option maxHeartbeats 4000000 in
set_option maxRecDepth 100000 in
theorem tM_set_bad (l : Launch) (dC : Nat → ClassId) (dI : Nat → Nat → Nat) (a : Nat → Nat) (cI cL cZ : ClassId) (N : Nat → Nat → Nat) (J : Nat → Nat → Int64) (v1 : Int32) (v2 : Int32) (v3 : Int64) (hcy : N 11 0 < 2147483648) (hb0 : ¬ (N 11 0 = 0 ∧ ((v1.toInt = 0 ∧ 0 ≤ v2.toInt ∧ v2.toInt < 16) ∨ (v1.toInt = 1 ∧ 0 ≤ v2.toInt ∧ v2.toInt < 256)))) : MetI l yX4_set wsX4_set ({ frames := 0, cells := 0, slots := 0, locals := 0 } : Room) dC dI (gT cI cL cZ) (mF a cI cL cZ) (mL a) (N, J) [.ref (a 0), .int (v1), .int (v2), .long (v3)] (fun r u => r = nI 0 ∧ u = (uN N 26 0 0, J)) := by
  intro sz
  refine g_entry (bytes := cX4_set) (maxL := 5) (ret := (some .boolean)) (Qc := fun sz => va_Qi (fun r u => r = nI 0 ∧ u = (uN N 26 0 0, J)) (gB dC dI (mF a cI cL cZ)) (aA (mL a) sz)) (by decide) rfl (Nat.le_of_ble_eq_true rfl) rfl ?_
  intro p e s m below meth c ls hx hb hr hml hts hown hlocks hK hP hD hS hZ hl
  have hP : va_P (dC, dI) vwCl (mW a cI cL cZ N J) s.heap := hP
  have hD : va_D (aA (mL a) s.heap.size) (mW a cI cL cZ N J) := hD
  have hown : s.vm.findClass RX4 = some m.cls := hown
  have hl : lv_has ls 5 [(0, .ref (a 0)), (1, .int (v1)), (2, .int (v2)), (3, .long (v3))] := hl
  have hi4 : ∀ w ∈ wsX40, w ∈ wsX4_set := by decide +kernel
  have k66 := hts (.fieldLink RX4 66 "ScoreMachineModel" "thrown" "I") (by decide +kernel)
  have k76 := hts (.fieldLink RX4 76 "ScoreMachineModel" "cycle" "I") (by decide +kernel)
  refine lv_aload_n hx hb dX4_set_0 rfl (lv_at hl 0 rfl) ?_
  refine lv_iconst (v := nI 0) hx hb dX4_set_1 (by decide) ?_
  refine mp_26 hx hb hts hi4 hown hK hP hD hS k66 dX4_set_2 (fun H locs hP hD hS => ?_)
  refine lv_aload_n hx hb dX4_set_5 rfl (lv_at hl 0 rfl) ?_
  refine mg_11 (v := N 11 0) hx hb hts hi4 hown hK hP k76 rfl dX4_set_6 ?_
  refine n_if_gt (tgt := 41) hx hb (by omega) dX4_set_9 (by decide) (fun c_9 => ?_) (fun c_9 => ?_)
  · refine lv_iconst (v := nI 0) hx hb dX4_set_41 (by decide) ?_
    exact g_retz hx hb hr hlocks (by decide) ((uN N 26 (0) (0)), J) (⟨rfl, rfl⟩) hP hS dX4_set_42
  · refine lv_iload_n hx hb dX4_set_12 rfl (lv_at hl 1 rfl) ?_
    refine lv_if_lt (tgt := 41) hx hb dX4_set_13 (by decide) (fun c_13 => ?_) (fun c_13 => ?_)
    · refine lv_iconst (v := nI 0) hx hb dX4_set_41 (by decide) ?_
      exact g_retz hx hb hr hlocks (by decide) ((uN N 26 (0) (0)), J) (⟨rfl, rfl⟩) hP hS dX4_set_42
    · refine lv_iload_n hx hb dX4_set_16 rfl (lv_at hl 1 rfl) ?_
      refine lv_iconst (v := nI 1) hx hb dX4_set_17 (by decide) ?_
      refine lv_icmp_gt (tgt := 41) hx hb dX4_set_18 (by decide) (fun c_18 => ?_) (fun c_18 => ?_)
      · refine lv_iconst (v := nI 0) hx hb dX4_set_41 (by decide) ?_
        exact g_retz hx hb hr hlocks (by decide) ((uN N 26 (0) (0)), J) (⟨rfl, rfl⟩) hP hS dX4_set_42
      · refine lv_iload_n hx hb dX4_set_21 rfl (lv_at hl 2 rfl) ?_
        refine lv_if_lt (tgt := 41) hx hb dX4_set_22 (by decide) (fun c_22 => ?_) (fun c_22 => ?_)
        · refine lv_iconst (v := nI 0) hx hb dX4_set_41 (by decide) ?_
          exact g_retz hx hb hr hlocks (by decide) ((uN N 26 (0) (0)), J) (⟨rfl, rfl⟩) hP hS dX4_set_42
        · refine lv_iload_n hx hb dX4_set_25 rfl (lv_at hl 2 rfl) ?_
          refine lv_iload_n hx hb dX4_set_26 rfl (lv_at hl 1 rfl) ?_
          refine lv_if_ne (tgt := 35) hx hb dX4_set_27 (by decide) (fun c_27 => ?_) (fun c_27 => ?_)
          · refine lv_sipush (v := nI 256) hx hb dX4_set_35 (by decide) ?_
            refine lv_icmp_lt (tgt := 43) hx hb dX4_set_38 (by decide) (fun c_38 => absurd c_38 (by simp (disch := first | decide | assumption) only [i_lt0, i_ge0, i_ltc, i_lec, i_cle, i_clt, i_eqc, i_eq0, Int32.not_lt, Int32.not_le] at *; omega)) (fun c_38 => ?_)
            refine lv_iconst (v := nI 0) hx hb dX4_set_41 (by decide) ?_
            exact g_retz hx hb hr hlocks (by decide) ((uN N 26 (0) (0)), J) (⟨rfl, rfl⟩) hP hS dX4_set_42
          · refine lv_bipush (v := nI 16) hx hb dX4_set_30 (by decide) ?_
            refine lv_goto (tgt := 38) hx hb dX4_set_32 (by decide) ?_
            refine lv_icmp_lt (tgt := 43) hx hb dX4_set_38 (by decide) (fun c_38 => absurd c_38 (by simp (disch := first | decide | assumption) only [i_lt0, i_ge0, i_ltc, i_lec, i_cle, i_clt, i_eqc, i_eq0, Int32.not_lt, Int32.not_le] at *; omega)) (fun c_38 => ?_)
            refine lv_iconst (v := nI 0) hx hb dX4_set_41 (by decide) ?_
            exact g_retz hx hb hr hlocks (by decide) ((uN N 26 (0) (0)), J) (⟨rfl, rfl⟩) hP hS dX4_set_42
set_option maxHeartbeats 4000000 in
set_option maxRecDepth 100000 in
theorem tM_count_bad (l : Launch) (dC : Nat → ClassId) (dI : Nat → Nat → Nat) (a : Nat → Nat) (cI cL cZ : ClassId) (N : Nat → Nat → Nat) (J : Nat → Nat → Int64) (v1 : Int32)  (hb0 : ¬ (0 ≤ v1.toInt ∧ v1.toInt < 9)) : MetI l yX4_count wsX4_count ({ frames := 0, cells := 0, slots := 0, locals := 0 } : Room) dC dI (gT cI cL cZ) (mF a cI cL cZ) (mL a) (N, J) [.ref (a 0), .int (v1)] (fun r u => r = -1 ∧ u = (uN N 26 0 0, J)) := by
  intro sz
  refine g_entry (bytes := cX4_count) (maxL := 2) (ret := (some .int)) (Qc := fun sz => va_Qi (fun r u => r = -1 ∧ u = (uN N 26 0 0, J)) (gB dC dI (mF a cI cL cZ)) (aA (mL a) sz)) (by decide) rfl (Nat.le_of_ble_eq_true rfl) rfl ?_
  intro p e s m below meth c ls hx hb hr hml hts hown hlocks hK hP hD hS hZ hl
  have hP : va_P (dC, dI) vwCl (mW a cI cL cZ N J) s.heap := hP
  have hD : va_D (aA (mL a) s.heap.size) (mW a cI cL cZ N J) := hD
  have hown : s.vm.findClass RX4 = some m.cls := hown
  have hl : lv_has ls 2 [(0, .ref (a 0)), (1, .int (v1))] := hl
  have hi4 : ∀ w ∈ wsX40, w ∈ wsX4_count := by decide +kernel
  have k66 := hts (.fieldLink RX4 66 "ScoreMachineModel" "thrown" "I") (by decide +kernel)
  refine lv_aload_n hx hb dX4_count_0 rfl (lv_at hl 0 rfl) ?_
  refine lv_iconst (v := nI 0) hx hb dX4_count_1 (by decide) ?_
  refine mp_26 hx hb hts hi4 hown hK hP hD hS k66 dX4_count_2 (fun H locs hP hD hS => ?_)
  refine lv_iload_n hx hb dX4_count_5 rfl (lv_at hl 1 rfl) ?_
  refine lv_tableOut (tgt := 146) hx hb dX4_count_6 (by omega) (by decide) ?_
  refine lv_iconst (v := -1) hx hb dX4_count_146 (by decide) ?_
  exact g_reti hx hb hr hlocks ((uN N 26 (0) (0)), J) (⟨rfl, rfl⟩) hP hS dX4_count_147
set_option maxHeartbeats 4000000 in
set_option maxRecDepth 100000 in
theorem tM_register_bad (l : Launch) (dC : Nat → ClassId) (dI : Nat → Nat → Nat) (a : Nat → Nat) (cI cL cZ : ClassId) (N : Nat → Nat → Nat) (J : Nat → Nat → Int64) (v1 : Int32)  (hb0 : ¬ (0 ≤ v1.toInt ∧ v1.toInt < 16)) : MetL l yX4_register wsX4_register ({ frames := 0, cells := 0, slots := 0, locals := 0 } : Room) dC dI (gT cI cL cZ) (mF a cI cL cZ) (mL a) (N, J) [.ref (a 0), .int (v1)] (fun r u => r = 0 ∧ u = ((uN (uN N 26 0 0) 26 0 1), J)) := by
  intro sz
  refine g_entry (bytes := cX4_register) (maxL := 2) (ret := (some .long)) (Qc := fun sz => va_Ql (fun r u => r = 0 ∧ u = ((uN (uN N 26 0 0) 26 0 1), J)) (gB dC dI (mF a cI cL cZ)) (aA (mL a) sz)) (by decide) rfl (Nat.le_of_ble_eq_true rfl) rfl ?_
  intro p e s m below meth c ls hx hb hr hml hts hown hlocks hK hP hD hS hZ hl
  have hP : va_P (dC, dI) vwCl (mW a cI cL cZ N J) s.heap := hP
  have hD : va_D (aA (mL a) s.heap.size) (mW a cI cL cZ N J) := hD
  have hown : s.vm.findClass RX4 = some m.cls := hown
  have hl : lv_has ls 2 [(0, .ref (a 0)), (1, .int (v1))] := hl
  have hi4 : ∀ w ∈ wsX40, w ∈ wsX4_register := by decide +kernel
  have k66 := hts (.fieldLink RX4 66 "ScoreMachineModel" "thrown" "I") (by decide +kernel)
  refine lv_aload_n hx hb dX4_register_0 rfl (lv_at hl 0 rfl) ?_
  refine lv_iconst (v := nI 0) hx hb dX4_register_1 (by decide) ?_
  refine mp_26 hx hb hts hi4 hown hK hP hD hS k66 dX4_register_2 (fun H locs hP hD hS => ?_)
  refine lv_iload_n hx hb dX4_register_5 rfl (lv_at hl 1 rfl) ?_
  refine lv_if_lt (tgt := 15) hx hb dX4_register_6 (by decide) (fun c_6 => ?_) (fun c_6 => ?_)
  · refine lv_aload_n hx hb dX4_register_15 rfl (lv_at hl 0 rfl) ?_
    refine lv_iconst (v := nI 1) hx hb dX4_register_16 (by decide) ?_
    refine mp_26 hx hb hts hi4 hown hK hP hD hS k66 dX4_register_17 (fun H locs hP hD hS => ?_)
    refine lv_lconst (v := 0) hx hb dX4_register_20 (by decide) ?_
    exact g_retl hx hb hr hlocks ((uN (uN N 26 (0) (0)) 26 (0) (1)), J) (⟨rfl, rfl⟩) hP hS dX4_register_21
  · refine lv_iload_n hx hb dX4_register_9 rfl (lv_at hl 1 rfl) ?_
    refine lv_bipush (v := nI 16) hx hb dX4_register_10 (by decide) ?_
    refine lv_icmp_lt (tgt := 22) hx hb dX4_register_12 (by decide) (fun c_12 => absurd c_12 (by simp (disch := first | decide | assumption) only [i_lt0, i_ge0, i_ltc, i_lec, i_cle, i_clt, i_eqc, i_eq0, Int32.not_lt, Int32.not_le] at *; omega)) (fun c_12 => ?_)
    refine lv_aload_n hx hb dX4_register_15 rfl (lv_at hl 0 rfl) ?_
    refine lv_iconst (v := nI 1) hx hb dX4_register_16 (by decide) ?_
    refine mp_26 hx hb hts hi4 hown hK hP hD hS k66 dX4_register_17 (fun H locs hP hD hS => ?_)
    refine lv_lconst (v := 0) hx hb dX4_register_20 (by decide) ?_
    exact g_retl hx hb hr hlocks ((uN (uN N 26 (0) (0)) 26 (0) (1)), J) (⟨rfl, rfl⟩) hP hS dX4_register_21
set_option maxHeartbeats 4000000 in
set_option maxRecDepth 100000 in
theorem tM_memory_bad (l : Launch) (dC : Nat → ClassId) (dI : Nat → Nat → Nat) (a : Nat → Nat) (cI cL cZ : ClassId) (N : Nat → Nat → Nat) (J : Nat → Nat → Int64) (v1 : Int32)  (hb0 : ¬ (0 ≤ v1.toInt ∧ v1.toInt < 256)) : MetL l yX4_memory wsX4_memory ({ frames := 0, cells := 0, slots := 0, locals := 0 } : Room) dC dI (gT cI cL cZ) (mF a cI cL cZ) (mL a) (N, J) [.ref (a 0), .int (v1)] (fun r u => r = 0 ∧ u = ((uN (uN N 26 0 0) 26 0 1), J)) := by
  intro sz
  refine g_entry (bytes := cX4_memory) (maxL := 2) (ret := (some .long)) (Qc := fun sz => va_Ql (fun r u => r = 0 ∧ u = ((uN (uN N 26 0 0) 26 0 1), J)) (gB dC dI (mF a cI cL cZ)) (aA (mL a) sz)) (by decide) rfl (Nat.le_of_ble_eq_true rfl) rfl ?_
  intro p e s m below meth c ls hx hb hr hml hts hown hlocks hK hP hD hS hZ hl
  have hP : va_P (dC, dI) vwCl (mW a cI cL cZ N J) s.heap := hP
  have hD : va_D (aA (mL a) s.heap.size) (mW a cI cL cZ N J) := hD
  have hown : s.vm.findClass RX4 = some m.cls := hown
  have hl : lv_has ls 2 [(0, .ref (a 0)), (1, .int (v1))] := hl
  have hi4 : ∀ w ∈ wsX40, w ∈ wsX4_memory := by decide +kernel
  have k66 := hts (.fieldLink RX4 66 "ScoreMachineModel" "thrown" "I") (by decide +kernel)
  refine lv_aload_n hx hb dX4_memory_0 rfl (lv_at hl 0 rfl) ?_
  refine lv_iconst (v := nI 0) hx hb dX4_memory_1 (by decide) ?_
  refine mp_26 hx hb hts hi4 hown hK hP hD hS k66 dX4_memory_2 (fun H locs hP hD hS => ?_)
  refine lv_iload_n hx hb dX4_memory_5 rfl (lv_at hl 1 rfl) ?_
  refine lv_if_lt (tgt := 16) hx hb dX4_memory_6 (by decide) (fun c_6 => ?_) (fun c_6 => ?_)
  · refine lv_aload_n hx hb dX4_memory_16 rfl (lv_at hl 0 rfl) ?_
    refine lv_iconst (v := nI 1) hx hb dX4_memory_17 (by decide) ?_
    refine mp_26 hx hb hts hi4 hown hK hP hD hS k66 dX4_memory_18 (fun H locs hP hD hS => ?_)
    refine lv_lconst (v := 0) hx hb dX4_memory_21 (by decide) ?_
    exact g_retl hx hb hr hlocks ((uN (uN N 26 (0) (0)) 26 (0) (1)), J) (⟨rfl, rfl⟩) hP hS dX4_memory_22
  · refine lv_iload_n hx hb dX4_memory_9 rfl (lv_at hl 1 rfl) ?_
    refine lv_sipush (v := nI 256) hx hb dX4_memory_10 (by decide) ?_
    refine lv_icmp_lt (tgt := 23) hx hb dX4_memory_13 (by decide) (fun c_13 => absurd c_13 (by simp (disch := first | decide | assumption) only [i_lt0, i_ge0, i_ltc, i_lec, i_cle, i_clt, i_eqc, i_eq0, Int32.not_lt, Int32.not_le] at *; omega)) (fun c_13 => ?_)
    refine lv_aload_n hx hb dX4_memory_16 rfl (lv_at hl 0 rfl) ?_
    refine lv_iconst (v := nI 1) hx hb dX4_memory_17 (by decide) ?_
    refine mp_26 hx hb hts hi4 hown hK hP hD hS k66 dX4_memory_18 (fun H locs hP hD hS => ?_)
    refine lv_lconst (v := 0) hx hb dX4_memory_21 (by decide) ?_
    exact g_retl hx hb hr hlocks ((uN (uN N 26 (0) (0)) 26 (0) (1)), J) (⟨rfl, rfl⟩) hP hS dX4_memory_22
set_option maxHeartbeats 4000000 in
set_option maxRecDepth 100000 in
theorem tM_plain_bad (l : Launch) (dC : Nat → ClassId) (dI : Nat → Nat → Nat) (a : Nat → Nat) (cI cL cZ : ClassId) (N : Nat → Nat → Nat) (J : Nat → Nat → Int64) (v1 : Int32) (v2 : Int32)  (hb0 : ¬ ((v1.toInt = 0 ∧ 0 ≤ v2.toInt ∧ v2.toInt < 16) ∨ (v1.toInt = 1 ∧ 0 ≤ v2.toInt ∧ v2.toInt < 256))) : MetL l yX4_plain wsX4_plain ({ frames := 0, cells := 0, slots := 0, locals := 0 } : Room) dC dI (gT cI cL cZ) (mF a cI cL cZ) (mL a) (N, J) [.ref (a 0), .int (v1), .int (v2)] (fun r u => r = 0 ∧ u = ((uN (uN N 26 0 0) 26 0 1), J)) := by
  intro sz
  refine g_entry (bytes := cX4_plain) (maxL := 3) (ret := (some .long)) (Qc := fun sz => va_Ql (fun r u => r = 0 ∧ u = ((uN (uN N 26 0 0) 26 0 1), J)) (gB dC dI (mF a cI cL cZ)) (aA (mL a) sz)) (by decide) rfl (Nat.le_of_ble_eq_true rfl) rfl ?_
  intro p e s m below meth c ls hx hb hr hml hts hown hlocks hK hP hD hS hZ hl
  have hP : va_P (dC, dI) vwCl (mW a cI cL cZ N J) s.heap := hP
  have hD : va_D (aA (mL a) s.heap.size) (mW a cI cL cZ N J) := hD
  have hown : s.vm.findClass RX4 = some m.cls := hown
  have hl : lv_has ls 3 [(0, .ref (a 0)), (1, .int (v1)), (2, .int (v2))] := hl
  have hi4 : ∀ w ∈ wsX40, w ∈ wsX4_plain := by decide +kernel
  have k66 := hts (.fieldLink RX4 66 "ScoreMachineModel" "thrown" "I") (by decide +kernel)
  refine lv_aload_n hx hb dX4_plain_0 rfl (lv_at hl 0 rfl) ?_
  refine lv_iconst (v := nI 0) hx hb dX4_plain_1 (by decide) ?_
  refine mp_26 hx hb hts hi4 hown hK hP hD hS k66 dX4_plain_2 (fun H locs hP hD hS => ?_)
  refine lv_iload_n hx hb dX4_plain_5 rfl (lv_at hl 1 rfl) ?_
  refine lv_if_lt (tgt := 34) hx hb dX4_plain_6 (by decide) (fun c_6 => ?_) (fun c_6 => ?_)
  · refine lv_aload_n hx hb dX4_plain_34 rfl (lv_at hl 0 rfl) ?_
    refine lv_iconst (v := nI 1) hx hb dX4_plain_35 (by decide) ?_
    refine mp_26 hx hb hts hi4 hown hK hP hD hS k66 dX4_plain_36 (fun H locs hP hD hS => ?_)
    refine lv_lconst (v := 0) hx hb dX4_plain_39 (by decide) ?_
    exact g_retl hx hb hr hlocks ((uN (uN N 26 (0) (0)) 26 (0) (1)), J) (⟨rfl, rfl⟩) hP hS dX4_plain_40
  · refine lv_iload_n hx hb dX4_plain_9 rfl (lv_at hl 1 rfl) ?_
    refine lv_iconst (v := nI 1) hx hb dX4_plain_10 (by decide) ?_
    refine lv_icmp_gt (tgt := 34) hx hb dX4_plain_11 (by decide) (fun c_11 => ?_) (fun c_11 => ?_)
    · refine lv_aload_n hx hb dX4_plain_34 rfl (lv_at hl 0 rfl) ?_
      refine lv_iconst (v := nI 1) hx hb dX4_plain_35 (by decide) ?_
      refine mp_26 hx hb hts hi4 hown hK hP hD hS k66 dX4_plain_36 (fun H locs hP hD hS => ?_)
      refine lv_lconst (v := 0) hx hb dX4_plain_39 (by decide) ?_
      exact g_retl hx hb hr hlocks ((uN (uN N 26 (0) (0)) 26 (0) (1)), J) (⟨rfl, rfl⟩) hP hS dX4_plain_40
    · refine lv_iload_n hx hb dX4_plain_14 rfl (lv_at hl 2 rfl) ?_
      refine lv_if_lt (tgt := 34) hx hb dX4_plain_15 (by decide) (fun c_15 => ?_) (fun c_15 => ?_)
      · refine lv_aload_n hx hb dX4_plain_34 rfl (lv_at hl 0 rfl) ?_
        refine lv_iconst (v := nI 1) hx hb dX4_plain_35 (by decide) ?_
        refine mp_26 hx hb hts hi4 hown hK hP hD hS k66 dX4_plain_36 (fun H locs hP hD hS => ?_)
        refine lv_lconst (v := 0) hx hb dX4_plain_39 (by decide) ?_
        exact g_retl hx hb hr hlocks ((uN (uN N 26 (0) (0)) 26 (0) (1)), J) (⟨rfl, rfl⟩) hP hS dX4_plain_40
      · refine lv_iload_n hx hb dX4_plain_18 rfl (lv_at hl 2 rfl) ?_
        refine lv_iload_n hx hb dX4_plain_19 rfl (lv_at hl 1 rfl) ?_
        refine lv_if_ne (tgt := 28) hx hb dX4_plain_20 (by decide) (fun c_20 => ?_) (fun c_20 => ?_)
        · refine lv_sipush (v := nI 256) hx hb dX4_plain_28 (by decide) ?_
          refine lv_icmp_lt (tgt := 41) hx hb dX4_plain_31 (by decide) (fun c_31 => absurd c_31 (by simp (disch := first | decide | assumption) only [i_lt0, i_ge0, i_ltc, i_lec, i_cle, i_clt, i_eqc, i_eq0, Int32.not_lt, Int32.not_le] at *; omega)) (fun c_31 => ?_)
          refine lv_aload_n hx hb dX4_plain_34 rfl (lv_at hl 0 rfl) ?_
          refine lv_iconst (v := nI 1) hx hb dX4_plain_35 (by decide) ?_
          refine mp_26 hx hb hts hi4 hown hK hP hD hS k66 dX4_plain_36 (fun H locs hP hD hS => ?_)
          refine lv_lconst (v := 0) hx hb dX4_plain_39 (by decide) ?_
          exact g_retl hx hb hr hlocks ((uN (uN N 26 (0) (0)) 26 (0) (1)), J) (⟨rfl, rfl⟩) hP hS dX4_plain_40
        · refine lv_bipush (v := nI 16) hx hb dX4_plain_23 (by decide) ?_
          refine lv_goto (tgt := 31) hx hb dX4_plain_25 (by decide) ?_
          refine lv_icmp_lt (tgt := 41) hx hb dX4_plain_31 (by decide) (fun c_31 => absurd c_31 (by simp (disch := first | decide | assumption) only [i_lt0, i_ge0, i_ltc, i_lec, i_cle, i_clt, i_eqc, i_eq0, Int32.not_lt, Int32.not_le] at *; omega)) (fun c_31 => ?_)
          refine lv_aload_n hx hb dX4_plain_34 rfl (lv_at hl 0 rfl) ?_
          refine lv_iconst (v := nI 1) hx hb dX4_plain_35 (by decide) ?_
          refine mp_26 hx hb hts hi4 hown hK hP hD hS k66 dX4_plain_36 (fun H locs hP hD hS => ?_)
          refine lv_lconst (v := 0) hx hb dX4_plain_39 (by decide) ?_
          exact g_retl hx hb hr hlocks ((uN (uN N 26 (0) (0)) 26 (0) (1)), J) (⟨rfl, rfl⟩) hP hS dX4_plain_40
set_option maxHeartbeats 4000000 in
set_option maxRecDepth 100000 in
theorem tM_pending_bad (l : Launch) (dC : Nat → ClassId) (dI : Nat → Nat → Nat) (a : Nat → Nat) (cI cL cZ : ClassId) (N : Nat → Nat → Nat) (J : Nat → Nat → Int64) (v1 : Int32)  (hb0 : ¬ (0 ≤ v1.toInt ∧ v1.toInt < 16)) : MetI l yX4_pending wsX4_pending ({ frames := 0, cells := 0, slots := 0, locals := 0 } : Room) dC dI (gT cI cL cZ) (mF a cI cL cZ) (mL a) (N, J) [.ref (a 0), .int (v1)] (fun r u => r = -1 ∧ u = (uN N 26 0 0, J)) := by
  intro sz
  refine g_entry (bytes := cX4_pending) (maxL := 2) (ret := (some .int)) (Qc := fun sz => va_Qi (fun r u => r = -1 ∧ u = (uN N 26 0 0, J)) (gB dC dI (mF a cI cL cZ)) (aA (mL a) sz)) (by decide) rfl (Nat.le_of_ble_eq_true rfl) rfl ?_
  intro p e s m below meth c ls hx hb hr hml hts hown hlocks hK hP hD hS hZ hl
  have hP : va_P (dC, dI) vwCl (mW a cI cL cZ N J) s.heap := hP
  have hD : va_D (aA (mL a) s.heap.size) (mW a cI cL cZ N J) := hD
  have hown : s.vm.findClass RX4 = some m.cls := hown
  have hl : lv_has ls 2 [(0, .ref (a 0)), (1, .int (v1))] := hl
  have hi4 : ∀ w ∈ wsX40, w ∈ wsX4_pending := by decide +kernel
  have k66 := hts (.fieldLink RX4 66 "ScoreMachineModel" "thrown" "I") (by decide +kernel)
  refine lv_aload_n hx hb dX4_pending_0 rfl (lv_at hl 0 rfl) ?_
  refine lv_iconst (v := nI 0) hx hb dX4_pending_1 (by decide) ?_
  refine mp_26 hx hb hts hi4 hown hK hP hD hS k66 dX4_pending_2 (fun H locs hP hD hS => ?_)
  refine lv_iload_n hx hb dX4_pending_5 rfl (lv_at hl 1 rfl) ?_
  refine lv_if_lt (tgt := 37) hx hb dX4_pending_6 (by decide) (fun c_6 => ?_) (fun c_6 => ?_)
  · refine lv_iconst (v := -1) hx hb dX4_pending_37 (by decide) ?_
    exact g_reti hx hb hr hlocks ((uN N 26 (0) (0)), J) (⟨rfl, rfl⟩) hP hS dX4_pending_38
  · refine lv_iload_n hx hb dX4_pending_9 rfl (lv_at hl 1 rfl) ?_
    refine lv_bipush (v := nI 16) hx hb dX4_pending_10 (by decide) ?_
    refine lv_icmp_ge (tgt := 37) hx hb dX4_pending_12 (by decide) (fun c_12 => ?_) (fun c_12 => absurd c_12 (by simp (disch := first | decide | assumption) only [i_lt0, i_ge0, i_ltc, i_lec, i_cle, i_clt, i_eqc, i_eq0, Int32.not_lt, Int32.not_le] at *; omega))
    refine lv_iconst (v := -1) hx hb dX4_pending_37 (by decide) ?_
    exact g_reti hx hb hr hlocks ((uN N 26 (0) (0)), J) (⟨rfl, rfl⟩) hP hS dX4_pending_38
set_option maxHeartbeats 4000000 in
set_option maxRecDepth 100000 in
theorem tM_latest_bad (l : Launch) (dC : Nat → ClassId) (dI : Nat → Nat → Nat) (a : Nat → Nat) (cI cL cZ : ClassId) (N : Nat → Nat → Nat) (J : Nat → Nat → Int64) (v1 : Int32) (v2 : Int32) (h13 : N 13 0 < 2147483648) (hb0 : ¬ (0 ≤ v1.toInt ∧ v1.toInt < 64 ∧ v1.toInt < N 13 0 ∧ 0 ≤ v2.toInt ∧ v2.toInt < 6)) : MetI l yX4_latest wsX4_latest ({ frames := 0, cells := 0, slots := 0, locals := 0 } : Room) dC dI (gT cI cL cZ) (mF a cI cL cZ) (mL a) (N, J) [.ref (a 0), .int (v1), .int (v2)] (fun r u => r = -1 ∧ u = (uN N 26 0 0, J)) := by
  intro sz
  refine g_entry (bytes := cX4_latest) (maxL := 4) (ret := (some .int)) (Qc := fun sz => va_Qi (fun r u => r = -1 ∧ u = (uN N 26 0 0, J)) (gB dC dI (mF a cI cL cZ)) (aA (mL a) sz)) (by decide) rfl (Nat.le_of_ble_eq_true rfl) rfl ?_
  intro p e s m below meth c ls hx hb hr hml hts hown hlocks hK hP hD hS hZ hl
  have hP : va_P (dC, dI) vwCl (mW a cI cL cZ N J) s.heap := hP
  have hD : va_D (aA (mL a) s.heap.size) (mW a cI cL cZ N J) := hD
  have hown : s.vm.findClass RX4 = some m.cls := hown
  have hl : lv_has ls 4 [(0, .ref (a 0)), (1, .int (v1)), (2, .int (v2))] := hl
  have hi4 : ∀ w ∈ wsX40, w ∈ wsX4_latest := by decide +kernel
  have k66 := hts (.fieldLink RX4 66 "ScoreMachineModel" "thrown" "I") (by decide +kernel)
  have k83 := hts (.fieldLink RX4 83 "ScoreMachineModel" "many" "I") (by decide +kernel)
  refine lv_aload_n hx hb dX4_latest_0 rfl (lv_at hl 0 rfl) ?_
  refine lv_iconst (v := nI 0) hx hb dX4_latest_1 (by decide) ?_
  refine mp_26 hx hb hts hi4 hown hK hP hD hS k66 dX4_latest_2 (fun H locs hP hD hS => ?_)
  refine lv_iload_n hx hb dX4_latest_5 rfl (lv_at hl 1 rfl) ?_
  refine lv_if_lt (tgt := 32) hx hb dX4_latest_6 (by decide) (fun c_6 => ?_) (fun c_6 => ?_)
  · refine lv_iconst (v := -1) hx hb dX4_latest_32 (by decide) ?_
    exact g_reti hx hb hr hlocks ((uN N 26 (0) (0)), J) (⟨rfl, rfl⟩) hP hS dX4_latest_33
  · refine lv_iload_n hx hb dX4_latest_9 rfl (lv_at hl 1 rfl) ?_
    refine lv_bipush (v := nI 64) hx hb dX4_latest_10 (by decide) ?_
    refine lv_icmp_ge (tgt := 32) hx hb dX4_latest_12 (by decide) (fun c_12 => ?_) (fun c_12 => ?_)
    · refine lv_iconst (v := -1) hx hb dX4_latest_32 (by decide) ?_
      exact g_reti hx hb hr hlocks ((uN N 26 (0) (0)), J) (⟨rfl, rfl⟩) hP hS dX4_latest_33
    · refine lv_iload_n hx hb dX4_latest_15 rfl (lv_at hl 1 rfl) ?_
      refine lv_aload_n hx hb dX4_latest_16 rfl (lv_at hl 0 rfl) ?_
      refine mg_13 (v := N 13 0) hx hb hts hi4 hown hK hP k83 rfl dX4_latest_17 ?_
      refine lv_icmp_ge (tgt := 32) hx hb dX4_latest_20 (by decide) (fun c_20 => ?_) (fun c_20 => ?_)
      · refine lv_iconst (v := -1) hx hb dX4_latest_32 (by decide) ?_
        exact g_reti hx hb hr hlocks ((uN N 26 (0) (0)), J) (⟨rfl, rfl⟩) hP hS dX4_latest_33
      · refine lv_iload_n hx hb dX4_latest_23 rfl (lv_at hl 2 rfl) ?_
        refine lv_if_lt (tgt := 32) hx hb dX4_latest_24 (by decide) (fun c_24 => ?_) (fun c_24 => ?_)
        · refine lv_iconst (v := -1) hx hb dX4_latest_32 (by decide) ?_
          exact g_reti hx hb hr hlocks ((uN N 26 (0) (0)), J) (⟨rfl, rfl⟩) hP hS dX4_latest_33
        · refine lv_iload_n hx hb dX4_latest_27 rfl (lv_at hl 2 rfl) ?_
          refine lv_iconst (v := nI 5) hx hb dX4_latest_28 (by decide) ?_
          refine lv_icmp_le (tgt := 34) hx hb dX4_latest_29 (by decide) (fun c_29 => absurd c_29 (by simp (disch := first | decide | assumption) only [i_lt0, i_ge0, i_ltc, i_lec, i_cle, i_clt, i_eqc, i_eq0, Int32.not_lt, Int32.not_le] at *; omega)) (fun c_29 => ?_)
          refine lv_iconst (v := -1) hx hb dX4_latest_32 (by decide) ?_
          exact g_reti hx hb hr hlocks ((uN N 26 (0) (0)), J) (⟨rfl, rfl⟩) hP hS dX4_latest_33
set_option maxHeartbeats 4000000 in
set_option maxRecDepth 100000 in
theorem tM_put (l : Launch) (dC : Nat → ClassId) (dI : Nat → Nat → Nat) (a : Nat → Nat) (cI cL cZ : ClassId) (N : Nat → Nat → Nat) (J : Nat → Nat → Int64) (pl k d x B : Nat) (hc : N 11 0 = 0) (hp : pl < 256) (hk : k ≤ 18) (hd : d < 16) (hx2 : x < 16) : MetI l yX4_put wsX4_put ({ frames := 0, cells := 0, slots := 0, locals := 0 } : Room) dC dI (gT cI cL cZ) (mF a cI cL cZ) (mL a) (N, J) [.ref (a 0), .int (nI (pl)), .int (nI (k)), .int (nI (d)), .int (nI (x)), .int (nI (B))] (fun r u => r = nI 1 ∧ u = (uN (uN (uN (uN (uN N 26 0 0) 0 (4 * pl) k) 0 (4 * pl + 1) d) 0 (4 * pl + 2) x) 0 (4 * pl + 3) B, J)) := by
  intro sz
  refine g_entry (bytes := cX4_put) (maxL := 6) (ret := (some .boolean)) (Qc := fun sz => va_Qi (fun r u => r = nI 1 ∧ u = (uN (uN (uN (uN (uN N 26 0 0) 0 (4 * pl) k) 0 (4 * pl + 1) d) 0 (4 * pl + 2) x) 0 (4 * pl + 3) B, J)) (gB dC dI (mF a cI cL cZ)) (aA (mL a) sz)) (by decide) rfl (Nat.le_of_ble_eq_true rfl) rfl ?_
  intro p e s m below meth c ls hx hb hr hml hts hown hlocks hK hP hD hS hZ hl
  have hP : va_P (dC, dI) vwCl (mW a cI cL cZ N J) s.heap := hP
  have hD : va_D (aA (mL a) s.heap.size) (mW a cI cL cZ N J) := hD
  have hown : s.vm.findClass RX4 = some m.cls := hown
  have hl : lv_has ls 6 [(0, .ref (a 0)), (1, .int (nI (pl))), (2, .int (nI (k))), (3, .int (nI (d))), (4, .int (nI (x))), (5, .int (nI (B)))] := hl
  have hi4 : ∀ w ∈ wsX40, w ∈ wsX4_put := by decide +kernel
  have k66 := hts (.fieldLink RX4 66 "ScoreMachineModel" "thrown" "I") (by decide +kernel)
  have k76 := hts (.fieldLink RX4 76 "ScoreMachineModel" "cycle" "I") (by decide +kernel)
  have k9 := hts (.fieldLink RX4 9 "ScoreMachineModel" "program" "[I") (by decide +kernel)
  refine lv_aload_n hx hb dX4_put_0 rfl (lv_at hl 0 rfl) ?_
  refine lv_iconst (v := nI 0) hx hb dX4_put_1 (by decide) ?_
  refine mp_26 hx hb hts hi4 hown hK hP hD hS k66 dX4_put_2 (fun H locs hP hD hS => ?_)
  refine lv_aload_n hx hb dX4_put_5 rfl (lv_at hl 0 rfl) ?_
  refine mg_11 (v := N 11 0) hx hb hts hi4 hown hK hP k76 rfl dX4_put_6 ?_
  refine n_if_gt (tgt := 55) hx hb (by omega) dX4_put_9 (by decide) (fun c_9 => absurd c_9 (by omega)) (fun c_9 => ?_)
  refine lv_iload_n hx hb dX4_put_12 rfl (lv_at hl 1 rfl) ?_
  refine n_if_lt (tgt := 55) hx hb (by omega) dX4_put_13 (by decide) ?_
  refine lv_iload_n hx hb dX4_put_16 rfl (lv_at hl 1 rfl) ?_
  refine lv_sipush (v := nI 256) hx hb dX4_put_17 (by decide) ?_
  refine n_icmp_ge (tgt := 55) hx hb (by omega) (by omega) dX4_put_20 (by decide) (fun c_20 => absurd c_20 (by omega)) (fun c_20 => ?_)
  refine lv_iload_n hx hb dX4_put_23 rfl (lv_at hl 2 rfl) ?_
  refine n_if_lt (tgt := 55) hx hb (by omega) dX4_put_24 (by decide) ?_
  refine lv_iload_n hx hb dX4_put_27 rfl (lv_at hl 2 rfl) ?_
  refine lv_bipush (v := nI 18) hx hb dX4_put_28 (by decide) ?_
  refine n_icmp_gt (tgt := 55) hx hb (by omega) (by omega) dX4_put_30 (by decide) (fun c_30 => absurd c_30 (by omega)) (fun c_30 => ?_)
  refine lv_iload_n hx hb dX4_put_33 rfl (lv_at hl 3 rfl) ?_
  refine n_if_lt (tgt := 55) hx hb (by omega) dX4_put_34 (by decide) ?_
  refine lv_iload_n hx hb dX4_put_37 rfl (lv_at hl 3 rfl) ?_
  refine lv_bipush (v := nI 15) hx hb dX4_put_38 (by decide) ?_
  refine n_icmp_gt (tgt := 55) hx hb (by omega) (by omega) dX4_put_40 (by decide) (fun c_40 => absurd c_40 (by omega)) (fun c_40 => ?_)
  refine lv_iload hx hb dX4_put_43 (lv_at hl 4 rfl) ?_
  refine n_if_lt (tgt := 55) hx hb (by omega) dX4_put_45 (by decide) ?_
  refine lv_iload hx hb dX4_put_48 (lv_at hl 4 rfl) ?_
  refine lv_bipush (v := nI 15) hx hb dX4_put_50 (by decide) ?_
  refine n_icmp_le (tgt := 57) hx hb (by omega) (by omega) dX4_put_52 (by decide) (fun c_52 => ?_) (fun c_52 => absurd c_52 (by omega))
  refine lv_aload_n hx hb dX4_put_57 rfl (lv_at hl 0 rfl) ?_
  refine mg_0 hx hb hts hi4 hown hK hP k9 dX4_put_58 ?_
  refine lv_iconst (v := nI 4) hx hb dX4_put_61 (by decide) ?_
  refine lv_iload_n hx hb dX4_put_62 rfl (lv_at hl 1 rfl) ?_
  refine n_mul hx hb dX4_put_63 ?_
  refine lv_iload_n hx hb dX4_put_64 rfl (lv_at hl 2 rfl) ?_
  refine ms_0 hx hb hK hP hD hS (by omega) dX4_put_65 (fun H locs hP hD hS => ?_)
  refine lv_aload_n hx hb dX4_put_66 rfl (lv_at hl 0 rfl) ?_
  refine mg_0 hx hb hts hi4 hown hK hP k9 dX4_put_67 ?_
  refine lv_iconst (v := nI 4) hx hb dX4_put_70 (by decide) ?_
  refine lv_iload_n hx hb dX4_put_71 rfl (lv_at hl 1 rfl) ?_
  refine n_mul hx hb dX4_put_72 ?_
  refine lv_iconst (v := nI 1) hx hb dX4_put_73 (by decide) ?_
  refine n_add hx hb dX4_put_74 ?_
  refine lv_iload_n hx hb dX4_put_75 rfl (lv_at hl 3 rfl) ?_
  refine ms_0 hx hb hK hP hD hS (by omega) dX4_put_76 (fun H locs hP hD hS => ?_)
  refine lv_aload_n hx hb dX4_put_77 rfl (lv_at hl 0 rfl) ?_
  refine mg_0 hx hb hts hi4 hown hK hP k9 dX4_put_78 ?_
  refine lv_iconst (v := nI 4) hx hb dX4_put_81 (by decide) ?_
  refine lv_iload_n hx hb dX4_put_82 rfl (lv_at hl 1 rfl) ?_
  refine n_mul hx hb dX4_put_83 ?_
  refine lv_iconst (v := nI 2) hx hb dX4_put_84 (by decide) ?_
  refine n_add hx hb dX4_put_85 ?_
  refine lv_iload hx hb dX4_put_86 (lv_at hl 4 rfl) ?_
  refine ms_0 hx hb hK hP hD hS (by omega) dX4_put_88 (fun H locs hP hD hS => ?_)
  refine lv_aload_n hx hb dX4_put_89 rfl (lv_at hl 0 rfl) ?_
  refine mg_0 hx hb hts hi4 hown hK hP k9 dX4_put_90 ?_
  refine lv_iconst (v := nI 4) hx hb dX4_put_93 (by decide) ?_
  refine lv_iload_n hx hb dX4_put_94 rfl (lv_at hl 1 rfl) ?_
  refine n_mul hx hb dX4_put_95 ?_
  refine lv_iconst (v := nI 3) hx hb dX4_put_96 (by decide) ?_
  refine n_add hx hb dX4_put_97 ?_
  refine lv_iload hx hb dX4_put_98 (lv_at hl 5 rfl) ?_
  refine ms_0 hx hb hK hP hD hS (by omega) dX4_put_100 (fun H locs hP hD hS => ?_)
  refine lv_iconst (v := nI 1) hx hb dX4_put_101 (by decide) ?_
  exact g_retz hx hb hr hlocks (by decide) ((uN (uN (uN (uN (uN N 26 (0) (0)) 0 (4 * pl) (k)) 0 ((4 * pl) + 1) (d)) 0 ((4 * pl) + 2) (x)) 0 ((4 * pl) + 3) (B)), J) (⟨rfl, rfl⟩) hP hS dX4_put_102
set_option maxHeartbeats 4000000 in
set_option maxRecDepth 100000 in
theorem tM_units (l : Launch) (dC : Nat → ClassId) (dI : Nat → Nat → Nat) (a : Nat → Nat) (cI cL cZ : ClassId) (N : Nat → Nat → Nat) (J : Nat → Nat → Int64) (k n : Nat) (hc : N 11 0 = 0) (hk : k < 4) (hn : 1 ≤ n) (hn3 : n ≤ 3) : MetI l yX4_units wsX4_units ({ frames := 0, cells := 0, slots := 0, locals := 0 } : Room) dC dI (gT cI cL cZ) (mF a cI cL cZ) (mL a) (N, J) [.ref (a 0), .int (nI (k)), .int (nI (n))] (fun r u => r = nI 1 ∧ u = (uN (uN N 26 0 0) 1 k n, J)) := by
  intro sz
  refine g_entry (bytes := cX4_units) (maxL := 3) (ret := (some .boolean)) (Qc := fun sz => va_Qi (fun r u => r = nI 1 ∧ u = (uN (uN N 26 0 0) 1 k n, J)) (gB dC dI (mF a cI cL cZ)) (aA (mL a) sz)) (by decide) rfl (Nat.le_of_ble_eq_true rfl) rfl ?_
  intro p e s m below meth c ls hx hb hr hml hts hown hlocks hK hP hD hS hZ hl
  have hP : va_P (dC, dI) vwCl (mW a cI cL cZ N J) s.heap := hP
  have hD : va_D (aA (mL a) s.heap.size) (mW a cI cL cZ N J) := hD
  have hown : s.vm.findClass RX4 = some m.cls := hown
  have hl : lv_has ls 3 [(0, .ref (a 0)), (1, .int (nI (k))), (2, .int (nI (n)))] := hl
  have hi4 : ∀ w ∈ wsX40, w ∈ wsX4_units := by decide +kernel
  have k13 := hts (.fieldLink RX4 13 "ScoreMachineModel" "units" "[I") (by decide +kernel)
  have k66 := hts (.fieldLink RX4 66 "ScoreMachineModel" "thrown" "I") (by decide +kernel)
  have k76 := hts (.fieldLink RX4 76 "ScoreMachineModel" "cycle" "I") (by decide +kernel)
  refine lv_aload_n hx hb dX4_units_0 rfl (lv_at hl 0 rfl) ?_
  refine lv_iconst (v := nI 0) hx hb dX4_units_1 (by decide) ?_
  refine mp_26 hx hb hts hi4 hown hK hP hD hS k66 dX4_units_2 (fun H locs hP hD hS => ?_)
  refine lv_aload_n hx hb dX4_units_5 rfl (lv_at hl 0 rfl) ?_
  refine mg_11 (v := N 11 0) hx hb hts hi4 hown hK hP k76 rfl dX4_units_6 ?_
  refine n_if_gt (tgt := 31) hx hb (by omega) dX4_units_9 (by decide) (fun c_9 => absurd c_9 (by omega)) (fun c_9 => ?_)
  refine lv_iload_n hx hb dX4_units_12 rfl (lv_at hl 1 rfl) ?_
  refine n_if_lt (tgt := 31) hx hb (by omega) dX4_units_13 (by decide) ?_
  refine lv_iload_n hx hb dX4_units_16 rfl (lv_at hl 1 rfl) ?_
  refine lv_iconst (v := nI 3) hx hb dX4_units_17 (by decide) ?_
  refine n_icmp_gt (tgt := 31) hx hb (by omega) (by omega) dX4_units_18 (by decide) (fun c_18 => absurd c_18 (by omega)) (fun c_18 => ?_)
  refine lv_iload_n hx hb dX4_units_21 rfl (lv_at hl 2 rfl) ?_
  refine lv_iconst (v := nI 1) hx hb dX4_units_22 (by decide) ?_
  refine n_icmp_lt (tgt := 31) hx hb (by omega) (by omega) dX4_units_23 (by decide) (fun c_23 => absurd c_23 (by omega)) (fun c_23 => ?_)
  refine lv_iload_n hx hb dX4_units_26 rfl (lv_at hl 2 rfl) ?_
  refine lv_iconst (v := nI 3) hx hb dX4_units_27 (by decide) ?_
  refine n_icmp_le (tgt := 33) hx hb (by omega) (by omega) dX4_units_28 (by decide) (fun c_28 => ?_) (fun c_28 => absurd c_28 (by omega))
  refine lv_aload_n hx hb dX4_units_33 rfl (lv_at hl 0 rfl) ?_
  refine mg_1 hx hb hts hi4 hown hK hP k13 dX4_units_34 ?_
  refine lv_iload_n hx hb dX4_units_37 rfl (lv_at hl 1 rfl) ?_
  refine lv_iload_n hx hb dX4_units_38 rfl (lv_at hl 2 rfl) ?_
  refine ms_1 hx hb hK hP hD hS (by omega) dX4_units_39 (fun H locs hP hD hS => ?_)
  refine lv_iconst (v := nI 1) hx hb dX4_units_40 (by decide) ?_
  exact g_retz hx hb hr hlocks (by decide) ((uN (uN N 26 (0) (0)) 1 (k) (n)), J) (⟨rfl, rfl⟩) hP hS dX4_units_41
set_option maxHeartbeats 4000000 in
set_option maxRecDepth 100000 in
theorem tM_latency (l : Launch) (dC : Nat → ClassId) (dI : Nat → Nat → Nat) (a : Nat → Nat) (cI cL cZ : ClassId) (N : Nat → Nat → Nat) (J : Nat → Nat → Int64) (k n : Nat) (hc : N 11 0 = 0) (hk : k < 6) (hn : 1 ≤ n) (hn3 : n ≤ 30) : MetI l yX4_latency wsX4_latency ({ frames := 0, cells := 0, slots := 0, locals := 0 } : Room) dC dI (gT cI cL cZ) (mF a cI cL cZ) (mL a) (N, J) [.ref (a 0), .int (nI (k)), .int (nI (n))] (fun r u => r = nI 1 ∧ u = (uN (uN N 26 0 0) 2 k n, J)) := by
  intro sz
  refine g_entry (bytes := cX4_latency) (maxL := 3) (ret := (some .boolean)) (Qc := fun sz => va_Qi (fun r u => r = nI 1 ∧ u = (uN (uN N 26 0 0) 2 k n, J)) (gB dC dI (mF a cI cL cZ)) (aA (mL a) sz)) (by decide) rfl (Nat.le_of_ble_eq_true rfl) rfl ?_
  intro p e s m below meth c ls hx hb hr hml hts hown hlocks hK hP hD hS hZ hl
  have hP : va_P (dC, dI) vwCl (mW a cI cL cZ N J) s.heap := hP
  have hD : va_D (aA (mL a) s.heap.size) (mW a cI cL cZ N J) := hD
  have hown : s.vm.findClass RX4 = some m.cls := hown
  have hl : lv_has ls 3 [(0, .ref (a 0)), (1, .int (nI (k))), (2, .int (nI (n)))] := hl
  have hi4 : ∀ w ∈ wsX40, w ∈ wsX4_latency := by decide +kernel
  have k16 := hts (.fieldLink RX4 16 "ScoreMachineModel" "latencies" "[I") (by decide +kernel)
  have k66 := hts (.fieldLink RX4 66 "ScoreMachineModel" "thrown" "I") (by decide +kernel)
  have k76 := hts (.fieldLink RX4 76 "ScoreMachineModel" "cycle" "I") (by decide +kernel)
  refine lv_aload_n hx hb dX4_latency_0 rfl (lv_at hl 0 rfl) ?_
  refine lv_iconst (v := nI 0) hx hb dX4_latency_1 (by decide) ?_
  refine mp_26 hx hb hts hi4 hown hK hP hD hS k66 dX4_latency_2 (fun H locs hP hD hS => ?_)
  refine lv_aload_n hx hb dX4_latency_5 rfl (lv_at hl 0 rfl) ?_
  refine mg_11 (v := N 11 0) hx hb hts hi4 hown hK hP k76 rfl dX4_latency_6 ?_
  refine n_if_gt (tgt := 32) hx hb (by omega) dX4_latency_9 (by decide) (fun c_9 => absurd c_9 (by omega)) (fun c_9 => ?_)
  refine lv_iload_n hx hb dX4_latency_12 rfl (lv_at hl 1 rfl) ?_
  refine n_if_lt (tgt := 32) hx hb (by omega) dX4_latency_13 (by decide) ?_
  refine lv_iload_n hx hb dX4_latency_16 rfl (lv_at hl 1 rfl) ?_
  refine lv_iconst (v := nI 5) hx hb dX4_latency_17 (by decide) ?_
  refine n_icmp_gt (tgt := 32) hx hb (by omega) (by omega) dX4_latency_18 (by decide) (fun c_18 => absurd c_18 (by omega)) (fun c_18 => ?_)
  refine lv_iload_n hx hb dX4_latency_21 rfl (lv_at hl 2 rfl) ?_
  refine lv_iconst (v := nI 1) hx hb dX4_latency_22 (by decide) ?_
  refine n_icmp_lt (tgt := 32) hx hb (by omega) (by omega) dX4_latency_23 (by decide) (fun c_23 => absurd c_23 (by omega)) (fun c_23 => ?_)
  refine lv_iload_n hx hb dX4_latency_26 rfl (lv_at hl 2 rfl) ?_
  refine lv_bipush (v := nI 30) hx hb dX4_latency_27 (by decide) ?_
  refine n_icmp_le (tgt := 34) hx hb (by omega) (by omega) dX4_latency_29 (by decide) (fun c_29 => ?_) (fun c_29 => absurd c_29 (by omega))
  refine lv_aload_n hx hb dX4_latency_34 rfl (lv_at hl 0 rfl) ?_
  refine mg_2 hx hb hts hi4 hown hK hP k16 dX4_latency_35 ?_
  refine lv_iload_n hx hb dX4_latency_38 rfl (lv_at hl 1 rfl) ?_
  refine lv_iload_n hx hb dX4_latency_39 rfl (lv_at hl 2 rfl) ?_
  refine ms_2 hx hb hK hP hD hS (by omega) dX4_latency_40 (fun H locs hP hD hS => ?_)
  refine lv_iconst (v := nI 1) hx hb dX4_latency_41 (by decide) ?_
  exact g_retz hx hb hr hlocks (by decide) ((uN (uN N 26 (0) (0)) 2 (k) (n)), J) (⟨rfl, rfl⟩) hP hS dX4_latency_42
set_option maxHeartbeats 4000000 in
set_option maxRecDepth 100000 in
theorem tM_width (l : Launch) (dC : Nat → ClassId) (dI : Nat → Nat → Nat) (a : Nat → Nat) (cI cL cZ : ClassId) (N : Nat → Nat → Nat) (J : Nat → Nat → Int64) (n : Nat) (hc : N 11 0 = 0) (hn : 1 ≤ n) (hn3 : n ≤ 4) : MetI l yX4_width wsX4_width ({ frames := 0, cells := 0, slots := 0, locals := 0 } : Room) dC dI (gT cI cL cZ) (mF a cI cL cZ) (mL a) (N, J) [.ref (a 0), .int (nI (n))] (fun r u => r = nI 1 ∧ u = (uN (uN N 26 0 0) 3 0 n, J)) := by
  intro sz
  refine g_entry (bytes := cX4_width) (maxL := 2) (ret := (some .boolean)) (Qc := fun sz => va_Qi (fun r u => r = nI 1 ∧ u = (uN (uN N 26 0 0) 3 0 n, J)) (gB dC dI (mF a cI cL cZ)) (aA (mL a) sz)) (by decide) rfl (Nat.le_of_ble_eq_true rfl) rfl ?_
  intro p e s m below meth c ls hx hb hr hml hts hown hlocks hK hP hD hS hZ hl
  have hP : va_P (dC, dI) vwCl (mW a cI cL cZ N J) s.heap := hP
  have hD : va_D (aA (mL a) s.heap.size) (mW a cI cL cZ N J) := hD
  have hown : s.vm.findClass RX4 = some m.cls := hown
  have hl : lv_has ls 2 [(0, .ref (a 0)), (1, .int (nI (n)))] := hl
  have hi4 : ∀ w ∈ wsX40, w ∈ wsX4_width := by decide +kernel
  have k66 := hts (.fieldLink RX4 66 "ScoreMachineModel" "thrown" "I") (by decide +kernel)
  have k70 := hts (.fieldLink RX4 70 "ScoreMachineModel" "width" "I") (by decide +kernel)
  have k76 := hts (.fieldLink RX4 76 "ScoreMachineModel" "cycle" "I") (by decide +kernel)
  refine lv_aload_n hx hb dX4_width_0 rfl (lv_at hl 0 rfl) ?_
  refine lv_iconst (v := nI 0) hx hb dX4_width_1 (by decide) ?_
  refine mp_26 hx hb hts hi4 hown hK hP hD hS k66 dX4_width_2 (fun H locs hP hD hS => ?_)
  refine lv_aload_n hx hb dX4_width_5 rfl (lv_at hl 0 rfl) ?_
  refine mg_11 (v := N 11 0) hx hb hts hi4 hown hK hP k76 rfl dX4_width_6 ?_
  refine n_if_gt (tgt := 22) hx hb (by omega) dX4_width_9 (by decide) (fun c_9 => absurd c_9 (by omega)) (fun c_9 => ?_)
  refine lv_iload_n hx hb dX4_width_12 rfl (lv_at hl 1 rfl) ?_
  refine lv_iconst (v := nI 1) hx hb dX4_width_13 (by decide) ?_
  refine n_icmp_lt (tgt := 22) hx hb (by omega) (by omega) dX4_width_14 (by decide) (fun c_14 => absurd c_14 (by omega)) (fun c_14 => ?_)
  refine lv_iload_n hx hb dX4_width_17 rfl (lv_at hl 1 rfl) ?_
  refine lv_iconst (v := nI 4) hx hb dX4_width_18 (by decide) ?_
  refine n_icmp_le (tgt := 24) hx hb (by omega) (by omega) dX4_width_19 (by decide) (fun c_19 => ?_) (fun c_19 => absurd c_19 (by omega))
  refine lv_aload_n hx hb dX4_width_24 rfl (lv_at hl 0 rfl) ?_
  refine lv_iload_n hx hb dX4_width_25 rfl (lv_at hl 1 rfl) ?_
  refine mp_3 hx hb hts hi4 hown hK hP hD hS k70 dX4_width_26 (fun H locs hP hD hS => ?_)
  refine lv_iconst (v := nI 1) hx hb dX4_width_29 (by decide) ?_
  exact g_retz hx hb hr hlocks (by decide) ((uN (uN N 26 (0) (0)) 3 (0) (n)), J) (⟨rfl, rfl⟩) hP hS dX4_width_30
set_option maxHeartbeats 4000000 in
set_option maxRecDepth 100000 in
theorem tM_set0 (l : Launch) (dC : Nat → ClassId) (dI : Nat → Nat → Nat) (a : Nat → Nat) (cI cL cZ : ClassId) (N : Nat → Nat → Nat) (J : Nat → Nat → Int64) (i : Nat) (v : Int64) (hc : N 11 0 = 0) (hi : i < 16) : MetI l yX4_set wsX4_set ({ frames := 0, cells := 0, slots := 0, locals := 0 } : Room) dC dI (gT cI cL cZ) (mF a cI cL cZ) (mL a) (N, J) [.ref (a 0), .int (nI (0)), .int (nI (i)), .long (v)] (fun r u => r = nI 1 ∧ u = (uN N 26 0 0, uJ (uJ (uJ J 4 i v) 9 i v) 6 i v)) := by
  intro sz
  refine g_entry (bytes := cX4_set) (maxL := 5) (ret := (some .boolean)) (Qc := fun sz => va_Qi (fun r u => r = nI 1 ∧ u = (uN N 26 0 0, uJ (uJ (uJ J 4 i v) 9 i v) 6 i v)) (gB dC dI (mF a cI cL cZ)) (aA (mL a) sz)) (by decide) rfl (Nat.le_of_ble_eq_true rfl) rfl ?_
  intro p e s m below meth c ls hx hb hr hml hts hown hlocks hK hP hD hS hZ hl
  have hP : va_P (dC, dI) vwCl (mW a cI cL cZ N J) s.heap := hP
  have hD : va_D (aA (mL a) s.heap.size) (mW a cI cL cZ N J) := hD
  have hown : s.vm.findClass RX4 = some m.cls := hown
  have hl : lv_has ls 5 [(0, .ref (a 0)), (1, .int (nI (0))), (2, .int (nI (i))), (3, .long (v))] := hl
  have hi4 : ∀ w ∈ wsX40, w ∈ wsX4_set := by decide +kernel
  have k19 := hts (.fieldLink RX4 19 "ScoreMachineModel" "firstRegisters" "[J") (by decide +kernel)
  have k26 := hts (.fieldLink RX4 26 "ScoreMachineModel" "plainRegisters" "[J") (by decide +kernel)
  have k32 := hts (.fieldLink RX4 32 "ScoreMachineModel" "registers" "[J") (by decide +kernel)
  have k66 := hts (.fieldLink RX4 66 "ScoreMachineModel" "thrown" "I") (by decide +kernel)
  have k76 := hts (.fieldLink RX4 76 "ScoreMachineModel" "cycle" "I") (by decide +kernel)
  refine lv_aload_n hx hb dX4_set_0 rfl (lv_at hl 0 rfl) ?_
  refine lv_iconst (v := nI 0) hx hb dX4_set_1 (by decide) ?_
  refine mp_26 hx hb hts hi4 hown hK hP hD hS k66 dX4_set_2 (fun H locs hP hD hS => ?_)
  refine lv_aload_n hx hb dX4_set_5 rfl (lv_at hl 0 rfl) ?_
  refine mg_11 (v := N 11 0) hx hb hts hi4 hown hK hP k76 rfl dX4_set_6 ?_
  refine n_if_gt (tgt := 41) hx hb (by omega) dX4_set_9 (by decide) (fun c_9 => absurd c_9 (by omega)) (fun c_9 => ?_)
  refine lv_iload_n hx hb dX4_set_12 rfl (lv_at hl 1 rfl) ?_
  refine n_if_lt (tgt := 41) hx hb (by omega) dX4_set_13 (by decide) ?_
  refine lv_iload_n hx hb dX4_set_16 rfl (lv_at hl 1 rfl) ?_
  refine lv_iconst (v := nI 1) hx hb dX4_set_17 (by decide) ?_
  refine n_icmp_gt (tgt := 41) hx hb (by omega) (by omega) dX4_set_18 (by decide) (fun c_18 => absurd c_18 (by omega)) (fun c_18 => ?_)
  refine lv_iload_n hx hb dX4_set_21 rfl (lv_at hl 2 rfl) ?_
  refine n_if_lt (tgt := 41) hx hb (by omega) dX4_set_22 (by decide) ?_
  refine lv_iload_n hx hb dX4_set_25 rfl (lv_at hl 2 rfl) ?_
  refine lv_iload_n hx hb dX4_set_26 rfl (lv_at hl 1 rfl) ?_
  refine n_if_ne (tgt := 35) hx hb (by omega) dX4_set_27 (by decide) (fun c_27 => absurd c_27 (by omega)) (fun c_27 => ?_)
  refine lv_bipush (v := nI 16) hx hb dX4_set_30 (by decide) ?_
  refine lv_goto (tgt := 38) hx hb dX4_set_32 (by decide) ?_
  refine n_icmp_lt (tgt := 43) hx hb (by omega) (by omega) dX4_set_38 (by decide) (fun c_38 => ?_) (fun c_38 => absurd c_38 (by omega))
  refine lv_iload_n hx hb dX4_set_43 rfl (lv_at hl 1 rfl) ?_
  refine n_if_ne (tgt := 71) hx hb (by omega) dX4_set_44 (by decide) (fun c_44 => absurd c_44 (by omega)) (fun c_44 => ?_)
  refine lv_aload_n hx hb dX4_set_47 rfl (lv_at hl 0 rfl) ?_
  refine mg_4 hx hb hts hi4 hown hK hP k19 dX4_set_48 ?_
  refine lv_iload_n hx hb dX4_set_51 rfl (lv_at hl 2 rfl) ?_
  refine lv_lload_n hx hb dX4_set_52 rfl (lv_at hl 3 rfl) ?_
  refine ms_4 hx hb hK hP hD hS (by omega) dX4_set_53 (fun H locs hP hD hS => ?_)
  refine lv_aload_n hx hb dX4_set_54 rfl (lv_at hl 0 rfl) ?_
  refine mg_9 hx hb hts hi4 hown hK hP k32 dX4_set_55 ?_
  refine lv_iload_n hx hb dX4_set_58 rfl (lv_at hl 2 rfl) ?_
  refine lv_lload_n hx hb dX4_set_59 rfl (lv_at hl 3 rfl) ?_
  refine ms_9 hx hb hK hP hD hS (by omega) dX4_set_60 (fun H locs hP hD hS => ?_)
  refine lv_aload_n hx hb dX4_set_61 rfl (lv_at hl 0 rfl) ?_
  refine mg_6 hx hb hts hi4 hown hK hP k26 dX4_set_62 ?_
  refine lv_iload_n hx hb dX4_set_65 rfl (lv_at hl 2 rfl) ?_
  refine lv_lload_n hx hb dX4_set_66 rfl (lv_at hl 3 rfl) ?_
  refine ms_6 hx hb hK hP hD hS (by omega) dX4_set_67 (fun H locs hP hD hS => ?_)
  refine lv_goto (tgt := 92) hx hb dX4_set_68 (by decide) ?_
  refine lv_iconst (v := nI 1) hx hb dX4_set_92 (by decide) ?_
  exact g_retz hx hb hr hlocks (by decide) ((uN N 26 (0) (0)), (uJ (uJ (uJ J 4 (i) (v)) 9 (i) (v)) 6 (i) (v))) (⟨rfl, rfl⟩) hP hS dX4_set_93
set_option maxHeartbeats 4000000 in
set_option maxRecDepth 100000 in
theorem tM_set1 (l : Launch) (dC : Nat → ClassId) (dI : Nat → Nat → Nat) (a : Nat → Nat) (cI cL cZ : ClassId) (N : Nat → Nat → Nat) (J : Nat → Nat → Int64) (i : Nat) (v : Int64) (hc : N 11 0 = 0) (hi : i < 256) : MetI l yX4_set wsX4_set ({ frames := 0, cells := 0, slots := 0, locals := 0 } : Room) dC dI (gT cI cL cZ) (mF a cI cL cZ) (mL a) (N, J) [.ref (a 0), .int (nI (1)), .int (nI (i)), .long (v)] (fun r u => r = nI 1 ∧ u = (uN N 26 0 0, uJ (uJ (uJ J 5 i v) 10 i v) 7 i v)) := by
  intro sz
  refine g_entry (bytes := cX4_set) (maxL := 5) (ret := (some .boolean)) (Qc := fun sz => va_Qi (fun r u => r = nI 1 ∧ u = (uN N 26 0 0, uJ (uJ (uJ J 5 i v) 10 i v) 7 i v)) (gB dC dI (mF a cI cL cZ)) (aA (mL a) sz)) (by decide) rfl (Nat.le_of_ble_eq_true rfl) rfl ?_
  intro p e s m below meth c ls hx hb hr hml hts hown hlocks hK hP hD hS hZ hl
  have hP : va_P (dC, dI) vwCl (mW a cI cL cZ N J) s.heap := hP
  have hD : va_D (aA (mL a) s.heap.size) (mW a cI cL cZ N J) := hD
  have hown : s.vm.findClass RX4 = some m.cls := hown
  have hl : lv_has ls 5 [(0, .ref (a 0)), (1, .int (nI (1))), (2, .int (nI (i))), (3, .long (v))] := hl
  have hi4 : ∀ w ∈ wsX40, w ∈ wsX4_set := by decide +kernel
  have k23 := hts (.fieldLink RX4 23 "ScoreMachineModel" "firstMemory" "[J") (by decide +kernel)
  have k29 := hts (.fieldLink RX4 29 "ScoreMachineModel" "plainMemory" "[J") (by decide +kernel)
  have k35 := hts (.fieldLink RX4 35 "ScoreMachineModel" "memory" "[J") (by decide +kernel)
  have k66 := hts (.fieldLink RX4 66 "ScoreMachineModel" "thrown" "I") (by decide +kernel)
  have k76 := hts (.fieldLink RX4 76 "ScoreMachineModel" "cycle" "I") (by decide +kernel)
  refine lv_aload_n hx hb dX4_set_0 rfl (lv_at hl 0 rfl) ?_
  refine lv_iconst (v := nI 0) hx hb dX4_set_1 (by decide) ?_
  refine mp_26 hx hb hts hi4 hown hK hP hD hS k66 dX4_set_2 (fun H locs hP hD hS => ?_)
  refine lv_aload_n hx hb dX4_set_5 rfl (lv_at hl 0 rfl) ?_
  refine mg_11 (v := N 11 0) hx hb hts hi4 hown hK hP k76 rfl dX4_set_6 ?_
  refine n_if_gt (tgt := 41) hx hb (by omega) dX4_set_9 (by decide) (fun c_9 => absurd c_9 (by omega)) (fun c_9 => ?_)
  refine lv_iload_n hx hb dX4_set_12 rfl (lv_at hl 1 rfl) ?_
  refine n_if_lt (tgt := 41) hx hb (by omega) dX4_set_13 (by decide) ?_
  refine lv_iload_n hx hb dX4_set_16 rfl (lv_at hl 1 rfl) ?_
  refine lv_iconst (v := nI 1) hx hb dX4_set_17 (by decide) ?_
  refine n_icmp_gt (tgt := 41) hx hb (by omega) (by omega) dX4_set_18 (by decide) (fun c_18 => absurd c_18 (by omega)) (fun c_18 => ?_)
  refine lv_iload_n hx hb dX4_set_21 rfl (lv_at hl 2 rfl) ?_
  refine n_if_lt (tgt := 41) hx hb (by omega) dX4_set_22 (by decide) ?_
  refine lv_iload_n hx hb dX4_set_25 rfl (lv_at hl 2 rfl) ?_
  refine lv_iload_n hx hb dX4_set_26 rfl (lv_at hl 1 rfl) ?_
  refine n_if_ne (tgt := 35) hx hb (by omega) dX4_set_27 (by decide) (fun c_27 => ?_) (fun c_27 => absurd c_27 (by omega))
  refine lv_sipush (v := nI 256) hx hb dX4_set_35 (by decide) ?_
  refine n_icmp_lt (tgt := 43) hx hb (by omega) (by omega) dX4_set_38 (by decide) (fun c_38 => ?_) (fun c_38 => absurd c_38 (by omega))
  refine lv_iload_n hx hb dX4_set_43 rfl (lv_at hl 1 rfl) ?_
  refine n_if_ne (tgt := 71) hx hb (by omega) dX4_set_44 (by decide) (fun c_44 => ?_) (fun c_44 => absurd c_44 (by omega))
  refine lv_aload_n hx hb dX4_set_71 rfl (lv_at hl 0 rfl) ?_
  refine mg_5 hx hb hts hi4 hown hK hP k23 dX4_set_72 ?_
  refine lv_iload_n hx hb dX4_set_75 rfl (lv_at hl 2 rfl) ?_
  refine lv_lload_n hx hb dX4_set_76 rfl (lv_at hl 3 rfl) ?_
  refine ms_5 hx hb hK hP hD hS (by omega) dX4_set_77 (fun H locs hP hD hS => ?_)
  refine lv_aload_n hx hb dX4_set_78 rfl (lv_at hl 0 rfl) ?_
  refine mg_10 hx hb hts hi4 hown hK hP k35 dX4_set_79 ?_
  refine lv_iload_n hx hb dX4_set_82 rfl (lv_at hl 2 rfl) ?_
  refine lv_lload_n hx hb dX4_set_83 rfl (lv_at hl 3 rfl) ?_
  refine ms_10 hx hb hK hP hD hS (by omega) dX4_set_84 (fun H locs hP hD hS => ?_)
  refine lv_aload_n hx hb dX4_set_85 rfl (lv_at hl 0 rfl) ?_
  refine mg_7 hx hb hts hi4 hown hK hP k29 dX4_set_86 ?_
  refine lv_iload_n hx hb dX4_set_89 rfl (lv_at hl 2 rfl) ?_
  refine lv_lload_n hx hb dX4_set_90 rfl (lv_at hl 3 rfl) ?_
  refine ms_7 hx hb hK hP hD hS (by omega) dX4_set_91 (fun H locs hP hD hS => ?_)
  refine lv_iconst (v := nI 1) hx hb dX4_set_92 (by decide) ?_
  exact g_retz hx hb hr hlocks (by decide) ((uN N 26 (0) (0)), (uJ (uJ (uJ J 5 (i) (v)) 10 (i) (v)) 7 (i) (v))) (⟨rfl, rfl⟩) hP hS dX4_set_93
set_option maxHeartbeats 4000000 in
set_option maxRecDepth 100000 in
theorem tM_register (l : Launch) (dC : Nat → ClassId) (dI : Nat → Nat → Nat) (a : Nat → Nat) (cI cL cZ : ClassId) (N : Nat → Nat → Nat) (J : Nat → Nat → Int64) (i : Nat) (hi : i < 16) : MetL l yX4_register wsX4_register ({ frames := 0, cells := 0, slots := 0, locals := 0 } : Room) dC dI (gT cI cL cZ) (mF a cI cL cZ) (mL a) (N, J) [.ref (a 0), .int (nI (i))] (fun r u => r = J 9 i ∧ u = (uN N 26 0 0, J)) := by
  intro sz
  refine g_entry (bytes := cX4_register) (maxL := 2) (ret := (some .long)) (Qc := fun sz => va_Ql (fun r u => r = J 9 i ∧ u = (uN N 26 0 0, J)) (gB dC dI (mF a cI cL cZ)) (aA (mL a) sz)) (by decide) rfl (Nat.le_of_ble_eq_true rfl) rfl ?_
  intro p e s m below meth c ls hx hb hr hml hts hown hlocks hK hP hD hS hZ hl
  have hP : va_P (dC, dI) vwCl (mW a cI cL cZ N J) s.heap := hP
  have hD : va_D (aA (mL a) s.heap.size) (mW a cI cL cZ N J) := hD
  have hown : s.vm.findClass RX4 = some m.cls := hown
  have hl : lv_has ls 2 [(0, .ref (a 0)), (1, .int (nI (i)))] := hl
  have hi4 : ∀ w ∈ wsX40, w ∈ wsX4_register := by decide +kernel
  have k32 := hts (.fieldLink RX4 32 "ScoreMachineModel" "registers" "[J") (by decide +kernel)
  have k66 := hts (.fieldLink RX4 66 "ScoreMachineModel" "thrown" "I") (by decide +kernel)
  refine lv_aload_n hx hb dX4_register_0 rfl (lv_at hl 0 rfl) ?_
  refine lv_iconst (v := nI 0) hx hb dX4_register_1 (by decide) ?_
  refine mp_26 hx hb hts hi4 hown hK hP hD hS k66 dX4_register_2 (fun H locs hP hD hS => ?_)
  refine lv_iload_n hx hb dX4_register_5 rfl (lv_at hl 1 rfl) ?_
  refine n_if_lt (tgt := 15) hx hb (by omega) dX4_register_6 (by decide) ?_
  refine lv_iload_n hx hb dX4_register_9 rfl (lv_at hl 1 rfl) ?_
  refine lv_bipush (v := nI 16) hx hb dX4_register_10 (by decide) ?_
  refine n_icmp_lt (tgt := 22) hx hb (by omega) (by omega) dX4_register_12 (by decide) (fun c_12 => ?_) (fun c_12 => absurd c_12 (by omega))
  refine lv_aload_n hx hb dX4_register_22 rfl (lv_at hl 0 rfl) ?_
  refine mg_9 hx hb hts hi4 hown hK hP k32 dX4_register_23 ?_
  refine lv_iload_n hx hb dX4_register_26 rfl (lv_at hl 1 rfl) ?_
  refine ml_9 (v := J 9 i) hx hb hK hP (by omega) rfl dX4_register_27 ?_
  exact g_retl hx hb hr hlocks ((uN N 26 (0) (0)), J) (⟨rfl, rfl⟩) hP hS dX4_register_28
set_option maxHeartbeats 4000000 in
set_option maxRecDepth 100000 in
theorem tM_memory (l : Launch) (dC : Nat → ClassId) (dI : Nat → Nat → Nat) (a : Nat → Nat) (cI cL cZ : ClassId) (N : Nat → Nat → Nat) (J : Nat → Nat → Int64) (i : Nat) (hi : i < 256) : MetL l yX4_memory wsX4_memory ({ frames := 0, cells := 0, slots := 0, locals := 0 } : Room) dC dI (gT cI cL cZ) (mF a cI cL cZ) (mL a) (N, J) [.ref (a 0), .int (nI (i))] (fun r u => r = J 10 i ∧ u = (uN N 26 0 0, J)) := by
  intro sz
  refine g_entry (bytes := cX4_memory) (maxL := 2) (ret := (some .long)) (Qc := fun sz => va_Ql (fun r u => r = J 10 i ∧ u = (uN N 26 0 0, J)) (gB dC dI (mF a cI cL cZ)) (aA (mL a) sz)) (by decide) rfl (Nat.le_of_ble_eq_true rfl) rfl ?_
  intro p e s m below meth c ls hx hb hr hml hts hown hlocks hK hP hD hS hZ hl
  have hP : va_P (dC, dI) vwCl (mW a cI cL cZ N J) s.heap := hP
  have hD : va_D (aA (mL a) s.heap.size) (mW a cI cL cZ N J) := hD
  have hown : s.vm.findClass RX4 = some m.cls := hown
  have hl : lv_has ls 2 [(0, .ref (a 0)), (1, .int (nI (i)))] := hl
  have hi4 : ∀ w ∈ wsX40, w ∈ wsX4_memory := by decide +kernel
  have k35 := hts (.fieldLink RX4 35 "ScoreMachineModel" "memory" "[J") (by decide +kernel)
  have k66 := hts (.fieldLink RX4 66 "ScoreMachineModel" "thrown" "I") (by decide +kernel)
  refine lv_aload_n hx hb dX4_memory_0 rfl (lv_at hl 0 rfl) ?_
  refine lv_iconst (v := nI 0) hx hb dX4_memory_1 (by decide) ?_
  refine mp_26 hx hb hts hi4 hown hK hP hD hS k66 dX4_memory_2 (fun H locs hP hD hS => ?_)
  refine lv_iload_n hx hb dX4_memory_5 rfl (lv_at hl 1 rfl) ?_
  refine n_if_lt (tgt := 16) hx hb (by omega) dX4_memory_6 (by decide) ?_
  refine lv_iload_n hx hb dX4_memory_9 rfl (lv_at hl 1 rfl) ?_
  refine lv_sipush (v := nI 256) hx hb dX4_memory_10 (by decide) ?_
  refine n_icmp_lt (tgt := 23) hx hb (by omega) (by omega) dX4_memory_13 (by decide) (fun c_13 => ?_) (fun c_13 => absurd c_13 (by omega))
  refine lv_aload_n hx hb dX4_memory_23 rfl (lv_at hl 0 rfl) ?_
  refine mg_10 hx hb hts hi4 hown hK hP k35 dX4_memory_24 ?_
  refine lv_iload_n hx hb dX4_memory_27 rfl (lv_at hl 1 rfl) ?_
  refine ml_10 (v := J 10 i) hx hb hK hP (by omega) rfl dX4_memory_28 ?_
  exact g_retl hx hb hr hlocks ((uN N 26 (0) (0)), J) (⟨rfl, rfl⟩) hP hS dX4_memory_29
set_option maxHeartbeats 4000000 in
set_option maxRecDepth 100000 in
theorem tM_plain0 (l : Launch) (dC : Nat → ClassId) (dI : Nat → Nat → Nat) (a : Nat → Nat) (cI cL cZ : ClassId) (N : Nat → Nat → Nat) (J : Nat → Nat → Int64) (i : Nat) (hi : i < 16) : MetL l yX4_plain wsX4_plain ({ frames := 0, cells := 0, slots := 0, locals := 0 } : Room) dC dI (gT cI cL cZ) (mF a cI cL cZ) (mL a) (N, J) [.ref (a 0), .int (nI (0)), .int (nI (i))] (fun r u => r = J 6 i ∧ u = (uN N 26 0 0, J)) := by
  intro sz
  refine g_entry (bytes := cX4_plain) (maxL := 3) (ret := (some .long)) (Qc := fun sz => va_Ql (fun r u => r = J 6 i ∧ u = (uN N 26 0 0, J)) (gB dC dI (mF a cI cL cZ)) (aA (mL a) sz)) (by decide) rfl (Nat.le_of_ble_eq_true rfl) rfl ?_
  intro p e s m below meth c ls hx hb hr hml hts hown hlocks hK hP hD hS hZ hl
  have hP : va_P (dC, dI) vwCl (mW a cI cL cZ N J) s.heap := hP
  have hD : va_D (aA (mL a) s.heap.size) (mW a cI cL cZ N J) := hD
  have hown : s.vm.findClass RX4 = some m.cls := hown
  have hl : lv_has ls 3 [(0, .ref (a 0)), (1, .int (nI (0))), (2, .int (nI (i)))] := hl
  have hi4 : ∀ w ∈ wsX40, w ∈ wsX4_plain := by decide +kernel
  have k26 := hts (.fieldLink RX4 26 "ScoreMachineModel" "plainRegisters" "[J") (by decide +kernel)
  have k66 := hts (.fieldLink RX4 66 "ScoreMachineModel" "thrown" "I") (by decide +kernel)
  refine lv_aload_n hx hb dX4_plain_0 rfl (lv_at hl 0 rfl) ?_
  refine lv_iconst (v := nI 0) hx hb dX4_plain_1 (by decide) ?_
  refine mp_26 hx hb hts hi4 hown hK hP hD hS k66 dX4_plain_2 (fun H locs hP hD hS => ?_)
  refine lv_iload_n hx hb dX4_plain_5 rfl (lv_at hl 1 rfl) ?_
  refine n_if_lt (tgt := 34) hx hb (by omega) dX4_plain_6 (by decide) ?_
  refine lv_iload_n hx hb dX4_plain_9 rfl (lv_at hl 1 rfl) ?_
  refine lv_iconst (v := nI 1) hx hb dX4_plain_10 (by decide) ?_
  refine n_icmp_gt (tgt := 34) hx hb (by omega) (by omega) dX4_plain_11 (by decide) (fun c_11 => absurd c_11 (by omega)) (fun c_11 => ?_)
  refine lv_iload_n hx hb dX4_plain_14 rfl (lv_at hl 2 rfl) ?_
  refine n_if_lt (tgt := 34) hx hb (by omega) dX4_plain_15 (by decide) ?_
  refine lv_iload_n hx hb dX4_plain_18 rfl (lv_at hl 2 rfl) ?_
  refine lv_iload_n hx hb dX4_plain_19 rfl (lv_at hl 1 rfl) ?_
  refine n_if_ne (tgt := 28) hx hb (by omega) dX4_plain_20 (by decide) (fun c_20 => absurd c_20 (by omega)) (fun c_20 => ?_)
  refine lv_bipush (v := nI 16) hx hb dX4_plain_23 (by decide) ?_
  refine lv_goto (tgt := 31) hx hb dX4_plain_25 (by decide) ?_
  refine n_icmp_lt (tgt := 41) hx hb (by omega) (by omega) dX4_plain_31 (by decide) (fun c_31 => ?_) (fun c_31 => absurd c_31 (by omega))
  refine lv_iload_n hx hb dX4_plain_41 rfl (lv_at hl 1 rfl) ?_
  refine n_if_ne (tgt := 54) hx hb (by omega) dX4_plain_42 (by decide) (fun c_42 => absurd c_42 (by omega)) (fun c_42 => ?_)
  refine lv_aload_n hx hb dX4_plain_45 rfl (lv_at hl 0 rfl) ?_
  refine mg_6 hx hb hts hi4 hown hK hP k26 dX4_plain_46 ?_
  refine lv_iload_n hx hb dX4_plain_49 rfl (lv_at hl 2 rfl) ?_
  refine ml_6 (v := J 6 i) hx hb hK hP (by omega) rfl dX4_plain_50 ?_
  refine lv_goto (tgt := 60) hx hb dX4_plain_51 (by decide) ?_
  exact g_retl hx hb hr hlocks ((uN N 26 (0) (0)), J) (⟨rfl, rfl⟩) hP hS dX4_plain_60
set_option maxHeartbeats 4000000 in
set_option maxRecDepth 100000 in
theorem tM_plain1 (l : Launch) (dC : Nat → ClassId) (dI : Nat → Nat → Nat) (a : Nat → Nat) (cI cL cZ : ClassId) (N : Nat → Nat → Nat) (J : Nat → Nat → Int64) (i : Nat) (hi : i < 256) : MetL l yX4_plain wsX4_plain ({ frames := 0, cells := 0, slots := 0, locals := 0 } : Room) dC dI (gT cI cL cZ) (mF a cI cL cZ) (mL a) (N, J) [.ref (a 0), .int (nI (1)), .int (nI (i))] (fun r u => r = J 7 i ∧ u = (uN N 26 0 0, J)) := by
  intro sz
  refine g_entry (bytes := cX4_plain) (maxL := 3) (ret := (some .long)) (Qc := fun sz => va_Ql (fun r u => r = J 7 i ∧ u = (uN N 26 0 0, J)) (gB dC dI (mF a cI cL cZ)) (aA (mL a) sz)) (by decide) rfl (Nat.le_of_ble_eq_true rfl) rfl ?_
  intro p e s m below meth c ls hx hb hr hml hts hown hlocks hK hP hD hS hZ hl
  have hP : va_P (dC, dI) vwCl (mW a cI cL cZ N J) s.heap := hP
  have hD : va_D (aA (mL a) s.heap.size) (mW a cI cL cZ N J) := hD
  have hown : s.vm.findClass RX4 = some m.cls := hown
  have hl : lv_has ls 3 [(0, .ref (a 0)), (1, .int (nI (1))), (2, .int (nI (i)))] := hl
  have hi4 : ∀ w ∈ wsX40, w ∈ wsX4_plain := by decide +kernel
  have k29 := hts (.fieldLink RX4 29 "ScoreMachineModel" "plainMemory" "[J") (by decide +kernel)
  have k66 := hts (.fieldLink RX4 66 "ScoreMachineModel" "thrown" "I") (by decide +kernel)
  refine lv_aload_n hx hb dX4_plain_0 rfl (lv_at hl 0 rfl) ?_
  refine lv_iconst (v := nI 0) hx hb dX4_plain_1 (by decide) ?_
  refine mp_26 hx hb hts hi4 hown hK hP hD hS k66 dX4_plain_2 (fun H locs hP hD hS => ?_)
  refine lv_iload_n hx hb dX4_plain_5 rfl (lv_at hl 1 rfl) ?_
  refine n_if_lt (tgt := 34) hx hb (by omega) dX4_plain_6 (by decide) ?_
  refine lv_iload_n hx hb dX4_plain_9 rfl (lv_at hl 1 rfl) ?_
  refine lv_iconst (v := nI 1) hx hb dX4_plain_10 (by decide) ?_
  refine n_icmp_gt (tgt := 34) hx hb (by omega) (by omega) dX4_plain_11 (by decide) (fun c_11 => absurd c_11 (by omega)) (fun c_11 => ?_)
  refine lv_iload_n hx hb dX4_plain_14 rfl (lv_at hl 2 rfl) ?_
  refine n_if_lt (tgt := 34) hx hb (by omega) dX4_plain_15 (by decide) ?_
  refine lv_iload_n hx hb dX4_plain_18 rfl (lv_at hl 2 rfl) ?_
  refine lv_iload_n hx hb dX4_plain_19 rfl (lv_at hl 1 rfl) ?_
  refine n_if_ne (tgt := 28) hx hb (by omega) dX4_plain_20 (by decide) (fun c_20 => ?_) (fun c_20 => absurd c_20 (by omega))
  refine lv_sipush (v := nI 256) hx hb dX4_plain_28 (by decide) ?_
  refine n_icmp_lt (tgt := 41) hx hb (by omega) (by omega) dX4_plain_31 (by decide) (fun c_31 => ?_) (fun c_31 => absurd c_31 (by omega))
  refine lv_iload_n hx hb dX4_plain_41 rfl (lv_at hl 1 rfl) ?_
  refine n_if_ne (tgt := 54) hx hb (by omega) dX4_plain_42 (by decide) (fun c_42 => ?_) (fun c_42 => absurd c_42 (by omega))
  refine lv_aload_n hx hb dX4_plain_54 rfl (lv_at hl 0 rfl) ?_
  refine mg_7 hx hb hts hi4 hown hK hP k29 dX4_plain_55 ?_
  refine lv_iload_n hx hb dX4_plain_58 rfl (lv_at hl 2 rfl) ?_
  refine ml_7 (v := J 7 i) hx hb hK hP (by omega) rfl dX4_plain_59 ?_
  exact g_retl hx hb hr hlocks ((uN N 26 (0) (0)), J) (⟨rfl, rfl⟩) hP hS dX4_plain_60
set_option maxHeartbeats 4000000 in
set_option maxRecDepth 100000 in
theorem tM_pending (l : Launch) (dC : Nat → ClassId) (dI : Nat → Nat → Nat) (a : Nat → Nat) (cI cL cZ : ClassId) (N : Nat → Nat → Nat) (J : Nat → Nat → Int64) (i : Nat) (hi : i < 16) (hcy : N 11 0 < 2147483648) (hw : N 19 i < 2147483648) : MetI l yX4_pending wsX4_pending ({ frames := 0, cells := 0, slots := 0, locals := 0 } : Room) dC dI (gT cI cL cZ) (mF a cI cL cZ) (mL a) (N, J) [.ref (a 0), .int (nI (i))] (fun r u => r = (if N 11 0 < N 19 i then nI (N 20 i) else -1) ∧ u = (uN N 26 0 0, J)) := by
  intro sz
  refine g_entry (bytes := cX4_pending) (maxL := 2) (ret := (some .int)) (Qc := fun sz => va_Qi (fun r u => r = (if N 11 0 < N 19 i then nI (N 20 i) else -1) ∧ u = (uN N 26 0 0, J)) (gB dC dI (mF a cI cL cZ)) (aA (mL a) sz)) (by decide) rfl (Nat.le_of_ble_eq_true rfl) rfl ?_
  intro p e s m below meth c ls hx hb hr hml hts hown hlocks hK hP hD hS hZ hl
  have hP : va_P (dC, dI) vwCl (mW a cI cL cZ N J) s.heap := hP
  have hD : va_D (aA (mL a) s.heap.size) (mW a cI cL cZ N J) := hD
  have hown : s.vm.findClass RX4 = some m.cls := hown
  have hl : lv_has ls 2 [(0, .ref (a 0)), (1, .int (nI (i)))] := hl
  have hi4 : ∀ w ∈ wsX40, w ∈ wsX4_pending := by decide +kernel
  have k41 := hts (.fieldLink RX4 41 "ScoreMachineModel" "writtenOf" "[I") (by decide +kernel)
  have k44 := hts (.fieldLink RX4 44 "ScoreMachineModel" "writerOf" "[I") (by decide +kernel)
  have k66 := hts (.fieldLink RX4 66 "ScoreMachineModel" "thrown" "I") (by decide +kernel)
  have k76 := hts (.fieldLink RX4 76 "ScoreMachineModel" "cycle" "I") (by decide +kernel)
  refine lv_aload_n hx hb dX4_pending_0 rfl (lv_at hl 0 rfl) ?_
  refine lv_iconst (v := nI 0) hx hb dX4_pending_1 (by decide) ?_
  refine mp_26 hx hb hts hi4 hown hK hP hD hS k66 dX4_pending_2 (fun H locs hP hD hS => ?_)
  refine lv_iload_n hx hb dX4_pending_5 rfl (lv_at hl 1 rfl) ?_
  refine n_if_lt (tgt := 37) hx hb (by omega) dX4_pending_6 (by decide) ?_
  refine lv_iload_n hx hb dX4_pending_9 rfl (lv_at hl 1 rfl) ?_
  refine lv_bipush (v := nI 16) hx hb dX4_pending_10 (by decide) ?_
  refine n_icmp_ge (tgt := 37) hx hb (by omega) (by omega) dX4_pending_12 (by decide) (fun c_12 => absurd c_12 (by omega)) (fun c_12 => ?_)
  refine lv_aload_n hx hb dX4_pending_15 rfl (lv_at hl 0 rfl) ?_
  refine mg_19 hx hb hts hi4 hown hK hP k41 dX4_pending_16 ?_
  refine lv_iload_n hx hb dX4_pending_19 rfl (lv_at hl 1 rfl) ?_
  refine ml_19 (v := N 19 i) hx hb hK hP (by omega) rfl dX4_pending_20 ?_
  refine lv_aload_n hx hb dX4_pending_21 rfl (lv_at hl 0 rfl) ?_
  refine mg_11 (v := N 11 0) hx hb hts hi4 hown hK hP k76 rfl dX4_pending_22 ?_
  refine n_icmp_le (tgt := 37) hx hb (by omega) (by omega) dX4_pending_25 (by decide) (fun c_25 => ?_) (fun c_25 => ?_)
  · refine lv_iconst (v := -1) hx hb dX4_pending_37 (by decide) ?_
    exact g_reti hx hb hr hlocks ((uN N 26 (0) (0)), J) (⟨by (repeat' split) <;> first | rfl | (exfalso; omega), rfl⟩) hP hS dX4_pending_38
  · refine lv_aload_n hx hb dX4_pending_28 rfl (lv_at hl 0 rfl) ?_
    refine mg_20 hx hb hts hi4 hown hK hP k44 dX4_pending_29 ?_
    refine lv_iload_n hx hb dX4_pending_32 rfl (lv_at hl 1 rfl) ?_
    refine ml_20 (v := N 20 i) hx hb hK hP (by omega) rfl dX4_pending_33 ?_
    refine lv_goto (tgt := 38) hx hb dX4_pending_34 (by decide) ?_
    exact g_reti hx hb hr hlocks ((uN N 26 (0) (0)), J) (⟨by (repeat' split) <;> first | rfl | (exfalso; omega), rfl⟩) hP hS dX4_pending_38
def mLat (N : Nat → Nat → Nat) (k w : Nat) : Int32 := if 1 < w ∧ N 11 0 < N 25 (6 * ((N 13 0 - 1 - k) % 64) + w) then -1 else nI (N 25 (6 * ((N 13 0 - 1 - k) % 64) + w))
def mUnit (N : Nat → Nat → Nat) (k i w : Nat) : Int32 := if N 24 (3 * k + i) = 0 then -1 else if w < 2 then nI (N 22 (7 * (3 * k + i) + w)) else if N 22 (7 * (3 * k + i) + 4) ≤ N 11 0 then nI 3 else if N 22 (7 * (3 * k + i) + 3) ≤ N 11 0 then nI 2 else nI 1
def mCnt (N : Nat → Nat → Nat) (w : Nat) : Int32 := if w = 0 then nI (N 11 0) else if w = 1 then nI (if N 12 0 = 0 then 0 else 1) else if w = 2 then nI (N 13 0) else if w = 3 then nI (cnN (N 24) 18) else if w = 7 then (if N 11 0 < N 16 0 then -1 else nI (N 8 0)) else if w = 8 then nI (N 13 0) - nI (cnN (N 24) 18) else nI (N 18 (w - 4) + (if mCode N = 0 then 0 else mWt N (w - 4) (N 11 0)))
set_option maxHeartbeats 4000000 in
set_option maxRecDepth 100000 in
theorem tM_latest (l : Launch) (dC : Nat → ClassId) (dI : Nat → Nat → Nat) (a : Nat → Nat) (cI cL cZ : ClassId) (N : Nat → Nat → Nat) (J : Nat → Nat → Int64) (k w : Nat) (hk : k < 64) (hk2 : k < N 13 0) (hw : w < 6) (hcy : N 11 0 < 2147483648) (hm : N 13 0 < 2147483648) (hr2 : N 25 (6 * ((N 13 0 - 1 - k) % 64) + w) < 2147483648) : MetI l yX4_latest wsX4_latest ({ frames := 0, cells := 0, slots := 0, locals := 0 } : Room) dC dI (gT cI cL cZ) (mF a cI cL cZ) (mL a) (N, J) [.ref (a 0), .int (nI (k)), .int (nI (w))] (fun r u => r = mLat N k w ∧ u = (uN N 26 0 0, J)) := by
  intro sz
  refine g_entry (bytes := cX4_latest) (maxL := 4) (ret := (some .int)) (Qc := fun sz => va_Qi (fun r u => r = mLat N k w ∧ u = (uN N 26 0 0, J)) (gB dC dI (mF a cI cL cZ)) (aA (mL a) sz)) (by decide) rfl (Nat.le_of_ble_eq_true rfl) rfl ?_
  intro p e s m below meth c ls hx hb hr hml hts hown hlocks hK hP hD hS hZ hl
  have hP : va_P (dC, dI) vwCl (mW a cI cL cZ N J) s.heap := hP
  have hD : va_D (aA (mL a) s.heap.size) (mW a cI cL cZ N J) := hD
  have hown : s.vm.findClass RX4 = some m.cls := hown
  have hl : lv_has ls 4 [(0, .ref (a 0)), (1, .int (nI (k))), (2, .int (nI (w)))] := hl
  have hi4 : ∀ w ∈ wsX40, w ∈ wsX4_latest := by decide +kernel
  have k60 := hts (.fieldLink RX4 60 "ScoreMachineModel" "rows" "[I") (by decide +kernel)
  have k66 := hts (.fieldLink RX4 66 "ScoreMachineModel" "thrown" "I") (by decide +kernel)
  have k76 := hts (.fieldLink RX4 76 "ScoreMachineModel" "cycle" "I") (by decide +kernel)
  have k83 := hts (.fieldLink RX4 83 "ScoreMachineModel" "many" "I") (by decide +kernel)
  refine lv_aload_n hx hb dX4_latest_0 rfl (lv_at hl 0 rfl) ?_
  refine lv_iconst (v := nI 0) hx hb dX4_latest_1 (by decide) ?_
  refine mp_26 hx hb hts hi4 hown hK hP hD hS k66 dX4_latest_2 (fun H locs hP hD hS => ?_)
  refine lv_iload_n hx hb dX4_latest_5 rfl (lv_at hl 1 rfl) ?_
  refine n_if_lt (tgt := 32) hx hb (by omega) dX4_latest_6 (by decide) ?_
  refine lv_iload_n hx hb dX4_latest_9 rfl (lv_at hl 1 rfl) ?_
  refine lv_bipush (v := nI 64) hx hb dX4_latest_10 (by decide) ?_
  refine n_icmp_ge (tgt := 32) hx hb (by omega) (by omega) dX4_latest_12 (by decide) (fun c_12 => absurd c_12 (by omega)) (fun c_12 => ?_)
  refine lv_iload_n hx hb dX4_latest_15 rfl (lv_at hl 1 rfl) ?_
  refine lv_aload_n hx hb dX4_latest_16 rfl (lv_at hl 0 rfl) ?_
  refine mg_13 (v := N 13 0) hx hb hts hi4 hown hK hP k83 rfl dX4_latest_17 ?_
  refine n_icmp_ge (tgt := 32) hx hb (by omega) (by omega) dX4_latest_20 (by decide) (fun c_20 => absurd c_20 (by omega)) (fun c_20 => ?_)
  refine lv_iload_n hx hb dX4_latest_23 rfl (lv_at hl 2 rfl) ?_
  refine n_if_lt (tgt := 32) hx hb (by omega) dX4_latest_24 (by decide) ?_
  refine lv_iload_n hx hb dX4_latest_27 rfl (lv_at hl 2 rfl) ?_
  refine lv_iconst (v := nI 5) hx hb dX4_latest_28 (by decide) ?_
  refine n_icmp_le (tgt := 34) hx hb (by omega) (by omega) dX4_latest_29 (by decide) (fun c_29 => ?_) (fun c_29 => absurd c_29 (by omega))
  refine lv_aload_n hx hb dX4_latest_34 rfl (lv_at hl 0 rfl) ?_
  refine mg_25 hx hb hts hi4 hown hK hP k60 dX4_latest_35 ?_
  refine lv_bipush (v := nI 6) hx hb dX4_latest_38 (by decide) ?_
  refine lv_aload_n hx hb dX4_latest_40 rfl (lv_at hl 0 rfl) ?_
  refine mg_13 (v := N 13 0) hx hb hts hi4 hown hK hP k83 rfl dX4_latest_41 ?_
  refine lv_iconst (v := nI 1) hx hb dX4_latest_44 (by decide) ?_
  refine n_sub hx hb (by omega) dX4_latest_45 ?_
  refine lv_iload_n hx hb dX4_latest_46 rfl (lv_at hl 1 rfl) ?_
  refine n_sub hx hb (by omega) dX4_latest_47 ?_
  refine lv_bipush (v := nI 64) hx hb dX4_latest_48 (by decide) ?_
  refine n_rem hx hb (by omega) (by decide) (by decide) dX4_latest_50 ?_
  refine n_mul hx hb dX4_latest_51 ?_
  refine lv_iload_n hx hb dX4_latest_52 rfl (lv_at hl 2 rfl) ?_
  refine n_add hx hb dX4_latest_53 ?_
  refine ml_25 (v := N 25 ((6 * ((((N 13 0) - 1) - k) % 64)) + w)) hx hb hK hP (by omega) rfl dX4_latest_54 ?_
  refine lv_istore_n (lv' := [(3, .int (nI (N 25 ((6 * ((((N 13 0) - 1) - k) % 64)) + w)))), (0, .ref (a 0)), (1, .int (nI (k))), (2, .int (nI (w)))]) hx hb dX4_latest_55 rfl hl (by decide) rfl (fun ls hl => ?_)
  refine lv_iload_n hx hb dX4_latest_56 rfl (lv_at hl 3 rfl) ?_
  refine lv_iconst (v := nI 1) hx hb dX4_latest_57 (by decide) ?_
  refine n_icmp_le (tgt := 73) hx hb (by omega) (by omega) dX4_latest_58 (by decide) (fun c_58 => ?_) (fun c_58 => ?_)
  · refine lv_iload_n hx hb dX4_latest_73 rfl (lv_at hl 0 rfl) ?_
    exact g_reti hx hb hr hlocks ((uN N 26 (0) (0)), J) (⟨by unfold mLat; (repeat' split) <;> first | rfl | (exfalso; omega), rfl⟩) hP hS dX4_latest_74
  · refine lv_iload_n hx hb dX4_latest_61 rfl (lv_at hl 0 rfl) ?_
    refine lv_aload_n hx hb dX4_latest_62 rfl (lv_at hl 1 rfl) ?_
    refine mg_11 (v := N 11 0) hx hb hts hi4 hown hK hP k76 rfl dX4_latest_63 ?_
    refine n_icmp_le (tgt := 73) hx hb (by omega) (by omega) dX4_latest_66 (by decide) (fun c_66 => ?_) (fun c_66 => ?_)
    · refine lv_iload_n hx hb dX4_latest_73 rfl (lv_at hl 0 rfl) ?_
      exact g_reti hx hb hr hlocks ((uN N 26 (0) (0)), J) (⟨by unfold mLat; (repeat' split) <;> first | rfl | (exfalso; omega), rfl⟩) hP hS dX4_latest_74
    · refine lv_iconst (v := -1) hx hb dX4_latest_69 (by decide) ?_
      refine lv_goto (tgt := 74) hx hb dX4_latest_70 (by decide) ?_
      exact g_reti hx hb hr hlocks ((uN N 26 (0) (0)), J) (⟨by unfold mLat; (repeat' split) <;> first | rfl | (exfalso; omega), rfl⟩) hP hS dX4_latest_74
set_option maxHeartbeats 4000000 in
set_option maxRecDepth 100000 in
theorem tM_unit (l : Launch) (dC : Nat → ClassId) (dI : Nat → Nat → Nat) (a : Nat → Nat) (cI cL cZ : ClassId) (N : Nat → Nat → Nat) (J : Nat → Nat → Int64) (k i w : Nat) (hk : k < 6) (hi : i < N 1 k) (hu : N 1 k ≤ 3) (hw : w ≤ 2) (hcy : N 11 0 < 2147483648) (hz : N 24 (3 * k + i) < 2) (h4 : N 24 (3 * k + i) ≠ 0 → N 22 (7 * (3 * k + i) + 4) < 2147483648) (h3 : N 24 (3 * k + i) ≠ 0 → N 22 (7 * (3 * k + i) + 3) < 2147483648) : MetI l yX4_unit wsX4_unit ({ frames := 0, cells := 0, slots := 0, locals := 0 } : Room) dC dI (gT cI cL cZ) (mF a cI cL cZ) (mL a) (N, J) [.ref (a 0), .int (nI (k)), .int (nI (i)), .int (nI (w))] (fun r u => r = mUnit N k i w ∧ u = (uN N 26 0 0, J)) := by
  intro sz
  refine g_entry (bytes := cX4_unit) (maxL := 5) (ret := (some .int)) (Qc := fun sz => va_Qi (fun r u => r = mUnit N k i w ∧ u = (uN N 26 0 0, J)) (gB dC dI (mF a cI cL cZ)) (aA (mL a) sz)) (by decide) rfl (Nat.le_of_ble_eq_true rfl) rfl ?_
  intro p e s m below meth c ls hx hb hr hml hts hown hlocks hK hP hD hS hZ hl
  have hP : va_P (dC, dI) vwCl (mW a cI cL cZ N J) s.heap := hP
  have hD : va_D (aA (mL a) s.heap.size) (mW a cI cL cZ N J) := hD
  have hown : s.vm.findClass RX4 = some m.cls := hown
  have hl : lv_has ls 5 [(0, .ref (a 0)), (1, .int (nI (k))), (2, .int (nI (i))), (3, .int (nI (w)))] := hl
  have hi4 : ∀ w ∈ wsX40, w ∈ wsX4_unit := by decide +kernel
  have k13 := hts (.fieldLink RX4 13 "ScoreMachineModel" "units" "[I") (by decide +kernel)
  have k50 := hts (.fieldLink RX4 50 "ScoreMachineModel" "unitRow" "[I") (by decide +kernel)
  have k56 := hts (.fieldLink RX4 56 "ScoreMachineModel" "unitOpen" "[Z") (by decide +kernel)
  have k66 := hts (.fieldLink RX4 66 "ScoreMachineModel" "thrown" "I") (by decide +kernel)
  have k76 := hts (.fieldLink RX4 76 "ScoreMachineModel" "cycle" "I") (by decide +kernel)
  refine lv_aload_n hx hb dX4_unit_0 rfl (lv_at hl 0 rfl) ?_
  refine lv_iconst (v := nI 0) hx hb dX4_unit_1 (by decide) ?_
  refine mp_26 hx hb hts hi4 hown hK hP hD hS k66 dX4_unit_2 (fun H locs hP hD hS => ?_)
  refine lv_iload_n hx hb dX4_unit_5 rfl (lv_at hl 1 rfl) ?_
  refine n_if_lt (tgt := 38) hx hb (by omega) dX4_unit_6 (by decide) ?_
  refine lv_iload_n hx hb dX4_unit_9 rfl (lv_at hl 1 rfl) ?_
  refine lv_bipush (v := nI 6) hx hb dX4_unit_10 (by decide) ?_
  refine n_icmp_ge (tgt := 38) hx hb (by omega) (by omega) dX4_unit_12 (by decide) (fun c_12 => absurd c_12 (by omega)) (fun c_12 => ?_)
  refine lv_iload_n hx hb dX4_unit_15 rfl (lv_at hl 2 rfl) ?_
  refine n_if_lt (tgt := 38) hx hb (by omega) dX4_unit_16 (by decide) ?_
  refine lv_iload_n hx hb dX4_unit_19 rfl (lv_at hl 2 rfl) ?_
  refine lv_aload_n hx hb dX4_unit_20 rfl (lv_at hl 0 rfl) ?_
  refine mg_1 hx hb hts hi4 hown hK hP k13 dX4_unit_21 ?_
  refine lv_iload_n hx hb dX4_unit_24 rfl (lv_at hl 1 rfl) ?_
  refine ml_1 (v := N 1 k) hx hb hK hP (by omega) rfl dX4_unit_25 ?_
  refine n_icmp_ge (tgt := 38) hx hb (by omega) (by omega) dX4_unit_26 (by decide) (fun c_26 => absurd c_26 (by omega)) (fun c_26 => ?_)
  refine lv_iload_n hx hb dX4_unit_29 rfl (lv_at hl 3 rfl) ?_
  refine n_if_lt (tgt := 38) hx hb (by omega) dX4_unit_30 (by decide) ?_
  refine lv_iload_n hx hb dX4_unit_33 rfl (lv_at hl 3 rfl) ?_
  refine lv_iconst (v := nI 2) hx hb dX4_unit_34 (by decide) ?_
  refine n_icmp_le (tgt := 40) hx hb (by omega) (by omega) dX4_unit_35 (by decide) (fun c_35 => ?_) (fun c_35 => absurd c_35 (by omega))
  refine lv_iconst (v := nI 3) hx hb dX4_unit_40 (by decide) ?_
  refine lv_iload_n hx hb dX4_unit_41 rfl (lv_at hl 1 rfl) ?_
  refine n_mul hx hb dX4_unit_42 ?_
  refine lv_iload_n hx hb dX4_unit_43 rfl (lv_at hl 2 rfl) ?_
  refine n_add hx hb dX4_unit_44 ?_
  refine lv_istore (lv' := [(4, .int (nI ((3 * k) + i))), (0, .ref (a 0)), (1, .int (nI (k))), (2, .int (nI (i))), (3, .int (nI (w)))]) hx hb dX4_unit_45 hl (by decide) rfl (fun ls hl => ?_)
  refine lv_aload_n hx hb dX4_unit_47 rfl (lv_at hl 1 rfl) ?_
  refine mg_24 hx hb hts hi4 hown hK hP k56 dX4_unit_48 ?_
  refine lv_iload hx hb dX4_unit_51 (lv_at hl 0 rfl) ?_
  refine ml_24 (v := N 24 ((3 * k) + i)) hx hb hK hP (by omega) rfl dX4_unit_53 ?_
  refine n_if_ne (tgt := 59) hx hb (by omega) dX4_unit_54 (by decide) (fun c_54 => ?_) (fun c_54 => ?_)
  · refine lv_iload_n hx hb dX4_unit_59 rfl (lv_at hl 4 rfl) ?_
    refine lv_iconst (v := nI 2) hx hb dX4_unit_60 (by decide) ?_
    refine n_icmp_ge (tgt := 77) hx hb (by omega) (by omega) dX4_unit_61 (by decide) (fun c_61 => ?_) (fun c_61 => ?_)
    · refine lv_aload_n hx hb dX4_unit_77 rfl (lv_at hl 1 rfl) ?_
      refine mg_22 hx hb hts hi4 hown hK hP k50 dX4_unit_78 ?_
      refine lv_bipush (v := nI 7) hx hb dX4_unit_81 (by decide) ?_
      refine lv_iload hx hb dX4_unit_83 (lv_at hl 0 rfl) ?_
      refine n_mul hx hb dX4_unit_85 ?_
      refine lv_iconst (v := nI 4) hx hb dX4_unit_86 (by decide) ?_
      refine n_add hx hb dX4_unit_87 ?_
      refine ml_22 (v := N 22 ((7 * ((3 * k) + i)) + 4)) hx hb hK hP (by omega) rfl dX4_unit_88 ?_
      refine lv_aload_n hx hb dX4_unit_89 rfl (lv_at hl 1 rfl) ?_
      refine mg_11 (v := N 11 0) hx hb hts hi4 hown hK hP k76 rfl dX4_unit_90 ?_
      refine n_icmp_gt (tgt := 100) hx hb (by omega) (by omega) dX4_unit_93 (by decide) (fun c_93 => ?_) (fun c_93 => ?_)
      · refine lv_aload_n hx hb dX4_unit_100 rfl (lv_at hl 1 rfl) ?_
        refine mg_22 hx hb hts hi4 hown hK hP k50 dX4_unit_101 ?_
        refine lv_bipush (v := nI 7) hx hb dX4_unit_104 (by decide) ?_
        refine lv_iload hx hb dX4_unit_106 (lv_at hl 0 rfl) ?_
        refine n_mul hx hb dX4_unit_108 ?_
        refine lv_iconst (v := nI 3) hx hb dX4_unit_109 (by decide) ?_
        refine n_add hx hb dX4_unit_110 ?_
        refine ml_22 (v := N 22 ((7 * ((3 * k) + i)) + 3)) hx hb hK hP (by omega) rfl dX4_unit_111 ?_
        refine lv_aload_n hx hb dX4_unit_112 rfl (lv_at hl 1 rfl) ?_
        refine mg_11 (v := N 11 0) hx hb hts hi4 hown hK hP k76 rfl dX4_unit_113 ?_
        refine n_icmp_gt (tgt := 123) hx hb (by omega) (by omega) dX4_unit_116 (by decide) (fun c_116 => ?_) (fun c_116 => ?_)
        · refine lv_iconst (v := nI 1) hx hb dX4_unit_123 (by decide) ?_
          exact g_reti hx hb hr hlocks ((uN N 26 (0) (0)), J) (⟨by unfold mUnit; (repeat' split) <;> first | rfl | (exfalso; omega), rfl⟩) hP hS dX4_unit_124
        · refine lv_iconst (v := nI 2) hx hb dX4_unit_119 (by decide) ?_
          refine lv_goto (tgt := 124) hx hb dX4_unit_120 (by decide) ?_
          exact g_reti hx hb hr hlocks ((uN N 26 (0) (0)), J) (⟨by unfold mUnit; (repeat' split) <;> first | rfl | (exfalso; omega), rfl⟩) hP hS dX4_unit_124
      · refine lv_iconst (v := nI 3) hx hb dX4_unit_96 (by decide) ?_
        refine lv_goto (tgt := 124) hx hb dX4_unit_97 (by decide) ?_
        exact g_reti hx hb hr hlocks ((uN N 26 (0) (0)), J) (⟨by unfold mUnit; (repeat' split) <;> first | rfl | (exfalso; omega), rfl⟩) hP hS dX4_unit_124
    · refine lv_aload_n hx hb dX4_unit_64 rfl (lv_at hl 1 rfl) ?_
      refine mg_22 hx hb hts hi4 hown hK hP k50 dX4_unit_65 ?_
      refine lv_bipush (v := nI 7) hx hb dX4_unit_68 (by decide) ?_
      refine lv_iload hx hb dX4_unit_70 (lv_at hl 0 rfl) ?_
      refine n_mul hx hb dX4_unit_72 ?_
      refine lv_iload_n hx hb dX4_unit_73 rfl (lv_at hl 4 rfl) ?_
      refine n_add hx hb dX4_unit_74 ?_
      refine ml_22 (v := N 22 ((7 * ((3 * k) + i)) + w)) hx hb hK hP (by omega) rfl dX4_unit_75 ?_
      exact g_reti hx hb hr hlocks ((uN N 26 (0) (0)), J) (⟨by unfold mUnit; (repeat' split) <;> first | rfl | (exfalso; omega), rfl⟩) hP hS dX4_unit_76
  · refine lv_iconst (v := -1) hx hb dX4_unit_57 (by decide) ?_
    exact g_reti hx hb hr hlocks ((uN N 26 (0) (0)), J) (⟨by unfold mUnit; (repeat' split) <;> first | rfl | (exfalso; omega), rfl⟩) hP hS dX4_unit_58
set_option maxHeartbeats 4000000 in
set_option maxRecDepth 100000 in
theorem tM_unit_bad1 (l : Launch) (dC : Nat → ClassId) (dI : Nat → Nat → Nat) (a : Nat → Nat) (cI cL cZ : ClassId) (N : Nat → Nat → Nat) (J : Nat → Nat → Int64) (v1 v2 v3 : Int32) (hb0 : ¬ (0 ≤ v1.toInt ∧ v1.toInt < 6)) : MetI l yX4_unit wsX4_unit ({ frames := 0, cells := 0, slots := 0, locals := 0 } : Room) dC dI (gT cI cL cZ) (mF a cI cL cZ) (mL a) (N, J) [.ref (a 0), .int (v1), .int (v2), .int (v3)] (fun r u => r = -1 ∧ u = (uN N 26 0 0, J)) := by
  intro sz
  refine g_entry (bytes := cX4_unit) (maxL := 5) (ret := (some .int)) (Qc := fun sz => va_Qi (fun r u => r = -1 ∧ u = (uN N 26 0 0, J)) (gB dC dI (mF a cI cL cZ)) (aA (mL a) sz)) (by decide) rfl (Nat.le_of_ble_eq_true rfl) rfl ?_
  intro p e s m below meth c ls hx hb hr hml hts hown hlocks hK hP hD hS hZ hl
  have hP : va_P (dC, dI) vwCl (mW a cI cL cZ N J) s.heap := hP
  have hD : va_D (aA (mL a) s.heap.size) (mW a cI cL cZ N J) := hD
  have hown : s.vm.findClass RX4 = some m.cls := hown
  have hl : lv_has ls 5 [(0, .ref (a 0)), (1, .int (v1)), (2, .int (v2)), (3, .int (v3))] := hl
  have hi4 : ∀ w ∈ wsX40, w ∈ wsX4_unit := by decide +kernel
  have k66 := hts (.fieldLink RX4 66 "ScoreMachineModel" "thrown" "I") (by decide +kernel)
  refine lv_aload_n hx hb dX4_unit_0 rfl (lv_at hl 0 rfl) ?_
  refine lv_iconst (v := nI 0) hx hb dX4_unit_1 (by decide) ?_
  refine mp_26 hx hb hts hi4 hown hK hP hD hS k66 dX4_unit_2 (fun H locs hP hD hS => ?_)
  refine lv_iload_n hx hb dX4_unit_5 rfl (lv_at hl 1 rfl) ?_
  refine lv_if_lt (tgt := 38) hx hb dX4_unit_6 (by decide) (fun c_6 => ?_) (fun c_6 => ?_)
  · refine lv_iconst (v := -1) hx hb dX4_unit_38 (by decide) ?_
    exact g_reti hx hb hr hlocks ((uN N 26 (0) (0)), J) (⟨rfl, rfl⟩) hP hS dX4_unit_39
  · refine lv_iload_n hx hb dX4_unit_9 rfl (lv_at hl 1 rfl) ?_
    refine lv_bipush (v := nI 6) hx hb dX4_unit_10 (by decide) ?_
    refine lv_icmp_ge (tgt := 38) hx hb dX4_unit_12 (by decide) (fun c_12 => ?_) (fun c_12 => absurd c_12 (by simp (disch := first | decide | assumption) only [i_lt0, i_ge0, i_ltc, i_lec, i_cle, i_clt, i_eqc, i_eq0, Int32.not_lt, Int32.not_le] at *; omega))
    refine lv_iconst (v := -1) hx hb dX4_unit_38 (by decide) ?_
    exact g_reti hx hb hr hlocks ((uN N 26 (0) (0)), J) (⟨rfl, rfl⟩) hP hS dX4_unit_39
set_option maxHeartbeats 4000000 in
set_option maxRecDepth 100000 in
theorem tM_unit_bad2 (l : Launch) (dC : Nat → ClassId) (dI : Nat → Nat → Nat) (a : Nat → Nat) (cI cL cZ : ClassId) (N : Nat → Nat → Nat) (J : Nat → Nat → Int64) (k : Nat) (v2 v3 : Int32) (hk : k < 6) (hu : N 1 k ≤ 3) (hb0 : ¬ ((0 ≤ v2.toInt ∧ v2.toInt < N 1 k) ∧ 0 ≤ v3.toInt ∧ v3.toInt < 3)) : MetI l yX4_unit wsX4_unit ({ frames := 0, cells := 0, slots := 0, locals := 0 } : Room) dC dI (gT cI cL cZ) (mF a cI cL cZ) (mL a) (N, J) [.ref (a 0), .int (nI (k)), .int (v2), .int (v3)] (fun r u => r = -1 ∧ u = (uN N 26 0 0, J)) := by
  intro sz
  refine g_entry (bytes := cX4_unit) (maxL := 5) (ret := (some .int)) (Qc := fun sz => va_Qi (fun r u => r = -1 ∧ u = (uN N 26 0 0, J)) (gB dC dI (mF a cI cL cZ)) (aA (mL a) sz)) (by decide) rfl (Nat.le_of_ble_eq_true rfl) rfl ?_
  intro p e s m below meth c ls hx hb hr hml hts hown hlocks hK hP hD hS hZ hl
  have hP : va_P (dC, dI) vwCl (mW a cI cL cZ N J) s.heap := hP
  have hD : va_D (aA (mL a) s.heap.size) (mW a cI cL cZ N J) := hD
  have hown : s.vm.findClass RX4 = some m.cls := hown
  have hl : lv_has ls 5 [(0, .ref (a 0)), (1, .int (nI (k))), (2, .int (v2)), (3, .int (v3))] := hl
  have hi4 : ∀ w ∈ wsX40, w ∈ wsX4_unit := by decide +kernel
  have k13 := hts (.fieldLink RX4 13 "ScoreMachineModel" "units" "[I") (by decide +kernel)
  have k66 := hts (.fieldLink RX4 66 "ScoreMachineModel" "thrown" "I") (by decide +kernel)
  refine lv_aload_n hx hb dX4_unit_0 rfl (lv_at hl 0 rfl) ?_
  refine lv_iconst (v := nI 0) hx hb dX4_unit_1 (by decide) ?_
  refine mp_26 hx hb hts hi4 hown hK hP hD hS k66 dX4_unit_2 (fun H locs hP hD hS => ?_)
  refine lv_iload_n hx hb dX4_unit_5 rfl (lv_at hl 1 rfl) ?_
  refine n_if_lt (tgt := 38) hx hb (by omega) dX4_unit_6 (by decide) ?_
  refine lv_iload_n hx hb dX4_unit_9 rfl (lv_at hl 1 rfl) ?_
  refine lv_bipush (v := nI 6) hx hb dX4_unit_10 (by decide) ?_
  refine n_icmp_ge (tgt := 38) hx hb (by omega) (by omega) dX4_unit_12 (by decide) (fun c_12 => absurd c_12 (by omega)) (fun c_12 => ?_)
  refine lv_iload_n hx hb dX4_unit_15 rfl (lv_at hl 2 rfl) ?_
  refine lv_if_lt (tgt := 38) hx hb dX4_unit_16 (by decide) (fun c_16 => ?_) (fun c_16 => ?_)
  · refine lv_iconst (v := -1) hx hb dX4_unit_38 (by decide) ?_
    exact g_reti hx hb hr hlocks ((uN N 26 (0) (0)), J) (⟨rfl, rfl⟩) hP hS dX4_unit_39
  · refine lv_iload_n hx hb dX4_unit_19 rfl (lv_at hl 2 rfl) ?_
    refine lv_aload_n hx hb dX4_unit_20 rfl (lv_at hl 0 rfl) ?_
    refine mg_1 hx hb hts hi4 hown hK hP k13 dX4_unit_21 ?_
    refine lv_iload_n hx hb dX4_unit_24 rfl (lv_at hl 1 rfl) ?_
    refine ml_1 (v := N 1 k) hx hb hK hP (by omega) rfl dX4_unit_25 ?_
    refine lv_icmp_ge (tgt := 38) hx hb dX4_unit_26 (by decide) (fun c_26 => ?_) (fun c_26 => ?_)
    · refine lv_iconst (v := -1) hx hb dX4_unit_38 (by decide) ?_
      exact g_reti hx hb hr hlocks ((uN N 26 (0) (0)), J) (⟨rfl, rfl⟩) hP hS dX4_unit_39
    · refine lv_iload_n hx hb dX4_unit_29 rfl (lv_at hl 3 rfl) ?_
      refine lv_if_lt (tgt := 38) hx hb dX4_unit_30 (by decide) (fun c_30 => ?_) (fun c_30 => ?_)
      · refine lv_iconst (v := -1) hx hb dX4_unit_38 (by decide) ?_
        exact g_reti hx hb hr hlocks ((uN N 26 (0) (0)), J) (⟨rfl, rfl⟩) hP hS dX4_unit_39
      · refine lv_iload_n hx hb dX4_unit_33 rfl (lv_at hl 3 rfl) ?_
        refine lv_iconst (v := nI 2) hx hb dX4_unit_34 (by decide) ?_
        refine lv_icmp_le (tgt := 40) hx hb dX4_unit_35 (by decide) (fun c_35 => absurd c_35 (by simp (disch := omega) only [i_lt0, i_ge0, i_ltc, i_lec, i_cle, i_clt, Int32.not_lt, Int32.not_le] at *; omega)) (fun c_35 => ?_)
        refine lv_iconst (v := -1) hx hb dX4_unit_38 (by decide) ?_
        exact g_reti hx hb hr hlocks ((uN N 26 (0) (0)), J) (⟨rfl, rfl⟩) hP hS dX4_unit_39
set_option maxHeartbeats 4000000 in
set_option maxRecDepth 100000 in
theorem tM_count (l : Launch) (dC : Nat → ClassId) (dI : Nat → Nat → Nat) (a : Nat → Nat) (cI cL cZ : ClassId) (N : Nat → Nat → Nat) (J : Nat → Nat → Int64) (w : Nat) (hG : mG N) (hw : w < 9) (ho : N 12 0 < 2) (hcy : N 11 0 < 1073741824) (hz : ∀ k, k < 18 → N 24 k < 2) : MetI l yX4_count wsX4_count ({ frames := 3, cells := 0, slots := 0, locals := 68 } : Room) dC dI (gT cI cL cZ) (mF a cI cL cZ) (mL a) (N, J) [.ref (a 0), .int (nI (w))] (fun r u => r = mCnt N w ∧ u = (uN N 26 0 0, J)) := by
  intro sz
  refine g_entry (bytes := cX4_count) (maxL := 2) (ret := (some .int)) (Qc := fun sz => va_Qi (fun r u => r = mCnt N w ∧ u = (uN N 26 0 0, J)) (gB dC dI (mF a cI cL cZ)) (aA (mL a) sz)) (by decide) rfl (Nat.le_of_ble_eq_true rfl) rfl ?_
  intro p e s m below meth c ls hx hb hr hml hts hown hlocks hK hP hD hS hZ hl
  have hP : va_P (dC, dI) vwCl (mW a cI cL cZ N J) s.heap := hP
  have hD : va_D (aA (mL a) s.heap.size) (mW a cI cL cZ N J) := hD
  have hown : s.vm.findClass RX4 = some m.cls := hown
  have hl : lv_has ls 2 [(0, .ref (a 0)), (1, .int (nI (w)))] := hl
  have hi4 : ∀ w ∈ wsX40, w ∈ wsX4_count := by decide +kernel
  have k38 := hts (.fieldLink RX4 38 "ScoreMachineModel" "stalls" "[I") (by decide +kernel)
  have k66 := hts (.fieldLink RX4 66 "ScoreMachineModel" "thrown" "I") (by decide +kernel)
  have k76 := hts (.fieldLink RX4 76 "ScoreMachineModel" "cycle" "I") (by decide +kernel)
  have k79 := hts (.fieldLink RX4 79 "ScoreMachineModel" "over" "Z") (by decide +kernel)
  have k83 := hts (.fieldLink RX4 83 "ScoreMachineModel" "many" "I") (by decide +kernel)
  have k86 := hts (.fieldLink RX4 86 "ScoreMachineModel" "place" "I") (by decide +kernel)
  have k95 := hts (.fieldLink RX4 95 "ScoreMachineModel" "branchWritten" "I") (by decide +kernel)
  obtain ⟨⟨hpl, hpr⟩, hun, hla, hwd, hsc, hrg, huw⟩ := id hG
  have hp0 := hpr (N 8 0) hpl
  have hcd : mCode N ≤ 18 := hp0.1
  have hkd := kdN_lt (mCode N)
  refine lv_aload_n hx hb dX4_count_0 rfl (lv_at hl 0 rfl) ?_
  refine lv_iconst (v := nI 0) hx hb dX4_count_1 (by decide) ?_
  refine mp_26 hx hb hts hi4 hown hK hP hD hS k66 dX4_count_2 (fun H locs hP hD hS => ?_)
  refine lv_iload_n hx hb dX4_count_5 rfl (lv_at hl 1 rfl) ?_
  rcases (by omega : w = 0 ∨ w = 1 ∨ w = 2 ∨ w = 3 ∨ w = 4 ∨ w = 5 ∨ w = 6 ∨ w = 7 ∨ w = 8) with h9 | h9 | h9 | h9 | h9 | h9 | h9 | h9 | h9
  · refine n_w (b := 0) (h9) ?_
    refine lv_tableIn (off := 50) (tgt := 56) hx hb dX4_count_6 (by decide) (by decide) (by decide) (by decide) ?_
    refine lv_aload_n hx hb dX4_count_56 rfl (lv_at hl 0 rfl) ?_
    refine mg_11 (v := N 11 0) hx hb hts hi4 hown hK hP k76 rfl dX4_count_57 ?_
    exact g_reti hx hb hr hlocks ((uN N 26 (0) (0)), J) (⟨by subst h9; rfl, rfl⟩) hP hS dX4_count_60
  · refine n_w (b := 1) (h9) ?_
    refine lv_tableIn (off := 55) (tgt := 61) hx hb dX4_count_6 (by decide) (by decide) (by decide) (by decide) ?_
    refine lv_aload_n hx hb dX4_count_61 rfl (lv_at hl 0 rfl) ?_
    refine mg_12 (v := N 12 0) hx hb hts hi4 hown hK hP k79 rfl dX4_count_62 ?_
    refine n_if_eq (tgt := 72) hx hb (by omega) dX4_count_65 (by decide) (fun c_65 => ?_) (fun c_65 => ?_)
    · refine lv_iconst (v := nI 0) hx hb dX4_count_72 (by decide) ?_
      exact g_reti hx hb hr hlocks ((uN N 26 (0) (0)), J) (⟨by subst h9; show _ = nI (if N 12 0 = 0 then 0 else 1); split <;> first | rfl | (exfalso; omega), rfl⟩) hP hS dX4_count_73
    · refine lv_iconst (v := nI 1) hx hb dX4_count_68 (by decide) ?_
      refine lv_goto (tgt := 73) hx hb dX4_count_69 (by decide) ?_
      exact g_reti hx hb hr hlocks ((uN N 26 (0) (0)), J) (⟨by subst h9; show _ = nI (if N 12 0 = 0 then 0 else 1); split <;> first | rfl | (exfalso; omega), rfl⟩) hP hS dX4_count_73
  · refine n_w (b := 2) (h9) ?_
    refine lv_tableIn (off := 68) (tgt := 74) hx hb dX4_count_6 (by decide) (by decide) (by decide) (by decide) ?_
    refine lv_aload_n hx hb dX4_count_74 rfl (lv_at hl 0 rfl) ?_
    refine mg_13 (v := N 13 0) hx hb hts hi4 hown hK hP k83 rfl dX4_count_75 ?_
    exact g_reti hx hb hr hlocks ((uN N 26 (0) (0)), J) (⟨by subst h9; rfl, rfl⟩) hP hS dX4_count_78
  · refine n_w (b := 3) (h9) ?_
    refine lv_tableIn (off := 73) (tgt := 79) hx hb dX4_count_6 (by decide) (by decide) (by decide) (by decide) ?_
    refine lv_aload_n hx hb dX4_count_79 rfl (lv_at hl 0 rfl) ?_
    refine g_calli (u := ((uN N 26 (0) (0)), J)) (g_runV (As := []) (rest := []) ⟨hx, hb, hml, hown, hts⟩ (tM_open l dC dI a cI cL cZ (uN N 26 (0) (0)) J hz H.size) (cwV 0 hts gX4_count_X4_open rfl rfl rfl (by decide +kernel) ⟨Nat.le_of_ble_eq_true rfl, Nat.le_of_ble_eq_true rfl⟩) (va_recv hK hP (ci := 4) (q0 := 0) rfl rfl) hK hP hD hS hZ rfl hl.1 rfl (Nat.le_of_ble_eq_true rfl) dX4_count_80) (mW_L a cI cL cZ) hD hS (fun r_80 u H locs hw hP hD hS => ?_)
    obtain ⟨hr9, hu9⟩ := hw
    have hr9 : r_80 = nI (cnN (N 24) 18) := hr9
    subst hr9
    subst hu9
    have hP : va_P (dC, dI) vwCl (mW a cI cL cZ (uN N 26 (0) (0)) J) H := hP
    have hD : va_D (aA (mL a) s.heap.size) (mW a cI cL cZ (uN N 26 (0) (0)) J) := hD
    exact g_reti hx hb hr hlocks ((uN N 26 (0) (0)), J) (⟨by subst h9; rfl, rfl⟩) hP hS dX4_count_83
  · refine n_w (b := 4) (h9) ?_
    refine lv_tableIn (off := 78) (tgt := 84) hx hb dX4_count_6 (by decide) (by decide) (by decide) (by decide) ?_
    refine lv_aload_n hx hb dX4_count_84 rfl (lv_at hl 0 rfl) ?_
    refine mg_18 hx hb hts hi4 hown hK hP k38 dX4_count_85 ?_
    refine lv_iload_n hx hb dX4_count_88 rfl (lv_at hl 1 rfl) ?_
    refine lv_iconst (v := nI 4) hx hb dX4_count_89 (by decide) ?_
    refine n_sub hx hb (by omega) dX4_count_90 ?_
    refine ml_18 (v := N 18 (w - 4)) hx hb hK hP (by omega) rfl dX4_count_91 ?_
    refine lv_aload_n hx hb dX4_count_92 rfl (lv_at hl 0 rfl) ?_
    refine g_calli (u := ((uN N 26 (0) (0)), J)) (g_runV (As := []) (rest := [.int (nI (N 18 (w - 4)))]) ⟨hx, hb, hml, hown, hts⟩ (tM_code l dC dI a cI cL cZ (uN N 26 (0) (0)) J hG.1 H.size) (cwV 0 hts gX4_count_X4_code rfl rfl rfl (by decide +kernel) ⟨Nat.le_of_ble_eq_true rfl, Nat.le_of_ble_eq_true rfl⟩) (va_recv hK hP (ci := 4) (q0 := 0) rfl rfl) hK hP hD hS hZ rfl hl.1 rfl (Nat.le_of_ble_eq_true rfl) dX4_count_93) (mW_L a cI cL cZ) hD hS (fun r_93 u H locs hw hP hD hS => ?_)
    obtain ⟨hr9, hu9⟩ := hw
    have hr9 : r_93 = nI (mCode N) := hr9
    subst hr9
    subst hu9
    have hP : va_P (dC, dI) vwCl (mW a cI cL cZ (uN N 26 (0) (0)) J) H := hP
    have hD : va_D (aA (mL a) s.heap.size) (mW a cI cL cZ (uN N 26 (0) (0)) J) := hD
    refine n_if_ne (tgt := 103) hx hb (by omega) dX4_count_96 (by decide) (fun c_96 => ?_) (fun c_96 => ?_)
    · refine lv_aload_n hx hb dX4_count_103 rfl (lv_at hl 0 rfl) ?_
      refine lv_iload_n hx hb dX4_count_104 rfl (lv_at hl 1 rfl) ?_
      refine lv_iconst (v := nI 4) hx hb dX4_count_105 (by decide) ?_
      refine n_sub hx hb (by omega) dX4_count_106 ?_
      refine lv_aload_n hx hb dX4_count_107 rfl (lv_at hl 0 rfl) ?_
      refine mg_11 (v := N 11 0) hx hb hts hi4 hown hK hP k76 rfl dX4_count_108 ?_
      refine g_calli (u := ((uN N 26 (0) (0)), J)) (g_runV (As := [.int (nI (w - 4)), .int (nI (N 11 0))]) (rest := [.int (nI (N 18 (w - 4)))]) ⟨hx, hb, hml, hown, hts⟩ (tM_waited l dC dI a cI cL cZ (uN N 26 (0) (0)) J (w - 4) (N 11 0) hG (by omega) (by omega) H.size) (cwV 2 hts gX4_count_X4_waited rfl rfl rfl (by decide +kernel) ⟨Nat.le_of_ble_eq_true rfl, Nat.le_of_ble_eq_true rfl⟩) (va_recv hK hP (ci := 4) (q0 := 0) rfl rfl) hK hP hD hS hZ rfl hl.1 rfl (Nat.le_of_ble_eq_true rfl) dX4_count_111) (mW_L a cI cL cZ) hD hS (fun r_111 u H locs hw hP hD hS => ?_)
      obtain ⟨hr9, hu9⟩ := hw
      have hr9 : r_111 = nI (mWt N (w - 4) (N 11 0)) := hr9
      subst hr9
      subst hu9
      have hP : va_P (dC, dI) vwCl (mW a cI cL cZ (uN N 26 (0) (0)) J) H := hP
      have hD : va_D (aA (mL a) s.heap.size) (mW a cI cL cZ (uN N 26 (0) (0)) J) := hD
      refine n_add hx hb dX4_count_114 ?_
      exact g_reti hx hb hr hlocks ((uN N 26 (0) (0)), J) (⟨by subst h9; show _ = nI (N 18 (_ - 4) + (if mCode N = 0 then 0 else mWt N (_ - 4) (N 11 0))); rw [if_neg c_96], rfl⟩) hP hS dX4_count_115
    · refine lv_iconst (v := nI 0) hx hb dX4_count_99 (by decide) ?_
      refine lv_goto (tgt := 114) hx hb dX4_count_100 (by decide) ?_
      refine n_add hx hb dX4_count_114 ?_
      exact g_reti hx hb hr hlocks ((uN N 26 (0) (0)), J) (⟨by subst h9; show _ = nI (N 18 (_ - 4) + (if mCode N = 0 then 0 else mWt N (_ - 4) (N 11 0))); rw [if_pos c_96], rfl⟩) hP hS dX4_count_115
  · refine n_w (b := 5) (h9) ?_
    refine lv_tableIn (off := 78) (tgt := 84) hx hb dX4_count_6 (by decide) (by decide) (by decide) (by decide) ?_
    refine lv_aload_n hx hb dX4_count_84 rfl (lv_at hl 0 rfl) ?_
    refine mg_18 hx hb hts hi4 hown hK hP k38 dX4_count_85 ?_
    refine lv_iload_n hx hb dX4_count_88 rfl (lv_at hl 1 rfl) ?_
    refine lv_iconst (v := nI 4) hx hb dX4_count_89 (by decide) ?_
    refine n_sub hx hb (by omega) dX4_count_90 ?_
    refine ml_18 (v := N 18 (w - 4)) hx hb hK hP (by omega) rfl dX4_count_91 ?_
    refine lv_aload_n hx hb dX4_count_92 rfl (lv_at hl 0 rfl) ?_
    refine g_calli (u := ((uN N 26 (0) (0)), J)) (g_runV (As := []) (rest := [.int (nI (N 18 (w - 4)))]) ⟨hx, hb, hml, hown, hts⟩ (tM_code l dC dI a cI cL cZ (uN N 26 (0) (0)) J hG.1 H.size) (cwV 0 hts gX4_count_X4_code rfl rfl rfl (by decide +kernel) ⟨Nat.le_of_ble_eq_true rfl, Nat.le_of_ble_eq_true rfl⟩) (va_recv hK hP (ci := 4) (q0 := 0) rfl rfl) hK hP hD hS hZ rfl hl.1 rfl (Nat.le_of_ble_eq_true rfl) dX4_count_93) (mW_L a cI cL cZ) hD hS (fun r_93 u H locs hw hP hD hS => ?_)
    obtain ⟨hr9, hu9⟩ := hw
    have hr9 : r_93 = nI (mCode N) := hr9
    subst hr9
    subst hu9
    have hP : va_P (dC, dI) vwCl (mW a cI cL cZ (uN N 26 (0) (0)) J) H := hP
    have hD : va_D (aA (mL a) s.heap.size) (mW a cI cL cZ (uN N 26 (0) (0)) J) := hD
    refine n_if_ne (tgt := 103) hx hb (by omega) dX4_count_96 (by decide) (fun c_96 => ?_) (fun c_96 => ?_)
    · refine lv_aload_n hx hb dX4_count_103 rfl (lv_at hl 0 rfl) ?_
      refine lv_iload_n hx hb dX4_count_104 rfl (lv_at hl 1 rfl) ?_
      refine lv_iconst (v := nI 4) hx hb dX4_count_105 (by decide) ?_
      refine n_sub hx hb (by omega) dX4_count_106 ?_
      refine lv_aload_n hx hb dX4_count_107 rfl (lv_at hl 0 rfl) ?_
      refine mg_11 (v := N 11 0) hx hb hts hi4 hown hK hP k76 rfl dX4_count_108 ?_
      refine g_calli (u := ((uN N 26 (0) (0)), J)) (g_runV (As := [.int (nI (w - 4)), .int (nI (N 11 0))]) (rest := [.int (nI (N 18 (w - 4)))]) ⟨hx, hb, hml, hown, hts⟩ (tM_waited l dC dI a cI cL cZ (uN N 26 (0) (0)) J (w - 4) (N 11 0) hG (by omega) (by omega) H.size) (cwV 2 hts gX4_count_X4_waited rfl rfl rfl (by decide +kernel) ⟨Nat.le_of_ble_eq_true rfl, Nat.le_of_ble_eq_true rfl⟩) (va_recv hK hP (ci := 4) (q0 := 0) rfl rfl) hK hP hD hS hZ rfl hl.1 rfl (Nat.le_of_ble_eq_true rfl) dX4_count_111) (mW_L a cI cL cZ) hD hS (fun r_111 u H locs hw hP hD hS => ?_)
      obtain ⟨hr9, hu9⟩ := hw
      have hr9 : r_111 = nI (mWt N (w - 4) (N 11 0)) := hr9
      subst hr9
      subst hu9
      have hP : va_P (dC, dI) vwCl (mW a cI cL cZ (uN N 26 (0) (0)) J) H := hP
      have hD : va_D (aA (mL a) s.heap.size) (mW a cI cL cZ (uN N 26 (0) (0)) J) := hD
      refine n_add hx hb dX4_count_114 ?_
      exact g_reti hx hb hr hlocks ((uN N 26 (0) (0)), J) (⟨by subst h9; show _ = nI (N 18 (_ - 4) + (if mCode N = 0 then 0 else mWt N (_ - 4) (N 11 0))); rw [if_neg c_96], rfl⟩) hP hS dX4_count_115
    · refine lv_iconst (v := nI 0) hx hb dX4_count_99 (by decide) ?_
      refine lv_goto (tgt := 114) hx hb dX4_count_100 (by decide) ?_
      refine n_add hx hb dX4_count_114 ?_
      exact g_reti hx hb hr hlocks ((uN N 26 (0) (0)), J) (⟨by subst h9; show _ = nI (N 18 (_ - 4) + (if mCode N = 0 then 0 else mWt N (_ - 4) (N 11 0))); rw [if_pos c_96], rfl⟩) hP hS dX4_count_115
  · refine n_w (b := 6) (h9) ?_
    refine lv_tableIn (off := 78) (tgt := 84) hx hb dX4_count_6 (by decide) (by decide) (by decide) (by decide) ?_
    refine lv_aload_n hx hb dX4_count_84 rfl (lv_at hl 0 rfl) ?_
    refine mg_18 hx hb hts hi4 hown hK hP k38 dX4_count_85 ?_
    refine lv_iload_n hx hb dX4_count_88 rfl (lv_at hl 1 rfl) ?_
    refine lv_iconst (v := nI 4) hx hb dX4_count_89 (by decide) ?_
    refine n_sub hx hb (by omega) dX4_count_90 ?_
    refine ml_18 (v := N 18 (w - 4)) hx hb hK hP (by omega) rfl dX4_count_91 ?_
    refine lv_aload_n hx hb dX4_count_92 rfl (lv_at hl 0 rfl) ?_
    refine g_calli (u := ((uN N 26 (0) (0)), J)) (g_runV (As := []) (rest := [.int (nI (N 18 (w - 4)))]) ⟨hx, hb, hml, hown, hts⟩ (tM_code l dC dI a cI cL cZ (uN N 26 (0) (0)) J hG.1 H.size) (cwV 0 hts gX4_count_X4_code rfl rfl rfl (by decide +kernel) ⟨Nat.le_of_ble_eq_true rfl, Nat.le_of_ble_eq_true rfl⟩) (va_recv hK hP (ci := 4) (q0 := 0) rfl rfl) hK hP hD hS hZ rfl hl.1 rfl (Nat.le_of_ble_eq_true rfl) dX4_count_93) (mW_L a cI cL cZ) hD hS (fun r_93 u H locs hw hP hD hS => ?_)
    obtain ⟨hr9, hu9⟩ := hw
    have hr9 : r_93 = nI (mCode N) := hr9
    subst hr9
    subst hu9
    have hP : va_P (dC, dI) vwCl (mW a cI cL cZ (uN N 26 (0) (0)) J) H := hP
    have hD : va_D (aA (mL a) s.heap.size) (mW a cI cL cZ (uN N 26 (0) (0)) J) := hD
    refine n_if_ne (tgt := 103) hx hb (by omega) dX4_count_96 (by decide) (fun c_96 => ?_) (fun c_96 => ?_)
    · refine lv_aload_n hx hb dX4_count_103 rfl (lv_at hl 0 rfl) ?_
      refine lv_iload_n hx hb dX4_count_104 rfl (lv_at hl 1 rfl) ?_
      refine lv_iconst (v := nI 4) hx hb dX4_count_105 (by decide) ?_
      refine n_sub hx hb (by omega) dX4_count_106 ?_
      refine lv_aload_n hx hb dX4_count_107 rfl (lv_at hl 0 rfl) ?_
      refine mg_11 (v := N 11 0) hx hb hts hi4 hown hK hP k76 rfl dX4_count_108 ?_
      refine g_calli (u := ((uN N 26 (0) (0)), J)) (g_runV (As := [.int (nI (w - 4)), .int (nI (N 11 0))]) (rest := [.int (nI (N 18 (w - 4)))]) ⟨hx, hb, hml, hown, hts⟩ (tM_waited l dC dI a cI cL cZ (uN N 26 (0) (0)) J (w - 4) (N 11 0) hG (by omega) (by omega) H.size) (cwV 2 hts gX4_count_X4_waited rfl rfl rfl (by decide +kernel) ⟨Nat.le_of_ble_eq_true rfl, Nat.le_of_ble_eq_true rfl⟩) (va_recv hK hP (ci := 4) (q0 := 0) rfl rfl) hK hP hD hS hZ rfl hl.1 rfl (Nat.le_of_ble_eq_true rfl) dX4_count_111) (mW_L a cI cL cZ) hD hS (fun r_111 u H locs hw hP hD hS => ?_)
      obtain ⟨hr9, hu9⟩ := hw
      have hr9 : r_111 = nI (mWt N (w - 4) (N 11 0)) := hr9
      subst hr9
      subst hu9
      have hP : va_P (dC, dI) vwCl (mW a cI cL cZ (uN N 26 (0) (0)) J) H := hP
      have hD : va_D (aA (mL a) s.heap.size) (mW a cI cL cZ (uN N 26 (0) (0)) J) := hD
      refine n_add hx hb dX4_count_114 ?_
      exact g_reti hx hb hr hlocks ((uN N 26 (0) (0)), J) (⟨by subst h9; show _ = nI (N 18 (_ - 4) + (if mCode N = 0 then 0 else mWt N (_ - 4) (N 11 0))); rw [if_neg c_96], rfl⟩) hP hS dX4_count_115
    · refine lv_iconst (v := nI 0) hx hb dX4_count_99 (by decide) ?_
      refine lv_goto (tgt := 114) hx hb dX4_count_100 (by decide) ?_
      refine n_add hx hb dX4_count_114 ?_
      exact g_reti hx hb hr hlocks ((uN N 26 (0) (0)), J) (⟨by subst h9; show _ = nI (N 18 (_ - 4) + (if mCode N = 0 then 0 else mWt N (_ - 4) (N 11 0))); rw [if_pos c_96], rfl⟩) hP hS dX4_count_115
  · refine n_w (b := 7) (h9) ?_
    refine lv_tableIn (off := 110) (tgt := 116) hx hb dX4_count_6 (by decide) (by decide) (by decide) (by decide) ?_
    refine lv_aload_n hx hb dX4_count_116 rfl (lv_at hl 0 rfl) ?_
    refine mg_16 (v := N 16 0) hx hb hts hi4 hown hK hP k95 rfl dX4_count_117 ?_
    refine lv_aload_n hx hb dX4_count_120 rfl (lv_at hl 0 rfl) ?_
    refine mg_11 (v := N 11 0) hx hb hts hi4 hown hK hP k76 rfl dX4_count_121 ?_
    refine n_icmp_le (tgt := 131) hx hb (by omega) (by omega) dX4_count_124 (by decide) (fun c_124 => ?_) (fun c_124 => ?_)
    · refine lv_aload_n hx hb dX4_count_131 rfl (lv_at hl 0 rfl) ?_
      refine mg_8 (v := N 8 0) hx hb hts hi4 hown hK hP k86 rfl dX4_count_132 ?_
      exact g_reti hx hb hr hlocks ((uN N 26 (0) (0)), J) (⟨by subst h9; show _ = (if N 11 0 < N 16 0 then -1 else nI (N 8 0)); split <;> first | rfl | (exfalso; omega), rfl⟩) hP hS dX4_count_135
    · refine lv_iconst (v := -1) hx hb dX4_count_127 (by decide) ?_
      refine lv_goto (tgt := 135) hx hb dX4_count_128 (by decide) ?_
      exact g_reti hx hb hr hlocks ((uN N 26 (0) (0)), J) (⟨by subst h9; show _ = (if N 11 0 < N 16 0 then -1 else nI (N 8 0)); split <;> first | rfl | (exfalso; omega), rfl⟩) hP hS dX4_count_135
  · refine n_w (b := 8) (h9) ?_
    refine lv_tableIn (off := 130) (tgt := 136) hx hb dX4_count_6 (by decide) (by decide) (by decide) (by decide) ?_
    refine lv_aload_n hx hb dX4_count_136 rfl (lv_at hl 0 rfl) ?_
    refine mg_13 (v := N 13 0) hx hb hts hi4 hown hK hP k83 rfl dX4_count_137 ?_
    refine lv_aload_n hx hb dX4_count_140 rfl (lv_at hl 0 rfl) ?_
    refine g_calli (u := ((uN N 26 (0) (0)), J)) (g_runV (As := []) (rest := [.int (nI (N 13 0))]) ⟨hx, hb, hml, hown, hts⟩ (tM_open l dC dI a cI cL cZ (uN N 26 (0) (0)) J hz H.size) (cwV 0 hts gX4_count_X4_open rfl rfl rfl (by decide +kernel) ⟨Nat.le_of_ble_eq_true rfl, Nat.le_of_ble_eq_true rfl⟩) (va_recv hK hP (ci := 4) (q0 := 0) rfl rfl) hK hP hD hS hZ rfl hl.1 rfl (Nat.le_of_ble_eq_true rfl) dX4_count_141) (mW_L a cI cL cZ) hD hS (fun r_141 u H locs hw hP hD hS => ?_)
    obtain ⟨hr9, hu9⟩ := hw
    have hr9 : r_141 = nI (cnN (N 24) 18) := hr9
    subst hr9
    subst hu9
    have hP : va_P (dC, dI) vwCl (mW a cI cL cZ (uN N 26 (0) (0)) J) H := hP
    have hD : va_D (aA (mL a) s.heap.size) (mW a cI cL cZ (uN N 26 (0) (0)) J) := hD
    refine lv_isub hx hb dX4_count_144 ?_
    exact g_reti hx hb hr hlocks ((uN N 26 (0) (0)), J) (⟨by subst h9; rfl, rfl⟩) hP hS dX4_count_145
set_option maxHeartbeats 4000000 in
set_option maxRecDepth 100000 in
theorem tM_run_over (l : Launch) (dC : Nat → ClassId) (dI : Nat → Nat → Nat) (a : Nat → Nat) (cI cL cZ : ClassId) (N : Nat → Nat → Nat) (J : Nat → Nat → Int64) (n : Nat) (hn : n ≤ 3000) (ho : N 12 0 = 1) : MetI l yX4_run wsX4_run ({ frames := 0, cells := 0, slots := 0, locals := 0 } : Room) dC dI (gT cI cL cZ) (mF a cI cL cZ) (mL a) (N, J) [.ref (a 0), .int (nI (n))] (fun r u => r = nI 0 ∧ u = (uN N 26 0 0, J)) := by
  intro sz
  refine g_entry (bytes := cX4_run) (maxL := 6) (ret := (some .int)) (Qc := fun sz => va_Qi (fun r u => r = nI 0 ∧ u = (uN N 26 0 0, J)) (gB dC dI (mF a cI cL cZ)) (aA (mL a) sz)) (by decide) rfl (Nat.le_of_ble_eq_true rfl) rfl ?_
  intro p e s m below meth c ls hx hb hr hml hts hown hlocks hK hP hD hS hZ hl
  have hP : va_P (dC, dI) vwCl (mW a cI cL cZ N J) s.heap := hP
  have hD : va_D (aA (mL a) s.heap.size) (mW a cI cL cZ N J) := hD
  have hown : s.vm.findClass RX4 = some m.cls := hown
  have hl : lv_has ls 6 [(0, .ref (a 0)), (1, .int (nI (n)))] := hl
  have hi4 : ∀ w ∈ wsX40, w ∈ wsX4_run := by decide +kernel
  have k66 := hts (.fieldLink RX4 66 "ScoreMachineModel" "thrown" "I") (by decide +kernel)
  have k79 := hts (.fieldLink RX4 79 "ScoreMachineModel" "over" "Z") (by decide +kernel)
  refine lv_aload_n hx hb dX4_run_0 rfl (lv_at hl 0 rfl) ?_
  refine lv_iconst (v := nI 0) hx hb dX4_run_1 (by decide) ?_
  refine mp_26 hx hb hts hi4 hown hK hP hD hS k66 dX4_run_2 (fun H locs hP hD hS => ?_)
  refine lv_iload_n hx hb dX4_run_5 rfl (lv_at hl 1 rfl) ?_
  refine n_if_lt (tgt := 16) hx hb (by omega) dX4_run_6 (by decide) ?_
  refine lv_iload_n hx hb dX4_run_9 rfl (lv_at hl 1 rfl) ?_
  refine lv_sipush (v := nI 3000) hx hb dX4_run_10 (by decide) ?_
  refine n_icmp_le (tgt := 18) hx hb (by omega) (by omega) dX4_run_13 (by decide) (fun c_13 => ?_) (fun c_13 => absurd c_13 (by omega))
  refine lv_aload_n hx hb dX4_run_18 rfl (lv_at hl 0 rfl) ?_
  refine mg_12 (v := 1) hx hb hts hi4 hown hK hP k79 ho dX4_run_19 ?_
  refine n_if_eq (tgt := 27) hx hb (by omega) dX4_run_22 (by decide) (fun c_22 => absurd c_22 (by decide)) (fun c_22 => ?_)
  refine lv_iconst (v := nI 0) hx hb dX4_run_25 (by decide) ?_
  exact g_reti hx hb hr hlocks ((uN N 26 (0) (0)), J) (⟨rfl, rfl⟩) hP hS dX4_run_26
