def cnN (f : Nat → Nat) : Nat → Nat
  | 0 => 0
  | n + 1 => cnN f n + (if f n = 0 then 0 else 1)
theorem cnN_le (f : Nat → Nat) : ∀ n, cnN f n ≤ n
  | 0 => Nat.le_refl 0
  | n + 1 => by
    have h := cnN_le f n
    show cnN f n + (if f n = 0 then 0 else 1) ≤ n + 1
    split <;> omega
set_option maxHeartbeats 4000000 in
set_option maxRecDepth 100000 in
theorem tM_open (l : Launch) (dC : Nat → ClassId) (dI : Nat → Nat → Nat) (a : Nat → Nat) (cI cL cZ : ClassId) (N : Nat → Nat → Nat) (J : Nat → Nat → Int64)  (hz : ∀ k, k < 18 → N 24 k < 2) : MetI l yX4_open wsX4_open ({ frames := 0, cells := 0, slots := 0, locals := 0 } : Room) dC dI (gT cI cL cZ) (mF a cI cL cZ) (mL a) (N, J) [.ref (a 0)] (fun r u => r = nI (cnN (N 24) 18) ∧ u = (N, J)) := by
  intro sz
  refine g_entry (bytes := cX4_open) (maxL := 3) (ret := (some .int)) (Qc := fun sz => va_Qi (fun r u => r = nI (cnN (N 24) 18) ∧ u = (N, J)) (gB dC dI (mF a cI cL cZ)) (aA (mL a) sz)) (by decide) rfl (Nat.le_of_ble_eq_true rfl) rfl ?_
  intro p e s m below meth c ls hx hb hr hml hts hown hlocks hK hP hD hS hZ hl
  have hP : va_P (dC, dI) vwCl (mW a cI cL cZ N J) s.heap := hP
  have hD : va_D (aA (mL a) s.heap.size) (mW a cI cL cZ N J) := hD
  have hown : s.vm.findClass RX4 = some m.cls := hown
  have hl : lv_has ls 3 [(0, .ref (a 0))] := hl
  have hi4 : ∀ w ∈ wsX40, w ∈ wsX4_open := by decide +kernel
  have k56 := hts (.fieldLink RX4 56 "ScoreMachineModel" "unitOpen" "[Z") (by decide +kernel)
  refine lv_iconst (v := nI 0) hx hb dX4_open_0 (by decide) ?_
  refine lv_istore_n (lv' := [(1, .int (nI (0))), (0, .ref (a 0))]) hx hb dX4_open_1 rfl hl (by decide) rfl (fun ls hl => ?_)
  refine lv_iconst (v := nI 0) hx hb dX4_open_2 (by decide) ?_
  refine lv_istore_n (lv' := [(2, .int (nI (0))), (1, .int (nI (0))), (0, .ref (a 0))]) hx hb dX4_open_3 rfl hl (by decide) rfl (fun ls hl => ?_)
  refine w_loop (X := Nat) (μ := fun x4 => 18 - x4) (P := fun x4 => x4 ≤ 18) (pj := 4) (nL := 3) (lv := fun x4 => [(0, .ref (a 0)), (1, .int (nI (cnN (N 24) x4))), (2, .int (nI (x4)))]) (st := fun x4 => []) (fun x4 ls ex4 hl jn_4 => ?_) 0 ls (by omega) (lv_sub hl [2, 1, 0] rfl)
  have ex4 : x4 ≤ 18 := ex4
  have hl : lv_has ls 3 [(0, .ref (a 0)), (1, .int (nI (cnN (N 24) x4))), (2, .int (nI (x4)))] := hl
  refine lv_iload_n hx hb dX4_open_4 rfl (lv_at hl 2 rfl) ?_
  refine lv_bipush (v := nI 18) hx hb dX4_open_5 (by decide) ?_
  refine n_icmp_ge (tgt := 28) hx hb (by omega) (by omega) dX4_open_7 (by decide) (fun c_7 => ?_) (fun c_7 => ?_)
  · have e18 : x4 = 18 := by omega
    subst e18
    refine lv_iload_n hx hb dX4_open_28 rfl (lv_at hl 1 rfl) ?_
    exact g_reti hx hb hr hlocks (N, J) (⟨rfl, rfl⟩) hP hS dX4_open_29
  · refine lv_aload_n hx hb dX4_open_10 rfl (lv_at hl 0 rfl) ?_
    refine mg_24 hx hb hts hi4 hown hK hP k56 dX4_open_11 ?_
    refine lv_iload_n hx hb dX4_open_14 rfl (lv_at hl 2 rfl) ?_
    refine ml_24 (v := N 24 x4) hx hb hK hP (by omega) rfl dX4_open_15 ?_
    refine n_if_eq (tgt := 22) hx hb (by have := hz x4 (by omega); omega) dX4_open_16 (by decide) (fun c_16 => ?_) (fun c_16 => ?_)
    · refine lv_iinc (v := nI (x4 + 1)) (lv' := [(2, .int (nI (x4 + 1))), (0, .ref (a 0)), (1, .int (nI (cnN (N 24) x4)))]) hx hb dX4_open_22 hl (k := 2) rfl (nI_1 _) (by decide) rfl (fun ls hl => ?_)
      refine lv_goto (tgt := 4) hx hb dX4_open_25 (by decide) ?_
      rw [show cnN (N 24) x4  = cnN (N 24) (x4 + 1) from (by show _ = cnN (N 24) x4 + (if N 24 x4 = 0 then 0 else 1); rw [if_pos c_16, Nat.add_zero])] at hl
      exact jn_4 (x4 + 1) ls (by omega) (by omega) (lv_sub hl [1, 2, 0] rfl)
    · refine lv_iinc (v := nI (cnN (N 24) x4 + 1)) (lv' := [(1, .int (nI (cnN (N 24) x4 + 1))), (0, .ref (a 0)), (2, .int (nI (x4)))]) hx hb dX4_open_19 hl (k := 1) rfl (nI_1 _) (by decide) rfl (fun ls hl => ?_)
      refine lv_iinc (v := nI (x4 + 1)) (lv' := [(2, .int (nI (x4 + 1))), (1, .int (nI (cnN (N 24) x4 + 1))), (0, .ref (a 0))]) hx hb dX4_open_22 hl (k := 2) rfl (nI_1 _) (by decide) rfl (fun ls hl => ?_)
      refine lv_goto (tgt := 4) hx hb dX4_open_25 (by decide) ?_
      rw [show cnN (N 24) x4 + 1 = cnN (N 24) (x4 + 1) from (by show _ = cnN (N 24) x4 + (if N 24 x4 = 0 then 0 else 1); rw [if_neg c_16])] at hl
      exact jn_4 (x4 + 1) ls (by omega) (by omega) (lv_sub hl [2, 1, 0] rfl)
set_option maxHeartbeats 4000000 in
set_option maxRecDepth 100000 in
theorem tM_commit_b (l : Launch) (dC : Nat → ClassId) (dI : Nat → Nat → Nat) (a : Nat → Nat) (cI cL cZ : ClassId) (N : Nat → Nat → Nat) (J : Nat → Nat → Int64) (k : Nat) (hk : k < 18) (hz : N 24 k < 2) (ht : N 22 (7 * k + 6) = 4294967295) : MetV l yX4_commit wsX4_commit ({ frames := 0, cells := 0, slots := 0, locals := 0 } : Room) dC dI (gT cI cL cZ) (mF a cI cL cZ) (mL a) (N, J) [.ref (a 0), .int (nI (k))] (fun u => u = mCm (N, J) k) := by
  intro sz
  refine g_entry (bytes := cX4_commit) (maxL := 3) (ret := none) (Qc := fun sz => va_Qv (fun u => u = mCm (N, J) k) (gB dC dI (mF a cI cL cZ)) (aA (mL a) sz)) (by decide) rfl (Nat.le_of_ble_eq_true rfl) rfl ?_
  intro p e s m below meth c ls hx hb hr hml hts hown hlocks hK hP hD hS hZ hl
  have hP : va_P (dC, dI) vwCl (mW a cI cL cZ N J) s.heap := hP
  have hD : va_D (aA (mL a) s.heap.size) (mW a cI cL cZ N J) := hD
  have hown : s.vm.findClass RX4 = some m.cls := hown
  have hl : lv_has ls 3 [(0, .ref (a 0)), (1, .int (nI (k)))] := hl
  have hi4 : ∀ w ∈ wsX40, w ∈ wsX4_commit := by decide +kernel
  have k50 := hts (.fieldLink RX4 50 "ScoreMachineModel" "unitRow" "[I") (by decide +kernel)
  have k56 := hts (.fieldLink RX4 56 "ScoreMachineModel" "unitOpen" "[Z") (by decide +kernel)
  refine lv_aload_n hx hb dX4_commit_0 rfl (lv_at hl 0 rfl) ?_
  refine mg_24 hx hb hts hi4 hown hK hP k56 dX4_commit_1 ?_
  refine lv_iload_n hx hb dX4_commit_4 rfl (lv_at hl 1 rfl) ?_
  refine ml_24 (v := N 24 k) hx hb hK hP (by omega) rfl dX4_commit_5 ?_
  refine n_if_ne (tgt := 10) hx hb (by omega) dX4_commit_6 (by decide) (fun c_6 => ?_) (fun c_6 => ?_)
  · refine lv_aload_n hx hb dX4_commit_10 rfl (lv_at hl 0 rfl) ?_
    refine mg_24 hx hb hts hi4 hown hK hP k56 dX4_commit_11 ?_
    refine lv_iload_n hx hb dX4_commit_14 rfl (lv_at hl 1 rfl) ?_
    refine lv_iconst (v := nI 0) hx hb dX4_commit_15 (by decide) ?_
    refine ms_24 hx hb hK hP hD hS (by omega) (by omega) dX4_commit_16 (fun H locs hP hD hS => ?_)
    refine lv_aload_n hx hb dX4_commit_17 rfl (lv_at hl 0 rfl) ?_
    refine mg_22 hx hb hts hi4 hown hK hP k50 dX4_commit_18 ?_
    refine lv_bipush (v := nI 7) hx hb dX4_commit_21 (by decide) ?_
    refine lv_iload_n hx hb dX4_commit_23 rfl (lv_at hl 1 rfl) ?_
    refine n_mul hx hb dX4_commit_24 ?_
    refine lv_bipush (v := nI 6) hx hb dX4_commit_25 (by decide) ?_
    refine n_add hx hb dX4_commit_27 ?_
    refine ml_22 (v := 4294967295) hx hb hK hP (by omega) ht dX4_commit_28 ?_
    refine lv_istore_n (lv' := [(2, .int (nI (4294967295))), (0, .ref (a 0)), (1, .int (nI (k)))]) hx hb dX4_commit_29 rfl hl (by decide) rfl (fun ls hl => ?_)
    refine lv_iload_n hx hb dX4_commit_30 rfl (lv_at hl 0 rfl) ?_
    refine lv_bipush (v := nI 16) hx hb dX4_commit_31 (by decide) ?_
    refine lv_icmp_lt (tgt := 54) hx hb dX4_commit_33 (by decide) (fun c_33 => ?_) (fun c_33 => absurd c_33 (by decide))
    refine lv_iload_n hx hb dX4_commit_54 rfl (lv_at hl 0 rfl) ?_
    refine lv_if_lt (tgt := 70) hx hb dX4_commit_55 (by decide) (fun c_55 => ?_) (fun c_55 => absurd c_55 (by decide))
    exact g_retv hx hb hr hlocks ((uN N 24 (k) (0)), J) (by show _ = mCm (N, J) k; unfold mCm; rw [if_neg (show ¬ N 24 k = 0 from c_6)]; dsimp only; rw [if_pos ht]) hP hS dX4_commit_70
  · exact g_retv hx hb hr hlocks (N, J) (by show _ = mCm (N, J) k; unfold mCm; rw [if_pos (show N 24 k = 0 from c_6)]) hP hS dX4_commit_9
set_option maxHeartbeats 4000000 in
set_option maxRecDepth 100000 in
theorem tM_commit_m (l : Launch) (dC : Nat → ClassId) (dI : Nat → Nat → Nat) (a : Nat → Nat) (cI cL cZ : ClassId) (N : Nat → Nat → Nat) (J : Nat → Nat → Int64) (k : Nat) (hk : k < 18) (hz : N 24 k < 2) (ht : 16 ≤ N 22 (7 * k + 6)) (ht2 : N 22 (7 * k + 6) < 272) : MetV l yX4_commit wsX4_commit ({ frames := 0, cells := 0, slots := 0, locals := 0 } : Room) dC dI (gT cI cL cZ) (mF a cI cL cZ) (mL a) (N, J) [.ref (a 0), .int (nI (k))] (fun u => u = mCm (N, J) k) := by
  intro sz
  refine g_entry (bytes := cX4_commit) (maxL := 3) (ret := none) (Qc := fun sz => va_Qv (fun u => u = mCm (N, J) k) (gB dC dI (mF a cI cL cZ)) (aA (mL a) sz)) (by decide) rfl (Nat.le_of_ble_eq_true rfl) rfl ?_
  intro p e s m below meth c ls hx hb hr hml hts hown hlocks hK hP hD hS hZ hl
  have hP : va_P (dC, dI) vwCl (mW a cI cL cZ N J) s.heap := hP
  have hD : va_D (aA (mL a) s.heap.size) (mW a cI cL cZ N J) := hD
  have hown : s.vm.findClass RX4 = some m.cls := hown
  have hl : lv_has ls 3 [(0, .ref (a 0)), (1, .int (nI (k)))] := hl
  have hi4 : ∀ w ∈ wsX40, w ∈ wsX4_commit := by decide +kernel
  have k35 := hts (.fieldLink RX4 35 "ScoreMachineModel" "memory" "[J") (by decide +kernel)
  have k50 := hts (.fieldLink RX4 50 "ScoreMachineModel" "unitRow" "[I") (by decide +kernel)
  have k53 := hts (.fieldLink RX4 53 "ScoreMachineModel" "unitValue" "[J") (by decide +kernel)
  have k56 := hts (.fieldLink RX4 56 "ScoreMachineModel" "unitOpen" "[Z") (by decide +kernel)
  refine lv_aload_n hx hb dX4_commit_0 rfl (lv_at hl 0 rfl) ?_
  refine mg_24 hx hb hts hi4 hown hK hP k56 dX4_commit_1 ?_
  refine lv_iload_n hx hb dX4_commit_4 rfl (lv_at hl 1 rfl) ?_
  refine ml_24 (v := N 24 k) hx hb hK hP (by omega) rfl dX4_commit_5 ?_
  refine n_if_ne (tgt := 10) hx hb (by omega) dX4_commit_6 (by decide) (fun c_6 => ?_) (fun c_6 => ?_)
  · refine lv_aload_n hx hb dX4_commit_10 rfl (lv_at hl 0 rfl) ?_
    refine mg_24 hx hb hts hi4 hown hK hP k56 dX4_commit_11 ?_
    refine lv_iload_n hx hb dX4_commit_14 rfl (lv_at hl 1 rfl) ?_
    refine lv_iconst (v := nI 0) hx hb dX4_commit_15 (by decide) ?_
    refine ms_24 hx hb hK hP hD hS (by omega) (by omega) dX4_commit_16 (fun H locs hP hD hS => ?_)
    refine lv_aload_n hx hb dX4_commit_17 rfl (lv_at hl 0 rfl) ?_
    refine mg_22 hx hb hts hi4 hown hK hP k50 dX4_commit_18 ?_
    refine lv_bipush (v := nI 7) hx hb dX4_commit_21 (by decide) ?_
    refine lv_iload_n hx hb dX4_commit_23 rfl (lv_at hl 1 rfl) ?_
    refine n_mul hx hb dX4_commit_24 ?_
    refine lv_bipush (v := nI 6) hx hb dX4_commit_25 (by decide) ?_
    refine n_add hx hb dX4_commit_27 ?_
    refine ml_22 (v := N 22 (7 * k + 6)) hx hb hK hP (by omega) rfl dX4_commit_28 ?_
    refine lv_istore_n (lv' := [(2, .int (nI (N 22 (7 * k + 6)))), (0, .ref (a 0)), (1, .int (nI (k)))]) hx hb dX4_commit_29 rfl hl (by decide) rfl (fun ls hl => ?_)
    refine lv_iload_n hx hb dX4_commit_30 rfl (lv_at hl 0 rfl) ?_
    refine lv_bipush (v := nI 16) hx hb dX4_commit_31 (by decide) ?_
    refine n_icmp_lt (tgt := 54) hx hb (by omega) (by omega) dX4_commit_33 (by decide) (fun c_33 => absurd c_33 (by omega)) (fun c_33 => ?_)
    refine lv_aload_n hx hb dX4_commit_36 rfl (lv_at hl 1 rfl) ?_
    refine mg_10 hx hb hts hi4 hown hK hP k35 dX4_commit_37 ?_
    refine lv_iload_n hx hb dX4_commit_40 rfl (lv_at hl 0 rfl) ?_
    refine lv_bipush (v := nI 16) hx hb dX4_commit_41 (by decide) ?_
    refine n_sub hx hb (by omega) dX4_commit_43 ?_
    refine lv_aload_n hx hb dX4_commit_44 rfl (lv_at hl 1 rfl) ?_
    refine mg_23 hx hb hts hi4 hown hK hP k53 dX4_commit_45 ?_
    refine lv_iload_n hx hb dX4_commit_48 rfl (lv_at hl 2 rfl) ?_
    refine ml_23 (v := J 23 k) hx hb hK hP (by omega) rfl dX4_commit_49 ?_
    refine ms_10 hx hb hK hP hD hS (by omega) dX4_commit_50 (fun H locs hP hD hS => ?_)
    refine lv_goto (tgt := 70) hx hb dX4_commit_51 (by decide) ?_
    exact g_retv hx hb hr hlocks ((uN N 24 (k) (0)), (uJ J 10 ((N 22 (7 * k + 6)) - 16) (J 23 k))) (by show _ = mCm (N, J) k; unfold mCm; rw [if_neg (show ¬ N 24 k = 0 from c_6)]; dsimp only; rw [if_neg (by omega), if_pos ht]) hP hS dX4_commit_70
  · exact g_retv hx hb hr hlocks (N, J) (by show _ = mCm (N, J) k; unfold mCm; rw [if_pos (show N 24 k = 0 from c_6)]) hP hS dX4_commit_9
set_option maxHeartbeats 4000000 in
set_option maxRecDepth 100000 in
theorem tM_commit_r (l : Launch) (dC : Nat → ClassId) (dI : Nat → Nat → Nat) (a : Nat → Nat) (cI cL cZ : ClassId) (N : Nat → Nat → Nat) (J : Nat → Nat → Int64) (k : Nat) (hk : k < 18) (hz : N 24 k < 2) (ht : N 22 (7 * k + 6) < 16) : MetV l yX4_commit wsX4_commit ({ frames := 0, cells := 0, slots := 0, locals := 0 } : Room) dC dI (gT cI cL cZ) (mF a cI cL cZ) (mL a) (N, J) [.ref (a 0), .int (nI (k))] (fun u => u = mCm (N, J) k) := by
  intro sz
  refine g_entry (bytes := cX4_commit) (maxL := 3) (ret := none) (Qc := fun sz => va_Qv (fun u => u = mCm (N, J) k) (gB dC dI (mF a cI cL cZ)) (aA (mL a) sz)) (by decide) rfl (Nat.le_of_ble_eq_true rfl) rfl ?_
  intro p e s m below meth c ls hx hb hr hml hts hown hlocks hK hP hD hS hZ hl
  have hP : va_P (dC, dI) vwCl (mW a cI cL cZ N J) s.heap := hP
  have hD : va_D (aA (mL a) s.heap.size) (mW a cI cL cZ N J) := hD
  have hown : s.vm.findClass RX4 = some m.cls := hown
  have hl : lv_has ls 3 [(0, .ref (a 0)), (1, .int (nI (k)))] := hl
  have hi4 : ∀ w ∈ wsX40, w ∈ wsX4_commit := by decide +kernel
  have k32 := hts (.fieldLink RX4 32 "ScoreMachineModel" "registers" "[J") (by decide +kernel)
  have k50 := hts (.fieldLink RX4 50 "ScoreMachineModel" "unitRow" "[I") (by decide +kernel)
  have k53 := hts (.fieldLink RX4 53 "ScoreMachineModel" "unitValue" "[J") (by decide +kernel)
  have k56 := hts (.fieldLink RX4 56 "ScoreMachineModel" "unitOpen" "[Z") (by decide +kernel)
  refine lv_aload_n hx hb dX4_commit_0 rfl (lv_at hl 0 rfl) ?_
  refine mg_24 hx hb hts hi4 hown hK hP k56 dX4_commit_1 ?_
  refine lv_iload_n hx hb dX4_commit_4 rfl (lv_at hl 1 rfl) ?_
  refine ml_24 (v := N 24 k) hx hb hK hP (by omega) rfl dX4_commit_5 ?_
  refine n_if_ne (tgt := 10) hx hb (by omega) dX4_commit_6 (by decide) (fun c_6 => ?_) (fun c_6 => ?_)
  · refine lv_aload_n hx hb dX4_commit_10 rfl (lv_at hl 0 rfl) ?_
    refine mg_24 hx hb hts hi4 hown hK hP k56 dX4_commit_11 ?_
    refine lv_iload_n hx hb dX4_commit_14 rfl (lv_at hl 1 rfl) ?_
    refine lv_iconst (v := nI 0) hx hb dX4_commit_15 (by decide) ?_
    refine ms_24 hx hb hK hP hD hS (by omega) (by omega) dX4_commit_16 (fun H locs hP hD hS => ?_)
    refine lv_aload_n hx hb dX4_commit_17 rfl (lv_at hl 0 rfl) ?_
    refine mg_22 hx hb hts hi4 hown hK hP k50 dX4_commit_18 ?_
    refine lv_bipush (v := nI 7) hx hb dX4_commit_21 (by decide) ?_
    refine lv_iload_n hx hb dX4_commit_23 rfl (lv_at hl 1 rfl) ?_
    refine n_mul hx hb dX4_commit_24 ?_
    refine lv_bipush (v := nI 6) hx hb dX4_commit_25 (by decide) ?_
    refine n_add hx hb dX4_commit_27 ?_
    refine ml_22 (v := N 22 (7 * k + 6)) hx hb hK hP (by omega) rfl dX4_commit_28 ?_
    refine lv_istore_n (lv' := [(2, .int (nI (N 22 (7 * k + 6)))), (0, .ref (a 0)), (1, .int (nI (k)))]) hx hb dX4_commit_29 rfl hl (by decide) rfl (fun ls hl => ?_)
    refine lv_iload_n hx hb dX4_commit_30 rfl (lv_at hl 0 rfl) ?_
    refine lv_bipush (v := nI 16) hx hb dX4_commit_31 (by decide) ?_
    refine n_icmp_lt (tgt := 54) hx hb (by omega) (by omega) dX4_commit_33 (by decide) (fun c_33 => ?_) (fun c_33 => absurd c_33 (by omega))
    refine lv_iload_n hx hb dX4_commit_54 rfl (lv_at hl 0 rfl) ?_
    refine n_if_lt (tgt := 70) hx hb (by omega) dX4_commit_55 (by decide) ?_
    refine lv_aload_n hx hb dX4_commit_58 rfl (lv_at hl 1 rfl) ?_
    refine mg_9 hx hb hts hi4 hown hK hP k32 dX4_commit_59 ?_
    refine lv_iload_n hx hb dX4_commit_62 rfl (lv_at hl 0 rfl) ?_
    refine lv_aload_n hx hb dX4_commit_63 rfl (lv_at hl 1 rfl) ?_
    refine mg_23 hx hb hts hi4 hown hK hP k53 dX4_commit_64 ?_
    refine lv_iload_n hx hb dX4_commit_67 rfl (lv_at hl 2 rfl) ?_
    refine ml_23 (v := J 23 k) hx hb hK hP (by omega) rfl dX4_commit_68 ?_
    refine ms_9 hx hb hK hP hD hS (by omega) dX4_commit_69 (fun H locs hP hD hS => ?_)
    exact g_retv hx hb hr hlocks ((uN N 24 (k) (0)), (uJ J 9 (N 22 (7 * k + 6)) (J 23 k))) (by show _ = mCm (N, J) k; unfold mCm; rw [if_neg (show ¬ N 24 k = 0 from c_6)]; dsimp only; rw [if_neg (by omega), if_neg (by omega)]) hP hS dX4_commit_70
  · exact g_retv hx hb hr hlocks (N, J) (by show _ = mCm (N, J) k; unfold mCm; rw [if_pos (show N 24 k = 0 from c_6)]) hP hS dX4_commit_9
theorem tM_commit (l : Launch) (dC : Nat → ClassId) (dI : Nat → Nat → Nat) (a : Nat → Nat) (cI cL cZ : ClassId) (N : Nat → Nat → Nat) (J : Nat → Nat → Int64) (k : Nat) (hk : k < 18) (hz : N 24 k < 2) (ht : N 22 (7 * k + 6) = 4294967295 ∨ N 22 (7 * k + 6) < 272) : MetV l yX4_commit wsX4_commit ({ frames := 0, cells := 0, slots := 0, locals := 0 } : Room) dC dI (gT cI cL cZ) (mF a cI cL cZ) (mL a) (N, J) [.ref (a 0), .int (nI k)] (fun u => u = mCm (N, J) k) := by
  rcases ht with h | h
  · exact tM_commit_b l dC dI a cI cL cZ N J k hk hz h
  · rcases Nat.lt_or_ge (N 22 (7 * k + 6)) 16 with h2 | h2
    · exact tM_commit_r l dC dI a cI cL cZ N J k hk hz h2
    · exact tM_commit_m l dC dI a cI cL cZ N J k hk hz h2 h
set_option maxHeartbeats 4000000 in
set_option maxRecDepth 100000 in
theorem tM_does (l : Launch) (dC : Nat → ClassId) (dI : Nat → Nat → Nat) (a : Nat → Nat) (cI cL cZ : ClassId) (N : Nat → Nat → Nat) (J : Nat → Nat → Int64)  (hG : mG0 N) (hc : 1 ≤ mCode N) : MetL l yX4_does wsX4_does ({ frames := 1, cells := 0, slots := 0, locals := 21 } : Room) dC dI (gT cI cL cZ) (mF a cI cL cZ) (mL a) (N, J) [.ref (a 0)] (fun r u => r = mV N J ∧ u = (uN N 8 0 (mNx N J), J)) := by
  intro sz
  refine g_entry (bytes := cX4_does) (maxL := 14) (ret := (some .long)) (Qc := fun sz => va_Ql (fun r u => r = mV N J ∧ u = (uN N 8 0 (mNx N J), J)) (gB dC dI (mF a cI cL cZ)) (aA (mL a) sz)) (by decide) rfl (Nat.le_of_ble_eq_true rfl) rfl ?_
  intro p e s m below meth c ls hx hb hr hml hts hown hlocks hK hP hD hS hZ hl
  have hP : va_P (dC, dI) vwCl (mW a cI cL cZ N J) s.heap := hP
  have hD : va_D (aA (mL a) s.heap.size) (mW a cI cL cZ N J) := hD
  have hown : s.vm.findClass RX4 = some m.cls := hown
  have hl : lv_has ls 14 [(0, .ref (a 0))] := hl
  have hi4 : ∀ w ∈ wsX40, w ∈ wsX4_does := by decide +kernel
  have k26 := hts (.fieldLink RX4 26 "ScoreMachineModel" "plainRegisters" "[J") (by decide +kernel)
  have k29 := hts (.fieldLink RX4 29 "ScoreMachineModel" "plainMemory" "[J") (by decide +kernel)
  have k86 := hts (.fieldLink RX4 86 "ScoreMachineModel" "place" "I") (by decide +kernel)
  have k9 := hts (.fieldLink RX4 9 "ScoreMachineModel" "program" "[I") (by decide +kernel)
  obtain ⟨hpl, hpr⟩ := id hG
  have hp0 := hpr (N 8 0) hpl
  have hcd : mCode N ≤ 18 := hp0.1
  refine lv_iconst (v := nI 4) hx hb dX4_does_0 (by decide) ?_
  refine lv_aload_n hx hb dX4_does_1 rfl (lv_at hl 0 rfl) ?_
  refine mg_8 (v := N 8 0) hx hb hts hi4 hown hK hP k86 rfl dX4_does_2 ?_
  refine n_mul hx hb dX4_does_5 ?_
  refine lv_istore_n (lv' := [(1, .int (nI (4 * (N 8 0)))), (0, .ref (a 0))]) hx hb dX4_does_6 rfl hl (by decide) rfl (fun ls hl => ?_)
  refine lv_aload_n hx hb dX4_does_7 rfl (lv_at hl 1 rfl) ?_
  refine mg_6 hx hb hts hi4 hown hK hP k26 dX4_does_8 ?_
  refine lv_aload_n hx hb dX4_does_11 rfl (lv_at hl 1 rfl) ?_
  refine mg_0 hx hb hts hi4 hown hK hP k9 dX4_does_12 ?_
  refine lv_iload_n hx hb dX4_does_15 rfl (lv_at hl 0 rfl) ?_
  refine lv_iconst (v := nI 1) hx hb dX4_does_16 (by decide) ?_
  refine n_add hx hb dX4_does_17 ?_
  refine ml_0 (v := mD N) hx hb hK hP (by omega) rfl dX4_does_18 ?_
  refine ml_6 (v := J 6 (mD N)) hx hb hK hP hp0.2.1 rfl dX4_does_19 ?_
  refine lv_lstore_n (lv' := [(2, .long (J 6 (mD N))), (1, .int (nI (4 * (N 8 0)))), (0, .ref (a 0))]) hx hb dX4_does_20 rfl hl (by decide) rfl (fun ls hl => ?_)
  refine lv_aload_n hx hb dX4_does_21 rfl (lv_at hl 2 rfl) ?_
  refine mg_6 hx hb hts hi4 hown hK hP k26 dX4_does_22 ?_
  refine lv_aload_n hx hb dX4_does_25 rfl (lv_at hl 2 rfl) ?_
  refine mg_0 hx hb hts hi4 hown hK hP k9 dX4_does_26 ?_
  refine lv_iload_n hx hb dX4_does_29 rfl (lv_at hl 1 rfl) ?_
  refine lv_iconst (v := nI 2) hx hb dX4_does_30 (by decide) ?_
  refine n_add hx hb dX4_does_31 ?_
  refine ml_0 (v := mA N) hx hb hK hP (by omega) rfl dX4_does_32 ?_
  refine ml_6 (v := J 6 (mA N)) hx hb hK hP hp0.2.2.1 rfl dX4_does_33 ?_
  refine lv_lstore (lv' := [(4, .long (J 6 (mA N))), (2, .long (J 6 (mD N))), (1, .int (nI (4 * (N 8 0)))), (0, .ref (a 0))]) hx hb dX4_does_34 hl (by decide) rfl (fun ls hl => ?_)
  refine lv_aload_n hx hb dX4_does_36 rfl (lv_at hl 3 rfl) ?_
  refine mg_6 hx hb hts hi4 hown hK hP k26 dX4_does_37 ?_
  refine lv_aload_n hx hb dX4_does_40 rfl (lv_at hl 3 rfl) ?_
  refine g_calli (u := (N, J)) (g_runV (As := []) (rest := [.ref (a 6)]) ⟨hx, hb, hml, hown, hts⟩ (tM_registerB l dC dI a cI cL cZ N J hG s.heap.size) (cwV 0 hts gX4_does_X4_registerB rfl rfl rfl (by decide +kernel) ⟨Nat.le_of_ble_eq_true rfl, Nat.le_of_ble_eq_true rfl⟩) (va_recv hK hP (ci := 4) (q0 := 0) rfl rfl) hK hP hD hS hZ rfl hl.1 rfl (Nat.le_of_ble_eq_true rfl) dX4_does_41) (mW_L a cI cL cZ) hD hS (fun r_41 u H locs hw hP hD hS => ?_)
  obtain ⟨rfl, rfl⟩ := hw
  have hP : va_P (dC, dI) vwCl (mW a cI cL cZ N J) H := hP
  have hD : va_D (aA (mL a) s.heap.size) (mW a cI cL cZ N J) := hD
  refine ml_6 (v := J 6 (mBB N % 16)) hx hb hK hP (by omega) rfl dX4_does_44 ?_
  refine lv_lstore (lv' := [(6, .long (J 6 (mBB N % 16))), (4, .long (J 6 (mA N))), (2, .long (J 6 (mD N))), (1, .int (nI (4 * (N 8 0)))), (0, .ref (a 0))]) hx hb dX4_does_45 hl (by decide) rfl (fun ls hl => ?_)
  refine lv_aload_n hx hb dX4_does_47 rfl (lv_at hl 4 rfl) ?_
  refine mg_0 hx hb hts hi4 hown hK hP k9 dX4_does_48 ?_
  refine lv_iload_n hx hb dX4_does_51 rfl (lv_at hl 3 rfl) ?_
  refine lv_iconst (v := nI 3) hx hb dX4_does_52 (by decide) ?_
  refine n_add hx hb dX4_does_53 ?_
  refine ml_0 (v := mBB N) hx hb hK hP (by omega) rfl dX4_does_54 ?_
  refine lv_i2l (v := ((nI (mBB N))).toInt64) hx hb dX4_does_55 rfl ?_
  refine lv_lstore (lv' := [(8, .long (((nI (mBB N))).toInt64)), (6, .long (J 6 (mBB N % 16))), (4, .long (J 6 (mA N))), (2, .long (J 6 (mD N))), (1, .int (nI (4 * (N 8 0)))), (0, .ref (a 0))]) hx hb dX4_does_56 hl (by decide) rfl (fun ls hl => ?_)
  refine lv_aload_n hx hb dX4_does_58 rfl (lv_at hl 5 rfl) ?_
  refine mg_8 (v := N 8 0) hx hb hts hi4 hown hK hP k86 rfl dX4_does_59 ?_
  refine lv_iconst (v := nI 1) hx hb dX4_does_62 (by decide) ?_
  refine n_add hx hb dX4_does_63 ?_
  refine lv_sipush (v := nI 256) hx hb dX4_does_64 (by decide) ?_
  refine n_rem hx hb (by omega) (by decide) (by decide) dX4_does_67 ?_
  refine lv_istore (lv' := [(10, .int (nI (((N 8 0) + 1) % 256))), (8, .long (((nI (mBB N))).toInt64)), (6, .long (J 6 (mBB N % 16))), (4, .long (J 6 (mA N))), (2, .long (J 6 (mD N))), (1, .int (nI (4 * (N 8 0)))), (0, .ref (a 0))]) hx hb dX4_does_68 hl (by decide) rfl (fun ls hl => ?_)
  refine lv_aload_n hx hb dX4_does_70 rfl (lv_at hl 6 rfl) ?_
  refine mg_0 hx hb hts hi4 hown hK hP k9 dX4_does_71 ?_
  refine lv_iload_n hx hb dX4_does_74 rfl (lv_at hl 5 rfl) ?_
  refine ml_0 (v := mCode N) hx hb hK hP (by omega) rfl dX4_does_75 ?_
  refine lv_istore (lv' := [(11, .int (nI (mCode N))), (10, .int (nI (((N 8 0) + 1) % 256))), (8, .long (((nI (mBB N))).toInt64)), (6, .long (J 6 (mBB N % 16))), (4, .long (J 6 (mA N))), (2, .long (J 6 (mD N))), (1, .int (nI (4 * (N 8 0)))), (0, .ref (a 0))]) hx hb dX4_does_76 hl (by decide) rfl (fun ls hl => ?_)
  refine lv_lconst (v := 0) hx hb dX4_does_78 (by decide) ?_
  refine lv_lstore (lv' := [(12, .long (0)), (11, .int (nI (mCode N))), (10, .int (nI (((N 8 0) + 1) % 256))), (8, .long (((nI (mBB N))).toInt64)), (6, .long (J 6 (mBB N % 16))), (4, .long (J 6 (mA N))), (2, .long (J 6 (mD N))), (1, .int (nI (4 * (N 8 0)))), (0, .ref (a 0))]) hx hb dX4_does_79 hl (by decide) rfl (fun ls hl => ?_)
  refine w_joinH (X := Int64 × Nat) (dC := dC) (dI := dI) (A := aA (mL a) s.heap.size) (H0 := s.heap) (Wf := mF a cI cL cZ) (u := fun x390 => (N, J)) (P := fun x390 => x390.1 = mV N J ∧ x390.2 = mNx N J) (pj := 390) (nL := 14) (lv := fun x390 => [(0, .ref (a 0)), (12, .long (x390.1)), (10, .int (nI (x390.2)))]) (st := fun x390 => []) (fun jn_390 => ?_) (fun x390 ls H locs ex390 hl hP hD hS => ?_)
  · refine lv_iload hx hb dX4_does_81 (lv_at hl 1 rfl) ?_
    rcases (by omega : mCode N = 1 ∨ mCode N = 2 ∨ mCode N = 3 ∨ mCode N = 4 ∨ mCode N = 5 ∨ mCode N = 6 ∨ mCode N = 7 ∨ mCode N = 8 ∨ mCode N = 9 ∨ mCode N = 10 ∨ mCode N = 11 ∨ mCode N = 12 ∨ mCode N = 13 ∨ mCode N = 14 ∨ mCode N = 15 ∨ mCode N = 16 ∨ mCode N = 17 ∨ mCode N = 18) with h9 | h9 | h9 | h9 | h9 | h9 | h9 | h9 | h9 | h9 | h9 | h9 | h9 | h9 | h9 | h9 | h9 | h9
    · refine n_w (b := 1) (h9) ?_
      refine lv_tableIn (off := 73) (tgt := 156) hx hb dX4_does_83 (by decide) (by decide) (by decide) (by decide) ?_
      refine lv_lload hx hb dX4_does_156 (lv_at hl 5 rfl) ?_
      refine lv_lload hx hb dX4_does_158 (lv_at hl 4 rfl) ?_
      refine lv_ladd hx hb dX4_does_160 ?_
      refine lv_lstore (lv' := [(12, .long ((J 6 (mA N)) + (J 6 (mBB N % 16)))), (11, .int (nI (mCode N))), (10, .int (nI (((N 8 0) + 1) % 256))), (8, .long (((nI (mBB N))).toInt64)), (6, .long (J 6 (mBB N % 16))), (4, .long (J 6 (mA N))), (2, .long (J 6 (mD N))), (1, .int (nI (4 * (N 8 0)))), (0, .ref (a 0))]) hx hb dX4_does_161 hl (by decide) rfl (fun ls hl => ?_)
      refine lv_goto (tgt := 390) hx hb dX4_does_163 (by decide) ?_
      exact jn_390 ((J 6 (mA N)) + (J 6 (mBB N % 16)), ((N 8 0) + 1) % 256) ls _ _ (⟨by unfold mV opV; rw [h9]; rfl, by unfold mNx nxP; rw [h9]; rfl⟩) (lv_sub hl [8, 0, 2] rfl) hP hD hS
    · refine n_w (b := 2) (h9) ?_
      refine lv_tableIn (off := 83) (tgt := 166) hx hb dX4_does_83 (by decide) (by decide) (by decide) (by decide) ?_
      refine lv_lload hx hb dX4_does_166 (lv_at hl 5 rfl) ?_
      refine lv_lload hx hb dX4_does_168 (lv_at hl 4 rfl) ?_
      refine lv_lsub hx hb dX4_does_170 ?_
      refine lv_lstore (lv' := [(12, .long ((J 6 (mA N)) - (J 6 (mBB N % 16)))), (11, .int (nI (mCode N))), (10, .int (nI (((N 8 0) + 1) % 256))), (8, .long (((nI (mBB N))).toInt64)), (6, .long (J 6 (mBB N % 16))), (4, .long (J 6 (mA N))), (2, .long (J 6 (mD N))), (1, .int (nI (4 * (N 8 0)))), (0, .ref (a 0))]) hx hb dX4_does_171 hl (by decide) rfl (fun ls hl => ?_)
      refine lv_goto (tgt := 390) hx hb dX4_does_173 (by decide) ?_
      exact jn_390 ((J 6 (mA N)) - (J 6 (mBB N % 16)), ((N 8 0) + 1) % 256) ls _ _ (⟨by unfold mV opV; rw [h9]; rfl, by unfold mNx nxP; rw [h9]; rfl⟩) (lv_sub hl [8, 0, 2] rfl) hP hD hS
    · refine n_w (b := 3) (h9) ?_
      refine lv_tableIn (off := 93) (tgt := 176) hx hb dX4_does_83 (by decide) (by decide) (by decide) (by decide) ?_
      refine lv_lload hx hb dX4_does_176 (lv_at hl 5 rfl) ?_
      refine lv_lload hx hb dX4_does_178 (lv_at hl 4 rfl) ?_
      refine lv_land hx hb dX4_does_180 ?_
      refine lv_lstore (lv' := [(12, .long ((J 6 (mA N)) &&& (J 6 (mBB N % 16)))), (11, .int (nI (mCode N))), (10, .int (nI (((N 8 0) + 1) % 256))), (8, .long (((nI (mBB N))).toInt64)), (6, .long (J 6 (mBB N % 16))), (4, .long (J 6 (mA N))), (2, .long (J 6 (mD N))), (1, .int (nI (4 * (N 8 0)))), (0, .ref (a 0))]) hx hb dX4_does_181 hl (by decide) rfl (fun ls hl => ?_)
      refine lv_goto (tgt := 390) hx hb dX4_does_183 (by decide) ?_
      exact jn_390 ((J 6 (mA N)) &&& (J 6 (mBB N % 16)), ((N 8 0) + 1) % 256) ls _ _ (⟨by unfold mV opV; rw [h9]; rfl, by unfold mNx nxP; rw [h9]; rfl⟩) (lv_sub hl [8, 0, 2] rfl) hP hD hS
    · refine n_w (b := 4) (h9) ?_
      refine lv_tableIn (off := 103) (tgt := 186) hx hb dX4_does_83 (by decide) (by decide) (by decide) (by decide) ?_
      refine lv_lload hx hb dX4_does_186 (lv_at hl 5 rfl) ?_
      refine lv_lload hx hb dX4_does_188 (lv_at hl 4 rfl) ?_
      refine lv_lor hx hb dX4_does_190 ?_
      refine lv_lstore (lv' := [(12, .long ((J 6 (mA N)) ||| (J 6 (mBB N % 16)))), (11, .int (nI (mCode N))), (10, .int (nI (((N 8 0) + 1) % 256))), (8, .long (((nI (mBB N))).toInt64)), (6, .long (J 6 (mBB N % 16))), (4, .long (J 6 (mA N))), (2, .long (J 6 (mD N))), (1, .int (nI (4 * (N 8 0)))), (0, .ref (a 0))]) hx hb dX4_does_191 hl (by decide) rfl (fun ls hl => ?_)
      refine lv_goto (tgt := 390) hx hb dX4_does_193 (by decide) ?_
      exact jn_390 ((J 6 (mA N)) ||| (J 6 (mBB N % 16)), ((N 8 0) + 1) % 256) ls _ _ (⟨by unfold mV opV; rw [h9]; rfl, by unfold mNx nxP; rw [h9]; rfl⟩) (lv_sub hl [8, 0, 2] rfl) hP hD hS
    · refine n_w (b := 5) (h9) ?_
      refine lv_tableIn (off := 113) (tgt := 196) hx hb dX4_does_83 (by decide) (by decide) (by decide) (by decide) ?_
      refine lv_lload hx hb dX4_does_196 (lv_at hl 5 rfl) ?_
      refine lv_lload hx hb dX4_does_198 (lv_at hl 4 rfl) ?_
      refine lv_lxor hx hb dX4_does_200 ?_
      refine lv_lstore (lv' := [(12, .long ((J 6 (mA N)) ^^^ (J 6 (mBB N % 16)))), (11, .int (nI (mCode N))), (10, .int (nI (((N 8 0) + 1) % 256))), (8, .long (((nI (mBB N))).toInt64)), (6, .long (J 6 (mBB N % 16))), (4, .long (J 6 (mA N))), (2, .long (J 6 (mD N))), (1, .int (nI (4 * (N 8 0)))), (0, .ref (a 0))]) hx hb dX4_does_201 hl (by decide) rfl (fun ls hl => ?_)
      refine lv_goto (tgt := 390) hx hb dX4_does_203 (by decide) ?_
      exact jn_390 ((J 6 (mA N)) ^^^ (J 6 (mBB N % 16)), ((N 8 0) + 1) % 256) ls _ _ (⟨by unfold mV opV; rw [h9]; rfl, by unfold mNx nxP; rw [h9]; rfl⟩) (lv_sub hl [8, 0, 2] rfl) hP hD hS
    · refine n_w (b := 6) (h9) ?_
      refine lv_tableIn (off := 123) (tgt := 206) hx hb dX4_does_83 (by decide) (by decide) (by decide) (by decide) ?_
      refine lv_lload hx hb dX4_does_206 (lv_at hl 3 rfl) ?_
      refine lv_lstore (lv' := [(12, .long (((nI (mBB N))).toInt64)), (11, .int (nI (mCode N))), (10, .int (nI (((N 8 0) + 1) % 256))), (8, .long (((nI (mBB N))).toInt64)), (6, .long (J 6 (mBB N % 16))), (4, .long (J 6 (mA N))), (2, .long (J 6 (mD N))), (1, .int (nI (4 * (N 8 0)))), (0, .ref (a 0))]) hx hb dX4_does_208 hl (by decide) rfl (fun ls hl => ?_)
      refine lv_goto (tgt := 390) hx hb dX4_does_210 (by decide) ?_
      exact jn_390 (((nI (mBB N))).toInt64, ((N 8 0) + 1) % 256) ls _ _ (⟨by unfold mV opV; rw [h9]; rfl, by unfold mNx nxP; rw [h9]; rfl⟩) (lv_sub hl [8, 0, 2] rfl) hP hD hS
    · refine n_w (b := 7) (h9) ?_
      refine lv_tableIn (off := 130) (tgt := 213) hx hb dX4_does_83 (by decide) (by decide) (by decide) (by decide) ?_
      refine lv_lload hx hb dX4_does_213 (lv_at hl 5 rfl) ?_
      refine lv_lload hx hb dX4_does_215 (lv_at hl 3 rfl) ?_
      refine lv_ladd hx hb dX4_does_217 ?_
      refine lv_lstore (lv' := [(12, .long ((J 6 (mA N)) + (((nI (mBB N))).toInt64))), (11, .int (nI (mCode N))), (10, .int (nI (((N 8 0) + 1) % 256))), (8, .long (((nI (mBB N))).toInt64)), (6, .long (J 6 (mBB N % 16))), (4, .long (J 6 (mA N))), (2, .long (J 6 (mD N))), (1, .int (nI (4 * (N 8 0)))), (0, .ref (a 0))]) hx hb dX4_does_218 hl (by decide) rfl (fun ls hl => ?_)
      refine lv_goto (tgt := 390) hx hb dX4_does_220 (by decide) ?_
      exact jn_390 ((J 6 (mA N)) + (((nI (mBB N))).toInt64), ((N 8 0) + 1) % 256) ls _ _ (⟨by unfold mV opV; rw [h9]; rfl, by unfold mNx nxP; rw [h9]; rfl⟩) (lv_sub hl [8, 0, 2] rfl) hP hD hS
    · refine n_w (b := 8) (h9) ?_
      refine lv_tableIn (off := 140) (tgt := 223) hx hb dX4_does_83 (by decide) (by decide) (by decide) (by decide) ?_
      refine lv_lload hx hb dX4_does_223 (lv_at hl 5 rfl) ?_
      refine lv_lload hx hb dX4_does_225 (lv_at hl 4 rfl) ?_
      refine lv_ldc2 (v := 63) hx hb hown (hts (.constantLong RX4 129 (63)) (by decide +kernel)) dX4_does_227 ?_
      refine lv_land hx hb dX4_does_230 ?_
      refine lv_l2i (v := ((J 6 (mBB N % 16)) &&& 63).toInt32) hx hb dX4_does_231 rfl ?_
      refine lv_lshl (v := (J 6 (mA N)) <<< (Int32.toInt64 ((((J 6 (mBB N % 16)) &&& 63).toInt32)) &&& 63)) hx hb dX4_does_232 rfl ?_
      refine lv_lstore (lv' := [(12, .long ((J 6 (mA N)) <<< (Int32.toInt64 ((((J 6 (mBB N % 16)) &&& 63).toInt32)) &&& 63))), (11, .int (nI (mCode N))), (10, .int (nI (((N 8 0) + 1) % 256))), (8, .long (((nI (mBB N))).toInt64)), (6, .long (J 6 (mBB N % 16))), (4, .long (J 6 (mA N))), (2, .long (J 6 (mD N))), (1, .int (nI (4 * (N 8 0)))), (0, .ref (a 0))]) hx hb dX4_does_233 hl (by decide) rfl (fun ls hl => ?_)
      refine lv_goto (tgt := 390) hx hb dX4_does_235 (by decide) ?_
      exact jn_390 ((J 6 (mA N)) <<< (Int32.toInt64 ((((J 6 (mBB N % 16)) &&& 63).toInt32)) &&& 63), ((N 8 0) + 1) % 256) ls _ _ (⟨by unfold mV opV; rw [h9]; rfl, by unfold mNx nxP; rw [h9]; rfl⟩) (lv_sub hl [8, 0, 2] rfl) hP hD hS
    · refine n_w (b := 9) (h9) ?_
      refine lv_tableIn (off := 155) (tgt := 238) hx hb dX4_does_83 (by decide) (by decide) (by decide) (by decide) ?_
      refine lv_lload hx hb dX4_does_238 (lv_at hl 5 rfl) ?_
      refine lv_lload hx hb dX4_does_240 (lv_at hl 4 rfl) ?_
      refine lv_ldc2 (v := 63) hx hb hown (hts (.constantLong RX4 129 (63)) (by decide +kernel)) dX4_does_242 ?_
      refine lv_land hx hb dX4_does_245 ?_
      refine lv_l2i (v := ((J 6 (mBB N % 16)) &&& 63).toInt32) hx hb dX4_does_246 rfl ?_
      refine lv_lshr (v := (J 6 (mA N)) >>> (Int32.toInt64 ((((J 6 (mBB N % 16)) &&& 63).toInt32)) &&& 63)) hx hb dX4_does_247 rfl ?_
      refine lv_lstore (lv' := [(12, .long ((J 6 (mA N)) >>> (Int32.toInt64 ((((J 6 (mBB N % 16)) &&& 63).toInt32)) &&& 63))), (11, .int (nI (mCode N))), (10, .int (nI (((N 8 0) + 1) % 256))), (8, .long (((nI (mBB N))).toInt64)), (6, .long (J 6 (mBB N % 16))), (4, .long (J 6 (mA N))), (2, .long (J 6 (mD N))), (1, .int (nI (4 * (N 8 0)))), (0, .ref (a 0))]) hx hb dX4_does_248 hl (by decide) rfl (fun ls hl => ?_)
      refine lv_goto (tgt := 390) hx hb dX4_does_250 (by decide) ?_
      exact jn_390 ((J 6 (mA N)) >>> (Int32.toInt64 ((((J 6 (mBB N % 16)) &&& 63).toInt32)) &&& 63), ((N 8 0) + 1) % 256) ls _ _ (⟨by unfold mV opV; rw [h9]; rfl, by unfold mNx nxP; rw [h9]; rfl⟩) (lv_sub hl [8, 0, 2] rfl) hP hD hS
    · refine n_w (b := 10) (h9) ?_
      refine lv_tableIn (off := 170) (tgt := 253) hx hb dX4_does_83 (by decide) (by decide) (by decide) (by decide) ?_
      refine lv_lload hx hb dX4_does_253 (lv_at hl 5 rfl) ?_
      refine lv_lload hx hb dX4_does_255 (lv_at hl 4 rfl) ?_
      refine lv_ldc2 (v := 63) hx hb hown (hts (.constantLong RX4 129 (63)) (by decide +kernel)) dX4_does_257 ?_
      refine lv_land hx hb dX4_does_260 ?_
      refine lv_l2i (v := ((J 6 (mBB N % 16)) &&& 63).toInt32) hx hb dX4_does_261 rfl ?_
      refine lv_lushr (v := (Int64.toUInt64 (J 6 (mA N)) >>> ((Int32.toInt64 ((((J 6 (mBB N % 16)) &&& 63).toInt32))).toUInt64 &&& Int64.toUInt64 63)).toInt64) hx hb dX4_does_262 rfl ?_
      refine lv_lstore (lv' := [(12, .long ((Int64.toUInt64 (J 6 (mA N)) >>> ((Int32.toInt64 ((((J 6 (mBB N % 16)) &&& 63).toInt32))).toUInt64 &&& Int64.toUInt64 63)).toInt64)), (11, .int (nI (mCode N))), (10, .int (nI (((N 8 0) + 1) % 256))), (8, .long (((nI (mBB N))).toInt64)), (6, .long (J 6 (mBB N % 16))), (4, .long (J 6 (mA N))), (2, .long (J 6 (mD N))), (1, .int (nI (4 * (N 8 0)))), (0, .ref (a 0))]) hx hb dX4_does_263 hl (by decide) rfl (fun ls hl => ?_)
      refine lv_goto (tgt := 390) hx hb dX4_does_265 (by decide) ?_
      exact jn_390 ((Int64.toUInt64 (J 6 (mA N)) >>> ((Int32.toInt64 ((((J 6 (mBB N % 16)) &&& 63).toInt32))).toUInt64 &&& Int64.toUInt64 63)).toInt64, ((N 8 0) + 1) % 256) ls _ _ (⟨by unfold mV opV; rw [h9]; rfl, by unfold mNx nxP; rw [h9]; rfl⟩) (lv_sub hl [8, 0, 2] rfl) hP hD hS
    · refine n_w (b := 11) (h9) ?_
      refine lv_tableIn (off := 185) (tgt := 268) hx hb dX4_does_83 (by decide) (by decide) (by decide) (by decide) ?_
      refine lv_lload hx hb dX4_does_268 (lv_at hl 5 rfl) ?_
      refine lv_lload hx hb dX4_does_270 (lv_at hl 4 rfl) ?_
      refine lv_lmul hx hb dX4_does_272 ?_
      refine lv_lstore (lv' := [(12, .long ((J 6 (mA N)) * (J 6 (mBB N % 16)))), (11, .int (nI (mCode N))), (10, .int (nI (((N 8 0) + 1) % 256))), (8, .long (((nI (mBB N))).toInt64)), (6, .long (J 6 (mBB N % 16))), (4, .long (J 6 (mA N))), (2, .long (J 6 (mD N))), (1, .int (nI (4 * (N 8 0)))), (0, .ref (a 0))]) hx hb dX4_does_273 hl (by decide) rfl (fun ls hl => ?_)
      refine lv_goto (tgt := 390) hx hb dX4_does_275 (by decide) ?_
      exact jn_390 ((J 6 (mA N)) * (J 6 (mBB N % 16)), ((N 8 0) + 1) % 256) ls _ _ (⟨by unfold mV opV; rw [h9]; rfl, by unfold mNx nxP; rw [h9]; rfl⟩) (lv_sub hl [8, 0, 2] rfl) hP hD hS
    · refine n_w (b := 12) (h9) ?_
      refine lv_tableIn (off := 195) (tgt := 278) hx hb dX4_does_83 (by decide) (by decide) (by decide) (by decide) ?_
      refine lv_lload hx hb dX4_does_278 (lv_at hl 4 rfl) ?_
      refine lv_lconst (v := 0) hx hb dX4_does_280 (by decide) ?_
      refine W.lcmp hx hb dX4_does_281 ?_
      refine lv_if_ne (tgt := 289) hx hb dX4_does_282 (by decide) (fun c_282 => ?_) (fun c_282 => ?_)
      · refine lv_lload hx hb dX4_does_289 (lv_at hl 5 rfl) ?_
        refine lv_lload hx hb dX4_does_291 (lv_at hl 4 rfl) ?_
        refine lv_ldiv hx hb dX4_does_293 (fun z => c_282 ((lg_cmp_eq _ _).mpr z)) ?_
        refine lv_lstore (lv' := [(12, .long ((J 6 (mA N)) / (J 6 (mBB N % 16)))), (11, .int (nI (mCode N))), (10, .int (nI (((N 8 0) + 1) % 256))), (8, .long (((nI (mBB N))).toInt64)), (6, .long (J 6 (mBB N % 16))), (4, .long (J 6 (mA N))), (2, .long (J 6 (mD N))), (1, .int (nI (4 * (N 8 0)))), (0, .ref (a 0))]) hx hb dX4_does_294 hl (by decide) rfl (fun ls hl => ?_)
        refine lv_goto (tgt := 390) hx hb dX4_does_296 (by decide) ?_
        exact jn_390 ((J 6 (mA N)) / (J 6 (mBB N % 16)), ((N 8 0) + 1) % 256) ls _ _ (⟨by unfold mV opV; rw [h9]; simp [show ¬ J 6 (mBB N % 16) = 0 from fun z => c_282 ((lg_cmp_eq _ _).mpr z)], by unfold mNx nxP; rw [h9]; rfl⟩) (lv_sub hl [8, 0, 2] rfl) hP hD hS
      · refine lv_lconst (v := 0) hx hb dX4_does_285 (by decide) ?_
        refine lv_goto (tgt := 294) hx hb dX4_does_286 (by decide) ?_
        refine lv_lstore (lv' := [(12, .long (0)), (11, .int (nI (mCode N))), (10, .int (nI (((N 8 0) + 1) % 256))), (8, .long (((nI (mBB N))).toInt64)), (6, .long (J 6 (mBB N % 16))), (4, .long (J 6 (mA N))), (2, .long (J 6 (mD N))), (1, .int (nI (4 * (N 8 0)))), (0, .ref (a 0))]) hx hb dX4_does_294 hl (by decide) rfl (fun ls hl => ?_)
        refine lv_goto (tgt := 390) hx hb dX4_does_296 (by decide) ?_
        exact jn_390 (0, ((N 8 0) + 1) % 256) ls _ _ (⟨by unfold mV opV; rw [h9]; simp [(lg_cmp_eq _ _).mp c_282], by unfold mNx nxP; rw [h9]; rfl⟩) (lv_sub hl [8, 0, 2] rfl) hP hD hS
    · refine n_w (b := 13) (h9) ?_
      refine lv_tableIn (off := 216) (tgt := 299) hx hb dX4_does_83 (by decide) (by decide) (by decide) (by decide) ?_
      refine lv_lload hx hb dX4_does_299 (lv_at hl 4 rfl) ?_
      refine lv_lconst (v := 0) hx hb dX4_does_301 (by decide) ?_
      refine W.lcmp hx hb dX4_does_302 ?_
      refine lv_if_ne (tgt := 310) hx hb dX4_does_303 (by decide) (fun c_303 => ?_) (fun c_303 => ?_)
      · refine lv_lload hx hb dX4_does_310 (lv_at hl 5 rfl) ?_
        refine lv_lload hx hb dX4_does_312 (lv_at hl 4 rfl) ?_
        refine lv_lrem hx hb dX4_does_314 (fun z => c_303 ((lg_cmp_eq _ _).mpr z)) ?_
        refine lv_lstore (lv' := [(12, .long ((J 6 (mA N)) - (J 6 (mA N)) / (J 6 (mBB N % 16)) * (J 6 (mBB N % 16)))), (11, .int (nI (mCode N))), (10, .int (nI (((N 8 0) + 1) % 256))), (8, .long (((nI (mBB N))).toInt64)), (6, .long (J 6 (mBB N % 16))), (4, .long (J 6 (mA N))), (2, .long (J 6 (mD N))), (1, .int (nI (4 * (N 8 0)))), (0, .ref (a 0))]) hx hb dX4_does_315 hl (by decide) rfl (fun ls hl => ?_)
        refine lv_goto (tgt := 390) hx hb dX4_does_317 (by decide) ?_
        exact jn_390 ((J 6 (mA N)) - (J 6 (mA N)) / (J 6 (mBB N % 16)) * (J 6 (mBB N % 16)), ((N 8 0) + 1) % 256) ls _ _ (⟨by unfold mV opV; rw [h9]; simp [show ¬ J 6 (mBB N % 16) = 0 from fun z => c_303 ((lg_cmp_eq _ _).mpr z)], by unfold mNx nxP; rw [h9]; rfl⟩) (lv_sub hl [8, 0, 2] rfl) hP hD hS
      · refine lv_lconst (v := 0) hx hb dX4_does_306 (by decide) ?_
        refine lv_goto (tgt := 315) hx hb dX4_does_307 (by decide) ?_
        refine lv_lstore (lv' := [(12, .long (0)), (11, .int (nI (mCode N))), (10, .int (nI (((N 8 0) + 1) % 256))), (8, .long (((nI (mBB N))).toInt64)), (6, .long (J 6 (mBB N % 16))), (4, .long (J 6 (mA N))), (2, .long (J 6 (mD N))), (1, .int (nI (4 * (N 8 0)))), (0, .ref (a 0))]) hx hb dX4_does_315 hl (by decide) rfl (fun ls hl => ?_)
        refine lv_goto (tgt := 390) hx hb dX4_does_317 (by decide) ?_
        exact jn_390 (0, ((N 8 0) + 1) % 256) ls _ _ (⟨by unfold mV opV; rw [h9]; simp [(lg_cmp_eq _ _).mp c_303], by unfold mNx nxP; rw [h9]; rfl⟩) (lv_sub hl [8, 0, 2] rfl) hP hD hS
    · refine n_w (b := 14) (h9) ?_
      refine lv_tableIn (off := 237) (tgt := 320) hx hb dX4_does_83 (by decide) (by decide) (by decide) (by decide) ?_
      refine lv_aload_n hx hb dX4_does_320 rfl (lv_at hl 8 rfl) ?_
      refine mg_7 hx hb hts hi4 hown hK hP k29 dX4_does_321 ?_
      refine lv_lload hx hb dX4_does_324 (lv_at hl 5 rfl) ?_
      refine lv_lload hx hb dX4_does_326 (lv_at hl 3 rfl) ?_
      refine lv_ladd hx hb dX4_does_328 ?_
      refine lv_ldc2 (v := 255) hx hb hown (hts (.constantLong RX4 131 (255)) (by decide +kernel)) dX4_does_329 ?_
      refine lv_land hx hb dX4_does_332 ?_
      refine lv_l2i (v := nI (clN (J 6 (mA N) + (nI (mBB N)).toInt64))) hx hb dX4_does_333 (clN_eq _) ?_
      refine ml_7 (v := J 7 (clN (J 6 (mA N) + (nI (mBB N)).toInt64))) hx hb hK hP (clN_lt _) rfl dX4_does_334 ?_
      refine lv_lstore (lv' := [(12, .long (J 7 (clN (J 6 (mA N) + (nI (mBB N)).toInt64)))), (11, .int (nI (mCode N))), (10, .int (nI (((N 8 0) + 1) % 256))), (8, .long (((nI (mBB N))).toInt64)), (6, .long (J 6 (mBB N % 16))), (4, .long (J 6 (mA N))), (2, .long (J 6 (mD N))), (1, .int (nI (4 * (N 8 0)))), (0, .ref (a 0))]) hx hb dX4_does_335 hl (by decide) rfl (fun ls hl => ?_)
      refine lv_goto (tgt := 390) hx hb dX4_does_337 (by decide) ?_
      exact jn_390 (J 7 (clN (J 6 (mA N) + (nI (mBB N)).toInt64)), ((N 8 0) + 1) % 256) ls _ _ (⟨by unfold mV opV; rw [h9]; rfl, by unfold mNx nxP; rw [h9]; rfl⟩) (lv_sub hl [8, 0, 2] rfl) hP hD hS
    · refine n_w (b := 15) (h9) ?_
      refine lv_tableIn (off := 257) (tgt := 340) hx hb dX4_does_83 (by decide) (by decide) (by decide) (by decide) ?_
      refine lv_lload_n hx hb dX4_does_340 rfl (lv_at hl 6 rfl) ?_
      refine lv_lstore (lv' := [(12, .long (J 6 (mD N))), (11, .int (nI (mCode N))), (10, .int (nI (((N 8 0) + 1) % 256))), (8, .long (((nI (mBB N))).toInt64)), (6, .long (J 6 (mBB N % 16))), (4, .long (J 6 (mA N))), (2, .long (J 6 (mD N))), (1, .int (nI (4 * (N 8 0)))), (0, .ref (a 0))]) hx hb dX4_does_341 hl (by decide) rfl (fun ls hl => ?_)
      refine lv_goto (tgt := 390) hx hb dX4_does_343 (by decide) ?_
      exact jn_390 (J 6 (mD N), ((N 8 0) + 1) % 256) ls _ _ (⟨by unfold mV opV; rw [h9]; rfl, by unfold mNx nxP; rw [h9]; rfl⟩) (lv_sub hl [8, 0, 2] rfl) hP hD hS
    · refine n_w (b := 16) (h9) ?_
      refine lv_tableOut (tgt := 346) hx hb dX4_does_83 (by decide) (by decide) ?_
      refine lv_iload hx hb dX4_does_346 (lv_at hl 1 rfl) ?_
      refine lv_bipush (v := nI 18) hx hb dX4_does_348 (by decide) ?_
      refine n_icmp_eq (tgt := 381) hx hb (by omega) (by omega) dX4_does_350 (by decide) (fun c_350 => absurd c_350 (by omega)) (fun c_350 => ?_)
      refine lv_iload hx hb dX4_does_353 (lv_at hl 1 rfl) ?_
      refine lv_bipush (v := nI 16) hx hb dX4_does_355 (by decide) ?_
      refine n_icmp_ne (tgt := 367) hx hb (by omega) (by omega) dX4_does_357 (by decide) (fun c_357 => absurd c_357 (by omega)) (fun c_357 => ?_)
      refine lv_lload hx hb dX4_does_360 (lv_at hl 5 rfl) ?_
      refine lv_lconst (v := 0) hx hb dX4_does_362 (by decide) ?_
      refine W.lcmp hx hb dX4_does_363 ?_
      refine lv_if_eq (tgt := 381) hx hb dX4_does_364 (by decide) (fun c_364 => ?_) (fun c_364 => ?_)
      · refine lv_lload hx hb dX4_does_381 (lv_at hl 3 rfl) ?_
        refine lv_ldc2 (v := 255) hx hb hown (hts (.constantLong RX4 131 (255)) (by decide +kernel)) dX4_does_383 ?_
        refine lv_land hx hb dX4_does_386 ?_
        refine lv_l2i (v := nI (mBB N % 256)) hx hb dX4_does_387 (cl_int hp0.2.2.2) ?_
        refine lv_istore (lv' := [(10, .int (nI (mBB N % 256))), (12, .long (0)), (11, .int (nI (mCode N))), (8, .long (((nI (mBB N))).toInt64)), (6, .long (J 6 (mBB N % 16))), (4, .long (J 6 (mA N))), (2, .long (J 6 (mD N))), (1, .int (nI (4 * (N 8 0)))), (0, .ref (a 0))]) hx hb dX4_does_388 hl (by decide) rfl (fun ls hl => ?_)
        exact jn_390 (0, mBB N % 256) ls _ _ (⟨by unfold mV opV; rw [h9]; rfl, by unfold mNx nxP; rw [h9]; simp [(lg_cmp_eq _ _).mp c_364]⟩) (lv_sub hl [8, 1, 0] rfl) hP hD hS
      · refine lv_iload hx hb dX4_does_367 (lv_at hl 1 rfl) ?_
        refine lv_bipush (v := nI 17) hx hb dX4_does_369 (by decide) ?_
        refine n_icmp_ne (tgt := 390) hx hb (by omega) (by omega) dX4_does_371 (by decide) (fun c_371 => ?_) (fun c_371 => absurd c_371 (by omega))
        exact jn_390 (0, ((N 8 0) + 1) % 256) ls _ _ (⟨by unfold mV opV; rw [h9]; rfl, by unfold mNx nxP; rw [h9]; simp [show ¬ J 6 (mA N) = 0 from fun z => c_364 ((lg_cmp_eq _ _).mpr z)]⟩) (lv_sub hl [8, 0, 2] rfl) hP hD hS
    · refine n_w (b := 17) (h9) ?_
      refine lv_tableOut (tgt := 346) hx hb dX4_does_83 (by decide) (by decide) ?_
      refine lv_iload hx hb dX4_does_346 (lv_at hl 1 rfl) ?_
      refine lv_bipush (v := nI 18) hx hb dX4_does_348 (by decide) ?_
      refine n_icmp_eq (tgt := 381) hx hb (by omega) (by omega) dX4_does_350 (by decide) (fun c_350 => absurd c_350 (by omega)) (fun c_350 => ?_)
      refine lv_iload hx hb dX4_does_353 (lv_at hl 1 rfl) ?_
      refine lv_bipush (v := nI 16) hx hb dX4_does_355 (by decide) ?_
      refine n_icmp_ne (tgt := 367) hx hb (by omega) (by omega) dX4_does_357 (by decide) (fun c_357 => ?_) (fun c_357 => absurd c_357 (by omega))
      refine lv_iload hx hb dX4_does_367 (lv_at hl 1 rfl) ?_
      refine lv_bipush (v := nI 17) hx hb dX4_does_369 (by decide) ?_
      refine n_icmp_ne (tgt := 390) hx hb (by omega) (by omega) dX4_does_371 (by decide) (fun c_371 => absurd c_371 (by omega)) (fun c_371 => ?_)
      refine lv_lload hx hb dX4_does_374 (lv_at hl 5 rfl) ?_
      refine lv_lconst (v := 0) hx hb dX4_does_376 (by decide) ?_
      refine W.lcmp hx hb dX4_does_377 ?_
      refine lv_if_ge (tgt := 390) hx hb dX4_does_378 (by decide) (fun c_378 => ?_) (fun c_378 => ?_)
      · exact jn_390 (0, ((N 8 0) + 1) % 256) ls _ _ (⟨by unfold mV opV; rw [h9]; rfl, by unfold mNx nxP; rw [h9]; simp [show ¬ (J 6 (mA N)) < 0 from fun z => absurd ((lg_cmp_lt _ _).mpr z) (Int32.not_lt.mpr c_378)]⟩) (lv_sub hl [8, 0, 2] rfl) hP hD hS
      · refine lv_lload hx hb dX4_does_381 (lv_at hl 3 rfl) ?_
        refine lv_ldc2 (v := 255) hx hb hown (hts (.constantLong RX4 131 (255)) (by decide +kernel)) dX4_does_383 ?_
        refine lv_land hx hb dX4_does_386 ?_
        refine lv_l2i (v := nI (mBB N % 256)) hx hb dX4_does_387 (cl_int hp0.2.2.2) ?_
        refine lv_istore (lv' := [(10, .int (nI (mBB N % 256))), (12, .long (0)), (11, .int (nI (mCode N))), (8, .long (((nI (mBB N))).toInt64)), (6, .long (J 6 (mBB N % 16))), (4, .long (J 6 (mA N))), (2, .long (J 6 (mD N))), (1, .int (nI (4 * (N 8 0)))), (0, .ref (a 0))]) hx hb dX4_does_388 hl (by decide) rfl (fun ls hl => ?_)
        exact jn_390 (0, mBB N % 256) ls _ _ (⟨by unfold mV opV; rw [h9]; rfl, by unfold mNx nxP; rw [h9]; simp [show (J 6 (mA N)) < 0 from (lg_cmp_lt _ _).mp (Int32.not_le.mp c_378)]⟩) (lv_sub hl [8, 1, 0] rfl) hP hD hS
    · refine n_w (b := 18) (h9) ?_
      refine lv_tableOut (tgt := 346) hx hb dX4_does_83 (by decide) (by decide) ?_
      refine lv_iload hx hb dX4_does_346 (lv_at hl 1 rfl) ?_
      refine lv_bipush (v := nI 18) hx hb dX4_does_348 (by decide) ?_
      refine n_icmp_eq (tgt := 381) hx hb (by omega) (by omega) dX4_does_350 (by decide) (fun c_350 => ?_) (fun c_350 => absurd c_350 (by omega))
      refine lv_lload hx hb dX4_does_381 (lv_at hl 3 rfl) ?_
      refine lv_ldc2 (v := 255) hx hb hown (hts (.constantLong RX4 131 (255)) (by decide +kernel)) dX4_does_383 ?_
      refine lv_land hx hb dX4_does_386 ?_
      refine lv_l2i (v := nI (mBB N % 256)) hx hb dX4_does_387 (cl_int hp0.2.2.2) ?_
      refine lv_istore (lv' := [(10, .int (nI (mBB N % 256))), (12, .long (0)), (11, .int (nI (mCode N))), (8, .long (((nI (mBB N))).toInt64)), (6, .long (J 6 (mBB N % 16))), (4, .long (J 6 (mA N))), (2, .long (J 6 (mD N))), (1, .int (nI (4 * (N 8 0)))), (0, .ref (a 0))]) hx hb dX4_does_388 hl (by decide) rfl (fun ls hl => ?_)
      exact jn_390 (0, mBB N % 256) ls _ _ (⟨by unfold mV opV; rw [h9]; rfl, by unfold mNx nxP; rw [h9]; rfl⟩) (lv_sub hl [8, 1, 0] rfl) hP hD hS
  · have ex390 : x390.1 = mV N J ∧ x390.2 = mNx N J := ex390
    have hl : lv_has ls 14 [(0, .ref (a 0)), (12, .long (x390.1)), (10, .int (nI (x390.2)))] := hl
    have hP : va_P (dC, dI) vwCl (mW a cI cL cZ N J) H := hP
    have hD : va_D (aA (mL a) s.heap.size) (mW a cI cL cZ N J) := hD
    refine lv_aload_n hx hb dX4_does_390 rfl (lv_at hl 0 rfl) ?_
    refine lv_iload hx hb dX4_does_391 (lv_at hl 2 rfl) ?_
    refine mp_8 hx hb hts hi4 hown hK hP hD hS k86 dX4_does_393 (fun H locs hP hD hS => ?_)
    refine lv_lload hx hb dX4_does_396 (lv_at hl 1 rfl) ?_
    exact g_retl hx hb hr hlocks ((uN N 8 (0) (x390.2)), J) (⟨ex390.1, by rw [ex390.2]⟩) hP hS dX4_does_398
