def cnX (N : Nat → Nat → Nat) : Nat → Nat
  | 0 => 0
  | n + 1 => cnX N n + (if N 22 0 < N 36 (6 * n + 5) then 1 else 0)
set_option maxHeartbeats 4000000 in
set_option maxRecDepth 100000 in
theorem tB_notWritten (l : Launch) (dC : Nat → ClassId) (dI : Nat → Nat → Nat) (a : Nat → Nat) (cI cL cZ : ClassId) (N : Nat → Nat → Nat) (J : Nat → Nat → Int64)  (hc : N 22 0 < 2147483648) (hw2 : ∀ k, k < 18 → N 36 (6 * k + 5) < 2147483648) : MetI l yX0_notWritten wsX0_notWritten ({ frames := 0, cells := 0, slots := 0, locals := 0 } : Room) dC dI (gT cI cL cZ) (xF a cI cL cZ) (xL a) (N, J) [.ref (a 3)] (fun r u => r = nI (cnX N 18) ∧ u = (N, J)) := by
  intro sz
  refine g_entry (bytes := cX0_notWritten) (maxL := 3) (ret := (some .int)) (Qc := fun sz => va_Qi (fun r u => r = nI (cnX N 18) ∧ u = (N, J)) (gB dC dI (xF a cI cL cZ)) (aA (xL a) sz)) (by decide) rfl (Nat.le_of_ble_eq_true rfl) rfl ?_
  intro p e s m below meth c ls hx hb hr hml hts hown hlocks hK hP hD hS hZ hl
  have hP : va_P (dC, dI) vwCl (xW a cI cL cZ N J) s.heap := hP
  have hD : va_D (aA (xL a) s.heap.size) (xW a cI cL cZ N J) := hD
  have hown : s.vm.findClass RX0 = some m.cls := hown
  have hl : lv_has ls 3 [(0, .ref (a 3))] := hl
  have hi0 : ∀ w ∈ wsX00, w ∈ wsX0_notWritten := by decide +kernel
  have k31 := hts (.fieldLink RX0 31 "ScoreMachine$Board" "unitRows" "[I") (by decide +kernel)
  have k45 := hts (.fieldLink RX0 45 "ScoreMachine$Board" "cycle" "I") (by decide +kernel)
  refine lv_iconst (v := nI 0) hx hb dX0_notWritten_0 (by decide) ?_
  refine lv_istore_n (lv' := [(1, .int (nI (0))), (0, .ref (a 3))]) hx hb dX0_notWritten_1 rfl hl (by decide) rfl (fun ls hl => ?_)
  refine lv_iconst (v := nI 5) hx hb dX0_notWritten_2 (by decide) ?_
  refine lv_istore_n (lv' := [(2, .int (nI (5))), (1, .int (nI (0))), (0, .ref (a 3))]) hx hb dX0_notWritten_3 rfl hl (by decide) rfl (fun ls hl => ?_)
  refine w_loop (X := Nat) (μ := fun x4 => 18 - x4) (P := fun x4 => x4 ≤ 18) (pj := 4) (nL := 3) (lv := fun x4 => [(0, .ref (a 3)), (1, .int (nI (cnX N x4))), (2, .int (nI (6 * x4 + 5)))]) (st := fun x4 => []) (fun x4 ls ex4 hl jn_4 => ?_) 0 ls (by omega) (lv_sub hl [2, 1, 0] rfl)
  have ex4 : x4 ≤ 18 := ex4
  have hl : lv_has ls 3 [(0, .ref (a 3)), (1, .int (nI (cnX N x4))), (2, .int (nI (6 * x4 + 5)))] := hl
  refine lv_iload_n hx hb dX0_notWritten_4 rfl (lv_at hl 2 rfl) ?_
  refine lv_aload_n hx hb dX0_notWritten_5 rfl (lv_at hl 0 rfl) ?_
  refine xg_36 hx hb hts hi0 hown hK hP k31 dX0_notWritten_6 ?_
  refine va_alen (v := nI 108) hx hb hK hP 20 0 rfl rfl rfl dX0_notWritten_9 ?_
  refine n_icmp_ge (tgt := 35) hx hb (by omega) (by omega) dX0_notWritten_10 (by decide) (fun c_10 => ?_) (fun c_10 => ?_)
  · have e18 : x4 = 18 := by omega
    subst e18
    refine lv_iload_n hx hb dX0_notWritten_35 rfl (lv_at hl 1 rfl) ?_
    exact g_reti hx hb hr hlocks (N, J) (⟨rfl, rfl⟩) hP hS dX0_notWritten_36
  · refine lv_aload_n hx hb dX0_notWritten_13 rfl (lv_at hl 0 rfl) ?_
    refine xg_36 hx hb hts hi0 hown hK hP k31 dX0_notWritten_14 ?_
    refine lv_iload_n hx hb dX0_notWritten_17 rfl (lv_at hl 2 rfl) ?_
    refine xl_36 (v := N 36 (6 * x4 + 5)) hx hb hK hP (by omega) rfl dX0_notWritten_18 ?_
    refine lv_aload_n hx hb dX0_notWritten_19 rfl (lv_at hl 0 rfl) ?_
    refine xg_22 (v := N 22 0) hx hb hts hi0 hown hK hP k45 rfl dX0_notWritten_20 ?_
    refine n_icmp_le (tgt := 29) hx hb (hw2 x4 (by omega)) (by omega) dX0_notWritten_23 (by decide) (fun c_23 => ?_) (fun c_23 => ?_)
    · refine lv_iinc (v := nI (6 * (x4 + 1) + 5)) (lv' := [(2, .int (nI (6 * (x4 + 1) + 5))), (0, .ref (a 3)), (1, .int (nI (cnX N x4)))]) hx hb dX0_notWritten_29 hl (k := 2) rfl (by show nI (6 * x4 + 5) + nI 6 = _; rw [nI_add]; exact congrArg nI (by omega)) (by decide) rfl (fun ls hl => ?_)
      refine lv_goto (tgt := 4) hx hb dX0_notWritten_32 (by decide) ?_
      rw [show cnX N x4  = cnX N (x4 + 1) from (by show _ = cnX N x4 + (if N 22 0 < N 36 (6 * x4 + 5) then 1 else 0); rw [if_neg (by omega), Nat.add_zero])] at hl
      exact jn_4 (x4 + 1) ls (by omega) (by omega) (lv_sub hl [1, 2, 0] rfl)
    · refine lv_iinc (v := nI (cnX N x4 + 1)) (lv' := [(1, .int (nI (cnX N x4 + 1))), (0, .ref (a 3)), (2, .int (nI (6 * x4 + 5)))]) hx hb dX0_notWritten_26 hl (k := 1) rfl (nI_1 _) (by decide) rfl (fun ls hl => ?_)
      refine lv_iinc (v := nI (6 * (x4 + 1) + 5)) (lv' := [(2, .int (nI (6 * (x4 + 1) + 5))), (1, .int (nI (cnX N x4 + 1))), (0, .ref (a 3))]) hx hb dX0_notWritten_29 hl (k := 2) rfl (by show nI (6 * x4 + 5) + nI 6 = _; rw [nI_add]; exact congrArg nI (by omega)) (by decide) rfl (fun ls hl => ?_)
      refine lv_goto (tgt := 4) hx hb dX0_notWritten_32 (by decide) ?_
      rw [show cnX N x4 + 1 = cnX N (x4 + 1) from (by show _ = cnX N x4 + (if N 22 0 < N 36 (6 * x4 + 5) then 1 else 0); rw [if_pos (by omega)])] at hl
      exact jn_4 (x4 + 1) ls (by omega) (by omega) (lv_sub hl [2, 1, 0] rfl)
set_option maxHeartbeats 4000000 in
set_option maxRecDepth 100000 in
theorem tF_x_25 (l : Launch) (dC : Nat → ClassId) (dI : Nat → Nat → Nat) (a : Nat → Nat) (cI cL cZ : ClassId) (N : Nat → Nat → Nat) (J : Nat → Nat → Int64) (v : Nat)  : MetV l yJ7_fill_53178 wsJ7_fill_53178 ({ frames := 0, cells := 0, slots := 0, locals := 0 } : Room) dC dI (gT cI cL cZ) (xF a cI cL cZ) (xL a) (N, J) [.ref (a 14), .int (nI (v))] (fun u => u = (flN N 25 4 v, J)) := by
  intro sz
  refine g_entry (bytes := cJ7_fill_53178) (maxL := 4) (ret := none) (Qc := fun sz => va_Qv (fun u => u = (flN N 25 4 v, J)) (gB dC dI (xF a cI cL cZ)) (aA (xL a) sz)) (by decide) rfl (Nat.le_of_ble_eq_true rfl) rfl ?_
  intro p e s m below meth c ls hx hb hr hml hts hown hlocks hK hP hD hS hZ hl
  have hP : va_P (dC, dI) vwCl (xW a cI cL cZ N J) s.heap := hP
  have hD : va_D (aA (xL a) s.heap.size) (xW a cI cL cZ N J) := hD
  have hown : s.vm.findClass RJ7 = some m.cls := hown
  have hl : lv_has ls 4 [(0, .ref (a 14)), (1, .int (nI (v)))] := hl
  have hP : va_P (dC, dI) vwCl (xW a cI cL cZ (flN N 25 0 v) J) s.heap := by rw [flN_0]; exact hP
  have hD : va_D (aA (xL a) s.heap.size) (xW a cI cL cZ (flN N 25 0 v) J) := by rw [flN_0]; exact hD
  refine lv_iconst (v := nI 0) hx hb dJ7_fill_53178_0 (by decide) ?_
  refine lv_istore_n (lv' := [(2, .int (nI (0))), (0, .ref (a 14)), (1, .int (nI (v)))]) hx hb dJ7_fill_53178_1 rfl hl (by decide) rfl (fun ls hl => ?_)
  refine lv_aload_n hx hb dJ7_fill_53178_2 rfl (lv_at hl 1 rfl) ?_
  refine va_alen (v := nI 4) hx hb hK hP 14 0 rfl rfl rfl dJ7_fill_53178_3 ?_
  refine lv_istore_n (lv' := [(3, .int (nI (4))), (2, .int (nI (0))), (0, .ref (a 14)), (1, .int (nI (v)))]) hx hb dJ7_fill_53178_4 rfl hl (by decide) rfl (fun ls hl => ?_)
  refine w_loopH (X := Nat) (μ := fun x5 => 4 - x5) (dC := dC) (dI := dI) (A := aA (xL a) s.heap.size) (H0 := s.heap) (Wf := xF a cI cL cZ) (u := fun x5 => ((flN N 25 x5 v), J)) (P := fun x5 => x5 ≤ 4) (pj := 5) (nL := 4) (lv := fun x5 => [(0, .ref (a 14)), (1, .int (nI (v))), (3, .int (nI (4))), (2, .int (nI (x5)))]) (st := fun x5 => []) (fun x5 ls H locs ex5 hl hP hD hS jn_5 => ?_) 0 ls (by omega) (lv_sub hl [2, 3, 0, 1] rfl) hP hD hS
  have ex5 : x5 ≤ 4 := ex5
  have hl : lv_has ls 4 [(0, .ref (a 14)), (1, .int (nI (v))), (3, .int (nI (4))), (2, .int (nI (x5)))] := hl
  have hP : va_P (dC, dI) vwCl (xW a cI cL cZ (flN N 25 x5 v) J) H := hP
  have hD : va_D (aA (xL a) s.heap.size) (xW a cI cL cZ (flN N 25 x5 v) J) := hD
  refine lv_iload_n hx hb dJ7_fill_53178_5 rfl (lv_at hl 3 rfl) ?_
  refine lv_iload_n hx hb dJ7_fill_53178_6 rfl (lv_at hl 2 rfl) ?_
  refine n_icmp_ge (tgt := 20) hx hb (by omega) (by omega) dJ7_fill_53178_7 (by decide) (fun c_7 => ?_) (fun c_7 => ?_)
  · have e9 : x5 = 4 := by omega
    rw [e9] at hP hD
    exact g_retv hx hb hr hlocks (flN N 25 4 v, J) rfl hP hS dJ7_fill_53178_20
  · refine lv_aload_n hx hb dJ7_fill_53178_10 rfl (lv_at hl 0 rfl) ?_
    refine lv_iload_n hx hb dJ7_fill_53178_11 rfl (lv_at hl 3 rfl) ?_
    refine lv_iload_n hx hb dJ7_fill_53178_12 rfl (lv_at hl 1 rfl) ?_
    refine xs_25 hx hb hK hP hD hS (by omega) dJ7_fill_53178_13 (fun H locs hP hD hS => ?_)
    refine lv_iinc (v := nI (x5 + 1)) (lv' := [(2, .int (nI (x5 + 1))), (0, .ref (a 14)), (1, .int (nI (v))), (3, .int (nI (4)))]) hx hb dJ7_fill_53178_14 hl (k := 3) rfl (nI_1 _) (by decide) rfl (fun ls hl => ?_)
    refine lv_goto (tgt := 5) hx hb dJ7_fill_53178_17 (by decide) ?_
    rw [flN_s] at hP hD
    exact jn_5 (x5 + 1) ls _ _ (by omega) (by omega) (lv_sub hl [1, 2, 3, 0] rfl) hP hD hS
set_option maxHeartbeats 4000000 in
set_option maxRecDepth 100000 in
theorem tF_x_26 (l : Launch) (dC : Nat → ClassId) (dI : Nat → Nat → Nat) (a : Nat → Nat) (cI cL cZ : ClassId) (N : Nat → Nat → Nat) (J : Nat → Nat → Int64) (v : Nat)  : MetV l yJ7_fill_53178 wsJ7_fill_53178 ({ frames := 0, cells := 0, slots := 0, locals := 0 } : Room) dC dI (gT cI cL cZ) (xF a cI cL cZ) (xL a) (N, J) [.ref (a 15), .int (nI (v))] (fun u => u = (flN N 26 16 v, J)) := by
  intro sz
  refine g_entry (bytes := cJ7_fill_53178) (maxL := 4) (ret := none) (Qc := fun sz => va_Qv (fun u => u = (flN N 26 16 v, J)) (gB dC dI (xF a cI cL cZ)) (aA (xL a) sz)) (by decide) rfl (Nat.le_of_ble_eq_true rfl) rfl ?_
  intro p e s m below meth c ls hx hb hr hml hts hown hlocks hK hP hD hS hZ hl
  have hP : va_P (dC, dI) vwCl (xW a cI cL cZ N J) s.heap := hP
  have hD : va_D (aA (xL a) s.heap.size) (xW a cI cL cZ N J) := hD
  have hown : s.vm.findClass RJ7 = some m.cls := hown
  have hl : lv_has ls 4 [(0, .ref (a 15)), (1, .int (nI (v)))] := hl
  have hP : va_P (dC, dI) vwCl (xW a cI cL cZ (flN N 26 0 v) J) s.heap := by rw [flN_0]; exact hP
  have hD : va_D (aA (xL a) s.heap.size) (xW a cI cL cZ (flN N 26 0 v) J) := by rw [flN_0]; exact hD
  refine lv_iconst (v := nI 0) hx hb dJ7_fill_53178_0 (by decide) ?_
  refine lv_istore_n (lv' := [(2, .int (nI (0))), (0, .ref (a 15)), (1, .int (nI (v)))]) hx hb dJ7_fill_53178_1 rfl hl (by decide) rfl (fun ls hl => ?_)
  refine lv_aload_n hx hb dJ7_fill_53178_2 rfl (lv_at hl 1 rfl) ?_
  refine va_alen (v := nI 16) hx hb hK hP 15 0 rfl rfl rfl dJ7_fill_53178_3 ?_
  refine lv_istore_n (lv' := [(3, .int (nI (16))), (2, .int (nI (0))), (0, .ref (a 15)), (1, .int (nI (v)))]) hx hb dJ7_fill_53178_4 rfl hl (by decide) rfl (fun ls hl => ?_)
  refine w_loopH (X := Nat) (μ := fun x5 => 16 - x5) (dC := dC) (dI := dI) (A := aA (xL a) s.heap.size) (H0 := s.heap) (Wf := xF a cI cL cZ) (u := fun x5 => ((flN N 26 x5 v), J)) (P := fun x5 => x5 ≤ 16) (pj := 5) (nL := 4) (lv := fun x5 => [(0, .ref (a 15)), (1, .int (nI (v))), (3, .int (nI (16))), (2, .int (nI (x5)))]) (st := fun x5 => []) (fun x5 ls H locs ex5 hl hP hD hS jn_5 => ?_) 0 ls (by omega) (lv_sub hl [2, 3, 0, 1] rfl) hP hD hS
  have ex5 : x5 ≤ 16 := ex5
  have hl : lv_has ls 4 [(0, .ref (a 15)), (1, .int (nI (v))), (3, .int (nI (16))), (2, .int (nI (x5)))] := hl
  have hP : va_P (dC, dI) vwCl (xW a cI cL cZ (flN N 26 x5 v) J) H := hP
  have hD : va_D (aA (xL a) s.heap.size) (xW a cI cL cZ (flN N 26 x5 v) J) := hD
  refine lv_iload_n hx hb dJ7_fill_53178_5 rfl (lv_at hl 3 rfl) ?_
  refine lv_iload_n hx hb dJ7_fill_53178_6 rfl (lv_at hl 2 rfl) ?_
  refine n_icmp_ge (tgt := 20) hx hb (by omega) (by omega) dJ7_fill_53178_7 (by decide) (fun c_7 => ?_) (fun c_7 => ?_)
  · have e9 : x5 = 16 := by omega
    rw [e9] at hP hD
    exact g_retv hx hb hr hlocks (flN N 26 16 v, J) rfl hP hS dJ7_fill_53178_20
  · refine lv_aload_n hx hb dJ7_fill_53178_10 rfl (lv_at hl 0 rfl) ?_
    refine lv_iload_n hx hb dJ7_fill_53178_11 rfl (lv_at hl 3 rfl) ?_
    refine lv_iload_n hx hb dJ7_fill_53178_12 rfl (lv_at hl 1 rfl) ?_
    refine xs_26 hx hb hK hP hD hS (by omega) dJ7_fill_53178_13 (fun H locs hP hD hS => ?_)
    refine lv_iinc (v := nI (x5 + 1)) (lv' := [(2, .int (nI (x5 + 1))), (0, .ref (a 15)), (1, .int (nI (v))), (3, .int (nI (16)))]) hx hb dJ7_fill_53178_14 hl (k := 3) rfl (nI_1 _) (by decide) rfl (fun ls hl => ?_)
    refine lv_goto (tgt := 5) hx hb dJ7_fill_53178_17 (by decide) ?_
    rw [flN_s] at hP hD
    exact jn_5 (x5 + 1) ls _ _ (by omega) (by omega) (lv_sub hl [1, 2, 3, 0] rfl) hP hD hS
set_option maxHeartbeats 4000000 in
set_option maxRecDepth 100000 in
theorem tF_x_27 (l : Launch) (dC : Nat → ClassId) (dI : Nat → Nat → Nat) (a : Nat → Nat) (cI cL cZ : ClassId) (N : Nat → Nat → Nat) (J : Nat → Nat → Int64) (v : Nat)  : MetV l yJ7_fill_53178 wsJ7_fill_53178 ({ frames := 0, cells := 0, slots := 0, locals := 0 } : Room) dC dI (gT cI cL cZ) (xF a cI cL cZ) (xL a) (N, J) [.ref (a 16), .int (nI (v))] (fun u => u = (flN N 27 16 v, J)) := by
  intro sz
  refine g_entry (bytes := cJ7_fill_53178) (maxL := 4) (ret := none) (Qc := fun sz => va_Qv (fun u => u = (flN N 27 16 v, J)) (gB dC dI (xF a cI cL cZ)) (aA (xL a) sz)) (by decide) rfl (Nat.le_of_ble_eq_true rfl) rfl ?_
  intro p e s m below meth c ls hx hb hr hml hts hown hlocks hK hP hD hS hZ hl
  have hP : va_P (dC, dI) vwCl (xW a cI cL cZ N J) s.heap := hP
  have hD : va_D (aA (xL a) s.heap.size) (xW a cI cL cZ N J) := hD
  have hown : s.vm.findClass RJ7 = some m.cls := hown
  have hl : lv_has ls 4 [(0, .ref (a 16)), (1, .int (nI (v)))] := hl
  have hP : va_P (dC, dI) vwCl (xW a cI cL cZ (flN N 27 0 v) J) s.heap := by rw [flN_0]; exact hP
  have hD : va_D (aA (xL a) s.heap.size) (xW a cI cL cZ (flN N 27 0 v) J) := by rw [flN_0]; exact hD
  refine lv_iconst (v := nI 0) hx hb dJ7_fill_53178_0 (by decide) ?_
  refine lv_istore_n (lv' := [(2, .int (nI (0))), (0, .ref (a 16)), (1, .int (nI (v)))]) hx hb dJ7_fill_53178_1 rfl hl (by decide) rfl (fun ls hl => ?_)
  refine lv_aload_n hx hb dJ7_fill_53178_2 rfl (lv_at hl 1 rfl) ?_
  refine va_alen (v := nI 16) hx hb hK hP 16 0 rfl rfl rfl dJ7_fill_53178_3 ?_
  refine lv_istore_n (lv' := [(3, .int (nI (16))), (2, .int (nI (0))), (0, .ref (a 16)), (1, .int (nI (v)))]) hx hb dJ7_fill_53178_4 rfl hl (by decide) rfl (fun ls hl => ?_)
  refine w_loopH (X := Nat) (μ := fun x5 => 16 - x5) (dC := dC) (dI := dI) (A := aA (xL a) s.heap.size) (H0 := s.heap) (Wf := xF a cI cL cZ) (u := fun x5 => ((flN N 27 x5 v), J)) (P := fun x5 => x5 ≤ 16) (pj := 5) (nL := 4) (lv := fun x5 => [(0, .ref (a 16)), (1, .int (nI (v))), (3, .int (nI (16))), (2, .int (nI (x5)))]) (st := fun x5 => []) (fun x5 ls H locs ex5 hl hP hD hS jn_5 => ?_) 0 ls (by omega) (lv_sub hl [2, 3, 0, 1] rfl) hP hD hS
  have ex5 : x5 ≤ 16 := ex5
  have hl : lv_has ls 4 [(0, .ref (a 16)), (1, .int (nI (v))), (3, .int (nI (16))), (2, .int (nI (x5)))] := hl
  have hP : va_P (dC, dI) vwCl (xW a cI cL cZ (flN N 27 x5 v) J) H := hP
  have hD : va_D (aA (xL a) s.heap.size) (xW a cI cL cZ (flN N 27 x5 v) J) := hD
  refine lv_iload_n hx hb dJ7_fill_53178_5 rfl (lv_at hl 3 rfl) ?_
  refine lv_iload_n hx hb dJ7_fill_53178_6 rfl (lv_at hl 2 rfl) ?_
  refine n_icmp_ge (tgt := 20) hx hb (by omega) (by omega) dJ7_fill_53178_7 (by decide) (fun c_7 => ?_) (fun c_7 => ?_)
  · have e9 : x5 = 16 := by omega
    rw [e9] at hP hD
    exact g_retv hx hb hr hlocks (flN N 27 16 v, J) rfl hP hS dJ7_fill_53178_20
  · refine lv_aload_n hx hb dJ7_fill_53178_10 rfl (lv_at hl 0 rfl) ?_
    refine lv_iload_n hx hb dJ7_fill_53178_11 rfl (lv_at hl 3 rfl) ?_
    refine lv_iload_n hx hb dJ7_fill_53178_12 rfl (lv_at hl 1 rfl) ?_
    refine xs_27 hx hb hK hP hD hS (by omega) dJ7_fill_53178_13 (fun H locs hP hD hS => ?_)
    refine lv_iinc (v := nI (x5 + 1)) (lv' := [(2, .int (nI (x5 + 1))), (0, .ref (a 16)), (1, .int (nI (v))), (3, .int (nI (16)))]) hx hb dJ7_fill_53178_14 hl (k := 3) rfl (nI_1 _) (by decide) rfl (fun ls hl => ?_)
    refine lv_goto (tgt := 5) hx hb dJ7_fill_53178_17 (by decide) ?_
    rw [flN_s] at hP hD
    exact jn_5 (x5 + 1) ls _ _ (by omega) (by omega) (lv_sub hl [1, 2, 3, 0] rfl) hP hD hS
set_option maxHeartbeats 4000000 in
set_option maxRecDepth 100000 in
theorem tF_x_28 (l : Launch) (dC : Nat → ClassId) (dI : Nat → Nat → Nat) (a : Nat → Nat) (cI cL cZ : ClassId) (N : Nat → Nat → Nat) (J : Nat → Nat → Int64) (v : Int64)  : MetV l yJ7_fill_d0a16 wsJ7_fill_d0a16 ({ frames := 0, cells := 0, slots := 0, locals := 0 } : Room) dC dI (gT cI cL cZ) (xF a cI cL cZ) (xL a) (N, J) [.ref (a 17), .long (v)] (fun u => u = (N, flJ J 28 16 v)) := by
  intro sz
  refine g_entry (bytes := cJ7_fill_d0a16) (maxL := 5) (ret := none) (Qc := fun sz => va_Qv (fun u => u = (N, flJ J 28 16 v)) (gB dC dI (xF a cI cL cZ)) (aA (xL a) sz)) (by decide) rfl (Nat.le_of_ble_eq_true rfl) rfl ?_
  intro p e s m below meth c ls hx hb hr hml hts hown hlocks hK hP hD hS hZ hl
  have hP : va_P (dC, dI) vwCl (xW a cI cL cZ N J) s.heap := hP
  have hD : va_D (aA (xL a) s.heap.size) (xW a cI cL cZ N J) := hD
  have hown : s.vm.findClass RJ7 = some m.cls := hown
  have hl : lv_has ls 5 [(0, .ref (a 17)), (1, .long (v))] := hl
  have hP : va_P (dC, dI) vwCl (xW a cI cL cZ N (flJ J 28 0 v)) s.heap := by rw [flJ_0]; exact hP
  have hD : va_D (aA (xL a) s.heap.size) (xW a cI cL cZ N (flJ J 28 0 v)) := by rw [flJ_0]; exact hD
  refine lv_iconst (v := nI 0) hx hb dJ7_fill_d0a16_0 (by decide) ?_
  refine lv_istore_n (lv' := [(3, .int (nI (0))), (0, .ref (a 17)), (1, .long (v))]) hx hb dJ7_fill_d0a16_1 rfl hl (by decide) rfl (fun ls hl => ?_)
  refine lv_aload_n hx hb dJ7_fill_d0a16_2 rfl (lv_at hl 1 rfl) ?_
  refine va_alen (v := nI 16) hx hb hK hP 17 1 rfl rfl rfl dJ7_fill_d0a16_3 ?_
  refine lv_istore (lv' := [(4, .int (nI (16))), (3, .int (nI (0))), (0, .ref (a 17)), (1, .long (v))]) hx hb dJ7_fill_d0a16_4 hl (by decide) rfl (fun ls hl => ?_)
  refine w_loopH (X := Nat) (μ := fun x6 => 16 - x6) (dC := dC) (dI := dI) (A := aA (xL a) s.heap.size) (H0 := s.heap) (Wf := xF a cI cL cZ) (u := fun x6 => (N, (flJ J 28 x6 v))) (P := fun x6 => x6 ≤ 16) (pj := 6) (nL := 5) (lv := fun x6 => [(0, .ref (a 17)), (1, .long (v)), (4, .int (nI (16))), (3, .int (nI (x6)))]) (st := fun x6 => []) (fun x6 ls H locs ex6 hl hP hD hS jn_6 => ?_) 0 ls (by omega) (lv_sub hl [2, 3, 0, 1] rfl) hP hD hS
  have ex6 : x6 ≤ 16 := ex6
  have hl : lv_has ls 5 [(0, .ref (a 17)), (1, .long (v)), (4, .int (nI (16))), (3, .int (nI (x6)))] := hl
  have hP : va_P (dC, dI) vwCl (xW a cI cL cZ N (flJ J 28 x6 v)) H := hP
  have hD : va_D (aA (xL a) s.heap.size) (xW a cI cL cZ N (flJ J 28 x6 v)) := hD
  refine lv_iload_n hx hb dJ7_fill_d0a16_6 rfl (lv_at hl 3 rfl) ?_
  refine lv_iload hx hb dJ7_fill_d0a16_7 (lv_at hl 2 rfl) ?_
  refine n_icmp_ge (tgt := 22) hx hb (by omega) (by omega) dJ7_fill_d0a16_9 (by decide) (fun c_9 => ?_) (fun c_9 => ?_)
  · have e9 : x6 = 16 := by omega
    rw [e9] at hP hD
    exact g_retv hx hb hr hlocks (N, flJ J 28 16 v) rfl hP hS dJ7_fill_d0a16_22
  · refine lv_aload_n hx hb dJ7_fill_d0a16_12 rfl (lv_at hl 0 rfl) ?_
    refine lv_iload_n hx hb dJ7_fill_d0a16_13 rfl (lv_at hl 3 rfl) ?_
    refine lv_lload_n hx hb dJ7_fill_d0a16_14 rfl (lv_at hl 1 rfl) ?_
    refine xs_28 hx hb hK hP hD hS (by omega) dJ7_fill_d0a16_15 (fun H locs hP hD hS => ?_)
    refine lv_iinc (v := nI (x6 + 1)) (lv' := [(3, .int (nI (x6 + 1))), (0, .ref (a 17)), (1, .long (v)), (4, .int (nI (16)))]) hx hb dJ7_fill_d0a16_16 hl (k := 3) rfl (nI_1 _) (by decide) rfl (fun ls hl => ?_)
    refine lv_goto (tgt := 6) hx hb dJ7_fill_d0a16_19 (by decide) ?_
    rw [flJ_s] at hP hD
    exact jn_6 (x6 + 1) ls _ _ (by omega) (by omega) (lv_sub hl [1, 2, 3, 0] rfl) hP hD hS
set_option maxHeartbeats 4000000 in
set_option maxRecDepth 100000 in
theorem tF_x_29 (l : Launch) (dC : Nat → ClassId) (dI : Nat → Nat → Nat) (a : Nat → Nat) (cI cL cZ : ClassId) (N : Nat → Nat → Nat) (J : Nat → Nat → Int64) (v : Nat)  : MetV l yJ7_fill_53178 wsJ7_fill_53178 ({ frames := 0, cells := 0, slots := 0, locals := 0 } : Room) dC dI (gT cI cL cZ) (xF a cI cL cZ) (xL a) (N, J) [.ref (a 18), .int (nI (v))] (fun u => u = (flN N 29 16 v, J)) := by
  intro sz
  refine g_entry (bytes := cJ7_fill_53178) (maxL := 4) (ret := none) (Qc := fun sz => va_Qv (fun u => u = (flN N 29 16 v, J)) (gB dC dI (xF a cI cL cZ)) (aA (xL a) sz)) (by decide) rfl (Nat.le_of_ble_eq_true rfl) rfl ?_
  intro p e s m below meth c ls hx hb hr hml hts hown hlocks hK hP hD hS hZ hl
  have hP : va_P (dC, dI) vwCl (xW a cI cL cZ N J) s.heap := hP
  have hD : va_D (aA (xL a) s.heap.size) (xW a cI cL cZ N J) := hD
  have hown : s.vm.findClass RJ7 = some m.cls := hown
  have hl : lv_has ls 4 [(0, .ref (a 18)), (1, .int (nI (v)))] := hl
  have hP : va_P (dC, dI) vwCl (xW a cI cL cZ (flN N 29 0 v) J) s.heap := by rw [flN_0]; exact hP
  have hD : va_D (aA (xL a) s.heap.size) (xW a cI cL cZ (flN N 29 0 v) J) := by rw [flN_0]; exact hD
  refine lv_iconst (v := nI 0) hx hb dJ7_fill_53178_0 (by decide) ?_
  refine lv_istore_n (lv' := [(2, .int (nI (0))), (0, .ref (a 18)), (1, .int (nI (v)))]) hx hb dJ7_fill_53178_1 rfl hl (by decide) rfl (fun ls hl => ?_)
  refine lv_aload_n hx hb dJ7_fill_53178_2 rfl (lv_at hl 1 rfl) ?_
  refine va_alen (v := nI 16) hx hb hK hP 18 0 rfl rfl rfl dJ7_fill_53178_3 ?_
  refine lv_istore_n (lv' := [(3, .int (nI (16))), (2, .int (nI (0))), (0, .ref (a 18)), (1, .int (nI (v)))]) hx hb dJ7_fill_53178_4 rfl hl (by decide) rfl (fun ls hl => ?_)
  refine w_loopH (X := Nat) (μ := fun x5 => 16 - x5) (dC := dC) (dI := dI) (A := aA (xL a) s.heap.size) (H0 := s.heap) (Wf := xF a cI cL cZ) (u := fun x5 => ((flN N 29 x5 v), J)) (P := fun x5 => x5 ≤ 16) (pj := 5) (nL := 4) (lv := fun x5 => [(0, .ref (a 18)), (1, .int (nI (v))), (3, .int (nI (16))), (2, .int (nI (x5)))]) (st := fun x5 => []) (fun x5 ls H locs ex5 hl hP hD hS jn_5 => ?_) 0 ls (by omega) (lv_sub hl [2, 3, 0, 1] rfl) hP hD hS
  have ex5 : x5 ≤ 16 := ex5
  have hl : lv_has ls 4 [(0, .ref (a 18)), (1, .int (nI (v))), (3, .int (nI (16))), (2, .int (nI (x5)))] := hl
  have hP : va_P (dC, dI) vwCl (xW a cI cL cZ (flN N 29 x5 v) J) H := hP
  have hD : va_D (aA (xL a) s.heap.size) (xW a cI cL cZ (flN N 29 x5 v) J) := hD
  refine lv_iload_n hx hb dJ7_fill_53178_5 rfl (lv_at hl 3 rfl) ?_
  refine lv_iload_n hx hb dJ7_fill_53178_6 rfl (lv_at hl 2 rfl) ?_
  refine n_icmp_ge (tgt := 20) hx hb (by omega) (by omega) dJ7_fill_53178_7 (by decide) (fun c_7 => ?_) (fun c_7 => ?_)
  · have e9 : x5 = 16 := by omega
    rw [e9] at hP hD
    exact g_retv hx hb hr hlocks (flN N 29 16 v, J) rfl hP hS dJ7_fill_53178_20
  · refine lv_aload_n hx hb dJ7_fill_53178_10 rfl (lv_at hl 0 rfl) ?_
    refine lv_iload_n hx hb dJ7_fill_53178_11 rfl (lv_at hl 3 rfl) ?_
    refine lv_iload_n hx hb dJ7_fill_53178_12 rfl (lv_at hl 1 rfl) ?_
    refine xs_29 hx hb hK hP hD hS (by omega) dJ7_fill_53178_13 (fun H locs hP hD hS => ?_)
    refine lv_iinc (v := nI (x5 + 1)) (lv' := [(2, .int (nI (x5 + 1))), (0, .ref (a 18)), (1, .int (nI (v))), (3, .int (nI (16)))]) hx hb dJ7_fill_53178_14 hl (k := 3) rfl (nI_1 _) (by decide) rfl (fun ls hl => ?_)
    refine lv_goto (tgt := 5) hx hb dJ7_fill_53178_17 (by decide) ?_
    rw [flN_s] at hP hD
    exact jn_5 (x5 + 1) ls _ _ (by omega) (by omega) (lv_sub hl [1, 2, 3, 0] rfl) hP hD hS
set_option maxHeartbeats 4000000 in
set_option maxRecDepth 100000 in
theorem tF_x_36 (l : Launch) (dC : Nat → ClassId) (dI : Nat → Nat → Nat) (a : Nat → Nat) (cI cL cZ : ClassId) (N : Nat → Nat → Nat) (J : Nat → Nat → Int64) (v : Nat)  : MetV l yJ7_fill_53178 wsJ7_fill_53178 ({ frames := 0, cells := 0, slots := 0, locals := 0 } : Room) dC dI (gT cI cL cZ) (xF a cI cL cZ) (xL a) (N, J) [.ref (a 20), .int (nI (v))] (fun u => u = (flN N 36 108 v, J)) := by
  intro sz
  refine g_entry (bytes := cJ7_fill_53178) (maxL := 4) (ret := none) (Qc := fun sz => va_Qv (fun u => u = (flN N 36 108 v, J)) (gB dC dI (xF a cI cL cZ)) (aA (xL a) sz)) (by decide) rfl (Nat.le_of_ble_eq_true rfl) rfl ?_
  intro p e s m below meth c ls hx hb hr hml hts hown hlocks hK hP hD hS hZ hl
  have hP : va_P (dC, dI) vwCl (xW a cI cL cZ N J) s.heap := hP
  have hD : va_D (aA (xL a) s.heap.size) (xW a cI cL cZ N J) := hD
  have hown : s.vm.findClass RJ7 = some m.cls := hown
  have hl : lv_has ls 4 [(0, .ref (a 20)), (1, .int (nI (v)))] := hl
  have hP : va_P (dC, dI) vwCl (xW a cI cL cZ (flN N 36 0 v) J) s.heap := by rw [flN_0]; exact hP
  have hD : va_D (aA (xL a) s.heap.size) (xW a cI cL cZ (flN N 36 0 v) J) := by rw [flN_0]; exact hD
  refine lv_iconst (v := nI 0) hx hb dJ7_fill_53178_0 (by decide) ?_
  refine lv_istore_n (lv' := [(2, .int (nI (0))), (0, .ref (a 20)), (1, .int (nI (v)))]) hx hb dJ7_fill_53178_1 rfl hl (by decide) rfl (fun ls hl => ?_)
  refine lv_aload_n hx hb dJ7_fill_53178_2 rfl (lv_at hl 1 rfl) ?_
  refine va_alen (v := nI 108) hx hb hK hP 20 0 rfl rfl rfl dJ7_fill_53178_3 ?_
  refine lv_istore_n (lv' := [(3, .int (nI (108))), (2, .int (nI (0))), (0, .ref (a 20)), (1, .int (nI (v)))]) hx hb dJ7_fill_53178_4 rfl hl (by decide) rfl (fun ls hl => ?_)
  refine w_loopH (X := Nat) (μ := fun x5 => 108 - x5) (dC := dC) (dI := dI) (A := aA (xL a) s.heap.size) (H0 := s.heap) (Wf := xF a cI cL cZ) (u := fun x5 => ((flN N 36 x5 v), J)) (P := fun x5 => x5 ≤ 108) (pj := 5) (nL := 4) (lv := fun x5 => [(0, .ref (a 20)), (1, .int (nI (v))), (3, .int (nI (108))), (2, .int (nI (x5)))]) (st := fun x5 => []) (fun x5 ls H locs ex5 hl hP hD hS jn_5 => ?_) 0 ls (by omega) (lv_sub hl [2, 3, 0, 1] rfl) hP hD hS
  have ex5 : x5 ≤ 108 := ex5
  have hl : lv_has ls 4 [(0, .ref (a 20)), (1, .int (nI (v))), (3, .int (nI (108))), (2, .int (nI (x5)))] := hl
  have hP : va_P (dC, dI) vwCl (xW a cI cL cZ (flN N 36 x5 v) J) H := hP
  have hD : va_D (aA (xL a) s.heap.size) (xW a cI cL cZ (flN N 36 x5 v) J) := hD
  refine lv_iload_n hx hb dJ7_fill_53178_5 rfl (lv_at hl 3 rfl) ?_
  refine lv_iload_n hx hb dJ7_fill_53178_6 rfl (lv_at hl 2 rfl) ?_
  refine n_icmp_ge (tgt := 20) hx hb (by omega) (by omega) dJ7_fill_53178_7 (by decide) (fun c_7 => ?_) (fun c_7 => ?_)
  · have e9 : x5 = 108 := by omega
    rw [e9] at hP hD
    exact g_retv hx hb hr hlocks (flN N 36 108 v, J) rfl hP hS dJ7_fill_53178_20
  · refine lv_aload_n hx hb dJ7_fill_53178_10 rfl (lv_at hl 0 rfl) ?_
    refine lv_iload_n hx hb dJ7_fill_53178_11 rfl (lv_at hl 3 rfl) ?_
    refine lv_iload_n hx hb dJ7_fill_53178_12 rfl (lv_at hl 1 rfl) ?_
    refine xs_36 hx hb hK hP hD hS (by omega) dJ7_fill_53178_13 (fun H locs hP hD hS => ?_)
    refine lv_iinc (v := nI (x5 + 1)) (lv' := [(2, .int (nI (x5 + 1))), (0, .ref (a 20)), (1, .int (nI (v))), (3, .int (nI (108)))]) hx hb dJ7_fill_53178_14 hl (k := 3) rfl (nI_1 _) (by decide) rfl (fun ls hl => ?_)
    refine lv_goto (tgt := 5) hx hb dJ7_fill_53178_17 (by decide) ?_
    rw [flN_s] at hP hD
    exact jn_5 (x5 + 1) ls _ _ (by omega) (by omega) (lv_sub hl [1, 2, 3, 0] rfl) hP hD hS
set_option maxHeartbeats 4000000 in
set_option maxRecDepth 100000 in
theorem tF_x_37 (l : Launch) (dC : Nat → ClassId) (dI : Nat → Nat → Nat) (a : Nat → Nat) (cI cL cZ : ClassId) (N : Nat → Nat → Nat) (J : Nat → Nat → Int64) (v : Nat)  : MetV l yJ7_fill_53178 wsJ7_fill_53178 ({ frames := 0, cells := 0, slots := 0, locals := 0 } : Room) dC dI (gT cI cL cZ) (xF a cI cL cZ) (xL a) (N, J) [.ref (a 21), .int (nI (v))] (fun u => u = (flN N 37 384 v, J)) := by
  intro sz
  refine g_entry (bytes := cJ7_fill_53178) (maxL := 4) (ret := none) (Qc := fun sz => va_Qv (fun u => u = (flN N 37 384 v, J)) (gB dC dI (xF a cI cL cZ)) (aA (xL a) sz)) (by decide) rfl (Nat.le_of_ble_eq_true rfl) rfl ?_
  intro p e s m below meth c ls hx hb hr hml hts hown hlocks hK hP hD hS hZ hl
  have hP : va_P (dC, dI) vwCl (xW a cI cL cZ N J) s.heap := hP
  have hD : va_D (aA (xL a) s.heap.size) (xW a cI cL cZ N J) := hD
  have hown : s.vm.findClass RJ7 = some m.cls := hown
  have hl : lv_has ls 4 [(0, .ref (a 21)), (1, .int (nI (v)))] := hl
  have hP : va_P (dC, dI) vwCl (xW a cI cL cZ (flN N 37 0 v) J) s.heap := by rw [flN_0]; exact hP
  have hD : va_D (aA (xL a) s.heap.size) (xW a cI cL cZ (flN N 37 0 v) J) := by rw [flN_0]; exact hD
  refine lv_iconst (v := nI 0) hx hb dJ7_fill_53178_0 (by decide) ?_
  refine lv_istore_n (lv' := [(2, .int (nI (0))), (0, .ref (a 21)), (1, .int (nI (v)))]) hx hb dJ7_fill_53178_1 rfl hl (by decide) rfl (fun ls hl => ?_)
  refine lv_aload_n hx hb dJ7_fill_53178_2 rfl (lv_at hl 1 rfl) ?_
  refine va_alen (v := nI 384) hx hb hK hP 21 0 rfl rfl rfl dJ7_fill_53178_3 ?_
  refine lv_istore_n (lv' := [(3, .int (nI (384))), (2, .int (nI (0))), (0, .ref (a 21)), (1, .int (nI (v)))]) hx hb dJ7_fill_53178_4 rfl hl (by decide) rfl (fun ls hl => ?_)
  refine w_loopH (X := Nat) (μ := fun x5 => 384 - x5) (dC := dC) (dI := dI) (A := aA (xL a) s.heap.size) (H0 := s.heap) (Wf := xF a cI cL cZ) (u := fun x5 => ((flN N 37 x5 v), J)) (P := fun x5 => x5 ≤ 384) (pj := 5) (nL := 4) (lv := fun x5 => [(0, .ref (a 21)), (1, .int (nI (v))), (3, .int (nI (384))), (2, .int (nI (x5)))]) (st := fun x5 => []) (fun x5 ls H locs ex5 hl hP hD hS jn_5 => ?_) 0 ls (by omega) (lv_sub hl [2, 3, 0, 1] rfl) hP hD hS
  have ex5 : x5 ≤ 384 := ex5
  have hl : lv_has ls 4 [(0, .ref (a 21)), (1, .int (nI (v))), (3, .int (nI (384))), (2, .int (nI (x5)))] := hl
  have hP : va_P (dC, dI) vwCl (xW a cI cL cZ (flN N 37 x5 v) J) H := hP
  have hD : va_D (aA (xL a) s.heap.size) (xW a cI cL cZ (flN N 37 x5 v) J) := hD
  refine lv_iload_n hx hb dJ7_fill_53178_5 rfl (lv_at hl 3 rfl) ?_
  refine lv_iload_n hx hb dJ7_fill_53178_6 rfl (lv_at hl 2 rfl) ?_
  refine n_icmp_ge (tgt := 20) hx hb (by omega) (by omega) dJ7_fill_53178_7 (by decide) (fun c_7 => ?_) (fun c_7 => ?_)
  · have e9 : x5 = 384 := by omega
    rw [e9] at hP hD
    exact g_retv hx hb hr hlocks (flN N 37 384 v, J) rfl hP hS dJ7_fill_53178_20
  · refine lv_aload_n hx hb dJ7_fill_53178_10 rfl (lv_at hl 0 rfl) ?_
    refine lv_iload_n hx hb dJ7_fill_53178_11 rfl (lv_at hl 3 rfl) ?_
    refine lv_iload_n hx hb dJ7_fill_53178_12 rfl (lv_at hl 1 rfl) ?_
    refine xs_37 hx hb hK hP hD hS (by omega) dJ7_fill_53178_13 (fun H locs hP hD hS => ?_)
    refine lv_iinc (v := nI (x5 + 1)) (lv' := [(2, .int (nI (x5 + 1))), (0, .ref (a 21)), (1, .int (nI (v))), (3, .int (nI (384)))]) hx hb dJ7_fill_53178_14 hl (k := 3) rfl (nI_1 _) (by decide) rfl (fun ls hl => ?_)
    refine lv_goto (tgt := 5) hx hb dJ7_fill_53178_17 (by decide) ?_
    rw [flN_s] at hP hD
    exact jn_5 (x5 + 1) ls _ _ (by omega) (by omega) (lv_sub hl [1, 2, 3, 0] rfl) hP hD hS
set_option maxHeartbeats 4000000 in
set_option maxRecDepth 100000 in
theorem tF_s_0 (l : Launch) (dC : Nat → ClassId) (dI : Nat → Nat → Nat) (a : Nat → Nat) (cI cL cZ : ClassId) (N : Nat → Nat → Nat) (J : Nat → Nat → Int64) (v : Nat)  : MetV l yJ7_fill_53178 wsJ7_fill_53178 ({ frames := 0, cells := 0, slots := 0, locals := 0 } : Room) dC dI (gT cI cL cZ) (sF a cI cL cZ) (sL a) (N, J) [.ref (a 4), .int (nI (v))] (fun u => u = (flN N 0 256 v, J)) := by
  intro sz
  refine g_entry (bytes := cJ7_fill_53178) (maxL := 4) (ret := none) (Qc := fun sz => va_Qv (fun u => u = (flN N 0 256 v, J)) (gB dC dI (sF a cI cL cZ)) (aA (sL a) sz)) (by decide) rfl (Nat.le_of_ble_eq_true rfl) rfl ?_
  intro p e s m below meth c ls hx hb hr hml hts hown hlocks hK hP hD hS hZ hl
  have hP : va_P (dC, dI) vwCl (sW a cI cL cZ N J) s.heap := hP
  have hD : va_D (aA (sL a) s.heap.size) (sW a cI cL cZ N J) := hD
  have hown : s.vm.findClass RJ7 = some m.cls := hown
  have hl : lv_has ls 4 [(0, .ref (a 4)), (1, .int (nI (v)))] := hl
  have hP : va_P (dC, dI) vwCl (sW a cI cL cZ (flN N 0 0 v) J) s.heap := by rw [flN_0]; exact hP
  have hD : va_D (aA (sL a) s.heap.size) (sW a cI cL cZ (flN N 0 0 v) J) := by rw [flN_0]; exact hD
  refine lv_iconst (v := nI 0) hx hb dJ7_fill_53178_0 (by decide) ?_
  refine lv_istore_n (lv' := [(2, .int (nI (0))), (0, .ref (a 4)), (1, .int (nI (v)))]) hx hb dJ7_fill_53178_1 rfl hl (by decide) rfl (fun ls hl => ?_)
  refine lv_aload_n hx hb dJ7_fill_53178_2 rfl (lv_at hl 1 rfl) ?_
  refine va_alen (v := nI 256) hx hb hK hP 1 0 rfl rfl rfl dJ7_fill_53178_3 ?_
  refine lv_istore_n (lv' := [(3, .int (nI (256))), (2, .int (nI (0))), (0, .ref (a 4)), (1, .int (nI (v)))]) hx hb dJ7_fill_53178_4 rfl hl (by decide) rfl (fun ls hl => ?_)
  refine w_loopH (X := Nat) (μ := fun x5 => 256 - x5) (dC := dC) (dI := dI) (A := aA (sL a) s.heap.size) (H0 := s.heap) (Wf := sF a cI cL cZ) (u := fun x5 => ((flN N 0 x5 v), J)) (P := fun x5 => x5 ≤ 256) (pj := 5) (nL := 4) (lv := fun x5 => [(0, .ref (a 4)), (1, .int (nI (v))), (3, .int (nI (256))), (2, .int (nI (x5)))]) (st := fun x5 => []) (fun x5 ls H locs ex5 hl hP hD hS jn_5 => ?_) 0 ls (by omega) (lv_sub hl [2, 3, 0, 1] rfl) hP hD hS
  have ex5 : x5 ≤ 256 := ex5
  have hl : lv_has ls 4 [(0, .ref (a 4)), (1, .int (nI (v))), (3, .int (nI (256))), (2, .int (nI (x5)))] := hl
  have hP : va_P (dC, dI) vwCl (sW a cI cL cZ (flN N 0 x5 v) J) H := hP
  have hD : va_D (aA (sL a) s.heap.size) (sW a cI cL cZ (flN N 0 x5 v) J) := hD
  refine lv_iload_n hx hb dJ7_fill_53178_5 rfl (lv_at hl 3 rfl) ?_
  refine lv_iload_n hx hb dJ7_fill_53178_6 rfl (lv_at hl 2 rfl) ?_
  refine n_icmp_ge (tgt := 20) hx hb (by omega) (by omega) dJ7_fill_53178_7 (by decide) (fun c_7 => ?_) (fun c_7 => ?_)
  · have e9 : x5 = 256 := by omega
    rw [e9] at hP hD
    exact g_retv hx hb hr hlocks (flN N 0 256 v, J) rfl hP hS dJ7_fill_53178_20
  · refine lv_aload_n hx hb dJ7_fill_53178_10 rfl (lv_at hl 0 rfl) ?_
    refine lv_iload_n hx hb dJ7_fill_53178_11 rfl (lv_at hl 3 rfl) ?_
    refine lv_iload_n hx hb dJ7_fill_53178_12 rfl (lv_at hl 1 rfl) ?_
    refine ss_0 hx hb hK hP hD hS (by omega) dJ7_fill_53178_13 (fun H locs hP hD hS => ?_)
    refine lv_iinc (v := nI (x5 + 1)) (lv' := [(2, .int (nI (x5 + 1))), (0, .ref (a 4)), (1, .int (nI (v))), (3, .int (nI (256)))]) hx hb dJ7_fill_53178_14 hl (k := 3) rfl (nI_1 _) (by decide) rfl (fun ls hl => ?_)
    refine lv_goto (tgt := 5) hx hb dJ7_fill_53178_17 (by decide) ?_
    rw [flN_s] at hP hD
    exact jn_5 (x5 + 1) ls _ _ (by omega) (by omega) (lv_sub hl [1, 2, 3, 0] rfl) hP hD hS
set_option maxHeartbeats 4000000 in
set_option maxRecDepth 100000 in
theorem tF_s_1 (l : Launch) (dC : Nat → ClassId) (dI : Nat → Nat → Nat) (a : Nat → Nat) (cI cL cZ : ClassId) (N : Nat → Nat → Nat) (J : Nat → Nat → Int64) (v : Nat)  : MetV l yJ7_fill_53178 wsJ7_fill_53178 ({ frames := 0, cells := 0, slots := 0, locals := 0 } : Room) dC dI (gT cI cL cZ) (sF a cI cL cZ) (sL a) (N, J) [.ref (a 5), .int (nI (v))] (fun u => u = (flN N 1 256 v, J)) := by
  intro sz
  refine g_entry (bytes := cJ7_fill_53178) (maxL := 4) (ret := none) (Qc := fun sz => va_Qv (fun u => u = (flN N 1 256 v, J)) (gB dC dI (sF a cI cL cZ)) (aA (sL a) sz)) (by decide) rfl (Nat.le_of_ble_eq_true rfl) rfl ?_
  intro p e s m below meth c ls hx hb hr hml hts hown hlocks hK hP hD hS hZ hl
  have hP : va_P (dC, dI) vwCl (sW a cI cL cZ N J) s.heap := hP
  have hD : va_D (aA (sL a) s.heap.size) (sW a cI cL cZ N J) := hD
  have hown : s.vm.findClass RJ7 = some m.cls := hown
  have hl : lv_has ls 4 [(0, .ref (a 5)), (1, .int (nI (v)))] := hl
  have hP : va_P (dC, dI) vwCl (sW a cI cL cZ (flN N 1 0 v) J) s.heap := by rw [flN_0]; exact hP
  have hD : va_D (aA (sL a) s.heap.size) (sW a cI cL cZ (flN N 1 0 v) J) := by rw [flN_0]; exact hD
  refine lv_iconst (v := nI 0) hx hb dJ7_fill_53178_0 (by decide) ?_
  refine lv_istore_n (lv' := [(2, .int (nI (0))), (0, .ref (a 5)), (1, .int (nI (v)))]) hx hb dJ7_fill_53178_1 rfl hl (by decide) rfl (fun ls hl => ?_)
  refine lv_aload_n hx hb dJ7_fill_53178_2 rfl (lv_at hl 1 rfl) ?_
  refine va_alen (v := nI 256) hx hb hK hP 2 0 rfl rfl rfl dJ7_fill_53178_3 ?_
  refine lv_istore_n (lv' := [(3, .int (nI (256))), (2, .int (nI (0))), (0, .ref (a 5)), (1, .int (nI (v)))]) hx hb dJ7_fill_53178_4 rfl hl (by decide) rfl (fun ls hl => ?_)
  refine w_loopH (X := Nat) (μ := fun x5 => 256 - x5) (dC := dC) (dI := dI) (A := aA (sL a) s.heap.size) (H0 := s.heap) (Wf := sF a cI cL cZ) (u := fun x5 => ((flN N 1 x5 v), J)) (P := fun x5 => x5 ≤ 256) (pj := 5) (nL := 4) (lv := fun x5 => [(0, .ref (a 5)), (1, .int (nI (v))), (3, .int (nI (256))), (2, .int (nI (x5)))]) (st := fun x5 => []) (fun x5 ls H locs ex5 hl hP hD hS jn_5 => ?_) 0 ls (by omega) (lv_sub hl [2, 3, 0, 1] rfl) hP hD hS
  have ex5 : x5 ≤ 256 := ex5
  have hl : lv_has ls 4 [(0, .ref (a 5)), (1, .int (nI (v))), (3, .int (nI (256))), (2, .int (nI (x5)))] := hl
  have hP : va_P (dC, dI) vwCl (sW a cI cL cZ (flN N 1 x5 v) J) H := hP
  have hD : va_D (aA (sL a) s.heap.size) (sW a cI cL cZ (flN N 1 x5 v) J) := hD
  refine lv_iload_n hx hb dJ7_fill_53178_5 rfl (lv_at hl 3 rfl) ?_
  refine lv_iload_n hx hb dJ7_fill_53178_6 rfl (lv_at hl 2 rfl) ?_
  refine n_icmp_ge (tgt := 20) hx hb (by omega) (by omega) dJ7_fill_53178_7 (by decide) (fun c_7 => ?_) (fun c_7 => ?_)
  · have e9 : x5 = 256 := by omega
    rw [e9] at hP hD
    exact g_retv hx hb hr hlocks (flN N 1 256 v, J) rfl hP hS dJ7_fill_53178_20
  · refine lv_aload_n hx hb dJ7_fill_53178_10 rfl (lv_at hl 0 rfl) ?_
    refine lv_iload_n hx hb dJ7_fill_53178_11 rfl (lv_at hl 3 rfl) ?_
    refine lv_iload_n hx hb dJ7_fill_53178_12 rfl (lv_at hl 1 rfl) ?_
    refine ss_1 hx hb hK hP hD hS (by omega) dJ7_fill_53178_13 (fun H locs hP hD hS => ?_)
    refine lv_iinc (v := nI (x5 + 1)) (lv' := [(2, .int (nI (x5 + 1))), (0, .ref (a 5)), (1, .int (nI (v))), (3, .int (nI (256)))]) hx hb dJ7_fill_53178_14 hl (k := 3) rfl (nI_1 _) (by decide) rfl (fun ls hl => ?_)
    refine lv_goto (tgt := 5) hx hb dJ7_fill_53178_17 (by decide) ?_
    rw [flN_s] at hP hD
    exact jn_5 (x5 + 1) ls _ _ (by omega) (by omega) (lv_sub hl [1, 2, 3, 0] rfl) hP hD hS
set_option maxHeartbeats 4000000 in
set_option maxRecDepth 100000 in
theorem tF_s_2 (l : Launch) (dC : Nat → ClassId) (dI : Nat → Nat → Nat) (a : Nat → Nat) (cI cL cZ : ClassId) (N : Nat → Nat → Nat) (J : Nat → Nat → Int64) (v : Nat)  : MetV l yJ7_fill_53178 wsJ7_fill_53178 ({ frames := 0, cells := 0, slots := 0, locals := 0 } : Room) dC dI (gT cI cL cZ) (sF a cI cL cZ) (sL a) (N, J) [.ref (a 6), .int (nI (v))] (fun u => u = (flN N 2 256 v, J)) := by
  intro sz
  refine g_entry (bytes := cJ7_fill_53178) (maxL := 4) (ret := none) (Qc := fun sz => va_Qv (fun u => u = (flN N 2 256 v, J)) (gB dC dI (sF a cI cL cZ)) (aA (sL a) sz)) (by decide) rfl (Nat.le_of_ble_eq_true rfl) rfl ?_
  intro p e s m below meth c ls hx hb hr hml hts hown hlocks hK hP hD hS hZ hl
  have hP : va_P (dC, dI) vwCl (sW a cI cL cZ N J) s.heap := hP
  have hD : va_D (aA (sL a) s.heap.size) (sW a cI cL cZ N J) := hD
  have hown : s.vm.findClass RJ7 = some m.cls := hown
  have hl : lv_has ls 4 [(0, .ref (a 6)), (1, .int (nI (v)))] := hl
  have hP : va_P (dC, dI) vwCl (sW a cI cL cZ (flN N 2 0 v) J) s.heap := by rw [flN_0]; exact hP
  have hD : va_D (aA (sL a) s.heap.size) (sW a cI cL cZ (flN N 2 0 v) J) := by rw [flN_0]; exact hD
  refine lv_iconst (v := nI 0) hx hb dJ7_fill_53178_0 (by decide) ?_
  refine lv_istore_n (lv' := [(2, .int (nI (0))), (0, .ref (a 6)), (1, .int (nI (v)))]) hx hb dJ7_fill_53178_1 rfl hl (by decide) rfl (fun ls hl => ?_)
  refine lv_aload_n hx hb dJ7_fill_53178_2 rfl (lv_at hl 1 rfl) ?_
  refine va_alen (v := nI 256) hx hb hK hP 3 0 rfl rfl rfl dJ7_fill_53178_3 ?_
  refine lv_istore_n (lv' := [(3, .int (nI (256))), (2, .int (nI (0))), (0, .ref (a 6)), (1, .int (nI (v)))]) hx hb dJ7_fill_53178_4 rfl hl (by decide) rfl (fun ls hl => ?_)
  refine w_loopH (X := Nat) (μ := fun x5 => 256 - x5) (dC := dC) (dI := dI) (A := aA (sL a) s.heap.size) (H0 := s.heap) (Wf := sF a cI cL cZ) (u := fun x5 => ((flN N 2 x5 v), J)) (P := fun x5 => x5 ≤ 256) (pj := 5) (nL := 4) (lv := fun x5 => [(0, .ref (a 6)), (1, .int (nI (v))), (3, .int (nI (256))), (2, .int (nI (x5)))]) (st := fun x5 => []) (fun x5 ls H locs ex5 hl hP hD hS jn_5 => ?_) 0 ls (by omega) (lv_sub hl [2, 3, 0, 1] rfl) hP hD hS
  have ex5 : x5 ≤ 256 := ex5
  have hl : lv_has ls 4 [(0, .ref (a 6)), (1, .int (nI (v))), (3, .int (nI (256))), (2, .int (nI (x5)))] := hl
  have hP : va_P (dC, dI) vwCl (sW a cI cL cZ (flN N 2 x5 v) J) H := hP
  have hD : va_D (aA (sL a) s.heap.size) (sW a cI cL cZ (flN N 2 x5 v) J) := hD
  refine lv_iload_n hx hb dJ7_fill_53178_5 rfl (lv_at hl 3 rfl) ?_
  refine lv_iload_n hx hb dJ7_fill_53178_6 rfl (lv_at hl 2 rfl) ?_
  refine n_icmp_ge (tgt := 20) hx hb (by omega) (by omega) dJ7_fill_53178_7 (by decide) (fun c_7 => ?_) (fun c_7 => ?_)
  · have e9 : x5 = 256 := by omega
    rw [e9] at hP hD
    exact g_retv hx hb hr hlocks (flN N 2 256 v, J) rfl hP hS dJ7_fill_53178_20
  · refine lv_aload_n hx hb dJ7_fill_53178_10 rfl (lv_at hl 0 rfl) ?_
    refine lv_iload_n hx hb dJ7_fill_53178_11 rfl (lv_at hl 3 rfl) ?_
    refine lv_iload_n hx hb dJ7_fill_53178_12 rfl (lv_at hl 1 rfl) ?_
    refine ss_2 hx hb hK hP hD hS (by omega) dJ7_fill_53178_13 (fun H locs hP hD hS => ?_)
    refine lv_iinc (v := nI (x5 + 1)) (lv' := [(2, .int (nI (x5 + 1))), (0, .ref (a 6)), (1, .int (nI (v))), (3, .int (nI (256)))]) hx hb dJ7_fill_53178_14 hl (k := 3) rfl (nI_1 _) (by decide) rfl (fun ls hl => ?_)
    refine lv_goto (tgt := 5) hx hb dJ7_fill_53178_17 (by decide) ?_
    rw [flN_s] at hP hD
    exact jn_5 (x5 + 1) ls _ _ (by omega) (by omega) (lv_sub hl [1, 2, 3, 0] rfl) hP hD hS
set_option maxHeartbeats 4000000 in
set_option maxRecDepth 100000 in
theorem tF_s_3 (l : Launch) (dC : Nat → ClassId) (dI : Nat → Nat → Nat) (a : Nat → Nat) (cI cL cZ : ClassId) (N : Nat → Nat → Nat) (J : Nat → Nat → Int64) (v : Nat)  : MetV l yJ7_fill_53178 wsJ7_fill_53178 ({ frames := 0, cells := 0, slots := 0, locals := 0 } : Room) dC dI (gT cI cL cZ) (sF a cI cL cZ) (sL a) (N, J) [.ref (a 7), .int (nI (v))] (fun u => u = (flN N 3 256 v, J)) := by
  intro sz
  refine g_entry (bytes := cJ7_fill_53178) (maxL := 4) (ret := none) (Qc := fun sz => va_Qv (fun u => u = (flN N 3 256 v, J)) (gB dC dI (sF a cI cL cZ)) (aA (sL a) sz)) (by decide) rfl (Nat.le_of_ble_eq_true rfl) rfl ?_
  intro p e s m below meth c ls hx hb hr hml hts hown hlocks hK hP hD hS hZ hl
  have hP : va_P (dC, dI) vwCl (sW a cI cL cZ N J) s.heap := hP
  have hD : va_D (aA (sL a) s.heap.size) (sW a cI cL cZ N J) := hD
  have hown : s.vm.findClass RJ7 = some m.cls := hown
  have hl : lv_has ls 4 [(0, .ref (a 7)), (1, .int (nI (v)))] := hl
  have hP : va_P (dC, dI) vwCl (sW a cI cL cZ (flN N 3 0 v) J) s.heap := by rw [flN_0]; exact hP
  have hD : va_D (aA (sL a) s.heap.size) (sW a cI cL cZ (flN N 3 0 v) J) := by rw [flN_0]; exact hD
  refine lv_iconst (v := nI 0) hx hb dJ7_fill_53178_0 (by decide) ?_
  refine lv_istore_n (lv' := [(2, .int (nI (0))), (0, .ref (a 7)), (1, .int (nI (v)))]) hx hb dJ7_fill_53178_1 rfl hl (by decide) rfl (fun ls hl => ?_)
  refine lv_aload_n hx hb dJ7_fill_53178_2 rfl (lv_at hl 1 rfl) ?_
  refine va_alen (v := nI 256) hx hb hK hP 4 0 rfl rfl rfl dJ7_fill_53178_3 ?_
  refine lv_istore_n (lv' := [(3, .int (nI (256))), (2, .int (nI (0))), (0, .ref (a 7)), (1, .int (nI (v)))]) hx hb dJ7_fill_53178_4 rfl hl (by decide) rfl (fun ls hl => ?_)
  refine w_loopH (X := Nat) (μ := fun x5 => 256 - x5) (dC := dC) (dI := dI) (A := aA (sL a) s.heap.size) (H0 := s.heap) (Wf := sF a cI cL cZ) (u := fun x5 => ((flN N 3 x5 v), J)) (P := fun x5 => x5 ≤ 256) (pj := 5) (nL := 4) (lv := fun x5 => [(0, .ref (a 7)), (1, .int (nI (v))), (3, .int (nI (256))), (2, .int (nI (x5)))]) (st := fun x5 => []) (fun x5 ls H locs ex5 hl hP hD hS jn_5 => ?_) 0 ls (by omega) (lv_sub hl [2, 3, 0, 1] rfl) hP hD hS
  have ex5 : x5 ≤ 256 := ex5
  have hl : lv_has ls 4 [(0, .ref (a 7)), (1, .int (nI (v))), (3, .int (nI (256))), (2, .int (nI (x5)))] := hl
  have hP : va_P (dC, dI) vwCl (sW a cI cL cZ (flN N 3 x5 v) J) H := hP
  have hD : va_D (aA (sL a) s.heap.size) (sW a cI cL cZ (flN N 3 x5 v) J) := hD
  refine lv_iload_n hx hb dJ7_fill_53178_5 rfl (lv_at hl 3 rfl) ?_
  refine lv_iload_n hx hb dJ7_fill_53178_6 rfl (lv_at hl 2 rfl) ?_
  refine n_icmp_ge (tgt := 20) hx hb (by omega) (by omega) dJ7_fill_53178_7 (by decide) (fun c_7 => ?_) (fun c_7 => ?_)
  · have e9 : x5 = 256 := by omega
    rw [e9] at hP hD
    exact g_retv hx hb hr hlocks (flN N 3 256 v, J) rfl hP hS dJ7_fill_53178_20
  · refine lv_aload_n hx hb dJ7_fill_53178_10 rfl (lv_at hl 0 rfl) ?_
    refine lv_iload_n hx hb dJ7_fill_53178_11 rfl (lv_at hl 3 rfl) ?_
    refine lv_iload_n hx hb dJ7_fill_53178_12 rfl (lv_at hl 1 rfl) ?_
    refine ss_3 hx hb hK hP hD hS (by omega) dJ7_fill_53178_13 (fun H locs hP hD hS => ?_)
    refine lv_iinc (v := nI (x5 + 1)) (lv' := [(2, .int (nI (x5 + 1))), (0, .ref (a 7)), (1, .int (nI (v))), (3, .int (nI (256)))]) hx hb dJ7_fill_53178_14 hl (k := 3) rfl (nI_1 _) (by decide) rfl (fun ls hl => ?_)
    refine lv_goto (tgt := 5) hx hb dJ7_fill_53178_17 (by decide) ?_
    rw [flN_s] at hP hD
    exact jn_5 (x5 + 1) ls _ _ (by omega) (by omega) (lv_sub hl [1, 2, 3, 0] rfl) hP hD hS
set_option maxHeartbeats 4000000 in
set_option maxRecDepth 100000 in
theorem tF_s_4 (l : Launch) (dC : Nat → ClassId) (dI : Nat → Nat → Nat) (a : Nat → Nat) (cI cL cZ : ClassId) (N : Nat → Nat → Nat) (J : Nat → Nat → Int64) (v : Nat)  : MetV l yJ7_fill_53178 wsJ7_fill_53178 ({ frames := 0, cells := 0, slots := 0, locals := 0 } : Room) dC dI (gT cI cL cZ) (sF a cI cL cZ) (sL a) (N, J) [.ref (a 8), .int (nI (v))] (fun u => u = (flN N 4 6 v, J)) := by
  intro sz
  refine g_entry (bytes := cJ7_fill_53178) (maxL := 4) (ret := none) (Qc := fun sz => va_Qv (fun u => u = (flN N 4 6 v, J)) (gB dC dI (sF a cI cL cZ)) (aA (sL a) sz)) (by decide) rfl (Nat.le_of_ble_eq_true rfl) rfl ?_
  intro p e s m below meth c ls hx hb hr hml hts hown hlocks hK hP hD hS hZ hl
  have hP : va_P (dC, dI) vwCl (sW a cI cL cZ N J) s.heap := hP
  have hD : va_D (aA (sL a) s.heap.size) (sW a cI cL cZ N J) := hD
  have hown : s.vm.findClass RJ7 = some m.cls := hown
  have hl : lv_has ls 4 [(0, .ref (a 8)), (1, .int (nI (v)))] := hl
  have hP : va_P (dC, dI) vwCl (sW a cI cL cZ (flN N 4 0 v) J) s.heap := by rw [flN_0]; exact hP
  have hD : va_D (aA (sL a) s.heap.size) (sW a cI cL cZ (flN N 4 0 v) J) := by rw [flN_0]; exact hD
  refine lv_iconst (v := nI 0) hx hb dJ7_fill_53178_0 (by decide) ?_
  refine lv_istore_n (lv' := [(2, .int (nI (0))), (0, .ref (a 8)), (1, .int (nI (v)))]) hx hb dJ7_fill_53178_1 rfl hl (by decide) rfl (fun ls hl => ?_)
  refine lv_aload_n hx hb dJ7_fill_53178_2 rfl (lv_at hl 1 rfl) ?_
  refine va_alen (v := nI 6) hx hb hK hP 5 0 rfl rfl rfl dJ7_fill_53178_3 ?_
  refine lv_istore_n (lv' := [(3, .int (nI (6))), (2, .int (nI (0))), (0, .ref (a 8)), (1, .int (nI (v)))]) hx hb dJ7_fill_53178_4 rfl hl (by decide) rfl (fun ls hl => ?_)
  refine w_loopH (X := Nat) (μ := fun x5 => 6 - x5) (dC := dC) (dI := dI) (A := aA (sL a) s.heap.size) (H0 := s.heap) (Wf := sF a cI cL cZ) (u := fun x5 => ((flN N 4 x5 v), J)) (P := fun x5 => x5 ≤ 6) (pj := 5) (nL := 4) (lv := fun x5 => [(0, .ref (a 8)), (1, .int (nI (v))), (3, .int (nI (6))), (2, .int (nI (x5)))]) (st := fun x5 => []) (fun x5 ls H locs ex5 hl hP hD hS jn_5 => ?_) 0 ls (by omega) (lv_sub hl [2, 3, 0, 1] rfl) hP hD hS
  have ex5 : x5 ≤ 6 := ex5
  have hl : lv_has ls 4 [(0, .ref (a 8)), (1, .int (nI (v))), (3, .int (nI (6))), (2, .int (nI (x5)))] := hl
  have hP : va_P (dC, dI) vwCl (sW a cI cL cZ (flN N 4 x5 v) J) H := hP
  have hD : va_D (aA (sL a) s.heap.size) (sW a cI cL cZ (flN N 4 x5 v) J) := hD
  refine lv_iload_n hx hb dJ7_fill_53178_5 rfl (lv_at hl 3 rfl) ?_
  refine lv_iload_n hx hb dJ7_fill_53178_6 rfl (lv_at hl 2 rfl) ?_
  refine n_icmp_ge (tgt := 20) hx hb (by omega) (by omega) dJ7_fill_53178_7 (by decide) (fun c_7 => ?_) (fun c_7 => ?_)
  · have e9 : x5 = 6 := by omega
    rw [e9] at hP hD
    exact g_retv hx hb hr hlocks (flN N 4 6 v, J) rfl hP hS dJ7_fill_53178_20
  · refine lv_aload_n hx hb dJ7_fill_53178_10 rfl (lv_at hl 0 rfl) ?_
    refine lv_iload_n hx hb dJ7_fill_53178_11 rfl (lv_at hl 3 rfl) ?_
    refine lv_iload_n hx hb dJ7_fill_53178_12 rfl (lv_at hl 1 rfl) ?_
    refine ss_4 hx hb hK hP hD hS (by omega) dJ7_fill_53178_13 (fun H locs hP hD hS => ?_)
    refine lv_iinc (v := nI (x5 + 1)) (lv' := [(2, .int (nI (x5 + 1))), (0, .ref (a 8)), (1, .int (nI (v))), (3, .int (nI (6)))]) hx hb dJ7_fill_53178_14 hl (k := 3) rfl (nI_1 _) (by decide) rfl (fun ls hl => ?_)
    refine lv_goto (tgt := 5) hx hb dJ7_fill_53178_17 (by decide) ?_
    rw [flN_s] at hP hD
    exact jn_5 (x5 + 1) ls _ _ (by omega) (by omega) (lv_sub hl [1, 2, 3, 0] rfl) hP hD hS
set_option maxHeartbeats 4000000 in
set_option maxRecDepth 100000 in
theorem tF_s_6 (l : Launch) (dC : Nat → ClassId) (dI : Nat → Nat → Nat) (a : Nat → Nat) (cI cL cZ : ClassId) (N : Nat → Nat → Nat) (J : Nat → Nat → Int64) (v : Int64)  : MetV l yJ7_fill_d0a16 wsJ7_fill_d0a16 ({ frames := 0, cells := 0, slots := 0, locals := 0 } : Room) dC dI (gT cI cL cZ) (sF a cI cL cZ) (sL a) (N, J) [.ref (a 10), .long (v)] (fun u => u = (N, flJ J 6 16 v)) := by
  intro sz
  refine g_entry (bytes := cJ7_fill_d0a16) (maxL := 5) (ret := none) (Qc := fun sz => va_Qv (fun u => u = (N, flJ J 6 16 v)) (gB dC dI (sF a cI cL cZ)) (aA (sL a) sz)) (by decide) rfl (Nat.le_of_ble_eq_true rfl) rfl ?_
  intro p e s m below meth c ls hx hb hr hml hts hown hlocks hK hP hD hS hZ hl
  have hP : va_P (dC, dI) vwCl (sW a cI cL cZ N J) s.heap := hP
  have hD : va_D (aA (sL a) s.heap.size) (sW a cI cL cZ N J) := hD
  have hown : s.vm.findClass RJ7 = some m.cls := hown
  have hl : lv_has ls 5 [(0, .ref (a 10)), (1, .long (v))] := hl
  have hP : va_P (dC, dI) vwCl (sW a cI cL cZ N (flJ J 6 0 v)) s.heap := by rw [flJ_0]; exact hP
  have hD : va_D (aA (sL a) s.heap.size) (sW a cI cL cZ N (flJ J 6 0 v)) := by rw [flJ_0]; exact hD
  refine lv_iconst (v := nI 0) hx hb dJ7_fill_d0a16_0 (by decide) ?_
  refine lv_istore_n (lv' := [(3, .int (nI (0))), (0, .ref (a 10)), (1, .long (v))]) hx hb dJ7_fill_d0a16_1 rfl hl (by decide) rfl (fun ls hl => ?_)
  refine lv_aload_n hx hb dJ7_fill_d0a16_2 rfl (lv_at hl 1 rfl) ?_
  refine va_alen (v := nI 16) hx hb hK hP 7 1 rfl rfl rfl dJ7_fill_d0a16_3 ?_
  refine lv_istore (lv' := [(4, .int (nI (16))), (3, .int (nI (0))), (0, .ref (a 10)), (1, .long (v))]) hx hb dJ7_fill_d0a16_4 hl (by decide) rfl (fun ls hl => ?_)
  refine w_loopH (X := Nat) (μ := fun x6 => 16 - x6) (dC := dC) (dI := dI) (A := aA (sL a) s.heap.size) (H0 := s.heap) (Wf := sF a cI cL cZ) (u := fun x6 => (N, (flJ J 6 x6 v))) (P := fun x6 => x6 ≤ 16) (pj := 6) (nL := 5) (lv := fun x6 => [(0, .ref (a 10)), (1, .long (v)), (4, .int (nI (16))), (3, .int (nI (x6)))]) (st := fun x6 => []) (fun x6 ls H locs ex6 hl hP hD hS jn_6 => ?_) 0 ls (by omega) (lv_sub hl [2, 3, 0, 1] rfl) hP hD hS
  have ex6 : x6 ≤ 16 := ex6
  have hl : lv_has ls 5 [(0, .ref (a 10)), (1, .long (v)), (4, .int (nI (16))), (3, .int (nI (x6)))] := hl
  have hP : va_P (dC, dI) vwCl (sW a cI cL cZ N (flJ J 6 x6 v)) H := hP
  have hD : va_D (aA (sL a) s.heap.size) (sW a cI cL cZ N (flJ J 6 x6 v)) := hD
  refine lv_iload_n hx hb dJ7_fill_d0a16_6 rfl (lv_at hl 3 rfl) ?_
  refine lv_iload hx hb dJ7_fill_d0a16_7 (lv_at hl 2 rfl) ?_
  refine n_icmp_ge (tgt := 22) hx hb (by omega) (by omega) dJ7_fill_d0a16_9 (by decide) (fun c_9 => ?_) (fun c_9 => ?_)
  · have e9 : x6 = 16 := by omega
    rw [e9] at hP hD
    exact g_retv hx hb hr hlocks (N, flJ J 6 16 v) rfl hP hS dJ7_fill_d0a16_22
  · refine lv_aload_n hx hb dJ7_fill_d0a16_12 rfl (lv_at hl 0 rfl) ?_
    refine lv_iload_n hx hb dJ7_fill_d0a16_13 rfl (lv_at hl 3 rfl) ?_
    refine lv_lload_n hx hb dJ7_fill_d0a16_14 rfl (lv_at hl 1 rfl) ?_
    refine ss_6 hx hb hK hP hD hS (by omega) dJ7_fill_d0a16_15 (fun H locs hP hD hS => ?_)
    refine lv_iinc (v := nI (x6 + 1)) (lv' := [(3, .int (nI (x6 + 1))), (0, .ref (a 10)), (1, .long (v)), (4, .int (nI (16)))]) hx hb dJ7_fill_d0a16_16 hl (k := 3) rfl (nI_1 _) (by decide) rfl (fun ls hl => ?_)
    refine lv_goto (tgt := 6) hx hb dJ7_fill_d0a16_19 (by decide) ?_
    rw [flJ_s] at hP hD
    exact jn_6 (x6 + 1) ls _ _ (by omega) (by omega) (lv_sub hl [1, 2, 3, 0] rfl) hP hD hS
set_option maxHeartbeats 4000000 in
set_option maxRecDepth 100000 in
theorem tF_s_7 (l : Launch) (dC : Nat → ClassId) (dI : Nat → Nat → Nat) (a : Nat → Nat) (cI cL cZ : ClassId) (N : Nat → Nat → Nat) (J : Nat → Nat → Int64) (v : Int64)  : MetV l yJ7_fill_d0a16 wsJ7_fill_d0a16 ({ frames := 0, cells := 0, slots := 0, locals := 0 } : Room) dC dI (gT cI cL cZ) (sF a cI cL cZ) (sL a) (N, J) [.ref (a 11), .long (v)] (fun u => u = (N, flJ J 7 256 v)) := by
  intro sz
  refine g_entry (bytes := cJ7_fill_d0a16) (maxL := 5) (ret := none) (Qc := fun sz => va_Qv (fun u => u = (N, flJ J 7 256 v)) (gB dC dI (sF a cI cL cZ)) (aA (sL a) sz)) (by decide) rfl (Nat.le_of_ble_eq_true rfl) rfl ?_
  intro p e s m below meth c ls hx hb hr hml hts hown hlocks hK hP hD hS hZ hl
  have hP : va_P (dC, dI) vwCl (sW a cI cL cZ N J) s.heap := hP
  have hD : va_D (aA (sL a) s.heap.size) (sW a cI cL cZ N J) := hD
  have hown : s.vm.findClass RJ7 = some m.cls := hown
  have hl : lv_has ls 5 [(0, .ref (a 11)), (1, .long (v))] := hl
  have hP : va_P (dC, dI) vwCl (sW a cI cL cZ N (flJ J 7 0 v)) s.heap := by rw [flJ_0]; exact hP
  have hD : va_D (aA (sL a) s.heap.size) (sW a cI cL cZ N (flJ J 7 0 v)) := by rw [flJ_0]; exact hD
  refine lv_iconst (v := nI 0) hx hb dJ7_fill_d0a16_0 (by decide) ?_
  refine lv_istore_n (lv' := [(3, .int (nI (0))), (0, .ref (a 11)), (1, .long (v))]) hx hb dJ7_fill_d0a16_1 rfl hl (by decide) rfl (fun ls hl => ?_)
  refine lv_aload_n hx hb dJ7_fill_d0a16_2 rfl (lv_at hl 1 rfl) ?_
  refine va_alen (v := nI 256) hx hb hK hP 8 1 rfl rfl rfl dJ7_fill_d0a16_3 ?_
  refine lv_istore (lv' := [(4, .int (nI (256))), (3, .int (nI (0))), (0, .ref (a 11)), (1, .long (v))]) hx hb dJ7_fill_d0a16_4 hl (by decide) rfl (fun ls hl => ?_)
  refine w_loopH (X := Nat) (μ := fun x6 => 256 - x6) (dC := dC) (dI := dI) (A := aA (sL a) s.heap.size) (H0 := s.heap) (Wf := sF a cI cL cZ) (u := fun x6 => (N, (flJ J 7 x6 v))) (P := fun x6 => x6 ≤ 256) (pj := 6) (nL := 5) (lv := fun x6 => [(0, .ref (a 11)), (1, .long (v)), (4, .int (nI (256))), (3, .int (nI (x6)))]) (st := fun x6 => []) (fun x6 ls H locs ex6 hl hP hD hS jn_6 => ?_) 0 ls (by omega) (lv_sub hl [2, 3, 0, 1] rfl) hP hD hS
  have ex6 : x6 ≤ 256 := ex6
  have hl : lv_has ls 5 [(0, .ref (a 11)), (1, .long (v)), (4, .int (nI (256))), (3, .int (nI (x6)))] := hl
  have hP : va_P (dC, dI) vwCl (sW a cI cL cZ N (flJ J 7 x6 v)) H := hP
  have hD : va_D (aA (sL a) s.heap.size) (sW a cI cL cZ N (flJ J 7 x6 v)) := hD
  refine lv_iload_n hx hb dJ7_fill_d0a16_6 rfl (lv_at hl 3 rfl) ?_
  refine lv_iload hx hb dJ7_fill_d0a16_7 (lv_at hl 2 rfl) ?_
  refine n_icmp_ge (tgt := 22) hx hb (by omega) (by omega) dJ7_fill_d0a16_9 (by decide) (fun c_9 => ?_) (fun c_9 => ?_)
  · have e9 : x6 = 256 := by omega
    rw [e9] at hP hD
    exact g_retv hx hb hr hlocks (N, flJ J 7 256 v) rfl hP hS dJ7_fill_d0a16_22
  · refine lv_aload_n hx hb dJ7_fill_d0a16_12 rfl (lv_at hl 0 rfl) ?_
    refine lv_iload_n hx hb dJ7_fill_d0a16_13 rfl (lv_at hl 3 rfl) ?_
    refine lv_lload_n hx hb dJ7_fill_d0a16_14 rfl (lv_at hl 1 rfl) ?_
    refine ss_7 hx hb hK hP hD hS (by omega) dJ7_fill_d0a16_15 (fun H locs hP hD hS => ?_)
    refine lv_iinc (v := nI (x6 + 1)) (lv' := [(3, .int (nI (x6 + 1))), (0, .ref (a 11)), (1, .long (v)), (4, .int (nI (256)))]) hx hb dJ7_fill_d0a16_16 hl (k := 3) rfl (nI_1 _) (by decide) rfl (fun ls hl => ?_)
    refine lv_goto (tgt := 6) hx hb dJ7_fill_d0a16_19 (by decide) ?_
    rw [flJ_s] at hP hD
    exact jn_6 (x6 + 1) ls _ _ (by omega) (by omega) (lv_sub hl [1, 2, 3, 0] rfl) hP hD hS
def xB1 (N : Nat → Nat → Nat) : Nat → Nat → Nat := flN (flN (flN (uN (uN (uN N 22 0 0) 23 0 0) 24 0 0) 25 4 0) 26 16 0) 27 16 0
def xB2 (N : Nat → Nat → Nat) : Nat → Nat → Nat := uN (uN (uN (uN (flN (xB1 N) 29 16 0) 30 0 0) 31 0 0) 33 0 0) 34 0 0
def xBN (N : Nat → Nat → Nat) : Nat → Nat → Nat := flN (flN (xB2 N) 36 108 0) 37 384 0
def xBJ (J : Nat → Nat → Int64) : Nat → Nat → Int64 := uJ (flJ J 28 16 0) 32 0 0
set_option maxHeartbeats 4000000 in
set_option maxRecDepth 100000 in
theorem tB_begin (l : Launch) (dC : Nat → ClassId) (dI : Nat → Nat → Nat) (a : Nat → Nat) (cI cL cZ : ClassId) (N : Nat → Nat → Nat) (J : Nat → Nat → Int64)   : MetV l yX0_begin wsX0_begin ({ frames := 1, cells := 0, slots := 0, locals := 24 } : Room) dC dI (gT cI cL cZ) (xF a cI cL cZ) (xL a) (N, J) [.ref (a 3)] (fun u => u = (xBN N, xBJ J)) := by
  intro sz
  refine g_entry (bytes := cX0_begin) (maxL := 1) (ret := none) (Qc := fun sz => va_Qv (fun u => u = (xBN N, xBJ J)) (gB dC dI (xF a cI cL cZ)) (aA (xL a) sz)) (by decide) rfl (Nat.le_of_ble_eq_true rfl) rfl ?_
  intro p e s m below meth c ls hx hb hr hml hts hown hlocks hK hP hD hS hZ hl
  have hP : va_P (dC, dI) vwCl (xW a cI cL cZ N J) s.heap := hP
  have hD : va_D (aA (xL a) s.heap.size) (xW a cI cL cZ N J) := hD
  have hown : s.vm.findClass RX0 = some m.cls := hown
  have hl : lv_has ls 1 [(0, .ref (a 3))] := hl
  have hi0 : ∀ w ∈ wsX00, w ∈ wsX0_begin := by decide +kernel
  have k15 := hts (.fieldLink RX0 15 "ScoreMachine$Board" "writer" "[I") (by decide +kernel)
  have k18 := hts (.fieldLink RX0 18 "ScoreMachine$Board" "writtenAt" "[I") (by decide +kernel)
  have k21 := hts (.fieldLink RX0 21 "ScoreMachine$Board" "heldBefore" "[J") (by decide +kernel)
  have k25 := hts (.fieldLink RX0 25 "ScoreMachine$Board" "readAt" "[I") (by decide +kernel)
  have k31 := hts (.fieldLink RX0 31 "ScoreMachine$Board" "unitRows" "[I") (by decide +kernel)
  have k34 := hts (.fieldLink RX0 34 "ScoreMachine$Board" "issuedRows" "[I") (by decide +kernel)
  have k45 := hts (.fieldLink RX0 45 "ScoreMachine$Board" "cycle" "I") (by decide +kernel)
  have k49 := hts (.fieldLink RX0 49 "ScoreMachine$Board" "over" "Z") (by decide +kernel)
  have k53 := hts (.fieldLink RX0 53 "ScoreMachine$Board" "issued" "I") (by decide +kernel)
  have k65 := hts (.fieldLink RX0 65 "ScoreMachine$Board" "storeCell" "I") (by decide +kernel)
  have k68 := hts (.fieldLink RX0 68 "ScoreMachine$Board" "storeWritten" "I") (by decide +kernel)
  have k71 := hts (.fieldLink RX0 71 "ScoreMachine$Board" "storeBefore" "J") (by decide +kernel)
  have k75 := hts (.fieldLink RX0 75 "ScoreMachine$Board" "branchWritten" "I") (by decide +kernel)
  have k78 := hts (.fieldLink RX0 78 "ScoreMachine$Board" "lastWritten" "I") (by decide +kernel)
  have k9 := hts (.fieldLink RX0 9 "ScoreMachine$Board" "stalls" "[I") (by decide +kernel)
  refine lv_aload_n hx hb dX0_begin_0 rfl (lv_at hl 0 rfl) ?_
  refine lv_iconst (v := nI 0) hx hb dX0_begin_1 (by decide) ?_
  refine xp_22 hx hb hts hi0 hown hK hP hD hS k45 dX0_begin_2 (fun H locs hP hD hS => ?_)
  refine lv_aload_n hx hb dX0_begin_5 rfl (lv_at hl 0 rfl) ?_
  refine lv_iconst (v := nI 0) hx hb dX0_begin_6 (by decide) ?_
  refine xp_23 hx hb hts hi0 hown hK hP hD hS k49 (by decide) dX0_begin_7 (fun H locs hP hD hS => ?_)
  refine lv_aload_n hx hb dX0_begin_10 rfl (lv_at hl 0 rfl) ?_
  refine lv_iconst (v := nI 0) hx hb dX0_begin_11 (by decide) ?_
  refine xp_24 hx hb hts hi0 hown hK hP hD hS k53 dX0_begin_12 (fun H locs hP hD hS => ?_)
  refine lv_aload_n hx hb dX0_begin_15 rfl (lv_at hl 0 rfl) ?_
  refine xg_25 hx hb hts hi0 hown hK hP k9 dX0_begin_16 ?_
  refine lv_iconst (v := nI 0) hx hb dX0_begin_19 (by decide) ?_
  refine g_callv (u := ((uN (uN (uN N 22 (0) (0)) 23 (0) (0)) 24 (0) (0)), J)) (g_runS (As := [.ref (a 14), .int (nI (0))]) (rest := []) ⟨hx, hb, hml, hown, hts⟩ (tF_x_25 l dC dI a cI cL cZ (uN (uN (uN N 22 (0) (0)) 23 (0) (0)) 24 (0) (0)) J 0 H.size) (va_cwS 2 hts gX0_begin_J7_fill_53178 rfl rfl rfl (by decide +kernel) ⟨Nat.le_of_ble_eq_true rfl, Nat.le_of_ble_eq_true rfl⟩) hK hP hD hS hZ rfl hl.1 rfl (Nat.le_of_ble_eq_true rfl) dX0_begin_20) (xW_L a cI cL cZ) hD hS (fun u H locs hw hP hD hS => ?_)
  subst hw
  have hP : va_P (dC, dI) vwCl (xW a cI cL cZ (flN (uN (uN (uN N 22 0 0) 23 0 0) 24 0 0) 25 4 0) J) H := hP
  have hD : va_D (aA (xL a) s.heap.size) (xW a cI cL cZ (flN (uN (uN (uN N 22 0 0) 23 0 0) 24 0 0) 25 4 0) J) := hD
  refine lv_aload_n hx hb dX0_begin_23 rfl (lv_at hl 0 rfl) ?_
  refine xg_26 hx hb hts hi0 hown hK hP k15 dX0_begin_24 ?_
  refine lv_iconst (v := nI 0) hx hb dX0_begin_27 (by decide) ?_
  refine g_callv (u := ((flN (uN (uN (uN N 22 0 0) 23 0 0) 24 0 0) 25 4 0), J)) (g_runS (As := [.ref (a 15), .int (nI (0))]) (rest := []) ⟨hx, hb, hml, hown, hts⟩ (tF_x_26 l dC dI a cI cL cZ (flN (uN (uN (uN N 22 0 0) 23 0 0) 24 0 0) 25 4 0) J 0 H.size) (va_cwS 2 hts gX0_begin_J7_fill_53178 rfl rfl rfl (by decide +kernel) ⟨Nat.le_of_ble_eq_true rfl, Nat.le_of_ble_eq_true rfl⟩) hK hP hD hS hZ rfl hl.1 rfl (Nat.le_of_ble_eq_true rfl) dX0_begin_28) (xW_L a cI cL cZ) hD hS (fun u H locs hw hP hD hS => ?_)
  subst hw
  have hP : va_P (dC, dI) vwCl (xW a cI cL cZ (flN (flN (uN (uN (uN N 22 0 0) 23 0 0) 24 0 0) 25 4 0) 26 16 0) J) H := hP
  have hD : va_D (aA (xL a) s.heap.size) (xW a cI cL cZ (flN (flN (uN (uN (uN N 22 0 0) 23 0 0) 24 0 0) 25 4 0) 26 16 0) J) := hD
  refine lv_aload_n hx hb dX0_begin_31 rfl (lv_at hl 0 rfl) ?_
  refine xg_27 hx hb hts hi0 hown hK hP k18 dX0_begin_32 ?_
  refine lv_iconst (v := nI 0) hx hb dX0_begin_35 (by decide) ?_
  refine g_callv (u := ((flN (flN (uN (uN (uN N 22 0 0) 23 0 0) 24 0 0) 25 4 0) 26 16 0), J)) (g_runS (As := [.ref (a 16), .int (nI (0))]) (rest := []) ⟨hx, hb, hml, hown, hts⟩ (tF_x_27 l dC dI a cI cL cZ (flN (flN (uN (uN (uN N 22 0 0) 23 0 0) 24 0 0) 25 4 0) 26 16 0) J 0 H.size) (va_cwS 2 hts gX0_begin_J7_fill_53178 rfl rfl rfl (by decide +kernel) ⟨Nat.le_of_ble_eq_true rfl, Nat.le_of_ble_eq_true rfl⟩) hK hP hD hS hZ rfl hl.1 rfl (Nat.le_of_ble_eq_true rfl) dX0_begin_36) (xW_L a cI cL cZ) hD hS (fun u H locs hw hP hD hS => ?_)
  subst hw
  have hP : va_P (dC, dI) vwCl (xW a cI cL cZ (xB1 N) J) H := hP
  have hD : va_D (aA (xL a) s.heap.size) (xW a cI cL cZ (xB1 N) J) := hD
  refine lv_aload_n hx hb dX0_begin_39 rfl (lv_at hl 0 rfl) ?_
  refine xg_28 hx hb hts hi0 hown hK hP k21 dX0_begin_40 ?_
  refine lv_lconst (v := 0) hx hb dX0_begin_43 (by decide) ?_
  refine g_callv (u := ((xB1 N), J)) (g_runS (As := [.ref (a 17), .long (0)]) (rest := []) ⟨hx, hb, hml, hown, hts⟩ (tF_x_28 l dC dI a cI cL cZ (xB1 N) J 0 H.size) (va_cwS 2 hts gX0_begin_J7_fill_d0a16 rfl rfl rfl (by decide +kernel) ⟨Nat.le_of_ble_eq_true rfl, Nat.le_of_ble_eq_true rfl⟩) hK hP hD hS hZ rfl hl.1 rfl (Nat.le_of_ble_eq_true rfl) dX0_begin_44) (xW_L a cI cL cZ) hD hS (fun u H locs hw hP hD hS => ?_)
  subst hw
  have hP : va_P (dC, dI) vwCl (xW a cI cL cZ (xB1 N) (flJ J 28 16 0)) H := hP
  have hD : va_D (aA (xL a) s.heap.size) (xW a cI cL cZ (xB1 N) (flJ J 28 16 0)) := hD
  refine lv_aload_n hx hb dX0_begin_47 rfl (lv_at hl 0 rfl) ?_
  refine xg_29 hx hb hts hi0 hown hK hP k25 dX0_begin_48 ?_
  refine lv_iconst (v := nI 0) hx hb dX0_begin_51 (by decide) ?_
  refine g_callv (u := ((xB1 N), (flJ J 28 16 0))) (g_runS (As := [.ref (a 18), .int (nI (0))]) (rest := []) ⟨hx, hb, hml, hown, hts⟩ (tF_x_29 l dC dI a cI cL cZ (xB1 N) (flJ J 28 16 0) 0 H.size) (va_cwS 2 hts gX0_begin_J7_fill_53178 rfl rfl rfl (by decide +kernel) ⟨Nat.le_of_ble_eq_true rfl, Nat.le_of_ble_eq_true rfl⟩) hK hP hD hS hZ rfl hl.1 rfl (Nat.le_of_ble_eq_true rfl) dX0_begin_52) (xW_L a cI cL cZ) hD hS (fun u H locs hw hP hD hS => ?_)
  subst hw
  have hP : va_P (dC, dI) vwCl (xW a cI cL cZ (flN (xB1 N) 29 16 0) (flJ J 28 16 0)) H := hP
  have hD : va_D (aA (xL a) s.heap.size) (xW a cI cL cZ (flN (xB1 N) 29 16 0) (flJ J 28 16 0)) := hD
  refine lv_aload_n hx hb dX0_begin_55 rfl (lv_at hl 0 rfl) ?_
  refine lv_iconst (v := nI 0) hx hb dX0_begin_56 (by decide) ?_
  refine xp_30 hx hb hts hi0 hown hK hP hD hS k65 dX0_begin_57 (fun H locs hP hD hS => ?_)
  refine lv_aload_n hx hb dX0_begin_60 rfl (lv_at hl 0 rfl) ?_
  refine lv_iconst (v := nI 0) hx hb dX0_begin_61 (by decide) ?_
  refine xp_31 hx hb hts hi0 hown hK hP hD hS k68 dX0_begin_62 (fun H locs hP hD hS => ?_)
  refine lv_aload_n hx hb dX0_begin_65 rfl (lv_at hl 0 rfl) ?_
  refine lv_lconst (v := 0) hx hb dX0_begin_66 (by decide) ?_
  refine xp_32 hx hb hts hi0 hown hK hP hD hS k71 dX0_begin_67 (fun H locs hP hD hS => ?_)
  refine lv_aload_n hx hb dX0_begin_70 rfl (lv_at hl 0 rfl) ?_
  refine lv_iconst (v := nI 0) hx hb dX0_begin_71 (by decide) ?_
  refine xp_33 hx hb hts hi0 hown hK hP hD hS k75 dX0_begin_72 (fun H locs hP hD hS => ?_)
  refine lv_aload_n hx hb dX0_begin_75 rfl (lv_at hl 0 rfl) ?_
  refine lv_iconst (v := nI 0) hx hb dX0_begin_76 (by decide) ?_
  refine xp_34 hx hb hts hi0 hown hK hP hD hS k78 dX0_begin_77 (fun H locs hP hD hS => ?_)
  refine lv_aload_n hx hb dX0_begin_80 rfl (lv_at hl 0 rfl) ?_
  refine xg_36 hx hb hts hi0 hown hK hP k31 dX0_begin_81 ?_
  refine lv_iconst (v := nI 0) hx hb dX0_begin_84 (by decide) ?_
  refine g_callv (u := ((uN (uN (uN (uN (flN (xB1 N) 29 16 0) 30 (0) (0)) 31 (0) (0)) 33 (0) (0)) 34 (0) (0)), (uJ (flJ J 28 16 0) 32 (0) (0)))) (g_runS (As := [.ref (a 20), .int (nI (0))]) (rest := []) ⟨hx, hb, hml, hown, hts⟩ (tF_x_36 l dC dI a cI cL cZ (uN (uN (uN (uN (flN (xB1 N) 29 16 0) 30 (0) (0)) 31 (0) (0)) 33 (0) (0)) 34 (0) (0)) (uJ (flJ J 28 16 0) 32 (0) (0)) 0 H.size) (va_cwS 2 hts gX0_begin_J7_fill_53178 rfl rfl rfl (by decide +kernel) ⟨Nat.le_of_ble_eq_true rfl, Nat.le_of_ble_eq_true rfl⟩) hK hP hD hS hZ rfl hl.1 rfl (Nat.le_of_ble_eq_true rfl) dX0_begin_85) (xW_L a cI cL cZ) hD hS (fun u H locs hw hP hD hS => ?_)
  subst hw
  have hP : va_P (dC, dI) vwCl (xW a cI cL cZ (flN (xB2 N) 36 108 0) (xBJ J)) H := hP
  have hD : va_D (aA (xL a) s.heap.size) (xW a cI cL cZ (flN (xB2 N) 36 108 0) (xBJ J)) := hD
  refine lv_aload_n hx hb dX0_begin_88 rfl (lv_at hl 0 rfl) ?_
  refine xg_37 hx hb hts hi0 hown hK hP k34 dX0_begin_89 ?_
  refine lv_iconst (v := nI 0) hx hb dX0_begin_92 (by decide) ?_
  refine g_callv (u := ((flN (xB2 N) 36 108 0), (xBJ J))) (g_runS (As := [.ref (a 21), .int (nI (0))]) (rest := []) ⟨hx, hb, hml, hown, hts⟩ (tF_x_37 l dC dI a cI cL cZ (flN (xB2 N) 36 108 0) (xBJ J) 0 H.size) (va_cwS 2 hts gX0_begin_J7_fill_53178 rfl rfl rfl (by decide +kernel) ⟨Nat.le_of_ble_eq_true rfl, Nat.le_of_ble_eq_true rfl⟩) hK hP hD hS hZ rfl hl.1 rfl (Nat.le_of_ble_eq_true rfl) dX0_begin_93) (xW_L a cI cL cZ) hD hS (fun u H locs hw hP hD hS => ?_)
  subst hw
  have hP : va_P (dC, dI) vwCl (xW a cI cL cZ (xBN N) (xBJ J)) H := hP
  have hD : va_D (aA (xL a) s.heap.size) (xW a cI cL cZ (xBN N) (xBJ J)) := hD
  exact g_retv hx hb hr hlocks ((xBN N), (xBJ J)) (rfl) hP hS dX0_begin_96
set_option maxHeartbeats 4000000 in
set_option maxRecDepth 100000 in
theorem tP_begin (l : Launch) (dC : Nat → ClassId) (dI : Nat → Nat → Nat) (a : Nat → Nat) (cI cL cZ : ClassId) (N : Nat → Nat → Nat) (J : Nat → Nat → Int64)   : MetV l yX1_begin wsX1_begin ({ frames := 1, cells := 0, slots := 0, locals := 40 } : Room) dC dI (gT cI cL cZ) (xF a cI cL cZ) (xL a) (N, J) [.ref (a 2)] (fun u => u = (uN N 13 0 0, cqJ (cqJ J 6 11 16) 7 12 256)) := by
  intro sz
  refine g_entry (bytes := cX1_begin) (maxL := 1) (ret := none) (Qc := fun sz => va_Qv (fun u => u = (uN N 13 0 0, cqJ (cqJ J 6 11 16) 7 12 256)) (gB dC dI (xF a cI cL cZ)) (aA (xL a) sz)) (by decide) rfl (Nat.le_of_ble_eq_true rfl) rfl ?_
  intro p e s m below meth c ls hx hb hr hml hts hown hlocks hK hP hD hS hZ hl
  have hP : va_P (dC, dI) vwCl (xW a cI cL cZ N J) s.heap := hP
  have hD : va_D (aA (xL a) s.heap.size) (xW a cI cL cZ N J) := hD
  have hown : s.vm.findClass RX1 = some m.cls := hown
  have hl : lv_has ls 1 [(0, .ref (a 2))] := hl
  have hi1 : ∀ w ∈ wsX10, w ∈ wsX1_begin := by decide +kernel
  have hi2 : ∀ w ∈ wsX20, w ∈ wsX1_begin := by decide +kernel
  have k15 := hts (.fieldLink RX1 15 "ScoreMachine$PlainMachine" "memory" "[J") (by decide +kernel)
  have k18 := hts (.fieldLink RX1 18 "ScoreMachine$PlainMachine" "setup" "LScoreMachine$Setup;") (by decide +kernel)
  have k22 := hts (.fieldLink RX1 22 "ScoreMachine$Setup" "registers" "[J") (by decide +kernel)
  have k31 := hts (.fieldLink RX1 31 "ScoreMachine$Setup" "memory" "[J") (by decide +kernel)
  have k32 := hts (.fieldLink RX1 32 "ScoreMachine$PlainMachine" "place" "I") (by decide +kernel)
  have k9 := hts (.fieldLink RX1 9 "ScoreMachine$PlainMachine" "registers" "[J") (by decide +kernel)
  refine lv_aload_n hx hb dX1_begin_0 rfl (lv_at hl 0 rfl) ?_
  refine xg_10 hx hb hts hi1 hown hK hP k18 dX1_begin_1 ?_
  refine xg_6 hx hb hts hi2 hown hK hP k22 dX1_begin_4 ?_
  refine lv_iconst (v := nI 0) hx hb dX1_begin_7 (by decide) ?_
  refine lv_aload_n hx hb dX1_begin_8 rfl (lv_at hl 0 rfl) ?_
  refine xg_11 hx hb hts hi1 hown hK hP k9 dX1_begin_9 ?_
  refine lv_iconst (v := nI 0) hx hb dX1_begin_12 (by decide) ?_
  refine lv_bipush (v := nI 16) hx hb dX1_begin_13 (by decide) ?_
  refine x_cp11 hx hb (hml.trans hl.1.symm) hown (hts (.methodLink RX1 25 arraycopyName) (by decide +kernel)) (hts (.native arraycopyName) (by decide +kernel)) (hts (.static arraycopyName) (by decide +kernel)) (hts (.initialized "java/lang/System") (by decide +kernel)) hK hP hD hS (Nat.le_of_ble_eq_true rfl) (Nat.le_of_ble_eq_true rfl) dX1_begin_15 (fun H locs hP hD hS => ?_)
  refine lv_aload_n hx hb dX1_begin_18 rfl (lv_at hl 0 rfl) ?_
  refine xg_10 hx hb hts hi1 hown hK hP k18 dX1_begin_19 ?_
  refine xg_7 hx hb hts hi2 hown hK hP k31 dX1_begin_22 ?_
  refine lv_iconst (v := nI 0) hx hb dX1_begin_25 (by decide) ?_
  refine lv_aload_n hx hb dX1_begin_26 rfl (lv_at hl 0 rfl) ?_
  refine xg_12 hx hb hts hi1 hown hK hP k15 dX1_begin_27 ?_
  refine lv_iconst (v := nI 0) hx hb dX1_begin_30 (by decide) ?_
  refine lv_sipush (v := nI 256) hx hb dX1_begin_31 (by decide) ?_
  refine x_cp12 hx hb (hml.trans hl.1.symm) hown (hts (.methodLink RX1 25 arraycopyName) (by decide +kernel)) (hts (.native arraycopyName) (by decide +kernel)) (hts (.static arraycopyName) (by decide +kernel)) (hts (.initialized "java/lang/System") (by decide +kernel)) hK hP hD hS (Nat.le_of_ble_eq_true rfl) (Nat.le_of_ble_eq_true rfl) dX1_begin_34 (fun H locs hP hD hS => ?_)
  refine lv_aload_n hx hb dX1_begin_37 rfl (lv_at hl 0 rfl) ?_
  refine lv_iconst (v := nI 0) hx hb dX1_begin_38 (by decide) ?_
  refine xp_13 hx hb hts hi1 hown hK hP hD hS k32 dX1_begin_39 (fun H locs hP hD hS => ?_)
  exact g_retv hx hb hr hlocks ((uN N 13 (0) (0)), (cqJ (cqJ J 6 11 16) 7 12 256)) (rfl) hP hS dX1_begin_42
def sBN (N : Nat → Nat → Nat) : Nat → Nat → Nat := uN (ltF (flN (flN (flN (flN (flN N 0 256 0) 1 256 0) 2 256 0) 3 256 0) 4 6 1)) 8 0 1
def sBJ (J : Nat → Nat → Int64) : Nat → Nat → Int64 := flJ (flJ J 6 16 0) 7 256 0
set_option maxHeartbeats 4000000 in
set_option maxRecDepth 100000 in
theorem tS_begin (l : Launch) (dC : Nat → ClassId) (dI : Nat → Nat → Nat) (a : Nat → Nat) (cI cL cZ : ClassId) (N : Nat → Nat → Nat) (J : Nat → Nat → Int64)   : MetV l yX2_begin wsX2_begin ({ frames := 1, cells := 0, slots := 0, locals := 40 } : Room) dC dI (gT cI cL cZ) (sF a cI cL cZ) (sL a) (N, J) [.ref (a 1)] (fun u => u = (sBN N, sBJ J)) := by
  intro sz
  refine g_entry (bytes := cX2_begin) (maxL := 1) (ret := none) (Qc := fun sz => va_Qv (fun u => u = (sBN N, sBJ J)) (gB dC dI (sF a cI cL cZ)) (aA (sL a) sz)) (by decide) rfl (Nat.le_of_ble_eq_true rfl) rfl ?_
  intro p e s m below meth c ls hx hb hr hml hts hown hlocks hK hP hD hS hZ hl
  have hP : va_P (dC, dI) vwCl (sW a cI cL cZ N J) s.heap := hP
  have hD : va_D (aA (sL a) s.heap.size) (sW a cI cL cZ N J) := hD
  have hown : s.vm.findClass RX2 = some m.cls := hown
  have hl : lv_has ls 1 [(0, .ref (a 1))] := hl
  have hi2 : ∀ w ∈ wsX20, w ∈ wsX2_begin := by decide +kernel
  have k15 := hts (.fieldLink RX2 15 "ScoreMachine$Setup" "ds" "[I") (by decide +kernel)
  have k18 := hts (.fieldLink RX2 18 "ScoreMachine$Setup" "as" "[I") (by decide +kernel)
  have k21 := hts (.fieldLink RX2 21 "ScoreMachine$Setup" "bs" "[I") (by decide +kernel)
  have k24 := hts (.fieldLink RX2 24 "ScoreMachine$Setup" "unitsOf" "[I") (by decide +kernel)
  have k27 := hts (.fieldLink RX2 27 "ScoreMachine$Setup" "latencies" "[I") (by decide +kernel)
  have k30 := hts (.fieldLink RX2 30 "ScoreMachine$Setup" "registers" "[J") (by decide +kernel)
  have k34 := hts (.fieldLink RX2 34 "ScoreMachine$Setup" "memory" "[J") (by decide +kernel)
  have k58 := hts (.fieldLink RX2 58 "ScoreMachine$Setup" "width" "I") (by decide +kernel)
  have k9 := hts (.fieldLink RX2 9 "ScoreMachine$Setup" "codes" "[I") (by decide +kernel)
  obtain ⟨hnest, tk, tf, -, -, hz3, hz4⟩ := id hZ
  refine lv_aload_n hx hb dX2_begin_0 rfl (lv_at hl 0 rfl) ?_
  refine sg_0 hx hb hts hi2 hown hK hP k9 dX2_begin_1 ?_
  refine lv_iconst (v := nI 0) hx hb dX2_begin_4 (by decide) ?_
  refine g_callv (u := (N, J)) (g_runS (As := [.ref (a 4), .int (nI (0))]) (rest := []) ⟨hx, hb, hml, hown, hts⟩ (tF_s_0 l dC dI a cI cL cZ N J 0 s.heap.size) (va_cwS 2 hts gX2_begin_J7_fill_53178 rfl rfl rfl (by decide +kernel) ⟨Nat.le_of_ble_eq_true rfl, Nat.le_of_ble_eq_true rfl⟩) hK hP hD hS hZ rfl hl.1 rfl (Nat.le_of_ble_eq_true rfl) dX2_begin_5) (sW_L a cI cL cZ) hD hS (fun u H locs hw hP hD hS => ?_)
  subst hw
  have hP : va_P (dC, dI) vwCl (sW a cI cL cZ (flN N 0 256 0) J) H := hP
  have hD : va_D (aA (sL a) s.heap.size) (sW a cI cL cZ (flN N 0 256 0) J) := hD
  refine lv_aload_n hx hb dX2_begin_8 rfl (lv_at hl 0 rfl) ?_
  refine sg_1 hx hb hts hi2 hown hK hP k15 dX2_begin_9 ?_
  refine lv_iconst (v := nI 0) hx hb dX2_begin_12 (by decide) ?_
  refine g_callv (u := ((flN N 0 256 0), J)) (g_runS (As := [.ref (a 5), .int (nI (0))]) (rest := []) ⟨hx, hb, hml, hown, hts⟩ (tF_s_1 l dC dI a cI cL cZ (flN N 0 256 0) J 0 H.size) (va_cwS 2 hts gX2_begin_J7_fill_53178 rfl rfl rfl (by decide +kernel) ⟨Nat.le_of_ble_eq_true rfl, Nat.le_of_ble_eq_true rfl⟩) hK hP hD hS hZ rfl hl.1 rfl (Nat.le_of_ble_eq_true rfl) dX2_begin_13) (sW_L a cI cL cZ) hD hS (fun u H locs hw hP hD hS => ?_)
  subst hw
  have hP : va_P (dC, dI) vwCl (sW a cI cL cZ (flN (flN N 0 256 0) 1 256 0) J) H := hP
  have hD : va_D (aA (sL a) s.heap.size) (sW a cI cL cZ (flN (flN N 0 256 0) 1 256 0) J) := hD
  refine lv_aload_n hx hb dX2_begin_16 rfl (lv_at hl 0 rfl) ?_
  refine sg_2 hx hb hts hi2 hown hK hP k18 dX2_begin_17 ?_
  refine lv_iconst (v := nI 0) hx hb dX2_begin_20 (by decide) ?_
  refine g_callv (u := ((flN (flN N 0 256 0) 1 256 0), J)) (g_runS (As := [.ref (a 6), .int (nI (0))]) (rest := []) ⟨hx, hb, hml, hown, hts⟩ (tF_s_2 l dC dI a cI cL cZ (flN (flN N 0 256 0) 1 256 0) J 0 H.size) (va_cwS 2 hts gX2_begin_J7_fill_53178 rfl rfl rfl (by decide +kernel) ⟨Nat.le_of_ble_eq_true rfl, Nat.le_of_ble_eq_true rfl⟩) hK hP hD hS hZ rfl hl.1 rfl (Nat.le_of_ble_eq_true rfl) dX2_begin_21) (sW_L a cI cL cZ) hD hS (fun u H locs hw hP hD hS => ?_)
  subst hw
  have hP : va_P (dC, dI) vwCl (sW a cI cL cZ (flN (flN (flN N 0 256 0) 1 256 0) 2 256 0) J) H := hP
  have hD : va_D (aA (sL a) s.heap.size) (sW a cI cL cZ (flN (flN (flN N 0 256 0) 1 256 0) 2 256 0) J) := hD
  refine lv_aload_n hx hb dX2_begin_24 rfl (lv_at hl 0 rfl) ?_
  refine sg_3 hx hb hts hi2 hown hK hP k21 dX2_begin_25 ?_
  refine lv_iconst (v := nI 0) hx hb dX2_begin_28 (by decide) ?_
  refine g_callv (u := ((flN (flN (flN N 0 256 0) 1 256 0) 2 256 0), J)) (g_runS (As := [.ref (a 7), .int (nI (0))]) (rest := []) ⟨hx, hb, hml, hown, hts⟩ (tF_s_3 l dC dI a cI cL cZ (flN (flN (flN N 0 256 0) 1 256 0) 2 256 0) J 0 H.size) (va_cwS 2 hts gX2_begin_J7_fill_53178 rfl rfl rfl (by decide +kernel) ⟨Nat.le_of_ble_eq_true rfl, Nat.le_of_ble_eq_true rfl⟩) hK hP hD hS hZ rfl hl.1 rfl (Nat.le_of_ble_eq_true rfl) dX2_begin_29) (sW_L a cI cL cZ) hD hS (fun u H locs hw hP hD hS => ?_)
  subst hw
  have hP : va_P (dC, dI) vwCl (sW a cI cL cZ (flN (flN (flN (flN N 0 256 0) 1 256 0) 2 256 0) 3 256 0) J) H := hP
  have hD : va_D (aA (sL a) s.heap.size) (sW a cI cL cZ (flN (flN (flN (flN N 0 256 0) 1 256 0) 2 256 0) 3 256 0) J) := hD
  refine lv_aload_n hx hb dX2_begin_32 rfl (lv_at hl 0 rfl) ?_
  refine sg_4 hx hb hts hi2 hown hK hP k24 dX2_begin_33 ?_
  refine lv_iconst (v := nI 1) hx hb dX2_begin_36 (by decide) ?_
  refine g_callv (u := ((flN (flN (flN (flN N 0 256 0) 1 256 0) 2 256 0) 3 256 0), J)) (g_runS (As := [.ref (a 8), .int (nI (1))]) (rest := []) ⟨hx, hb, hml, hown, hts⟩ (tF_s_4 l dC dI a cI cL cZ (flN (flN (flN (flN N 0 256 0) 1 256 0) 2 256 0) 3 256 0) J 1 H.size) (va_cwS 2 hts gX2_begin_J7_fill_53178 rfl rfl rfl (by decide +kernel) ⟨Nat.le_of_ble_eq_true rfl, Nat.le_of_ble_eq_true rfl⟩) hK hP hD hS hZ rfl hl.1 rfl (Nat.le_of_ble_eq_true rfl) dX2_begin_37) (sW_L a cI cL cZ) hD hS (fun u H locs hw hP hD hS => ?_)
  subst hw
  have hP : va_P (dC, dI) vwCl (sW a cI cL cZ (flN (flN (flN (flN (flN N 0 256 0) 1 256 0) 2 256 0) 3 256 0) 4 6 1) J) H := hP
  have hD : va_D (aA (sL a) s.heap.size) (sW a cI cL cZ (flN (flN (flN (flN (flN N 0 256 0) 1 256 0) 2 256 0) 3 256 0) 4 6 1) J) := hD
  refine va_getsN hx hb hz3 hS hown (va_Nw.use rfl hnest.2.1) (fun _ h => h) dX2_begin_40 ?_
  refine lv_iconst (v := nI 0) hx hb dX2_begin_43 (by decide) ?_
  refine lv_aload_n hx hb dX2_begin_44 rfl (lv_at hl 0 rfl) ?_
  refine sg_5 hx hb hts hi2 hown hK hP k27 dX2_begin_45 ?_
  refine lv_iconst (v := nI 0) hx hb dX2_begin_48 (by decide) ?_
  refine lv_bipush (v := nI 6) hx hb dX2_begin_49 (by decide) ?_
  refine s_cpT hx hb (hml.trans hl.1.symm) hown (hts (.methodLink RX2 49 arraycopyName) (by decide +kernel)) (hts (.native arraycopyName) (by decide +kernel)) (hts (.static arraycopyName) (by decide +kernel)) (hts (.initialized "java/lang/System") (by decide +kernel)) hK hP hD hS hz4 (Nat.le_of_ble_eq_true rfl) (Nat.le_of_ble_eq_true rfl) dX2_begin_51 (fun H locs hP hD hS => ?_)
  refine lv_aload_n hx hb dX2_begin_54 rfl (lv_at hl 0 rfl) ?_
  refine sg_6 hx hb hts hi2 hown hK hP k30 dX2_begin_55 ?_
  refine lv_lconst (v := 0) hx hb dX2_begin_58 (by decide) ?_
  refine g_callv (u := ((ltF (flN (flN (flN (flN (flN N 0 256 0) 1 256 0) 2 256 0) 3 256 0) 4 6 1)), J)) (g_runS (As := [.ref (a 10), .long (0)]) (rest := []) ⟨hx, hb, hml, hown, hts⟩ (tF_s_6 l dC dI a cI cL cZ (ltF (flN (flN (flN (flN (flN N 0 256 0) 1 256 0) 2 256 0) 3 256 0) 4 6 1)) J 0 H.size) (va_cwS 2 hts gX2_begin_J7_fill_d0a16 rfl rfl rfl (by decide +kernel) ⟨Nat.le_of_ble_eq_true rfl, Nat.le_of_ble_eq_true rfl⟩) hK hP hD hS hZ rfl hl.1 rfl (Nat.le_of_ble_eq_true rfl) dX2_begin_59) (sW_L a cI cL cZ) hD hS (fun u H locs hw hP hD hS => ?_)
  subst hw
  have hP : va_P (dC, dI) vwCl (sW a cI cL cZ (ltF (flN (flN (flN (flN (flN N 0 256 0) 1 256 0) 2 256 0) 3 256 0) 4 6 1)) (flJ J 6 16 0)) H := hP
  have hD : va_D (aA (sL a) s.heap.size) (sW a cI cL cZ (ltF (flN (flN (flN (flN (flN N 0 256 0) 1 256 0) 2 256 0) 3 256 0) 4 6 1)) (flJ J 6 16 0)) := hD
  refine lv_aload_n hx hb dX2_begin_62 rfl (lv_at hl 0 rfl) ?_
  refine sg_7 hx hb hts hi2 hown hK hP k34 dX2_begin_63 ?_
  refine lv_lconst (v := 0) hx hb dX2_begin_66 (by decide) ?_
  refine g_callv (u := ((ltF (flN (flN (flN (flN (flN N 0 256 0) 1 256 0) 2 256 0) 3 256 0) 4 6 1)), (flJ J 6 16 0))) (g_runS (As := [.ref (a 11), .long (0)]) (rest := []) ⟨hx, hb, hml, hown, hts⟩ (tF_s_7 l dC dI a cI cL cZ (ltF (flN (flN (flN (flN (flN N 0 256 0) 1 256 0) 2 256 0) 3 256 0) 4 6 1)) (flJ J 6 16 0) 0 H.size) (va_cwS 2 hts gX2_begin_J7_fill_d0a16 rfl rfl rfl (by decide +kernel) ⟨Nat.le_of_ble_eq_true rfl, Nat.le_of_ble_eq_true rfl⟩) hK hP hD hS hZ rfl hl.1 rfl (Nat.le_of_ble_eq_true rfl) dX2_begin_67) (sW_L a cI cL cZ) hD hS (fun u H locs hw hP hD hS => ?_)
  subst hw
  have hP : va_P (dC, dI) vwCl (sW a cI cL cZ (ltF (flN (flN (flN (flN (flN N 0 256 0) 1 256 0) 2 256 0) 3 256 0) 4 6 1)) (sBJ J)) H := hP
  have hD : va_D (aA (sL a) s.heap.size) (sW a cI cL cZ (ltF (flN (flN (flN (flN (flN N 0 256 0) 1 256 0) 2 256 0) 3 256 0) 4 6 1)) (sBJ J)) := hD
  refine lv_aload_n hx hb dX2_begin_70 rfl (lv_at hl 0 rfl) ?_
  refine lv_iconst (v := nI 1) hx hb dX2_begin_71 (by decide) ?_
  refine sp_8 hx hb hts hi2 hown hK hP hD hS k58 dX2_begin_72 (fun H locs hP hD hS => ?_)
  exact g_retv hx hb hr hlocks ((uN (ltF (flN (flN (flN (flN (flN N 0 256 0) 1 256 0) 2 256 0) 3 256 0) 4 6 1)) 8 (0) (1)), (sBJ J)) (rfl) hP hS dX2_begin_75
