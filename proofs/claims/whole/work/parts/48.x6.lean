theorem xLp_inv : ∀ (n : Nat) (u : gSt), xInv u.1 → u.1 24 0 + n ≤ 4 * u.1 22 0 → xInv (xLp n u).1 ∧ (xLp n u).1 22 0 = u.1 22 0 ∧ (xLp n u).1 24 0 ≤ 4 * u.1 22 0 ∧ (u.1 23 0 < 2 → (xLp n u).1 23 0 < 2)
  | 0, u, h, h24 => ⟨h, rfl, h24, fun z => z⟩
  | n + 1, u, h, h24 => by
    by_cases hc : xCode u.1 = 0
    · have e : xLp (n + 1) u = (uN u.1 23 0 (if u.1 34 0 < u.1 22 0 then 1 else 0), u.2) := if_pos hc
      rw [e]
      refine ⟨h, rfl, by show u.1 24 0 ≤ _; omega, fun _ => ?_⟩
      show (if u.1 34 0 < u.1 22 0 then 1 else 0 : Nat) < 2
      split <;> decide
    · by_cases hh : xHin u.1 = 0
      · rw [xLp_iss hc hh]
        have e22 : (xIss u).1 22 = u.1 22 := xIss_o u (by decide) (by decide) (by decide)
        have e23 : (xIss u).1 23 = u.1 23 := xIss_o u (by decide) (by decide) (by decide)
        have z := xLp_inv n (xIss u) (xInv_iss h (xHin_0 hh).2.1) (by rw [xIss_24, e22]; omega)
        rw [e22, e23] at z
        exact z
      · have e : xLp (n + 1) u = (uN u.1 25 (xHin u.1) (u.1 25 (xHin u.1) + 1), u.2) := by
          show (if xCode u.1 = 0 then _ else if xHin u.1 ≠ 0 then _ else xLp n (xIss u)) = _
          rw [if_neg hc, if_pos hh]
        rw [e]
        exact ⟨h, rfl, by show u.1 24 0 ≤ _; omega, fun z => z⟩
theorem xCyc_inv {u : gSt} (h : xInv u.1) (h24 : u.1 24 0 ≤ 4 * u.1 22 0) (h23 : u.1 23 0 < 2) : xInv (xCyc u).1 ∧ (xCyc u).1 22 0 = u.1 22 0 + 1 ∧ (xCyc u).1 24 0 ≤ 4 * (u.1 22 0 + 1) ∧ (xCyc u).1 23 0 < 2 := by
  have h8 := h.2.2.2.1
  obtain ⟨a1, a2, a3, a4⟩ := xLp_inv (u.1 8 0) (uN u.1 22 0 (u.1 22 0 + 1), u.2) (xInv_22 h) (by show u.1 24 0 + u.1 8 0 ≤ 4 * (u.1 22 0 + 1); omega)
  exact ⟨a1, a2, a3, a4 h23⟩
def xGo : Nat → gSt → gSt × Nat
  | 0, u => (u, 0)
  | n + 1, u => if u.1 23 0 ≠ 0 then (u, 0) else ((xGo n (xCyc u)).1, (xGo n (xCyc u)).2 + 1)
theorem xGo_over {u : gSt} (h : u.1 23 0 ≠ 0) : ∀ n, xGo n u = (u, 0)
  | 0 => rfl
  | n + 1 => if_pos h
theorem xGo_next {u : gSt} (h : u.1 23 0 = 0) (n : Nat) : xGo (n + 1) u = ((xGo n (xCyc u)).1, (xGo n (xCyc u)).2 + 1) := if_neg (fun z => z h)
set_option maxHeartbeats 4000000 in
set_option maxRecDepth 100000 in
theorem tA_run (l : Launch) (dC : Nat → ClassId) (dI : Nat → Nat → Nat) (a : Nat → Nat) (cI cL cZ : ClassId) (N : Nat → Nat → Nat) (J : Nat → Nat → Int64) (n : Nat) (hn : n ≤ 3000) (hI : xInv N) (h24 : N 24 0 ≤ 4 * N 22 0) (h23 : N 23 0 < 2) (hcy : N 22 0 + n ≤ 1600000) : MetI l yX3_run wsX3_run ({ frames := 5, cells := 0, slots := 0, locals := 114 } : Room) dC dI (gT cI cL cZ) (xF a cI cL cZ) (xL a) (N, J) [.ref (a 0), .int (nI (n))] (fun r u => r = nI (xGo n (N, J)).2 ∧ u = (xGo n (N, J)).1) := by
  intro sz
  refine g_entry (bytes := cX3_run) (maxL := 3) (ret := (some .int)) (Qc := fun sz => va_Qi (fun r u => r = nI (xGo n (N, J)).2 ∧ u = (xGo n (N, J)).1) (gB dC dI (xF a cI cL cZ)) (aA (xL a) sz)) (by decide) rfl (Nat.le_of_ble_eq_true rfl) rfl ?_
  intro p e s m below meth c ls hx hb hr hml hts hown hlocks hK hP hD hS hZ hl
  have hP : va_P (dC, dI) vwCl (xW a cI cL cZ N J) s.heap := hP
  have hD : va_D (aA (xL a) s.heap.size) (xW a cI cL cZ N J) := hD
  have hown : s.vm.findClass RX3 = some m.cls := hown
  have hl : lv_has ls 3 [(0, .ref (a 0)), (1, .int (nI (n)))] := hl
  have hi0 : ∀ w ∈ wsX00, w ∈ wsX3_run := by decide +kernel
  have hi3 : ∀ w ∈ wsX30, w ∈ wsX3_run := by decide +kernel
  have k30 := hts (.fieldLink RX3 30 "ScoreMachine" "board" "LScoreMachine$Board;") (by decide +kernel)
  have k80 := hts (.fieldLink RX3 80 "ScoreMachine$Board" "over" "Z") (by decide +kernel)
  refine lv_iload_n hx hb dX3_run_0 rfl (lv_at hl 1 rfl) ?_
  refine n_if_lt (tgt := 11) hx hb (by omega) dX3_run_1 (by decide) ?_
  refine lv_iload_n hx hb dX3_run_4 rfl (lv_at hl 1 rfl) ?_
  refine lv_sipush (v := nI 3000) hx hb dX3_run_5 (by decide) ?_
  refine n_icmp_le (tgt := 13) hx hb (by omega) (by omega) dX3_run_8 (by decide) (fun c_8 => ?_) (fun c_8 => absurd c_8 (by omega))
  refine lv_iconst (v := nI 0) hx hb dX3_run_13 (by decide) ?_
  refine lv_istore_n (lv' := [(2, .int (nI (0))), (0, .ref (a 0)), (1, .int (nI (n)))]) hx hb dX3_run_14 rfl hl (by decide) rfl (fun ls hl => ?_)
  refine w_loopH (X := gSt × Nat) (μ := fun x15 => n - x15.2) (dC := dC) (dI := dI) (A := aA (xL a) s.heap.size) (H0 := s.heap) (Wf := xF a cI cL cZ) (u := fun x15 => (x15.1.1, x15.1.2)) (P := fun x15 => xInv x15.1.1 ∧ x15.1.1 24 0 ≤ 4 * x15.1.1 22 0 ∧ x15.1.1 23 0 < 2 ∧ x15.1.1 22 0 = N 22 0 + x15.2 ∧ x15.2 ≤ n ∧ (xGo (n - x15.2) x15.1).1 = (xGo n (N, J)).1 ∧ (xGo (n - x15.2) x15.1).2 + x15.2 = (xGo n (N, J)).2) (pj := 15) (nL := 3) (lv := fun x15 => [(0, .ref (a 0)), (1, .int (nI (n))), (2, .int (nI (x15.2)))]) (st := fun x15 => []) (fun x15 ls H locs ex15 hl hP hD hS jn_15 => ?_) ((N, J), 0) ls (⟨hI, h24, h23, rfl, Nat.zero_le _, rfl, rfl⟩) (lv_sub hl [1, 2, 0] rfl) hP hD hS
  have ex15 : xInv x15.1.1 ∧ x15.1.1 24 0 ≤ 4 * x15.1.1 22 0 ∧ x15.1.1 23 0 < 2 ∧ x15.1.1 22 0 = N 22 0 + x15.2 ∧ x15.2 ≤ n ∧ (xGo (n - x15.2) x15.1).1 = (xGo n (N, J)).1 ∧ (xGo (n - x15.2) x15.1).2 + x15.2 = (xGo n (N, J)).2 := ex15
  have hl : lv_has ls 3 [(0, .ref (a 0)), (1, .int (nI (n))), (2, .int (nI (x15.2)))] := hl
  have hP : va_P (dC, dI) vwCl (xW a cI cL cZ x15.1.1 x15.1.2) H := hP
  have hD : va_D (aA (xL a) s.heap.size) (xW a cI cL cZ x15.1.1 x15.1.2) := hD
  refine lv_iload_n hx hb dX3_run_15 rfl (lv_at hl 2 rfl) ?_
  refine lv_iload_n hx hb dX3_run_16 rfl (lv_at hl 1 rfl) ?_
  refine n_icmp_ge (tgt := 43) hx hb (by omega) (by omega) dX3_run_17 (by decide) (fun c_17 => ?_) (fun c_17 => ?_)
  · have hz9 : xGo (n - x15.2) x15.1 = (x15.1, 0) := by rw [show n - x15.2 = 0 by omega]; rfl
    refine lv_iload_n hx hb dX3_run_43 rfl (lv_at hl 2 rfl) ?_
    exact g_reti hx hb hr hlocks (x15.1.1, x15.1.2) (⟨by have z := ex15.2.2.2.2.2.2; rw [hz9] at z; rw [← z]; show nI x15.2 = nI (0 + x15.2); rw [Nat.zero_add], by have z := ex15.2.2.2.2.2.1; rw [hz9] at z; exact z⟩) hP hS dX3_run_44
  · refine lv_aload_n hx hb dX3_run_20 rfl (lv_at hl 0 rfl) ?_
    refine xg_62 hx hb hts hi3 hown hK hP k30 dX3_run_21 ?_
    refine xg_23 (v := x15.1.1 23 0) hx hb hts hi0 hown hK hP k80 rfl dX3_run_24 ?_
    refine n_if_ne (tgt := 43) hx hb (by omega) dX3_run_27 (by decide) (fun c_27 => ?_) (fun c_27 => ?_)
    · have hz9 : xGo (n - x15.2) x15.1 = (x15.1, 0) := xGo_over c_27 _
      refine lv_iload_n hx hb dX3_run_43 rfl (lv_at hl 2 rfl) ?_
      exact g_reti hx hb hr hlocks (x15.1.1, x15.1.2) (⟨by have z := ex15.2.2.2.2.2.2; rw [hz9] at z; rw [← z]; show nI x15.2 = nI (0 + x15.2); rw [Nat.zero_add], by have z := ex15.2.2.2.2.2.1; rw [hz9] at z; exact z⟩) hP hS dX3_run_44
    · refine lv_aload_n hx hb dX3_run_30 rfl (lv_at hl 0 rfl) ?_
      refine xg_62 hx hb hts hi3 hown hK hP k30 dX3_run_31 ?_
      refine g_callv (u := (x15.1.1, x15.1.2)) (g_runV (As := []) (rest := []) ⟨hx, hb, hml, hown, hts⟩ (tB_goOneCycle l dC dI a cI cL cZ x15.1.1 x15.1.2 ex15.1 ex15.2.1 (by omega) H.size) (cwV 0 hts gX3_run_X0_goOneCycle rfl rfl rfl (by decide +kernel) ⟨Nat.le_of_ble_eq_true rfl, Nat.le_of_ble_eq_true rfl⟩) (va_recv hK hP (ci := 0) (q0 := 3) rfl rfl) hK hP hD hS hZ rfl hl.1 rfl (Nat.le_of_ble_eq_true rfl) dX3_run_34) (xW_L a cI cL cZ) hD hS (fun u H locs hw hP hD hS => ?_)
      subst hw
      have hP : va_P (dC, dI) vwCl (xW a cI cL cZ (xCyc x15.1).1 (xCyc x15.1).2) H := hP
      have hD : va_D (aA (xL a) s.heap.size) (xW a cI cL cZ (xCyc x15.1).1 (xCyc x15.1).2) := hD
      have hv9 := xCyc_inv ex15.1 ex15.2.1 ex15.2.2.1
      have hg9 : (xGo (n - (x15.2 + 1)) (xCyc x15.1)).1 = (xGo n (N, J)).1 ∧ (xGo (n - (x15.2 + 1)) (xCyc x15.1)).2 + 1 + x15.2 = (xGo n (N, J)).2 := by have z := ex15.2.2.2.2.2; rw [show n - x15.2 = (n - (x15.2 + 1)) + 1 by omega, xGo_next c_27] at z; exact z
      refine lv_iinc (v := nI (x15.2 + 1)) (lv' := [(2, .int (nI (x15.2 + 1))), (0, .ref (a 0)), (1, .int (nI (n)))]) hx hb dX3_run_37 hl (k := 2) rfl (nI_1 _) (by decide) rfl (fun ls hl => ?_)
      refine lv_goto (tgt := 15) hx hb dX3_run_40 (by decide) ?_
      exact jn_15 (xCyc x15.1, x15.2 + 1) ls _ _ (⟨hv9.1, by rw [hv9.2.1]; exact hv9.2.2.1, hv9.2.2.2, by show (xCyc x15.1).1 22 0 = _; rw [hv9.2.1]; omega, by show x15.2 + 1 ≤ n; omega, by show (xGo (n - (x15.2 + 1)) (xCyc x15.1)).1 = _; exact hg9.1, by show (xGo (n - (x15.2 + 1)) (xCyc x15.1)).2 + (x15.2 + 1) = _; omega⟩) (by show n - (x15.2 + 1) < n - x15.2; omega) (lv_sub hl [1, 2, 0] rfl) hP hD hS
set_option maxHeartbeats 4000000 in
set_option maxRecDepth 100000 in
theorem tA_run_bad (l : Launch) (dC : Nat → ClassId) (dI : Nat → Nat → Nat) (a : Nat → Nat) (cI cL cZ : ClassId) (N : Nat → Nat → Nat) (J : Nat → Nat → Int64) (v : Int32) (hv : v < 0 ∨ 3000 < v) : MetI l yX3_run wsX3_run ({ frames := 0, cells := 0, slots := 0, locals := 0 } : Room) dC dI (gT cI cL cZ) (xF a cI cL cZ) (xL a) (N, J) [.ref (a 0), .int (v)] (fun r u => r = -1 ∧ u = (N, J)) := by
  intro sz
  refine g_entry (bytes := cX3_run) (maxL := 3) (ret := (some .int)) (Qc := fun sz => va_Qi (fun r u => r = -1 ∧ u = (N, J)) (gB dC dI (xF a cI cL cZ)) (aA (xL a) sz)) (by decide) rfl (Nat.le_of_ble_eq_true rfl) rfl ?_
  intro p e s m below meth c ls hx hb hr hml hts hown hlocks hK hP hD hS hZ hl
  have hP : va_P (dC, dI) vwCl (xW a cI cL cZ N J) s.heap := hP
  have hD : va_D (aA (xL a) s.heap.size) (xW a cI cL cZ N J) := hD
  have hown : s.vm.findClass RX3 = some m.cls := hown
  have hl : lv_has ls 3 [(0, .ref (a 0)), (1, .int (v))] := hl
  refine lv_iload_n hx hb dX3_run_0 rfl (lv_at hl 1 rfl) ?_
  refine lv_if_lt (tgt := 11) hx hb dX3_run_1 (by decide) (fun c_1 => ?_) (fun c_1 => ?_)
  · refine lv_iconst (v := -1) hx hb dX3_run_11 (by decide) ?_
    exact g_reti hx hb hr hlocks (N, J) (⟨rfl, rfl⟩) hP hS dX3_run_12
  · refine lv_iload_n hx hb dX3_run_4 rfl (lv_at hl 1 rfl) ?_
    refine lv_sipush (v := nI 3000) hx hb dX3_run_5 (by decide) ?_
    refine lv_icmp_le (tgt := 13) hx hb dX3_run_8 (by decide) (fun c_8 => absurd c_8 (hv.elim (fun z => absurd z c_1) (fun z => Int32.not_le.mpr z))) (fun c_8 => ?_)
    refine lv_iconst (v := -1) hx hb dX3_run_11 (by decide) ?_
    exact g_reti hx hb hr hlocks (N, J) (⟨rfl, rfl⟩) hP hS dX3_run_12
theorem aA_va {ws : va_W} {L : List Nat} {sz q : Nat} (hL : ws.map Prod.fst = L) (h : va_A ws sz q) : aA L sz q := by
  rcases h with ⟨k, e, hk⟩ | h
  · exact Or.inl (by rw [← hL]; exact List.mem_map.mpr ⟨(q, e), List.mem_of_getElem? hk, rfl⟩)
  · exact Or.inr h
theorem va_aA {ws : va_W} {L : List Nat} {sz q : Nat} (hL : ws.map Prod.fst = L) (h : aA L sz q) : va_A ws sz q := by
  rcases h with h | h
  · rw [← hL] at h
    obtain ⟨z, hz, rfl⟩ := List.mem_map.mp h
    obtain ⟨k, hk⟩ := List.getElem?_of_mem hz
    exact Or.inl ⟨k, z.2, hk⟩
  · exact Or.inr h
theorem sL_xL (a : Nat → Nat) (q : Nat) (h : q ∈ sL a) : q ∈ xL a := by
  unfold sL at h
  simp only [List.mem_cons, List.not_mem_nil, or_false] at h
  rcases h with h | h | h | h | h | h | h | h | h <;> rw [h] <;> unfold xL <;> simp only [List.mem_cons, true_or, or_true]
def xClN (N : Nat → Nat → Nat) : Nat → Nat → Nat := xBN (uN (sBN N) 13 0 0)
def xClJ (J : Nat → Nat → Int64) : Nat → Nat → Int64 := xBJ (cqJ (cqJ (sBJ J) 6 11 16) 7 12 256)
set_option maxHeartbeats 4000000 in
set_option maxRecDepth 100000 in
theorem tA_clear (l : Launch) (dC : Nat → ClassId) (dI : Nat → Nat → Nat) (a : Nat → Nat) (cI cL cZ : ClassId) (N : Nat → Nat → Nat) (J : Nat → Nat → Int64)   : MetV l yX3_clear wsX3_clear ({ frames := 2, cells := 0, slots := 0, locals := 60 } : Room) dC dI (gT cI cL cZ) (xF a cI cL cZ) (xL a) (N, J) [.ref (a 0)] (fun u => u = (xClN N, xClJ J)) := by
  intro sz
  refine g_entry (bytes := cX3_clear) (maxL := 1) (ret := none) (Qc := fun sz => va_Qv (fun u => u = (xClN N, xClJ J)) (gB dC dI (xF a cI cL cZ)) (aA (xL a) sz)) (by decide) rfl (Nat.le_of_ble_eq_true rfl) rfl ?_
  intro p e s m below meth c ls hx hb hr hml hts hown hlocks hK hP hD hS hZ hl
  have hP : va_P (dC, dI) vwCl (xW a cI cL cZ N J) s.heap := hP
  have hD : va_D (aA (xL a) s.heap.size) (xW a cI cL cZ N J) := hD
  have hown : s.vm.findClass RX3 = some m.cls := hown
  have hl : lv_has ls 1 [(0, .ref (a 0))] := hl
  have hi3 : ∀ w ∈ wsX30, w ∈ wsX3_clear := by decide +kernel
  have k10 := hts (.fieldLink RX3 10 "ScoreMachine" "setup" "LScoreMachine$Setup;") (by decide +kernel)
  have k21 := hts (.fieldLink RX3 21 "ScoreMachine" "plainMachine" "LScoreMachine$PlainMachine;") (by decide +kernel)
  have k30 := hts (.fieldLink RX3 30 "ScoreMachine" "board" "LScoreMachine$Board;") (by decide +kernel)
  refine lv_aload_n hx hb dX3_clear_0 rfl (lv_at hl 0 rfl) ?_
  refine xg_60 hx hb hts hi3 hown hK hP k10 dX3_clear_1 ?_
  have hPc := hP.sub (ws' := sW a cI cL cZ N J) [1, 4, 5, 6, 7, 8, 9, 10, 11] rfl
  have hDc := hD.sub (ws' := sW a cI cL cZ N J) [1, 4, 5, 6, 7, 8, 9, 10, 11] (by decide) rfl
  have hsub : ∀ q, aA (sL a) s.heap.size q → aA (xL a) s.heap.size q := fun q h => h.elim (fun z => Or.inl (sL_xL a q z)) Or.inr
  refine va_callv (va_runV (As := []) (rest := []) ⟨hx, hb, hml, hown, hts⟩ (tS_begin l dC dI a cI cL cZ N J s.heap.size) (cwV 0 hts gX3_clear_X2_begin rfl rfl rfl (by decide +kernel) ⟨Nat.le_of_ble_eq_true rfl, Nat.le_of_ble_eq_true rfl⟩) ⟨gPre.blind, va_recv hK hPc (ci := 2) (q0 := 0) rfl rfl, fun U hU hW => ⟨rfl, by rw [hU], by rw [hU]; exact hPc, va_K.moved hW.alike hK, hDc.weaken (fun _ _ _ _ => trivial), hZ.go hW (by rw [hU]; exact hS.2.1) hsub⟩⟩ rfl rfl hl.1 rfl (lv_room (Nat.le_of_ble_eq_true rfl)) dX3_clear_4 ⟨Nat.zero_le _, Nat.zero_le _⟩) hS (fun q _ h => hsub q h) hsub (fun u t H locs ht hvm hw hB hz1 hk1 hS => ?_)
  have hw : u = (sBN N, sBJ J) := hw
  subst hw
  have hB : va_P (dC, dI) vwCl (sW a cI cL cZ (sBN N) (sBJ J)) H := by rw [← ht]; exact hB
  obtain ⟨hP, hD⟩ := va_join (wc := sW a cI cL cZ N J) (wr := [(a 0, .inr (3, [.ref (a 1), .ref (a 2), .ref (a 3)])), (a 2, .inr (1, [.ref (a 1), .ref (a 12), .ref (a 13), .int (nI (N 13 0))])), (a 3, .inr (0, [.ref (a 1), .ref (a 2), .int (nI (N 22 0)), .int (nI (N 23 0)), .int (nI (N 24 0)), .ref (a 14), .ref (a 15), .ref (a 16), .ref (a 17), .ref (a 18), .int (nI (N 30 0)), .int (nI (N 31 0)), .long (J 32 0), .int (nI (N 33 0)), .int (nI (N 34 0)), .ref (a 19), .ref (a 20), .ref (a 21)])), (a 12, .inl (cL, 16, .inr (.inl (fun j => J 11 j)))), (a 13, .inl (cL, 256, .inr (.inl (fun j => J 12 j)))), (a 14, .inl (cI, 4, .inl (fun j => nI (N 25 j)))), (a 15, .inl (cI, 16, .inl (fun j => nI (N 26 j)))), (a 16, .inl (cI, 16, .inl (fun j => nI (N 27 j)))), (a 17, .inl (cL, 16, .inr (.inl (fun j => J 28 j)))), (a 18, .inl (cI, 16, .inl (fun j => nI (N 29 j)))), (a 19, .inl (cI, 6, .inl (fun j => nI (N 35 j)))), (a 20, .inl (cI, 108, .inl (fun j => nI (N 36 j)))), (a 21, .inl (cI, 384, .inl (fun j => nI (N 37 j))))]) (w1 := sW a cI cL cZ (sBN N) (sBJ J)) hP hD [1, 4, 5, 6, 7, 8, 9, 10, 11] [0, 2, 3, 12, 13, 14, 15, 16, 17, 18, 19, 20, 21] rfl rfl (by decide) (by decide) (fun q h1 h2 => hk1 q h1 (fun z => h2 (va_aA (L := sL a) rfl z))) (fun q h => hsub q (aA_va (L := sL a) rfl h)) hB ((aA_D (L := sL a) (sz := s.heap.size) rfl (D_congr (ws := sW a cI cL cZ N J) (ws' := sW a cI cL cZ (sBN N) (sBJ J)) rfl hDc)).weaken (fun _ _ _ z => va_aA (ws := sW a cI cL cZ N J) (L := sL a) rfl z))
  have hP : va_P (dC, dI) vwCl (xW a cI cL cZ (sBN N) (sBJ J)) H := hP.sub [0, 13, 1, 2, 14, 15, 16, 17, 18, 19, 20, 21, 3, 4, 5, 6, 7, 8, 9, 10, 11, 12] rfl
  have hD : va_D (aA (xL a) s.heap.size) (xW a cI cL cZ (sBN N) (sBJ J)) := hD.sub [0, 13, 1, 2, 14, 15, 16, 17, 18, 19, 20, 21, 3, 4, 5, 6, 7, 8, 9, 10, 11, 12] (by decide) rfl
  refine lv_aload_n hx hb dX3_clear_7 rfl (lv_at hl 0 rfl) ?_
  refine xg_61 hx hb hts hi3 hown hK hP k21 dX3_clear_8 ?_
  refine g_callv (u := ((sBN N), (sBJ J))) (g_runV (As := []) (rest := []) ⟨hx, hb, hml, hown, hts⟩ (tP_begin l dC dI a cI cL cZ (sBN N) (sBJ J)  H.size) (cwV 0 hts gX3_clear_X1_begin rfl rfl rfl (by decide +kernel) ⟨Nat.le_of_ble_eq_true rfl, Nat.le_of_ble_eq_true rfl⟩) (va_recv hK hP (ci := 1) (q0 := 2) rfl rfl) hK hP hD hS hZ rfl hl.1 rfl (Nat.le_of_ble_eq_true rfl) dX3_clear_11) (xW_L a cI cL cZ) hD hS (fun u H locs hw hP hD hS => ?_)
  subst hw
  have hP : va_P (dC, dI) vwCl (xW a cI cL cZ (uN (sBN N) 13 0 0) (cqJ (cqJ (sBJ J) 6 11 16) 7 12 256)) H := hP
  have hD : va_D (aA (xL a) s.heap.size) (xW a cI cL cZ (uN (sBN N) 13 0 0) (cqJ (cqJ (sBJ J) 6 11 16) 7 12 256)) := hD
  refine lv_aload_n hx hb dX3_clear_14 rfl (lv_at hl 0 rfl) ?_
  refine xg_62 hx hb hts hi3 hown hK hP k30 dX3_clear_15 ?_
  refine g_callv (u := ((uN (sBN N) 13 0 0), (cqJ (cqJ (sBJ J) 6 11 16) 7 12 256))) (g_runV (As := []) (rest := []) ⟨hx, hb, hml, hown, hts⟩ (tB_begin l dC dI a cI cL cZ (uN (sBN N) 13 0 0) (cqJ (cqJ (sBJ J) 6 11 16) 7 12 256)  H.size) (cwV 0 hts gX3_clear_X0_begin rfl rfl rfl (by decide +kernel) ⟨Nat.le_of_ble_eq_true rfl, Nat.le_of_ble_eq_true rfl⟩) (va_recv hK hP (ci := 0) (q0 := 3) rfl rfl) hK hP hD hS hZ rfl hl.1 rfl (Nat.le_of_ble_eq_true rfl) dX3_clear_18) (xW_L a cI cL cZ) hD hS (fun u H locs hw hP hD hS => ?_)
  subst hw
  have hP : va_P (dC, dI) vwCl (xW a cI cL cZ (xClN N) (xClJ J)) H := hP
  have hD : va_D (aA (xL a) s.heap.size) (xW a cI cL cZ (xClN N) (xClJ J)) := hD
  exact g_retv hx hb hr hlocks ((xClN N), (xClJ J)) (rfl) hP hS dX3_clear_21
