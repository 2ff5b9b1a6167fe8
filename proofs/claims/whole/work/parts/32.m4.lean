theorem gEta (z : gSt) : (z.1, z.2) = z := by cases z; rfl
def mHalt (z : gSt) : Nat := max (max 1 (z.1 14 0)) (z.1 17 0 + 1)
def mEnd (z : gSt) (last : Nat) : gSt × Nat := if mCode z.1 = 0 then (if mHalt z ≤ last then ((uN z.1 12 0 1, z.2), mHalt z) else ((uN z.1 12 0 0, z.2), last)) else (z, last)
def mZ (u : gSt) (n : Nat) : gSt := mGo (u.1 11 0 + n) (mMu (u.1 11 0 + n) (uN u.1 26 0 0, u.2) + 1) (uN u.1 26 0 0, u.2)
def mE (u : gSt) (n : Nat) : gSt × Nat := mEnd (mZ u n) (u.1 11 0 + n)
def mRunS (u : gSt) (n : Nat) : gSt := mCA ((mE u n).2 + 1) 18 (uN (mE u n).1.1 11 0 (mE u n).2, (mE u n).1.2)
theorem mInv_26 {N : Nat → Nat → Nat} (h : mInv N) : mInv (uN N 26 0 0) := h
set_option maxHeartbeats 4000000 in
set_option maxRecDepth 100000 in
theorem tM_run_bad (l : Launch) (dC : Nat → ClassId) (dI : Nat → Nat → Nat) (a : Nat → Nat) (cI cL cZ : ClassId) (N : Nat → Nat → Nat) (J : Nat → Nat → Int64) (v : Int32) (hv : v < 0 ∨ 3000 < v) : MetI l yX4_run wsX4_run ({ frames := 0, cells := 0, slots := 0, locals := 0 } : Room) dC dI (gT cI cL cZ) (mF a cI cL cZ) (mL a) (N, J) [.ref (a 0), .int (v)] (fun r u => r = -1 ∧ u = (uN N 26 0 0, J)) := by
  intro sz
  refine g_entry (bytes := cX4_run) (maxL := 6) (ret := (some .int)) (Qc := fun sz => va_Qi (fun r u => r = -1 ∧ u = (uN N 26 0 0, J)) (gB dC dI (mF a cI cL cZ)) (aA (mL a) sz)) (by decide) rfl (Nat.le_of_ble_eq_true rfl) rfl ?_
  intro p e s m below meth c ls hx hb hr hml hts hown hlocks hK hP hD hS hZ hl
  have hP : va_P (dC, dI) vwCl (mW a cI cL cZ N J) s.heap := hP
  have hD : va_D (aA (mL a) s.heap.size) (mW a cI cL cZ N J) := hD
  have hown : s.vm.findClass RX4 = some m.cls := hown
  have hl : lv_has ls 6 [(0, .ref (a 0)), (1, .int (v))] := hl
  have hi4 : ∀ w ∈ wsX40, w ∈ wsX4_run := by decide +kernel
  have k66 := hts (.fieldLink RX4 66 "ScoreMachineModel" "thrown" "I") (by decide +kernel)
  refine lv_aload_n hx hb dX4_run_0 rfl (lv_at hl 0 rfl) ?_
  refine lv_iconst (v := nI 0) hx hb dX4_run_1 (by decide) ?_
  refine mp_26 hx hb hts hi4 hown hK hP hD hS k66 dX4_run_2 (fun H locs hP hD hS => ?_)
  refine lv_iload_n hx hb dX4_run_5 rfl (lv_at hl 1 rfl) ?_
  refine lv_if_lt (tgt := 16) hx hb dX4_run_6 (by decide) (fun c_6 => ?_) (fun c_6 => ?_)
  · refine lv_iconst (v := -1) hx hb dX4_run_16 (by decide) ?_
    exact g_reti hx hb hr hlocks ((uN N 26 (0) (0)), J) (⟨rfl, rfl⟩) hP hS dX4_run_17
  · refine lv_iload_n hx hb dX4_run_9 rfl (lv_at hl 1 rfl) ?_
    refine lv_sipush (v := nI 3000) hx hb dX4_run_10 (by decide) ?_
    refine lv_icmp_le (tgt := 18) hx hb dX4_run_13 (by decide) (fun c_13 => absurd c_13 (hv.elim (fun z => absurd z c_6) (fun z => Int32.not_le.mpr z))) (fun c_13 => ?_)
    refine lv_iconst (v := -1) hx hb dX4_run_16 (by decide) ?_
    exact g_reti hx hb hr hlocks ((uN N 26 (0) (0)), J) (⟨rfl, rfl⟩) hP hS dX4_run_17
theorem mGo_next {last : Nat} {u Z : gSt} (h : ∃ k, mMu last u < k ∧ mGo last k u = Z) (hc : ¬ mCode u.1 = 0) (hl : mT u.1 ≤ last) (hI : mInv u.1) : ∃ k, mMu last (mIss u (mT u.1)) < k ∧ mGo last k (mIss u (mT u.1)) = Z := by
  obtain ⟨k, hk, hz⟩ := h
  have hm := mMu_lt hI hl
  cases k with
  | zero => exact absurd hk (Nat.not_lt_zero _)
  | succ k =>
    refine ⟨k, by omega, ?_⟩
    rw [← hz]
    exact (if_neg (by omega)).symm
theorem mE_inv {u : gSt} {n : Nat} (hZ : mInv (mZ u n).1) (hb : (mZ u n).1 14 0 ≤ u.1 11 0 + n) (hs : u.1 11 0 + n ≤ 1603000) : mInv (mE u n).1.1 ∧ (mE u n).2 ≤ 1100000000 := by
  have hG := mInv_G hZ (by omega)
  obtain ⟨g0, g1, g2, g3, g4, g5⟩ := hG
  unfold mE mEnd
  split
  · split
    · exact ⟨hZ, by show mHalt _ ≤ _; unfold mHalt; omega⟩
    · exact ⟨hZ, by show u.1 11 0 + n ≤ _; omega⟩
  · exact ⟨hZ, by show u.1 11 0 + n ≤ _; omega⟩
theorem mZ_go {last : Nat} : ∀ (k : Nat) (u : gSt), mInv u.1 → u.1 14 0 ≤ last → mInv (mGo last k u).1 ∧ (mGo last k u).1 14 0 ≤ last
  | 0, u, h, hl => ⟨h, hl⟩
  | k + 1, u, h, hl => by
    by_cases z : mCode u.1 = 0 ∨ last < mT u.1
    · rw [mGo_stop z]
      exact ⟨h, hl⟩
    · have e : mGo last (k + 1) u = mGo last k (mIss u (mT u.1)) := if_neg z
      rw [e]
      exact mZ_go k _ (mInv_iss h (by omega) (mT_ge _).1) (by rw [mIss_14]; omega)
theorem mZ_inv {N : Nat → Nat → Nat} {J : Nat → Nat → Int64} {n : Nat} (hI : mInv N) (h14 : N 14 0 ≤ N 11 0) : mInv (mZ (N, J) n).1 ∧ (mZ (N, J) n).1 14 0 ≤ N 11 0 + n :=
  mZ_go _ (uN N 26 0 0, J) (mInv_26 hI) (by show N 14 0 ≤ N 11 0 + n; omega)
theorem mT_lt {N : Nat → Nat → Nat} (hG : mG N) : mT N < 2147483648 := by
  have h1 := mUW_lt hG (kdN_lt (mCode N))
  have h2 := mSW_lt hG
  obtain ⟨g0, g1, g2, g3, g4, g5⟩ := hG
  have h3 : mBeg N < 1073741825 := by unfold mBeg; (repeat' split) <;> omega
  unfold mT
  omega
theorem mE_22 {u : gSt} {n : Nat} (hZ : mInv (mZ u n).1) (hb : (mZ u n).1 14 0 ≤ u.1 11 0 + n) (hs : u.1 11 0 + n ≤ 1603000) : ∀ k, k < 18 → (mE u n).1.1 22 (7 * k + 5) < 2147483648 := by
  have hG := mInv_G hZ (by omega)
  obtain ⟨g0, g1, g2, g3, g4, g5, g6⟩ := hG
  intro k hk
  have := g6 k hk
  unfold mE mEnd
  split
  · split
    · show (mZ u n).1 22 (7 * k + 5) < _
      omega
    · show (mZ u n).1 22 (7 * k + 5) < _
      omega
  · show (mZ u n).1 22 (7 * k + 5) < _
    omega
set_option maxHeartbeats 4000000 in
set_option maxRecDepth 100000 in
theorem tM_run (l : Launch) (dC : Nat → ClassId) (dI : Nat → Nat → Nat) (a : Nat → Nat) (cI cL cZ : ClassId) (N : Nat → Nat → Nat) (J : Nat → Nat → Int64) (n : Nat) (hI : mInv N) (hn : n ≤ 3000) (ho : N 12 0 = 0) (hcy : N 11 0 ≤ 1600000) (h14 : N 14 0 ≤ N 11 0) : MetI l yX4_run wsX4_run ({ frames := 4, cells := 0, slots := 0, locals := 101 } : Room) dC dI (gT cI cL cZ) (mF a cI cL cZ) (mL a) (N, J) [.ref (a 0), .int (nI (n))] (fun r u => r = nI (mE (N, J) n).2 - nI (N 11 0) ∧ u = mRunS (N, J) n) := by
  intro sz
  refine g_entry (bytes := cX4_run) (maxL := 6) (ret := (some .int)) (Qc := fun sz => va_Qi (fun r u => r = nI (mE (N, J) n).2 - nI (N 11 0) ∧ u = mRunS (N, J) n) (gB dC dI (mF a cI cL cZ)) (aA (mL a) sz)) (by decide) rfl (Nat.le_of_ble_eq_true rfl) rfl ?_
  intro p e s m below meth c ls hx hb hr hml hts hown hlocks hK hP hD hS hZ hl
  have hP : va_P (dC, dI) vwCl (mW a cI cL cZ N J) s.heap := hP
  have hD : va_D (aA (mL a) s.heap.size) (mW a cI cL cZ N J) := hD
  have hown : s.vm.findClass RX4 = some m.cls := hown
  have hl : lv_has ls 6 [(0, .ref (a 0)), (1, .int (nI (n)))] := hl
  have hi4 : ∀ w ∈ wsX40, w ∈ wsX4_run := by decide +kernel
  have k50 := hts (.fieldLink RX4 50 "ScoreMachineModel" "unitRow" "[I") (by decide +kernel)
  have k56 := hts (.fieldLink RX4 56 "ScoreMachineModel" "unitOpen" "[Z") (by decide +kernel)
  have k66 := hts (.fieldLink RX4 66 "ScoreMachineModel" "thrown" "I") (by decide +kernel)
  have k76 := hts (.fieldLink RX4 76 "ScoreMachineModel" "cycle" "I") (by decide +kernel)
  have k79 := hts (.fieldLink RX4 79 "ScoreMachineModel" "over" "Z") (by decide +kernel)
  have k89 := hts (.fieldLink RX4 89 "ScoreMachineModel" "issuedLast" "I") (by decide +kernel)
  have k98 := hts (.fieldLink RX4 98 "ScoreMachineModel" "mostWritten" "I") (by decide +kernel)
  have hE9 := mE_inv (u := (N, J)) (n := n) (mZ_inv hI h14).1 (mZ_inv hI h14).2 (by show N 11 0 + n ≤ _; omega)
  refine lv_aload_n hx hb dX4_run_0 rfl (lv_at hl 0 rfl) ?_
  refine lv_iconst (v := nI 0) hx hb dX4_run_1 (by decide) ?_
  refine mp_26 hx hb hts hi4 hown hK hP hD hS k66 dX4_run_2 (fun H locs hP hD hS => ?_)
  refine lv_iload_n hx hb dX4_run_5 rfl (lv_at hl 1 rfl) ?_
  refine n_if_lt (tgt := 16) hx hb (by omega) dX4_run_6 (by decide) ?_
  refine lv_iload_n hx hb dX4_run_9 rfl (lv_at hl 1 rfl) ?_
  refine lv_sipush (v := nI 3000) hx hb dX4_run_10 (by decide) ?_
  refine n_icmp_le (tgt := 18) hx hb (by omega) (by omega) dX4_run_13 (by decide) (fun c_13 => ?_) (fun c_13 => absurd c_13 (by omega))
  refine lv_aload_n hx hb dX4_run_18 rfl (lv_at hl 0 rfl) ?_
  refine mg_12 (v := 0) hx hb hts hi4 hown hK hP k79 ho dX4_run_19 ?_
  refine n_if_eq (tgt := 27) hx hb (by omega) dX4_run_22 (by decide) (fun c_22 => ?_) (fun c_22 => absurd c_22 (by decide))
  refine lv_aload_n hx hb dX4_run_27 rfl (lv_at hl 0 rfl) ?_
  refine mg_11 (v := N 11 0) hx hb hts hi4 hown hK hP k76 rfl dX4_run_28 ?_
  refine lv_istore_n (lv' := [(2, .int (nI (N 11 0))), (0, .ref (a 0)), (1, .int (nI (n)))]) hx hb dX4_run_31 rfl hl (by decide) rfl (fun ls hl => ?_)
  refine lv_aload_n hx hb dX4_run_32 rfl (lv_at hl 1 rfl) ?_
  refine mg_11 (v := N 11 0) hx hb hts hi4 hown hK hP k76 rfl dX4_run_33 ?_
  refine lv_iload_n hx hb dX4_run_36 rfl (lv_at hl 2 rfl) ?_
  refine n_add hx hb dX4_run_37 ?_
  refine lv_istore_n (lv' := [(3, .int (nI ((N 11 0) + n))), (2, .int (nI (N 11 0))), (0, .ref (a 0)), (1, .int (nI (n)))]) hx hb dX4_run_38 rfl hl (by decide) rfl (fun ls hl => ?_)
  refine w_joinH (X := gSt × Nat) (dC := dC) (dI := dI) (A := aA (mL a) s.heap.size) (H0 := s.heap) (Wf := mF a cI cL cZ) (u := fun x141 => (x141.1.1, x141.1.2)) (P := fun x141 => x141 = mE (N, J) n) (pj := 141) (nL := 6) (lv := fun x141 => [(0, .ref (a 0)), (2, .int (nI (N 11 0))), (3, .int (nI (x141.2)))]) (st := fun x141 => []) (fun jn_141 => ?_) (fun x141 ls H locs ex141 hl hP hD hS => ?_)
  · refine lv_iconst (v := nI 1) hx hb dX4_run_39 (by decide) ?_
    refine lv_istore (lv' := [(4, .int (nI (1))), (3, .int (nI ((N 11 0) + n))), (2, .int (nI (N 11 0))), (0, .ref (a 0)), (1, .int (nI (n)))]) hx hb dX4_run_40 hl (by decide) rfl (fun ls hl => ?_)
    refine w_loopH (X := gSt) (μ := fun x42 => mMu (N 11 0 + n) x42) (dC := dC) (dI := dI) (A := aA (mL a) s.heap.size) (H0 := s.heap) (Wf := mF a cI cL cZ) (u := fun x42 => (x42.1, x42.2)) (P := fun x42 => mInv x42.1 ∧ x42.1 14 0 ≤ (N 11 0 + n) ∧ ∃ k, mMu (N 11 0 + n) x42 < k ∧ mGo (N 11 0 + n) k x42 = mZ (N, J) n) (pj := 42) (nL := 6) (lv := fun x42 => [(0, .ref (a 0)), (2, .int (nI (N 11 0))), (3, .int (nI (N 11 0 + n))), (4, .int (nI (1)))]) (st := fun x42 => []) (fun x42 ls H locs ex42 hl hP hD hS jn_42 => ?_) (uN N 26 0 0, J) ls (⟨mInv_26 hI, by show N 14 0 ≤ _; omega, _, Nat.lt_succ_self _, rfl⟩) (lv_sub hl [3, 2, 1, 0] rfl) hP hD hS
    have ex42 : mInv x42.1 ∧ x42.1 14 0 ≤ (N 11 0 + n) ∧ ∃ k, mMu (N 11 0 + n) x42 < k ∧ mGo (N 11 0 + n) k x42 = mZ (N, J) n := ex42
    have hl : lv_has ls 6 [(0, .ref (a 0)), (2, .int (nI (N 11 0))), (3, .int (nI (N 11 0 + n))), (4, .int (nI (1)))] := hl
    have hP : va_P (dC, dI) vwCl (mW a cI cL cZ x42.1 x42.2) H := hP
    have hD : va_D (aA (mL a) s.heap.size) (mW a cI cL cZ x42.1 x42.2) := hD
    have hG := mInv_G ex42.1 (by omega)
    have hc18 : mCode x42.1 ≤ 18 := (hG.1.2 _ hG.1.1).1
    obtain ⟨-, -, -, -, hsc, -, -⟩ := id hG
    refine lv_iload hx hb dX4_run_42 (lv_at hl 3 rfl) ?_
    refine n_if_eq (tgt := 141) hx hb (by omega) dX4_run_44 (by decide) (fun c_44 => absurd c_44 (by decide)) (fun c_44 => ?_)
    refine lv_aload_n hx hb dX4_run_47 rfl (lv_at hl 0 rfl) ?_
    refine g_calli (u := (x42.1, x42.2)) (g_runV (As := []) (rest := []) ⟨hx, hb, hml, hown, hts⟩ (tM_code l dC dI a cI cL cZ x42.1 x42.2 hG.1 H.size) (cwV 0 hts gX4_run_X4_code rfl rfl rfl (by decide +kernel) ⟨Nat.le_of_ble_eq_true rfl, Nat.le_of_ble_eq_true rfl⟩) (va_recv hK hP (ci := 4) (q0 := 0) rfl rfl) hK hP hD hS hZ rfl hl.1 rfl (Nat.le_of_ble_eq_true rfl) dX4_run_48) (mW_L a cI cL cZ) hD hS (fun r_48 u H locs hw hP hD hS => ?_)
    obtain ⟨rfl, rfl⟩ := hw
    have hP : va_P (dC, dI) vwCl (mW a cI cL cZ x42.1 x42.2) H := hP
    have hD : va_D (aA (mL a) s.heap.size) (mW a cI cL cZ x42.1 x42.2) := hD
    refine n_if_ne (tgt := 108) hx hb (by omega) dX4_run_51 (by decide) (fun c_51 => ?_) (fun c_51 => ?_)
    · have hT9 : mT x42.1 < 2147483648 := mT_lt hG
      refine lv_aload_n hx hb dX4_run_108 rfl (lv_at hl 0 rfl) ?_
      refine g_calli (u := (x42.1, x42.2)) (g_runV (As := []) (rest := []) ⟨hx, hb, hml, hown, hts⟩ (tM_issues l dC dI a cI cL cZ x42.1 x42.2 hG H.size) (cwV 0 hts gX4_run_X4_issues rfl rfl rfl (by decide +kernel) ⟨Nat.le_of_ble_eq_true rfl, Nat.le_of_ble_eq_true rfl⟩) (va_recv hK hP (ci := 4) (q0 := 0) rfl rfl) hK hP hD hS hZ rfl hl.1 rfl (Nat.le_of_ble_eq_true rfl) dX4_run_109) (mW_L a cI cL cZ) hD hS (fun r_109 u H locs hw hP hD hS => ?_)
      obtain ⟨rfl, rfl⟩ := hw
      have hP : va_P (dC, dI) vwCl (mW a cI cL cZ x42.1 x42.2) H := hP
      have hD : va_D (aA (mL a) s.heap.size) (mW a cI cL cZ x42.1 x42.2) := hD
      refine lv_istore (lv' := [(5, .int (nI (mT x42.1))), (0, .ref (a 0)), (2, .int (nI (N 11 0))), (3, .int (nI (N 11 0 + n))), (4, .int (nI (1)))]) hx hb dX4_run_112 hl (by decide) rfl (fun ls hl => ?_)
      refine lv_iload hx hb dX4_run_114 (lv_at hl 0 rfl) ?_
      refine lv_iload_n hx hb dX4_run_116 rfl (lv_at hl 3 rfl) ?_
      refine n_icmp_gt (tgt := 124) hx hb hT9 (by omega) dX4_run_117 (by decide) (fun c_117 => ?_) (fun c_117 => ?_)
      · have hZ9 : x42 = mZ (N, J) n := by obtain ⟨k9, hk9, hz9⟩ := ex42.2.2; rw [← hz9]; exact (mGo_stop (Or.inr c_117) k9).symm
        refine lv_iconst (v := nI 0) hx hb dX4_run_124 (by decide) ?_
        refine lv_istore (lv' := [(4, .int (nI (0))), (5, .int (nI (mT x42.1))), (0, .ref (a 0)), (2, .int (nI (N 11 0))), (3, .int (nI (N 11 0 + n)))]) hx hb dX4_run_125 hl (by decide) rfl (fun ls hl => ?_)
        refine lv_iload hx hb dX4_run_127 (lv_at hl 0 rfl) ?_
        refine n_if_eq (tgt := 138) hx hb (by omega) dX4_run_129 (by decide) (fun c_129 => ?_) (fun c_129 => absurd c_129 (by decide))
        refine lv_goto (tgt := 42) hx hb dX4_run_138 (by decide) ?_
        refine lv_iload hx hb dX4_run_42 (lv_at hl 0 rfl) ?_
        refine n_if_eq (tgt := 141) hx hb (by omega) dX4_run_44 (by decide) (fun c_44 => ?_) (fun c_44 => absurd c_44 (by decide))
        exact jn_141 (x42, N 11 0 + n) ls _ _ (by unfold mE mEnd; rw [← hZ9, if_neg c_51]) (lv_sub hl [2, 3, 4] rfl) hP hD hS
      · refine lv_iconst (v := nI 1) hx hb dX4_run_120 (by decide) ?_
        refine lv_goto (tgt := 125) hx hb dX4_run_121 (by decide) ?_
        refine lv_istore (lv' := [(4, .int (nI (1))), (5, .int (nI (mT x42.1))), (0, .ref (a 0)), (2, .int (nI (N 11 0))), (3, .int (nI (N 11 0 + n)))]) hx hb dX4_run_125 hl (by decide) rfl (fun ls hl => ?_)
        refine lv_iload hx hb dX4_run_127 (lv_at hl 0 rfl) ?_
        refine n_if_eq (tgt := 138) hx hb (by omega) dX4_run_129 (by decide) (fun c_129 => absurd c_129 (by decide)) (fun c_129 => ?_)
        refine lv_aload_n hx hb dX4_run_132 rfl (lv_at hl 2 rfl) ?_
        refine lv_iload hx hb dX4_run_133 (lv_at hl 1 rfl) ?_
        refine g_callv (u := (x42.1, x42.2)) (g_runV (As := [.int (nI (mT x42.1))]) (rest := []) ⟨hx, hb, hml, hown, hts⟩ (tM_issue l dC dI a cI cL cZ x42.1 x42.2 (mT x42.1) hG (by omega) (by have := mBeg_ge ex42.1; have := mT_ge x42.1; omega) (by omega) (mT_ge x42.1).2.2.1 ex42.1.2.2.2.2.2.2.2.2.2.2.2.1 ex42.1.2.2.2.2.2.2.2.2.2.2.2.2 H.size) (cwV 1 hts gX4_run_X4_issue rfl rfl rfl (by decide +kernel) ⟨Nat.le_of_ble_eq_true rfl, Nat.le_of_ble_eq_true rfl⟩) (va_recv hK hP (ci := 4) (q0 := 0) rfl rfl) hK hP hD hS hZ rfl hl.1 rfl (Nat.le_of_ble_eq_true rfl) dX4_run_135) (mW_L a cI cL cZ) hD hS (fun u H locs hw hP hD hS => ?_)
        subst hw
        have hP : va_P (dC, dI) vwCl (mW a cI cL cZ (mIss x42 (mT x42.1)).1 (mIss x42 (mT x42.1)).2) H := hP
        have hD : va_D (aA (mL a) s.heap.size) (mW a cI cL cZ (mIss x42 (mT x42.1)).1 (mIss x42 (mT x42.1)).2) := hD
        refine lv_goto (tgt := 42) hx hb dX4_run_138 (by decide) ?_
        exact jn_42 (mIss x42 (mT x42.1)) ls _ _ (⟨mInv_iss ex42.1 (by omega) (mT_ge _).1, by rw [mIss_14]; exact c_117, mGo_next ex42.2.2 (by omega) c_117 ex42.1⟩) (mMu_lt ex42.1 c_117) (lv_sub hl [2, 3, 4, 0] rfl) hP hD hS
    · have hZ9 : x42 = mZ (N, J) n := by obtain ⟨k9, hk9, hz9⟩ := ex42.2.2; rw [← hz9]; exact (mGo_stop (Or.inl c_51) k9).symm
      refine lv_iconst (v := nI 1) hx hb dX4_run_54 (by decide) ?_
      refine lv_aload_n hx hb dX4_run_55 rfl (lv_at hl 0 rfl) ?_
      refine mg_14 (v := x42.1 14 0) hx hb hts hi4 hown hK hP k89 rfl dX4_run_56 ?_
      refine s_calli (As := [.int (nI (1)), .int (nI (x42.1 14 0))]) (rest := []) ⟨hx, hb, hml, hown, hts⟩ (tM_greater l 1 (x42.1 14 0) (by omega) (by omega)) (va_cwS 2 hts gX4_run_X4_greater rfl rfl rfl (by decide +kernel) ⟨Nat.le_of_ble_eq_true rfl, Nat.le_of_ble_eq_true rfl⟩) rfl hl.1 rfl (Nat.le_of_ble_eq_true rfl) dX4_run_59 (fun r_59 hw => ?_)
      subst hw
      refine lv_aload_n hx hb dX4_run_62 rfl (lv_at hl 0 rfl) ?_
      refine mg_17 (v := x42.1 17 0) hx hb hts hi4 hown hK hP k98 rfl dX4_run_63 ?_
      refine lv_iconst (v := nI 1) hx hb dX4_run_66 (by decide) ?_
      refine n_add hx hb dX4_run_67 ?_
      refine s_calli (As := [.int (nI (max 1 (x42.1 14 0))), .int (nI ((x42.1 17 0) + 1))]) (rest := []) ⟨hx, hb, hml, hown, hts⟩ (tM_greater l (max 1 (x42.1 14 0)) (x42.1 17 0 + 1) (by omega) (by omega)) (va_cwS 2 hts gX4_run_X4_greater rfl rfl rfl (by decide +kernel) ⟨Nat.le_of_ble_eq_true rfl, Nat.le_of_ble_eq_true rfl⟩) rfl hl.1 rfl (Nat.le_of_ble_eq_true rfl) dX4_run_68 (fun r_68 hw => ?_)
      subst hw
      refine lv_istore (lv' := [(5, .int (nI (max (max 1 (x42.1 14 0)) (x42.1 17 0 + 1)))), (0, .ref (a 0)), (2, .int (nI (N 11 0))), (3, .int (nI (N 11 0 + n))), (4, .int (nI (1)))]) hx hb dX4_run_71 hl (by decide) rfl (fun ls hl => ?_)
      refine lv_aload_n hx hb dX4_run_73 rfl (lv_at hl 1 rfl) ?_
      refine lv_iload hx hb dX4_run_74 (lv_at hl 0 rfl) ?_
      refine lv_iload_n hx hb dX4_run_76 rfl (lv_at hl 3 rfl) ?_
      refine n_icmp_gt (tgt := 84) hx hb (by omega) (by omega) dX4_run_77 (by decide) (fun c_77 => ?_) (fun c_77 => ?_)
      · refine lv_iconst (v := nI 0) hx hb dX4_run_84 (by decide) ?_
        refine mp_12 hx hb hts hi4 hown hK hP hD hS k79 (by decide) dX4_run_85 (fun H locs hP hD hS => ?_)
        refine lv_aload_n hx hb dX4_run_88 rfl (lv_at hl 1 rfl) ?_
        refine mg_12 (v := 0) hx hb hts hi4 hown hK hP k79 rfl dX4_run_89 ?_
        refine n_if_eq (tgt := 100) hx hb (by omega) dX4_run_92 (by decide) (fun c_92 => ?_) (fun c_92 => absurd c_92 (by decide))
        refine lv_iload_n hx hb dX4_run_100 rfl (lv_at hl 3 rfl) ?_
        refine lv_istore_n (lv' := [(3, .int (nI (N 11 0 + n))), (5, .int (nI (max (max 1 (x42.1 14 0)) (x42.1 17 0 + 1)))), (0, .ref (a 0)), (2, .int (nI (N 11 0))), (4, .int (nI (1)))]) hx hb dX4_run_101 rfl hl (by decide) rfl (fun ls hl => ?_)
        refine lv_iconst (v := nI 0) hx hb dX4_run_102 (by decide) ?_
        refine lv_istore (lv' := [(4, .int (nI (0))), (3, .int (nI (N 11 0 + n))), (5, .int (nI (max (max 1 (x42.1 14 0)) (x42.1 17 0 + 1)))), (0, .ref (a 0)), (2, .int (nI (N 11 0)))]) hx hb dX4_run_103 hl (by decide) rfl (fun ls hl => ?_)
        refine lv_goto (tgt := 42) hx hb dX4_run_105 (by decide) ?_
        refine lv_iload hx hb dX4_run_42 (lv_at hl 0 rfl) ?_
        refine n_if_eq (tgt := 141) hx hb (by omega) dX4_run_44 (by decide) (fun c_44 => ?_) (fun c_44 => absurd c_44 (by decide))
        exact jn_141 ((uN x42.1 12 0 0, x42.2), N 11 0 + n) ls _ _ (by unfold mE mEnd; rw [← hZ9, if_pos c_51, if_neg (show ¬ mHalt x42 ≤ N 11 0 + n by unfold mHalt; omega)]) (lv_sub hl [3, 4, 1] rfl) hP hD hS
      · refine lv_iconst (v := nI 1) hx hb dX4_run_80 (by decide) ?_
        refine lv_goto (tgt := 85) hx hb dX4_run_81 (by decide) ?_
        refine mp_12 hx hb hts hi4 hown hK hP hD hS k79 (by decide) dX4_run_85 (fun H locs hP hD hS => ?_)
        refine lv_aload_n hx hb dX4_run_88 rfl (lv_at hl 1 rfl) ?_
        refine mg_12 (v := 1) hx hb hts hi4 hown hK hP k79 rfl dX4_run_89 ?_
        refine n_if_eq (tgt := 100) hx hb (by omega) dX4_run_92 (by decide) (fun c_92 => absurd c_92 (by decide)) (fun c_92 => ?_)
        refine lv_iload hx hb dX4_run_95 (lv_at hl 0 rfl) ?_
        refine lv_goto (tgt := 101) hx hb dX4_run_97 (by decide) ?_
        refine lv_istore_n (lv' := [(3, .int (nI (max (max 1 (x42.1 14 0)) (x42.1 17 0 + 1)))), (5, .int (nI (max (max 1 (x42.1 14 0)) (x42.1 17 0 + 1)))), (0, .ref (a 0)), (2, .int (nI (N 11 0))), (4, .int (nI (1)))]) hx hb dX4_run_101 rfl hl (by decide) rfl (fun ls hl => ?_)
        refine lv_iconst (v := nI 0) hx hb dX4_run_102 (by decide) ?_
        refine lv_istore (lv' := [(4, .int (nI (0))), (3, .int (nI (max (max 1 (x42.1 14 0)) (x42.1 17 0 + 1)))), (5, .int (nI (max (max 1 (x42.1 14 0)) (x42.1 17 0 + 1)))), (0, .ref (a 0)), (2, .int (nI (N 11 0)))]) hx hb dX4_run_103 hl (by decide) rfl (fun ls hl => ?_)
        refine lv_goto (tgt := 42) hx hb dX4_run_105 (by decide) ?_
        refine lv_iload hx hb dX4_run_42 (lv_at hl 0 rfl) ?_
        refine n_if_eq (tgt := 141) hx hb (by omega) dX4_run_44 (by decide) (fun c_44 => ?_) (fun c_44 => absurd c_44 (by decide))
        exact jn_141 ((uN x42.1 12 0 1, x42.2), max (max 1 (x42.1 14 0)) (x42.1 17 0 + 1)) ls _ _ (by unfold mE mEnd; rw [← hZ9, if_pos c_51, if_pos (show mHalt x42 ≤ N 11 0 + n by unfold mHalt; omega)]; rfl) (lv_sub hl [3, 4, 1] rfl) hP hD hS
  · have ex141 : x141 = mE (N, J) n := ex141
    have hl : lv_has ls 6 [(0, .ref (a 0)), (2, .int (nI (N 11 0))), (3, .int (nI (x141.2)))] := hl
    have hP : va_P (dC, dI) vwCl (mW a cI cL cZ x141.1.1 x141.1.2) H := hP
    have hD : va_D (aA (mL a) s.heap.size) (mW a cI cL cZ x141.1.1 x141.1.2) := hD
    have hI9 : mInv x141.1.1 := by rw [ex141]; exact hE9.1
    have hb9 : x141.2 ≤ 1100000000 := by rw [ex141]; exact hE9.2
    have hG9 := hI9.2.2.2.2.2.2.2.2.2.2.1
    have hB9 : ∀ k, k < 18 → x141.1.1 22 (7 * k + 5) < 2147483648 := by rw [ex141]; exact mE_22 (mZ_inv hI h14).1 (mZ_inv hI h14).2 (by show N 11 0 + n ≤ _; omega)
    refine lv_aload_n hx hb dX4_run_141 rfl (lv_at hl 0 rfl) ?_
    refine lv_iload_n hx hb dX4_run_142 rfl (lv_at hl 2 rfl) ?_
    refine mp_11 hx hb hts hi4 hown hK hP hD hS k76 dX4_run_143 (fun H locs hP hD hS => ?_)
    refine lv_iconst (v := nI 0) hx hb dX4_run_146 (by decide) ?_
    refine lv_istore (lv' := [(5, .int (nI (0))), (0, .ref (a 0)), (2, .int (nI (N 11 0))), (3, .int (nI (x141.2)))]) hx hb dX4_run_147 hl (by decide) rfl (fun ls hl => ?_)
    refine w_loopH (X := Nat) (μ := fun x149 => 18 - x149) (dC := dC) (dI := dI) (A := aA (mL a) s.heap.size) (H0 := s.heap) (Wf := mF a cI cL cZ) (u := fun x149 => ((mCA (x141.2 + 1) x149 (uN x141.1.1 11 0 x141.2, x141.1.2)).1, (mCA (x141.2 + 1) x149 (uN x141.1.1 11 0 x141.2, x141.1.2)).2)) (P := fun x149 => x149 ≤ 18) (pj := 149) (nL := 6) (lv := fun x149 => [(0, .ref (a 0)), (2, .int (nI (N 11 0))), (5, .int (nI (x149)))]) (st := fun x149 => []) (fun x149 ls H locs ex149 hl hP hD hS jn_149 => ?_) 0 ls (by omega) (lv_sub hl [1, 2, 0] rfl) hP hD hS
    have ex149 : x149 ≤ 18 := ex149
    have hl : lv_has ls 6 [(0, .ref (a 0)), (2, .int (nI (N 11 0))), (5, .int (nI (x149)))] := hl
    have hP : va_P (dC, dI) vwCl (mW a cI cL cZ (mCA (x141.2 + 1) x149 (uN x141.1.1 11 0 x141.2, x141.1.2)).1 (mCA (x141.2 + 1) x149 (uN x141.1.1 11 0 x141.2, x141.1.2)).2) H := hP
    have hD : va_D (aA (mL a) s.heap.size) (mW a cI cL cZ (mCA (x141.2 + 1) x149 (uN x141.1.1 11 0 x141.2, x141.1.2)).1 (mCA (x141.2 + 1) x149 (uN x141.1.1 11 0 x141.2, x141.1.2)).2) := hD
    have eC22 : (mCA (x141.2 + 1) x149 (uN x141.1.1 11 0 x141.2, x141.1.2)).1 22 (7 * x149 + 5) = x141.1.1 22 (7 * x149 + 5) := congrFun (mCA_N (x141.2 + 1) (uN x141.1.1 11 0 x141.2, x141.1.2) 22 (by decide) x149) _
    have eC6 : (mCA (x141.2 + 1) x149 (uN x141.1.1 11 0 x141.2, x141.1.2)).1 22 (7 * x149 + 6) = x141.1.1 22 (7 * x149 + 6) := congrFun (mCA_N (x141.2 + 1) (uN x141.1.1 11 0 x141.2, x141.1.2) 22 (by decide) x149) _
    have eC11 : (mCA (x141.2 + 1) x149 (uN x141.1.1 11 0 x141.2, x141.1.2)).1 11 0 = x141.2 := (congrFun (mCA_N (x141.2 + 1) (uN x141.1.1 11 0 x141.2, x141.1.2) 11 (by decide) x149) 0).trans (uN_h x141.1.1 11 0 x141.2)
    have hz9 := mCA_z (x141.2 + 1) (uN x141.1.1 11 0 x141.2, x141.1.2) hI9.2.2.2.2.2.2.2.2.2.2.2.1 x149
    refine lv_iload hx hb dX4_run_149 (lv_at hl 2 rfl) ?_
    refine lv_bipush (v := nI 18) hx hb dX4_run_151 (by decide) ?_
    refine n_icmp_ge (tgt := 197) hx hb (by omega) (by omega) dX4_run_153 (by decide) (fun c_153 => ?_) (fun c_153 => ?_)
    · refine lv_aload_n hx hb dX4_run_197 rfl (lv_at hl 0 rfl) ?_
      refine mg_11 (v := x141.2) hx hb hts hi4 hown hK hP k76 eC11 dX4_run_198 ?_
      refine lv_iload_n hx hb dX4_run_201 rfl (lv_at hl 1 rfl) ?_
      refine lv_isub hx hb dX4_run_202 ?_
      exact g_reti hx hb hr hlocks ((mCA (x141.2 + 1) x149 (uN x141.1.1 11 0 x141.2, x141.1.2)).1, (mCA (x141.2 + 1) x149 (uN x141.1.1 11 0 x141.2, x141.1.2)).2) (⟨by rw [ex141], by rw [gEta]; unfold mRunS; rw [← ex141, show x149 = 18 by omega]⟩) hP hS dX4_run_203
    · refine lv_aload_n hx hb dX4_run_156 rfl (lv_at hl 0 rfl) ?_
      refine mg_24 hx hb hts hi4 hown hK hP k56 dX4_run_157 ?_
      refine lv_iload hx hb dX4_run_160 (lv_at hl 2 rfl) ?_
      refine ml_24 (v := (mCA (x141.2 + 1) x149 (uN x141.1.1 11 0 x141.2, x141.1.2)).1 24 x149) hx hb hK hP (by omega) rfl dX4_run_162 ?_
      refine n_if_eq (tgt := 191) hx hb (by have := hz9 x149 (by omega); omega) dX4_run_163 (by decide) (fun c_163 => ?_) (fun c_163 => ?_)
      · refine lv_iinc (v := nI (x149 + 1)) (lv' := [(5, .int (nI (x149 + 1))), (0, .ref (a 0)), (2, .int (nI (N 11 0)))]) hx hb dX4_run_191 hl (k := 2) rfl (nI_1 _) (by decide) rfl (fun ls hl => ?_)
        refine lv_goto (tgt := 149) hx hb dX4_run_194 (by decide) ?_
        have eM : mCA (x141.2 + 1) (x149 + 1) (uN x141.1.1 11 0 x141.2, x141.1.2) = (mCA (x141.2 + 1) x149 (uN x141.1.1 11 0 x141.2, x141.1.2)) := if_neg (fun z => z.1 c_163)
        rw [← eM] at hP hD
        exact jn_149 (x149 + 1) ls _ _ (by omega) (by omega) (lv_sub hl [1, 2, 0] rfl) hP hD hS
      · refine lv_aload_n hx hb dX4_run_166 rfl (lv_at hl 0 rfl) ?_
        refine mg_22 hx hb hts hi4 hown hK hP k50 dX4_run_167 ?_
        refine lv_bipush (v := nI 7) hx hb dX4_run_170 (by decide) ?_
        refine lv_iload hx hb dX4_run_172 (lv_at hl 2 rfl) ?_
        refine n_mul hx hb dX4_run_174 ?_
        refine lv_iconst (v := nI 5) hx hb dX4_run_175 (by decide) ?_
        refine n_add hx hb dX4_run_176 ?_
        refine ml_22 (v := x141.1.1 22 (7 * x149 + 5)) hx hb hK hP (by omega) eC22 dX4_run_177 ?_
        refine lv_aload_n hx hb dX4_run_178 rfl (lv_at hl 0 rfl) ?_
        refine mg_11 (v := x141.2) hx hb hts hi4 hown hK hP k76 eC11 dX4_run_179 ?_
        refine n_icmp_gt (tgt := 191) hx hb (hB9 x149 (by omega)) (by omega) dX4_run_182 (by decide) (fun c_182 => ?_) (fun c_182 => ?_)
        · refine lv_iinc (v := nI (x149 + 1)) (lv' := [(5, .int (nI (x149 + 1))), (0, .ref (a 0)), (2, .int (nI (N 11 0)))]) hx hb dX4_run_191 hl (k := 2) rfl (nI_1 _) (by decide) rfl (fun ls hl => ?_)
          refine lv_goto (tgt := 149) hx hb dX4_run_194 (by decide) ?_
          have eM : mCA (x141.2 + 1) (x149 + 1) (uN x141.1.1 11 0 x141.2, x141.1.2) = (mCA (x141.2 + 1) x149 (uN x141.1.1 11 0 x141.2, x141.1.2)) := if_neg (fun z => absurd z.2 (by rw [eC22]; omega))
          rw [← eM] at hP hD
          exact jn_149 (x149 + 1) ls _ _ (by omega) (by omega) (lv_sub hl [1, 2, 0] rfl) hP hD hS
        · refine lv_aload_n hx hb dX4_run_185 rfl (lv_at hl 0 rfl) ?_
          refine lv_iload hx hb dX4_run_186 (lv_at hl 2 rfl) ?_
          refine g_callv (u := ((mCA (x141.2 + 1) x149 (uN x141.1.1 11 0 x141.2, x141.1.2)).1, (mCA (x141.2 + 1) x149 (uN x141.1.1 11 0 x141.2, x141.1.2)).2)) (g_runV (As := [.int (nI (x149))]) (rest := []) ⟨hx, hb, hml, hown, hts⟩ (tM_commit l dC dI a cI cL cZ (mCA (x141.2 + 1) x149 (uN x141.1.1 11 0 x141.2, x141.1.2)).1 (mCA (x141.2 + 1) x149 (uN x141.1.1 11 0 x141.2, x141.1.2)).2 x149 (by omega) (hz9 x149 (by omega)) (by rw [eC6]; exact hI9.2.2.2.2.2.2.2.2.2.2.2.2 x149 (by omega)) H.size) (cwV 1 hts gX4_run_X4_commit rfl rfl rfl (by decide +kernel) ⟨Nat.le_of_ble_eq_true rfl, Nat.le_of_ble_eq_true rfl⟩) (va_recv hK hP (ci := 4) (q0 := 0) rfl rfl) hK hP hD hS hZ rfl hl.1 rfl (Nat.le_of_ble_eq_true rfl) dX4_run_188) (mW_L a cI cL cZ) hD hS (fun u H locs hw hP hD hS => ?_)
          subst hw
          have hP : va_P (dC, dI) vwCl (mW a cI cL cZ (mCm (mCA (x141.2 + 1) x149 (uN x141.1.1 11 0 x141.2, x141.1.2)) x149).1 (mCm (mCA (x141.2 + 1) x149 (uN x141.1.1 11 0 x141.2, x141.1.2)) x149).2) H := hP
          have hD : va_D (aA (mL a) s.heap.size) (mW a cI cL cZ (mCm (mCA (x141.2 + 1) x149 (uN x141.1.1 11 0 x141.2, x141.1.2)) x149).1 (mCm (mCA (x141.2 + 1) x149 (uN x141.1.1 11 0 x141.2, x141.1.2)) x149).2) := hD
          refine lv_iinc (v := nI (x149 + 1)) (lv' := [(5, .int (nI (x149 + 1))), (0, .ref (a 0)), (2, .int (nI (N 11 0)))]) hx hb dX4_run_191 hl (k := 2) rfl (nI_1 _) (by decide) rfl (fun ls hl => ?_)
          refine lv_goto (tgt := 149) hx hb dX4_run_194 (by decide) ?_
          have eM : mCA (x141.2 + 1) (x149 + 1) (uN x141.1.1 11 0 x141.2, x141.1.2) = mCm (mCA (x141.2 + 1) x149 (uN x141.1.1 11 0 x141.2, x141.1.2)) x149 := if_pos ⟨c_163, by rw [eC22]; omega⟩
          rw [← eM] at hP hD
          exact jn_149 (x149 + 1) ls _ _ (by omega) (by omega) (lv_sub hl [1, 2, 0] rfl) hP hD hS
