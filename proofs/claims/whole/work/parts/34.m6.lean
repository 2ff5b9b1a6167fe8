/-! fills -/
def flN (N : Nat → Nat → Nat) (f n v : Nat) : Nat → Nat → Nat := fun g => if g = f then (fun j => if j < n then v else N g j) else N g
def flJ (J : Nat → Nat → Int64) (f n : Nat) (v : Int64) : Nat → Nat → Int64 := fun g => if g = f then (fun j => if j < n then v else J g j) else J g
theorem flN_0 (N : Nat → Nat → Nat) (f v : Nat) : flN N f 0 v = N := by
  funext g j
  unfold flN
  split <;> rfl
theorem flJ_0 (N : Nat → Nat → Int64) (f : Nat) (v : Int64) : flJ N f 0 v = N := by
  funext g j
  unfold flJ
  split <;> rfl
theorem flN_s (N : Nat → Nat → Nat) (f i v : Nat) : uN (flN N f i v) f i v = flN N f (i + 1) v := by
  funext g j
  unfold uN flN
  by_cases h : g = f
  · simp only [h, if_true]
    by_cases h1 : j = i
    · rw [if_pos h1, if_pos (by omega)]
    · rw [if_neg h1]
      by_cases h2 : j < i
      · rw [if_pos h2, if_pos (by omega)]
      · rw [if_neg h2, if_neg (by omega)]
  · simp only [h, if_false]
theorem flJ_s (N : Nat → Nat → Int64) (f i : Nat) (v : Int64) : uJ (flJ N f i v) f i v = flJ N f (i + 1) v := by
  funext g j
  unfold uJ flJ
  by_cases h : g = f
  · simp only [h, if_true]
    by_cases h1 : j = i
    · rw [if_pos h1, if_pos (by omega)]
    · rw [if_neg h1]
      by_cases h2 : j < i
      · rw [if_pos h2, if_pos (by omega)]
      · rw [if_neg h2, if_neg (by omega)]
  · simp only [h, if_false]
/-- copies of a row of longs to two others -/
def cpJ (J : Nat → Nat → Int64) (f p q n : Nat) : Nat → Nat → Int64 := fun g j => if (g = p ∨ g = q) ∧ j < n then J f j else J g j
theorem cpJ_0 (J : Nat → Nat → Int64) (f p q : Nat) : cpJ J f p q 0 = J := by
  funext g j
  unfold cpJ
  rw [if_neg (fun z => Nat.not_lt_zero _ z.2)]
theorem cpJ_f (J : Nat → Nat → Int64) {f p q : Nat} (n j : Nat) (h1 : f ≠ p) (h2 : f ≠ q) : cpJ J f p q n f j = J f j := if_neg (fun z => z.1.elim h1 h2)
theorem cpJ_s (J : Nat → Nat → Int64) (f p q i : Nat) : uJ (uJ (cpJ J f p q i) p i (J f i)) q i (J f i) = cpJ J f p q (i + 1) := by
  funext g j
  unfold uJ cpJ
  by_cases hq : g = q
  · simp only [hq, if_true]
    by_cases h1 : j = i
    · rw [if_pos h1, if_pos ⟨Or.inr trivial, by omega⟩, h1]
    · rw [if_neg h1]
      by_cases hp : q = p
      · simp only [hp, if_true, if_neg h1]
        by_cases h2 : j < i
        · rw [if_pos ⟨Or.inl trivial, h2⟩, if_pos ⟨Or.inl trivial, by omega⟩]
        · rw [if_neg (fun z => h2 z.2), if_neg (fun z => by omega)]
      · simp only [hp, if_false]
        by_cases h2 : j < i
        · rw [if_pos ⟨Or.inr trivial, h2⟩, if_pos ⟨Or.inr trivial, by omega⟩]
        · rw [if_neg (fun z => h2 z.2), if_neg (fun z => by omega)]
  · simp only [hq, if_false]
    by_cases hp : g = p
    · simp only [hp, if_true]
      by_cases h1 : j = i
      · rw [if_pos h1, if_pos ⟨Or.inl trivial, by omega⟩, h1]
      · rw [if_neg h1]
        by_cases h2 : j < i
        · rw [if_pos ⟨Or.inl trivial, h2⟩, if_pos ⟨Or.inl trivial, by omega⟩]
        · rw [if_neg (fun z => h2 z.2), if_neg (fun z => by omega)]
    · simp only [hp, hq, if_false, false_or, false_and]
/-- three rows of numbers filled together -/
def fl3 (N : Nat → Nat → Nat) (n : Nat) : Nat → Nat → Nat := flN (flN (flN N 19 n 0) 20 n 4294967295) 21 n 0
theorem fl3_0 (N : Nat → Nat → Nat) : fl3 N 0 = N := by unfold fl3; rw [flN_0, flN_0, flN_0]
theorem flN_c (N : Nat → Nat → Nat) {f g : Nat} (h : f ≠ g) (i v n w : Nat) : uN (flN N g n w) f i v = flN (uN N f i v) g n w := by
  funext x j
  unfold uN flN
  by_cases h1 : x = f
  · have h2 : ¬ x = g := fun z => h (h1.symm.trans z)
    simp only [h1, if_true, if_neg h]
  · simp only [h1, if_false]
theorem uN_c (N : Nat → Nat → Nat) {f g : Nat} (h : f ≠ g) (i v n w : Nat) : uN (uN N g n w) f i v = uN (uN N f i v) g n w := by
  funext x j
  unfold uN
  by_cases h1 : x = f
  · have h2 : ¬ x = g := fun z => h (h1.symm.trans z)
    simp only [h1, if_true, if_neg h]
  · simp only [h1, if_false]
theorem fl3_s (N : Nat → Nat → Nat) (i : Nat) : uN (uN (uN (fl3 N i) 19 i 0) 20 i 4294967295) 21 i 0 = fl3 N (i + 1) := by
  unfold fl3
  rw [flN_c _ (by decide : (19 : Nat) ≠ 21), flN_c _ (by decide : (19 : Nat) ≠ 20), flN_s, flN_c _ (by decide : (20 : Nat) ≠ 21), flN_s, flN_s]
/-- the units: none holds anything -/
def flU (N : Nat → Nat → Nat) (n : Nat) : Nat → Nat → Nat := fun g j => if g = 24 ∧ j < n then 0 else if g = 22 ∧ j % 7 = 5 ∧ j < 7 * n then 0 else N g j
theorem flU_0 (N : Nat → Nat → Nat) : flU N 0 = N := by
  funext g j
  unfold flU
  rw [if_neg (fun z => by omega), if_neg (fun z => by omega)]
theorem flU_s (N : Nat → Nat → Nat) (i : Nat) : uN (uN (flU N i) 24 i 0) 22 (7 * i + 5) 0 = flU N (i + 1) := by
  funext g j
  unfold uN flU
  by_cases h1 : g = 22
  · subst h1
    have e : ¬ (22 : Nat) = 24 := by decide
    simp only [if_true, true_and, e, if_false, false_and]
    by_cases h2 : j = 7 * i + 5
    · rw [if_pos h2, if_pos (by omega)]
    · rw [if_neg h2]
      by_cases h3 : j % 7 = 5 ∧ j < 7 * i
      · rw [if_pos h3, if_pos (by omega)]
      · rw [if_neg h3, if_neg (by omega)]
  · by_cases h2 : g = 24
    · subst h2
      have e : ¬ (24 : Nat) = 22 := by decide
      simp only [if_true, true_and, e, if_false, false_and]
      by_cases h3 : j = i
      · rw [if_pos h3, if_pos (by omega)]
      · rw [if_neg h3]
        by_cases h4 : j < i
        · rw [if_pos h4, if_pos (by omega)]
        · rw [if_neg h4, if_neg (by omega)]
    · simp only [h1, h2, if_false, false_and]
def mSc (N : Nat → Nat → Nat) : Nat → Nat → Nat := uN (uN (uN (uN (uN (uN (uN (uN (uN N 26 0 0) 11 0 0) 12 0 0) 13 0 0) 8 0 0) 14 0 0) 15 0 0) 16 0 0) 17 0 0
def mAgN (N : Nat → Nat → Nat) : Nat → Nat → Nat := flU (fl3 (flN (mSc N) 18 3 0) 16) 18
def mAgJ (J : Nat → Nat → Int64) : Nat → Nat → Int64 := cpJ (cpJ J 4 6 9 16) 5 7 10 256
def mAgain (u : gSt) : gSt := (mAgN u.1, mAgJ u.2)
def mClN (N : Nat → Nat → Nat) : Nat → Nat → Nat := uN (uN (uN (uN (uN (uN (uN (flN (flN (uN N 26 0 0) 0 1024 0) 1 6 1) 2 0 2) 2 1 1) 2 2 6) 2 3 12) 2 4 3) 2 5 1) 3 0 1
def mClJ (J : Nat → Nat → Int64) : Nat → Nat → Int64 := flJ (flJ J 4 16 0) 5 256 0
def mClear (u : gSt) : gSt := mAgain (mClN u.1, mClJ u.2)
set_option maxHeartbeats 4000000 in
set_option maxRecDepth 100000 in
theorem tM_again (l : Launch) (dC : Nat → ClassId) (dI : Nat → Nat → Nat) (a : Nat → Nat) (cI cL cZ : ClassId) (N : Nat → Nat → Nat) (J : Nat → Nat → Int64)   : MetV l yX4_again wsX4_again ({ frames := 0, cells := 0, slots := 0, locals := 0 } : Room) dC dI (gT cI cL cZ) (mF a cI cL cZ) (mL a) (N, J) [.ref (a 0)] (fun u => u = mAgain (N, J)) := by
  intro sz
  refine g_entry (bytes := cX4_again) (maxL := 2) (ret := none) (Qc := fun sz => va_Qv (fun u => u = mAgain (N, J)) (gB dC dI (mF a cI cL cZ)) (aA (mL a) sz)) (by decide) rfl (Nat.le_of_ble_eq_true rfl) rfl ?_
  intro p e s m below meth c ls hx hb hr hml hts hown hlocks hK hP hD hS hZ hl
  have hP : va_P (dC, dI) vwCl (mW a cI cL cZ N J) s.heap := hP
  have hD : va_D (aA (mL a) s.heap.size) (mW a cI cL cZ N J) := hD
  have hown : s.vm.findClass RX4 = some m.cls := hown
  have hl : lv_has ls 2 [(0, .ref (a 0))] := hl
  have hi4 : ∀ w ∈ wsX40, w ∈ wsX4_again := by decide +kernel
  have k19 := hts (.fieldLink RX4 19 "ScoreMachineModel" "firstRegisters" "[J") (by decide +kernel)
  have k23 := hts (.fieldLink RX4 23 "ScoreMachineModel" "firstMemory" "[J") (by decide +kernel)
  have k26 := hts (.fieldLink RX4 26 "ScoreMachineModel" "plainRegisters" "[J") (by decide +kernel)
  have k29 := hts (.fieldLink RX4 29 "ScoreMachineModel" "plainMemory" "[J") (by decide +kernel)
  have k32 := hts (.fieldLink RX4 32 "ScoreMachineModel" "registers" "[J") (by decide +kernel)
  have k35 := hts (.fieldLink RX4 35 "ScoreMachineModel" "memory" "[J") (by decide +kernel)
  have k38 := hts (.fieldLink RX4 38 "ScoreMachineModel" "stalls" "[I") (by decide +kernel)
  have k41 := hts (.fieldLink RX4 41 "ScoreMachineModel" "writtenOf" "[I") (by decide +kernel)
  have k44 := hts (.fieldLink RX4 44 "ScoreMachineModel" "writerOf" "[I") (by decide +kernel)
  have k47 := hts (.fieldLink RX4 47 "ScoreMachineModel" "readOf" "[I") (by decide +kernel)
  have k50 := hts (.fieldLink RX4 50 "ScoreMachineModel" "unitRow" "[I") (by decide +kernel)
  have k56 := hts (.fieldLink RX4 56 "ScoreMachineModel" "unitOpen" "[Z") (by decide +kernel)
  have k66 := hts (.fieldLink RX4 66 "ScoreMachineModel" "thrown" "I") (by decide +kernel)
  have k76 := hts (.fieldLink RX4 76 "ScoreMachineModel" "cycle" "I") (by decide +kernel)
  have k79 := hts (.fieldLink RX4 79 "ScoreMachineModel" "over" "Z") (by decide +kernel)
  have k83 := hts (.fieldLink RX4 83 "ScoreMachineModel" "many" "I") (by decide +kernel)
  have k86 := hts (.fieldLink RX4 86 "ScoreMachineModel" "place" "I") (by decide +kernel)
  have k89 := hts (.fieldLink RX4 89 "ScoreMachineModel" "issuedLast" "I") (by decide +kernel)
  have k92 := hts (.fieldLink RX4 92 "ScoreMachineModel" "issuedThen" "I") (by decide +kernel)
  have k95 := hts (.fieldLink RX4 95 "ScoreMachineModel" "branchWritten" "I") (by decide +kernel)
  have k98 := hts (.fieldLink RX4 98 "ScoreMachineModel" "mostWritten" "I") (by decide +kernel)
  refine lv_aload_n hx hb dX4_again_0 rfl (lv_at hl 0 rfl) ?_
  refine lv_iconst (v := nI 0) hx hb dX4_again_1 (by decide) ?_
  refine mp_26 hx hb hts hi4 hown hK hP hD hS k66 dX4_again_2 (fun H locs hP hD hS => ?_)
  refine lv_aload_n hx hb dX4_again_5 rfl (lv_at hl 0 rfl) ?_
  refine lv_iconst (v := nI 0) hx hb dX4_again_6 (by decide) ?_
  refine mp_11 hx hb hts hi4 hown hK hP hD hS k76 dX4_again_7 (fun H locs hP hD hS => ?_)
  refine lv_aload_n hx hb dX4_again_10 rfl (lv_at hl 0 rfl) ?_
  refine lv_iconst (v := nI 0) hx hb dX4_again_11 (by decide) ?_
  refine mp_12 hx hb hts hi4 hown hK hP hD hS k79 (by decide) dX4_again_12 (fun H locs hP hD hS => ?_)
  refine lv_aload_n hx hb dX4_again_15 rfl (lv_at hl 0 rfl) ?_
  refine lv_iconst (v := nI 0) hx hb dX4_again_16 (by decide) ?_
  refine mp_13 hx hb hts hi4 hown hK hP hD hS k83 dX4_again_17 (fun H locs hP hD hS => ?_)
  refine lv_aload_n hx hb dX4_again_20 rfl (lv_at hl 0 rfl) ?_
  refine lv_iconst (v := nI 0) hx hb dX4_again_21 (by decide) ?_
  refine mp_8 hx hb hts hi4 hown hK hP hD hS k86 dX4_again_22 (fun H locs hP hD hS => ?_)
  refine lv_aload_n hx hb dX4_again_25 rfl (lv_at hl 0 rfl) ?_
  refine lv_iconst (v := nI 0) hx hb dX4_again_26 (by decide) ?_
  refine mp_14 hx hb hts hi4 hown hK hP hD hS k89 dX4_again_27 (fun H locs hP hD hS => ?_)
  refine lv_aload_n hx hb dX4_again_30 rfl (lv_at hl 0 rfl) ?_
  refine lv_iconst (v := nI 0) hx hb dX4_again_31 (by decide) ?_
  refine mp_15 hx hb hts hi4 hown hK hP hD hS k92 dX4_again_32 (fun H locs hP hD hS => ?_)
  refine lv_aload_n hx hb dX4_again_35 rfl (lv_at hl 0 rfl) ?_
  refine lv_iconst (v := nI 0) hx hb dX4_again_36 (by decide) ?_
  refine mp_16 hx hb hts hi4 hown hK hP hD hS k95 dX4_again_37 (fun H locs hP hD hS => ?_)
  refine lv_aload_n hx hb dX4_again_40 rfl (lv_at hl 0 rfl) ?_
  refine lv_iconst (v := nI 0) hx hb dX4_again_41 (by decide) ?_
  refine mp_17 hx hb hts hi4 hown hK hP hD hS k98 dX4_again_42 (fun H locs hP hD hS => ?_)
  have hP : va_P (dC, dI) vwCl (mW a cI cL cZ (flN (mSc N) 18 0 0) J) H := by rw [flN_0]; exact hP
  have hD : va_D (aA (mL a) s.heap.size) (mW a cI cL cZ (flN (mSc N) 18 0 0) J) := by rw [flN_0]; exact hD
  refine lv_iconst (v := nI 0) hx hb dX4_again_45 (by decide) ?_
  refine lv_istore_n (lv' := [(1, .int (nI (0))), (0, .ref (a 0))]) hx hb dX4_again_46 rfl hl (by decide) rfl (fun ls hl => ?_)
  refine w_loopH (X := Nat) (μ := fun x47 => 3 - x47) (dC := dC) (dI := dI) (A := aA (mL a) s.heap.size) (H0 := s.heap) (Wf := mF a cI cL cZ) (u := fun x47 => ((flN (mSc N) 18 x47 0), J)) (P := fun x47 => x47 ≤ 3) (pj := 47) (nL := 2) (lv := fun x47 => [(0, .ref (a 0)), (1, .int (nI (x47)))]) (st := fun x47 => []) (fun x47 ls H locs ex47 hl hP hD hS jn_47 => ?_) 0 ls (by omega) (lv_sub hl [1, 0] rfl) hP hD hS
  have ex47 : x47 ≤ 3 := ex47
  have hl : lv_has ls 2 [(0, .ref (a 0)), (1, .int (nI (x47)))] := hl
  have hP : va_P (dC, dI) vwCl (mW a cI cL cZ (flN (mSc N) 18 x47 0) J) H := hP
  have hD : va_D (aA (mL a) s.heap.size) (mW a cI cL cZ (flN (mSc N) 18 x47 0) J) := hD
  refine lv_iload_n hx hb dX4_again_47 rfl (lv_at hl 1 rfl) ?_
  refine lv_iconst (v := nI 3) hx hb dX4_again_48 (by decide) ?_
  refine n_icmp_ge (tgt := 65) hx hb (by omega) (by omega) dX4_again_49 (by decide) (fun c_49 => ?_) (fun c_49 => ?_)
  · have e9 : x47 = 3 := by omega
    rw [e9] at hP hD
    have hP : va_P (dC, dI) vwCl (mW a cI cL cZ (fl3 (flN (mSc N) 18 3 0) 0) (cpJ J 4 6 9 0)) H := by rw [fl3_0, cpJ_0]; exact hP
    have hD : va_D (aA (mL a) s.heap.size) (mW a cI cL cZ (fl3 (flN (mSc N) 18 3 0) 0) (cpJ J 4 6 9 0)) := by rw [fl3_0, cpJ_0]; exact hD
    refine lv_iconst (v := nI 0) hx hb dX4_again_65 (by decide) ?_
    refine lv_istore_n (lv' := [(1, .int (nI (0))), (0, .ref (a 0))]) hx hb dX4_again_66 rfl hl (by decide) rfl (fun ls hl => ?_)
    refine w_loopH (X := Nat) (μ := fun x67 => 16 - x67) (dC := dC) (dI := dI) (A := aA (mL a) s.heap.size) (H0 := s.heap) (Wf := mF a cI cL cZ) (u := fun x67 => ((fl3 (flN (mSc N) 18 3 0) x67), (cpJ J 4 6 9 x67))) (P := fun x67 => x67 ≤ 16) (pj := 67) (nL := 2) (lv := fun x67 => [(0, .ref (a 0)), (1, .int (nI (x67)))]) (st := fun x67 => []) (fun x67 ls H locs ex67 hl hP hD hS jn_67 => ?_) 0 ls (by omega) (lv_sub hl [1, 0] rfl) hP hD hS
    have ex67 : x67 ≤ 16 := ex67
    have hl : lv_has ls 2 [(0, .ref (a 0)), (1, .int (nI (x67)))] := hl
    have hP : va_P (dC, dI) vwCl (mW a cI cL cZ (fl3 (flN (mSc N) 18 3 0) x67) (cpJ J 4 6 9 x67)) H := hP
    have hD : va_D (aA (mL a) s.heap.size) (mW a cI cL cZ (fl3 (flN (mSc N) 18 3 0) x67) (cpJ J 4 6 9 x67)) := hD
    refine lv_iload_n hx hb dX4_again_67 rfl (lv_at hl 1 rfl) ?_
    refine lv_bipush (v := nI 16) hx hb dX4_again_68 (by decide) ?_
    refine n_icmp_ge (tgt := 124) hx hb (by omega) (by omega) dX4_again_70 (by decide) (fun c_70 => ?_) (fun c_70 => ?_)
    · have e9 : x67 = 16 := by omega
      rw [e9] at hP hD
      have hP : va_P (dC, dI) vwCl (mW a cI cL cZ (fl3 (flN (mSc N) 18 3 0) 16) (cpJ (cpJ J 4 6 9 16) 5 7 10 0)) H := by rw [cpJ_0]; exact hP
      have hD : va_D (aA (mL a) s.heap.size) (mW a cI cL cZ (fl3 (flN (mSc N) 18 3 0) 16) (cpJ (cpJ J 4 6 9 16) 5 7 10 0)) := by rw [cpJ_0]; exact hD
      refine lv_iconst (v := nI 0) hx hb dX4_again_124 (by decide) ?_
      refine lv_istore_n (lv' := [(1, .int (nI (0))), (0, .ref (a 0))]) hx hb dX4_again_125 rfl hl (by decide) rfl (fun ls hl => ?_)
      refine w_loopH (X := Nat) (μ := fun x126 => 256 - x126) (dC := dC) (dI := dI) (A := aA (mL a) s.heap.size) (H0 := s.heap) (Wf := mF a cI cL cZ) (u := fun x126 => ((fl3 (flN (mSc N) 18 3 0) 16), (cpJ (cpJ J 4 6 9 16) 5 7 10 x126))) (P := fun x126 => x126 ≤ 256) (pj := 126) (nL := 2) (lv := fun x126 => [(0, .ref (a 0)), (1, .int (nI (x126)))]) (st := fun x126 => []) (fun x126 ls H locs ex126 hl hP hD hS jn_126 => ?_) 0 ls (by omega) (lv_sub hl [1, 0] rfl) hP hD hS
      have ex126 : x126 ≤ 256 := ex126
      have hl : lv_has ls 2 [(0, .ref (a 0)), (1, .int (nI (x126)))] := hl
      have hP : va_P (dC, dI) vwCl (mW a cI cL cZ (fl3 (flN (mSc N) 18 3 0) 16) (cpJ (cpJ J 4 6 9 16) 5 7 10 x126)) H := hP
      have hD : va_D (aA (mL a) s.heap.size) (mW a cI cL cZ (fl3 (flN (mSc N) 18 3 0) 16) (cpJ (cpJ J 4 6 9 16) 5 7 10 x126)) := hD
      refine lv_iload_n hx hb dX4_again_126 rfl (lv_at hl 1 rfl) ?_
      refine lv_sipush (v := nI 256) hx hb dX4_again_127 (by decide) ?_
      refine n_icmp_ge (tgt := 163) hx hb (by omega) (by omega) dX4_again_130 (by decide) (fun c_130 => ?_) (fun c_130 => ?_)
      · have e9 : x126 = 256 := by omega
        rw [e9] at hP hD
        have hP : va_P (dC, dI) vwCl (mW a cI cL cZ (flU (fl3 (flN (mSc N) 18 3 0) 16) 0) (mAgJ J)) H := by rw [flU_0]; exact hP
        have hD : va_D (aA (mL a) s.heap.size) (mW a cI cL cZ (flU (fl3 (flN (mSc N) 18 3 0) 16) 0) (mAgJ J)) := by rw [flU_0]; exact hD
        refine lv_iconst (v := nI 0) hx hb dX4_again_163 (by decide) ?_
        refine lv_istore_n (lv' := [(1, .int (nI (0))), (0, .ref (a 0))]) hx hb dX4_again_164 rfl hl (by decide) rfl (fun ls hl => ?_)
        refine w_loopH (X := Nat) (μ := fun x165 => 18 - x165) (dC := dC) (dI := dI) (A := aA (mL a) s.heap.size) (H0 := s.heap) (Wf := mF a cI cL cZ) (u := fun x165 => ((flU (fl3 (flN (mSc N) 18 3 0) 16) x165), (mAgJ J))) (P := fun x165 => x165 ≤ 18) (pj := 165) (nL := 2) (lv := fun x165 => [(0, .ref (a 0)), (1, .int (nI (x165)))]) (st := fun x165 => []) (fun x165 ls H locs ex165 hl hP hD hS jn_165 => ?_) 0 ls (by omega) (lv_sub hl [1, 0] rfl) hP hD hS
        have ex165 : x165 ≤ 18 := ex165
        have hl : lv_has ls 2 [(0, .ref (a 0)), (1, .int (nI (x165)))] := hl
        have hP : va_P (dC, dI) vwCl (mW a cI cL cZ (flU (fl3 (flN (mSc N) 18 3 0) 16) x165) (mAgJ J)) H := hP
        have hD : va_D (aA (mL a) s.heap.size) (mW a cI cL cZ (flU (fl3 (flN (mSc N) 18 3 0) 16) x165) (mAgJ J)) := hD
        refine lv_iload_n hx hb dX4_again_165 rfl (lv_at hl 1 rfl) ?_
        refine lv_bipush (v := nI 18) hx hb dX4_again_166 (by decide) ?_
        refine n_icmp_ge (tgt := 196) hx hb (by omega) (by omega) dX4_again_168 (by decide) (fun c_168 => ?_) (fun c_168 => ?_)
        · have e9 : x165 = 18 := by omega
          rw [e9] at hP hD
          exact g_retv hx hb hr hlocks (mAgN N, mAgJ J) rfl hP hS dX4_again_196
        · refine lv_aload_n hx hb dX4_again_171 rfl (lv_at hl 0 rfl) ?_
          refine mg_24 hx hb hts hi4 hown hK hP k56 dX4_again_172 ?_
          refine lv_iload_n hx hb dX4_again_175 rfl (lv_at hl 1 rfl) ?_
          refine lv_iconst (v := nI 0) hx hb dX4_again_176 (by decide) ?_
          refine ms_24 hx hb hK hP hD hS (by omega) (by decide) dX4_again_177 (fun H locs hP hD hS => ?_)
          refine lv_aload_n hx hb dX4_again_178 rfl (lv_at hl 0 rfl) ?_
          refine mg_22 hx hb hts hi4 hown hK hP k50 dX4_again_179 ?_
          refine lv_bipush (v := nI 7) hx hb dX4_again_182 (by decide) ?_
          refine lv_iload_n hx hb dX4_again_184 rfl (lv_at hl 1 rfl) ?_
          refine n_mul hx hb dX4_again_185 ?_
          refine lv_iconst (v := nI 5) hx hb dX4_again_186 (by decide) ?_
          refine n_add hx hb dX4_again_187 ?_
          refine lv_iconst (v := nI 0) hx hb dX4_again_188 (by decide) ?_
          refine ms_22 hx hb hK hP hD hS (by omega) dX4_again_189 (fun H locs hP hD hS => ?_)
          refine lv_iinc (v := nI (x165 + 1)) (lv' := [(1, .int (nI (x165 + 1))), (0, .ref (a 0))]) hx hb dX4_again_190 hl (k := 1) rfl (nI_1 _) (by decide) rfl (fun ls hl => ?_)
          refine lv_goto (tgt := 165) hx hb dX4_again_193 (by decide) ?_
          rw [flU_s] at hP hD
          exact jn_165 (x165 + 1) ls _ _ (by omega) (by omega) (lv_sub hl [1, 0] rfl) hP hD hS
      · refine lv_aload_n hx hb dX4_again_133 rfl (lv_at hl 0 rfl) ?_
        refine mg_7 hx hb hts hi4 hown hK hP k29 dX4_again_134 ?_
        refine lv_iload_n hx hb dX4_again_137 rfl (lv_at hl 1 rfl) ?_
        refine lv_aload_n hx hb dX4_again_138 rfl (lv_at hl 0 rfl) ?_
        refine mg_5 hx hb hts hi4 hown hK hP k23 dX4_again_139 ?_
        refine lv_iload_n hx hb dX4_again_142 rfl (lv_at hl 1 rfl) ?_
        refine ml_5 (v := cpJ J 4 6 9 16 5 x126) hx hb hK hP (by omega) (cpJ_f _ x126 x126 (by decide) (by decide)) dX4_again_143 ?_
        refine ms_7 hx hb hK hP hD hS (by omega) dX4_again_144 (fun H locs hP hD hS => ?_)
        refine lv_aload_n hx hb dX4_again_145 rfl (lv_at hl 0 rfl) ?_
        refine mg_10 hx hb hts hi4 hown hK hP k35 dX4_again_146 ?_
        refine lv_iload_n hx hb dX4_again_149 rfl (lv_at hl 1 rfl) ?_
        refine lv_aload_n hx hb dX4_again_150 rfl (lv_at hl 0 rfl) ?_
        refine mg_5 hx hb hts hi4 hown hK hP k23 dX4_again_151 ?_
        refine lv_iload_n hx hb dX4_again_154 rfl (lv_at hl 1 rfl) ?_
        refine ml_5 (v := cpJ J 4 6 9 16 5 x126) hx hb hK hP (by omega) (by rw [uJ_o (by decide)]; exact cpJ_f _ x126 x126 (by decide) (by decide)) dX4_again_155 ?_
        refine ms_10 hx hb hK hP hD hS (by omega) dX4_again_156 (fun H locs hP hD hS => ?_)
        refine lv_iinc (v := nI (x126 + 1)) (lv' := [(1, .int (nI (x126 + 1))), (0, .ref (a 0))]) hx hb dX4_again_157 hl (k := 1) rfl (nI_1 _) (by decide) rfl (fun ls hl => ?_)
        refine lv_goto (tgt := 126) hx hb dX4_again_160 (by decide) ?_
        rw [cpJ_s] at hP hD
        exact jn_126 (x126 + 1) ls _ _ (by omega) (by omega) (lv_sub hl [1, 0] rfl) hP hD hS
    · refine lv_aload_n hx hb dX4_again_73 rfl (lv_at hl 0 rfl) ?_
      refine mg_6 hx hb hts hi4 hown hK hP k26 dX4_again_74 ?_
      refine lv_iload_n hx hb dX4_again_77 rfl (lv_at hl 1 rfl) ?_
      refine lv_aload_n hx hb dX4_again_78 rfl (lv_at hl 0 rfl) ?_
      refine mg_4 hx hb hts hi4 hown hK hP k19 dX4_again_79 ?_
      refine lv_iload_n hx hb dX4_again_82 rfl (lv_at hl 1 rfl) ?_
      refine ml_4 (v := J 4 x67) hx hb hK hP (by omega) (cpJ_f J x67 x67 (by decide) (by decide)) dX4_again_83 ?_
      refine ms_6 hx hb hK hP hD hS (by omega) dX4_again_84 (fun H locs hP hD hS => ?_)
      refine lv_aload_n hx hb dX4_again_85 rfl (lv_at hl 0 rfl) ?_
      refine mg_9 hx hb hts hi4 hown hK hP k32 dX4_again_86 ?_
      refine lv_iload_n hx hb dX4_again_89 rfl (lv_at hl 1 rfl) ?_
      refine lv_aload_n hx hb dX4_again_90 rfl (lv_at hl 0 rfl) ?_
      refine mg_4 hx hb hts hi4 hown hK hP k19 dX4_again_91 ?_
      refine lv_iload_n hx hb dX4_again_94 rfl (lv_at hl 1 rfl) ?_
      refine ml_4 (v := J 4 x67) hx hb hK hP (by omega) (by rw [uJ_o (by decide)]; exact cpJ_f J x67 x67 (by decide) (by decide)) dX4_again_95 ?_
      refine ms_9 hx hb hK hP hD hS (by omega) dX4_again_96 (fun H locs hP hD hS => ?_)
      refine lv_aload_n hx hb dX4_again_97 rfl (lv_at hl 0 rfl) ?_
      refine mg_19 hx hb hts hi4 hown hK hP k41 dX4_again_98 ?_
      refine lv_iload_n hx hb dX4_again_101 rfl (lv_at hl 1 rfl) ?_
      refine lv_iconst (v := nI 0) hx hb dX4_again_102 (by decide) ?_
      refine ms_19 hx hb hK hP hD hS (by omega) dX4_again_103 (fun H locs hP hD hS => ?_)
      refine lv_aload_n hx hb dX4_again_104 rfl (lv_at hl 0 rfl) ?_
      refine mg_20 hx hb hts hi4 hown hK hP k44 dX4_again_105 ?_
      refine lv_iload_n hx hb dX4_again_108 rfl (lv_at hl 1 rfl) ?_
      refine lv_iconst (v := nI 4294967295) hx hb dX4_again_109 (by decide) ?_
      refine ms_20 hx hb hK hP hD hS (by omega) dX4_again_110 (fun H locs hP hD hS => ?_)
      refine lv_aload_n hx hb dX4_again_111 rfl (lv_at hl 0 rfl) ?_
      refine mg_21 hx hb hts hi4 hown hK hP k47 dX4_again_112 ?_
      refine lv_iload_n hx hb dX4_again_115 rfl (lv_at hl 1 rfl) ?_
      refine lv_iconst (v := nI 0) hx hb dX4_again_116 (by decide) ?_
      refine ms_21 hx hb hK hP hD hS (by omega) dX4_again_117 (fun H locs hP hD hS => ?_)
      refine lv_iinc (v := nI (x67 + 1)) (lv' := [(1, .int (nI (x67 + 1))), (0, .ref (a 0))]) hx hb dX4_again_118 hl (k := 1) rfl (nI_1 _) (by decide) rfl (fun ls hl => ?_)
      refine lv_goto (tgt := 67) hx hb dX4_again_121 (by decide) ?_
      rw [fl3_s, cpJ_s] at hP hD
      exact jn_67 (x67 + 1) ls _ _ (by omega) (by omega) (lv_sub hl [1, 0] rfl) hP hD hS
  · refine lv_aload_n hx hb dX4_again_52 rfl (lv_at hl 0 rfl) ?_
    refine mg_18 hx hb hts hi4 hown hK hP k38 dX4_again_53 ?_
    refine lv_iload_n hx hb dX4_again_56 rfl (lv_at hl 1 rfl) ?_
    refine lv_iconst (v := nI 0) hx hb dX4_again_57 (by decide) ?_
    refine ms_18 hx hb hK hP hD hS (by omega) dX4_again_58 (fun H locs hP hD hS => ?_)
    refine lv_iinc (v := nI (x47 + 1)) (lv' := [(1, .int (nI (x47 + 1))), (0, .ref (a 0))]) hx hb dX4_again_59 hl (k := 1) rfl (nI_1 _) (by decide) rfl (fun ls hl => ?_)
    refine lv_goto (tgt := 47) hx hb dX4_again_62 (by decide) ?_
    rw [flN_s] at hP hD
    exact jn_47 (x47 + 1) ls _ _ (by omega) (by omega) (lv_sub hl [1, 0] rfl) hP hD hS
set_option maxHeartbeats 4000000 in
set_option maxRecDepth 100000 in
theorem tM_clear (l : Launch) (dC : Nat → ClassId) (dI : Nat → Nat → Nat) (a : Nat → Nat) (cI cL cZ : ClassId) (N : Nat → Nat → Nat) (J : Nat → Nat → Int64)   : MetV l yX4_clear wsX4_clear ({ frames := 1, cells := 0, slots := 0, locals := 21 } : Room) dC dI (gT cI cL cZ) (mF a cI cL cZ) (mL a) (N, J) [.ref (a 0)] (fun u => u = mClear (N, J)) := by
  intro sz
  refine g_entry (bytes := cX4_clear) (maxL := 2) (ret := none) (Qc := fun sz => va_Qv (fun u => u = mClear (N, J)) (gB dC dI (mF a cI cL cZ)) (aA (mL a) sz)) (by decide) rfl (Nat.le_of_ble_eq_true rfl) rfl ?_
  intro p e s m below meth c ls hx hb hr hml hts hown hlocks hK hP hD hS hZ hl
  have hP : va_P (dC, dI) vwCl (mW a cI cL cZ N J) s.heap := hP
  have hD : va_D (aA (mL a) s.heap.size) (mW a cI cL cZ N J) := hD
  have hown : s.vm.findClass RX4 = some m.cls := hown
  have hl : lv_has ls 2 [(0, .ref (a 0))] := hl
  have hi4 : ∀ w ∈ wsX40, w ∈ wsX4_clear := by decide +kernel
  have k13 := hts (.fieldLink RX4 13 "ScoreMachineModel" "units" "[I") (by decide +kernel)
  have k16 := hts (.fieldLink RX4 16 "ScoreMachineModel" "latencies" "[I") (by decide +kernel)
  have k19 := hts (.fieldLink RX4 19 "ScoreMachineModel" "firstRegisters" "[J") (by decide +kernel)
  have k23 := hts (.fieldLink RX4 23 "ScoreMachineModel" "firstMemory" "[J") (by decide +kernel)
  have k66 := hts (.fieldLink RX4 66 "ScoreMachineModel" "thrown" "I") (by decide +kernel)
  have k70 := hts (.fieldLink RX4 70 "ScoreMachineModel" "width" "I") (by decide +kernel)
  have k9 := hts (.fieldLink RX4 9 "ScoreMachineModel" "program" "[I") (by decide +kernel)
  refine lv_aload_n hx hb dX4_clear_0 rfl (lv_at hl 0 rfl) ?_
  refine lv_iconst (v := nI 0) hx hb dX4_clear_1 (by decide) ?_
  refine mp_26 hx hb hts hi4 hown hK hP hD hS k66 dX4_clear_2 (fun H locs hP hD hS => ?_)
  have hP : va_P (dC, dI) vwCl (mW a cI cL cZ (flN (uN N 26 0 0) 0 0 0) J) H := by rw [flN_0]; exact hP
  have hD : va_D (aA (mL a) s.heap.size) (mW a cI cL cZ (flN (uN N 26 0 0) 0 0 0) J) := by rw [flN_0]; exact hD
  refine lv_iconst (v := nI 0) hx hb dX4_clear_5 (by decide) ?_
  refine lv_istore_n (lv' := [(1, .int (nI (0))), (0, .ref (a 0))]) hx hb dX4_clear_6 rfl hl (by decide) rfl (fun ls hl => ?_)
  refine w_loopH (X := Nat) (μ := fun x7 => 1024 - x7) (dC := dC) (dI := dI) (A := aA (mL a) s.heap.size) (H0 := s.heap) (Wf := mF a cI cL cZ) (u := fun x7 => ((flN (uN N 26 0 0) 0 x7 0), J)) (P := fun x7 => x7 ≤ 1024) (pj := 7) (nL := 2) (lv := fun x7 => [(0, .ref (a 0)), (1, .int (nI (x7)))]) (st := fun x7 => []) (fun x7 ls H locs ex7 hl hP hD hS jn_7 => ?_) 0 ls (by omega) (lv_sub hl [1, 0] rfl) hP hD hS
  have ex7 : x7 ≤ 1024 := ex7
  have hl : lv_has ls 2 [(0, .ref (a 0)), (1, .int (nI (x7)))] := hl
  have hP : va_P (dC, dI) vwCl (mW a cI cL cZ (flN (uN N 26 0 0) 0 x7 0) J) H := hP
  have hD : va_D (aA (mL a) s.heap.size) (mW a cI cL cZ (flN (uN N 26 0 0) 0 x7 0) J) := hD
  refine lv_iload_n hx hb dX4_clear_7 rfl (lv_at hl 1 rfl) ?_
  refine lv_sipush (v := nI 1024) hx hb dX4_clear_8 (by decide) ?_
  refine n_icmp_ge (tgt := 27) hx hb (by omega) (by omega) dX4_clear_11 (by decide) (fun c_11 => ?_) (fun c_11 => ?_)
  · have e9 : x7 = 1024 := by omega
    rw [e9] at hP hD
    have hP : va_P (dC, dI) vwCl (mW a cI cL cZ (flN (flN (uN N 26 0 0) 0 1024 0) 1 0 1) J) H := by rw [flN_0]; exact hP
    have hD : va_D (aA (mL a) s.heap.size) (mW a cI cL cZ (flN (flN (uN N 26 0 0) 0 1024 0) 1 0 1) J) := by rw [flN_0]; exact hD
    refine lv_iconst (v := nI 0) hx hb dX4_clear_27 (by decide) ?_
    refine lv_istore_n (lv' := [(1, .int (nI (0))), (0, .ref (a 0))]) hx hb dX4_clear_28 rfl hl (by decide) rfl (fun ls hl => ?_)
    refine w_loopH (X := Nat) (μ := fun x29 => 6 - x29) (dC := dC) (dI := dI) (A := aA (mL a) s.heap.size) (H0 := s.heap) (Wf := mF a cI cL cZ) (u := fun x29 => ((flN (flN (uN N 26 0 0) 0 1024 0) 1 x29 1), J)) (P := fun x29 => x29 ≤ 6) (pj := 29) (nL := 2) (lv := fun x29 => [(0, .ref (a 0)), (1, .int (nI (x29)))]) (st := fun x29 => []) (fun x29 ls H locs ex29 hl hP hD hS jn_29 => ?_) 0 ls (by omega) (lv_sub hl [1, 0] rfl) hP hD hS
    have ex29 : x29 ≤ 6 := ex29
    have hl : lv_has ls 2 [(0, .ref (a 0)), (1, .int (nI (x29)))] := hl
    have hP : va_P (dC, dI) vwCl (mW a cI cL cZ (flN (flN (uN N 26 0 0) 0 1024 0) 1 x29 1) J) H := hP
    have hD : va_D (aA (mL a) s.heap.size) (mW a cI cL cZ (flN (flN (uN N 26 0 0) 0 1024 0) 1 x29 1) J) := hD
    refine lv_iload_n hx hb dX4_clear_29 rfl (lv_at hl 1 rfl) ?_
    refine lv_bipush (v := nI 6) hx hb dX4_clear_30 (by decide) ?_
    refine n_icmp_ge (tgt := 48) hx hb (by omega) (by omega) dX4_clear_32 (by decide) (fun c_32 => ?_) (fun c_32 => ?_)
    · have e9 : x29 = 6 := by omega
      rw [e9] at hP hD
      refine lv_aload_n hx hb dX4_clear_48 rfl (lv_at hl 0 rfl) ?_
      refine mg_2 hx hb hts hi4 hown hK hP k16 dX4_clear_49 ?_
      refine lv_iconst (v := nI 0) hx hb dX4_clear_52 (by decide) ?_
      refine lv_iconst (v := nI 2) hx hb dX4_clear_53 (by decide) ?_
      refine ms_2 hx hb hK hP hD hS (by omega) dX4_clear_54 (fun H locs hP hD hS => ?_)
      refine lv_aload_n hx hb dX4_clear_55 rfl (lv_at hl 0 rfl) ?_
      refine mg_2 hx hb hts hi4 hown hK hP k16 dX4_clear_56 ?_
      refine lv_iconst (v := nI 1) hx hb dX4_clear_59 (by decide) ?_
      refine lv_iconst (v := nI 1) hx hb dX4_clear_60 (by decide) ?_
      refine ms_2 hx hb hK hP hD hS (by omega) dX4_clear_61 (fun H locs hP hD hS => ?_)
      refine lv_aload_n hx hb dX4_clear_62 rfl (lv_at hl 0 rfl) ?_
      refine mg_2 hx hb hts hi4 hown hK hP k16 dX4_clear_63 ?_
      refine lv_iconst (v := nI 2) hx hb dX4_clear_66 (by decide) ?_
      refine lv_bipush (v := nI 6) hx hb dX4_clear_67 (by decide) ?_
      refine ms_2 hx hb hK hP hD hS (by omega) dX4_clear_69 (fun H locs hP hD hS => ?_)
      refine lv_aload_n hx hb dX4_clear_70 rfl (lv_at hl 0 rfl) ?_
      refine mg_2 hx hb hts hi4 hown hK hP k16 dX4_clear_71 ?_
      refine lv_iconst (v := nI 3) hx hb dX4_clear_74 (by decide) ?_
      refine lv_bipush (v := nI 12) hx hb dX4_clear_75 (by decide) ?_
      refine ms_2 hx hb hK hP hD hS (by omega) dX4_clear_77 (fun H locs hP hD hS => ?_)
      refine lv_aload_n hx hb dX4_clear_78 rfl (lv_at hl 0 rfl) ?_
      refine mg_2 hx hb hts hi4 hown hK hP k16 dX4_clear_79 ?_
      refine lv_iconst (v := nI 4) hx hb dX4_clear_82 (by decide) ?_
      refine lv_iconst (v := nI 3) hx hb dX4_clear_83 (by decide) ?_
      refine ms_2 hx hb hK hP hD hS (by omega) dX4_clear_84 (fun H locs hP hD hS => ?_)
      refine lv_aload_n hx hb dX4_clear_85 rfl (lv_at hl 0 rfl) ?_
      refine mg_2 hx hb hts hi4 hown hK hP k16 dX4_clear_86 ?_
      refine lv_iconst (v := nI 5) hx hb dX4_clear_89 (by decide) ?_
      refine lv_iconst (v := nI 1) hx hb dX4_clear_90 (by decide) ?_
      refine ms_2 hx hb hK hP hD hS (by omega) dX4_clear_91 (fun H locs hP hD hS => ?_)
      refine lv_aload_n hx hb dX4_clear_92 rfl (lv_at hl 0 rfl) ?_
      refine lv_iconst (v := nI 1) hx hb dX4_clear_93 (by decide) ?_
      refine mp_3 hx hb hts hi4 hown hK hP hD hS k70 dX4_clear_94 (fun H locs hP hD hS => ?_)
      have hP : va_P (dC, dI) vwCl (mW a cI cL cZ (mClN N) (flJ J 4 0 0)) H := by rw [flJ_0]; exact hP
      have hD : va_D (aA (mL a) s.heap.size) (mW a cI cL cZ (mClN N) (flJ J 4 0 0)) := by rw [flJ_0]; exact hD
      refine lv_iconst (v := nI 0) hx hb dX4_clear_97 (by decide) ?_
      refine lv_istore_n (lv' := [(1, .int (nI (0))), (0, .ref (a 0))]) hx hb dX4_clear_98 rfl hl (by decide) rfl (fun ls hl => ?_)
      refine w_loopH (X := Nat) (μ := fun x99 => 16 - x99) (dC := dC) (dI := dI) (A := aA (mL a) s.heap.size) (H0 := s.heap) (Wf := mF a cI cL cZ) (u := fun x99 => ((mClN N), (flJ J 4 x99 0))) (P := fun x99 => x99 ≤ 16) (pj := 99) (nL := 2) (lv := fun x99 => [(0, .ref (a 0)), (1, .int (nI (x99)))]) (st := fun x99 => []) (fun x99 ls H locs ex99 hl hP hD hS jn_99 => ?_) 0 ls (by omega) (lv_sub hl [1, 0] rfl) hP hD hS
      have ex99 : x99 ≤ 16 := ex99
      have hl : lv_has ls 2 [(0, .ref (a 0)), (1, .int (nI (x99)))] := hl
      have hP : va_P (dC, dI) vwCl (mW a cI cL cZ (mClN N) (flJ J 4 x99 0)) H := hP
      have hD : va_D (aA (mL a) s.heap.size) (mW a cI cL cZ (mClN N) (flJ J 4 x99 0)) := hD
      refine lv_iload_n hx hb dX4_clear_99 rfl (lv_at hl 1 rfl) ?_
      refine lv_bipush (v := nI 16) hx hb dX4_clear_100 (by decide) ?_
      refine n_icmp_ge (tgt := 118) hx hb (by omega) (by omega) dX4_clear_102 (by decide) (fun c_102 => ?_) (fun c_102 => ?_)
      · have e9 : x99 = 16 := by omega
        rw [e9] at hP hD
        have hP : va_P (dC, dI) vwCl (mW a cI cL cZ (mClN N) (flJ (flJ J 4 16 0) 5 0 0)) H := by rw [flJ_0]; exact hP
        have hD : va_D (aA (mL a) s.heap.size) (mW a cI cL cZ (mClN N) (flJ (flJ J 4 16 0) 5 0 0)) := by rw [flJ_0]; exact hD
        refine lv_iconst (v := nI 0) hx hb dX4_clear_118 (by decide) ?_
        refine lv_istore_n (lv' := [(1, .int (nI (0))), (0, .ref (a 0))]) hx hb dX4_clear_119 rfl hl (by decide) rfl (fun ls hl => ?_)
        refine w_loopH (X := Nat) (μ := fun x120 => 256 - x120) (dC := dC) (dI := dI) (A := aA (mL a) s.heap.size) (H0 := s.heap) (Wf := mF a cI cL cZ) (u := fun x120 => ((mClN N), (flJ (flJ J 4 16 0) 5 x120 0))) (P := fun x120 => x120 ≤ 256) (pj := 120) (nL := 2) (lv := fun x120 => [(0, .ref (a 0)), (1, .int (nI (x120)))]) (st := fun x120 => []) (fun x120 ls H locs ex120 hl hP hD hS jn_120 => ?_) 0 ls (by omega) (lv_sub hl [1, 0] rfl) hP hD hS
        have ex120 : x120 ≤ 256 := ex120
        have hl : lv_has ls 2 [(0, .ref (a 0)), (1, .int (nI (x120)))] := hl
        have hP : va_P (dC, dI) vwCl (mW a cI cL cZ (mClN N) (flJ (flJ J 4 16 0) 5 x120 0)) H := hP
        have hD : va_D (aA (mL a) s.heap.size) (mW a cI cL cZ (mClN N) (flJ (flJ J 4 16 0) 5 x120 0)) := hD
        refine lv_iload_n hx hb dX4_clear_120 rfl (lv_at hl 1 rfl) ?_
        refine lv_sipush (v := nI 256) hx hb dX4_clear_121 (by decide) ?_
        refine n_icmp_ge (tgt := 140) hx hb (by omega) (by omega) dX4_clear_124 (by decide) (fun c_124 => ?_) (fun c_124 => ?_)
        · have e9 : x120 = 256 := by omega
          rw [e9] at hP hD
          have hP : va_P (dC, dI) vwCl (mW a cI cL cZ (mClN N) (mClJ J)) H := hP
          have hD : va_D (aA (mL a) s.heap.size) (mW a cI cL cZ (mClN N) (mClJ J)) := hD
          refine lv_aload_n hx hb dX4_clear_140 rfl (lv_at hl 0 rfl) ?_
          refine g_callv (u := ((mClN N), (mClJ J))) (g_runV (As := []) (rest := []) ⟨hx, hb, hml, hown, hts⟩ (tM_again l dC dI a cI cL cZ (mClN N) (mClJ J)  H.size) (cwV 0 hts gX4_clear_X4_again rfl rfl rfl (by decide +kernel) ⟨Nat.le_of_ble_eq_true rfl, Nat.le_of_ble_eq_true rfl⟩) (va_recv hK hP (ci := 4) (q0 := 0) rfl rfl) hK hP hD hS hZ rfl hl.1 rfl (Nat.le_of_ble_eq_true rfl) dX4_clear_141) (mW_L a cI cL cZ) hD hS (fun u H locs hw hP hD hS => ?_)
          subst hw
          have hP : va_P (dC, dI) vwCl (mW a cI cL cZ (mAgN (mClN N)) (mAgJ (mClJ J))) H := hP
          have hD : va_D (aA (mL a) s.heap.size) (mW a cI cL cZ (mAgN (mClN N)) (mAgJ (mClJ J))) := hD
          exact g_retv hx hb hr hlocks (mAgN (mClN N), mAgJ (mClJ J)) rfl hP hS dX4_clear_144
        · refine lv_aload_n hx hb dX4_clear_127 rfl (lv_at hl 0 rfl) ?_
          refine mg_5 hx hb hts hi4 hown hK hP k23 dX4_clear_128 ?_
          refine lv_iload_n hx hb dX4_clear_131 rfl (lv_at hl 1 rfl) ?_
          refine lv_lconst (v := 0) hx hb dX4_clear_132 (by decide) ?_
          refine ms_5 hx hb hK hP hD hS (by omega) dX4_clear_133 (fun H locs hP hD hS => ?_)
          refine lv_iinc (v := nI (x120 + 1)) (lv' := [(1, .int (nI (x120 + 1))), (0, .ref (a 0))]) hx hb dX4_clear_134 hl (k := 1) rfl (nI_1 _) (by decide) rfl (fun ls hl => ?_)
          refine lv_goto (tgt := 120) hx hb dX4_clear_137 (by decide) ?_
          rw [flJ_s] at hP hD
          exact jn_120 (x120 + 1) ls _ _ (by omega) (by omega) (lv_sub hl [1, 0] rfl) hP hD hS
      · refine lv_aload_n hx hb dX4_clear_105 rfl (lv_at hl 0 rfl) ?_
        refine mg_4 hx hb hts hi4 hown hK hP k19 dX4_clear_106 ?_
        refine lv_iload_n hx hb dX4_clear_109 rfl (lv_at hl 1 rfl) ?_
        refine lv_lconst (v := 0) hx hb dX4_clear_110 (by decide) ?_
        refine ms_4 hx hb hK hP hD hS (by omega) dX4_clear_111 (fun H locs hP hD hS => ?_)
        refine lv_iinc (v := nI (x99 + 1)) (lv' := [(1, .int (nI (x99 + 1))), (0, .ref (a 0))]) hx hb dX4_clear_112 hl (k := 1) rfl (nI_1 _) (by decide) rfl (fun ls hl => ?_)
        refine lv_goto (tgt := 99) hx hb dX4_clear_115 (by decide) ?_
        rw [flJ_s] at hP hD
        exact jn_99 (x99 + 1) ls _ _ (by omega) (by omega) (lv_sub hl [1, 0] rfl) hP hD hS
    · refine lv_aload_n hx hb dX4_clear_35 rfl (lv_at hl 0 rfl) ?_
      refine mg_1 hx hb hts hi4 hown hK hP k13 dX4_clear_36 ?_
      refine lv_iload_n hx hb dX4_clear_39 rfl (lv_at hl 1 rfl) ?_
      refine lv_iconst (v := nI 1) hx hb dX4_clear_40 (by decide) ?_
      refine ms_1 hx hb hK hP hD hS (by omega) dX4_clear_41 (fun H locs hP hD hS => ?_)
      refine lv_iinc (v := nI (x29 + 1)) (lv' := [(1, .int (nI (x29 + 1))), (0, .ref (a 0))]) hx hb dX4_clear_42 hl (k := 1) rfl (nI_1 _) (by decide) rfl (fun ls hl => ?_)
      refine lv_goto (tgt := 29) hx hb dX4_clear_45 (by decide) ?_
      rw [flN_s] at hP hD
      exact jn_29 (x29 + 1) ls _ _ (by omega) (by omega) (lv_sub hl [1, 0] rfl) hP hD hS
  · refine lv_aload_n hx hb dX4_clear_14 rfl (lv_at hl 0 rfl) ?_
    refine mg_0 hx hb hts hi4 hown hK hP k9 dX4_clear_15 ?_
    refine lv_iload_n hx hb dX4_clear_18 rfl (lv_at hl 1 rfl) ?_
    refine lv_iconst (v := nI 0) hx hb dX4_clear_19 (by decide) ?_
    refine ms_0 hx hb hK hP hD hS (by omega) dX4_clear_20 (fun H locs hP hD hS => ?_)
    refine lv_iinc (v := nI (x7 + 1)) (lv' := [(1, .int (nI (x7 + 1))), (0, .ref (a 0))]) hx hb dX4_clear_21 hl (k := 1) rfl (nI_1 _) (by decide) rfl (fun ls hl => ?_)
    refine lv_goto (tgt := 7) hx hb dX4_clear_24 (by decide) ?_
    rw [flN_s] at hP hD
    exact jn_7 (x7 + 1) ls _ _ (by omega) (by omega) (lv_sub hl [1, 0] rfl) hP hD hS
