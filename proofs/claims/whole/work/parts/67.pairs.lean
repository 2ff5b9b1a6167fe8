/-! one call on both: contracts with one and the same answer -/
def okR (rm : Room) : Prop := rm.cells = 0 ∧ rm.slots = 0 ∧ rm.frames ≤ 8 ∧ rm.locals ≤ 300
def Pr (l : Launch) (dC : Nat → ClassId) (dI : Nat → Nat → Nat) (a b : Nat → Nat) (cI cL cZ : ClassId) (yx : MethodName) (wx : List Cond) (ym : MethodName) (wm : List Cond) (x m : gSt) (av : List Value) : Prop :=
  ∃ (r : Int32) (x' m' : gSt) (rx rm : Room), rObs x' m' ∧ x'.1 22 0 ≤ x.1 22 0 + 3000 ∧ okR rx ∧ okR rm ∧ MetI l yx wx rx dC dI (gT cI cL cZ) (xF a cI cL cZ) (xL a) x (.ref (a 0) :: av) (fun q u => q = r ∧ u = x') ∧ MetI l ym wm rm dC dI (gT cI cL cZ) (mF b cI cL cZ) (mL b) m (.ref (b 0) :: av) (fun q u => q = r ∧ u = m')
def PrV (l : Launch) (dC : Nat → ClassId) (dI : Nat → Nat → Nat) (a b : Nat → Nat) (cI cL cZ : ClassId) (yx : MethodName) (wx : List Cond) (ym : MethodName) (wm : List Cond) (x m : gSt) : Prop :=
  ∃ (x' m' : gSt) (rx rm : Room), rObs x' m' ∧ x'.1 22 0 ≤ x.1 22 0 + 3000 ∧ okR rx ∧ okR rm ∧ MetV l yx wx rx dC dI (gT cI cL cZ) (xF a cI cL cZ) (xL a) x [.ref (a 0)] (fun u => u = x') ∧ MetV l ym wm rm dC dI (gT cI cL cZ) (mF b cI cL cZ) (mL b) m [.ref (b 0)] (fun u => u = m')
def PrH (l : Launch) (dC : Nat → ClassId) (dI : Nat → Nat → Nat) (a b : Nat → Nat) (o : Nat) (cI cL cZ : ClassId) (yx : MethodName) (wx : List Cond) (ym : MethodName) (wm : List Cond) (x m : gSt) (f : Nat → Int64) (av : List Value) : Prop :=
  ∃ (k : Nat) (v : Int64) (m' : gSt) (rm : Room), rObs x m' ∧ okR rm ∧ k < 2 ∧ m'.1 26 0 = k ∧ MetH l yx wx dC dI a o cI cL cZ x.1 x.2 f (.ref (a 0) :: (av ++ [.ref o])) (fun (r : Int32) (g : Nat → Int64) => r = nI k ∧ (k = 0 → g 0 = v)) ∧ MetL l ym wm rm dC dI (gT cI cL cZ) (mF b cI cL cZ) (mL b) m (.ref (b 0) :: av) (fun q u => q = v ∧ u = m')
theorem i_any (v : Int32) : ∃ B, B < 4294967296 ∧ v = nI B := ⟨v.toBitVec.toNat, v.toBitVec.isLt, by
  apply Int32.toBitVec_inj.mp
  show v.toBitVec = BitVec.ofNat 32 v.toBitVec.toNat
  rw [BitVec.ofNat_toNat, BitVec.setWidth_eq]⟩
theorem okR_i {f n : Nat} (h : f ≤ 8) (hn : n ≤ 300) : okR ({ frames := f, cells := 0, slots := 0, locals := n } : Room) := ⟨rfl, rfl, h, hn⟩
theorem p_put (l : Launch) (dC : Nat → ClassId) (dI : Nat → Nat → Nat) (a b : Nat → Nat) (cI cL cZ : ClassId) {x m : gSt} (h : rObs x m) (hc : x.1 22 0 ≤ 1597000) (v1 v2 v3 v4 v5 : Int32) : Pr l dC dI a b cI cL cZ yX3_put wsX3_put yX4_put wsX4_put x m [.int v1, .int v2, .int v3, .int v4, .int v5] := by
  have e11 : m.1 11 0 = x.1 22 0 := h.2.1
  by_cases hb : x.1 22 0 = 0 ∧ 0 ≤ v1.toInt ∧ v1.toInt < 256 ∧ 0 ≤ v2.toInt ∧ v2.toInt < 19 ∧ 0 ≤ v3.toInt ∧ v3.toInt < 16 ∧ 0 ≤ v4.toInt ∧ v4.toInt < 16
  · obtain ⟨h0, hb⟩ := hb
    obtain ⟨n1, l1, rfl⟩ := i_nat (c := 256) hb.1 hb.2.1 (by decide)
    obtain ⟨n2, l2, rfl⟩ := i_nat (c := 19) hb.2.2.1 hb.2.2.2.1 (by decide)
    obtain ⟨n3, l3, rfl⟩ := i_nat (c := 16) hb.2.2.2.2.1 hb.2.2.2.2.2.1 (by decide)
    obtain ⟨n4, l4, rfl⟩ := i_nat (c := 16) hb.2.2.2.2.2.2.1 hb.2.2.2.2.2.2.2 (by decide)
    obtain ⟨n5, l5, rfl⟩ := i_any v5
    exact ⟨nI 1, _, _, _, _, rObs_put h h0 l1 (by omega) l3 l4 l5, by show x.1 22 0 ≤ _; omega, okR_i (by decide) (by decide), okR_i (by decide) (by decide), tA_put l dC dI a cI cL cZ x.1 x.2 n1 n2 n3 n4 n5 h0 l1 (by omega) l3 l4, tM_put l dC dI b cI cL cZ m.1 m.2 n1 n2 n3 n4 n5 (by omega) l1 (by omega) l3 l4⟩
  · exact ⟨nI 0, _, _, _, _, rObs_26 h 0, by show x.1 22 0 ≤ _; omega, okR_i (by decide) (by decide), okR_i (by decide) (by decide), tA_put_bad l dC dI a cI cL cZ x.1 x.2 v1 v2 v3 v4 v5 (by omega) hb, tM_put_bad l dC dI b cI cL cZ m.1 m.2 v1 v2 v3 v4 v5 (by omega) (by rw [e11]; exact hb)⟩
theorem p_units (l : Launch) (dC : Nat → ClassId) (dI : Nat → Nat → Nat) (a b : Nat → Nat) (cI cL cZ : ClassId) {x m : gSt} (h : rObs x m) (hc : x.1 22 0 ≤ 1597000) (v1 v2 : Int32) : Pr l dC dI a b cI cL cZ yX3_units wsX3_units yX4_units wsX4_units x m [.int v1, .int v2] := by
  have e11 : m.1 11 0 = x.1 22 0 := h.2.1
  by_cases hb : x.1 22 0 = 0 ∧ 0 ≤ v1.toInt ∧ v1.toInt < 4 ∧ 1 ≤ v2.toInt ∧ v2.toInt < 4
  · obtain ⟨h0, hb⟩ := hb
    obtain ⟨n1, l1, rfl⟩ := i_nat (c := 4) hb.1 hb.2.1 (by decide)
    obtain ⟨n2, l2, rfl⟩ := i_nat (c := 4) (v := v2) (by omega) hb.2.2.2 (by decide)
    have l3 : 1 ≤ n2 := by have := hb.2.2.1; rw [i_ti (by omega)] at this; omega
    exact ⟨nI 1, _, _, _, _, rObs_units h h0 l1 l3 (by omega), by show x.1 22 0 ≤ _; omega, okR_i (by decide) (by decide), okR_i (by decide) (by decide), tA_units l dC dI a cI cL cZ x.1 x.2 n1 n2 h0 l1 l3 (by omega), tM_units l dC dI b cI cL cZ m.1 m.2 n1 n2 (by omega) l1 l3 (by omega)⟩
  · exact ⟨nI 0, _, _, _, _, rObs_26 h 0, by show x.1 22 0 ≤ _; omega, okR_i (by decide) (by decide), okR_i (by decide) (by decide), tA_units_bad l dC dI a cI cL cZ x.1 x.2 v1 v2 (by omega) hb, tM_units_bad l dC dI b cI cL cZ m.1 m.2 v1 v2 (by omega) (by rw [e11]; exact hb)⟩
theorem p_latency (l : Launch) (dC : Nat → ClassId) (dI : Nat → Nat → Nat) (a b : Nat → Nat) (cI cL cZ : ClassId) {x m : gSt} (h : rObs x m) (hc : x.1 22 0 ≤ 1597000) (v1 v2 : Int32) : Pr l dC dI a b cI cL cZ yX3_latency wsX3_latency yX4_latency wsX4_latency x m [.int v1, .int v2] := by
  have e11 : m.1 11 0 = x.1 22 0 := h.2.1
  by_cases hb : x.1 22 0 = 0 ∧ 0 ≤ v1.toInt ∧ v1.toInt < 6 ∧ 1 ≤ v2.toInt ∧ v2.toInt < 31
  · obtain ⟨h0, hb⟩ := hb
    obtain ⟨n1, l1, rfl⟩ := i_nat (c := 6) hb.1 hb.2.1 (by decide)
    obtain ⟨n2, l2, rfl⟩ := i_nat (c := 31) (v := v2) (by omega) hb.2.2.2 (by decide)
    have l3 : 1 ≤ n2 := by have := hb.2.2.1; rw [i_ti (by omega)] at this; omega
    exact ⟨nI 1, _, _, _, _, rObs_latency h h0 l1 l3 (by omega), by show x.1 22 0 ≤ _; omega, okR_i (by decide) (by decide), okR_i (by decide) (by decide), tA_latency l dC dI a cI cL cZ x.1 x.2 n1 n2 h0 l1 l3 (by omega), tM_latency l dC dI b cI cL cZ m.1 m.2 n1 n2 (by omega) l1 l3 (by omega)⟩
  · exact ⟨nI 0, _, _, _, _, rObs_26 h 0, by show x.1 22 0 ≤ _; omega, okR_i (by decide) (by decide), okR_i (by decide) (by decide), tA_latency_bad l dC dI a cI cL cZ x.1 x.2 v1 v2 (by omega) hb, tM_latency_bad l dC dI b cI cL cZ m.1 m.2 v1 v2 (by omega) (by rw [e11]; exact hb)⟩
theorem p_width (l : Launch) (dC : Nat → ClassId) (dI : Nat → Nat → Nat) (a b : Nat → Nat) (cI cL cZ : ClassId) {x m : gSt} (h : rObs x m) (hc : x.1 22 0 ≤ 1597000) (v1 : Int32) : Pr l dC dI a b cI cL cZ yX3_width wsX3_width yX4_width wsX4_width x m [.int v1] := by
  have e11 : m.1 11 0 = x.1 22 0 := h.2.1
  by_cases hb : x.1 22 0 = 0 ∧ 1 ≤ v1.toInt ∧ v1.toInt < 5
  · obtain ⟨h0, hb⟩ := hb
    obtain ⟨n1, l1, rfl⟩ := i_nat (c := 5) (v := v1) (by omega) hb.2 (by decide)
    have l3 : 1 ≤ n1 := by have := hb.1; rw [i_ti (by omega)] at this; omega
    exact ⟨nI 1, _, _, _, _, rObs_width h h0 l3 (by omega), by show x.1 22 0 ≤ _; omega, okR_i (by decide) (by decide), okR_i (by decide) (by decide), tA_width l dC dI a cI cL cZ x.1 x.2 n1 h0 l3 (by omega), tM_width l dC dI b cI cL cZ m.1 m.2 n1 (by omega) l3 (by omega)⟩
  · exact ⟨nI 0, _, _, _, _, rObs_26 h 0, by show x.1 22 0 ≤ _; omega, okR_i (by decide) (by decide), okR_i (by decide) (by decide), tA_width_bad l dC dI a cI cL cZ x.1 x.2 v1 (by omega) hb, tM_width_bad l dC dI b cI cL cZ m.1 m.2 v1 (by omega) (by rw [e11]; exact hb)⟩
theorem p_set (l : Launch) (dC : Nat → ClassId) (dI : Nat → Nat → Nat) (a b : Nat → Nat) (cI cL cZ : ClassId) {x m : gSt} (h : rObs x m) (hc : x.1 22 0 ≤ 1597000) (v1 v2 : Int32) (v3 : Int64) : Pr l dC dI a b cI cL cZ yX3_set wsX3_set yX4_set wsX4_set x m [.int v1, .int v2, .long v3] := by
  have e11 : m.1 11 0 = x.1 22 0 := h.2.1
  by_cases hb : x.1 22 0 = 0 ∧ ((v1.toInt = 0 ∧ 0 ≤ v2.toInt ∧ v2.toInt < 16) ∨ (v1.toInt = 1 ∧ 0 ≤ v2.toInt ∧ v2.toInt < 256))
  · obtain ⟨h0, hb | hb⟩ := hb
    · obtain ⟨n2, l2, rfl⟩ := i_nat (c := 16) hb.2.1 hb.2.2 (by decide)
      obtain rfl := (i_eqc v1 0 (by decide)).mpr hb.1
      exact ⟨nI 1, _, _, _, _, rObs_set0 h h0 (i := n2) v3, by show x.1 22 0 ≤ _; omega, okR_i (by decide) (by decide), okR_i (by decide) (by decide), tA_set0 l dC dI a cI cL cZ x.1 x.2 n2 v3 h0 l2, tM_set0 l dC dI b cI cL cZ m.1 m.2 n2 v3 (by omega) l2⟩
    · obtain ⟨n2, l2, rfl⟩ := i_nat (c := 256) hb.2.1 hb.2.2 (by decide)
      obtain rfl := (i_eqc v1 1 (by decide)).mpr hb.1
      exact ⟨nI 1, _, _, _, _, rObs_set1 h h0 (i := n2) v3, by show x.1 22 0 ≤ _; omega, okR_i (by decide) (by decide), okR_i (by decide) (by decide), tA_set1 l dC dI a cI cL cZ x.1 x.2 n2 v3 h0 l2, tM_set1 l dC dI b cI cL cZ m.1 m.2 n2 v3 (by omega) l2⟩
  · exact ⟨nI 0, _, _, _, _, rObs_26 h 0, by show x.1 22 0 ≤ _; omega, okR_i (by decide) (by decide), okR_i (by decide) (by decide), tA_set_bad l dC dI a cI cL cZ x.1 x.2 v1 v2 v3 (by omega) hb, tM_set_bad l dC dI b cI cL cZ m.1 m.2 v1 v2 v3 (by omega) (by rw [e11]; exact hb)⟩
theorem p_run (l : Launch) (dC : Nat → ClassId) (dI : Nat → Nat → Nat) (a b : Nat → Nat) (cI cL cZ : ClassId) {x m : gSt} (h : rObs x m) (hc : x.1 22 0 ≤ 1597000) (v1 : Int32) : Pr l dC dI a b cI cL cZ yX3_run wsX3_run yX4_run wsX4_run x m [.int v1] := by
  have e11 : m.1 11 0 = x.1 22 0 := h.2.1
  by_cases hb : v1 < 0 ∨ 3000 < v1
  · exact ⟨-1, _, _, _, _, rObs_26 h 0, by show x.1 22 0 ≤ _; omega, okR_i (by decide) (by decide), okR_i (by decide) (by decide), tA_run_bad l dC dI a cI cL cZ x.1 x.2 v1 hb, tM_run_bad l dC dI b cI cL cZ m.1 m.2 v1 hb⟩
  · have h1 : 0 ≤ v1.toInt := by
      have := mt (i_lt0 v1).mpr (fun z => hb (Or.inl z)); omega
    have h2 : v1.toInt < 3001 := by
      have := mt (i_clt v1 3000 (by decide)).mpr (fun z => hb (Or.inr z)); omega
    obtain ⟨n, l1, rfl⟩ := i_nat (c := 3001) h1 h2 (by decide)
    have hA := tA_run l dC dI a cI cL cZ x.1 x.2 n (by omega) h.1.1.2.2.1 h.2.2.2.2.1 h.2.2.2.1 (by omega)
    by_cases ho : x.1 23 0 = 0
    · obtain ⟨r1, r2, r3, r4⟩ := rObs_run (n := n) h ho
      have hM := tM_run l dC dI b cI cL cZ m.1 m.2 n h.1.1.2.2.2.1 (by omega) (by rw [h.2.2.1]; exact ho) (by omega) (by have := h.1.2.2.1; omega)
      have e : nI (mE m n).2 - nI (m.1 11 0) = nI (xGo n x).2 := rGo h ho
      rw [show (m.1, m.2) = m from rfl, e] at hM
      exact ⟨nI (xGo n x).2, _, _, _, _, r1, by omega, okR_i (by decide) (by decide), okR_i (by decide) (by decide), hA, hM⟩
    · have e := xGo_over ho n
      rw [show (x.1, x.2) = x from rfl, e] at hA
      have := h.2.2.2.1
      exact ⟨nI 0, _, _, _, _, rObs_26 h 0, by show x.1 22 0 ≤ _; omega, okR_i (by decide) (by decide), okR_i (by decide) (by decide), hA, tM_run_over l dC dI b cI cL cZ m.1 m.2 n (by omega) (by rw [h.2.2.1]; omega)⟩
theorem p_count (l : Launch) (dC : Nat → ClassId) (dI : Nat → Nat → Nat) (a b : Nat → Nat) (cI cL cZ : ClassId) {x m : gSt} (h : rObs x m) (hc : x.1 22 0 ≤ 1597000) (v1 : Int32) : Pr l dC dI a b cI cL cZ yX3_count wsX3_count yX4_count wsX4_count x m [.int v1] := by
  have e11 : m.1 11 0 = x.1 22 0 := h.2.1
  by_cases hb : 0 ≤ v1.toInt ∧ v1.toInt < 9
  · obtain ⟨n, l1, rfl⟩ := i_nat (c := 9) hb.1 hb.2 (by decide)
    obtain ⟨b1, b2, b3, b4, b5, b6, b7, b8⟩ := rBd h (by omega)
    have hM := tM_count l dC dI b cI cL cZ m.1 m.2 n (rG h (by omega)) l1 (by rw [h.2.2.1]; exact h.2.2.2.1) (by omega) (rZ24 h)
    rw [← rCnt h n l1] at hM
    exact ⟨xCnt x.1 n, _, _, _, _, rObs_26 h 0, by show x.1 22 0 ≤ _; omega, okR_i (by decide) (by decide), okR_i (by decide) (by decide), tA_count l dC dI a cI cL cZ x.1 x.2 n l1 (by omega) h.2.2.2.1 (by omega) (fun k hk => by have := b7 (6 * k + 5) (by omega); omega), hM⟩
  · exact ⟨-1, _, _, _, _, rObs_26 h 0, by show x.1 22 0 ≤ _; omega, okR_i (by decide) (by decide), okR_i (by decide) (by decide), tA_count_bad l dC dI a cI cL cZ x.1 x.2 v1 hb, tM_count_bad l dC dI b cI cL cZ m.1 m.2 v1 hb⟩
theorem p_pending (l : Launch) (dC : Nat → ClassId) (dI : Nat → Nat → Nat) (a b : Nat → Nat) (cI cL cZ : ClassId) {x m : gSt} (h : rObs x m) (hc : x.1 22 0 ≤ 1597000) (v1 : Int32) : Pr l dC dI a b cI cL cZ yX3_pending wsX3_pending yX4_pending wsX4_pending x m [.int v1] := by
  have e11 : m.1 11 0 = x.1 22 0 := h.2.1
  by_cases hb : 0 ≤ v1.toInt ∧ v1.toInt < 16
  · obtain ⟨n, l1, rfl⟩ := i_nat (c := 16) hb.1 hb.2 (by decide)
    obtain ⟨b1, b2, b3, b4, b5, b6, b7, b8⟩ := rBd h (by omega)
    have e19 : m.1 19 n = x.1 27 n := (h.1.1.2.1.2.2.2.2.1 n l1).1
    have h27 := b4 n l1
    have hM := tM_pending l dC dI b cI cL cZ m.1 m.2 n l1 (by omega) (by omega)
    rw [← rPend h n l1] at hM
    exact ⟨_, _, _, _, _, rObs_26 h 0, by show x.1 22 0 ≤ _; omega, okR_i (by decide) (by decide), okR_i (by decide) (by decide), tA_pending l dC dI a cI cL cZ x.1 x.2 n l1 (by omega) (by omega), hM⟩
  · exact ⟨-1, _, _, _, _, rObs_26 h 0, by show x.1 22 0 ≤ _; omega, okR_i (by decide) (by decide), okR_i (by decide) (by decide), tA_pending_bad l dC dI a cI cL cZ x.1 x.2 v1 hb, tM_pending_bad l dC dI b cI cL cZ m.1 m.2 v1 hb⟩
theorem p_latest (l : Launch) (dC : Nat → ClassId) (dI : Nat → Nat → Nat) (a b : Nat → Nat) (cI cL cZ : ClassId) {x m : gSt} (h : rObs x m) (hc : x.1 22 0 ≤ 1597000) (v1 v2 : Int32) : Pr l dC dI a b cI cL cZ yX3_latest wsX3_latest yX4_latest wsX4_latest x m [.int v1, .int v2] := by
  have e11 : m.1 11 0 = x.1 22 0 := h.2.1
  have e13 := r13 h
  obtain ⟨b1, b2, b3, b4, b5, b6, b7, b8⟩ := rBd h (by omega)
  by_cases hb : 0 ≤ v1.toInt ∧ v1.toInt < 64 ∧ v1.toInt < x.1 24 0 ∧ 0 ≤ v2.toInt ∧ v2.toInt < 6
  · obtain ⟨n1, l1, rfl⟩ := i_nat (c := 64) hb.1 hb.2.1 (by decide)
    obtain ⟨n2, l2, rfl⟩ := i_nat (c := 6) hb.2.2.2.1 hb.2.2.2.2 (by decide)
    have l3 : n1 < x.1 24 0 := by have := hb.2.2.1; rw [i_ti (by omega)] at this; omega
    have l4 : x.1 37 ((x.1 24 0 - 1 - n1) % 64 * 6 + n2) ≤ 213000000 := b8 _ (by omega)
    have hM := tM_latest l dC dI b cI cL cZ m.1 m.2 n1 n2 l1 (by omega) l2 (by omega) (by omega) (by rw [rLatC h n1 n2 (by omega) l2]; omega)
    rw [← rLat h n1 n2 (by omega) l2] at hM
    exact ⟨_, _, _, _, _, rObs_26 h 0, by show x.1 22 0 ≤ _; omega, okR_i (by decide) (by decide), okR_i (by decide) (by decide), tA_latest l dC dI a cI cL cZ x.1 x.2 n1 n2 l1 l3 l2 (by omega) (by omega) (by omega), hM⟩
  · exact ⟨-1, _, _, _, _, rObs_26 h 0, by show x.1 22 0 ≤ _; omega, okR_i (by decide) (by decide), okR_i (by decide) (by decide), tA_latest_bad l dC dI a cI cL cZ x.1 x.2 v1 v2 (by omega) hb, tM_latest_bad l dC dI b cI cL cZ m.1 m.2 v1 v2 (by omega) (by rw [e13]; exact hb)⟩
theorem p_unit (l : Launch) (dC : Nat → ClassId) (dI : Nat → Nat → Nat) (a b : Nat → Nat) (cI cL cZ : ClassId) {x m : gSt} (h : rObs x m) (hc : x.1 22 0 ≤ 1597000) (v1 v2 v3 : Int32) : Pr l dC dI a b cI cL cZ yX3_unit wsX3_unit yX4_unit wsX4_unit x m [.int v1, .int v2, .int v3] := by
  have e11 : m.1 11 0 = x.1 22 0 := h.2.1
  obtain ⟨b1, b2, b3, b4, b5, b6, b7, b8⟩ := rBd h (by omega)
  by_cases hb : 0 ≤ v1.toInt ∧ v1.toInt < 6
  · obtain ⟨k, l1, rfl⟩ := i_nat (c := 6) hb.1 hb.2 (by decide)
    have e1 := r1 h k l1
    have e2 := r1b h k l1
    by_cases hb2 : 0 ≤ v2.toInt ∧ v2.toInt < x.1 4 k
    · obtain ⟨i, l2, rfl⟩ := i_nat (c := x.1 4 k) hb2.1 hb2.2 (by omega)
      have q5 := b7 ((k * 3 + i) * 6 + 5) (by omega)
      have q4 := b7 ((k * 3 + i) * 6 + 4) (by omega)
      have q3 := b7 ((k * 3 + i) * 6 + 3) (by omega)
      by_cases hb3 : 0 ≤ v3.toInt ∧ v3.toInt < 3
      · obtain ⟨w, l3, rfl⟩ := i_nat (c := 3) hb3.1 hb3.2 (by decide)
        have hM := tM_unit l dC dI b cI cL cZ m.1 m.2 k i w l1 (by omega) (by omega) (by omega) (by omega) (rZ24 h _ (by omega)) (fun z => by rw [(rUnitC h (3 * k + i) (by omega) z).2.2.2, show 6 * (3 * k + i) + 4 = (k * 3 + i) * 6 + 4 by omega]; omega) (fun z => by rw [(rUnitC h (3 * k + i) (by omega) z).2.2.1, show 6 * (3 * k + i) + 3 = (k * 3 + i) * 6 + 3 by omega]; omega)
        rw [← rUnit h k i w l1 (by omega) (by omega)] at hM
        exact ⟨_, _, _, _, _, rObs_26 h 0, by show x.1 22 0 ≤ _; omega, okR_i (by decide) (by decide), okR_i (by decide) (by decide), tA_unit l dC dI a cI cL cZ x.1 x.2 k i w l1 e2 l2 (by omega) (by omega) (by omega) (by omega) (by omega), hM⟩
      · exact ⟨-1, _, _, _, _, rObs_26 h 0, by show x.1 22 0 ≤ _; omega, okR_i (by decide) (by decide), okR_i (by decide) (by decide), tA_unit_bad3 l dC dI a cI cL cZ x.1 x.2 k i v3 l1 e2 l2 (by omega) (by omega) (by omega), tM_unit_bad2 l dC dI b cI cL cZ m.1 m.2 k (nI i) v3 l1 (by omega) (fun z => hb3 z.2)⟩
    · exact ⟨-1, _, _, _, _, rObs_26 h 0, by show x.1 22 0 ≤ _; omega, okR_i (by decide) (by decide), okR_i (by decide) (by decide), tA_unit_bad2 l dC dI a cI cL cZ x.1 x.2 k v2 v3 l1 e2 hb2, tM_unit_bad2 l dC dI b cI cL cZ m.1 m.2 k v2 v3 l1 (by omega) (fun z => hb2 (by rw [e1] at z; exact z.1))⟩
  · exact ⟨-1, _, _, _, _, rObs_26 h 0, by show x.1 22 0 ≤ _; omega, okR_i (by decide) (by decide), okR_i (by decide) (by decide), tA_unit_bad1 l dC dI a cI cL cZ x.1 x.2 v1 v2 v3 hb, tM_unit_bad1 l dC dI b cI cL cZ m.1 m.2 v1 v2 v3 hb⟩
theorem p_again (l : Launch) (dC : Nat → ClassId) (dI : Nat → Nat → Nat) (a b : Nat → Nat) (cI cL cZ : ClassId) {x m : gSt} (h : rObs x m) (hc : x.1 22 0 ≤ 1597000) : PrV l dC dI a b cI cL cZ yX3_again wsX3_again yX4_again wsX4_again x m := by
  exact ⟨_, _, _, _, rObs_again h, Nat.le_trans (Nat.le_of_eq (show (xAgain x).1 22 0 = 0 from rfl)) (Nat.zero_le _), okR_i (by decide) (by decide), okR_i (by decide) (by decide), tA_again l dC dI a cI cL cZ x.1 x.2, tM_again l dC dI b cI cL cZ m.1 m.2⟩
theorem p_clear (l : Launch) (dC : Nat → ClassId) (dI : Nat → Nat → Nat) (a b : Nat → Nat) (cI cL cZ : ClassId) {x m : gSt} (h : rObs x m) (hc : x.1 22 0 ≤ 1597000) : PrV l dC dI a b cI cL cZ yX3_clear wsX3_clear yX4_clear wsX4_clear x m := by
  exact ⟨_, _, _, _, rObs_clear (x := x) (m := m) h.1.1.2.2.2.1.2.2.2.2.2.2.2.2.2.2.2.2, Nat.le_trans (Nat.le_of_eq (show xClN x.1 22 0 = 0 from rfl)) (Nat.zero_le _), okR_i (by decide) (by decide), okR_i (by decide) (by decide), tA_clear l dC dI a cI cL cZ x.1 x.2, tM_clear l dC dI b cI cL cZ m.1 m.2⟩
theorem p_register (l : Launch) (hl0 : l.stackTraces = false) (dC : Nat → ClassId) (dI : Nat → Nat → Nat) (a b : Nat → Nat) (o : Nat) (cI cL cZ : ClassId) {x m : gSt} (h : rObs x m) (hc : x.1 22 0 ≤ 1597000) (f : Nat → Int64) (v1 : Int32) : PrH l dC dI a b o cI cL cZ yL_register wnL_register yX4_register wsX4_register x m f [.int v1] := by
  have e11 : m.1 11 0 = x.1 22 0 := h.2.1
  obtain ⟨b1, b2, b3, b4, b5, b6, b7, b8⟩ := rBd h (by omega)
  by_cases hb : 0 ≤ v1.toInt ∧ v1.toInt < 16
  · obtain ⟨n, l1, rfl⟩ := i_nat (c := 16) hb.1 hb.2 (by decide)
    have h27 := b4 n l1
    have hA := tA_register l dC dI a cI cL cZ x.1 x.2 n l1 (by omega) (by omega)
    rw [rReg h n l1] at hA
    exact ⟨0, m.2 9 n, _, _, rObs_26 h 0, okR_i (by decide) (by decide), by decide, rfl, tL_register_ok l dC dI a o cI cL cZ x.1 x.2 f (nI n) (m.2 9 n) hA, tM_register l dC dI b cI cL cZ m.1 m.2 n l1⟩
  · exact ⟨1, 0, _, _, rObs_26 (rObs_26 h 0) 1, okR_i (by decide) (by decide), by decide, rfl, tL_register_bad l dC dI a o cI cL cZ x.1 x.2 f v1 0 (tA_register_bad l dC dI a cI cL cZ x.1 x.2 hl0 v1 hb), tM_register_bad l dC dI b cI cL cZ m.1 m.2 v1 hb⟩
theorem p_memory (l : Launch) (hl0 : l.stackTraces = false) (dC : Nat → ClassId) (dI : Nat → Nat → Nat) (a b : Nat → Nat) (o : Nat) (cI cL cZ : ClassId) {x m : gSt} (h : rObs x m) (hc : x.1 22 0 ≤ 1597000) (f : Nat → Int64) (v1 : Int32) : PrH l dC dI a b o cI cL cZ yL_memory wnL_memory yX4_memory wsX4_memory x m f [.int v1] := by
  have e11 : m.1 11 0 = x.1 22 0 := h.2.1
  obtain ⟨b1, b2, b3, b4, b5, b6, b7, b8⟩ := rBd h (by omega)
  by_cases hb : 0 ≤ v1.toInt ∧ v1.toInt < 256
  · obtain ⟨n, l1, rfl⟩ := i_nat (c := 256) hb.1 hb.2 (by decide)
    have hA := tA_memory l dC dI a cI cL cZ x.1 x.2 n l1 (by omega) (by omega) (by omega)
    rw [rMem h n l1] at hA
    exact ⟨0, m.2 10 n, _, _, rObs_26 h 0, okR_i (by decide) (by decide), by decide, rfl, tL_memory_ok l dC dI a o cI cL cZ x.1 x.2 f (nI n) (m.2 10 n) hA, tM_memory l dC dI b cI cL cZ m.1 m.2 n l1⟩
  · exact ⟨1, 0, _, _, rObs_26 (rObs_26 h 0) 1, okR_i (by decide) (by decide), by decide, rfl, tL_memory_bad l dC dI a o cI cL cZ x.1 x.2 f v1 0 (tA_memory_bad l dC dI a cI cL cZ x.1 x.2 hl0 v1 hb), tM_memory_bad l dC dI b cI cL cZ m.1 m.2 v1 hb⟩
theorem p_plain (l : Launch) (hl0 : l.stackTraces = false) (dC : Nat → ClassId) (dI : Nat → Nat → Nat) (a b : Nat → Nat) (o : Nat) (cI cL cZ : ClassId) {x m : gSt} (h : rObs x m) (hc : x.1 22 0 ≤ 1597000) (f : Nat → Int64) (v1 v2 : Int32) : PrH l dC dI a b o cI cL cZ yL_plain wnL_plain yX4_plain wsX4_plain x m f [.int v1, .int v2] := by
  have e11 : m.1 11 0 = x.1 22 0 := h.2.1
  have hp := rPln h
  by_cases hb : (v1.toInt = 0 ∧ 0 ≤ v2.toInt ∧ v2.toInt < 16) ∨ (v1.toInt = 1 ∧ 0 ≤ v2.toInt ∧ v2.toInt < 256)
  · rcases hb with hb | hb
    · obtain ⟨n, l1, rfl⟩ := i_nat (c := 16) hb.2.1 hb.2.2 (by decide)
      obtain rfl := (i_eqc v1 0 (by decide)).mpr hb.1
      have hA := tA_plain0 l dC dI a cI cL cZ x.1 x.2 n l1
      rw [← hp.1 n l1] at hA
      exact ⟨0, m.2 6 n, _, _, rObs_26 h 0, okR_i (by decide) (by decide), by decide, rfl, tL_plain_ok l dC dI a o cI cL cZ x.1 x.2 f (nI 0) (nI n) (m.2 6 n) hA, tM_plain0 l dC dI b cI cL cZ m.1 m.2 n l1⟩
    · obtain ⟨n, l1, rfl⟩ := i_nat (c := 256) hb.2.1 hb.2.2 (by decide)
      obtain rfl := (i_eqc v1 1 (by decide)).mpr hb.1
      have hA := tA_plain1 l dC dI a cI cL cZ x.1 x.2 n l1
      rw [← hp.2 n l1] at hA
      exact ⟨0, m.2 7 n, _, _, rObs_26 h 0, okR_i (by decide) (by decide), by decide, rfl, tL_plain_ok l dC dI a o cI cL cZ x.1 x.2 f (nI 1) (nI n) (m.2 7 n) hA, tM_plain1 l dC dI b cI cL cZ m.1 m.2 n l1⟩
  · exact ⟨1, 0, _, _, rObs_26 (rObs_26 h 0) 1, okR_i (by decide) (by decide), by decide, rfl, tL_plain_bad l dC dI a o cI cL cZ x.1 x.2 f v1 v2 0 (tA_plain_bad l dC dI a cI cL cZ x.1 x.2 hl0 v1 v2 hb), tM_plain_bad l dC dI b cI cL cZ m.1 m.2 v1 v2 hb⟩
