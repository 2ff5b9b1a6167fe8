/-! the other calls: what is set ahead of the run -/
theorem rZero {x m : gSt} (h : rObs x m) (h22 : x.1 22 0 = 0) : x.1 23 0 = 0 ∧ m.1 13 0 = 0 ∧ m.1 14 0 = 0 ∧ m.1 15 0 = 0 ∧ m.1 17 0 = 0 ∧ (∀ k, k < 18 → m.1 24 k = 0) ∧ (∀ w, w < 3 → x.1 25 (w + 1) = m.1 18 w) := by
  obtain ⟨⟨⟨hS, hC, hI, hM, hV⟩, hSt, h14, hT, hH, hO⟩, h11, h12, h23, h24, hop⟩ := h
  have h13 : m.1 13 0 = 0 := by
    have := hC.2.1
    omega
  obtain ⟨a1, a2, a3⟩ := hM.2.2.2.2.2.1 h13
  have hb := (mBeg_ge hM).1
  refine ⟨?_, h13, a1, a2, a3, fun k hk => Classical.byContradiction fun z => ?_, fun w hw => ?_⟩
  · refine Classical.byContradiction fun z => ?_
    have := (hO z).2
    unfold mHalt at this
    omega
  · have h1 := hop k hk z
    have h2 := hM.2.2.2.2.2.2.2.2.2.2.1 k hk
    omega
  · have := hSt w hw
    rw [h22, mWt_none (by omega)] at this
    rw [this]
    split <;> rfl
theorem rEnd_0 {x m : gSt} (hB : rBase x m) (h22 : x.1 22 0 = 0) (h23 : x.1 23 0 = 0) (h14 : m.1 14 0 = 0) (hs : ∀ w, w < 3 → x.1 25 (w + 1) = m.1 18 w) : rEnd x m := by
  have hb := (mBeg_ge hB.2.2.2.1).1
  have hT := (mT_ge m.1).1
  refine ⟨hB, fun w hw => ?_, by omega, fun _ _ => by omega, fun _ _ => by rw [h22]; unfold mHalt; omega, fun z => absurd h23 z⟩
  rw [hs w hw, h22, mWt_none (by omega)]
  split <;> rfl
theorem rObs_0 {x m : gSt} (hB : rBase x m) (h22 : x.1 22 0 = 0) (h23 : x.1 23 0 = 0) (h24 : x.1 24 0 = 0) (h14 : m.1 14 0 = 0) (h11 : m.1 11 0 = 0) (h12 : m.1 12 0 = 0) (ho : ∀ k, k < 18 → m.1 24 k = 0) (hs : ∀ w, w < 3 → x.1 25 (w + 1) = m.1 18 w) : rObs x m :=
  ⟨rEnd_0 hB h22 h23 h14 hs, by rw [h11, h22], by rw [h12, h23], by omega, by omega, fun k hk z => absurd (ho k hk) z⟩
theorem rObs_put {x m : gSt} (h : rObs x m) (h22 : x.1 22 0 = 0) {pl k d y B : Nat} (hp : pl < 256) (hk : k ≤ 18) (hd : d < 16) (hy : y < 16) (hB4 : B < 4294967296) : rObs (uN (uN (uN (uN x.1 0 pl k) 1 pl d) 2 pl y) 3 pl B, x.2) (uN (uN (uN (uN (uN m.1 26 0 0) 0 (4 * pl) k) 0 (4 * pl + 1) d) 0 (4 * pl + 2) y) 0 (4 * pl + 3) B, m.2) := by
  obtain ⟨z23, z13, z14, z15, z17, zo, zs⟩ := rZero h h22
  obtain ⟨⟨⟨hS, hC, hI, hM, hV⟩, hSt, h14, hT, hH, hO⟩, h11, h12, h23, h24, hop⟩ := h
  have key : ∀ q, q < 256 → (uN (uN (uN (uN (uN m.1 26 0 0) 0 (4 * pl) k) 0 (4 * pl + 1) d) 0 (4 * pl + 2) y) 0 (4 * pl + 3) B 0 (4 * q) = if q = pl then k else m.1 0 (4 * q)) ∧ (uN (uN (uN (uN (uN m.1 26 0 0) 0 (4 * pl) k) 0 (4 * pl + 1) d) 0 (4 * pl + 2) y) 0 (4 * pl + 3) B 0 (4 * q + 1) = if q = pl then d else m.1 0 (4 * q + 1)) ∧ (uN (uN (uN (uN (uN m.1 26 0 0) 0 (4 * pl) k) 0 (4 * pl + 1) d) 0 (4 * pl + 2) y) 0 (4 * pl + 3) B 0 (4 * q + 2) = if q = pl then y else m.1 0 (4 * q + 2)) ∧ (uN (uN (uN (uN (uN m.1 26 0 0) 0 (4 * pl) k) 0 (4 * pl + 1) d) 0 (4 * pl + 2) y) 0 (4 * pl + 3) B 0 (4 * q + 3) = if q = pl then B else m.1 0 (4 * q + 3)) := by
    intro q hq
    have e26 : uN m.1 26 0 0 0 = m.1 0 := rfl
    simp only [uN_s, e26]
    by_cases z : q = pl
    · subst z
      simp only [if_true]
      refine ⟨?_, ?_, ?_, ?_⟩
      · rw [if_neg (by omega), if_neg (by omega), if_neg (by omega)]
      · rw [if_neg (by omega), if_neg (by omega)]
      · rw [if_neg (by omega)]
      · trivial
    · simp only [if_neg z]
      refine ⟨?_, ?_, ?_, ?_⟩
      · rw [if_neg (by omega), if_neg (by omega), if_neg (by omega), if_neg (by omega)]
      · rw [if_neg (by omega), if_neg (by omega), if_neg (by omega), if_neg (by omega)]
      · rw [if_neg (by omega), if_neg (by omega), if_neg (by omega), if_neg (by omega)]
      · rw [if_neg (by omega), if_neg (by omega), if_neg (by omega), if_neg (by omega)]
  have xk : ∀ q, (uN (uN (uN (uN x.1 0 pl k) 1 pl d) 2 pl y) 3 pl B 0 q = if q = pl then k else x.1 0 q) ∧ (uN (uN (uN (uN x.1 0 pl k) 1 pl d) 2 pl y) 3 pl B 1 q = if q = pl then d else x.1 1 q) ∧ (uN (uN (uN (uN x.1 0 pl k) 1 pl d) 2 pl y) 3 pl B 2 q = if q = pl then y else x.1 2 q) ∧ (uN (uN (uN (uN x.1 0 pl k) 1 pl d) 2 pl y) 3 pl B 3 q = if q = pl then B else x.1 3 q) := fun q => ⟨rfl, rfl, rfl, rfl⟩
  have hx0 : xG0 (uN (uN (uN (uN x.1 0 pl k) 1 pl d) 2 pl y) 3 pl B) := by
    refine ⟨hI.1.1, fun q hq => ?_⟩
    obtain ⟨a1, a2, a3, a4⟩ := xk q
    obtain ⟨b1, b2, b3, b4⟩ := hI.1.2 q hq
    rw [a1, a2, a3, a4]
    by_cases z : q = pl
    · simp only [if_pos z]
      exact ⟨hk, hd, hy, hB4⟩
    · simp only [if_neg z]
      exact ⟨b1, b2, b3, b4⟩
  have hm0 : mG0 (uN (uN (uN (uN (uN m.1 26 0 0) 0 (4 * pl) k) 0 (4 * pl + 1) d) 0 (4 * pl + 2) y) 0 (4 * pl + 3) B) := by
    refine ⟨hM.1.1, fun q hq => ?_⟩
    obtain ⟨a1, a2, a3, a4⟩ := key q hq
    obtain ⟨b1, b2, b3, b4⟩ := hM.1.2 q hq
    rw [a1, a2, a3, a4]
    by_cases z : q = pl
    · simp only [if_pos z]
      exact ⟨hk, hd, hy, hB4⟩
    · simp only [if_neg z]
      exact ⟨b1, b2, b3, b4⟩
  refine rObs_0 ⟨⟨fun q hq => ?_, hS.2⟩, hC, ⟨hx0, hI.2⟩, ⟨hm0, hM.2⟩, hV⟩ h22 z23 (by show x.1 24 0 = 0; omega) z14 (by show m.1 11 0 = 0; omega) (by show m.1 12 0 = 0; omega) zo zs
  obtain ⟨a1, a2, a3, a4⟩ := key q hq
  obtain ⟨c1, c2, c3, c4⟩ := xk q
  obtain ⟨b1, b2, b3, b4⟩ := hS.1 q hq
  show _ = uN (uN (uN (uN x.1 0 pl k) 1 pl d) 2 pl y) 3 pl B 0 q ∧ _ = uN (uN (uN (uN x.1 0 pl k) 1 pl d) 2 pl y) 3 pl B 1 q ∧ _ = uN (uN (uN (uN x.1 0 pl k) 1 pl d) 2 pl y) 3 pl B 2 q ∧ _ = uN (uN (uN (uN x.1 0 pl k) 1 pl d) 2 pl y) 3 pl B 3 q
  rw [c1, c2, c3, c4]
  refine ⟨a1.trans ?_, a2.trans ?_, a3.trans ?_, a4.trans ?_⟩
  · rw [b1]
  · rw [b2]
  · rw [b3]
  · rw [b4]
theorem rObs_26 {x m : gSt} (h : rObs x m) (v : Nat) : rObs x (uN m.1 26 0 v, m.2) := h
theorem rObs_units {x m : gSt} (h : rObs x m) (h22 : x.1 22 0 = 0) {k n : Nat} (hk : k < 4) (hn : 1 ≤ n) (hn3 : n ≤ 3) : rObs (uN x.1 4 k n, x.2) (uN (uN m.1 26 0 0) 1 k n, m.2) := by
  obtain ⟨z23, z13, z14, z15, z17, zo, zs⟩ := rZero h h22
  obtain ⟨⟨⟨hS, hC, hI, hM, hV⟩, hSt, h14, hT, hH, hO⟩, h11, h12, h23, h24, hop⟩ := h
  have ex : ∀ i, uN x.1 4 k n 4 i = if i = k then n else x.1 4 i := fun i => rfl
  have em : ∀ i, uN (uN m.1 26 0 0) 1 k n 1 i = if i = k then n else m.1 1 i := fun i => rfl
  refine rObs_0 ⟨⟨hS.1, fun i hi => ⟨?_, (hS.2.1 i hi).2⟩, hS.2.2.1, ?_, hS.2.2.2.2⟩, hC, ⟨hI.1, fun i hi => ?_, hI.2.2⟩, ⟨hM.1, fun i hi => ?_, hM.2.2⟩, hV⟩ h22 z23 (by show x.1 24 0 = 0; omega) z14 (by show m.1 11 0 = 0; omega) (by show m.1 12 0 = 0; omega) zo zs
  · show uN (uN m.1 26 0 0) 1 k n 1 i = uN x.1 4 k n 4 i
    rw [ex, em, (hS.2.1 i hi).1]
  · show uN (uN m.1 26 0 0) 1 k n 1 4 = 1
    rw [em, if_neg (by omega)]
    exact hS.2.2.2.1
  · show 1 ≤ uN x.1 4 k n 4 i ∧ uN x.1 4 k n 4 i ≤ 3
    rw [ex]
    have := hI.2.1 i hi
    split <;> omega
  · show 1 ≤ uN (uN m.1 26 0 0) 1 k n 1 i ∧ uN (uN m.1 26 0 0) 1 k n 1 i ≤ 3
    rw [em]
    have := hM.2.1 i hi
    split <;> omega
theorem rObs_latency {x m : gSt} (h : rObs x m) (h22 : x.1 22 0 = 0) {k n : Nat} (hk : k < 6) (hn : 1 ≤ n) (hn3 : n ≤ 30) : rObs (uN x.1 5 k n, x.2) (uN (uN m.1 26 0 0) 2 k n, m.2) := by
  obtain ⟨z23, z13, z14, z15, z17, zo, zs⟩ := rZero h h22
  obtain ⟨⟨⟨hS, hC, hI, hM, hV⟩, hSt, h14, hT, hH, hO⟩, h11, h12, h23, h24, hop⟩ := h
  have ex : ∀ i, uN x.1 5 k n 5 i = if i = k then n else x.1 5 i := fun i => rfl
  have em : ∀ i, uN (uN m.1 26 0 0) 2 k n 2 i = if i = k then n else m.1 2 i := fun i => rfl
  refine rObs_0 ⟨⟨hS.1, fun i hi => ⟨(hS.2.1 i hi).1, ?_⟩, hS.2.2⟩, hC, ⟨hI.1, hI.2.1, fun i hi => ?_, hI.2.2.2⟩, ⟨hM.1, hM.2.1, fun i hi => ?_, hM.2.2.2⟩, hV⟩ h22 z23 (by show x.1 24 0 = 0; omega) z14 (by show m.1 11 0 = 0; omega) (by show m.1 12 0 = 0; omega) zo zs
  · show uN (uN m.1 26 0 0) 2 k n 2 i = uN x.1 5 k n 5 i
    rw [ex, em, (hS.2.1 i hi).2]
  · show 1 ≤ uN x.1 5 k n 5 i ∧ uN x.1 5 k n 5 i ≤ 30
    rw [ex]
    have := hI.2.2.1 i hi
    split <;> omega
  · show 1 ≤ uN (uN m.1 26 0 0) 2 k n 2 i ∧ uN (uN m.1 26 0 0) 2 k n 2 i ≤ 30
    rw [em]
    have := hM.2.2.1 i hi
    split <;> omega
theorem rObs_width {x m : gSt} (h : rObs x m) (h22 : x.1 22 0 = 0) {n : Nat} (hn : 1 ≤ n) (hn3 : n ≤ 4) : rObs (uN x.1 8 0 n, x.2) (uN (uN m.1 26 0 0) 3 0 n, m.2) := by
  obtain ⟨z23, z13, z14, z15, z17, zo, zs⟩ := rZero h h22
  obtain ⟨⟨⟨hS, hC, hI, hM, hV⟩, hSt, h14, hT, hH, hO⟩, h11, h12, h23, h24, hop⟩ := h
  refine rObs_0 ⟨⟨hS.1, hS.2.1, rfl, hS.2.2.2⟩, hC, ⟨hI.1, hI.2.1, hI.2.2.1, ⟨hn, hn3⟩, hI.2.2.2.2⟩, ⟨hM.1, hM.2.1, hM.2.2.1, ⟨hn, hn3⟩, hM.2.2.2.2.1, hM.2.2.2.2.2.1, ?_, hM.2.2.2.2.2.2.2⟩, hV⟩ h22 z23 (by show x.1 24 0 = 0; omega) z14 (by show m.1 11 0 = 0; omega) (by show m.1 12 0 = 0; omega) zo zs
  show m.1 15 0 ≤ n
  omega
theorem rObs_set0 {x m : gSt} (h : rObs x m) (h22 : x.1 22 0 = 0) {i : Nat} (v : Int64) : rObs (x.1, uJ (uJ x.2 6 i v) 11 i v) (uN m.1 26 0 0, uJ (uJ (uJ m.2 4 i v) 9 i v) 6 i v) := by
  obtain ⟨z23, z13, z14, z15, z17, zo, zs⟩ := rZero h h22
  obtain ⟨⟨⟨hS, hC, hI, hM, hV⟩, hSt, h14, hT, hH, hO⟩, h11, h12, h23, h24, hop⟩ := h
  obtain ⟨v1, v2, v3, v4, v5, v6, v7, v8⟩ := hV
  refine rObs_0 ⟨⟨hS.1, hS.2.1, hS.2.2.1, hS.2.2.2.1, fun j hj => ?_, hS.2.2.2.2.2⟩, ⟨hC.1, hC.2.1, hC.2.2.1, hC.2.2.2.1, hC.2.2.2.2.1, hC.2.2.2.2.2.1, hC.2.2.2.2.2.2.1, fun j hj => ?_, hC.2.2.2.2.2.2.2.2⟩, hI, hM, ⟨fun k hk ho => absurd (zo k hk) ho, fun k hk ho => absurd (zo k hk) ho, fun j hj hn => ?_, v4, v5, v6, v7, v8⟩⟩ h22 z23 (by show x.1 24 0 = 0; omega) z14 (by show m.1 11 0 = 0; omega) (by show m.1 12 0 = 0; omega) zo zs
  · show (if j = i then v else m.2 4 j) = if j = i then v else x.2 6 j
    rw [hS.2.2.2.2.1 j hj]
  · show (if j = i then v else m.2 6 j) = if j = i then v else x.2 11 j
    rw [hC.2.2.2.2.2.2.2.1 j hj]
  · show (if j = i then v else m.2 9 j) = if j = i then v else m.2 6 j
    rw [v3 j hj (fun k hk ho => absurd (zo k hk) ho)]
theorem rObs_set1 {x m : gSt} (h : rObs x m) (h22 : x.1 22 0 = 0) {i : Nat} (v : Int64) : rObs (x.1, uJ (uJ x.2 7 i v) 12 i v) (uN m.1 26 0 0, uJ (uJ (uJ m.2 5 i v) 10 i v) 7 i v) := by
  obtain ⟨z23, z13, z14, z15, z17, zo, zs⟩ := rZero h h22
  obtain ⟨⟨⟨hS, hC, hI, hM, hV⟩, hSt, h14, hT, hH, hO⟩, h11, h12, h23, h24, hop⟩ := h
  obtain ⟨v1, v2, v3, v4, v5, v6, v7, v8⟩ := hV
  refine rObs_0 ⟨⟨hS.1, hS.2.1, hS.2.2.1, hS.2.2.2.1, hS.2.2.2.2.1, fun j hj => ?_⟩, ⟨hC.1, hC.2.1, hC.2.2.1, hC.2.2.2.1, hC.2.2.2.2.1, hC.2.2.2.2.2.1, hC.2.2.2.2.2.2.1, hC.2.2.2.2.2.2.2.1, fun j hj => ?_⟩, hI, hM, ⟨fun k hk ho => absurd (zo k hk) ho, fun k hk ho => absurd (zo k hk) ho, v3, fun j hj hn => ?_, v5, v6, v7, v8⟩⟩ h22 z23 (by show x.1 24 0 = 0; omega) z14 (by show m.1 11 0 = 0; omega) (by show m.1 12 0 = 0; omega) zo zs
  · show (if j = i then v else m.2 5 j) = if j = i then v else x.2 7 j
    rw [hS.2.2.2.2.2 j hj]
  · show (if j = i then v else m.2 7 j) = if j = i then v else x.2 12 j
    rw [hC.2.2.2.2.2.2.2.2 j hj]
  · show (if j = i then v else m.2 10 j) = if j = i then v else m.2 7 j
    rw [v4 j hj (fun k hk ho => absurd (zo k hk) ho)]
