/-! both begin anew -/
theorem rObs_fresh {x m : gSt} (hS : rSet x m) (hx0 : ∀ p, p < 256 → x.1 0 p ≤ 18 ∧ x.1 1 p < 16 ∧ x.1 2 p < 16 ∧ x.1 3 p < 4294967296) (hxu : ∀ k, k < 6 → 1 ≤ x.1 4 k ∧ x.1 4 k ≤ 3) (hxl : ∀ k, k < 6 → 1 ≤ x.1 5 k ∧ x.1 5 k ≤ 30) (hxw : 1 ≤ x.1 8 0 ∧ x.1 8 0 ≤ 4)
    (x13 : x.1 13 0 = 0) (x22 : x.1 22 0 = 0) (x23 : x.1 23 0 = 0) (x24 : x.1 24 0 = 0) (x25 : ∀ w, w < 4 → x.1 25 w = 0) (x27 : ∀ j, j < 16 → x.1 27 j = 0) (x29 : ∀ j, j < 16 → x.1 29 j = 0) (x30 : x.1 30 0 = 0) (x31 : x.1 31 0 = 0) (x33 : x.1 33 0 = 0) (x34 : x.1 34 0 = 0) (x36 : ∀ i, i < 108 → x.1 36 i = 0) (x37 : ∀ i, i < 384 → x.1 37 i = 0)
    (x11 : ∀ j, j < 16 → x.2 11 j = x.2 6 j) (x12 : ∀ j, j < 256 → x.2 12 j = x.2 7 j)
    (m8 : m.1 8 0 = 0) (m11 : m.1 11 0 = 0) (m12 : m.1 12 0 = 0) (m13 : m.1 13 0 = 0) (m14 : m.1 14 0 = 0) (m15 : m.1 15 0 = 0) (m16 : m.1 16 0 = 0) (m17 : m.1 17 0 = 0) (m18 : ∀ w, w < 3 → m.1 18 w = 0) (m19 : ∀ j, j < 16 → m.1 19 j = 0) (m21 : ∀ j, j < 16 → m.1 21 j = 0) (m24 : ∀ k, k < 18 → m.1 24 k = 0) (m22 : ∀ k, k < 18 → m.1 22 (7 * k + 5) = 0) (m26 : ∀ k, k < 18 → m.1 22 (7 * k + 6) = 4294967295 ∨ m.1 22 (7 * k + 6) < 272)
    (m6 : ∀ j, j < 16 → m.2 6 j = m.2 4 j) (m9 : ∀ j, j < 16 → m.2 9 j = m.2 4 j) (m7 : ∀ j, j < 256 → m.2 7 j = m.2 5 j) (m10 : ∀ j, j < 256 → m.2 10 j = m.2 5 j) : rObs x m := by
  have hxI : xInv x.1 := by
    refine ⟨⟨by omega, hx0⟩, hxu, hxl, hxw, by omega, by omega, fun j hj => ?_, fun k hk => ?_, by omega, by omega, fun i hi => ?_, fun i hi => ?_⟩
    · rw [x27 j hj, x29 j hj]
      omega
    · rw [x36 _ (by omega)]
      omega
    · rw [x36 i hi]
      omega
    · rw [x37 i hi]
      omega
  have hmI : mInv m.1 := by
    refine ⟨⟨by omega, fun p hp => ?_⟩, fun k hk => ?_, fun k hk => ?_, ?_, fun z => absurd m13 z, fun _ => ⟨m14, m15, m17⟩, by omega, by omega, by omega, fun j hj => ?_, fun k hk => ?_, fun k hk => ?_, m26⟩
    · obtain ⟨b1, b2, b3, b4⟩ := hS.1 p hp
      rw [b1, b2, b3, b4]
      exact hx0 p hp
    · rw [(hS.2.1 k hk).1]
      exact hxu k hk
    · rw [(hS.2.1 k hk).2]
      exact hxl k hk
    · rw [hS.2.2.1]
      exact hxw
    · rw [m19 j hj, m21 j hj]
      omega
    · rw [m22 k hk]
      omega
    · rw [m24 k hk]
      omega
  have hC : rCor x m := by
    refine ⟨by omega, by omega, by omega, by omega, fun j hj => ⟨by rw [m19 j hj, x27 j hj], by rw [m21 j hj, x29 j hj], fun z => absurd (m19 j hj) z⟩, fun k hk => ⟨by rw [m22 k hk, x36 _ (by omega)], fun z => absurd (m22 k hk) z⟩, fun s _ hs => by omega, fun j hj => ?_, fun j hj => ?_⟩
    · rw [m6 j hj, x11 j hj, hS.2.2.2.2.1 j hj]
    · rw [m7 j hj, x12 j hj, hS.2.2.2.2.2 j hj]
  have hV : rVal x m (x.1 22 0) := by
    refine ⟨fun k hk z => absurd (m24 k hk) z, fun k hk z => absurd (m24 k hk) z, fun j hj _ => by rw [m9 j hj, m6 j hj], fun j hj _ => by rw [m10 j hj, m7 j hj], fun k k' hk _ z => absurd (m24 k hk) z, fun k hk _ => by rw [m22 k hk]; omega, fun j hj => Or.inr (by rw [m19 j hj]; omega), Or.inr (by omega)⟩
  refine rObs_0 ⟨hS, hC, hxI, hmI, hV⟩ x22 x23 x24 m14 m11 m12 m24 fun w hw => ?_
  rw [x25 (w + 1) (by omega), m18 w hw]
theorem rObs_again {x m : gSt} (h : rObs x m) : rObs (xAgain x) (mAgain m) := by
  obtain ⟨⟨⟨hS, hC, hI, hM, hV⟩, hSt, h14, hT, hH, hO⟩, h11, h12, h23, h24, hop⟩ := h
  have u1 : ∀ g j, mAgN m.1 g j = if g = 24 ∧ j < 18 then 0 else if g = 22 ∧ j % 7 = 5 ∧ j < 7 * 18 then 0 else fl3 (flN (mSc m.1) 18 3 0) 16 g j := fun g j => rfl
  have f6 : ∀ j, j < 16 → mAgJ m.2 6 j = m.2 4 j := by
    intro j hj
    unfold mAgJ cpJ
    simp only [show ¬ ((6 : Nat) = 7 ∨ (6 : Nat) = 10) by decide, false_and, if_false, show ((6 : Nat) = 6 ∨ (6 : Nat) = 9) by decide, true_and, and_true, true_or, or_true, hj, if_true]
  have f9 : ∀ j, j < 16 → mAgJ m.2 9 j = m.2 4 j := by
    intro j hj
    unfold mAgJ cpJ
    simp only [show ¬ ((9 : Nat) = 7 ∨ (9 : Nat) = 10) by decide, false_and, if_false, show ((9 : Nat) = 6 ∨ (9 : Nat) = 9) by decide, true_and, and_true, true_or, or_true, hj, if_true]
  have f7 : ∀ j, j < 256 → mAgJ m.2 7 j = m.2 5 j := by
    intro j hj
    unfold mAgJ cpJ
    simp only [show ((7 : Nat) = 7 ∨ (7 : Nat) = 10) by decide, true_and, and_true, true_or, or_true, hj, if_true, show ¬ ((5 : Nat) = 6 ∨ (5 : Nat) = 9) by decide, false_and, if_false]
  have f10 : ∀ j, j < 256 → mAgJ m.2 10 j = m.2 5 j := by
    intro j hj
    unfold mAgJ cpJ
    simp only [show ((10 : Nat) = 7 ∨ (10 : Nat) = 10) by decide, true_and, and_true, true_or, or_true, hj, if_true, show ¬ ((5 : Nat) = 6 ∨ (5 : Nat) = 9) by decide, false_and, if_false]
  have f4 : ∀ j, mAgJ m.2 4 j = m.2 4 j := by
    intro j
    unfold mAgJ cpJ
    simp only [show ¬ ((4 : Nat) = 7 ∨ (4 : Nat) = 10) by decide, show ¬ ((4 : Nat) = 6 ∨ (4 : Nat) = 9) by decide, false_and, if_false]
  have f5 : ∀ j, mAgJ m.2 5 j = m.2 5 j := by
    intro j
    unfold mAgJ cpJ
    simp only [show ¬ ((5 : Nat) = 7 ∨ (5 : Nat) = 10) by decide, show ¬ ((5 : Nat) = 6 ∨ (5 : Nat) = 9) by decide, false_and, if_false]
  have g : ∀ f j, f ≠ 24 → f ≠ 22 → mAgN m.1 f j = fl3 (flN (mSc m.1) 18 3 0) 16 f j := by
    intro f j h1 h2
    rw [u1, if_neg (fun z => h1 z.1), if_neg (fun z => h2 z.1)]
  have g0 : ∀ j, mAgN m.1 0 j = m.1 0 j := fun j => g 0 j (by decide) (by decide)
  have g1 : ∀ j, mAgN m.1 1 j = m.1 1 j := fun j => g 1 j (by decide) (by decide)
  have g2 : ∀ j, mAgN m.1 2 j = m.1 2 j := fun j => g 2 j (by decide) (by decide)
  have g3 : ∀ j, mAgN m.1 3 j = m.1 3 j := fun j => g 3 j (by decide) (by decide)
  have y36 : ∀ i, (xAgain x).1 36 i = if i < 108 then 0 else x.1 36 i := fun i => rfl
  have y37 : ∀ i, (xAgain x).1 37 i = if i < 384 then 0 else x.1 37 i := fun i => rfl
  have y25 : ∀ i, (xAgain x).1 25 i = if i < 4 then 0 else x.1 25 i := fun i => rfl
  have y27 : ∀ i, (xAgain x).1 27 i = if i < 16 then 0 else x.1 27 i := fun i => rfl
  have y29 : ∀ i, (xAgain x).1 29 i = if i < 16 then 0 else x.1 29 i := fun i => rfl
  have y11 : ∀ i, (xAgain x).2 11 i = if i < 16 then x.2 6 i else x.2 11 i := fun i => rfl
  have y12 : ∀ i, (xAgain x).2 12 i = if i < 256 then x.2 7 i else x.2 12 i := fun i => rfl
  have w18 : ∀ j, mAgN m.1 18 j = if j < 3 then 0 else m.1 18 j := fun j => g 18 j (by decide) (by decide)
  have w19 : ∀ j, mAgN m.1 19 j = if j < 16 then 0 else m.1 19 j := fun j => g 19 j (by decide) (by decide)
  have w21 : ∀ j, mAgN m.1 21 j = if j < 16 then 0 else m.1 21 j := fun j => g 21 j (by decide) (by decide)
  refine rObs_fresh (x := xAgain x) (m := mAgain m) ⟨fun p hp => ?_, fun k hk => ?_, ?_, ?_, fun j hj => ?_, fun j hj => ?_⟩ hI.1.2 hI.2.1 hI.2.2.1 hI.2.2.2.1 rfl rfl rfl rfl (fun w hw => by rw [y25, if_pos hw]) (fun j hj => by rw [y27, if_pos hj]) (fun j hj => by rw [y29, if_pos hj]) rfl rfl rfl rfl (fun j hj => by rw [y36, if_pos hj]) (fun j hj => by rw [y37, if_pos hj]) (fun j hj => by rw [y11, if_pos hj]; rfl) (fun j hj => by rw [y12, if_pos hj]; rfl)
    (g 8 0 (by decide) (by decide)) (g 11 0 (by decide) (by decide)) (g 12 0 (by decide) (by decide)) (g 13 0 (by decide) (by decide)) (g 14 0 (by decide) (by decide)) (g 15 0 (by decide) (by decide)) (g 16 0 (by decide) (by decide)) (g 17 0 (by decide) (by decide)) (fun w hw => (w18 w).trans (if_pos hw)) (fun w hw => (w19 w).trans (if_pos hw)) (fun w hw => (w21 w).trans (if_pos hw)) (fun k hk => (u1 24 k).trans (if_pos ⟨rfl, hk⟩)) (fun k hk => (u1 22 _).trans ((if_neg (fun z => absurd z.1 (by decide))).trans (if_pos ⟨rfl, by omega, by omega⟩))) (fun k hk => ?_)
    (fun j hj => (f6 j hj).trans (f4 j).symm) (fun j hj => (f9 j hj).trans (f4 j).symm) (fun j hj => (f7 j hj).trans (f5 j).symm) (fun j hj => (f10 j hj).trans (f5 j).symm)
  · show mAgN m.1 0 _ = _ ∧ mAgN m.1 0 _ = _ ∧ mAgN m.1 0 _ = _ ∧ mAgN m.1 0 _ = _
    rw [g0, g0, g0, g0]
    exact hS.1 p hp
  · show mAgN m.1 1 _ = _ ∧ mAgN m.1 2 _ = _
    rw [g1, g2]
    exact hS.2.1 k hk
  · exact (g3 0).trans hS.2.2.1
  · exact (g1 4).trans hS.2.2.2.1
  · exact (f4 j).trans (hS.2.2.2.2.1 j hj)
  · exact (f5 j).trans (hS.2.2.2.2.2 j hj)
  · have e : (mAgain m).1 22 (7 * k + 6) = m.1 22 (7 * k + 6) := (u1 22 _).trans ((if_neg (fun z => absurd z.1 (by decide))).trans (if_neg (fun z => by omega)))
    rw [e]
    exact hM.2.2.2.2.2.2.2.2.2.2.2.2 k hk
/-- the cleared state, from any two states whose left-over unit rows are in range -/
theorem rObs_clear {x m : gSt} (h26 : ∀ k, k < 18 → m.1 22 (7 * k + 6) = 4294967295 ∨ m.1 22 (7 * k + 6) < 272) : rObs (xClN x.1, xClJ x.2) (mClear m) := by
  have u1 : ∀ g j, mAgN (mClN m.1) g j = if g = 24 ∧ j < 18 then 0 else if g = 22 ∧ j % 7 = 5 ∧ j < 7 * 18 then 0 else fl3 (flN (mSc (mClN m.1)) 18 3 0) 16 g j := fun g j => rfl
  have f6 : ∀ j, j < 16 → mAgJ (mClJ m.2) 6 j = 0 := by
    intro j hj
    unfold mAgJ cpJ
    simp only [show ¬ ((6 : Nat) = 7 ∨ (6 : Nat) = 10) by decide, false_and, if_false, show ((6 : Nat) = 6 ∨ (6 : Nat) = 9) by decide, true_and, and_true, true_or, or_true, hj, if_true]
    exact if_pos hj
  have f9 : ∀ j, j < 16 → mAgJ (mClJ m.2) 9 j = 0 := by
    intro j hj
    unfold mAgJ cpJ
    simp only [show ¬ ((9 : Nat) = 7 ∨ (9 : Nat) = 10) by decide, false_and, if_false, show ((9 : Nat) = 6 ∨ (9 : Nat) = 9) by decide, true_and, and_true, true_or, or_true, hj, if_true]
    exact if_pos hj
  have f7 : ∀ j, j < 256 → mAgJ (mClJ m.2) 7 j = 0 := by
    intro j hj
    unfold mAgJ cpJ
    simp only [show ((7 : Nat) = 7 ∨ (7 : Nat) = 10) by decide, true_and, and_true, true_or, or_true, hj, if_true, show ¬ ((5 : Nat) = 6 ∨ (5 : Nat) = 9) by decide, false_and, if_false]
    exact if_pos hj
  have f10 : ∀ j, j < 256 → mAgJ (mClJ m.2) 10 j = 0 := by
    intro j hj
    unfold mAgJ cpJ
    simp only [show ((10 : Nat) = 7 ∨ (10 : Nat) = 10) by decide, true_and, and_true, true_or, or_true, hj, if_true, show ¬ ((5 : Nat) = 6 ∨ (5 : Nat) = 9) by decide, false_and, if_false]
    exact if_pos hj
  have f4 : ∀ j, j < 16 → mAgJ (mClJ m.2) 4 j = 0 := by
    intro j hj
    unfold mAgJ cpJ
    simp only [show ¬ ((4 : Nat) = 7 ∨ (4 : Nat) = 10) by decide, show ¬ ((4 : Nat) = 6 ∨ (4 : Nat) = 9) by decide, false_and, if_false]
    exact if_pos hj
  have f5 : ∀ j, j < 256 → mAgJ (mClJ m.2) 5 j = 0 := by
    intro j hj
    unfold mAgJ cpJ
    simp only [show ¬ ((5 : Nat) = 7 ∨ (5 : Nat) = 10) by decide, show ¬ ((5 : Nat) = 6 ∨ (5 : Nat) = 9) by decide, false_and, if_false]
    exact if_pos hj
  have g : ∀ f j, f ≠ 24 → f ≠ 22 → mAgN (mClN m.1) f j = fl3 (flN (mSc (mClN m.1)) 18 3 0) 16 f j := by
    intro f j h1 h2
    rw [u1, if_neg (fun z => h1 z.1), if_neg (fun z => h2 z.1)]
  have g0 : ∀ j, j < 1024 → mAgN (mClN m.1) 0 j = 0 := fun j hj => (g 0 j (by decide) (by decide)).trans (if_pos hj)
  have g1 : ∀ j, j < 6 → mAgN (mClN m.1) 1 j = 1 := fun j hj => (g 1 j (by decide) (by decide)).trans (if_pos hj)
  have g2 : ∀ j, j < 6 → mAgN (mClN m.1) 2 j = ltN j := by
    intro j hj
    rw [g 2 j (by decide) (by decide)]
    rcases (show j = 0 ∨ j = 1 ∨ j = 2 ∨ j = 3 ∨ j = 4 ∨ j = 5 by omega) with z | z | z | z | z | z <;> subst z <;> rfl
  have y0 : ∀ i, xClN x.1 0 i = if i < 256 then 0 else x.1 0 i := fun i => rfl
  have y1 : ∀ i, xClN x.1 1 i = if i < 256 then 0 else x.1 1 i := fun i => rfl
  have y2 : ∀ i, xClN x.1 2 i = if i < 256 then 0 else x.1 2 i := fun i => rfl
  have y3 : ∀ i, xClN x.1 3 i = if i < 256 then 0 else x.1 3 i := fun i => rfl
  have y4 : ∀ i, xClN x.1 4 i = if i < 6 then 1 else x.1 4 i := fun i => rfl
  have y5 : ∀ i, xClN x.1 5 i = if i < 6 then ltN i else x.1 5 i := fun i => rfl
  have y36 : ∀ i, xClN x.1 36 i = if i < 108 then 0 else x.1 36 i := fun i => rfl
  have y37 : ∀ i, xClN x.1 37 i = if i < 384 then 0 else x.1 37 i := fun i => rfl
  have y25 : ∀ i, xClN x.1 25 i = if i < 4 then 0 else x.1 25 i := fun i => rfl
  have y27 : ∀ i, xClN x.1 27 i = if i < 16 then 0 else x.1 27 i := fun i => rfl
  have y29 : ∀ i, xClN x.1 29 i = if i < 16 then 0 else x.1 29 i := fun i => rfl
  have j6 : ∀ i, xClJ x.2 6 i = if i < 16 then 0 else x.2 6 i := fun i => rfl
  have j7 : ∀ i, xClJ x.2 7 i = if i < 256 then 0 else x.2 7 i := fun i => rfl
  have y11 : ∀ i, xClJ x.2 11 i = if i < 16 then xClJ x.2 6 i else x.2 11 i := fun i => rfl
  have y12 : ∀ i, xClJ x.2 12 i = if i < 256 then xClJ x.2 7 i else x.2 12 i := fun i => rfl
  have w18 : ∀ j, j < 3 → mAgN (mClN m.1) 18 j = 0 := fun j hj => (g 18 j (by decide) (by decide)).trans (if_pos hj)
  have w19 : ∀ j, j < 16 → mAgN (mClN m.1) 19 j = 0 := fun j hj => (g 19 j (by decide) (by decide)).trans (if_pos hj)
  have w21 : ∀ j, j < 16 → mAgN (mClN m.1) 21 j = 0 := fun j hj => (g 21 j (by decide) (by decide)).trans (if_pos hj)
  refine rObs_fresh (x := (xClN x.1, xClJ x.2)) (m := mClear m) ⟨fun p hp => ?_, fun k hk => ?_, ?_, ?_, fun j hj => ?_, fun j hj => ?_⟩ (fun p hp => ?_) (fun k hk => ?_) (fun k hk => ?_) (by show 1 ≤ 1 ∧ 1 ≤ 4; decide) rfl rfl rfl rfl (fun w hw => (y25 w).trans (if_pos hw)) (fun w hw => (y27 w).trans (if_pos hw)) (fun w hw => (y29 w).trans (if_pos hw)) rfl rfl rfl rfl (fun w hw => (y36 w).trans (if_pos hw)) (fun w hw => (y37 w).trans (if_pos hw)) (fun w hw => (y11 w).trans (if_pos hw)) (fun w hw => (y12 w).trans (if_pos hw))
    (g 8 0 (by decide) (by decide)) (g 11 0 (by decide) (by decide)) (g 12 0 (by decide) (by decide)) (g 13 0 (by decide) (by decide)) (g 14 0 (by decide) (by decide)) (g 15 0 (by decide) (by decide)) (g 16 0 (by decide) (by decide)) (g 17 0 (by decide) (by decide)) w18 w19 w21 (fun k hk => (u1 24 k).trans (if_pos ⟨rfl, hk⟩)) (fun k hk => (u1 22 _).trans ((if_neg (fun z => absurd z.1 (by decide))).trans (if_pos ⟨rfl, by omega, by omega⟩))) (fun k hk => ?_)
    (fun j hj => (f6 j hj).trans (f4 j hj).symm) (fun j hj => (f9 j hj).trans (f4 j hj).symm) (fun j hj => (f7 j hj).trans (f5 j hj).symm) (fun j hj => (f10 j hj).trans (f5 j hj).symm)
  · show mAgN (mClN m.1) 0 _ = xClN x.1 0 p ∧ mAgN (mClN m.1) 0 _ = xClN x.1 1 p ∧ mAgN (mClN m.1) 0 _ = xClN x.1 2 p ∧ mAgN (mClN m.1) 0 _ = xClN x.1 3 p
    rw [g0 _ (by omega), g0 _ (by omega), g0 _ (by omega), g0 _ (by omega), y0, y1, y2, y3, if_pos hp, if_pos hp, if_pos hp, if_pos hp]
    exact ⟨rfl, rfl, rfl, rfl⟩
  · show mAgN (mClN m.1) 1 _ = xClN x.1 4 k ∧ mAgN (mClN m.1) 2 _ = xClN x.1 5 k
    rw [g1 k hk, g2 k hk, y4, y5, if_pos hk, if_pos hk]
    exact ⟨rfl, rfl⟩
  · exact (g 3 0 (by decide) (by decide))
  · exact g1 4 (by decide)
  · exact (f4 j hj).trans ((j6 j).trans (if_pos hj)).symm
  · exact (f5 j hj).trans ((j7 j).trans (if_pos hj)).symm
  · show xClN x.1 0 p ≤ 18 ∧ xClN x.1 1 p < 16 ∧ xClN x.1 2 p < 16 ∧ xClN x.1 3 p < 4294967296
    rw [y0, y1, y2, y3, if_pos hp, if_pos hp, if_pos hp, if_pos hp]
    decide
  · show 1 ≤ xClN x.1 4 k ∧ xClN x.1 4 k ≤ 3
    rw [y4, if_pos hk]
    decide
  · show 1 ≤ xClN x.1 5 k ∧ xClN x.1 5 k ≤ 30
    rw [y5, if_pos hk]
    rcases (show k = 0 ∨ k = 1 ∨ k = 2 ∨ k = 3 ∨ k = 4 ∨ k = 5 by omega) with z | z | z | z | z | z <;> subst z <;> decide
  · have e : (mClear m).1 22 (7 * k + 6) = m.1 22 (7 * k + 6) := (u1 22 _).trans ((if_neg (fun z => absurd z.1 (by decide))).trans (if_neg (fun z => by omega)))
    rw [e]
    exact h26 k hk
