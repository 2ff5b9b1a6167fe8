/-! one cycle -/
theorem rHin {x m : gSt} (hB : rBase x m) (hc : ¬ mCode m.1 = 0) (hbg : mBeg m.1 ≤ x.1 22 0) (h1 : 1 ≤ x.1 22 0) : (xHin x.1 = 0 → mT m.1 ≤ x.1 22 0) ∧ (xHin x.1 ≠ 0 → x.1 22 0 < mT m.1 ∧ ((xHin x.1 = 1 ∧ x.1 22 0 ≤ m.1 16 0) ∨ (xHin x.1 = 2 ∧ m.1 16 0 < x.1 22 0 ∧ x.1 22 0 ≤ mUW m.1 (kdN (mCode m.1))) ∨ (xHin x.1 = 3 ∧ m.1 16 0 < x.1 22 0 ∧ mUW m.1 (kdN (mCode m.1)) < x.1 22 0 ∧ x.1 22 0 ≤ mSW m.1))) := by
  obtain ⟨hS, hC, hI, hM, hV⟩ := hB
  obtain ⟨e1, e2, e3, e4⟩ := rEq hS hC hI.1
  have hp := hI.1.2 _ hI.1.1
  have hcd : xCode x.1 ≤ 18 := hp.1
  have hu := rUW hS hC hI (kdN (xCode x.1)) (kdN_lt _)
  have c3 := hC.2.2.1
  have w27 : m.1 19 (xD x.1) = x.1 27 (xD x.1) := (hC.2.2.2.2.1 _ hp.2.1).1
  have hf := xFr_or x.1 (kdN (xCode x.1))
  have hsw : mSW m.1 = if xCode x.1 < 15 then x.1 27 (xD x.1) else 0 := by
    unfold mSW
    rw [e1, e2, w27]
  have hTd : mT m.1 = max (max (max (mBeg m.1) (m.1 16 0 + 1)) (mUW m.1 (kdN (mCode m.1)) + 1)) (mSW m.1 + 1) := rfl
  rw [hTd, e1, hsw, c3]
  rw [e1] at hc
  generalize mUW m.1 (kdN (xCode x.1)) = a1 at *
  generalize mBeg m.1 = b at *
  unfold xHin
  by_cases z1 : x.1 22 0 ≤ x.1 33 0
  · rw [if_pos z1]
    refine ⟨fun z => absurd z (by decide), fun _ => ⟨by omega, Or.inl ⟨rfl, z1⟩⟩⟩
  · rw [if_neg z1]
    by_cases z2 : xFr x.1 (kdN (xCode x.1)) = 4294967295
    · rw [if_pos z2]
      have := hu.1 z2
      refine ⟨fun z => absurd z (by decide), fun _ => ⟨by omega, Or.inr (Or.inl ⟨rfl, by omega, this⟩)⟩⟩
    · rw [if_neg z2]
      have h2 := hu.2 (by omega)
      by_cases z3 : xWD (xCode x.1) ∧ x.1 22 0 ≤ x.1 27 (xD x.1)
      · rw [if_pos z3]
        have h15 : xCode x.1 < 15 := by omega
        rw [if_pos h15]
        refine ⟨fun z => absurd z (by decide), fun _ => ⟨by omega, Or.inr (Or.inr ⟨rfl, by omega, h2, z3.2⟩)⟩⟩
      · rw [if_neg z3]
        refine ⟨fun _ => ?_, fun z => absurd rfl z⟩
        by_cases h15 : xCode x.1 < 15
        · rw [if_pos h15]
          have : x.1 27 (xD x.1) < x.1 22 0 := by omega
          omega
        · rw [if_neg h15]
          omega
theorem rBase_25 {x m : gSt} (h : rBase x m) (i v : Nat) : rBase (uN x.1 25 i v, x.2) m := h
theorem rBase_23 {x m : gSt} (h : rBase x m) (v : Nat) : rBase (uN x.1 23 0 v, x.2) m := h
theorem mHalt_gt {m : gSt} (hM : mInv m.1) (h : m.1 13 0 ≠ 0) : m.1 14 0 < mHalt m := by
  have := (hM.2.2.2.2.1 h).2.2.2
  unfold mHalt
  omega
theorem xLp_sim : ∀ (n i : Nat) (x m : gSt), rMid x m i → i + n = x.1 8 0 → ∃ m', mPath m m' (x.1 22 0) ∧ rEnd (xLp n x) m'
  | 0, i, x, m, h, hi => by
    obtain ⟨hB, hSt, hc1, h23, h0, h1⟩ := h
    have hM := hB.2.2.2.1
    have hw := hB.2.2.1.2.2.2.1
    have hi0 : i ≠ 0 := by omega
    obtain ⟨a1, a2, a3⟩ := h1 hi0
    have h3 : m.1 3 0 = x.1 8 0 := hB.1.2.2.1
    have hbg : mBeg m.1 = x.1 22 0 + 1 := by
      rw [mBeg_of a3, if_neg (by omega), a1]
    have hT := (mT_ge m.1).1
    have hH := mHalt_gt hM a3
    refine ⟨m, mPath_0 m _, hB, fun w hw3 => ?_, by show m.1 14 0 ≤ x.1 22 0; omega, fun _ _ => by show x.1 22 0 < _; omega, fun _ _ => by show x.1 22 0 < _; omega, fun z => absurd h23 z⟩
    show x.1 25 (w + 1) = _
    rw [hSt w hw3, mWt_none (show x.1 22 0 - 1 < mBeg m.1 by omega), mWt_none (show (xLp 0 x).1 22 0 < mBeg m.1 by show x.1 22 0 < _; omega)]
  | n + 1, i, x, m, h, hi => by
    obtain ⟨hB, hSt, hc1, h23, h0, h1⟩ := h
    have hS := hB.1
    have hC := hB.2.1
    have hI := hB.2.2.1
    have hM := hB.2.2.2.1
    have e1 := (rEq hS hC hI.1).1
    have h3 : m.1 3 0 = x.1 8 0 := hS.2.2.1
    have hbge := mBeg_ge hM
    have hbg : mBeg m.1 ≤ x.1 22 0 := by
      by_cases z : i = 0
      · have := (h0 z).1
        unfold mBeg
        split
        · omega
        · split <;> omega
      · obtain ⟨a1, a2, a3⟩ := h1 z
        rw [mBeg_of a3, if_pos (by omega), a1]
        exact Nat.le_refl _
    have h14 : m.1 14 0 ≤ x.1 22 0 := by omega
    by_cases hc : mCode m.1 = 0
    · have hcx : xCode x.1 = 0 := by rw [← e1]; exact hc
      have e : xLp (n + 1) x = (uN x.1 23 0 (if x.1 34 0 < x.1 22 0 then 1 else 0), x.2) := if_pos hcx
      rw [e]
      have h17 : m.1 17 0 = x.1 34 0 := hC.2.2.2.1
      have hge : x.1 22 0 ≤ mHalt m := by
        by_cases z : i = 0
        · exact (h0 z).2.2 hc
        · have := mHalt_gt hM (h1 z).2.2
          have := (h1 z).1
          omega
      have hH : mHalt m = max (max 1 (m.1 14 0)) (m.1 17 0 + 1) := rfl
      refine ⟨m, mPath_0 m _, rBase_23 hB _, fun w hw3 => ?_, h14, fun _ z => absurd hc z, fun z _ => ?_, fun z => ⟨hc, ?_⟩⟩
      · have z := hSt w hw3
        rw [if_pos hc] at z ⊢
        exact z
      · have z : (if x.1 34 0 < x.1 22 0 then 1 else 0 : Nat) = 0 := z
        show x.1 22 0 < _
        have : ¬ x.1 34 0 < x.1 22 0 := b0 z
        omega
      · have z : (if x.1 34 0 < x.1 22 0 then 1 else 0 : Nat) ≠ 0 := z
        show _ = x.1 22 0
        have : x.1 34 0 < x.1 22 0 := b1 z
        omega
    · have hcx : ¬ xCode x.1 = 0 := by rw [← e1]; exact hc
      obtain ⟨r0, r1⟩ := rHin hB hc hbg hc1
      by_cases hh : xHin x.1 = 0
      · have hTc : mT m.1 = x.1 22 0 := by
          have := r0 hh
          have hT := (mT_ge m.1).1
          by_cases z : i = 0
          · have := (h0 z).2.1 hc
            omega
          · obtain ⟨a1, a2, a3⟩ := h1 z
            rw [mBeg_of a3, if_pos (by omega), a1] at hT
            omega
        rw [xLp_iss hcx hh]
        have hf := (xHin_0 hh).2.1
        have x22 : (xIss x).1 22 = x.1 22 := xIss_o x (by decide) (by decide) (by decide)
        have x23 : (xIss x).1 23 = x.1 23 := xIss_o x (by decide) (by decide) (by decide)
        have x25 : (xIss x).1 25 = x.1 25 := xIss_o x (by decide) (by decide) (by decide)
        have x8 : (xIss x).1 8 = x.1 8 := xIss_o x (by decide) (by decide) (by decide)
        have m3 : (mIss m (x.1 22 0)).1 3 = m.1 3 := mIss_o m (by decide) (by decide)
        have hB' : rBase (xIss x) (mIss m (x.1 22 0)) := by
          refine ⟨rSet_iss _ hS, rCor_iss hS hC hI (by omega) hf, xInv_iss hI hf, mInv_iss hM (by omega) hbg, ?_⟩
          rw [x22]
          exact rVal_iss hS hC hI hM (by omega) hh hB.2.2.2.2
        have n13 : (mIss m (x.1 22 0)).1 13 0 ≠ 0 := by rw [mIss_13]; omega
        have hMid : rMid (xIss x) (mIss m (x.1 22 0)) (i + 1) := by
          refine ⟨hB', fun w hw3 => ?_, by rw [x22]; exact hc1, by rw [x23]; exact h23, fun z => absurd z (Nat.succ_ne_zero i), fun _ => ⟨by rw [mIss_14, x22], ?_, n13⟩⟩
          · have hb' : x.1 22 0 - 1 < mBeg (mIss m (x.1 22 0)).1 := by
              rw [mBeg_of n13, mIss_14]
              split <;> omega
            rw [x25, x22, hSt w hw3, if_neg hc, mIss_18 m _ w hw3, mWt_none hb']
            split <;> omega
          · rw [mIss_15]
            by_cases z : i = 0
            · have := (h0 z).1
              rw [if_neg (by omega), z]
            · obtain ⟨a1, a2, a3⟩ := h1 z
              rw [if_pos a1.symm, a2]
        obtain ⟨m', hp, he⟩ := xLp_sim n (i + 1) (xIss x) (mIss m (x.1 22 0)) hMid (by rw [x8]; omega)
        rw [x22] at hp
        refine ⟨m', mPath_t ?_ hp (Nat.le_refl _), he⟩
        have := mPath_1 (b := x.1 22 0) hc (by omega)
        rw [hTc] at this
        exact this
      · obtain ⟨hT, hcase⟩ := r1 hh
        have e : xLp (n + 1) x = (uN x.1 25 (xHin x.1) (x.1 25 (xHin x.1) + 1), x.2) := by
          show (if xCode x.1 = 0 then _ else if xHin x.1 ≠ 0 then _ else xLp n (xIss x)) = _
          rw [if_neg hcx, if_pos hh]
        rw [e]
        refine ⟨m, mPath_0 m _, rBase_25 hB _ _, fun w hw3 => ?_, h14, fun _ _ => hT, fun _ z => absurd z hc, fun z => absurd h23 z⟩
        show uN x.1 25 (xHin x.1) (x.1 25 (xHin x.1) + 1) 25 (w + 1) = _
        rw [uN_s, if_neg hc]
        have hst := hSt w hw3
        rw [if_neg hc] at hst
        have hstep := mWt_step hbg hbge.1 hcase w hw3
        show _ = m.1 18 w + mWt m.1 w (x.1 22 0)
        rw [hstep]
        by_cases z : w + 1 = xHin x.1
        · rw [if_pos z, if_pos z.symm, ← z, hst]
          omega
        · rw [if_neg z, if_neg (fun y => z y.symm), hst]
          omega
theorem rVal_mono {x m : gSt} {c c' : Nat} (h : rVal x m c) (hc : c ≤ c') : rVal x m c' := by
  obtain ⟨v1, v2, v3, v4, v5, v6, v7, v8⟩ := h
  exact ⟨v1, v2, v3, v4, v5, fun k hk ho => Nat.le_trans (v6 k hk ho) hc, fun j hj => (v7 j hj).imp id (fun z => Nat.le_trans z hc), v8.imp id (fun z => Nat.le_trans z hc)⟩
theorem xCyc_sim {x m : gSt} (h : rEnd x m) (h23 : x.1 23 0 = 0) : ∃ m', mPath m m' (x.1 22 0 + 1) ∧ rEnd (xCyc x) m' := by
  obtain ⟨⟨hS, hC, hI, hM, hV⟩, hSt, h14, hT, hH, -⟩ := h
  have hmid : rMid (uN x.1 22 0 (x.1 22 0 + 1), x.2) m 0 := by
    refine ⟨⟨hS, hC, xInv_22 hI, hM, rVal_mono (c := x.1 22 0) hV (by show x.1 22 0 ≤ x.1 22 0 + 1; omega)⟩, hSt, by show 1 ≤ x.1 22 0 + 1; omega, h23, fun _ => ⟨by show _ < x.1 22 0 + 1; omega, fun z => by show x.1 22 0 + 1 ≤ _; have := hT h23 z; omega, fun z => by show x.1 22 0 + 1 ≤ _; have := hH h23 z; omega⟩, fun z => absurd rfl z⟩
  exact xLp_sim (x.1 8 0) 0 _ m hmid (by show 0 + x.1 8 0 = x.1 8 0; omega)
