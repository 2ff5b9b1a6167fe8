/-! the run of both -/
theorem xGo_sim : ∀ (n : Nat) (x m : gSt), rEnd x m → x.1 24 0 ≤ 4 * x.1 22 0 → x.1 23 0 < 2 → ∃ m', mPath m m' (x.1 22 0 + (xGo n x).2) ∧ rEnd (xGo n x).1 m' ∧ (xGo n x).1.1 22 0 = x.1 22 0 + (xGo n x).2 ∧ (xGo n x).2 ≤ n ∧ ((xGo n x).2 < n → (xGo n x).1.1 23 0 ≠ 0) ∧ (xGo n x).1.1 24 0 ≤ 4 * (xGo n x).1.1 22 0 ∧ (xGo n x).1.1 23 0 < 2
  | 0, x, m, h, h24, h23 => ⟨m, mPath_0 m _, h, rfl, Nat.le_refl 0, fun z => absurd z (Nat.lt_irrefl 0), h24, h23⟩
  | n + 1, x, m, h, h24, h23 => by
    by_cases z : x.1 23 0 = 0
    · rw [xGo_next z]
      obtain ⟨m1, p1, r1⟩ := xCyc_sim h z
      have hI := h.1.2.2.1
      obtain ⟨i1, i2, i3, i4⟩ := xCyc_inv (u := x) hI h24 h23
      obtain ⟨m', p', r', a1, a2, a3, a4, a5⟩ := xGo_sim n (xCyc x) m1 r1 (by rw [i2]; exact i3) i4
      rw [i2] at p' a1
      refine ⟨m', mPath_t p1 (by rw [show x.1 22 0 + ((xGo n (xCyc x)).2 + 1) = x.1 22 0 + 1 + (xGo n (xCyc x)).2 by omega]; exact p') (by omega), r', by show (xGo n (xCyc x)).1.1 22 0 = _; rw [a1]; omega, by show (xGo n (xCyc x)).2 + 1 ≤ n + 1; omega, fun y => a3 (by have y : (xGo n (xCyc x)).2 + 1 < n + 1 := y; omega), a4, a5⟩
    · rw [xGo_over z]
      exact ⟨m, mPath_0 m _, h, rfl, Nat.zero_le _, fun _ => z, h24, h23⟩
/-- more fuel changes nothing -/
theorem mGo_fuel {last : Nat} : ∀ (a b : Nat) (u : gSt), mInv u.1 → mMu last u < a → mMu last u < b → mGo last a u = mGo last b u
  | 0, b, u, _, h, _ => absurd h (Nat.not_lt_zero _)
  | a + 1, 0, u, _, _, h => absurd h (Nat.not_lt_zero _)
  | a + 1, b + 1, u, hI, ha, hb => by
    by_cases z : mCode u.1 = 0 ∨ last < mT u.1
    · rw [mGo_stop z, mGo_stop z]
    · have e1 : mGo last (a + 1) u = mGo last a (mIss u (mT u.1)) := if_neg z
      have e2 : mGo last (b + 1) u = mGo last b (mIss u (mT u.1)) := if_neg z
      have hm := mMu_lt (last := last) hI (by omega)
      rw [e1, e2]
      exact mGo_fuel a b _ (mInv_iss hI (by omega) (mT_ge _).1) (by omega) (by omega)
theorem mGo_path {m m' : gSt} {b last : Nat} (hI : mInv m.1) (hp : mPath m m' b) (hb : b ≤ last) (hs : mCode m'.1 = 0 ∨ last < mT m'.1) : mGo last (mMu last m + 1) m = m' := by
  obtain ⟨k, hk⟩ := hp
  rw [mGo_fuel (mMu last m + 1) (mMu last m + 1 + k) m hI (by omega) (by omega), hk last hb, mGo_stop hs]
theorem mIss_12 (u : gSt) (t : Nat) : (mIss u t).1 12 = u.1 12 := mIss_o u (by decide) (by decide)
theorem mGo_12 {last : Nat} : ∀ (n : Nat) (u : gSt), (mGo last n u).1 12 = u.1 12
  | 0, u => rfl
  | n + 1, u => by
    by_cases z : mCode u.1 = 0 ∨ last < mT u.1
    · rw [mGo_stop z]
    · have e1 : mGo last (n + 1) u = mGo last n (mIss u (mT u.1)) := if_neg z
      rw [e1, mGo_12 n, mIss_12]
/-- at rest, between two calls -/
def rObs (x m : gSt) : Prop := rEnd x m ∧ m.1 11 0 = x.1 22 0 ∧ m.1 12 0 = x.1 23 0 ∧ x.1 23 0 < 2 ∧ x.1 24 0 ≤ 4 * x.1 22 0 ∧ (∀ k, k < 18 → m.1 24 k ≠ 0 → x.1 22 0 < m.1 22 (7 * k + 5))
theorem mCA_inv {t : Nat} {m : gSt} (n : Nat) (h : mInv m.1) : mInv (mCA t n m).1 := by
  have hN := fun f hf => mCA_N t m f hf n
  have hz := mCA_z t m h.2.2.2.2.2.2.2.2.2.2.2.1 n
  obtain ⟨h0, h1, h2, h3, h4, h5, h6, h7, h8, h9, h10, h11, h12⟩ := h
  generalize mCA t n m = M at *
  unfold mInv mG0
  rw [hN 0 (by decide), hN 8 (by decide), hN 1 (by decide), hN 2 (by decide), hN 3 (by decide), hN 13 (by decide), hN 14 (by decide), hN 15 (by decide), hN 17 (by decide), hN 16 (by decide), hN 19 (by decide), hN 21 (by decide), hN 22 (by decide)]
  exact ⟨h0, h1, h2, h3, h4, h5, h6, h7, h8, h9, h10, hz, h12⟩
theorem rEnd_CA {x m : gSt} (h : rEnd x m) (n : Nat) (hn : n ≤ 18) : rEnd x (mCA (x.1 22 0 + 1) n m) := by
  have hN := fun f hf => mCA_N (x.1 22 0 + 1) m f hf n
  have hJ := fun f h1 h2 => mCA_J (x.1 22 0 + 1) m f h1 h2 n
  obtain ⟨⟨hS, hC, hI, hM, hV⟩, hSt, h14, hT, hH, hO⟩ := h
  have hto := hM.2.2.2.2.2.2.2.2.2.2.2.2
  have h30 : x.1 30 0 < 256 := hI.2.2.2.2.2.2.2.2.1
  have hV' := rVal_CA (t := x.1 22 0 + 1) hV (Nat.le_refl _) hto h30 n hn
  have hM' := mCA_inv (t := x.1 22 0 + 1) n hM
  generalize mCA (x.1 22 0 + 1) n m = M at *
  have eC : mCode M.1 = mCode m.1 := by unfold mCode; rw [hN 0 (by decide), hN 8 (by decide)]
  have eD : mD M.1 = mD m.1 := by unfold mD; rw [hN 0 (by decide), hN 8 (by decide)]
  have eB : mBeg M.1 = mBeg m.1 := by unfold mBeg; rw [hN 13 (by decide), hN 15 (by decide), hN 3 (by decide), hN 14 (by decide)]
  have eU : ∀ k, mUW M.1 k = mUW m.1 k := fun k => by unfold mUW; rw [hN 1 (by decide), hN 22 (by decide)]
  have eS : mSW M.1 = mSW m.1 := by unfold mSW; rw [eC, eD, hN 19 (by decide)]
  have eT : mT M.1 = mT m.1 := by unfold mT; rw [eB, eC, eU, eS, hN 16 (by decide)]
  have eH : mHalt M = mHalt m := by unfold mHalt; rw [hN 14 (by decide), hN 17 (by decide)]
  have eW : ∀ w l, mWt M.1 w l = mWt m.1 w l := fun w l => by unfold mWt mHigh mLow; rw [eB, eC, eU, eS, hN 16 (by decide)]
  refine ⟨⟨?_, ?_, hI, hM', hV'⟩, ?_, ?_, ?_, ?_, ?_⟩
  · unfold rSet
    rw [hN 0 (by decide), hN 1 (by decide), hN 2 (by decide), hN 3 (by decide), hJ 4 (by decide) (by decide), hJ 5 (by decide) (by decide)]
    exact hS
  · unfold rCor
    rw [hN 8 (by decide), hN 13 (by decide), hN 16 (by decide), hN 17 (by decide), hN 19 (by decide), hN 20 (by decide), hN 21 (by decide), hN 22 (by decide), hN 25 (by decide), hJ 6 (by decide) (by decide), hJ 7 (by decide) (by decide)]
    exact hC
  · unfold rStall
    rw [hN 18 (by decide), eC]
    intro w hw
    rw [eW]
    exact hSt w hw
  · rw [hN 14 (by decide)]
    exact h14
  · rw [eC, eT]
    exact hT
  · rw [eC, eH]
    exact hH
  · rw [eC, eH]
    exact hO
theorem rEnd_26 {x m : gSt} (h : rEnd x m) (v : Nat) : rEnd x (uN m.1 26 0 v, m.2) := h
theorem rEnd_11 {x m : gSt} (h : rEnd x m) (v : Nat) : rEnd x (uN m.1 11 0 v, m.2) := h
theorem rEnd_12 {x m : gSt} (h : rEnd x m) (v : Nat) : rEnd x (uN m.1 12 0 v, m.2) := h
theorem rObs_run {x m : gSt} {n : Nat} (h : rObs x m) (h0 : x.1 23 0 = 0) : rObs (xGo n x).1 (mRunS m n) ∧ (mE m n).2 = x.1 22 0 + (xGo n x).2 ∧ (xGo n x).1.1 22 0 = x.1 22 0 + (xGo n x).2 ∧ (xGo n x).2 ≤ n := by
  obtain ⟨hE, h11, h12, h23, h24, hop⟩ := h
  obtain ⟨m', hp, hr, a1, a2, a3, a4, a5⟩ := xGo_sim n x (uN m.1 26 0 0, m.2) (rEnd_26 hE 0) h24 h23
  have hI0 : mInv (uN m.1 26 0 0) := hE.1.2.2.2.1
  have hstop : mCode m'.1 = 0 ∨ m.1 11 0 + n < mT m'.1 := by
    by_cases z : mCode m'.1 = 0
    · exact Or.inl z
    · right
      by_cases y : (xGo n x).1.1 23 0 = 0
      · have hw : (xGo n x).2 = n := Classical.byContradiction fun w => a3 (by omega) y
        have := hr.2.2.2.1 y z
        rw [a1, hw] at this
        rw [h11]
        exact this
      · exact absurd (hr.2.2.2.2.2 y).1 z
  have hZ : mZ m n = m' := mGo_path hI0 hp (by rw [h11]; omega) hstop
  have h12' : m'.1 12 0 = 0 := by
    rw [← hZ]
    unfold mZ
    rw [mGo_12]
    show m.1 12 0 = 0
    rw [h12]
    exact h0
  have hEd : mE m n = if (xGo n x).1.1 23 0 = 0 then (if mCode m'.1 = 0 then ((uN m'.1 12 0 0, m'.2), x.1 22 0 + (xGo n x).2) else (m', x.1 22 0 + (xGo n x).2)) else ((uN m'.1 12 0 1, m'.2), x.1 22 0 + (xGo n x).2) := by
    unfold mE mEnd
    rw [hZ, h11]
    by_cases y : (xGo n x).1.1 23 0 = 0
    · have hw : (xGo n x).2 = n := Classical.byContradiction fun w => a3 (by omega) y
      rw [if_pos y]
      by_cases z : mCode m'.1 = 0
      · have := hr.2.2.2.2.1 y z
        rw [a1, hw] at this
        rw [if_pos z, if_pos z, if_neg (by omega), hw]
      · rw [if_neg z, if_neg z, hw]
    · obtain ⟨z1, z2⟩ := hr.2.2.2.2.2 y
      rw [a1] at z2
      rw [if_neg y, if_pos z1, if_pos (by omega), z2]
  have hE2 : (mE m n).2 = x.1 22 0 + (xGo n x).2 := by
    rw [hEd]
    split
    · split <;> rfl
    · rfl
  have hE12 : (mE m n).1.1 12 0 = (xGo n x).1.1 23 0 := by
    rw [hEd]
    by_cases y : (xGo n x).1.1 23 0 = 0
    · rw [if_pos y, y]
      split
      · rfl
      · exact h12'
    · rw [if_neg y]
      show 1 = _
      omega
  have hE1 : rEnd (xGo n x).1 (mE m n).1 := by
    rw [hEd]
    split
    · split
      · exact rEnd_12 hr 0
      · exact hr
    · exact rEnd_12 hr 1
  have hE11 : rEnd (xGo n x).1 (uN (mE m n).1.1 11 0 (mE m n).2, (mE m n).1.2) := rEnd_11 hE1 _
  refine ⟨?_, hE2, a1, a2⟩
  unfold mRunS
  rw [hE2, ← a1] at *
  generalize (mE m n).1 = E at *
  have hR := rEnd_CA hE11 18 (Nat.le_refl 18)
  have k11 : (mCA ((xGo n x).1.1 22 0 + 1) 18 (uN E.1 11 0 ((xGo n x).1.1 22 0), E.2)).1 11 0 = (xGo n x).1.1 22 0 := by rw [mCA_N _ _ 11 (by decide) 18]; exact uN_h E.1 11 0 _
  have k12 : (mCA ((xGo n x).1.1 22 0 + 1) 18 (uN E.1 11 0 ((xGo n x).1.1 22 0), E.2)).1 12 0 = (xGo n x).1.1 23 0 := by rw [mCA_N _ _ 12 (by decide) 18]; exact hE12
  have ko : ∀ k, k < 18 → (mCA ((xGo n x).1.1 22 0 + 1) 18 (uN E.1 11 0 ((xGo n x).1.1 22 0), E.2)).1 24 k ≠ 0 → (xGo n x).1.1 22 0 < (mCA ((xGo n x).1.1 22 0 + 1) 18 (uN E.1 11 0 ((xGo n x).1.1 22 0), E.2)).1 22 (7 * k + 5) := by
    intro k hk ho
    have := mCA_open 18 k hk ho
    rw [mCA_N _ _ 22 (by decide) 18]
    exact this
  exact ⟨hR, k11, k12, a5, a4, ko⟩
