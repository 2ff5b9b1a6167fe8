/-! both issue alike -/
theorem mIss_J (u : gSt) (t : Nat) : (mIss u t).2 = (mI6 u.1 u.2 t (uN (mX5 u t) 24 (mU u.1 t) 1, uJ (mC u t).2 23 (mU u.1 t) (mV u.1 u.2))).2 := rfl
theorem mC_J (u : gSt) {t f : Nat} (h : f ≠ 9) (h2 : f ≠ 10) : (mC u t).2 f = u.2 f := by
  unfold mC
  rw [mCA_J t _ f h h2 18]
theorem mI6_J6 (N : Nat → Nat → Nat) (J : Nat → Nat → Int64) (t : Nat) (Y : Nat → Nat → Nat) (K : Nat → Nat → Int64) (j : Nat) : (mI6 N J t (Y, K)).2 6 j = if mCode N < 15 ∧ j = mD N then mV N J else K 6 j := by
  unfold mI6
  by_cases h : mCode N < 15
  · rw [if_pos h]
    show uJ K 6 (mD N) (mV N J) 6 j = _
    rw [uJ_s]
    by_cases hj : j = mD N
    · rw [if_pos hj, if_pos ⟨h, hj⟩]
    · rw [if_neg hj, if_neg (fun z => hj z.2)]
  · rw [if_neg h, if_neg (show ¬ (mCode N < 15 ∧ j = mD N) from fun z => h z.1)]
    split
    · rfl
    · rfl
theorem mI6_J7 (N : Nat → Nat → Nat) (J : Nat → Nat → Int64) (t : Nat) (Y : Nat → Nat → Nat) (K : Nat → Nat → Int64) (j : Nat) : (mI6 N J t (Y, K)).2 7 j = if mCode N = 15 ∧ j = clN (J 6 (mA N) + (nI (mBB N)).toInt64) then mV N J else K 7 j := by
  unfold mI6
  by_cases h : mCode N < 15
  · rw [if_pos h, if_neg (show ¬ (mCode N = 15 ∧ j = clN (J 6 (mA N) + (nI (mBB N)).toInt64)) from fun z => by omega)]
    rfl
  · rw [if_neg h]
    by_cases h2 : mCode N = 15
    · rw [if_pos h2]
      show uJ K 7 (clN (J 6 (mA N) + (nI (mBB N)).toInt64)) (mV N J) 7 j = _
      rw [uJ_s]
      by_cases hj : j = clN (J 6 (mA N) + (nI (mBB N)).toInt64)
      · rw [if_pos hj, if_pos ⟨h2, hj⟩]
      · rw [if_neg hj, if_neg (fun z => hj z.2)]
    · rw [if_neg h2, if_neg (show ¬ (mCode N = 15 ∧ j = clN (J 6 (mA N) + (nI (mBB N)).toInt64)) from fun z => h2 z.1)]
theorem mI6_Jo (N : Nat → Nat → Nat) (J : Nat → Nat → Int64) (t : Nat) (Y : Nat → Nat → Nat) (K : Nat → Nat → Int64) {f : Nat} (h1 : f ≠ 6) (h2 : f ≠ 7) : (mI6 N J t (Y, K)).2 f = K f := by
  unfold mI6
  split
  · exact uJ_o h1
  · split
    · exact uJ_o h2
    · rfl
theorem mIss_Jo (u : gSt) {t f : Nat} (h : f ≠ 6 ∧ f ≠ 7 ∧ f ≠ 23) : (mIss u t).2 f = (mC u t).2 f := by
  rw [mIss_J, mI6_Jo _ _ _ _ _ h.1 h.2.1, uJ_o h.2.2]
theorem mIss_J6 (u : gSt) (t j : Nat) : (mIss u t).2 6 j = if mCode u.1 < 15 ∧ j = mD u.1 then mV u.1 u.2 else u.2 6 j := by
  rw [mIss_J, mI6_J6, uJ_o (by decide), mC_J u (by decide) (by decide)]
theorem mIss_J7 (u : gSt) (t j : Nat) : (mIss u t).2 7 j = if mCode u.1 = 15 ∧ j = clN (u.2 6 (mA u.1) + (nI (mBB u.1)).toInt64) then mV u.1 u.2 else u.2 7 j := by
  rw [mIss_J, mI6_J7, uJ_o (by decide), mC_J u (by decide) (by decide)]
theorem mIss_J23 (u : gSt) (t k : Nat) : (mIss u t).2 23 k = if k = mU u.1 t then mV u.1 u.2 else u.2 23 k := by
  rw [mIss_J, mI6_Jo _ _ _ _ _ (by decide) (by decide), uJ_s, mC_J u (by decide) (by decide)]
theorem opV_mem {k : Nat} {x b n d : Int64} {f g : Nat → Int64} (h : ∀ j, j < 256 → f j = g j) : opV k x b n d f = opV k x b n d g := by
  have e : f (clN (x + n)) = g (clN (x + n)) := h _ (clN_lt _)
  unfold opV
  rw [e]
theorem rEq {x m : gSt} (hS : rSet x m) (hC : rCor x m) (hx : xG0 x.1) : mCode m.1 = xCode x.1 ∧ mD m.1 = xD x.1 ∧ mA m.1 = xA x.1 ∧ mBB m.1 = xBB x.1 := by
  have h8 := hC.1
  have hp := hS.1 (x.1 13 0) hx.1
  unfold mCode mD mA mBB xCode xD xA xBB
  rw [h8]
  exact hp
theorem rEqV {x m : gSt} (hS : rSet x m) (hC : rCor x m) (hx : xG0 x.1) : mV m.1 m.2 = xV x.1 x.2 ∧ mNx m.1 m.2 = xNx x.1 x.2 ∧ clN (m.2 6 (mA m.1) + (nI (mBB m.1)).toInt64) = xCl x.1 x.2 := by
  obtain ⟨e1, e2, e3, e4⟩ := rEq hS hC hx
  have hp := hx.2 _ hx.1
  obtain ⟨c1, c2, c3, c4, c5, c6, c7, c8, c9⟩ := hC
  have jA : m.2 6 (xA x.1) = x.2 11 (xA x.1) := c8 _ hp.2.2.1
  have jB : m.2 6 (xBB x.1 % 16) = x.2 11 (xBB x.1 % 16) := c8 _ (by omega)
  have jD : m.2 6 (xD x.1) = x.2 11 (xD x.1) := c8 _ hp.2.1
  refine ⟨?_, ?_, ?_⟩
  · unfold mV xV
    rw [e1, e2, e3, e4, jA, jB, jD]
    exact opV_mem c9
  · unfold mNx xNx
    rw [e1, e3, e4, jA, c1]
  · unfold xCl
    rw [e3, e4, jA]
theorem rEqT {x m : gSt} (hS : rSet x m) (hC : rCor x m) (hx : xG0 x.1) (hc : 1 ≤ xCode x.1) : mR3 m.1 (x.1 22 0) = xa3 x.1 + 1 ∧ mDn m.1 (x.1 22 0) = xDn x.1 ∧ mWn m.1 (x.1 22 0) = xWn x.1 := by
  obtain ⟨e1, e2, e3, e4⟩ := rEq hS hC hx
  have hp := hx.2 _ hx.1
  have hcd : xCode x.1 ≤ 18 := hp.1
  obtain ⟨c1, c2, c3, c4, c5, c6, c7, c8, c9⟩ := hC
  have jA : m.1 19 (xA x.1) = x.1 27 (xA x.1) := (c5 _ hp.2.2.1).1
  have jB : m.1 19 (xBB x.1 % 16) = x.1 27 (xBB x.1 % 16) := (c5 _ (by omega)).1
  have jD : m.1 19 (xD x.1) = x.1 27 (xD x.1) := (c5 _ hp.2.1).1
  have jR : m.1 21 (xD x.1) = x.1 29 (xD x.1) := (c5 _ hp.2.1).2.1
  have jl : m.1 2 (kdN (xCode x.1)) = x.1 5 (kdN (xCode x.1)) := (hS.2.1 _ (kdN_lt _)).2
  have f1 : mR1 m.1 (x.1 22 0) = xa1 x.1 + 1 := by
    unfold mR1 xa1
    rw [e1, e3, jA]
    by_cases z : xRA (xCode x.1)
    · rw [if_pos (by omega), if_pos z]
      omega
    · rw [if_neg (by omega), if_neg z]
  have f2 : mR2 m.1 (x.1 22 0) = xa2 x.1 + 1 := by
    unfold mR2 xa2
    rw [f1, e1, e4, jB]
    by_cases z : xRB (xCode x.1)
    · rw [if_pos (by omega), if_pos z]
      omega
    · rw [if_neg (by omega), if_neg z]
  have f3 : mR3 m.1 (x.1 22 0) = xa3 x.1 + 1 := by
    unfold mR3 xa3
    rw [f2, e1, e2, jD]
    split <;> omega
  have f4 : mDn m.1 (x.1 22 0) = xDn x.1 := by
    unfold mDn xDn
    rw [f3, e1, jl]
  refine ⟨f3, f4, ?_⟩
  unfold mWn xWn
  rw [f4, e1, e2, jR]
  by_cases z : xWD (xCode x.1)
  · rw [if_pos (by omega), if_pos z]
  · rw [if_neg (by omega), if_neg z]
theorem rEqW {x m : gSt} (hC : rCor x m) (k i : Nat) (hk : k < 6) (hi : i < 3) : m.1 22 (7 * (3 * k + i) + 5) = x.1 36 ((k * 3 + i) * 6 + 5) := by
  have h := (hC.2.2.2.2.2.1 (3 * k + i) (by omega)).1
  rw [h]
  exact congrArg (x.1 36) (by omega)
theorem rEqU {x m : gSt} (hS : rSet x m) (hC : rCor x m) (hx : xG0 x.1) (hf : xFr x.1 (kdN (xCode x.1)) ≤ 2) : mU m.1 (x.1 22 0) = xU x.1 := by
  obtain ⟨e1, e2, e3, e4⟩ := rEq hS hC hx
  have hk := kdN_lt (xCode x.1)
  have w0 := rEqW hC (kdN (xCode x.1)) 0 hk (by decide)
  have w1 := rEqW hC (kdN (xCode x.1)) 1 hk (by decide)
  have w2 := rEqW hC (kdN (xCode x.1)) 2 hk (by decide)
  unfold mU xU mFr
  rw [e1, w0, w1]
  have hfe : xFr x.1 (kdN (xCode x.1)) = if x.1 36 ((kdN (xCode x.1) * 3 + 0) * 6 + 5) < x.1 22 0 then 0 else if x.1 36 ((kdN (xCode x.1) * 3 + 1) * 6 + 5) < x.1 22 0 then 1 else 2 := by
    unfold xFr at hf ⊢
    revert hf
    (repeat' split) <;> intro hf <;> omega
  rw [hfe]
  omega
theorem rSet_iss {x m : gSt} (t : Nat) (hS : rSet x m) : rSet (xIss x) (mIss m t) := by
  obtain ⟨s1, s2, s3, s4, s5, s6⟩ := hS
  unfold rSet
  rw [show (mIss m t).1 0 = m.1 0 from mIss_o m (by decide) (by decide), show (mIss m t).1 1 = m.1 1 from mIss_o m (by decide) (by decide), show (mIss m t).1 2 = m.1 2 from mIss_o m (by decide) (by decide), show (mIss m t).1 3 = m.1 3 from mIss_o m (by decide) (by decide)]
  rw [show (xIss x).1 0 = x.1 0 from xIss_o x (by decide) (by decide) (by decide), show (xIss x).1 1 = x.1 1 from xIss_o x (by decide) (by decide) (by decide), show (xIss x).1 2 = x.1 2 from xIss_o x (by decide) (by decide) (by decide), show (xIss x).1 3 = x.1 3 from xIss_o x (by decide) (by decide) (by decide), show (xIss x).1 4 = x.1 4 from xIss_o x (by decide) (by decide) (by decide), show (xIss x).1 5 = x.1 5 from xIss_o x (by decide) (by decide) (by decide), show (xIss x).1 8 = x.1 8 from xIss_o x (by decide) (by decide) (by decide)]
  rw [show (mIss m t).2 4 = m.2 4 by rw [mIss_Jo m (by decide), mC_J m (by decide) (by decide)], show (mIss m t).2 5 = m.2 5 by rw [mIss_Jo m (by decide), mC_J m (by decide) (by decide)], show (xIss x).2 6 = x.2 6 from xIss_Jo x (by decide) (by decide), show (xIss x).2 7 = x.2 7 from xIss_Jo x (by decide) (by decide)]
  exact ⟨s1, s2, s3, s4, s5, s6⟩
theorem xIss_36c (x : gSt) (k c : Nat) (hc : c < 6) : (xIss x).1 36 (6 * k + c) = if k = xU x.1 then xS1 x.1 35 c else x.1 36 (6 * k + c) := by
  rw [xIss_36]
  by_cases z : k = xU x.1
  · rw [if_pos (by omega), if_pos z, show 6 * k + c - xU x.1 * 6 = c by omega]
  · rw [if_neg (by omega), if_neg z]
theorem xIss_37c (x : gSt) (k c : Nat) (hc : c < 6) : (xIss x).1 37 (6 * k + c) = if k = x.1 24 0 % 64 then xS1 x.1 35 c else x.1 37 (6 * k + c) := by
  rw [xIss_37]
  by_cases z : k = x.1 24 0 % 64
  · rw [if_pos (by omega), if_pos z, show 6 * k + c - x.1 24 0 % 64 * 6 = c by omega]
  · rw [if_neg (by omega), if_neg z]
theorem rCor_iss {x m : gSt} (hS : rSet x m) (hC : rCor x m) (hI : xInv x.1) (hc : 1 ≤ xCode x.1) (hf : xFr x.1 (kdN (xCode x.1)) ≤ 2) : rCor (xIss x) (mIss m (x.1 22 0)) := by
  have hx := hI.1
  obtain ⟨e1, e2, e3, e4⟩ := rEq hS hC hx
  obtain ⟨eV, eX, eL⟩ := rEqV hS hC hx
  obtain ⟨eR, eD, eW⟩ := rEqT hS hC hx hc
  have eU := rEqU hS hC hx hf
  have hp := hx.2 _ hx.1
  have hcd : xCode x.1 ≤ 18 := hp.1
  have hkd : kdN (xCode x.1) ≠ 5 ∧ xCode x.1 ≠ 15 ↔ xCode x.1 < 15 := by
    unfold kdN
    (repeat' split) <;> omega
  obtain ⟨c1, c2, c3, c4, c5, c6, c7, c8, c9⟩ := hC
  refine ⟨?_, ?_, ?_, ?_, ?_, ?_, ?_, ?_, ?_⟩
  · rw [mIss_8, xIss_13, eX]
  · rw [mIss_13, xIss_24, c2]
  · rw [mIss_16, xIss_33, e1, eW, c3]
  · rw [mIss_17, xIss_34, eW, c4]
  · intro j hj
    obtain ⟨d1, d2, d3⟩ := c5 j hj
    rw [mIss_19, xIss_27, mIss_21, xIss_29, mIss_20, xIss_26, e1, e2, e3, e4, eR, eW, d1, d2, c2]
    refine ⟨?_, ?_, ?_⟩
    · by_cases z : xCode x.1 < 15 ∧ j = xD x.1
      · rw [if_pos z, if_pos ⟨hkd.mpr z.1, z.2⟩]
      · rw [if_neg z, if_neg (fun y => z ⟨hkd.mp y.1, y.2⟩)]
    · by_cases z : (xRA (xCode x.1) ∧ j = xA x.1) ∨ (xRB (xCode x.1) ∧ j = xBB x.1 % 16) ∨ (xCode x.1 = 15 ∧ j = xD x.1)
      · rw [if_pos z, if_pos (by omega)]
      · rw [if_neg z, if_neg (by omega)]
    · intro hn
      by_cases z : xCode x.1 < 15 ∧ j = xD x.1
      · rw [if_pos z, if_pos ⟨hkd.mpr z.1, z.2⟩]
      · rw [if_neg z, if_neg (fun y => z ⟨hkd.mp y.1, y.2⟩)]
        rw [if_neg z] at hn
        exact d3 (by rw [d1]; exact hn)
  · intro k hk
    obtain ⟨d1, d2⟩ := c6 k hk
    have x0 : (xIss x).1 36 (6 * k) = if k = xU x.1 then xS1 x.1 35 0 else x.1 36 (6 * k) := xIss_36c x k 0 (by decide)
    rw [mIss_22, mIss_22, mIss_22, mIss_22, mIss_22, mI4_5, mI4_0, mI4_1, mI4_3, mI4_4, x0, xIss_36c x k 5 (by decide), xIss_36c x k 1 (by decide), xIss_36c x k 3 (by decide), xIss_36c x k 4 (by decide), eU, eW, eR, eD]
    by_cases z : k = xU x.1
    · simp only [if_pos z]
      refine ⟨rfl, fun _ => ⟨c1, c2, rfl, rfl⟩⟩
    · simp only [if_neg z]
      exact ⟨d1, d2⟩
  · intro s hs hsm c hc6
    rw [mIss_13] at hsm
    rw [mIss_25, xIss_37c x s c hc6, ← c2]
    have key : mI5 m.1 m.1 (x.1 22 0) 25 (6 * s + c) = if s = m.1 13 0 % 64 then xS1 x.1 35 c else m.1 25 (6 * s + c) := by
      rcases (show c = 0 ∨ c = 1 ∨ c = 2 ∨ c = 3 ∨ c = 4 ∨ c = 5 by omega) with z | z | z | z | z | z <;> subst z
      · rw [mI5_0, c1]
        rfl
      · rw [mI5_1, c2]
        rfl
      · rw [mI5_2]
        rfl
      · rw [mI5_3, eR]
        rfl
      · rw [mI5_4, eD]
        rfl
      · rw [mI5_5, eW]
        rfl
    rw [key]
    by_cases z : s = m.1 13 0 % 64
    · rw [if_pos z, if_pos z]
    · rw [if_neg z, if_neg z]
      refine c7 s hs ?_ c hc6
      omega
  · intro j hj
    rw [mIss_J6, xIss_J11, e1, e2, eV, c8 j hj]
    by_cases z : xCode x.1 < 15 ∧ j = xD x.1
    · rw [if_pos z, if_pos (show xWD (xCode x.1) ∧ j = xD x.1 from ⟨⟨hc, by omega⟩, z.2⟩)]
    · rw [if_neg z, if_neg (show ¬ (xWD (xCode x.1) ∧ j = xD x.1) from fun y => z ⟨by omega, y.2⟩)]
  · intro j hj
    rw [mIss_J7, xIss_J12, e1, eL, eV, c9 j hj]
    by_cases z : xCode x.1 = 15 ∧ j = xCl x.1 x.2
    · rw [if_pos z, if_pos z]
      unfold xV
      rw [z.1]
      rfl
    · rw [if_neg z, if_neg z]
