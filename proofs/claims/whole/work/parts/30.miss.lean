/-! the reference's issue, field by field -/
theorem mI7_o {N X : Nat → Nat → Nat} {t f : Nat} (h : f ≠ 16) : mI7 N X t f = X f := by
  unfold mI7
  split
  · exact uN_o h
  · rfl
theorem mI8_o {N X : Nat → Nat → Nat} {t f : Nat} (h1 : f ≠ 13) (h2 : f ≠ 14) (h3 : f ≠ 15) (h4 : f ≠ 17) : mI8 N X t f = X f := by
  unfold mI8
  rw [uN_o h1, uN_o h2, uN_o h3, uN_o h4]
theorem mI6_o {N : Nat → Nat → Nat} {J : Nat → Nat → Int64} {t f : Nat} {X : gSt} (h1 : f ≠ 19) (h2 : f ≠ 20) : (mI6 N J t X).1 f = X.1 f := by
  unfold mI6
  split
  · show uN (uN X.1 19 _ _) 20 _ _ f = _
    rw [uN_o h2, uN_o h1]
  · split <;> rfl
theorem mI5_o {N X : Nat → Nat → Nat} {t f : Nat} (h : f ≠ 25) : mI5 N X t f = X f := by
  unfold mI5
  rw [uN_o h, uN_o h, uN_o h, uN_o h, uN_o h, uN_o h]
theorem mI4_o {N X : Nat → Nat → Nat} {J : Nat → Nat → Int64} {t U f : Nat} (h : f ≠ 22) : mI4 N X J t U f = X f := by
  unfold mI4
  rw [uN_o h, uN_o h, uN_o h, uN_o h, uN_o h, uN_o h, uN_o h]
theorem mI1_o {N : Nat → Nat → Nat} {t f : Nat} (h : f ≠ 18) : mI1 N t f = N f := by
  unfold mI1
  rw [uN_o h, uN_o h, uN_o h]
theorem mC_o (u : gSt) {t f : Nat} (h : f ≠ 24) (h2 : f ≠ 18) : (mC u t).1 f = u.1 f := by
  unfold mC
  rw [mCA_N t _ f h 18]
  exact mI1_o h2
theorem mX5_o (u : gSt) {t f : Nat} (h8 : f ≠ 8) (h25 : f ≠ 25) (h22 : f ≠ 22) (h21 : f ≠ 21) : mX5 u t f = (mC u t).1 f := by
  unfold mX5
  rw [uN_o h8, mI5_o h25, mI4_o h22, mI3c_o h21, mI3b_o h21, mI3a_o h21]
theorem mIss_6 (u : gSt) {t f : Nat} (h : f ≠ 13 ∧ f ≠ 14 ∧ f ≠ 15 ∧ f ≠ 17 ∧ f ≠ 16) : (mIss u t).1 f = (mX6 u t).1 f := by
  show mI8 _ _ _ f = _
  rw [mI8_o h.1 h.2.1 h.2.2.1 h.2.2.2.1, mI7_o h.2.2.2.2]
theorem mIss_5 (u : gSt) {t f : Nat} (h : f ≠ 13 ∧ f ≠ 14 ∧ f ≠ 15 ∧ f ≠ 17 ∧ f ≠ 16 ∧ f ≠ 19 ∧ f ≠ 20) : (mIss u t).1 f = uN (mX5 u t) 24 (mU u.1 t) 1 f := by
  rw [mIss_6 u ⟨h.1, h.2.1, h.2.2.1, h.2.2.2.1, h.2.2.2.2.1⟩]
  unfold mX6
  rw [mI6_o h.2.2.2.2.2.1 h.2.2.2.2.2.2]
theorem mIss_o (u : gSt) {t f : Nat} (h : f ≠ 13 ∧ f ≠ 14 ∧ f ≠ 15 ∧ f ≠ 17 ∧ f ≠ 16 ∧ f ≠ 19 ∧ f ≠ 20) (h2 : f ≠ 24 ∧ f ≠ 8 ∧ f ≠ 25 ∧ f ≠ 22 ∧ f ≠ 21 ∧ f ≠ 18) : (mIss u t).1 f = u.1 f := by
  rw [mIss_5 u h, uN_o h2.1, mX5_o u h2.2.1 h2.2.2.1 h2.2.2.2.1 h2.2.2.2.2.1, mC_o u h2.1 h2.2.2.2.2.2]
theorem mIss_13 (u : gSt) (t : Nat) : (mIss u t).1 13 0 = u.1 13 0 + 1 := rfl
theorem mIss_14 (u : gSt) (t : Nat) : (mIss u t).1 14 0 = t := rfl
theorem mIss_15 (u : gSt) (t : Nat) : (mIss u t).1 15 0 = if t = u.1 14 0 then u.1 15 0 + 1 else 1 := rfl
theorem mIss_17 (u : gSt) (t : Nat) : (mIss u t).1 17 0 = max (u.1 17 0) (mWn u.1 t) := rfl
theorem mIss_16 (u : gSt) (t : Nat) : (mIss u t).1 16 0 = if kdN (mCode u.1) = 5 then mWn u.1 t else u.1 16 0 := by
  show mI8 u.1 (mI7 u.1 (mX6 u t).1 t) t 16 0 = _
  rw [mI8_o (by decide) (by decide) (by decide) (by decide)]
  unfold mI7
  split
  · exact uN_h _ _ _ _
  · unfold mX6
    rw [mI6_o (by decide) (by decide)]
    show uN (mX5 u t) 24 (mU u.1 t) 1 16 0 = _
    rw [uN_o (by decide), mX5_o u (by decide) (by decide) (by decide) (by decide), mC_o u (by decide) (by decide)]
theorem mIss_8 (u : gSt) (t : Nat) : (mIss u t).1 8 0 = mNx u.1 u.2 := by
  rw [mIss_5 u (by decide), uN_o (by decide)]
  exact uN_h _ _ _ _
theorem mIss_18 (u : gSt) (t w : Nat) (hw : w < 3) : (mIss u t).1 18 w = u.1 18 w + mWt u.1 w (t - 1) := by
  rw [mIss_5 u (by decide), uN_o (by decide), mX5_o u (by decide) (by decide) (by decide) (by decide)]
  unfold mC
  rw [mCA_N t _ 18 (by decide) 18]
  rcases (show w = 0 ∨ w = 1 ∨ w = 2 by omega) with h | h | h <;> subst h <;> rfl
theorem mIss_19 (u : gSt) (t j : Nat) : (mIss u t).1 19 j = if mCode u.1 < 15 ∧ j = mD u.1 then mWn u.1 t else u.1 19 j := by
  have e : mX5 u t 19 j = u.1 19 j := by rw [mX5_o u (by decide) (by decide) (by decide) (by decide), mC_o u (by decide) (by decide)]
  rw [mIss_6 u (by decide)]
  unfold mX6 mI6
  by_cases h : mCode u.1 < 15
  · rw [if_pos h]
    show uN (uN (uN (mX5 u t) 24 (mU u.1 t) 1) 19 (mD u.1) (mWn u.1 t)) 20 (mD u.1) (u.1 13 0) 19 j = _
    rw [uN_o (by decide), uN_s]
    by_cases hj : j = mD u.1
    · rw [if_pos hj, if_pos ⟨h, hj⟩]
    · rw [if_neg hj, if_neg (fun z => hj z.2)]
      show uN (mX5 u t) 24 (mU u.1 t) 1 19 j = _
      rw [uN_o (by decide), e]
  · rw [if_neg h, if_neg (show ¬ (mCode u.1 < 15 ∧ j = mD u.1) from fun z => h z.1)]
    split
    · show uN (mX5 u t) 24 (mU u.1 t) 1 19 j = _
      rw [uN_o (by decide), e]
    · show uN (mX5 u t) 24 (mU u.1 t) 1 19 j = _
      rw [uN_o (by decide), e]
theorem mIss_20 (u : gSt) (t j : Nat) : (mIss u t).1 20 j = if mCode u.1 < 15 ∧ j = mD u.1 then u.1 13 0 else u.1 20 j := by
  have e : mX5 u t 20 j = u.1 20 j := by rw [mX5_o u (by decide) (by decide) (by decide) (by decide), mC_o u (by decide) (by decide)]
  rw [mIss_6 u (by decide)]
  unfold mX6 mI6
  by_cases h : mCode u.1 < 15
  · rw [if_pos h]
    show uN (uN (uN (mX5 u t) 24 (mU u.1 t) 1) 19 (mD u.1) (mWn u.1 t)) 20 (mD u.1) (u.1 13 0) 20 j = _
    rw [uN_s]
    by_cases hj : j = mD u.1
    · rw [if_pos hj, if_pos ⟨h, hj⟩]
    · rw [if_neg hj, if_neg (fun z => hj z.2), uN_o (by decide)]
      show uN (mX5 u t) 24 (mU u.1 t) 1 20 j = _
      rw [uN_o (by decide), e]
  · rw [if_neg h, if_neg (show ¬ (mCode u.1 < 15 ∧ j = mD u.1) from fun z => h z.1)]
    split
    · show uN (mX5 u t) 24 (mU u.1 t) 1 20 j = _
      rw [uN_o (by decide), e]
    · show uN (mX5 u t) 24 (mU u.1 t) 1 20 j = _
      rw [uN_o (by decide), e]
abbrev rdA (k : Nat) : Prop := k ≠ 6 ∧ k ≠ 18
abbrev rdB (k : Nat) : Prop := k < 6 ∨ (7 < k ∧ k < 14)
theorem uN_mx {X : Nat → Nat → Nat} {i r j : Nat} {p : Prop} [Decidable p] : (if p then uN X 21 i (max (X 21 i) r) else X) 21 j = if p ∧ j = i then max (X 21 j) r else X 21 j := by
  by_cases h : p
  · rw [if_pos h, uN_s]
    by_cases hj : j = i
    · rw [if_pos hj, if_pos ⟨h, hj⟩, hj]
    · rw [if_neg hj, if_neg (fun z => hj z.2)]
  · rw [if_neg h, if_neg (fun z => h z.1)]
theorem mx3 {p1 p2 p3 : Prop} [Decidable p1] [Decidable p2] [Decidable p3] {v r : Nat} : (if p3 then max (if p2 then max (if p1 then max v r else v) r else if p1 then max v r else v) r else if p2 then max (if p1 then max v r else v) r else if p1 then max v r else v) = if p1 ∨ p2 ∨ p3 then max v r else v := by
  by_cases h1 : p1 <;> by_cases h2 : p2 <;> by_cases h3 : p3 <;> simp only [h1, h2, h3, if_true, if_false, true_or, or_true, or_false] <;> omega
theorem mIss_21 (u : gSt) (t j : Nat) : (mIss u t).1 21 j = if (rdA (mCode u.1) ∧ j = mA u.1) ∨ (rdB (mCode u.1) ∧ j = mBB u.1 % 16) ∨ (mCode u.1 = 15 ∧ j = mD u.1) then max (u.1 21 j) (mR3 u.1 t) else u.1 21 j := by
  rw [mIss_5 u (by decide), uN_o (by decide)]
  unfold mX5
  rw [uN_o (by decide), mI5_o (by decide), mI4_o (by decide)]
  have e : (mC u t).1 21 j = u.1 21 j := by rw [mC_o u (by decide) (by decide)]
  generalize mR3 u.1 t = r
  generalize (mC u t).1 = X at e
  unfold mI3c
  rw [uN_mx]
  unfold mI3b
  rw [uN_mx]
  unfold mI3a
  rw [uN_mx, e]
  generalize u.1 21 j = v
  exact mx3
theorem mIss_22 (u : gSt) (t i : Nat) : (mIss u t).1 22 i = mI4 u.1 u.1 u.2 t (mU u.1 t) 22 i := by
  rw [mIss_5 u (by decide), uN_o (by decide)]
  unfold mX5
  rw [uN_o (by decide), mI5_o (by decide)]
  have e : mI3c u.1 (mI3b u.1 (mI3a u.1 (mC u t).1 (mR3 u.1 t)) (mR3 u.1 t)) (mR3 u.1 t) 22 = u.1 22 := by
    rw [mI3c_o (by decide), mI3b_o (by decide), mI3a_o (by decide), mC_o u (by decide) (by decide)]
  generalize mI3c u.1 (mI3b u.1 (mI3a u.1 (mC u t).1 (mR3 u.1 t)) (mR3 u.1 t)) (mR3 u.1 t) = X at e
  unfold mI4
  simp only [uN_s, e]
theorem mIss_24 (u : gSt) (t k : Nat) : (mIss u t).1 24 k = if k = mU u.1 t then 1 else (mC u t).1 24 k := by
  rw [mIss_5 u (by decide), uN_s]
  split
  · rfl
  · rw [mX5_o u (by decide) (by decide) (by decide) (by decide)]
theorem mIss_25 (u : gSt) (t i : Nat) : (mIss u t).1 25 i = mI5 u.1 u.1 t 25 i := by
  rw [mIss_5 u (by decide), uN_o (by decide)]
  unfold mX5
  rw [uN_o (by decide)]
  have e : mI4 u.1 (mI3c u.1 (mI3b u.1 (mI3a u.1 (mC u t).1 (mR3 u.1 t)) (mR3 u.1 t)) (mR3 u.1 t)) u.2 t (mU u.1 t) 25 = u.1 25 := by
    rw [mI4_o (by decide), mI3c_o (by decide), mI3b_o (by decide), mI3a_o (by decide), mC_o u (by decide) (by decide)]
  generalize mI4 u.1 (mI3c u.1 (mI3b u.1 (mI3a u.1 (mC u t).1 (mR3 u.1 t)) (mR3 u.1 t)) (mR3 u.1 t)) u.2 t (mU u.1 t) = X at e
  unfold mI5
  simp only [uN_s, e]
