theorem mI4_0 {N X : Nat → Nat → Nat} {J : Nat → Nat → Int64} {t U k : Nat} : mI4 N X J t U 22 (7 * k) = if k = U then N 8 0 else X 22 (7 * k) := by
  unfold mI4
  simp only [uN_s]
  by_cases h : k = U
  · subst h
    rw [if_pos rfl]
    (repeat' split) <;> first | rfl | (exfalso; omega)
  · rw [if_neg h]
    (repeat' split) <;> first | rfl | (exfalso; omega)
theorem mI4_1 {N X : Nat → Nat → Nat} {J : Nat → Nat → Int64} {t U k : Nat} : mI4 N X J t U 22 (7 * k + 1) = if k = U then N 13 0 else X 22 (7 * k + 1) := by
  unfold mI4
  simp only [uN_s]
  by_cases h : k = U
  · subst h
    rw [if_pos rfl]
    (repeat' split) <;> first | rfl | (exfalso; omega)
  · rw [if_neg h]
    (repeat' split) <;> first | rfl | (exfalso; omega)
theorem mI4_2 {N X : Nat → Nat → Nat} {J : Nat → Nat → Int64} {t U k : Nat} : mI4 N X J t U 22 (7 * k + 2) = if k = U then t else X 22 (7 * k + 2) := by
  unfold mI4
  simp only [uN_s]
  by_cases h : k = U
  · subst h
    rw [if_pos rfl]
    (repeat' split) <;> first | rfl | (exfalso; omega)
  · rw [if_neg h]
    (repeat' split) <;> first | rfl | (exfalso; omega)
theorem mI4_3 {N X : Nat → Nat → Nat} {J : Nat → Nat → Int64} {t U k : Nat} : mI4 N X J t U 22 (7 * k + 3) = if k = U then mR3 N t else X 22 (7 * k + 3) := by
  unfold mI4
  simp only [uN_s]
  by_cases h : k = U
  · subst h
    rw [if_pos rfl]
    (repeat' split) <;> first | rfl | (exfalso; omega)
  · rw [if_neg h]
    (repeat' split) <;> first | rfl | (exfalso; omega)
theorem mI4_4 {N X : Nat → Nat → Nat} {J : Nat → Nat → Int64} {t U k : Nat} : mI4 N X J t U 22 (7 * k + 4) = if k = U then mDn N t else X 22 (7 * k + 4) := by
  unfold mI4
  simp only [uN_s]
  by_cases h : k = U
  · subst h
    rw [if_pos rfl]
    (repeat' split) <;> first | rfl | (exfalso; omega)
  · rw [if_neg h]
    (repeat' split) <;> first | rfl | (exfalso; omega)
theorem mI4_5 {N X : Nat → Nat → Nat} {J : Nat → Nat → Int64} {t U k : Nat} : mI4 N X J t U 22 (7 * k + 5) = if k = U then mWn N t else X 22 (7 * k + 5) := by
  unfold mI4
  simp only [uN_s]
  by_cases h : k = U
  · subst h
    rw [if_pos rfl]
    (repeat' split) <;> first | rfl | (exfalso; omega)
  · rw [if_neg h]
    (repeat' split) <;> first | rfl | (exfalso; omega)
theorem mI4_6 {N X : Nat → Nat → Nat} {J : Nat → Nat → Int64} {t U k : Nat} : mI4 N X J t U 22 (7 * k + 6) = if k = U then mTo N J else X 22 (7 * k + 6) := by
  unfold mI4
  simp only [uN_s]
  by_cases h : k = U
  · subst h
    rw [if_pos rfl]
    (repeat' split) <;> first | rfl | (exfalso; omega)
  · rw [if_neg h]
    (repeat' split) <;> first | rfl | (exfalso; omega)
theorem mI5_0 {N X : Nat → Nat → Nat} {t k : Nat} : mI5 N X t 25 (6 * k + 0) = if k = N 13 0 % 64 then N 8 0 else X 25 (6 * k + 0) := by
  unfold mI5
  simp only [uN_s]
  by_cases h : k = N 13 0 % 64
  · subst h
    rw [if_pos rfl]
    (repeat' split) <;> first | rfl | (exfalso; omega)
  · rw [if_neg h]
    (repeat' split) <;> first | rfl | (exfalso; omega)
theorem mI5_1 {N X : Nat → Nat → Nat} {t k : Nat} : mI5 N X t 25 (6 * k + 1) = if k = N 13 0 % 64 then N 13 0 else X 25 (6 * k + 1) := by
  unfold mI5
  simp only [uN_s]
  by_cases h : k = N 13 0 % 64
  · subst h
    rw [if_pos rfl]
    (repeat' split) <;> first | rfl | (exfalso; omega)
  · rw [if_neg h]
    (repeat' split) <;> first | rfl | (exfalso; omega)
theorem mI5_2 {N X : Nat → Nat → Nat} {t k : Nat} : mI5 N X t 25 (6 * k + 2) = if k = N 13 0 % 64 then t else X 25 (6 * k + 2) := by
  unfold mI5
  simp only [uN_s]
  by_cases h : k = N 13 0 % 64
  · subst h
    rw [if_pos rfl]
    (repeat' split) <;> first | rfl | (exfalso; omega)
  · rw [if_neg h]
    (repeat' split) <;> first | rfl | (exfalso; omega)
theorem mI5_3 {N X : Nat → Nat → Nat} {t k : Nat} : mI5 N X t 25 (6 * k + 3) = if k = N 13 0 % 64 then mR3 N t else X 25 (6 * k + 3) := by
  unfold mI5
  simp only [uN_s]
  by_cases h : k = N 13 0 % 64
  · subst h
    rw [if_pos rfl]
    (repeat' split) <;> first | rfl | (exfalso; omega)
  · rw [if_neg h]
    (repeat' split) <;> first | rfl | (exfalso; omega)
theorem mI5_4 {N X : Nat → Nat → Nat} {t k : Nat} : mI5 N X t 25 (6 * k + 4) = if k = N 13 0 % 64 then mDn N t else X 25 (6 * k + 4) := by
  unfold mI5
  simp only [uN_s]
  by_cases h : k = N 13 0 % 64
  · subst h
    rw [if_pos rfl]
    (repeat' split) <;> first | rfl | (exfalso; omega)
  · rw [if_neg h]
    (repeat' split) <;> first | rfl | (exfalso; omega)
theorem mI5_5 {N X : Nat → Nat → Nat} {t k : Nat} : mI5 N X t 25 (6 * k + 5) = if k = N 13 0 % 64 then mWn N t else X 25 (6 * k + 5) := by
  unfold mI5
  simp only [uN_s]
  by_cases h : k = N 13 0 % 64
  · subst h
    rw [if_pos rfl]
    (repeat' split) <;> first | rfl | (exfalso; omega)
  · rw [if_neg h]
    (repeat' split) <;> first | rfl | (exfalso; omega)
/-- what holds of the reference's numbers at all times -/
def mInv (N : Nat → Nat → Nat) : Prop := mG0 N ∧ (∀ k, k < 6 → 1 ≤ N 1 k ∧ N 1 k ≤ 3) ∧ (∀ k, k < 6 → 1 ≤ N 2 k ∧ N 2 k ≤ 30) ∧ (1 ≤ N 3 0 ∧ N 3 0 ≤ 4)
  ∧ (N 13 0 ≠ 0 → 1 ≤ N 14 0 ∧ 1 ≤ N 15 0 ∧ N 13 0 + 4 ≤ 4 * N 14 0 + N 15 0 ∧ N 14 0 < N 17 0) ∧ (N 13 0 = 0 → N 14 0 = 0 ∧ N 15 0 = 0 ∧ N 17 0 = 0) ∧ N 15 0 ≤ N 3 0 ∧ N 17 0 ≤ N 14 0 + 32 * N 13 0
  ∧ N 16 0 ≤ N 17 0 ∧ (∀ j, j < 16 → N 19 j ≤ N 17 0 ∧ N 21 j ≤ N 17 0) ∧ (∀ k, k < 18 → N 22 (7 * k + 5) ≤ N 17 0) ∧ (∀ k, k < 18 → N 24 k < 2) ∧ (∀ k, k < 18 → N 22 (7 * k + 6) = 4294967295 ∨ N 22 (7 * k + 6) < 272)
theorem mInv_G {N : Nat → Nat → Nat} (h : mInv N) (hb : N 14 0 ≤ 2000000) : mG N := by
  obtain ⟨h0, h1, h2, h3, h4, h5, h6, h7, h8, h9, h10, h11, h12⟩ := h
  have hm : N 13 0 ≤ 4 * N 14 0 := by
    rcases Nat.eq_zero_or_pos (N 13 0) with z | z
    · omega
    · have := h4 (by omega)
      omega
  refine ⟨h0, h1, fun k hk => (h2 k hk).2, h3, ⟨by omega, by omega, by omega, by omega, by omega, fun z => (h4 z).1⟩, fun j hj => ?_, fun k hk => ?_⟩
  · have := h9 j hj
    omega
  · have := h10 k hk
    omega
theorem mBeg_ge {N : Nat → Nat → Nat} (h : mInv N) : 1 ≤ mBeg N ∧ N 14 0 ≤ mBeg N := by
  obtain ⟨h0, h1, h2, h3, h4, h5, h6, h7, h8, h9, h10, h11, h12⟩ := h
  unfold mBeg
  split
  · rename_i z
    have := h5 z
    omega
  · rename_i z
    have := h4 z
    split <;> omega
theorem mW_bd {N : Nat → Nat → Nat} (h : mInv N) (t : Nat) : t + 1 ≤ mR3 N t ∧ mR3 N t + 2 ≤ mWn N t ∧ mR3 N t + 1 ≤ mDn N t ∧ mDn N t + 1 ≤ mWn N t ∧ mWn N t ≤ max t (N 17 0) + 32 := by
  obtain ⟨h0, h1, h2, h3, h4, h5, h6, h7, h8, h9, h10, h11, h12⟩ := h
  have hp := h0.2 _ h0.1
  have hA := h9 (mA N) hp.2.2.1
  have hB := h9 (mBB N % 16) (by omega)
  have hD := h9 (mD N) hp.2.1
  have hl := h2 (kdN (mCode N)) (kdN_lt _)
  have e1 : t + 1 ≤ mR1 N t ∧ mR1 N t ≤ max t (N 17 0) + 1 := by unfold mR1; split <;> omega
  have e2 : t + 1 ≤ mR2 N t ∧ mR2 N t ≤ max t (N 17 0) + 1 := by unfold mR2; split <;> omega
  have e3 : t + 1 ≤ mR3 N t ∧ mR3 N t ≤ max t (N 17 0) + 1 := by unfold mR3; split <;> omega
  have e4 : mDn N t = mR3 N t + N 2 (kdN (mCode N)) := rfl
  have e5 : mDn N t + 1 ≤ mWn N t ∧ mWn N t ≤ max t (N 17 0) + 32 := by unfold mWn; split <;> omega
  omega
theorem mInv_iss {u : gSt} {t : Nat} (h : mInv u.1) (hc : 1 ≤ mCode u.1) (hb : mBeg u.1 ≤ t) : mInv (mIss u t).1 := by
  have hg := mBeg_ge h
  have hw := mW_bd h t
  have hI := h
  obtain ⟨h0, h1, h2, h3, h4, h5, h6, h7, h8, h9, h10, h11, h12⟩ := h
  have hp := h0.2 _ h0.1
  have o0 : (mIss u t).1 0 = u.1 0 := mIss_o u (by decide) (by decide)
  have o1 : (mIss u t).1 1 = u.1 1 := mIss_o u (by decide) (by decide)
  have o2 : (mIss u t).1 2 = u.1 2 := mIss_o u (by decide) (by decide)
  have o3 : (mIss u t).1 3 = u.1 3 := mIss_o u (by decide) (by decide)
  have e13 := mIss_13 u t
  have e14 := mIss_14 u t
  have e15 := mIss_15 u t
  have e17 := mIss_17 u t
  have hbg : u.1 13 0 ≠ 0 → t = u.1 14 0 → u.1 15 0 < u.1 3 0 := by
    intro z1 z2
    unfold mBeg at hb
    rw [if_neg z1] at hb
    split at hb <;> omega
  have hm0 : t = u.1 14 0 → u.1 13 0 ≠ 0 := fun z1 z2 => by have := h5 z2; omega
  refine ⟨⟨?_, ?_⟩, ?_, ?_, ?_, ?_, ?_, ?_, ?_, ?_, ?_, ?_, ?_, ?_⟩
  · rw [mIss_8]
    unfold mNx nxP
    split <;> omega
  · rw [o0]
    exact h0.2
  · rw [o1]
    exact h1
  · rw [o2]
    exact h2
  · rw [o3]
    exact h3
  · intro _
    rw [e13, e14, e15, e17]
    by_cases z : t = u.1 14 0
    · rw [if_pos z]
      have := h4 (hm0 z)
      omega
    · rw [if_neg z]
      rcases Nat.eq_zero_or_pos (u.1 13 0) with y | y
      · omega
      · have := h4 (by omega)
        omega
  · intro z
    rw [e13] at z
    omega
  · rw [e15, o3]
    by_cases z : t = u.1 14 0
    · rw [if_pos z]
      have := hbg (hm0 z) z
      omega
    · rw [if_neg z]
      omega
  · rw [e17, e14, e13]
    omega
  · rw [mIss_16, e17]
    split <;> omega
  · intro j hj
    have := h9 j hj
    rw [mIss_19, mIss_21, e17]
    constructor
    · split <;> omega
    · split <;> omega
  · intro k hk
    have := h10 k hk
    rw [mIss_22, mI4_5, e17]
    split <;> omega
  · intro k hk
    rw [mIss_24]
    split
    · decide
    · unfold mC
      exact mCA_z t (mI1 u.1 t, u.2) h11 18 k hk
  · intro k hk
    rw [mIss_22, mI4_6]
    split
    · unfold mTo mCl
      have hcl := clN_lt (u.2 6 (mA u.1) + (nI (mBB u.1)).toInt64)
      have hd : mD u.1 < 16 := hp.2.1
      split
      · exact Or.inr (by omega)
      · split
        · exact Or.inr (by omega)
        · exact Or.inl rfl
    · exact h12 k hk
theorem mT_ge (N : Nat → Nat → Nat) : mBeg N ≤ mT N ∧ N 16 0 < mT N ∧ mUW N (kdN (mCode N)) < mT N ∧ mSW N < mT N := by
  unfold mT
  omega
/-- the run's loop: one issue after another, up to the cycle 'last' -/
def mGo (last : Nat) : Nat → gSt → gSt
  | 0, u => u
  | n + 1, u => if mCode u.1 = 0 ∨ last < mT u.1 then u else mGo last n (mIss u (mT u.1))
def mMu (last : Nat) (u : gSt) : Nat := 5 * (last + 1 - u.1 14 0) - u.1 15 0
theorem mMu_lt {last : Nat} {u : gSt} (h : mInv u.1) (hl : mT u.1 ≤ last) : mMu last (mIss u (mT u.1)) < mMu last u := by
  have hg := mBeg_ge h
  have ht := mT_ge u.1
  obtain ⟨h0, h1, h2, h3, h4, h5, h6, h7, h8, h9, h10, h11, h12⟩ := h
  unfold mMu
  rw [mIss_14, mIss_15]
  by_cases z : mT u.1 = u.1 14 0
  · rw [if_pos z]
    have hm : u.1 13 0 ≠ 0 := fun y => by have := h5 y; omega
    have h15 : u.1 15 0 < u.1 3 0 := by
      have hb : mBeg u.1 ≤ u.1 14 0 := by omega
      unfold mBeg at hb
      rw [if_neg hm] at hb
      split at hb <;> omega
    omega
  · rw [if_neg z]
    omega
theorem mGo_stop {last : Nat} {u : gSt} (h : mCode u.1 = 0 ∨ last < mT u.1) : ∀ n, mGo last n u = u
  | 0 => rfl
  | n + 1 => if_pos h
