/-! the reference's issue: its stages -/
theorem b0 {c : Prop} [Decidable c] (h : (if c then 1 else 0 : Nat) = 0) : ¬ c := fun z => by rw [if_pos z] at h; cases h
theorem b1 {c : Prop} [Decidable c] (h : (if c then 1 else 0 : Nat) ≠ 0) : c := Classical.byContradiction fun z => h (by rw [if_neg z])
theorem bL {c : Prop} [Decidable c] : (if c then 1 else 0 : Nat) < 2147483648 := by split <;> decide
def mI1 (N : Nat → Nat → Nat) (t : Nat) : Nat → Nat → Nat := uN (uN (uN N 18 0 (N 18 0 + mWt N 0 (t - 1))) 18 1 (N 18 1 + mWt N 1 (t - 1))) 18 2 (N 18 2 + mWt N 2 (t - 1))
def mFr (N : Nat → Nat → Nat) (t : Nat) : Nat := if N 22 (7 * (3 * kdN (mCode N) + 0) + 5) < t then 0 else if N 22 (7 * (3 * kdN (mCode N) + 1) + 5) < t then 1 else 2
def mU (N : Nat → Nat → Nat) (t : Nat) : Nat := mFr N t + 3 * kdN (mCode N)
def mR1 (N : Nat → Nat → Nat) (t : Nat) : Nat := if mCode N ≠ 6 ∧ mCode N ≠ 18 then max (t + 1) (N 19 (mA N) + 1) else t + 1
def mR2 (N : Nat → Nat → Nat) (t : Nat) : Nat := if mCode N < 6 ∨ (7 < mCode N ∧ mCode N < 14) then max (mR1 N t) (N 19 (mBB N % 16) + 1) else mR1 N t
def mR3 (N : Nat → Nat → Nat) (t : Nat) : Nat := if mCode N = 15 then max (mR2 N t) (N 19 (mD N) + 1) else mR2 N t
def mDn (N : Nat → Nat → Nat) (t : Nat) : Nat := mR3 N t + N 2 (kdN (mCode N))
def mWn (N : Nat → Nat → Nat) (t : Nat) : Nat := if mCode N < 15 then max (mDn N t + 1) (N 21 (mD N) + 1) else mDn N t + 1
def mCl (N : Nat → Nat → Nat) (J : Nat → Nat → Int64) : Nat := if mCode N = 15 then 16 + clN (J 6 (mA N) + (nI (mBB N)).toInt64) else 4294967295
def mTo (N : Nat → Nat → Nat) (J : Nat → Nat → Int64) : Nat := if mCode N < 15 then mD N else mCl N J
def mI3a (N X : Nat → Nat → Nat) (r : Nat) : Nat → Nat → Nat := if mCode N ≠ 6 ∧ mCode N ≠ 18 then uN X 21 (mA N) (max (X 21 (mA N)) r) else X
def mI3b (N X : Nat → Nat → Nat) (r : Nat) : Nat → Nat → Nat := if mCode N < 6 ∨ (7 < mCode N ∧ mCode N < 14) then uN X 21 (mBB N % 16) (max (X 21 (mBB N % 16)) r) else X
def mI3c (N X : Nat → Nat → Nat) (r : Nat) : Nat → Nat → Nat := if mCode N = 15 then uN X 21 (mD N) (max (X 21 (mD N)) r) else X
def mI4 (N X : Nat → Nat → Nat) (J : Nat → Nat → Int64) (t U : Nat) : Nat → Nat → Nat := uN (uN (uN (uN (uN (uN (uN X 22 (7 * U) (N 8 0)) 22 (7 * U + 1) (N 13 0)) 22 (7 * U + 2) t) 22 (7 * U + 3) (mR3 N t)) 22 (7 * U + 4) (mDn N t)) 22 (7 * U + 5) (mWn N t)) 22 (7 * U + 6) (mTo N J)
def mI5 (N X : Nat → Nat → Nat) (t : Nat) : Nat → Nat → Nat := uN (uN (uN (uN (uN (uN X 25 (6 * (N 13 0 % 64) + 0) (N 8 0)) 25 (6 * (N 13 0 % 64) + 1) (N 13 0)) 25 (6 * (N 13 0 % 64) + 2) t) 25 (6 * (N 13 0 % 64) + 3) (mR3 N t)) 25 (6 * (N 13 0 % 64) + 4) (mDn N t)) 25 (6 * (N 13 0 % 64) + 5) (mWn N t)
def mI6 (N : Nat → Nat → Nat) (J : Nat → Nat → Int64) (t : Nat) (X : gSt) : gSt := if mCode N < 15 then (uN (uN X.1 19 (mD N) (mWn N t)) 20 (mD N) (N 13 0), uJ X.2 6 (mD N) (mV N J)) else if mCode N = 15 then (X.1, uJ X.2 7 (clN (J 6 (mA N) + (nI (mBB N)).toInt64)) (mV N J)) else X
def mI7 (N X : Nat → Nat → Nat) (t : Nat) : Nat → Nat → Nat := if kdN (mCode N) = 5 then uN X 16 0 (mWn N t) else X
def mI8 (N X : Nat → Nat → Nat) (t : Nat) : Nat → Nat → Nat := uN (uN (uN (uN X 17 0 (max (N 17 0) (mWn N t))) 15 0 (if t = N 14 0 then N 15 0 + 1 else 1)) 14 0 t) 13 0 (N 13 0 + 1)
def mC (u : gSt) (t : Nat) : gSt := mCA t 18 (mI1 u.1 t, u.2)
def mX5 (u : gSt) (t : Nat) : Nat → Nat → Nat := uN (mI5 u.1 (mI4 u.1 (mI3c u.1 (mI3b u.1 (mI3a u.1 (mC u t).1 (mR3 u.1 t)) (mR3 u.1 t)) (mR3 u.1 t)) u.2 t (mU u.1 t)) t) 8 0 (mNx u.1 u.2)
def mX6 (u : gSt) (t : Nat) : gSt := mI6 u.1 u.2 t (uN (mX5 u t) 24 (mU u.1 t) 1, uJ (mC u t).2 23 (mU u.1 t) (mV u.1 u.2))
def mIss (u : gSt) (t : Nat) : gSt := (mI8 u.1 (mI7 u.1 (mX6 u t).1 t) t, (mX6 u t).2)
theorem mCm_z (u : gSt) (j : Nat) (h : ∀ k, k < 18 → u.1 24 k < 2) : ∀ k, k < 18 → (mCm u j).1 24 k < 2 := by
  intro k hk
  unfold mCm
  split
  · exact h k hk
  · show uN u.1 24 j 0 24 k < 2
    rw [uN_s]
    split
    · decide
    · exact h k hk
theorem mCA_z (t : Nat) (u : gSt) (h : ∀ k, k < 18 → u.1 24 k < 2) : ∀ n k, k < 18 → (mCA t n u).1 24 k < 2
  | 0 => h
  | n + 1 => by
    intro k hk
    unfold mCA
    split
    · exact mCm_z _ _ (mCA_z t u h n) k hk
    · exact mCA_z t u h n k hk
theorem mI3a_o {N X : Nat → Nat → Nat} {r f : Nat} (h : f ≠ 21) : mI3a N X r f = X f := by
  unfold mI3a
  split
  · exact uN_o h
  · rfl
theorem mI3b_o {N X : Nat → Nat → Nat} {r f : Nat} (h : f ≠ 21) : mI3b N X r f = X f := by
  unfold mI3b
  split
  · exact uN_o h
  · rfl
theorem mI3c_o {N X : Nat → Nat → Nat} {r f : Nat} (h : f ≠ 21) : mI3c N X r f = X f := by
  unfold mI3c
  split
  · exact uN_o h
  · rfl
theorem uN_b {X : Nat → Nat → Nat} {f i v B j : Nat} (h : X f j < B) (hv : v < B) : uN X f i v f j < B := by
  rw [uN_s]
  split
  · exact hv
  · exact h
theorem mI3a_b {N X : Nat → Nat → Nat} {r B : Nat} (hA : mA N < 16) (h : ∀ j, j < 16 → X 21 j < B) (hr : r < B) : ∀ j, j < 16 → mI3a N X r 21 j < B := by
  intro j hj
  unfold mI3a
  split
  · exact uN_b (h j hj) (Nat.max_lt.mpr ⟨h _ hA, hr⟩)
  · exact h j hj
theorem mI3b_b {N X : Nat → Nat → Nat} {r B : Nat} (h : ∀ j, j < 16 → X 21 j < B) (hr : r < B) : ∀ j, j < 16 → mI3b N X r 21 j < B := by
  intro j hj
  unfold mI3b
  split
  · exact uN_b (h j hj) (Nat.max_lt.mpr ⟨h _ (Nat.mod_lt _ (by decide)), hr⟩)
  · exact h j hj
