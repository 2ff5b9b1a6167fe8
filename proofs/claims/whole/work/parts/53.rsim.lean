/-! a cycle of the class beside the reference's issues -/
def mPath (m m' : gSt) (b : Nat) : Prop := ∃ k, ∀ last, b ≤ last → ∀ n, mGo last (n + k) m = mGo last n m'
theorem mPath_0 (m : gSt) (b : Nat) : mPath m m b := ⟨0, fun _ _ _ => rfl⟩
theorem mPath_1 {m : gSt} {b : Nat} (hc : ¬ mCode m.1 = 0) (hT : mT m.1 ≤ b) : mPath m (mIss m (mT m.1)) b := by
  refine ⟨1, fun last hl n => ?_⟩
  show mGo last (n + 1) m = _
  exact if_neg (by omega)
theorem mPath_t {m m' m'' : gSt} {b b' : Nat} (h : mPath m m' b) (h' : mPath m' m'' b') (hb : b ≤ b') : mPath m m'' b' := by
  obtain ⟨k, hk⟩ := h
  obtain ⟨k', hk'⟩ := h'
  refine ⟨k' + k, fun last hl n => ?_⟩
  rw [show n + (k' + k) = (n + k') + k by omega, hk last (by omega), hk' last hl]
def rStall (x m : gSt) (l : Nat) : Prop := ∀ w, w < 3 → x.1 25 (w + 1) = m.1 18 w + (if mCode m.1 = 0 then 0 else mWt m.1 w l)
def rBase (x m : gSt) : Prop := rSet x m ∧ rCor x m ∧ xInv x.1 ∧ mInv m.1 ∧ rVal x m (x.1 22 0)
def rMid (x m : gSt) (i : Nat) : Prop := rBase x m ∧ rStall x m (x.1 22 0 - 1) ∧ 1 ≤ x.1 22 0 ∧ x.1 23 0 = 0 ∧ (i = 0 → m.1 14 0 < x.1 22 0 ∧ (mCode m.1 ≠ 0 → x.1 22 0 ≤ mT m.1) ∧ (mCode m.1 = 0 → x.1 22 0 ≤ mHalt m)) ∧ (i ≠ 0 → m.1 14 0 = x.1 22 0 ∧ m.1 15 0 = i ∧ m.1 13 0 ≠ 0)
def rEnd (x m : gSt) : Prop := rBase x m ∧ rStall x m (x.1 22 0) ∧ m.1 14 0 ≤ x.1 22 0 ∧ (x.1 23 0 = 0 → mCode m.1 ≠ 0 → x.1 22 0 < mT m.1) ∧ (x.1 23 0 = 0 → mCode m.1 = 0 → x.1 22 0 < mHalt m) ∧ (x.1 23 0 ≠ 0 → mCode m.1 = 0 ∧ mHalt m = x.1 22 0)
theorem rUW {x m : gSt} (hS : rSet x m) (hC : rCor x m) (hI : xInv x.1) (k : Nat) (hk : k < 6) : (xFr x.1 k = 4294967295 → x.1 22 0 ≤ mUW m.1 k) ∧ (xFr x.1 k ≤ 2 → mUW m.1 k < x.1 22 0) := by
  have w0 := rEqW hC k 0 hk (by decide)
  have w1 := rEqW hC k 1 hk (by decide)
  have w2 := rEqW hC k 2 hk (by decide)
  have hu : m.1 1 k = x.1 4 k := (hS.2.1 k hk).1
  have hb := hI.2.1 k hk
  have e0 : 21 * k + 5 = 7 * (3 * k + 0) + 5 := by omega
  unfold mUW xFr
  rw [e0, w0, w1, w2, hu]
  generalize x.1 36 ((k * 3 + 0) * 6 + 5) = a0
  generalize x.1 36 ((k * 3 + 1) * 6 + 5) = a1
  generalize x.1 36 ((k * 3 + 2) * 6 + 5) = a2
  generalize x.1 22 0 = c
  rcases (show x.1 4 k = 1 ∨ x.1 4 k = 2 ∨ x.1 4 k = 3 by omega) with z | z | z <;> rw [z]
  · constructor <;> intro h <;> (repeat' split at h) <;> simp at * <;> omega
  · constructor <;> intro h <;> (repeat' split at h) <;> simp at * <;> omega
  · constructor <;> intro h <;> (repeat' split at h) <;> simp at * <;> omega
theorem mWt_step {N : Nat → Nat → Nat} {c h : Nat} (hb : mBeg N ≤ c) (hb1 : 1 ≤ mBeg N) (hh : (h = 1 ∧ c ≤ N 16 0) ∨ (h = 2 ∧ N 16 0 < c ∧ c ≤ mUW N (kdN (mCode N))) ∨ (h = 3 ∧ N 16 0 < c ∧ mUW N (kdN (mCode N)) < c ∧ c ≤ mSW N)) (w : Nat) (hw : w < 3) : mWt N w c = mWt N w (c - 1) + (if h = w + 1 then 1 else 0) := by
  unfold mWt mHigh mLow
  generalize mUW N (kdN (mCode N)) = a1 at *
  generalize mSW N = a2 at *
  generalize mBeg N = b at *
  generalize N 16 0 = a0 at *
  rcases (show w = 0 ∨ w = 1 ∨ w = 2 by omega) with z | z | z <;> subst z
  · simp only [if_true]
    rcases hh with ⟨z, y⟩ | ⟨z, y1, y2⟩ | ⟨z, y1, y2, y3⟩ <;> subst z <;> simp <;> omega
  · simp only [show ¬ (1 : Nat) = 0 by decide, if_false, if_true]
    rcases hh with ⟨z, y⟩ | ⟨z, y1, y2⟩ | ⟨z, y1, y2, y3⟩ <;> subst z <;> simp <;> omega
  · simp only [show ¬ (2 : Nat) = 0 by decide, show ¬ (2 : Nat) = 1 by decide, if_false]
    rcases hh with ⟨z, y⟩ | ⟨z, y1, y2⟩ | ⟨z, y1, y2, y3⟩ <;> subst z <;> simp <;> omega
theorem mWt_none {N : Nat → Nat → Nat} {l : Nat} (hb : l < mBeg N) (w : Nat) : mWt N w l = 0 := by
  unfold mWt mHigh mLow
  omega
theorem mBeg_of {N : Nat → Nat → Nat} (h : N 13 0 ≠ 0) : mBeg N = if N 15 0 < N 3 0 then N 14 0 else N 14 0 + 1 := by
  unfold mBeg
  rw [if_neg h]
