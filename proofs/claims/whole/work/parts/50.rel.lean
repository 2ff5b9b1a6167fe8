/-! the class's state x beside the reference's state m -/
def rSet (x m : gSt) : Prop := (∀ p, p < 256 → m.1 0 (4 * p) = x.1 0 p ∧ m.1 0 (4 * p + 1) = x.1 1 p ∧ m.1 0 (4 * p + 2) = x.1 2 p ∧ m.1 0 (4 * p + 3) = x.1 3 p) ∧ (∀ k, k < 6 → m.1 1 k = x.1 4 k ∧ m.1 2 k = x.1 5 k) ∧ m.1 3 0 = x.1 8 0 ∧ m.1 1 4 = 1 ∧ (∀ j, j < 16 → m.2 4 j = x.2 6 j) ∧ (∀ j, j < 256 → m.2 5 j = x.2 7 j)
def rCor (x m : gSt) : Prop := m.1 8 0 = x.1 13 0 ∧ m.1 13 0 = x.1 24 0 ∧ m.1 16 0 = x.1 33 0 ∧ m.1 17 0 = x.1 34 0 ∧ (∀ j, j < 16 → m.1 19 j = x.1 27 j ∧ m.1 21 j = x.1 29 j ∧ (m.1 19 j ≠ 0 → m.1 20 j = x.1 26 j))
  ∧ (∀ k, k < 18 → m.1 22 (7 * k + 5) = x.1 36 (6 * k + 5) ∧ (m.1 22 (7 * k + 5) ≠ 0 → m.1 22 (7 * k) = x.1 36 (6 * k) ∧ m.1 22 (7 * k + 1) = x.1 36 (6 * k + 1) ∧ m.1 22 (7 * k + 3) = x.1 36 (6 * k + 3) ∧ m.1 22 (7 * k + 4) = x.1 36 (6 * k + 4)))
  ∧ (∀ s, s < 64 → s < m.1 13 0 → ∀ c, c < 6 → m.1 25 (6 * s + c) = x.1 37 (6 * s + c)) ∧ (∀ j, j < 16 → m.2 6 j = x.2 11 j) ∧ (∀ j, j < 256 → m.2 7 j = x.2 12 j)
def rVal (x m : gSt) (c : Nat) : Prop := (∀ k, k < 18 → m.1 24 k ≠ 0 → m.1 22 (7 * k + 6) < 16 → m.1 19 (m.1 22 (7 * k + 6)) = m.1 22 (7 * k + 5) ∧ m.2 23 k = m.2 6 (m.1 22 (7 * k + 6)) ∧ m.2 9 (m.1 22 (7 * k + 6)) = x.2 28 (m.1 22 (7 * k + 6)))
  ∧ (∀ k, k < 18 → m.1 24 k ≠ 0 → 16 ≤ m.1 22 (7 * k + 6) → m.1 22 (7 * k + 6) < 272 → k = 12 ∧ x.1 30 0 + 16 = m.1 22 (7 * k + 6) ∧ x.1 31 0 = m.1 22 (7 * k + 5) ∧ m.2 23 k = m.2 7 (m.1 22 (7 * k + 6) - 16) ∧ m.2 10 (m.1 22 (7 * k + 6) - 16) = x.2 32 0)
  ∧ (∀ j, j < 16 → (∀ k, k < 18 → m.1 24 k ≠ 0 → m.1 22 (7 * k + 6) ≠ j) → m.2 9 j = m.2 6 j)
  ∧ (∀ j, j < 256 → (∀ k, k < 18 → m.1 24 k ≠ 0 → m.1 22 (7 * k + 6) ≠ 16 + j) → m.2 10 j = m.2 7 j)
  ∧ (∀ k k', k < 18 → k' < 18 → m.1 24 k ≠ 0 → m.1 24 k' ≠ 0 → m.1 22 (7 * k + 6) = m.1 22 (7 * k' + 6) → m.1 22 (7 * k + 6) < 272 → k = k')
  ∧ (∀ k, k < 18 → m.1 24 k = 0 → m.1 22 (7 * k + 5) ≤ c)
  ∧ (∀ j, j < 16 → (∃ k, k < 18 ∧ m.1 24 k ≠ 0 ∧ m.1 22 (7 * k + 6) = j) ∨ m.1 19 j ≤ c)
  ∧ ((∃ k, k < 18 ∧ m.1 24 k ≠ 0 ∧ m.1 22 (7 * k + 6) = 16 + x.1 30 0) ∨ x.1 31 0 ≤ c)
/-- a commit -/
theorem rVal_cm {x m : gSt} {c k : Nat} (h : rVal x m c) (hk : k < 18) (ho : m.1 24 k ≠ 0) (hw : m.1 22 (7 * k + 5) ≤ c) (ht : m.1 22 (7 * k + 6) = 4294967295 ∨ m.1 22 (7 * k + 6) < 272) (h30 : x.1 30 0 < 256) : rVal x (mCm m k) c := by
  obtain ⟨v1, v2, v3, v4, v5, v6, v7, v8⟩ := h
  have e : mCm m k = (uN m.1 24 k 0, if m.1 22 (7 * k + 6) = 4294967295 then m.2 else if 16 ≤ m.1 22 (7 * k + 6) then uJ m.2 10 (m.1 22 (7 * k + 6) - 16) (m.2 23 k) else uJ m.2 9 (m.1 22 (7 * k + 6)) (m.2 23 k)) := if_neg ho
  have hN : ∀ f, f ≠ 24 → (mCm m k).1 f = m.1 f := fun f hf => mCm_N m k f hf
  have hJ : ∀ f, f ≠ 9 → f ≠ 10 → (mCm m k).2 f = m.2 f := fun f h1 h2 => mCm_J m k f h1 h2
  have h24 : ∀ i, (mCm m k).1 24 i = if i = k then 0 else m.1 24 i := fun i => by rw [e]; exact uN_s m.1 24 k 0 i
  have h9 : ∀ j, j < 16 → (mCm m k).2 9 j = if m.1 22 (7 * k + 6) = j then m.2 23 k else m.2 9 j := by
    intro j hj
    rw [e]
    show (if _ then _ else _ : Nat → Nat → Int64) 9 j = _
    by_cases z1 : m.1 22 (7 * k + 6) = 4294967295
    · rw [if_pos z1, if_neg (by omega)]
    · rw [if_neg z1]
      by_cases z2 : 16 ≤ m.1 22 (7 * k + 6)
      · rw [if_pos z2, if_neg (by omega), uJ_o (by decide)]
      · rw [if_neg z2, uJ_s]
        by_cases z3 : m.1 22 (7 * k + 6) = j
        · rw [if_pos z3, if_pos z3.symm]
        · rw [if_neg z3, if_neg (fun z => z3 z.symm)]
  have h10 : ∀ j, j < 256 → (mCm m k).2 10 j = if m.1 22 (7 * k + 6) = 16 + j then m.2 23 k else m.2 10 j := by
    intro j hj
    rw [e]
    show (if _ then _ else _ : Nat → Nat → Int64) 10 j = _
    by_cases z1 : m.1 22 (7 * k + 6) = 4294967295
    · rw [if_pos z1, if_neg (by omega)]
    · rw [if_neg z1]
      by_cases z2 : 16 ≤ m.1 22 (7 * k + 6)
      · rw [if_pos z2, uJ_s]
        by_cases z3 : m.1 22 (7 * k + 6) = 16 + j
        · rw [if_pos z3, if_pos (by omega)]
        · rw [if_neg z3, if_neg (by omega)]
      · rw [if_neg z2, if_neg (by omega), uJ_o (by decide)]
  have hop : ∀ i, (mCm m k).1 24 i ≠ 0 → i ≠ k ∧ m.1 24 i ≠ 0 := by
    intro i hi
    rw [h24] at hi
    by_cases z : i = k
    · rw [if_pos z] at hi
      exact absurd rfl hi
    · rw [if_neg z] at hi
      exact ⟨z, hi⟩
  have hop2 : ∀ i, i ≠ k → m.1 24 i ≠ 0 → (mCm m k).1 24 i ≠ 0 := fun i hi h => by rw [h24, if_neg hi]; exact h
  unfold rVal
  rw [hN 22 (by decide), hN 19 (by decide), hJ 23 (by decide) (by decide), hJ 6 (by decide) (by decide), hJ 7 (by decide) (by decide)]
  refine ⟨?_, ?_, ?_, ?_, ?_, ?_, ?_, ?_⟩
  · intro i hi hoi hti
    obtain ⟨z1, z2⟩ := hop i hoi
    obtain ⟨a1, a2, a3⟩ := v1 i hi z2 hti
    refine ⟨a1, a2, ?_⟩
    rw [h9 _ hti, if_neg (fun z => z1 (v5 k i hk hi ho z2 z (by omega)).symm)]
    exact a3
  · intro i hi hoi hti hti2
    obtain ⟨z1, z2⟩ := hop i hoi
    obtain ⟨a1, a2, a3, a4, a5⟩ := v2 i hi z2 hti hti2
    refine ⟨a1, a2, a3, a4, ?_⟩
    rw [h10 _ (by omega), if_neg (fun z => z1 (v5 k i hk hi ho z2 (by omega) (by omega)).symm)]
    exact a5
  · intro j hj hn
    rw [h9 j hj]
    by_cases z : m.1 22 (7 * k + 6) = j
    · rw [if_pos z]
      have := (v1 k hk ho (by omega)).2.1
      rw [this, z]
    · rw [if_neg z]
      refine v3 j hj (fun i hi hoi => ?_)
      by_cases y : i = k
      · rw [y]
        exact z
      · exact hn i hi (hop2 i y hoi)
  · intro j hj hn
    rw [h10 j hj]
    by_cases z : m.1 22 (7 * k + 6) = 16 + j
    · rw [if_pos z]
      have := (v2 k hk ho (by omega) (by omega)).2.2.2.1
      rw [this, show m.1 22 (7 * k + 6) - 16 = j by omega]
    · rw [if_neg z]
      refine v4 j hj (fun i hi hoi => ?_)
      by_cases y : i = k
      · rw [y]
        exact z
      · exact hn i hi (hop2 i y hoi)
  · intro i i' hi hi' hoi hoi'
    exact v5 i i' hi hi' (hop i hoi).2 (hop i' hoi').2
  · intro i hi hoi
    by_cases y : i = k
    · rw [y]
      exact hw
    · rw [h24, if_neg y] at hoi
      exact v6 i hi hoi
  · intro j hj
    rcases v7 j hj with ⟨i, hi, hoi, hti⟩ | z
    · by_cases y : i = k
      · right
        subst y
        have := (v1 i hi hoi (by omega)).1
        rw [hti] at this
        omega
      · exact Or.inl ⟨i, hi, hop2 i y hoi, hti⟩
    · exact Or.inr z
  · rcases v8 with ⟨i, hi, hoi, hti⟩ | z
    · by_cases y : i = k
      · right
        subst y
        have := (v2 i hi hoi (by omega) (by omega)).2.2.1
        omega
      · exact Or.inl ⟨i, hi, hop2 i y hoi, hti⟩
    · exact Or.inr z
/-- many commits -/
theorem rVal_CA {x m : gSt} {c t : Nat} (h : rVal x m c) (ht : t ≤ c + 1) (hto : ∀ k, k < 18 → m.1 22 (7 * k + 6) = 4294967295 ∨ m.1 22 (7 * k + 6) < 272) (h30 : x.1 30 0 < 256) : ∀ n, n ≤ 18 → rVal x (mCA t n m) c
  | 0, _ => h
  | n + 1, hn => by
    have ih := rVal_CA h ht hto h30 n (by omega)
    unfold mCA
    split
    · rename_i z
      have e := mCA_N t m 22 (by decide) n
      refine rVal_cm ih (by omega) z.1 (by have := z.2; omega) ?_ h30
      rw [e]
      exact hto n (by omega)
    · exact ih
/-- behind them none open is to be written ahead of t -/
theorem mCA_open {t : Nat} {m : gSt} : ∀ n k, k < n → (mCA t n m).1 24 k ≠ 0 → t ≤ m.1 22 (7 * k + 5)
  | 0, k, hk, _ => absurd hk (Nat.not_lt_zero k)
  | n + 1, k, hk, ho => by
    have e := mCA_N t m 22 (by decide) n
    by_cases z : (mCA t n m).1 24 n ≠ 0 ∧ (mCA t n m).1 22 (7 * n + 5) < t
    · have e1 : mCA t (n + 1) m = mCm (mCA t n m) n := if_pos z
      rw [e1] at ho
      have h24 : (mCm (mCA t n m) n).1 24 k = if k = n then 0 else (mCA t n m).1 24 k := by
        have e2 : mCm (mCA t n m) n = (uN (mCA t n m).1 24 n 0, _) := if_neg z.1
        rw [e2]
        exact uN_s _ 24 n 0 k
      rw [h24] at ho
      by_cases y : k = n
      · rw [if_pos y] at ho
        exact absurd rfl ho
      · rw [if_neg y] at ho
        exact mCA_open n k (by omega) ho
    · have e1 : mCA t (n + 1) m = mCA t n m := if_neg z
      rw [e1] at ho
      by_cases y : k = n
      · subst y
        rw [e] at z
        exact Nat.le_of_not_lt (fun w => z ⟨ho, w⟩)
      · exact mCA_open n k (by omega) ho
/-- an open one was open -/
theorem mCA_was {t : Nat} {m : gSt} : ∀ n k, (mCA t n m).1 24 k ≠ 0 → m.1 24 k ≠ 0
  | 0, k, h => h
  | n + 1, k, h => by
    unfold mCA at h
    split at h
    · rename_i z
      have e2 : mCm (mCA t n m) n = (uN (mCA t n m).1 24 n 0, _) := if_neg z.1
      rw [e2] at h
      have h : uN (mCA t n m).1 24 n 0 24 k ≠ 0 := h
      rw [uN_s] at h
      by_cases y : k = n
      · rw [if_pos y] at h
        exact absurd rfl h
      · rw [if_neg y] at h
        exact mCA_was n k h
    · exact mCA_was n k h
/-- one that stays to be written stays open -/
theorem mCA_stay {t : Nat} {m : gSt} : ∀ n k, m.1 24 k ≠ 0 → t ≤ m.1 22 (7 * k + 5) → (mCA t n m).1 24 k ≠ 0
  | 0, k, h, _ => h
  | n + 1, k, h, hw => by
    have ih := mCA_stay n k h hw
    unfold mCA
    split
    · rename_i z
      have e := mCA_N t m 22 (by decide) n
      have e2 : mCm (mCA t n m) n = (uN (mCA t n m).1 24 n 0, _) := if_neg z.1
      rw [e2]
      show uN (mCA t n m).1 24 n 0 24 k ≠ 0
      rw [uN_s]
      by_cases y : k = n
      · subst y
        rw [e] at z
        exact absurd z.2 (by omega)
      · rw [if_neg y]
        exact ih
    · exact ih
