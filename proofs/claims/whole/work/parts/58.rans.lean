/-! under rObs both answer alike -/
theorem rBd {x m : gSt} (h : rObs x m) (hc : x.1 22 0 ≤ 1600000) : x.1 24 0 ≤ 6400000 ∧ x.1 34 0 ≤ 206400000 ∧ x.1 33 0 ≤ 206400000 ∧ (∀ j, j < 16 → x.1 27 j ≤ 206400000) ∧ x.1 30 0 < 256 ∧ x.1 31 0 ≤ 206400000 ∧ (∀ i, i < 108 → x.1 36 i ≤ 213000000) ∧ (∀ i, i < 384 → x.1 37 i ≤ 213000000) := by
  obtain ⟨⟨⟨hS, hC, hI, hM, hV⟩, hSt, h14, hT, hH, hO⟩, h11, h12, h23, h24, hop⟩ := h
  obtain ⟨h0, h1, h2, h3, h4, h5, h6, h7, h8, h9, h10, h11'⟩ := hI
  refine ⟨by omega, by omega, by omega, fun j hj => ?_, h8, by omega, fun i hi => ?_, fun i hi => ?_⟩
  · have := (h6 j hj).1
    omega
  · have := h10 i hi
    omega
  · have := h11' i hi
    omega
theorem rOpen {x m : gSt} (h : rObs x m) (k : Nat) (hk : k < 18) : (m.1 24 k ≠ 0 ↔ x.1 22 0 < x.1 36 (6 * k + 5)) := by
  obtain ⟨⟨⟨hS, hC, hI, hM, hV⟩, hSt, h14, hT, hH, hO⟩, h11, h12, h23, h24, hop⟩ := h
  have e := (hC.2.2.2.2.2.1 k hk).1
  constructor
  · intro z
    have := hop k hk z
    omega
  · intro z w
    have := hV.2.2.2.2.2.1 k hk w
    omega
theorem rCn {x m : gSt} (h : rObs x m) : ∀ n, n ≤ 18 → cnX x.1 n = cnN (m.1 24) n
  | 0, _ => rfl
  | n + 1, hn => by
    show cnX x.1 n + (if x.1 22 0 < x.1 36 (6 * n + 5) then 1 else 0) = cnN (m.1 24) n + (if m.1 24 n = 0 then 0 else 1)
    rw [rCn h n (by omega)]
    have := rOpen h n (by omega)
    by_cases z : m.1 24 n = 0
    · rw [if_pos z, if_neg (fun w => (this.2 w) z)]
    · rw [if_neg z, if_pos (this.1 z)]
theorem rCnt {x m : gSt} (h : rObs x m) (w : Nat) (hw : w < 9) : xCnt x.1 w = mCnt m.1 w := by
  have hn := rCn h 18 (Nat.le_refl 18)
  obtain ⟨⟨⟨hS, hC, hI, hM, hV⟩, hSt, h14, hT, hH, hO⟩, h11, h12, h23, h24, hop⟩ := h
  unfold xCnt mCnt
  rw [hn, h11, h12, hC.1, hC.2.1, hC.2.2.1]
  by_cases z : 4 ≤ w ∧ w ≤ 6
  · have := hSt (w - 4) (by omega)
    rw [show w - 4 + 1 = w - 3 by omega] at this
    rw [this]
  · (repeat' split) <;> first | rfl | (exfalso; omega)
theorem rReg {x m : gSt} (h : rObs x m) (i : Nat) (hi : i < 16) : (if x.1 22 0 < x.1 27 i then x.2 28 i else x.2 11 i) = m.2 9 i := by
  obtain ⟨⟨⟨hS, hC, hI, hM, hV⟩, hSt, h14, hT, hH, hO⟩, h11, h12, h23, h24, hop⟩ := h
  obtain ⟨v1, v2, v3, v4, v5, v6, v7, v8⟩ := hV
  have e := (hC.2.2.2.2.1 i hi).1
  by_cases z : ∃ k, k < 18 ∧ m.1 24 k ≠ 0 ∧ m.1 22 (7 * k + 6) = i
  · obtain ⟨k, hk, ho, ht⟩ := z
    obtain ⟨b1, b2, b3⟩ := v1 k hk ho (by omega)
    have := hop k hk ho
    rw [ht] at b1 b2 b3
    rw [if_pos (by omega), b3]
  · have hz : ∀ k, k < 18 → m.1 24 k ≠ 0 → m.1 22 (7 * k + 6) ≠ i := fun k hk ho ht => z ⟨k, hk, ho, ht⟩
    have h7 : m.1 19 i ≤ x.1 22 0 := (v7 i hi).resolve_left z
    rw [if_neg (by omega), v3 i hi hz, hC.2.2.2.2.2.2.2.1 i hi]
theorem rMem {x m : gSt} (h : rObs x m) (i : Nat) (hi : i < 256) : (if i = x.1 30 0 ∧ x.1 22 0 < x.1 31 0 then x.2 32 0 else x.2 12 i) = m.2 10 i := by
  obtain ⟨⟨⟨hS, hC, hI, hM, hV⟩, hSt, h14, hT, hH, hO⟩, h11, h12, h23, h24, hop⟩ := h
  obtain ⟨v1, v2, v3, v4, v5, v6, v7, v8⟩ := hV
  by_cases z : ∃ k, k < 18 ∧ m.1 24 k ≠ 0 ∧ m.1 22 (7 * k + 6) = 16 + i
  · obtain ⟨k, hk, ho, ht⟩ := z
    obtain ⟨b0, b1, b2, b3, b4⟩ := v2 k hk ho (by omega) (by omega)
    have := hop k hk ho
    rw [ht, Nat.add_sub_cancel_left] at b4
    rw [if_pos (by omega), b4]
  · have hz : ∀ k, k < 18 → m.1 24 k ≠ 0 → m.1 22 (7 * k + 6) ≠ 16 + i := fun k hk ho ht => z ⟨k, hk, ho, ht⟩
    rw [if_neg ?_, v4 i hi hz, hC.2.2.2.2.2.2.2.2 i hi]
    intro w
    rcases v8 with ⟨k, hk, ho, ht⟩ | v8
    · exact hz k hk ho (by omega)
    · omega
theorem rPln {x m : gSt} (h : rObs x m) : (∀ i, i < 16 → m.2 6 i = x.2 11 i) ∧ (∀ i, i < 256 → m.2 7 i = x.2 12 i) := by
  obtain ⟨⟨⟨hS, hC, hI, hM, hV⟩, hSt, h14, hT, hH, hO⟩, h11, h12, h23, h24, hop⟩ := h
  exact ⟨hC.2.2.2.2.2.2.2.1, hC.2.2.2.2.2.2.2.2⟩
theorem rUnitC {x m : gSt} (h : rObs x m) (r : Nat) (hr : r < 18) (ho : m.1 24 r ≠ 0) : m.1 22 (7 * r) = x.1 36 (6 * r) ∧ m.1 22 (7 * r + 1) = x.1 36 (6 * r + 1) ∧ m.1 22 (7 * r + 3) = x.1 36 (6 * r + 3) ∧ m.1 22 (7 * r + 4) = x.1 36 (6 * r + 4) := by
  obtain ⟨⟨⟨hS, hC, hI, hM, hV⟩, hSt, h14, hT, hH, hO⟩, h11, h12, h23, h24, hop⟩ := h
  have := hop r hr ho
  exact (hC.2.2.2.2.2.1 r hr).2 (by omega)
theorem rUnit {x m : gSt} (h : rObs x m) (k i w : Nat) (hk : k < 6) (hi : i < 3) (hw : w ≤ 2) : xTU x.1 (k * 3 + i) w = mUnit m.1 k i w := by
  have ho := rOpen h (k * 3 + i) (by omega)
  have hu := rUnitC h (k * 3 + i) (by omega)
  have h11 := h.2.1
  unfold xTU mUnit
  rw [show 3 * k + i = k * 3 + i by omega, show (k * 3 + i) * 6 = 6 * (k * 3 + i) by omega, h11]
  by_cases z : m.1 24 (k * 3 + i) = 0
  · rw [if_pos z, if_pos (Nat.le_of_not_lt fun w => ho.2 w z)]
  · obtain ⟨b0, b1, b3, b4⟩ := hu z
    have := ho.1 z
    rw [if_neg z, if_neg (by omega), b3, b4]
    rcases (show w = 0 ∨ w = 1 ∨ w = 2 by omega) with y | y | y <;> subst y
    · rw [if_pos rfl, if_pos (by omega)]
      show nI (x.1 36 (6 * (k * 3 + i))) = nI (m.1 22 (7 * (k * 3 + i)))
      rw [b0]
    · rw [if_neg (by omega), if_pos rfl, if_pos (by omega), b1]
    · rw [if_neg (show ¬ (2 : Nat) = 0 by decide), if_neg (show ¬ (2 : Nat) = 1 by decide), if_neg (show ¬ (2 : Nat) < 2 by decide)]
theorem rPend {x m : gSt} (h : rObs x m) (i : Nat) (hi : i < 16) : (if x.1 22 0 < x.1 27 i then nI (x.1 26 i) else -1) = (if m.1 11 0 < m.1 19 i then nI (m.1 20 i) else (-1 : Int32)) := by
  obtain ⟨⟨⟨hS, hC, hI, hM, hV⟩, hSt, h14, hT, hH, hO⟩, h11, h12, h23, h24, hop⟩ := h
  obtain ⟨e1, e2, e3⟩ := hC.2.2.2.2.1 i hi
  rw [h11, e1]
  by_cases z : x.1 22 0 < x.1 27 i
  · rw [if_pos z, if_pos z, e3 (by omega)]
  · rw [if_neg z, if_neg z]
theorem rLatC {x m : gSt} (h : rObs x m) (k w : Nat) (hk2 : k < m.1 13 0) (hw : w < 6) : m.1 25 (6 * ((m.1 13 0 - 1 - k) % 64) + w) = x.1 37 ((x.1 24 0 - 1 - k) % 64 * 6 + w) := by
  obtain ⟨⟨⟨hS, hC, hI, hM, hV⟩, hSt, h14, hT, hH, hO⟩, h11, h12, h23, h24, hop⟩ := h
  have hl := Nat.mod_le (m.1 13 0 - 1 - k) 64
  have ht := Nat.mod_lt (m.1 13 0 - 1 - k) (show 64 > 0 by decide)
  rw [hC.2.2.2.2.2.2.1 _ ht (by omega) w hw, hC.2.1, Nat.mul_comm 6]
theorem rLat {x m : gSt} (h : rObs x m) (k w : Nat) (hk2 : k < m.1 13 0) (hw : w < 6) : xTI x.1 (x.1 24 0 - 1 - k) w = mLat m.1 k w := by
  have e := rLatC h k w hk2 hw
  unfold xTI mLat
  rw [e, h.2.1]
  rfl
theorem r13 {x m : gSt} (h : rObs x m) : m.1 13 0 = x.1 24 0 := h.1.1.2.1.2.1
theorem r1 {x m : gSt} (h : rObs x m) (k : Nat) (hk : k < 6) : m.1 1 k = x.1 4 k := (h.1.1.1.2.1 k hk).1
theorem r1b {x m : gSt} (h : rObs x m) (k : Nat) (hk : k < 6) : x.1 4 k ≤ 3 := (h.1.1.2.2.1.2.1 k hk).2
theorem rG {x m : gSt} (h : rObs x m) (hc : x.1 22 0 ≤ 1600000) : mG m.1 := mInv_G h.1.1.2.2.2.1 (by have := h.1.2.2.1; omega)
theorem rZ24 {x m : gSt} (h : rObs x m) : ∀ k, k < 18 → m.1 24 k < 2 := h.1.1.2.2.2.1.2.2.2.2.2.2.2.2.2.2.2.1
theorem rGo {x m : gSt} {n : Nat} (h : rObs x m) (h0 : x.1 23 0 = 0) : nI (mE m n).2 - nI (m.1 11 0) = nI (xGo n x).2 := by
  obtain ⟨a1, a2, a3, a4⟩ := rObs_run (n := n) h h0
  rw [a2, h.2.1, pk_sub (by omega), Nat.add_sub_cancel_left]
