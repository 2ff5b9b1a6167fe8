/-! the class's issue, field by field -/
theorem xS1_o {N : Nat → Nat → Nat} {f : Nat} (h : f ≠ 35) : xS1 N f = N f := by
  unfold xS1
  rw [uN_o h, uN_o h, uN_o h, uN_o h, uN_o h, uN_o h]
theorem xKeep_o {N : Nat → Nat → Nat} {r f : Nat} (h : f ≠ 36) (h2 : f ≠ 37) : xKeep N r f = N f := by
  unfold xKeep
  rw [cpN_o h2, cpN_o h]
theorem xNR_o {N : Nat → Nat → Nat} {f : Nat} (h : f ≠ 29) : xNR N f = N f := by
  unfold xNR
  rw [xNR3_o h, xNR2_o h, xNR1_o h]
theorem xNW_o {u : gSt} {f : Nat} (h : f ≠ 34 ∧ f ≠ 33 ∧ f ≠ 30 ∧ f ≠ 31 ∧ f ≠ 26 ∧ f ≠ 27) : (xNW u).1 f = u.1 f := by
  unfold xNW
  split
  · show uN (uN u.1 34 _ _) 33 _ _ f = _
    rw [uN_o h.2.1, uN_o h.1]
  · split
    · show uN (uN (uN u.1 34 _ _) 30 _ _) 31 _ _ f = _
      rw [uN_o h.2.2.2.1, uN_o h.2.2.1, uN_o h.1]
    · show uN (uN (uN u.1 34 _ _) 26 _ _) 27 _ _ f = _
      rw [uN_o h.2.2.2.2.2, uN_o h.2.2.2.2.1, uN_o h.1]
theorem xNW_J {u : gSt} {f : Nat} (h : f ≠ 28 ∧ f ≠ 32) : (xNW u).2 f = u.2 f := by
  unfold xNW
  split
  · rfl
  · split
    · exact uJ_o h.2
    · exact uJ_o h.1
theorem xI3_o (N : Nat → Nat → Nat) {r f : Nat} (h : f ≠ 29 ∧ f ≠ 35 ∧ f ≠ 36 ∧ f ≠ 37) : xNR (xKeep (xS1 N) r) f = N f := by
  rw [xNR_o h.1, xKeep_o h.2.2.1 h.2.2.2, xS1_o h.2.1]
theorem xI4_o (u : gSt) {f : Nat} (h : f ≠ 34 ∧ f ≠ 33 ∧ f ≠ 30 ∧ f ≠ 31 ∧ f ≠ 26 ∧ f ≠ 27) (h2 : f ≠ 29 ∧ f ≠ 35 ∧ f ≠ 36 ∧ f ≠ 37) : (xI4 u).1 f = u.1 f := by
  unfold xI4
  rw [xNW_o h]
  exact xI3_o u.1 h2
theorem xI4_J (u : gSt) {f : Nat} (h : f ≠ 28 ∧ f ≠ 32) : (xI4 u).2 f = u.2 f := by
  unfold xI4
  rw [xNW_J h]
theorem xStepJ_c {N M : Nat → Nat → Nat} {J K : Nat → Nat → Int64} (h0 : M 0 = N 0) (h1 : M 1 = N 1) (h2 : M 2 = N 2) (h3 : M 3 = N 3) (h13 : M 13 = N 13) : xStepJ M K = xStepJ N K := by
  unfold xStepJ xCl xV xCode xD xA xBB
  rw [h0, h1, h2, h3, h13]
theorem xNx_c {N M : Nat → Nat → Nat} {J K : Nat → Nat → Int64} (h0 : M 0 = N 0) (h2 : M 2 = N 2) (h3 : M 3 = N 3) (h13 : M 13 = N 13) (hJ : K 11 = J 11) : xNx M K = xNx N J := by
  unfold xNx xCode xA xBB
  rw [h0, h2, h3, h13, hJ]
theorem xIss_o (u : gSt) {f : Nat} (h0 : f ≠ 24 ∧ f ≠ 13) (h : f ≠ 34 ∧ f ≠ 33 ∧ f ≠ 30 ∧ f ≠ 31 ∧ f ≠ 26 ∧ f ≠ 27) (h2 : f ≠ 29 ∧ f ≠ 35 ∧ f ≠ 36 ∧ f ≠ 37) : (xIss u).1 f = u.1 f := by
  unfold xIss xI5
  show uN (uN (xI4 u).1 13 _ _) 24 _ _ f = _
  rw [uN_o h0.1, uN_o h0.2, xI4_o u h h2]
theorem xIss_4 (u : gSt) {f : Nat} (h0 : f ≠ 24 ∧ f ≠ 13) : (xIss u).1 f = (xI4 u).1 f := by
  unfold xIss xI5
  show uN (uN (xI4 u).1 13 _ _) 24 _ _ f = _
  rw [uN_o h0.1, uN_o h0.2]
theorem xIss_24 (u : gSt) : (xIss u).1 24 0 = u.1 24 0 + 1 := rfl
theorem xIss_13 (u : gSt) : (xIss u).1 13 0 = xNx u.1 u.2 := rfl
theorem xI3_35 (N : Nat → Nat → Nat) (r : Nat) : xNR (xKeep (xS1 N) r) 35 = xS1 N 35 := by
  rw [xNR_o (by decide), xKeep_o (by decide) (by decide)]
theorem xNW_34 (N : Nat → Nat → Nat) (J : Nat → Nat → Int64) : (xNW (N, J)).1 34 0 = max (N 34 0) (N 35 5) := by
  unfold xNW
  split
  · rfl
  · split <;> rfl
theorem xNW_33 (N : Nat → Nat → Nat) (J : Nat → Nat → Int64) : (xNW (N, J)).1 33 0 = if kdN (xCode N) = 5 then N 35 5 else N 33 0 := by
  unfold xNW
  by_cases h : kdN (xCode N) = 5
  · rw [if_pos (show kdN (xCode (N, J).1) = 5 from h), if_pos h]
    rfl
  · rw [if_neg (show ¬ kdN (xCode (N, J).1) = 5 from h), if_neg h]
    split <;> rfl
theorem xNW_30 (N : Nat → Nat → Nat) (J : Nat → Nat → Int64) : (xNW (N, J)).1 30 0 = if xCode N = 15 then xCl N J else N 30 0 := by
  unfold xNW
  by_cases h : kdN (xCode N) = 5
  · have h2 : ¬ xCode N = 15 := fun z => by rw [z] at h; cases h
    rw [if_pos (show kdN (xCode (N, J).1) = 5 from h), if_neg h2]
    rfl
  · rw [if_neg (show ¬ kdN (xCode (N, J).1) = 5 from h)]
    by_cases h2 : xCode N = 15
    · rw [if_pos (show xCode (N, J).1 = 15 from h2), if_pos h2]
      rfl
    · rw [if_neg (show ¬ xCode (N, J).1 = 15 from h2), if_neg h2]
      rfl
theorem xNW_31 (N : Nat → Nat → Nat) (J : Nat → Nat → Int64) : (xNW (N, J)).1 31 0 = if xCode N = 15 then N 35 5 else N 31 0 := by
  unfold xNW
  by_cases h : kdN (xCode N) = 5
  · have h2 : ¬ xCode N = 15 := fun z => by rw [z] at h; cases h
    rw [if_pos (show kdN (xCode (N, J).1) = 5 from h), if_neg h2]
    rfl
  · rw [if_neg (show ¬ kdN (xCode (N, J).1) = 5 from h)]
    by_cases h2 : xCode N = 15
    · rw [if_pos (show xCode (N, J).1 = 15 from h2), if_pos h2]
      rfl
    · rw [if_neg (show ¬ xCode (N, J).1 = 15 from h2), if_neg h2]
      rfl
theorem xNW_27 (N : Nat → Nat → Nat) (J : Nat → Nat → Int64) (j : Nat) : (xNW (N, J)).1 27 j = if (kdN (xCode N) ≠ 5 ∧ xCode N ≠ 15) ∧ j = xD N then N 35 5 else N 27 j := by
  unfold xNW
  by_cases h : kdN (xCode N) = 5
  · rw [if_pos (show kdN (xCode (N, J).1) = 5 from h), if_neg (fun z => z.1.1 h)]
    rfl
  · rw [if_neg (show ¬ kdN (xCode (N, J).1) = 5 from h)]
    by_cases h2 : xCode N = 15
    · rw [if_pos (show xCode (N, J).1 = 15 from h2), if_neg (fun z => z.1.2 h2)]
      rfl
    · rw [if_neg (show ¬ xCode (N, J).1 = 15 from h2)]
      show uN (uN (uN N 34 0 (max (N 34 0) (N 35 5))) 26 (xD N) (N 24 0)) 27 (xD N) (N 35 5) 27 j = _
      rw [uN_s]
      by_cases h3 : j = xD N
      · rw [if_pos h3, if_pos ⟨⟨h, h2⟩, h3⟩]
      · rw [if_neg h3, if_neg (fun z => h3 z.2)]
        rfl
theorem xNW_26 (N : Nat → Nat → Nat) (J : Nat → Nat → Int64) (j : Nat) : (xNW (N, J)).1 26 j = if (kdN (xCode N) ≠ 5 ∧ xCode N ≠ 15) ∧ j = xD N then N 24 0 else N 26 j := by
  unfold xNW
  by_cases h : kdN (xCode N) = 5
  · rw [if_pos (show kdN (xCode (N, J).1) = 5 from h), if_neg (fun z => z.1.1 h)]
    rfl
  · rw [if_neg (show ¬ kdN (xCode (N, J).1) = 5 from h)]
    by_cases h2 : xCode N = 15
    · rw [if_pos (show xCode (N, J).1 = 15 from h2), if_neg (fun z => z.1.2 h2)]
      rfl
    · rw [if_neg (show ¬ xCode (N, J).1 = 15 from h2)]
      show uN (uN (uN N 34 0 (max (N 34 0) (N 35 5))) 26 (xD N) (N 24 0)) 27 (xD N) (N 35 5) 26 j = _
      rw [uN_o (by decide), uN_s]
      by_cases h3 : j = xD N
      · rw [if_pos h3, if_pos ⟨⟨h, h2⟩, h3⟩]
      · rw [if_neg h3, if_neg (fun z => h3 z.2)]
        rfl
theorem xNW_J28 (N : Nat → Nat → Nat) (J : Nat → Nat → Int64) (j : Nat) : (xNW (N, J)).2 28 j = if (kdN (xCode N) ≠ 5 ∧ xCode N ≠ 15) ∧ j = xD N then J 11 (xD N) else J 28 j := by
  unfold xNW
  by_cases h : kdN (xCode N) = 5
  · rw [if_pos (show kdN (xCode (N, J).1) = 5 from h), if_neg (fun z => z.1.1 h)]
  · rw [if_neg (show ¬ kdN (xCode (N, J).1) = 5 from h)]
    by_cases h2 : xCode N = 15
    · rw [if_pos (show xCode (N, J).1 = 15 from h2), if_neg (fun z => z.1.2 h2)]
      rfl
    · rw [if_neg (show ¬ xCode (N, J).1 = 15 from h2)]
      show uJ J 28 (xD N) (J 11 (xD N)) 28 j = _
      rw [uJ_s]
      by_cases h3 : j = xD N
      · rw [if_pos h3, if_pos ⟨⟨h, h2⟩, h3⟩]
      · rw [if_neg h3, if_neg (fun z => h3 z.2)]
theorem xNW_J32 (N : Nat → Nat → Nat) (J : Nat → Nat → Int64) : (xNW (N, J)).2 32 0 = if xCode N = 15 then J 12 (xCl N J) else J 32 0 := by
  unfold xNW
  by_cases h : kdN (xCode N) = 5
  · have h2 : ¬ xCode N = 15 := fun z => by rw [z] at h; cases h
    rw [if_pos (show kdN (xCode (N, J).1) = 5 from h), if_neg h2]
  · rw [if_neg (show ¬ kdN (xCode (N, J).1) = 5 from h)]
    by_cases h2 : xCode N = 15
    · rw [if_pos (show xCode (N, J).1 = 15 from h2), if_pos h2]
      rfl
    · rw [if_neg (show ¬ xCode (N, J).1 = 15 from h2), if_neg h2]
      rfl
theorem xI3_c (u : gSt) : xCode (xNR (xKeep (xS1 u.1) (xU u.1))) = xCode u.1 ∧ xD (xNR (xKeep (xS1 u.1) (xU u.1))) = xD u.1 ∧ (∀ J, xCl (xNR (xKeep (xS1 u.1) (xU u.1))) J = xCl u.1 J) ∧ xNR (xKeep (xS1 u.1) (xU u.1)) 35 5 = xWn u.1 := by
  refine ⟨?_, ?_, fun J => ?_, ?_⟩
  · unfold xCode
    rw [xI3_o u.1 (by decide), xI3_o u.1 (by decide)]
  · unfold xD
    rw [xI3_o u.1 (by decide), xI3_o u.1 (by decide)]
  · unfold xCl xA xBB
    rw [xI3_o u.1 (by decide), xI3_o u.1 (by decide), xI3_o u.1 (by decide)]
  · rw [xI3_35]
    rfl
theorem xIss_34 (u : gSt) : (xIss u).1 34 0 = max (u.1 34 0) (xWn u.1) := by
  rw [xIss_4 u (by decide)]
  unfold xI4
  rw [xNW_34, (xI3_c u).2.2.2, xI3_o u.1 (by decide)]
theorem xIss_33 (u : gSt) : (xIss u).1 33 0 = if kdN (xCode u.1) = 5 then xWn u.1 else u.1 33 0 := by
  rw [xIss_4 u (by decide)]
  unfold xI4
  rw [xNW_33, (xI3_c u).2.2.2, (xI3_c u).1, xI3_o u.1 (by decide)]
theorem xIss_30 (u : gSt) : (xIss u).1 30 0 = if xCode u.1 = 15 then xCl u.1 u.2 else u.1 30 0 := by
  rw [xIss_4 u (by decide)]
  unfold xI4
  rw [xNW_30, (xI3_c u).1, (xI3_c u).2.2.1, xI3_o u.1 (by decide)]
theorem xIss_31 (u : gSt) : (xIss u).1 31 0 = if xCode u.1 = 15 then xWn u.1 else u.1 31 0 := by
  rw [xIss_4 u (by decide)]
  unfold xI4
  rw [xNW_31, (xI3_c u).1, (xI3_c u).2.2.2, xI3_o u.1 (by decide)]
theorem xIss_27 (u : gSt) (j : Nat) : (xIss u).1 27 j = if (kdN (xCode u.1) ≠ 5 ∧ xCode u.1 ≠ 15) ∧ j = xD u.1 then xWn u.1 else u.1 27 j := by
  rw [xIss_4 u (by decide)]
  unfold xI4
  rw [xNW_27, (xI3_c u).1, (xI3_c u).2.1, (xI3_c u).2.2.2, xI3_o u.1 (by decide)]
theorem xIss_26 (u : gSt) (j : Nat) : (xIss u).1 26 j = if (kdN (xCode u.1) ≠ 5 ∧ xCode u.1 ≠ 15) ∧ j = xD u.1 then u.1 24 0 else u.1 26 j := by
  rw [xIss_4 u (by decide)]
  unfold xI4
  rw [xNW_26, (xI3_c u).1, (xI3_c u).2.1, xI3_o u.1 (by decide), xI3_o u.1 (by decide)]
theorem xIss_J28 (u : gSt) (j : Nat) : (xIss u).2 28 j = if (kdN (xCode u.1) ≠ 5 ∧ xCode u.1 ≠ 15) ∧ j = xD u.1 then u.2 11 (xD u.1) else u.2 28 j := by
  show xStepJ u.1 (xI4 u).2 28 j = _
  have e : xStepJ u.1 (xI4 u).2 28 j = (xI4 u).2 28 j := by
    unfold xStepJ
    split
    · rfl
    · split <;> rfl
  rw [e]
  unfold xI4
  rw [xNW_J28, (xI3_c u).1, (xI3_c u).2.1]
theorem xIss_J32 (u : gSt) : (xIss u).2 32 0 = if xCode u.1 = 15 then u.2 12 (xCl u.1 u.2) else u.2 32 0 := by
  show xStepJ u.1 (xI4 u).2 32 0 = _
  have e : xStepJ u.1 (xI4 u).2 32 0 = (xI4 u).2 32 0 := by
    unfold xStepJ
    split
    · rfl
    · split <;> rfl
  rw [e]
  unfold xI4
  rw [xNW_J32, (xI3_c u).1, (xI3_c u).2.2.1]
theorem xIss_29 (u : gSt) (j : Nat) : (xIss u).1 29 j = if (xRA (xCode u.1) ∧ j = xA u.1) ∨ (xRB (xCode u.1) ∧ j = xBB u.1 % 16) ∨ (xCode u.1 = 15 ∧ j = xD u.1) then max (u.1 29 j) (xa3 u.1 + 1) else u.1 29 j := by
  rw [xIss_4 u (by decide)]
  unfold xI4
  rw [xNW_o (by decide)]
  show xNR (xKeep (xS1 u.1) (xU u.1)) 29 j = _
  have e35 : xKeep (xS1 u.1) (xU u.1) 35 3 = xa3 u.1 + 1 := rfl
  have e29 : xKeep (xS1 u.1) (xU u.1) 29 = u.1 29 := rfl
  have ec : xCode (xKeep (xS1 u.1) (xU u.1)) = xCode u.1 := rfl
  have ea : xA (xKeep (xS1 u.1) (xU u.1)) = xA u.1 := rfl
  have eb : xBB (xKeep (xS1 u.1) (xU u.1)) = xBB u.1 := rfl
  have ed : xD (xKeep (xS1 u.1) (xU u.1)) = xD u.1 := rfl
  generalize xKeep (xS1 u.1) (xU u.1) = X at *
  have g1 : ∀ (Y : Nat → Nat → Nat) (k : Nat) (p : Prop) [Decidable p], Y 35 3 = xa3 u.1 + 1 → (if p then xNr Y k else Y) 29 j = if p ∧ j = k then max (Y 29 j) (xa3 u.1 + 1) else Y 29 j := by
    intro Y k p _ hY
    by_cases h : p
    · rw [if_pos h]
      unfold xNr
      rw [uN_s, hY]
      by_cases hj : j = k
      · rw [if_pos hj, if_pos ⟨h, hj⟩, hj]
      · rw [if_neg hj, if_neg (fun z => hj z.2)]
    · rw [if_neg h, if_neg (fun z => h z.1)]
  have h1 : xNR1 X 35 3 = xa3 u.1 + 1 := by rw [xNR1_o (by decide), e35]
  have h2 : xNR2 X (xNR1 X) 35 3 = xa3 u.1 + 1 := by rw [xNR2_o (by decide), h1]
  unfold xNR xNR3
  rw [g1 _ _ _ h2]
  unfold xNR2
  rw [g1 _ _ _ h1]
  unfold xNR1
  rw [g1 _ _ _ e35, e29, ec, ea, eb, ed]
  exact mx3
theorem xIss_36 (u : gSt) (i : Nat) : (xIss u).1 36 i = if xU u.1 * 6 ≤ i ∧ i < xU u.1 * 6 + 6 then xS1 u.1 35 (i - xU u.1 * 6) else u.1 36 i := by
  rw [xIss_4 u (by decide)]
  unfold xI4
  rw [xNW_o (by decide)]
  show xNR (xKeep (xS1 u.1) (xU u.1)) 36 i = _
  rw [xNR_o (by decide)]
  rfl
theorem xIss_37 (u : gSt) (i : Nat) : (xIss u).1 37 i = if u.1 24 0 % 64 * 6 ≤ i ∧ i < u.1 24 0 % 64 * 6 + 6 then xS1 u.1 35 (i - u.1 24 0 % 64 * 6) else u.1 37 i := by
  rw [xIss_4 u (by decide)]
  unfold xI4
  rw [xNW_o (by decide)]
  show xNR (xKeep (xS1 u.1) (xU u.1)) 37 i = _
  rw [xNR_o (by decide)]
  rfl
theorem xIss_J11 (u : gSt) (j : Nat) : (xIss u).2 11 j = if xWD (xCode u.1) ∧ j = xD u.1 then xV u.1 u.2 else u.2 11 j := by
  show xStepJ u.1 (xI4 u).2 11 j = _
  have e11 : (xI4 u).2 11 = u.2 11 := xI4_J u (by decide)
  have e12 : (xI4 u).2 12 = u.2 12 := xI4_J u (by decide)
  have eV : xV u.1 (xI4 u).2 = xV u.1 u.2 := by unfold xV; rw [e11, e12]
  unfold xStepJ
  by_cases h : xCode u.1 = 15
  · rw [if_pos h, if_neg (fun z => by omega), uJ_o (by decide), e11]
  · rw [if_neg h]
    by_cases h2 : xWD (xCode u.1)
    · rw [if_pos h2, uJ_s, eV, e11]
      by_cases h3 : j = xD u.1
      · rw [if_pos h3, if_pos ⟨h2, h3⟩]
      · rw [if_neg h3, if_neg (fun z => h3 z.2)]
    · rw [if_neg h2, if_neg (fun z => h2 z.1), e11]
theorem xIss_J12 (u : gSt) (j : Nat) : (xIss u).2 12 j = if xCode u.1 = 15 ∧ j = xCl u.1 u.2 then u.2 11 (xD u.1) else u.2 12 j := by
  show xStepJ u.1 (xI4 u).2 12 j = _
  have e11 : (xI4 u).2 11 = u.2 11 := xI4_J u (by decide)
  have e12 : (xI4 u).2 12 = u.2 12 := xI4_J u (by decide)
  have eC : xCl u.1 (xI4 u).2 = xCl u.1 u.2 := by unfold xCl; rw [e11]
  unfold xStepJ
  by_cases h : xCode u.1 = 15
  · rw [if_pos h, uJ_s, eC, e11, e12]
    by_cases h3 : j = xCl u.1 u.2
    · rw [if_pos h3, if_pos ⟨h, h3⟩]
    · rw [if_neg h3, if_neg (fun z => h3 z.2)]
  · rw [if_neg h, if_neg (show ¬ (xCode u.1 = 15 ∧ j = xCl u.1 u.2) from fun z => h z.1)]
    by_cases h2 : xWD (xCode u.1)
    · rw [if_pos h2, uJ_o (by decide), e12]
    · rw [if_neg h2, e12]
theorem xIss_Jo (u : gSt) {f : Nat} (h : f ≠ 28 ∧ f ≠ 32) (h2 : f ≠ 11 ∧ f ≠ 12) : (xIss u).2 f = u.2 f := by
  show xStepJ u.1 (xI4 u).2 f = _
  unfold xStepJ
  split
  · rw [uJ_o h2.2, xI4_J u h]
  · split
    · rw [uJ_o h2.1, xI4_J u h]
    · exact xI4_J u h
