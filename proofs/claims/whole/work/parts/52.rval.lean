/-! what the units hold, behind an issue of both -/
theorem xFr_w {N : Nat → Nat → Nat} {k : Nat} (hf : xFr N k ≤ 2) : N 36 (6 * (k * 3 + xFr N k) + 5) < N 22 0 ∧ xFr N k ≤ 2 := by
  refine ⟨?_, hf⟩
  have e : ∀ i, 6 * (k * 3 + i) + 5 = (k * 3 + i) * 6 + 5 := fun i => by omega
  rw [e]
  unfold xFr at hf ⊢
  by_cases z0 : N 36 ((k * 3 + 0) * 6 + 5) < N 22 0
  · rw [if_pos z0]
    exact z0
  · rw [if_neg z0] at hf ⊢
    by_cases z1 : 1 < N 4 k ∧ N 36 ((k * 3 + 1) * 6 + 5) < N 22 0
    · rw [if_pos z1]
      exact z1.2
    · rw [if_neg z1] at hf ⊢
      by_cases z2 : 2 < N 4 k ∧ N 36 ((k * 3 + 2) * 6 + 5) < N 22 0
      · rw [if_pos z2]
        exact z2.2
      · rw [if_neg z2] at hf
        omega
set_option maxHeartbeats 4000000 in
theorem rVal_iss {x m : gSt} (hS : rSet x m) (hC : rCor x m) (hI : xInv x.1) (hM : mInv m.1) (hc : 1 ≤ xCode x.1) (hh : xHin x.1 = 0) (hV : rVal x m (x.1 22 0)) : rVal (xIss x) (mIss m (x.1 22 0)) (x.1 22 0) := by
  have hx := hI.1
  obtain ⟨e1, e2, e3, e4⟩ := rEq hS hC hx
  obtain ⟨eV, eX, eL⟩ := rEqV hS hC hx
  obtain ⟨eR, eD, eW⟩ := rEqT hS hC hx hc
  obtain ⟨hh1, hf, hh3⟩ := xHin_0 hh
  have eU := rEqU hS hC hx hf
  have hp := hx.2 _ hx.1
  have hcd : xCode x.1 ≤ 18 := hp.1
  have hd : xD x.1 < 16 := hp.2.1
  have hcl : xCl x.1 x.2 < 256 := clN_lt _
  have hkd : kdN (xCode x.1) ≠ 5 ∧ xCode x.1 ≠ 15 ↔ xCode x.1 < 15 := by
    unfold kdN
    (repeat' split) <;> omega
  have hwU := (xFr_w hf).1
  have hU18 : xU x.1 < 18 := by
    have := kdN_lt (xCode x.1)
    unfold xU
    omega
  have hto := hM.2.2.2.2.2.2.2.2.2.2.2.2
  have h30 : x.1 30 0 < 256 := hI.2.2.2.2.2.2.2.2.1
  have hwb := xW_bd hI
  -- behind the commits
  have hV0 : rVal x (mI1 m.1 (x.1 22 0), m.2) (x.1 22 0) := hV
  have hVC : rVal x (mC m (x.1 22 0)) (x.1 22 0) := by
    unfold mC
    exact rVal_CA hV0 (by omega) hto h30 18 (Nat.le_refl 18)
  have hop : ∀ k, k < 18 → (mC m (x.1 22 0)).1 24 k ≠ 0 → x.1 22 0 ≤ m.1 22 (7 * k + 5) := by
    intro k hk h
    unfold mC at h
    exact mCA_open (m := (mI1 m.1 (x.1 22 0), m.2)) 18 k hk h
  have n22 : (mC m (x.1 22 0)).1 22 = m.1 22 := mC_o m (by decide) (by decide)
  have n19 : (mC m (x.1 22 0)).1 19 = m.1 19 := mC_o m (by decide) (by decide)
  have j23 : (mC m (x.1 22 0)).2 23 = m.2 23 := mC_J m (by decide) (by decide)
  have j6 : (mC m (x.1 22 0)).2 6 = m.2 6 := mC_J m (by decide) (by decide)
  have j7 : (mC m (x.1 22 0)).2 7 = m.2 7 := mC_J m (by decide) (by decide)
  have s9 : (mIss m (x.1 22 0)).2 9 = (mC m (x.1 22 0)).2 9 := mIss_Jo m (by decide)
  have s10 : (mIss m (x.1 22 0)).2 10 = (mC m (x.1 22 0)).2 10 := mIss_Jo m (by decide)
  have s24 : ∀ k, (mIss m (x.1 22 0)).1 24 k = if k = xU x.1 then 1 else (mC m (x.1 22 0)).1 24 k := fun k => by rw [mIss_24, eU]
  have s6 : ∀ k, (mIss m (x.1 22 0)).1 22 (7 * k + 6) = if k = xU x.1 then mTo m.1 m.2 else m.1 22 (7 * k + 6) := fun k => by rw [mIss_22, mI4_6, eU]
  have s5 : ∀ k, (mIss m (x.1 22 0)).1 22 (7 * k + 5) = if k = xU x.1 then xWn x.1 else m.1 22 (7 * k + 5) := fun k => by rw [mIss_22, mI4_5, eU, eW]
  have s19 : ∀ j, (mIss m (x.1 22 0)).1 19 j = if xCode x.1 < 15 ∧ j = xD x.1 then xWn x.1 else m.1 19 j := fun j => by rw [mIss_19, e1, e2, eW]
  have s23 : ∀ k, (mIss m (x.1 22 0)).2 23 k = if k = xU x.1 then xV x.1 x.2 else m.2 23 k := fun k => by rw [mIss_J23, eU, eV]
  have t6 : ∀ j, (mIss m (x.1 22 0)).2 6 j = if xCode x.1 < 15 ∧ j = xD x.1 then xV x.1 x.2 else m.2 6 j := fun j => by rw [mIss_J6, e1, e2, eV]
  have t7 : ∀ j, (mIss m (x.1 22 0)).2 7 j = if xCode x.1 = 15 ∧ j = xCl x.1 x.2 then xV x.1 x.2 else m.2 7 j := fun j => by rw [mIss_J7, e1, eL, eV]
  have x28 : ∀ j, (xIss x).2 28 j = if xCode x.1 < 15 ∧ j = xD x.1 then x.2 11 (xD x.1) else x.2 28 j := by
    intro j
    rw [xIss_J28]
    by_cases z : xCode x.1 < 15 ∧ j = xD x.1
    · rw [if_pos z, if_pos ⟨hkd.mpr z.1, z.2⟩]
    · rw [if_neg z, if_neg (fun y => z ⟨hkd.mp y.1, y.2⟩)]
  have x30 := xIss_30 x
  have x31 := xIss_31 x
  have x32 := xIss_J32 x
  have hTo : mTo m.1 m.2 = if xCode x.1 < 15 then xD x.1 else if xCode x.1 = 15 then 16 + xCl x.1 x.2 else 4294967295 := by
    unfold mTo mCl
    rw [e1, e2, eL]
  have jd : m.2 6 (xD x.1) = x.2 11 (xD x.1) := hC.2.2.2.2.2.2.2.1 _ hd
  have j12 : m.2 7 (xCl x.1 x.2) = x.2 12 (xCl x.1 x.2) := hC.2.2.2.2.2.2.2.2 _ hcl
  have wd : m.1 19 (xD x.1) = x.1 27 (xD x.1) := (hC.2.2.2.2.1 _ hd).1
  have wU : m.1 22 (7 * xU x.1 + 5) = x.1 36 (6 * xU x.1 + 5) := (hC.2.2.2.2.2.1 _ hU18).1
  have u4 : x.1 4 4 = 1 := by rw [← (hS.2.1 4 (by decide)).1]; exact hS.2.2.2.1
  clear hV hV0 hS hC hM
  generalize mIss m (x.1 22 0) = M' at *
  generalize xIss x = X' at *
  generalize mC m (x.1 22 0) = C at *
  obtain ⟨v1, v2, v3, v4, v5, v6, v7, v8⟩ := hVC
  rw [n22, n19, j23, j6] at v1
  rw [n22, j23, j7] at v2
  rw [n22, j6] at v3
  rw [n22, j7] at v4
  rw [n22] at v5 v6 v7 v8
  rw [n19] at v7
  have cU : C.1 24 (xU x.1) = 0 := Classical.byContradiction fun z => by
    have := hop _ hU18 z
    rw [wU] at this
    have hwU : x.1 36 (6 * xU x.1 + 5) < x.1 22 0 := hwU
    omega
  -- none is open for the register d
  have nod : xCode x.1 < 15 → ∀ k, k < 18 → C.1 24 k ≠ 0 → m.1 22 (7 * k + 6) ≠ xD x.1 := by
    intro z k hk ho he
    have h1 := (v1 k hk ho (by omega)).1
    rw [he, wd] at h1
    have h2 := hop k hk ho
    have h3 := hh3 ⟨hc, by omega⟩
    omega
  -- none is open for the memory
  have nom : xCode x.1 = 15 → ∀ k, k < 18 → C.1 24 k ≠ 0 → 16 ≤ m.1 22 (7 * k + 6) → ¬ m.1 22 (7 * k + 6) < 272 := by
    intro z k hk ho h1 h2
    have h3 := (v2 k hk ho h1 h2).1
    have hk4 : kdN (xCode x.1) = 4 := by rw [z]; rfl
    have hfr : xFr x.1 4 = 0 := by
      rw [hk4] at hf
      unfold xFr at hf ⊢
      rw [u4] at hf ⊢
      by_cases y : x.1 36 ((4 * 3 + 0) * 6 + 5) < x.1 22 0
      · rw [if_pos y]
      · rw [if_neg y, if_neg (by omega), if_neg (by omega)] at hf
        omega
    have hu : xU x.1 = 12 := by unfold xU; rw [hk4, hfr]
    rw [h3] at ho
    rw [hu] at cU
    exact ho cU
  have o' : ∀ k, M'.1 24 k ≠ 0 → k ≠ xU x.1 → C.1 24 k ≠ 0 := fun k h1 h2 => by rw [s24, if_neg h2] at h1; exact h1
  have o2 : ∀ k, C.1 24 k ≠ 0 → k ≠ xU x.1 := fun k h1 h2 => h1 (by rw [h2]; exact cU)
  have o3 : ∀ k, C.1 24 k ≠ 0 → M'.1 24 k ≠ 0 := fun k h1 => by rw [s24, if_neg (o2 k h1)]; exact h1
  have oU : M'.1 24 (xU x.1) ≠ 0 := by rw [s24, if_pos rfl]; decide
  unfold rVal
  rw [s9, s10]
  refine ⟨?_, ?_, ?_, ?_, ?_, ?_, ?_, ?_⟩
  · intro k hk ho ht
    by_cases z : k = xU x.1
    · rw [s6, if_pos z, hTo] at ht ⊢
      by_cases z1 : xCode x.1 < 15
      · rw [if_pos z1, s5, if_pos z, s19, if_pos ⟨z1, rfl⟩, s23, if_pos z, t6, if_pos ⟨z1, rfl⟩, x28, if_pos ⟨z1, rfl⟩, ← jd]
        exact ⟨rfl, rfl, v3 _ hd (nod z1)⟩
      · rw [if_neg z1] at ht
        split at ht <;> omega
    · have hoC := o' k ho z
      rw [s6, if_neg z] at ht ⊢
      obtain ⟨a1, a2, a3⟩ := v1 k hk hoC ht
      have hnd : ¬ (xCode x.1 < 15 ∧ m.1 22 (7 * k + 6) = xD x.1) := fun y => nod y.1 k hk hoC y.2
      rw [s5, if_neg z, s19, if_neg hnd, s23, if_neg z, t6, if_neg hnd, x28, if_neg hnd]
      exact ⟨a1, a2, a3⟩
  · intro k hk ho ht ht2
    by_cases z : k = xU x.1
    · rw [s6, if_pos z, hTo] at ht ht2 ⊢
      by_cases z1 : xCode x.1 < 15
      · rw [if_pos z1] at ht
        omega
      · rw [if_neg z1] at ht ht2 ⊢
        by_cases z2 : xCode x.1 = 15
        · rw [if_pos z2] at ht ht2 ⊢
          have hk4 : kdN (xCode x.1) = 4 := by rw [z2]; rfl
          have hfr : xFr x.1 4 = 0 := by
            rw [hk4] at hf
            unfold xFr at hf ⊢
            rw [u4] at hf ⊢
            by_cases y : x.1 36 ((4 * 3 + 0) * 6 + 5) < x.1 22 0
            · rw [if_pos y]
            · rw [if_neg y, if_neg (by omega), if_neg (by omega)] at hf
              omega
          have hu : xU x.1 = 12 := by unfold xU; rw [hk4, hfr]
          have e16 : 16 + xCl x.1 x.2 - 16 = xCl x.1 x.2 := by omega
          rw [x30, if_pos z2, x31, if_pos z2, s5, if_pos z, s23, if_pos z, e16, t7, if_pos ⟨z2, rfl⟩, x32, if_pos z2, ← j12]
          refine ⟨z.trans hu, by omega, rfl, rfl, v4 _ hcl (fun i hi hoi hti => nom z2 i hi hoi (by omega) (by omega))⟩
        · rw [if_neg z2] at ht2
          omega
    · have hoC := o' k ho z
      rw [s6, if_neg z] at ht ht2 ⊢
      have hn15 : ¬ xCode x.1 = 15 := fun y => nom y k hk hoC ht ht2
      obtain ⟨a1, a2, a3, a4, a5⟩ := v2 k hk hoC ht ht2
      rw [x30, if_neg hn15, x31, if_neg hn15, s5, if_neg z, s23, if_neg z, t7, if_neg (fun y => hn15 y.1), x32, if_neg hn15]
      exact ⟨a1, a2, a3, a4, a5⟩
  · intro j hj hn
    have hnd : ¬ (xCode x.1 < 15 ∧ j = xD x.1) := fun y => hn _ hU18 oU (by rw [s6, if_pos rfl, hTo, if_pos y.1]; exact y.2.symm)
    rw [t6, if_neg hnd]
    exact v3 j hj (fun k hk ho he => hn k hk (o3 k ho) (by rw [s6, if_neg (o2 k ho)]; exact he))
  · intro j hj hn
    have hnd : ¬ (xCode x.1 = 15 ∧ j = xCl x.1 x.2) := fun y => hn _ hU18 oU (by rw [s6, if_pos rfl, hTo, if_neg (by omega), if_pos y.1, y.2])
    rw [t7, if_neg hnd]
    exact v4 j hj (fun k hk ho he => hn k hk (o3 k ho) (by rw [s6, if_neg (o2 k ho)]; exact he))
  · intro k k' hk hk' ho ho' he hlt
    by_cases z : k = xU x.1
    · by_cases z' : k' = xU x.1
      · rw [z, z']
      · exfalso
        have hoC := o' k' ho' z'
        rw [s6, if_pos z, hTo] at he hlt
        rw [s6, if_neg z'] at he
        by_cases z1 : xCode x.1 < 15
        · rw [if_pos z1] at he
          exact nod z1 k' hk' hoC he.symm
        · rw [if_neg z1] at he hlt
          by_cases z2 : xCode x.1 = 15
          · rw [if_pos z2] at he hlt
            exact nom z2 k' hk' hoC (by omega) (by omega)
          · rw [if_neg z2] at hlt
            omega
    · have hoC := o' k ho z
      by_cases z' : k' = xU x.1
      · exfalso
        rw [s6, if_neg z] at he hlt
        rw [s6, if_pos z', hTo] at he
        by_cases z1 : xCode x.1 < 15
        · rw [if_pos z1] at he
          exact nod z1 k hk hoC he
        · rw [if_neg z1] at he
          by_cases z2 : xCode x.1 = 15
          · rw [if_pos z2] at he
            exact nom z2 k hk hoC (by omega) (by omega)
          · rw [if_neg z2] at he
            omega
      · have hoC' := o' k' ho' z'
        rw [s6, if_neg z] at he hlt
        rw [s6, if_neg z'] at he
        exact v5 k k' hk hk' hoC hoC' he hlt
  · intro k hk ho
    by_cases z : k = xU x.1
    · rw [z] at ho
      exact absurd ho oU
    · rw [s24, if_neg z] at ho
      rw [s5, if_neg z]
      exact v6 k hk ho
  · intro j hj
    by_cases z : xCode x.1 < 15 ∧ j = xD x.1
    · exact Or.inl ⟨xU x.1, hU18, oU, by rw [s6, if_pos rfl, hTo, if_pos z.1]; exact z.2.symm⟩
    · rw [s19, if_neg z]
      rcases v7 j hj with ⟨k, hk, ho, he⟩ | y
      · exact Or.inl ⟨k, hk, o3 k ho, by rw [s6, if_neg (o2 k ho)]; exact he⟩
      · exact Or.inr y
  · by_cases z : xCode x.1 = 15
    · exact Or.inl ⟨xU x.1, hU18, oU, by rw [s6, if_pos rfl, hTo, if_neg (by omega), if_pos z, x30, if_pos z]⟩
    · rw [x30, if_neg z, x31, if_neg z]
      rcases v8 with ⟨k, hk, ho, he⟩ | y
      · exact Or.inl ⟨k, hk, o3 k ho, by rw [s6, if_neg (o2 k ho)]; exact he⟩
      · exact Or.inr y
