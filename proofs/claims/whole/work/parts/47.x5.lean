theorem bz {x : Nat} (h : (if x = 0 then 0 else 1 : Nat) ≠ 0) : x ≠ 0 := fun z => h (by rw [if_pos z])
theorem bz0 {x : Nat} (h : (if x = 0 then 0 else 1 : Nat) = 0) : x = 0 := Classical.byContradiction fun z => by rw [if_neg z] at h; cases h
theorem bzL {x : Nat} : (if x = 0 then 0 else 1 : Nat) < 2147483648 := by split <;> decide
set_option maxHeartbeats 4000000 in
set_option maxRecDepth 100000 in
theorem tA_put_bad (l : Launch) (dC : Nat → ClassId) (dI : Nat → Nat → Nat) (a : Nat → Nat) (cI cL cZ : ClassId) (N : Nat → Nat → Nat) (J : Nat → Nat → Int64) (v1 v2 v3 v4 v5 : Int32) (hcy : N 22 0 < 2147483648) (hb0 : ¬ (N 22 0 = 0 ∧ 0 ≤ v1.toInt ∧ v1.toInt < 256 ∧ 0 ≤ v2.toInt ∧ v2.toInt < 19 ∧ 0 ≤ v3.toInt ∧ v3.toInt < 16 ∧ 0 ≤ v4.toInt ∧ v4.toInt < 16)) : MetI l yX3_put wsX3_put ({ frames := 1, cells := 0, slots := 0, locals := 21 } : Room) dC dI (gT cI cL cZ) (xF a cI cL cZ) (xL a) (N, J) [.ref (a 0), .int (v1), .int (v2), .int (v3), .int (v4), .int (v5)] (fun r u => r = nI 0 ∧ u = (N, J)) := by
  intro sz
  refine g_entry (bytes := cX3_put) (maxL := 6) (ret := (some .boolean)) (Qc := fun sz => va_Qi (fun r u => r = nI 0 ∧ u = (N, J)) (gB dC dI (xF a cI cL cZ)) (aA (xL a) sz)) (by decide) rfl (Nat.le_of_ble_eq_true rfl) rfl ?_
  intro p e s m below meth c ls hx hb hr hml hts hown hlocks hK hP hD hS hZ hl
  have hP : va_P (dC, dI) vwCl (xW a cI cL cZ N J) s.heap := hP
  have hD : va_D (aA (xL a) s.heap.size) (xW a cI cL cZ N J) := hD
  have hown : s.vm.findClass RX3 = some m.cls := hown
  have hl : lv_has ls 6 [(0, .ref (a 0)), (1, .int (v1)), (2, .int (v2)), (3, .int (v3)), (4, .int (v4)), (5, .int (v5))] := hl
  obtain ⟨hnest, tk, tf, hz1, hz2, -, -⟩ := id hZ
  refine lv_aload_n hx hb dX3_put_0 rfl (lv_at hl 0 rfl) ?_
  refine g_calli (u := (N, J)) (g_runV (As := []) (rest := []) ⟨hx, hb, hml, hown, hts⟩ (tA_began l dC dI a cI cL cZ N J hcy s.heap.size) (cwV 0 hts gX3_put_X3_began rfl rfl rfl (by decide +kernel) ⟨Nat.le_of_ble_eq_true rfl, Nat.le_of_ble_eq_true rfl⟩) (va_recv hK hP (ci := 3) (q0 := 0) rfl rfl) hK hP hD hS hZ rfl hl.1 rfl (Nat.le_of_ble_eq_true rfl) dX3_put_1) (xW_L a cI cL cZ) hD hS (fun r_1 u H locs hw hP hD hS => ?_)
  obtain ⟨rfl, rfl⟩ := hw
  have hP : va_P (dC, dI) vwCl (xW a cI cL cZ N J) H := hP
  have hD : va_D (aA (xL a) s.heap.size) (xW a cI cL cZ N J) := hD
  refine n_if_ne (tgt := 47) hx hb bzL dX3_put_4 (by decide) (fun c_4 => ?_) (fun c_4 => ?_)
  · have w4 := bz c_4
    refine lv_iconst (v := nI 0) hx hb dX3_put_47 (by decide) ?_
    exact g_retz hx hb hr hlocks (by decide) (N, J) (⟨rfl, rfl⟩) hP hS dX3_put_48
  · have w4 := bz0 c_4
    refine lv_iload_n hx hb dX3_put_7 rfl (lv_at hl 1 rfl) ?_
    refine lv_sipush (v := nI 256) hx hb dX3_put_8 (by decide) ?_
    refine s_calli (As := [.int (v1), .int (nI (256))]) (rest := []) ⟨hx, hb, hml, hown, hts⟩ (tA_within l v1 256 (by first | decide | assumption | omega)) (va_cwS 2 hts gX3_put_X3_within rfl rfl rfl (by decide +kernel) ⟨Nat.le_of_ble_eq_true rfl, Nat.le_of_ble_eq_true rfl⟩) rfl hl.1 rfl (Nat.le_of_ble_eq_true rfl) dX3_put_11 (fun r_11 hw => ?_)
    subst hw
    refine n_if_eq (tgt := 47) hx hb bL dX3_put_14 (by decide) (fun c_14 => ?_) (fun c_14 => ?_)
    · have w14 := b0 c_14
      refine lv_iconst (v := nI 0) hx hb dX3_put_47 (by decide) ?_
      exact g_retz hx hb hr hlocks (by decide) (N, J) (⟨rfl, rfl⟩) hP hS dX3_put_48
    · have w14 := b1 c_14
      refine lv_iload_n hx hb dX3_put_17 rfl (lv_at hl 2 rfl) ?_
      refine va_gets hx hb hz1 hS hown (hts (.fieldLink RX3 42 "ScoreMachine" "KIND_OF_CODE" "[I") (by decide +kernel)) (fun _ h => h) dX3_put_18 ?_
      refine va_tlen (v := nI 19) hx hb hz2 hS rfl dX3_put_21 ?_
      refine s_calli (As := [.int (v2), .int (nI (19))]) (rest := []) ⟨hx, hb, hml, hown, hts⟩ (tA_within l v2 19 (by first | decide | assumption | omega)) (va_cwS 2 hts gX3_put_X3_within rfl rfl rfl (by decide +kernel) ⟨Nat.le_of_ble_eq_true rfl, Nat.le_of_ble_eq_true rfl⟩) rfl hl.1 rfl (Nat.le_of_ble_eq_true rfl) dX3_put_22 (fun r_22 hw => ?_)
      subst hw
      refine n_if_eq (tgt := 47) hx hb bL dX3_put_25 (by decide) (fun c_25 => ?_) (fun c_25 => ?_)
      · have w25 := b0 c_25
        refine lv_iconst (v := nI 0) hx hb dX3_put_47 (by decide) ?_
        exact g_retz hx hb hr hlocks (by decide) (N, J) (⟨rfl, rfl⟩) hP hS dX3_put_48
      · have w25 := b1 c_25
        refine lv_iload_n hx hb dX3_put_28 rfl (lv_at hl 3 rfl) ?_
        refine lv_bipush (v := nI 16) hx hb dX3_put_29 (by decide) ?_
        refine s_calli (As := [.int (v3), .int (nI (16))]) (rest := []) ⟨hx, hb, hml, hown, hts⟩ (tA_within l v3 16 (by first | decide | assumption | omega)) (va_cwS 2 hts gX3_put_X3_within rfl rfl rfl (by decide +kernel) ⟨Nat.le_of_ble_eq_true rfl, Nat.le_of_ble_eq_true rfl⟩) rfl hl.1 rfl (Nat.le_of_ble_eq_true rfl) dX3_put_31 (fun r_31 hw => ?_)
        subst hw
        refine n_if_eq (tgt := 47) hx hb bL dX3_put_34 (by decide) (fun c_34 => ?_) (fun c_34 => ?_)
        · have w34 := b0 c_34
          refine lv_iconst (v := nI 0) hx hb dX3_put_47 (by decide) ?_
          exact g_retz hx hb hr hlocks (by decide) (N, J) (⟨rfl, rfl⟩) hP hS dX3_put_48
        · have w34 := b1 c_34
          refine lv_iload hx hb dX3_put_37 (lv_at hl 4 rfl) ?_
          refine lv_bipush (v := nI 16) hx hb dX3_put_39 (by decide) ?_
          refine s_calli (As := [.int (v4), .int (nI (16))]) (rest := []) ⟨hx, hb, hml, hown, hts⟩ (tA_within l v4 16 (by first | decide | assumption | omega)) (va_cwS 2 hts gX3_put_X3_within rfl rfl rfl (by decide +kernel) ⟨Nat.le_of_ble_eq_true rfl, Nat.le_of_ble_eq_true rfl⟩) rfl hl.1 rfl (Nat.le_of_ble_eq_true rfl) dX3_put_41 (fun r_41 hw => ?_)
          subst hw
          refine n_if_ne (tgt := 49) hx hb bL dX3_put_44 (by decide) (fun c_44 => absurd c_44 (fun z => absurd (b1 z) (fun y => hb0 ⟨w4, w14.1, w14.2, w25.1, w25.2, w34.1, w34.2, y.1, y.2⟩))) (fun c_44 => ?_)
          refine lv_iconst (v := nI 0) hx hb dX3_put_47 (by decide) ?_
          exact g_retz hx hb hr hlocks (by decide) (N, J) (⟨rfl, rfl⟩) hP hS dX3_put_48
set_option maxHeartbeats 4000000 in
set_option maxRecDepth 100000 in
theorem tA_put (l : Launch) (dC : Nat → ClassId) (dI : Nat → Nat → Nat) (a : Nat → Nat) (cI cL cZ : ClassId) (N : Nat → Nat → Nat) (J : Nat → Nat → Int64) (pl k d x B : Nat) (hc : N 22 0 = 0) (hp : pl < 256) (hk : k ≤ 18) (hd : d < 16) (hx2 : x < 16) : MetI l yX3_put wsX3_put ({ frames := 1, cells := 0, slots := 0, locals := 21 } : Room) dC dI (gT cI cL cZ) (xF a cI cL cZ) (xL a) (N, J) [.ref (a 0), .int (nI (pl)), .int (nI (k)), .int (nI (d)), .int (nI (x)), .int (nI (B))] (fun r u => r = nI 1 ∧ u = (uN (uN (uN (uN N 0 pl k) 1 pl d) 2 pl x) 3 pl B, J)) := by
  intro sz
  refine g_entry (bytes := cX3_put) (maxL := 6) (ret := (some .boolean)) (Qc := fun sz => va_Qi (fun r u => r = nI 1 ∧ u = (uN (uN (uN (uN N 0 pl k) 1 pl d) 2 pl x) 3 pl B, J)) (gB dC dI (xF a cI cL cZ)) (aA (xL a) sz)) (by decide) rfl (Nat.le_of_ble_eq_true rfl) rfl ?_
  intro p e s m below meth c ls hx hb hr hml hts hown hlocks hK hP hD hS hZ hl
  have hP : va_P (dC, dI) vwCl (xW a cI cL cZ N J) s.heap := hP
  have hD : va_D (aA (xL a) s.heap.size) (xW a cI cL cZ N J) := hD
  have hown : s.vm.findClass RX3 = some m.cls := hown
  have hl : lv_has ls 6 [(0, .ref (a 0)), (1, .int (nI (pl))), (2, .int (nI (k))), (3, .int (nI (d))), (4, .int (nI (x))), (5, .int (nI (B)))] := hl
  have hi2 : ∀ w ∈ wsX20, w ∈ wsX3_put := by decide +kernel
  have hi3 : ∀ w ∈ wsX30, w ∈ wsX3_put := by decide +kernel
  have k10 := hts (.fieldLink RX3 10 "ScoreMachine" "setup" "LScoreMachine$Setup;") (by decide +kernel)
  have k46 := hts (.fieldLink RX3 46 "ScoreMachine$Setup" "codes" "[I") (by decide +kernel)
  have k49 := hts (.fieldLink RX3 49 "ScoreMachine$Setup" "ds" "[I") (by decide +kernel)
  have k52 := hts (.fieldLink RX3 52 "ScoreMachine$Setup" "as" "[I") (by decide +kernel)
  have k55 := hts (.fieldLink RX3 55 "ScoreMachine$Setup" "bs" "[I") (by decide +kernel)
  obtain ⟨hnest, tk, tf, hz1, hz2, -, -⟩ := id hZ
  refine lv_aload_n hx hb dX3_put_0 rfl (lv_at hl 0 rfl) ?_
  refine g_calli (u := (N, J)) (g_runV (As := []) (rest := []) ⟨hx, hb, hml, hown, hts⟩ (tA_began l dC dI a cI cL cZ N J (by omega) s.heap.size) (cwV 0 hts gX3_put_X3_began rfl rfl rfl (by decide +kernel) ⟨Nat.le_of_ble_eq_true rfl, Nat.le_of_ble_eq_true rfl⟩) (va_recv hK hP (ci := 3) (q0 := 0) rfl rfl) hK hP hD hS hZ rfl hl.1 rfl (Nat.le_of_ble_eq_true rfl) dX3_put_1) (xW_L a cI cL cZ) hD hS (fun r_1 u H locs hw hP hD hS => ?_)
  obtain ⟨hr9, hu9⟩ := hw
  rw [if_pos hc] at hr9
  subst hr9
  subst hu9
  have hP : va_P (dC, dI) vwCl (xW a cI cL cZ N J) H := hP
  have hD : va_D (aA (xL a) s.heap.size) (xW a cI cL cZ N J) := hD
  refine n_if_ne (tgt := 47) hx hb (by omega) dX3_put_4 (by decide) (fun c_4 => absurd c_4 (by decide)) (fun c_4 => ?_)
  refine lv_iload_n hx hb dX3_put_7 rfl (lv_at hl 1 rfl) ?_
  refine lv_sipush (v := nI 256) hx hb dX3_put_8 (by decide) ?_
  refine s_calli (As := [.int (nI (pl)), .int (nI (256))]) (rest := []) ⟨hx, hb, hml, hown, hts⟩ (tA_within l (nI pl) 256 (by first | decide | omega)) (va_cwS 2 hts gX3_put_X3_within rfl rfl rfl (by decide +kernel) ⟨Nat.le_of_ble_eq_true rfl, Nat.le_of_ble_eq_true rfl⟩) rfl hl.1 rfl (Nat.le_of_ble_eq_true rfl) dX3_put_11 (fun r_11 hw => ?_)
  rw [if_pos (by rw [i_ti (by omega)]; omega)] at hw
  subst hw
  refine n_if_eq (tgt := 47) hx hb (by omega) dX3_put_14 (by decide) (fun c_14 => absurd c_14 (by decide)) (fun c_14 => ?_)
  refine lv_iload_n hx hb dX3_put_17 rfl (lv_at hl 2 rfl) ?_
  refine va_gets hx hb hz1 hS hown (hts (.fieldLink RX3 42 "ScoreMachine" "KIND_OF_CODE" "[I") (by decide +kernel)) (fun _ h => h) dX3_put_18 ?_
  refine va_tlen (v := nI 19) hx hb hz2 hS rfl dX3_put_21 ?_
  refine s_calli (As := [.int (nI (k)), .int (nI (19))]) (rest := []) ⟨hx, hb, hml, hown, hts⟩ (tA_within l (nI k) 19 (by first | decide | omega)) (va_cwS 2 hts gX3_put_X3_within rfl rfl rfl (by decide +kernel) ⟨Nat.le_of_ble_eq_true rfl, Nat.le_of_ble_eq_true rfl⟩) rfl hl.1 rfl (Nat.le_of_ble_eq_true rfl) dX3_put_22 (fun r_22 hw => ?_)
  rw [if_pos (by rw [i_ti (by omega)]; omega)] at hw
  subst hw
  refine n_if_eq (tgt := 47) hx hb (by omega) dX3_put_25 (by decide) (fun c_25 => absurd c_25 (by decide)) (fun c_25 => ?_)
  refine lv_iload_n hx hb dX3_put_28 rfl (lv_at hl 3 rfl) ?_
  refine lv_bipush (v := nI 16) hx hb dX3_put_29 (by decide) ?_
  refine s_calli (As := [.int (nI (d)), .int (nI (16))]) (rest := []) ⟨hx, hb, hml, hown, hts⟩ (tA_within l (nI d) 16 (by first | decide | omega)) (va_cwS 2 hts gX3_put_X3_within rfl rfl rfl (by decide +kernel) ⟨Nat.le_of_ble_eq_true rfl, Nat.le_of_ble_eq_true rfl⟩) rfl hl.1 rfl (Nat.le_of_ble_eq_true rfl) dX3_put_31 (fun r_31 hw => ?_)
  rw [if_pos (by rw [i_ti (by omega)]; omega)] at hw
  subst hw
  refine n_if_eq (tgt := 47) hx hb (by omega) dX3_put_34 (by decide) (fun c_34 => absurd c_34 (by decide)) (fun c_34 => ?_)
  refine lv_iload hx hb dX3_put_37 (lv_at hl 4 rfl) ?_
  refine lv_bipush (v := nI 16) hx hb dX3_put_39 (by decide) ?_
  refine s_calli (As := [.int (nI (x)), .int (nI (16))]) (rest := []) ⟨hx, hb, hml, hown, hts⟩ (tA_within l (nI x) 16 (by first | decide | omega)) (va_cwS 2 hts gX3_put_X3_within rfl rfl rfl (by decide +kernel) ⟨Nat.le_of_ble_eq_true rfl, Nat.le_of_ble_eq_true rfl⟩) rfl hl.1 rfl (Nat.le_of_ble_eq_true rfl) dX3_put_41 (fun r_41 hw => ?_)
  rw [if_pos (by rw [i_ti (by omega)]; omega)] at hw
  subst hw
  refine n_if_ne (tgt := 49) hx hb (by omega) dX3_put_44 (by decide) (fun c_44 => ?_) (fun c_44 => absurd c_44 (by decide))
  refine lv_aload_n hx hb dX3_put_49 rfl (lv_at hl 0 rfl) ?_
  refine xg_60 hx hb hts hi3 hown hK hP k10 dX3_put_50 ?_
  refine xg_0 hx hb hts hi2 hown hK hP k46 dX3_put_53 ?_
  refine lv_iload_n hx hb dX3_put_56 rfl (lv_at hl 1 rfl) ?_
  refine lv_iload_n hx hb dX3_put_57 rfl (lv_at hl 2 rfl) ?_
  refine xs_0 hx hb hK hP hD hS (by omega) dX3_put_58 (fun H locs hP hD hS => ?_)
  refine lv_aload_n hx hb dX3_put_59 rfl (lv_at hl 0 rfl) ?_
  refine xg_60 hx hb hts hi3 hown hK hP k10 dX3_put_60 ?_
  refine xg_1 hx hb hts hi2 hown hK hP k49 dX3_put_63 ?_
  refine lv_iload_n hx hb dX3_put_66 rfl (lv_at hl 1 rfl) ?_
  refine lv_iload_n hx hb dX3_put_67 rfl (lv_at hl 3 rfl) ?_
  refine xs_1 hx hb hK hP hD hS (by omega) dX3_put_68 (fun H locs hP hD hS => ?_)
  refine lv_aload_n hx hb dX3_put_69 rfl (lv_at hl 0 rfl) ?_
  refine xg_60 hx hb hts hi3 hown hK hP k10 dX3_put_70 ?_
  refine xg_2 hx hb hts hi2 hown hK hP k52 dX3_put_73 ?_
  refine lv_iload_n hx hb dX3_put_76 rfl (lv_at hl 1 rfl) ?_
  refine lv_iload hx hb dX3_put_77 (lv_at hl 4 rfl) ?_
  refine xs_2 hx hb hK hP hD hS (by omega) dX3_put_79 (fun H locs hP hD hS => ?_)
  refine lv_aload_n hx hb dX3_put_80 rfl (lv_at hl 0 rfl) ?_
  refine xg_60 hx hb hts hi3 hown hK hP k10 dX3_put_81 ?_
  refine xg_3 hx hb hts hi2 hown hK hP k55 dX3_put_84 ?_
  refine lv_iload_n hx hb dX3_put_87 rfl (lv_at hl 1 rfl) ?_
  refine lv_iload hx hb dX3_put_88 (lv_at hl 5 rfl) ?_
  refine xs_3 hx hb hK hP hD hS (by omega) dX3_put_90 (fun H locs hP hD hS => ?_)
  refine lv_iconst (v := nI 1) hx hb dX3_put_91 (by decide) ?_
  exact g_retz hx hb hr hlocks (by decide) ((uN (uN (uN (uN N 0 (pl) (k)) 1 (pl) (d)) 2 (pl) (x)) 3 (pl) (B)), J) (⟨rfl, rfl⟩) hP hS dX3_put_92
set_option maxHeartbeats 4000000 in
set_option maxRecDepth 100000 in
theorem tA_units_bad (l : Launch) (dC : Nat → ClassId) (dI : Nat → Nat → Nat) (a : Nat → Nat) (cI cL cZ : ClassId) (N : Nat → Nat → Nat) (J : Nat → Nat → Int64) (v1 : Int32) (v2 : Int32) (hcy : N 22 0 < 2147483648) (hb0 : ¬ (N 22 0 = 0 ∧ 0 ≤ v1.toInt ∧ v1.toInt < 4 ∧ 1 ≤ v2.toInt ∧ v2.toInt < 4)) : MetI l yX3_units wsX3_units ({ frames := 1, cells := 0, slots := 0, locals := 21 } : Room) dC dI (gT cI cL cZ) (xF a cI cL cZ) (xL a) (N, J) [.ref (a 0), .int (v1), .int (v2)] (fun r u => r = nI 0 ∧ u = (N, J)) := by
  intro sz
  refine g_entry (bytes := cX3_units) (maxL := 3) (ret := (some .boolean)) (Qc := fun sz => va_Qi (fun r u => r = nI 0 ∧ u = (N, J)) (gB dC dI (xF a cI cL cZ)) (aA (xL a) sz)) (by decide) rfl (Nat.le_of_ble_eq_true rfl) rfl ?_
  intro p e s m below meth c ls hx hb hr hml hts hown hlocks hK hP hD hS hZ hl
  have hP : va_P (dC, dI) vwCl (xW a cI cL cZ N J) s.heap := hP
  have hD : va_D (aA (xL a) s.heap.size) (xW a cI cL cZ N J) := hD
  have hown : s.vm.findClass RX3 = some m.cls := hown
  have hl : lv_has ls 3 [(0, .ref (a 0)), (1, .int (v1)), (2, .int (v2))] := hl
  refine lv_aload_n hx hb dX3_units_0 rfl (lv_at hl 0 rfl) ?_
  refine g_calli (u := (N, J)) (g_runV (As := []) (rest := []) ⟨hx, hb, hml, hown, hts⟩ (tA_began l dC dI a cI cL cZ N J hcy s.heap.size) (cwV 0 hts gX3_units_X3_began rfl rfl rfl (by decide +kernel) ⟨Nat.le_of_ble_eq_true rfl, Nat.le_of_ble_eq_true rfl⟩) (va_recv hK hP (ci := 3) (q0 := 0) rfl rfl) hK hP hD hS hZ rfl hl.1 rfl (Nat.le_of_ble_eq_true rfl) dX3_units_1) (xW_L a cI cL cZ) hD hS (fun r_1 u H locs hw hP hD hS => ?_)
  obtain ⟨rfl, rfl⟩ := hw
  have hP : va_P (dC, dI) vwCl (xW a cI cL cZ N J) H := hP
  have hD : va_D (aA (xL a) s.heap.size) (xW a cI cL cZ N J) := hD
  refine n_if_ne (tgt := 25) hx hb bzL dX3_units_4 (by decide) (fun c_4 => ?_) (fun c_4 => ?_)
  · have w4 := bz c_4
    refine lv_iconst (v := nI 0) hx hb dX3_units_25 (by decide) ?_
    exact g_retz hx hb hr hlocks (by decide) (N, J) (⟨rfl, rfl⟩) hP hS dX3_units_26
  · have w4 := bz0 c_4
    refine lv_iload_n hx hb dX3_units_7 rfl (lv_at hl 1 rfl) ?_
    refine lv_iconst (v := nI 4) hx hb dX3_units_8 (by decide) ?_
    refine s_calli (As := [.int (v1), .int (nI (4))]) (rest := []) ⟨hx, hb, hml, hown, hts⟩ (tA_within l v1 4 (by first | decide | assumption | omega)) (va_cwS 2 hts gX3_units_X3_within rfl rfl rfl (by decide +kernel) ⟨Nat.le_of_ble_eq_true rfl, Nat.le_of_ble_eq_true rfl⟩) rfl hl.1 rfl (Nat.le_of_ble_eq_true rfl) dX3_units_9 (fun r_9 hw => ?_)
    subst hw
    refine n_if_eq (tgt := 25) hx hb bL dX3_units_12 (by decide) (fun c_12 => ?_) (fun c_12 => ?_)
    · have w12 := b0 c_12
      refine lv_iconst (v := nI 0) hx hb dX3_units_25 (by decide) ?_
      exact g_retz hx hb hr hlocks (by decide) (N, J) (⟨rfl, rfl⟩) hP hS dX3_units_26
    · have w12 := b1 c_12
      refine lv_iload_n hx hb dX3_units_15 rfl (lv_at hl 2 rfl) ?_
      refine lv_iconst (v := nI 1) hx hb dX3_units_16 (by decide) ?_
      refine lv_icmp_lt (tgt := 25) hx hb dX3_units_17 (by decide) (fun c_17 => ?_) (fun c_17 => ?_)
      · refine lv_iconst (v := nI 0) hx hb dX3_units_25 (by decide) ?_
        exact g_retz hx hb hr hlocks (by decide) (N, J) (⟨rfl, rfl⟩) hP hS dX3_units_26
      · refine lv_iload_n hx hb dX3_units_20 rfl (lv_at hl 2 rfl) ?_
        refine lv_iconst (v := nI 3) hx hb dX3_units_21 (by decide) ?_
        refine lv_icmp_le (tgt := 27) hx hb dX3_units_22 (by decide) (fun c_22 => absurd c_22 (by simp (disch := first | decide | assumption) only [i_lt0, i_ge0, i_ltc, i_lec, i_cle, i_clt, i_eqc, i_eq0, Int32.not_lt, Int32.not_le] at *; omega)) (fun c_22 => ?_)
        refine lv_iconst (v := nI 0) hx hb dX3_units_25 (by decide) ?_
        exact g_retz hx hb hr hlocks (by decide) (N, J) (⟨rfl, rfl⟩) hP hS dX3_units_26
set_option maxHeartbeats 4000000 in
set_option maxRecDepth 100000 in
theorem tA_latency_bad (l : Launch) (dC : Nat → ClassId) (dI : Nat → Nat → Nat) (a : Nat → Nat) (cI cL cZ : ClassId) (N : Nat → Nat → Nat) (J : Nat → Nat → Int64) (v1 : Int32) (v2 : Int32) (hcy : N 22 0 < 2147483648) (hb0 : ¬ (N 22 0 = 0 ∧ 0 ≤ v1.toInt ∧ v1.toInt < 6 ∧ 1 ≤ v2.toInt ∧ v2.toInt < 31)) : MetI l yX3_latency wsX3_latency ({ frames := 1, cells := 0, slots := 0, locals := 21 } : Room) dC dI (gT cI cL cZ) (xF a cI cL cZ) (xL a) (N, J) [.ref (a 0), .int (v1), .int (v2)] (fun r u => r = nI 0 ∧ u = (N, J)) := by
  intro sz
  refine g_entry (bytes := cX3_latency) (maxL := 3) (ret := (some .boolean)) (Qc := fun sz => va_Qi (fun r u => r = nI 0 ∧ u = (N, J)) (gB dC dI (xF a cI cL cZ)) (aA (xL a) sz)) (by decide) rfl (Nat.le_of_ble_eq_true rfl) rfl ?_
  intro p e s m below meth c ls hx hb hr hml hts hown hlocks hK hP hD hS hZ hl
  have hP : va_P (dC, dI) vwCl (xW a cI cL cZ N J) s.heap := hP
  have hD : va_D (aA (xL a) s.heap.size) (xW a cI cL cZ N J) := hD
  have hown : s.vm.findClass RX3 = some m.cls := hown
  have hl : lv_has ls 3 [(0, .ref (a 0)), (1, .int (v1)), (2, .int (v2))] := hl
  refine lv_aload_n hx hb dX3_latency_0 rfl (lv_at hl 0 rfl) ?_
  refine g_calli (u := (N, J)) (g_runV (As := []) (rest := []) ⟨hx, hb, hml, hown, hts⟩ (tA_began l dC dI a cI cL cZ N J hcy s.heap.size) (cwV 0 hts gX3_latency_X3_began rfl rfl rfl (by decide +kernel) ⟨Nat.le_of_ble_eq_true rfl, Nat.le_of_ble_eq_true rfl⟩) (va_recv hK hP (ci := 3) (q0 := 0) rfl rfl) hK hP hD hS hZ rfl hl.1 rfl (Nat.le_of_ble_eq_true rfl) dX3_latency_1) (xW_L a cI cL cZ) hD hS (fun r_1 u H locs hw hP hD hS => ?_)
  obtain ⟨rfl, rfl⟩ := hw
  have hP : va_P (dC, dI) vwCl (xW a cI cL cZ N J) H := hP
  have hD : va_D (aA (xL a) s.heap.size) (xW a cI cL cZ N J) := hD
  refine n_if_ne (tgt := 27) hx hb bzL dX3_latency_4 (by decide) (fun c_4 => ?_) (fun c_4 => ?_)
  · have w4 := bz c_4
    refine lv_iconst (v := nI 0) hx hb dX3_latency_27 (by decide) ?_
    exact g_retz hx hb hr hlocks (by decide) (N, J) (⟨rfl, rfl⟩) hP hS dX3_latency_28
  · have w4 := bz0 c_4
    refine lv_iload_n hx hb dX3_latency_7 rfl (lv_at hl 1 rfl) ?_
    refine lv_bipush (v := nI 6) hx hb dX3_latency_8 (by decide) ?_
    refine s_calli (As := [.int (v1), .int (nI (6))]) (rest := []) ⟨hx, hb, hml, hown, hts⟩ (tA_within l v1 6 (by first | decide | assumption | omega)) (va_cwS 2 hts gX3_latency_X3_within rfl rfl rfl (by decide +kernel) ⟨Nat.le_of_ble_eq_true rfl, Nat.le_of_ble_eq_true rfl⟩) rfl hl.1 rfl (Nat.le_of_ble_eq_true rfl) dX3_latency_10 (fun r_10 hw => ?_)
    subst hw
    refine n_if_eq (tgt := 27) hx hb bL dX3_latency_13 (by decide) (fun c_13 => ?_) (fun c_13 => ?_)
    · have w13 := b0 c_13
      refine lv_iconst (v := nI 0) hx hb dX3_latency_27 (by decide) ?_
      exact g_retz hx hb hr hlocks (by decide) (N, J) (⟨rfl, rfl⟩) hP hS dX3_latency_28
    · have w13 := b1 c_13
      refine lv_iload_n hx hb dX3_latency_16 rfl (lv_at hl 2 rfl) ?_
      refine lv_iconst (v := nI 1) hx hb dX3_latency_17 (by decide) ?_
      refine lv_icmp_lt (tgt := 27) hx hb dX3_latency_18 (by decide) (fun c_18 => ?_) (fun c_18 => ?_)
      · refine lv_iconst (v := nI 0) hx hb dX3_latency_27 (by decide) ?_
        exact g_retz hx hb hr hlocks (by decide) (N, J) (⟨rfl, rfl⟩) hP hS dX3_latency_28
      · refine lv_iload_n hx hb dX3_latency_21 rfl (lv_at hl 2 rfl) ?_
        refine lv_bipush (v := nI 30) hx hb dX3_latency_22 (by decide) ?_
        refine lv_icmp_le (tgt := 29) hx hb dX3_latency_24 (by decide) (fun c_24 => absurd c_24 (by simp (disch := first | decide | assumption) only [i_lt0, i_ge0, i_ltc, i_lec, i_cle, i_clt, i_eqc, i_eq0, Int32.not_lt, Int32.not_le] at *; omega)) (fun c_24 => ?_)
        refine lv_iconst (v := nI 0) hx hb dX3_latency_27 (by decide) ?_
        exact g_retz hx hb hr hlocks (by decide) (N, J) (⟨rfl, rfl⟩) hP hS dX3_latency_28
set_option maxHeartbeats 4000000 in
set_option maxRecDepth 100000 in
theorem tA_width_bad (l : Launch) (dC : Nat → ClassId) (dI : Nat → Nat → Nat) (a : Nat → Nat) (cI cL cZ : ClassId) (N : Nat → Nat → Nat) (J : Nat → Nat → Int64) (v1 : Int32) (hcy : N 22 0 < 2147483648) (hb0 : ¬ (N 22 0 = 0 ∧ 1 ≤ v1.toInt ∧ v1.toInt < 5)) : MetI l yX3_width wsX3_width ({ frames := 1, cells := 0, slots := 0, locals := 20 } : Room) dC dI (gT cI cL cZ) (xF a cI cL cZ) (xL a) (N, J) [.ref (a 0), .int (v1)] (fun r u => r = nI 0 ∧ u = (N, J)) := by
  intro sz
  refine g_entry (bytes := cX3_width) (maxL := 2) (ret := (some .boolean)) (Qc := fun sz => va_Qi (fun r u => r = nI 0 ∧ u = (N, J)) (gB dC dI (xF a cI cL cZ)) (aA (xL a) sz)) (by decide) rfl (Nat.le_of_ble_eq_true rfl) rfl ?_
  intro p e s m below meth c ls hx hb hr hml hts hown hlocks hK hP hD hS hZ hl
  have hP : va_P (dC, dI) vwCl (xW a cI cL cZ N J) s.heap := hP
  have hD : va_D (aA (xL a) s.heap.size) (xW a cI cL cZ N J) := hD
  have hown : s.vm.findClass RX3 = some m.cls := hown
  have hl : lv_has ls 2 [(0, .ref (a 0)), (1, .int (v1))] := hl
  refine lv_aload_n hx hb dX3_width_0 rfl (lv_at hl 0 rfl) ?_
  refine g_calli (u := (N, J)) (g_runV (As := []) (rest := []) ⟨hx, hb, hml, hown, hts⟩ (tA_began l dC dI a cI cL cZ N J hcy s.heap.size) (cwV 0 hts gX3_width_X3_began rfl rfl rfl (by decide +kernel) ⟨Nat.le_of_ble_eq_true rfl, Nat.le_of_ble_eq_true rfl⟩) (va_recv hK hP (ci := 3) (q0 := 0) rfl rfl) hK hP hD hS hZ rfl hl.1 rfl (Nat.le_of_ble_eq_true rfl) dX3_width_1) (xW_L a cI cL cZ) hD hS (fun r_1 u H locs hw hP hD hS => ?_)
  obtain ⟨rfl, rfl⟩ := hw
  have hP : va_P (dC, dI) vwCl (xW a cI cL cZ N J) H := hP
  have hD : va_D (aA (xL a) s.heap.size) (xW a cI cL cZ N J) := hD
  refine n_if_ne (tgt := 17) hx hb bzL dX3_width_4 (by decide) (fun c_4 => ?_) (fun c_4 => ?_)
  · have w4 := bz c_4
    refine lv_iconst (v := nI 0) hx hb dX3_width_17 (by decide) ?_
    exact g_retz hx hb hr hlocks (by decide) (N, J) (⟨rfl, rfl⟩) hP hS dX3_width_18
  · have w4 := bz0 c_4
    refine lv_iload_n hx hb dX3_width_7 rfl (lv_at hl 1 rfl) ?_
    refine lv_iconst (v := nI 1) hx hb dX3_width_8 (by decide) ?_
    refine lv_icmp_lt (tgt := 17) hx hb dX3_width_9 (by decide) (fun c_9 => ?_) (fun c_9 => ?_)
    · refine lv_iconst (v := nI 0) hx hb dX3_width_17 (by decide) ?_
      exact g_retz hx hb hr hlocks (by decide) (N, J) (⟨rfl, rfl⟩) hP hS dX3_width_18
    · refine lv_iload_n hx hb dX3_width_12 rfl (lv_at hl 1 rfl) ?_
      refine lv_iconst (v := nI 4) hx hb dX3_width_13 (by decide) ?_
      refine lv_icmp_le (tgt := 19) hx hb dX3_width_14 (by decide) (fun c_14 => absurd c_14 (by simp (disch := first | decide | assumption) only [i_lt0, i_ge0, i_ltc, i_lec, i_cle, i_clt, i_eqc, i_eq0, Int32.not_lt, Int32.not_le] at *; omega)) (fun c_14 => ?_)
      refine lv_iconst (v := nI 0) hx hb dX3_width_17 (by decide) ?_
      exact g_retz hx hb hr hlocks (by decide) (N, J) (⟨rfl, rfl⟩) hP hS dX3_width_18
set_option maxHeartbeats 4000000 in
set_option maxRecDepth 100000 in
theorem tA_set_bad (l : Launch) (dC : Nat → ClassId) (dI : Nat → Nat → Nat) (a : Nat → Nat) (cI cL cZ : ClassId) (N : Nat → Nat → Nat) (J : Nat → Nat → Int64) (v1 : Int32) (v2 : Int32) (v3 : Int64) (hcy : N 22 0 < 2147483648) (hb0 : ¬ (N 22 0 = 0 ∧ ((v1.toInt = 0 ∧ 0 ≤ v2.toInt ∧ v2.toInt < 16) ∨ (v1.toInt = 1 ∧ 0 ≤ v2.toInt ∧ v2.toInt < 256)))) : MetI l yX3_set wsX3_set ({ frames := 2, cells := 0, slots := 0, locals := 42 } : Room) dC dI (gT cI cL cZ) (xF a cI cL cZ) (xL a) (N, J) [.ref (a 0), .int (v1), .int (v2), .long (v3)] (fun r u => r = nI 0 ∧ u = (N, J)) := by
  intro sz
  refine g_entry (bytes := cX3_set) (maxL := 5) (ret := (some .boolean)) (Qc := fun sz => va_Qi (fun r u => r = nI 0 ∧ u = (N, J)) (gB dC dI (xF a cI cL cZ)) (aA (xL a) sz)) (by decide) rfl (Nat.le_of_ble_eq_true rfl) rfl ?_
  intro p e s m below meth c ls hx hb hr hml hts hown hlocks hK hP hD hS hZ hl
  have hP : va_P (dC, dI) vwCl (xW a cI cL cZ N J) s.heap := hP
  have hD : va_D (aA (xL a) s.heap.size) (xW a cI cL cZ N J) := hD
  have hown : s.vm.findClass RX3 = some m.cls := hown
  have hl : lv_has ls 5 [(0, .ref (a 0)), (1, .int (v1)), (2, .int (v2)), (3, .long (v3))] := hl
  refine lv_aload_n hx hb dX3_set_0 rfl (lv_at hl 0 rfl) ?_
  refine g_calli (u := (N, J)) (g_runV (As := []) (rest := []) ⟨hx, hb, hml, hown, hts⟩ (tA_began l dC dI a cI cL cZ N J hcy s.heap.size) (cwV 0 hts gX3_set_X3_began rfl rfl rfl (by decide +kernel) ⟨Nat.le_of_ble_eq_true rfl, Nat.le_of_ble_eq_true rfl⟩) (va_recv hK hP (ci := 3) (q0 := 0) rfl rfl) hK hP hD hS hZ rfl hl.1 rfl (Nat.le_of_ble_eq_true rfl) dX3_set_1) (xW_L a cI cL cZ) hD hS (fun r_1 u H locs hw hP hD hS => ?_)
  obtain ⟨rfl, rfl⟩ := hw
  have hP : va_P (dC, dI) vwCl (xW a cI cL cZ N J) H := hP
  have hD : va_D (aA (xL a) s.heap.size) (xW a cI cL cZ N J) := hD
  refine n_if_ne (tgt := 15) hx hb bzL dX3_set_4 (by decide) (fun c_4 => ?_) (fun c_4 => ?_)
  · have w4 := bz c_4
    refine lv_iconst (v := nI 0) hx hb dX3_set_15 (by decide) ?_
    exact g_retz hx hb hr hlocks (by decide) (N, J) (⟨rfl, rfl⟩) hP hS dX3_set_16
  · have w4 := bz0 c_4
    refine lv_iload_n hx hb dX3_set_7 rfl (lv_at hl 1 rfl) ?_
    refine lv_iload_n hx hb dX3_set_8 rfl (lv_at hl 2 rfl) ?_
    refine s_calli (As := [.int (v1), .int (v2)]) (rest := []) ⟨hx, hb, hml, hown, hts⟩ (tA_isThere l v1 v2) (va_cwS 2 hts gX3_set_X3_isThere rfl rfl rfl (by decide +kernel) ⟨Nat.le_of_ble_eq_true rfl, Nat.le_of_ble_eq_true rfl⟩) rfl hl.1 rfl (Nat.le_of_ble_eq_true rfl) dX3_set_9 (fun r_9 hw => ?_)
    subst hw
    refine n_if_ne (tgt := 17) hx hb bL dX3_set_12 (by decide) (fun c_12 => absurd c_12 (fun z => absurd (b1 z) (fun y => hb0 ⟨w4, y⟩))) (fun c_12 => ?_)
    refine lv_iconst (v := nI 0) hx hb dX3_set_15 (by decide) ?_
    exact g_retz hx hb hr hlocks (by decide) (N, J) (⟨rfl, rfl⟩) hP hS dX3_set_16
set_option maxHeartbeats 4000000 in
set_option maxRecDepth 100000 in
theorem tA_units (l : Launch) (dC : Nat → ClassId) (dI : Nat → Nat → Nat) (a : Nat → Nat) (cI cL cZ : ClassId) (N : Nat → Nat → Nat) (J : Nat → Nat → Int64) (k n : Nat) (hc : N 22 0 = 0) (hk : k < 4) (hn : 1 ≤ n) (hn3 : n ≤ 3) : MetI l yX3_units wsX3_units ({ frames := 1, cells := 0, slots := 0, locals := 21 } : Room) dC dI (gT cI cL cZ) (xF a cI cL cZ) (xL a) (N, J) [.ref (a 0), .int (nI (k)), .int (nI (n))] (fun r u => r = nI 1 ∧ u = (uN N 4 k n, J)) := by
  intro sz
  refine g_entry (bytes := cX3_units) (maxL := 3) (ret := (some .boolean)) (Qc := fun sz => va_Qi (fun r u => r = nI 1 ∧ u = (uN N 4 k n, J)) (gB dC dI (xF a cI cL cZ)) (aA (xL a) sz)) (by decide) rfl (Nat.le_of_ble_eq_true rfl) rfl ?_
  intro p e s m below meth c ls hx hb hr hml hts hown hlocks hK hP hD hS hZ hl
  have hP : va_P (dC, dI) vwCl (xW a cI cL cZ N J) s.heap := hP
  have hD : va_D (aA (xL a) s.heap.size) (xW a cI cL cZ N J) := hD
  have hown : s.vm.findClass RX3 = some m.cls := hown
  have hl : lv_has ls 3 [(0, .ref (a 0)), (1, .int (nI (k))), (2, .int (nI (n)))] := hl
  have hi2 : ∀ w ∈ wsX20, w ∈ wsX3_units := by decide +kernel
  have hi3 : ∀ w ∈ wsX30, w ∈ wsX3_units := by decide +kernel
  have k10 := hts (.fieldLink RX3 10 "ScoreMachine" "setup" "LScoreMachine$Setup;") (by decide +kernel)
  have k58 := hts (.fieldLink RX3 58 "ScoreMachine$Setup" "unitsOf" "[I") (by decide +kernel)
  refine lv_aload_n hx hb dX3_units_0 rfl (lv_at hl 0 rfl) ?_
  refine g_calli (u := (N, J)) (g_runV (As := []) (rest := []) ⟨hx, hb, hml, hown, hts⟩ (tA_began l dC dI a cI cL cZ N J (by omega) s.heap.size) (cwV 0 hts gX3_units_X3_began rfl rfl rfl (by decide +kernel) ⟨Nat.le_of_ble_eq_true rfl, Nat.le_of_ble_eq_true rfl⟩) (va_recv hK hP (ci := 3) (q0 := 0) rfl rfl) hK hP hD hS hZ rfl hl.1 rfl (Nat.le_of_ble_eq_true rfl) dX3_units_1) (xW_L a cI cL cZ) hD hS (fun r_1 u H locs hw hP hD hS => ?_)
  obtain ⟨hr9, hu9⟩ := hw
  rw [if_pos hc] at hr9
  subst hr9
  subst hu9
  have hP : va_P (dC, dI) vwCl (xW a cI cL cZ N J) H := hP
  have hD : va_D (aA (xL a) s.heap.size) (xW a cI cL cZ N J) := hD
  refine n_if_ne (tgt := 25) hx hb (by omega) dX3_units_4 (by decide) (fun c_4 => absurd c_4 (by decide)) (fun c_4 => ?_)
  refine lv_iload_n hx hb dX3_units_7 rfl (lv_at hl 1 rfl) ?_
  refine lv_iconst (v := nI 4) hx hb dX3_units_8 (by decide) ?_
  refine s_calli (As := [.int (nI (k)), .int (nI (4))]) (rest := []) ⟨hx, hb, hml, hown, hts⟩ (tA_within l (nI k) 4 (by first | decide | omega)) (va_cwS 2 hts gX3_units_X3_within rfl rfl rfl (by decide +kernel) ⟨Nat.le_of_ble_eq_true rfl, Nat.le_of_ble_eq_true rfl⟩) rfl hl.1 rfl (Nat.le_of_ble_eq_true rfl) dX3_units_9 (fun r_9 hw => ?_)
  rw [if_pos (by rw [i_ti (by omega)]; omega)] at hw
  subst hw
  refine n_if_eq (tgt := 25) hx hb (by omega) dX3_units_12 (by decide) (fun c_12 => absurd c_12 (by decide)) (fun c_12 => ?_)
  refine lv_iload_n hx hb dX3_units_15 rfl (lv_at hl 2 rfl) ?_
  refine lv_iconst (v := nI 1) hx hb dX3_units_16 (by decide) ?_
  refine n_icmp_lt (tgt := 25) hx hb (by omega) (by omega) dX3_units_17 (by decide) (fun c_17 => absurd c_17 (by omega)) (fun c_17 => ?_)
  refine lv_iload_n hx hb dX3_units_20 rfl (lv_at hl 2 rfl) ?_
  refine lv_iconst (v := nI 3) hx hb dX3_units_21 (by decide) ?_
  refine n_icmp_le (tgt := 27) hx hb (by omega) (by omega) dX3_units_22 (by decide) (fun c_22 => ?_) (fun c_22 => absurd c_22 (by omega))
  refine lv_aload_n hx hb dX3_units_27 rfl (lv_at hl 0 rfl) ?_
  refine xg_60 hx hb hts hi3 hown hK hP k10 dX3_units_28 ?_
  refine xg_4 hx hb hts hi2 hown hK hP k58 dX3_units_31 ?_
  refine lv_iload_n hx hb dX3_units_34 rfl (lv_at hl 1 rfl) ?_
  refine lv_iload_n hx hb dX3_units_35 rfl (lv_at hl 2 rfl) ?_
  refine xs_4 hx hb hK hP hD hS (by omega) dX3_units_36 (fun H locs hP hD hS => ?_)
  refine lv_iconst (v := nI 1) hx hb dX3_units_37 (by decide) ?_
  exact g_retz hx hb hr hlocks (by decide) ((uN N 4 (k) (n)), J) (⟨rfl, rfl⟩) hP hS dX3_units_38
set_option maxHeartbeats 4000000 in
set_option maxRecDepth 100000 in
theorem tA_latency (l : Launch) (dC : Nat → ClassId) (dI : Nat → Nat → Nat) (a : Nat → Nat) (cI cL cZ : ClassId) (N : Nat → Nat → Nat) (J : Nat → Nat → Int64) (k n : Nat) (hc : N 22 0 = 0) (hk : k < 6) (hn : 1 ≤ n) (hn3 : n ≤ 30) : MetI l yX3_latency wsX3_latency ({ frames := 1, cells := 0, slots := 0, locals := 21 } : Room) dC dI (gT cI cL cZ) (xF a cI cL cZ) (xL a) (N, J) [.ref (a 0), .int (nI (k)), .int (nI (n))] (fun r u => r = nI 1 ∧ u = (uN N 5 k n, J)) := by
  intro sz
  refine g_entry (bytes := cX3_latency) (maxL := 3) (ret := (some .boolean)) (Qc := fun sz => va_Qi (fun r u => r = nI 1 ∧ u = (uN N 5 k n, J)) (gB dC dI (xF a cI cL cZ)) (aA (xL a) sz)) (by decide) rfl (Nat.le_of_ble_eq_true rfl) rfl ?_
  intro p e s m below meth c ls hx hb hr hml hts hown hlocks hK hP hD hS hZ hl
  have hP : va_P (dC, dI) vwCl (xW a cI cL cZ N J) s.heap := hP
  have hD : va_D (aA (xL a) s.heap.size) (xW a cI cL cZ N J) := hD
  have hown : s.vm.findClass RX3 = some m.cls := hown
  have hl : lv_has ls 3 [(0, .ref (a 0)), (1, .int (nI (k))), (2, .int (nI (n)))] := hl
  have hi2 : ∀ w ∈ wsX20, w ∈ wsX3_latency := by decide +kernel
  have hi3 : ∀ w ∈ wsX30, w ∈ wsX3_latency := by decide +kernel
  have k10 := hts (.fieldLink RX3 10 "ScoreMachine" "setup" "LScoreMachine$Setup;") (by decide +kernel)
  have k61 := hts (.fieldLink RX3 61 "ScoreMachine$Setup" "latencies" "[I") (by decide +kernel)
  refine lv_aload_n hx hb dX3_latency_0 rfl (lv_at hl 0 rfl) ?_
  refine g_calli (u := (N, J)) (g_runV (As := []) (rest := []) ⟨hx, hb, hml, hown, hts⟩ (tA_began l dC dI a cI cL cZ N J (by omega) s.heap.size) (cwV 0 hts gX3_latency_X3_began rfl rfl rfl (by decide +kernel) ⟨Nat.le_of_ble_eq_true rfl, Nat.le_of_ble_eq_true rfl⟩) (va_recv hK hP (ci := 3) (q0 := 0) rfl rfl) hK hP hD hS hZ rfl hl.1 rfl (Nat.le_of_ble_eq_true rfl) dX3_latency_1) (xW_L a cI cL cZ) hD hS (fun r_1 u H locs hw hP hD hS => ?_)
  obtain ⟨hr9, hu9⟩ := hw
  rw [if_pos hc] at hr9
  subst hr9
  subst hu9
  have hP : va_P (dC, dI) vwCl (xW a cI cL cZ N J) H := hP
  have hD : va_D (aA (xL a) s.heap.size) (xW a cI cL cZ N J) := hD
  refine n_if_ne (tgt := 27) hx hb (by omega) dX3_latency_4 (by decide) (fun c_4 => absurd c_4 (by decide)) (fun c_4 => ?_)
  refine lv_iload_n hx hb dX3_latency_7 rfl (lv_at hl 1 rfl) ?_
  refine lv_bipush (v := nI 6) hx hb dX3_latency_8 (by decide) ?_
  refine s_calli (As := [.int (nI (k)), .int (nI (6))]) (rest := []) ⟨hx, hb, hml, hown, hts⟩ (tA_within l (nI k) 6 (by first | decide | omega)) (va_cwS 2 hts gX3_latency_X3_within rfl rfl rfl (by decide +kernel) ⟨Nat.le_of_ble_eq_true rfl, Nat.le_of_ble_eq_true rfl⟩) rfl hl.1 rfl (Nat.le_of_ble_eq_true rfl) dX3_latency_10 (fun r_10 hw => ?_)
  rw [if_pos (by rw [i_ti (by omega)]; omega)] at hw
  subst hw
  refine n_if_eq (tgt := 27) hx hb (by omega) dX3_latency_13 (by decide) (fun c_13 => absurd c_13 (by decide)) (fun c_13 => ?_)
  refine lv_iload_n hx hb dX3_latency_16 rfl (lv_at hl 2 rfl) ?_
  refine lv_iconst (v := nI 1) hx hb dX3_latency_17 (by decide) ?_
  refine n_icmp_lt (tgt := 27) hx hb (by omega) (by omega) dX3_latency_18 (by decide) (fun c_18 => absurd c_18 (by omega)) (fun c_18 => ?_)
  refine lv_iload_n hx hb dX3_latency_21 rfl (lv_at hl 2 rfl) ?_
  refine lv_bipush (v := nI 30) hx hb dX3_latency_22 (by decide) ?_
  refine n_icmp_le (tgt := 29) hx hb (by omega) (by omega) dX3_latency_24 (by decide) (fun c_24 => ?_) (fun c_24 => absurd c_24 (by omega))
  refine lv_aload_n hx hb dX3_latency_29 rfl (lv_at hl 0 rfl) ?_
  refine xg_60 hx hb hts hi3 hown hK hP k10 dX3_latency_30 ?_
  refine xg_5 hx hb hts hi2 hown hK hP k61 dX3_latency_33 ?_
  refine lv_iload_n hx hb dX3_latency_36 rfl (lv_at hl 1 rfl) ?_
  refine lv_iload_n hx hb dX3_latency_37 rfl (lv_at hl 2 rfl) ?_
  refine xs_5 hx hb hK hP hD hS (by omega) dX3_latency_38 (fun H locs hP hD hS => ?_)
  refine lv_iconst (v := nI 1) hx hb dX3_latency_39 (by decide) ?_
  exact g_retz hx hb hr hlocks (by decide) ((uN N 5 (k) (n)), J) (⟨rfl, rfl⟩) hP hS dX3_latency_40
set_option maxHeartbeats 4000000 in
set_option maxRecDepth 100000 in
theorem tA_width (l : Launch) (dC : Nat → ClassId) (dI : Nat → Nat → Nat) (a : Nat → Nat) (cI cL cZ : ClassId) (N : Nat → Nat → Nat) (J : Nat → Nat → Int64) (n : Nat) (hc : N 22 0 = 0) (hn : 1 ≤ n) (hn3 : n ≤ 4) : MetI l yX3_width wsX3_width ({ frames := 1, cells := 0, slots := 0, locals := 20 } : Room) dC dI (gT cI cL cZ) (xF a cI cL cZ) (xL a) (N, J) [.ref (a 0), .int (nI (n))] (fun r u => r = nI 1 ∧ u = (uN N 8 0 n, J)) := by
  intro sz
  refine g_entry (bytes := cX3_width) (maxL := 2) (ret := (some .boolean)) (Qc := fun sz => va_Qi (fun r u => r = nI 1 ∧ u = (uN N 8 0 n, J)) (gB dC dI (xF a cI cL cZ)) (aA (xL a) sz)) (by decide) rfl (Nat.le_of_ble_eq_true rfl) rfl ?_
  intro p e s m below meth c ls hx hb hr hml hts hown hlocks hK hP hD hS hZ hl
  have hP : va_P (dC, dI) vwCl (xW a cI cL cZ N J) s.heap := hP
  have hD : va_D (aA (xL a) s.heap.size) (xW a cI cL cZ N J) := hD
  have hown : s.vm.findClass RX3 = some m.cls := hown
  have hl : lv_has ls 2 [(0, .ref (a 0)), (1, .int (nI (n)))] := hl
  have hi2 : ∀ w ∈ wsX20, w ∈ wsX3_width := by decide +kernel
  have hi3 : ∀ w ∈ wsX30, w ∈ wsX3_width := by decide +kernel
  have k10 := hts (.fieldLink RX3 10 "ScoreMachine" "setup" "LScoreMachine$Setup;") (by decide +kernel)
  have k64 := hts (.fieldLink RX3 64 "ScoreMachine$Setup" "width" "I") (by decide +kernel)
  refine lv_aload_n hx hb dX3_width_0 rfl (lv_at hl 0 rfl) ?_
  refine g_calli (u := (N, J)) (g_runV (As := []) (rest := []) ⟨hx, hb, hml, hown, hts⟩ (tA_began l dC dI a cI cL cZ N J (by omega) s.heap.size) (cwV 0 hts gX3_width_X3_began rfl rfl rfl (by decide +kernel) ⟨Nat.le_of_ble_eq_true rfl, Nat.le_of_ble_eq_true rfl⟩) (va_recv hK hP (ci := 3) (q0 := 0) rfl rfl) hK hP hD hS hZ rfl hl.1 rfl (Nat.le_of_ble_eq_true rfl) dX3_width_1) (xW_L a cI cL cZ) hD hS (fun r_1 u H locs hw hP hD hS => ?_)
  obtain ⟨hr9, hu9⟩ := hw
  rw [if_pos hc] at hr9
  subst hr9
  subst hu9
  have hP : va_P (dC, dI) vwCl (xW a cI cL cZ N J) H := hP
  have hD : va_D (aA (xL a) s.heap.size) (xW a cI cL cZ N J) := hD
  refine n_if_ne (tgt := 17) hx hb (by omega) dX3_width_4 (by decide) (fun c_4 => absurd c_4 (by decide)) (fun c_4 => ?_)
  refine lv_iload_n hx hb dX3_width_7 rfl (lv_at hl 1 rfl) ?_
  refine lv_iconst (v := nI 1) hx hb dX3_width_8 (by decide) ?_
  refine n_icmp_lt (tgt := 17) hx hb (by omega) (by omega) dX3_width_9 (by decide) (fun c_9 => absurd c_9 (by omega)) (fun c_9 => ?_)
  refine lv_iload_n hx hb dX3_width_12 rfl (lv_at hl 1 rfl) ?_
  refine lv_iconst (v := nI 4) hx hb dX3_width_13 (by decide) ?_
  refine n_icmp_le (tgt := 19) hx hb (by omega) (by omega) dX3_width_14 (by decide) (fun c_14 => ?_) (fun c_14 => absurd c_14 (by omega))
  refine lv_aload_n hx hb dX3_width_19 rfl (lv_at hl 0 rfl) ?_
  refine xg_60 hx hb hts hi3 hown hK hP k10 dX3_width_20 ?_
  refine lv_iload_n hx hb dX3_width_23 rfl (lv_at hl 1 rfl) ?_
  refine xp_8 hx hb hts hi2 hown hK hP hD hS k64 dX3_width_24 (fun H locs hP hD hS => ?_)
  refine lv_iconst (v := nI 1) hx hb dX3_width_27 (by decide) ?_
  exact g_retz hx hb hr hlocks (by decide) ((uN N 8 (0) (n)), J) (⟨rfl, rfl⟩) hP hS dX3_width_28
set_option maxHeartbeats 4000000 in
set_option maxRecDepth 100000 in
theorem tA_set0 (l : Launch) (dC : Nat → ClassId) (dI : Nat → Nat → Nat) (a : Nat → Nat) (cI cL cZ : ClassId) (N : Nat → Nat → Nat) (J : Nat → Nat → Int64) (i : Nat) (v : Int64) (hc : N 22 0 = 0) (hi : i < 16) : MetI l yX3_set wsX3_set ({ frames := 2, cells := 0, slots := 0, locals := 42 } : Room) dC dI (gT cI cL cZ) (xF a cI cL cZ) (xL a) (N, J) [.ref (a 0), .int (nI (0)), .int (nI (i)), .long (v)] (fun r u => r = nI 1 ∧ u = (N, uJ (uJ J 6 i v) 11 i v)) := by
  intro sz
  refine g_entry (bytes := cX3_set) (maxL := 5) (ret := (some .boolean)) (Qc := fun sz => va_Qi (fun r u => r = nI 1 ∧ u = (N, uJ (uJ J 6 i v) 11 i v)) (gB dC dI (xF a cI cL cZ)) (aA (xL a) sz)) (by decide) rfl (Nat.le_of_ble_eq_true rfl) rfl ?_
  intro p e s m below meth c ls hx hb hr hml hts hown hlocks hK hP hD hS hZ hl
  have hP : va_P (dC, dI) vwCl (xW a cI cL cZ N J) s.heap := hP
  have hD : va_D (aA (xL a) s.heap.size) (xW a cI cL cZ N J) := hD
  have hown : s.vm.findClass RX3 = some m.cls := hown
  have hl : lv_has ls 5 [(0, .ref (a 0)), (1, .int (nI (0))), (2, .int (nI (i))), (3, .long (v))] := hl
  have hi1 : ∀ w ∈ wsX10, w ∈ wsX3_set := by decide +kernel
  have hi2 : ∀ w ∈ wsX20, w ∈ wsX3_set := by decide +kernel
  have hi3 : ∀ w ∈ wsX30, w ∈ wsX3_set := by decide +kernel
  have k10 := hts (.fieldLink RX3 10 "ScoreMachine" "setup" "LScoreMachine$Setup;") (by decide +kernel)
  have k21 := hts (.fieldLink RX3 21 "ScoreMachine" "plainMachine" "LScoreMachine$PlainMachine;") (by decide +kernel)
  have k71 := hts (.fieldLink RX3 71 "ScoreMachine$Setup" "registers" "[J") (by decide +kernel)
  have k75 := hts (.fieldLink RX3 75 "ScoreMachine$PlainMachine" "registers" "[J") (by decide +kernel)
  refine lv_aload_n hx hb dX3_set_0 rfl (lv_at hl 0 rfl) ?_
  refine g_calli (u := (N, J)) (g_runV (As := []) (rest := []) ⟨hx, hb, hml, hown, hts⟩ (tA_began l dC dI a cI cL cZ N J (by omega) s.heap.size) (cwV 0 hts gX3_set_X3_began rfl rfl rfl (by decide +kernel) ⟨Nat.le_of_ble_eq_true rfl, Nat.le_of_ble_eq_true rfl⟩) (va_recv hK hP (ci := 3) (q0 := 0) rfl rfl) hK hP hD hS hZ rfl hl.1 rfl (Nat.le_of_ble_eq_true rfl) dX3_set_1) (xW_L a cI cL cZ) hD hS (fun r_1 u H locs hw hP hD hS => ?_)
  obtain ⟨hr9, hu9⟩ := hw
  rw [if_pos hc] at hr9
  subst hr9
  subst hu9
  have hP : va_P (dC, dI) vwCl (xW a cI cL cZ N J) H := hP
  have hD : va_D (aA (xL a) s.heap.size) (xW a cI cL cZ N J) := hD
  refine n_if_ne (tgt := 15) hx hb (by omega) dX3_set_4 (by decide) (fun c_4 => absurd c_4 (by decide)) (fun c_4 => ?_)
  refine lv_iload_n hx hb dX3_set_7 rfl (lv_at hl 1 rfl) ?_
  refine lv_iload_n hx hb dX3_set_8 rfl (lv_at hl 2 rfl) ?_
  refine s_calli (As := [.int (nI (0)), .int (nI (i))]) (rest := []) ⟨hx, hb, hml, hown, hts⟩ (tA_isThere l (nI 0) (nI i)) (va_cwS 2 hts gX3_set_X3_isThere rfl rfl rfl (by decide +kernel) ⟨Nat.le_of_ble_eq_true rfl, Nat.le_of_ble_eq_true rfl⟩) rfl hl.1 rfl (Nat.le_of_ble_eq_true rfl) dX3_set_9 (fun r_9 hw => ?_)
  rw [if_pos (by rw [i_ti (by omega), i_ti (by omega)]; omega)] at hw
  subst hw
  refine n_if_ne (tgt := 17) hx hb (by omega) dX3_set_12 (by decide) (fun c_12 => ?_) (fun c_12 => absurd c_12 (by decide))
  refine lv_iload_n hx hb dX3_set_17 rfl (lv_at hl 1 rfl) ?_
  refine n_if_ne (tgt := 44) hx hb (by omega) dX3_set_18 (by decide) (fun c_18 => absurd c_18 (by decide)) (fun c_18 => ?_)
  refine lv_aload_n hx hb dX3_set_21 rfl (lv_at hl 0 rfl) ?_
  refine xg_60 hx hb hts hi3 hown hK hP k10 dX3_set_22 ?_
  refine xg_6 hx hb hts hi2 hown hK hP k71 dX3_set_25 ?_
  refine lv_iload_n hx hb dX3_set_28 rfl (lv_at hl 2 rfl) ?_
  refine lv_lload_n hx hb dX3_set_29 rfl (lv_at hl 3 rfl) ?_
  refine xs_6 hx hb hK hP hD hS (by omega) dX3_set_30 (fun H locs hP hD hS => ?_)
  refine lv_aload_n hx hb dX3_set_31 rfl (lv_at hl 0 rfl) ?_
  refine xg_61 hx hb hts hi3 hown hK hP k21 dX3_set_32 ?_
  refine xg_11 hx hb hts hi1 hown hK hP k75 dX3_set_35 ?_
  refine lv_iload_n hx hb dX3_set_38 rfl (lv_at hl 2 rfl) ?_
  refine lv_lload_n hx hb dX3_set_39 rfl (lv_at hl 3 rfl) ?_
  refine xs_11 hx hb hK hP hD hS (by omega) dX3_set_40 (fun H locs hP hD hS => ?_)
  refine lv_goto (tgt := 64) hx hb dX3_set_41 (by decide) ?_
  refine lv_iconst (v := nI 1) hx hb dX3_set_64 (by decide) ?_
  exact g_retz hx hb hr hlocks (by decide) (N, (uJ (uJ J 6 (i) (v)) 11 (i) (v))) (⟨rfl, rfl⟩) hP hS dX3_set_65
set_option maxHeartbeats 4000000 in
set_option maxRecDepth 100000 in
theorem tA_set1 (l : Launch) (dC : Nat → ClassId) (dI : Nat → Nat → Nat) (a : Nat → Nat) (cI cL cZ : ClassId) (N : Nat → Nat → Nat) (J : Nat → Nat → Int64) (i : Nat) (v : Int64) (hc : N 22 0 = 0) (hi : i < 256) : MetI l yX3_set wsX3_set ({ frames := 2, cells := 0, slots := 0, locals := 42 } : Room) dC dI (gT cI cL cZ) (xF a cI cL cZ) (xL a) (N, J) [.ref (a 0), .int (nI (1)), .int (nI (i)), .long (v)] (fun r u => r = nI 1 ∧ u = (N, uJ (uJ J 7 i v) 12 i v)) := by
  intro sz
  refine g_entry (bytes := cX3_set) (maxL := 5) (ret := (some .boolean)) (Qc := fun sz => va_Qi (fun r u => r = nI 1 ∧ u = (N, uJ (uJ J 7 i v) 12 i v)) (gB dC dI (xF a cI cL cZ)) (aA (xL a) sz)) (by decide) rfl (Nat.le_of_ble_eq_true rfl) rfl ?_
  intro p e s m below meth c ls hx hb hr hml hts hown hlocks hK hP hD hS hZ hl
  have hP : va_P (dC, dI) vwCl (xW a cI cL cZ N J) s.heap := hP
  have hD : va_D (aA (xL a) s.heap.size) (xW a cI cL cZ N J) := hD
  have hown : s.vm.findClass RX3 = some m.cls := hown
  have hl : lv_has ls 5 [(0, .ref (a 0)), (1, .int (nI (1))), (2, .int (nI (i))), (3, .long (v))] := hl
  have hi1 : ∀ w ∈ wsX10, w ∈ wsX3_set := by decide +kernel
  have hi2 : ∀ w ∈ wsX20, w ∈ wsX3_set := by decide +kernel
  have hi3 : ∀ w ∈ wsX30, w ∈ wsX3_set := by decide +kernel
  have k10 := hts (.fieldLink RX3 10 "ScoreMachine" "setup" "LScoreMachine$Setup;") (by decide +kernel)
  have k21 := hts (.fieldLink RX3 21 "ScoreMachine" "plainMachine" "LScoreMachine$PlainMachine;") (by decide +kernel)
  have k76 := hts (.fieldLink RX3 76 "ScoreMachine$Setup" "memory" "[J") (by decide +kernel)
  have k79 := hts (.fieldLink RX3 79 "ScoreMachine$PlainMachine" "memory" "[J") (by decide +kernel)
  refine lv_aload_n hx hb dX3_set_0 rfl (lv_at hl 0 rfl) ?_
  refine g_calli (u := (N, J)) (g_runV (As := []) (rest := []) ⟨hx, hb, hml, hown, hts⟩ (tA_began l dC dI a cI cL cZ N J (by omega) s.heap.size) (cwV 0 hts gX3_set_X3_began rfl rfl rfl (by decide +kernel) ⟨Nat.le_of_ble_eq_true rfl, Nat.le_of_ble_eq_true rfl⟩) (va_recv hK hP (ci := 3) (q0 := 0) rfl rfl) hK hP hD hS hZ rfl hl.1 rfl (Nat.le_of_ble_eq_true rfl) dX3_set_1) (xW_L a cI cL cZ) hD hS (fun r_1 u H locs hw hP hD hS => ?_)
  obtain ⟨hr9, hu9⟩ := hw
  rw [if_pos hc] at hr9
  subst hr9
  subst hu9
  have hP : va_P (dC, dI) vwCl (xW a cI cL cZ N J) H := hP
  have hD : va_D (aA (xL a) s.heap.size) (xW a cI cL cZ N J) := hD
  refine n_if_ne (tgt := 15) hx hb (by omega) dX3_set_4 (by decide) (fun c_4 => absurd c_4 (by decide)) (fun c_4 => ?_)
  refine lv_iload_n hx hb dX3_set_7 rfl (lv_at hl 1 rfl) ?_
  refine lv_iload_n hx hb dX3_set_8 rfl (lv_at hl 2 rfl) ?_
  refine s_calli (As := [.int (nI (1)), .int (nI (i))]) (rest := []) ⟨hx, hb, hml, hown, hts⟩ (tA_isThere l (nI 1) (nI i)) (va_cwS 2 hts gX3_set_X3_isThere rfl rfl rfl (by decide +kernel) ⟨Nat.le_of_ble_eq_true rfl, Nat.le_of_ble_eq_true rfl⟩) rfl hl.1 rfl (Nat.le_of_ble_eq_true rfl) dX3_set_9 (fun r_9 hw => ?_)
  rw [if_pos (by rw [i_ti (by omega), i_ti (by omega)]; omega)] at hw
  subst hw
  refine n_if_ne (tgt := 17) hx hb (by omega) dX3_set_12 (by decide) (fun c_12 => ?_) (fun c_12 => absurd c_12 (by decide))
  refine lv_iload_n hx hb dX3_set_17 rfl (lv_at hl 1 rfl) ?_
  refine n_if_ne (tgt := 44) hx hb (by omega) dX3_set_18 (by decide) (fun c_18 => ?_) (fun c_18 => absurd c_18 (by decide))
  refine lv_aload_n hx hb dX3_set_44 rfl (lv_at hl 0 rfl) ?_
  refine xg_60 hx hb hts hi3 hown hK hP k10 dX3_set_45 ?_
  refine xg_7 hx hb hts hi2 hown hK hP k76 dX3_set_48 ?_
  refine lv_iload_n hx hb dX3_set_51 rfl (lv_at hl 2 rfl) ?_
  refine lv_lload_n hx hb dX3_set_52 rfl (lv_at hl 3 rfl) ?_
  refine xs_7 hx hb hK hP hD hS (by omega) dX3_set_53 (fun H locs hP hD hS => ?_)
  refine lv_aload_n hx hb dX3_set_54 rfl (lv_at hl 0 rfl) ?_
  refine xg_61 hx hb hts hi3 hown hK hP k21 dX3_set_55 ?_
  refine xg_12 hx hb hts hi1 hown hK hP k79 dX3_set_58 ?_
  refine lv_iload_n hx hb dX3_set_61 rfl (lv_at hl 2 rfl) ?_
  refine lv_lload_n hx hb dX3_set_62 rfl (lv_at hl 3 rfl) ?_
  refine xs_12 hx hb hK hP hD hS (by omega) dX3_set_63 (fun H locs hP hD hS => ?_)
  refine lv_iconst (v := nI 1) hx hb dX3_set_64 (by decide) ?_
  exact g_retz hx hb hr hlocks (by decide) (N, (uJ (uJ J 7 (i) (v)) 12 (i) (v))) (⟨rfl, rfl⟩) hP hS dX3_set_65
set_option maxHeartbeats 4000000 in
set_option maxRecDepth 100000 in
theorem tA_pending_bad (l : Launch) (dC : Nat → ClassId) (dI : Nat → Nat → Nat) (a : Nat → Nat) (cI cL cZ : ClassId) (N : Nat → Nat → Nat) (J : Nat → Nat → Int64) (v1 : Int32)  (hb0 : ¬ (0 ≤ v1.toInt ∧ v1.toInt < 16)) : MetI l yX3_pending wsX3_pending ({ frames := 1, cells := 0, slots := 0, locals := 21 } : Room) dC dI (gT cI cL cZ) (xF a cI cL cZ) (xL a) (N, J) [.ref (a 0), .int (v1)] (fun r u => r = -1 ∧ u = (N, J)) := by
  intro sz
  refine g_entry (bytes := cX3_pending) (maxL := 2) (ret := (some .int)) (Qc := fun sz => va_Qi (fun r u => r = -1 ∧ u = (N, J)) (gB dC dI (xF a cI cL cZ)) (aA (xL a) sz)) (by decide) rfl (Nat.le_of_ble_eq_true rfl) rfl ?_
  intro p e s m below meth c ls hx hb hr hml hts hown hlocks hK hP hD hS hZ hl
  have hP : va_P (dC, dI) vwCl (xW a cI cL cZ N J) s.heap := hP
  have hD : va_D (aA (xL a) s.heap.size) (xW a cI cL cZ N J) := hD
  have hown : s.vm.findClass RX3 = some m.cls := hown
  have hl : lv_has ls 2 [(0, .ref (a 0)), (1, .int (v1))] := hl
  refine lv_iload_n hx hb dX3_pending_0 rfl (lv_at hl 1 rfl) ?_
  refine lv_bipush (v := nI 16) hx hb dX3_pending_1 (by decide) ?_
  refine s_calli (As := [.int (v1), .int (nI (16))]) (rest := []) ⟨hx, hb, hml, hown, hts⟩ (tA_within l v1 16 (by first | decide | assumption | omega)) (va_cwS 2 hts gX3_pending_X3_within rfl rfl rfl (by decide +kernel) ⟨Nat.le_of_ble_eq_true rfl, Nat.le_of_ble_eq_true rfl⟩) rfl hl.1 rfl (Nat.le_of_ble_eq_true rfl) dX3_pending_3 (fun r_3 hw => ?_)
  subst hw
  refine n_if_ne (tgt := 11) hx hb bL dX3_pending_6 (by decide) (fun c_6 => absurd c_6 (fun z => hb0 (b1 z))) (fun c_6 => ?_)
  refine lv_iconst (v := -1) hx hb dX3_pending_9 (by decide) ?_
  exact g_reti hx hb hr hlocks (N, J) (⟨rfl, rfl⟩) hP hS dX3_pending_10
set_option maxHeartbeats 4000000 in
set_option maxRecDepth 100000 in
theorem tA_pending (l : Launch) (dC : Nat → ClassId) (dI : Nat → Nat → Nat) (a : Nat → Nat) (cI cL cZ : ClassId) (N : Nat → Nat → Nat) (J : Nat → Nat → Int64) (i : Nat) (hi : i < 16) (hcy : N 22 0 < 2147483648) (hw2 : N 27 i < 2147483648) : MetI l yX3_pending wsX3_pending ({ frames := 1, cells := 0, slots := 0, locals := 21 } : Room) dC dI (gT cI cL cZ) (xF a cI cL cZ) (xL a) (N, J) [.ref (a 0), .int (nI (i))] (fun r u => r = (if N 22 0 < N 27 i then nI (N 26 i) else -1) ∧ u = (N, J)) := by
  intro sz
  refine g_entry (bytes := cX3_pending) (maxL := 2) (ret := (some .int)) (Qc := fun sz => va_Qi (fun r u => r = (if N 22 0 < N 27 i then nI (N 26 i) else -1) ∧ u = (N, J)) (gB dC dI (xF a cI cL cZ)) (aA (xL a) sz)) (by decide) rfl (Nat.le_of_ble_eq_true rfl) rfl ?_
  intro p e s m below meth c ls hx hb hr hml hts hown hlocks hK hP hD hS hZ hl
  have hP : va_P (dC, dI) vwCl (xW a cI cL cZ N J) s.heap := hP
  have hD : va_D (aA (xL a) s.heap.size) (xW a cI cL cZ N J) := hD
  have hown : s.vm.findClass RX3 = some m.cls := hown
  have hl : lv_has ls 2 [(0, .ref (a 0)), (1, .int (nI (i)))] := hl
  have hi0 : ∀ w ∈ wsX00, w ∈ wsX3_pending := by decide +kernel
  have hi3 : ∀ w ∈ wsX30, w ∈ wsX3_pending := by decide +kernel
  have k136 := hts (.fieldLink RX3 136 "ScoreMachine$Board" "writtenAt" "[I") (by decide +kernel)
  have k139 := hts (.fieldLink RX3 139 "ScoreMachine$Board" "writer" "[I") (by decide +kernel)
  have k30 := hts (.fieldLink RX3 30 "ScoreMachine" "board" "LScoreMachine$Board;") (by decide +kernel)
  have k92 := hts (.fieldLink RX3 92 "ScoreMachine$Board" "cycle" "I") (by decide +kernel)
  refine lv_iload_n hx hb dX3_pending_0 rfl (lv_at hl 1 rfl) ?_
  refine lv_bipush (v := nI 16) hx hb dX3_pending_1 (by decide) ?_
  refine s_calli (As := [.int (nI (i)), .int (nI (16))]) (rest := []) ⟨hx, hb, hml, hown, hts⟩ (tA_within l (nI i) 16 (by first | decide | omega)) (va_cwS 2 hts gX3_pending_X3_within rfl rfl rfl (by decide +kernel) ⟨Nat.le_of_ble_eq_true rfl, Nat.le_of_ble_eq_true rfl⟩) rfl hl.1 rfl (Nat.le_of_ble_eq_true rfl) dX3_pending_3 (fun r_3 hw => ?_)
  rw [if_pos (by rw [i_ti (by omega)]; omega)] at hw
  subst hw
  refine n_if_ne (tgt := 11) hx hb (by omega) dX3_pending_6 (by decide) (fun c_6 => ?_) (fun c_6 => absurd c_6 (by decide))
  refine lv_aload_n hx hb dX3_pending_11 rfl (lv_at hl 0 rfl) ?_
  refine xg_62 hx hb hts hi3 hown hK hP k30 dX3_pending_12 ?_
  refine xg_27 hx hb hts hi0 hown hK hP k136 dX3_pending_15 ?_
  refine lv_iload_n hx hb dX3_pending_18 rfl (lv_at hl 1 rfl) ?_
  refine xl_27 (v := N 27 i) hx hb hK hP (by omega) rfl dX3_pending_19 ?_
  refine lv_aload_n hx hb dX3_pending_20 rfl (lv_at hl 0 rfl) ?_
  refine xg_62 hx hb hts hi3 hown hK hP k30 dX3_pending_21 ?_
  refine xg_22 (v := N 22 0) hx hb hts hi0 hown hK hP k92 rfl dX3_pending_24 ?_
  refine n_icmp_le (tgt := 42) hx hb (by omega) (by omega) dX3_pending_27 (by decide) (fun c_27 => ?_) (fun c_27 => ?_)
  · refine lv_iconst (v := -1) hx hb dX3_pending_42 (by decide) ?_
    exact g_reti hx hb hr hlocks (N, J) (⟨by (repeat' split) <;> first | rfl | (exfalso; omega), rfl⟩) hP hS dX3_pending_43
  · refine lv_aload_n hx hb dX3_pending_30 rfl (lv_at hl 0 rfl) ?_
    refine xg_62 hx hb hts hi3 hown hK hP k30 dX3_pending_31 ?_
    refine xg_26 hx hb hts hi0 hown hK hP k139 dX3_pending_34 ?_
    refine lv_iload_n hx hb dX3_pending_37 rfl (lv_at hl 1 rfl) ?_
    refine xl_26 (v := N 26 i) hx hb hK hP (by omega) rfl dX3_pending_38 ?_
    refine lv_goto (tgt := 43) hx hb dX3_pending_39 (by decide) ?_
    exact g_reti hx hb hr hlocks (N, J) (⟨by (repeat' split) <;> first | rfl | (exfalso; omega), rfl⟩) hP hS dX3_pending_43
set_option maxHeartbeats 4000000 in
set_option maxRecDepth 100000 in
theorem tA_latest_bad (l : Launch) (dC : Nat → ClassId) (dI : Nat → Nat → Nat) (a : Nat → Nat) (cI cL cZ : ClassId) (N : Nat → Nat → Nat) (J : Nat → Nat → Int64) (v1 : Int32) (v2 : Int32) (h24 : N 24 0 < 2147483648) (hb0 : ¬ (0 ≤ v1.toInt ∧ v1.toInt < 64 ∧ v1.toInt < N 24 0 ∧ 0 ≤ v2.toInt ∧ v2.toInt < 6)) : MetI l yX3_latest wsX3_latest ({ frames := 1, cells := 0, slots := 0, locals := 21 } : Room) dC dI (gT cI cL cZ) (xF a cI cL cZ) (xL a) (N, J) [.ref (a 0), .int (v1), .int (v2)] (fun r u => r = -1 ∧ u = (N, J)) := by
  intro sz
  refine g_entry (bytes := cX3_latest) (maxL := 3) (ret := (some .int)) (Qc := fun sz => va_Qi (fun r u => r = -1 ∧ u = (N, J)) (gB dC dI (xF a cI cL cZ)) (aA (xL a) sz)) (by decide) rfl (Nat.le_of_ble_eq_true rfl) rfl ?_
  intro p e s m below meth c ls hx hb hr hml hts hown hlocks hK hP hD hS hZ hl
  have hP : va_P (dC, dI) vwCl (xW a cI cL cZ N J) s.heap := hP
  have hD : va_D (aA (xL a) s.heap.size) (xW a cI cL cZ N J) := hD
  have hown : s.vm.findClass RX3 = some m.cls := hown
  have hl : lv_has ls 3 [(0, .ref (a 0)), (1, .int (v1)), (2, .int (v2))] := hl
  have hi0 : ∀ w ∈ wsX00, w ∈ wsX3_latest := by decide +kernel
  have hi3 : ∀ w ∈ wsX30, w ∈ wsX3_latest := by decide +kernel
  have k30 := hts (.fieldLink RX3 30 "ScoreMachine" "board" "LScoreMachine$Board;") (by decide +kernel)
  have k95 := hts (.fieldLink RX3 95 "ScoreMachine$Board" "issued" "I") (by decide +kernel)
  refine lv_iload_n hx hb dX3_latest_0 rfl (lv_at hl 1 rfl) ?_
  refine lv_bipush (v := nI 64) hx hb dX3_latest_1 (by decide) ?_
  refine s_calli (As := [.int (v1), .int (nI (64))]) (rest := []) ⟨hx, hb, hml, hown, hts⟩ (tA_within l v1 64 (by first | decide | assumption | omega)) (va_cwS 2 hts gX3_latest_X3_within rfl rfl rfl (by decide +kernel) ⟨Nat.le_of_ble_eq_true rfl, Nat.le_of_ble_eq_true rfl⟩) rfl hl.1 rfl (Nat.le_of_ble_eq_true rfl) dX3_latest_3 (fun r_3 hw => ?_)
  subst hw
  refine n_if_eq (tgt := 29) hx hb bL dX3_latest_6 (by decide) (fun c_6 => ?_) (fun c_6 => ?_)
  · have w6 := b0 c_6
    refine lv_iconst (v := -1) hx hb dX3_latest_29 (by decide) ?_
    exact g_reti hx hb hr hlocks (N, J) (⟨rfl, rfl⟩) hP hS dX3_latest_30
  · have w6 := b1 c_6
    refine lv_iload_n hx hb dX3_latest_9 rfl (lv_at hl 1 rfl) ?_
    refine lv_aload_n hx hb dX3_latest_10 rfl (lv_at hl 0 rfl) ?_
    refine xg_62 hx hb hts hi3 hown hK hP k30 dX3_latest_11 ?_
    refine xg_24 (v := N 24 0) hx hb hts hi0 hown hK hP k95 rfl dX3_latest_14 ?_
    refine lv_icmp_ge (tgt := 29) hx hb dX3_latest_17 (by decide) (fun c_17 => ?_) (fun c_17 => ?_)
    · refine lv_iconst (v := -1) hx hb dX3_latest_29 (by decide) ?_
      exact g_reti hx hb hr hlocks (N, J) (⟨rfl, rfl⟩) hP hS dX3_latest_30
    · have w17 : v1.toInt < N 24 0 := by rw [Int32.not_le, i_ltc _ _ h24] at c_17; exact c_17
      refine lv_iload_n hx hb dX3_latest_20 rfl (lv_at hl 2 rfl) ?_
      refine lv_bipush (v := nI 6) hx hb dX3_latest_21 (by decide) ?_
      refine s_calli (As := [.int (v2), .int (nI (6))]) (rest := []) ⟨hx, hb, hml, hown, hts⟩ (tA_within l v2 6 (by first | decide | assumption | omega)) (va_cwS 2 hts gX3_latest_X3_within rfl rfl rfl (by decide +kernel) ⟨Nat.le_of_ble_eq_true rfl, Nat.le_of_ble_eq_true rfl⟩) rfl hl.1 rfl (Nat.le_of_ble_eq_true rfl) dX3_latest_23 (fun r_23 hw => ?_)
      subst hw
      refine n_if_ne (tgt := 31) hx hb bL dX3_latest_26 (by decide) (fun c_26 => absurd c_26 (fun z => absurd (b1 z) (fun y => hb0 ⟨w6.1, w6.2, w17, y.1, y.2⟩))) (fun c_26 => ?_)
      refine lv_iconst (v := -1) hx hb dX3_latest_29 (by decide) ?_
      exact g_reti hx hb hr hlocks (N, J) (⟨rfl, rfl⟩) hP hS dX3_latest_30
set_option maxHeartbeats 4000000 in
set_option maxRecDepth 100000 in
theorem tA_latest (l : Launch) (dC : Nat → ClassId) (dI : Nat → Nat → Nat) (a : Nat → Nat) (cI cL cZ : ClassId) (N : Nat → Nat → Nat) (J : Nat → Nat → Int64) (k w : Nat) (hk : k < 64) (hk2 : k < N 24 0) (hw2 : w < 6) (hcy : N 22 0 < 2147483648) (hm : N 24 0 < 2147483648) (hr2 : N 37 ((N 24 0 - 1 - k) % 64 * 6 + w) < 2147483648) : MetI l yX3_latest wsX3_latest ({ frames := 2, cells := 0, slots := 0, locals := 43 } : Room) dC dI (gT cI cL cZ) (xF a cI cL cZ) (xL a) (N, J) [.ref (a 0), .int (nI (k)), .int (nI (w))] (fun r u => r = xTI N (N 24 0 - 1 - k) w ∧ u = (N, J)) := by
  intro sz
  refine g_entry (bytes := cX3_latest) (maxL := 3) (ret := (some .int)) (Qc := fun sz => va_Qi (fun r u => r = xTI N (N 24 0 - 1 - k) w ∧ u = (N, J)) (gB dC dI (xF a cI cL cZ)) (aA (xL a) sz)) (by decide) rfl (Nat.le_of_ble_eq_true rfl) rfl ?_
  intro p e s m below meth c ls hx hb hr hml hts hown hlocks hK hP hD hS hZ hl
  have hP : va_P (dC, dI) vwCl (xW a cI cL cZ N J) s.heap := hP
  have hD : va_D (aA (xL a) s.heap.size) (xW a cI cL cZ N J) := hD
  have hown : s.vm.findClass RX3 = some m.cls := hown
  have hl : lv_has ls 3 [(0, .ref (a 0)), (1, .int (nI (k))), (2, .int (nI (w)))] := hl
  have hi0 : ∀ w ∈ wsX00, w ∈ wsX3_latest := by decide +kernel
  have hi3 : ∀ w ∈ wsX30, w ∈ wsX3_latest := by decide +kernel
  have k30 := hts (.fieldLink RX3 30 "ScoreMachine" "board" "LScoreMachine$Board;") (by decide +kernel)
  have k95 := hts (.fieldLink RX3 95 "ScoreMachine$Board" "issued" "I") (by decide +kernel)
  refine lv_iload_n hx hb dX3_latest_0 rfl (lv_at hl 1 rfl) ?_
  refine lv_bipush (v := nI 64) hx hb dX3_latest_1 (by decide) ?_
  refine s_calli (As := [.int (nI (k)), .int (nI (64))]) (rest := []) ⟨hx, hb, hml, hown, hts⟩ (tA_within l (nI k) 64 (by first | decide | omega)) (va_cwS 2 hts gX3_latest_X3_within rfl rfl rfl (by decide +kernel) ⟨Nat.le_of_ble_eq_true rfl, Nat.le_of_ble_eq_true rfl⟩) rfl hl.1 rfl (Nat.le_of_ble_eq_true rfl) dX3_latest_3 (fun r_3 hw => ?_)
  rw [if_pos (by rw [i_ti (by omega)]; omega)] at hw
  subst hw
  refine n_if_eq (tgt := 29) hx hb (by omega) dX3_latest_6 (by decide) (fun c_6 => absurd c_6 (by decide)) (fun c_6 => ?_)
  refine lv_iload_n hx hb dX3_latest_9 rfl (lv_at hl 1 rfl) ?_
  refine lv_aload_n hx hb dX3_latest_10 rfl (lv_at hl 0 rfl) ?_
  refine xg_62 hx hb hts hi3 hown hK hP k30 dX3_latest_11 ?_
  refine xg_24 (v := N 24 0) hx hb hts hi0 hown hK hP k95 rfl dX3_latest_14 ?_
  refine n_icmp_ge (tgt := 29) hx hb (by omega) (by omega) dX3_latest_17 (by decide) (fun c_17 => absurd c_17 (by omega)) (fun c_17 => ?_)
  refine lv_iload_n hx hb dX3_latest_20 rfl (lv_at hl 2 rfl) ?_
  refine lv_bipush (v := nI 6) hx hb dX3_latest_21 (by decide) ?_
  refine s_calli (As := [.int (nI (w)), .int (nI (6))]) (rest := []) ⟨hx, hb, hml, hown, hts⟩ (tA_within l (nI w) 6 (by first | decide | omega)) (va_cwS 2 hts gX3_latest_X3_within rfl rfl rfl (by decide +kernel) ⟨Nat.le_of_ble_eq_true rfl, Nat.le_of_ble_eq_true rfl⟩) rfl hl.1 rfl (Nat.le_of_ble_eq_true rfl) dX3_latest_23 (fun r_23 hw => ?_)
  rw [if_pos (by rw [i_ti (by omega)]; omega)] at hw
  subst hw
  refine n_if_ne (tgt := 31) hx hb (by omega) dX3_latest_26 (by decide) (fun c_26 => ?_) (fun c_26 => absurd c_26 (by decide))
  refine lv_aload_n hx hb dX3_latest_31 rfl (lv_at hl 0 rfl) ?_
  refine xg_62 hx hb hts hi3 hown hK hP k30 dX3_latest_32 ?_
  refine lv_aload_n hx hb dX3_latest_35 rfl (lv_at hl 0 rfl) ?_
  refine xg_62 hx hb hts hi3 hown hK hP k30 dX3_latest_36 ?_
  refine xg_24 (v := N 24 0) hx hb hts hi0 hown hK hP k95 rfl dX3_latest_39 ?_
  refine lv_iconst (v := nI 1) hx hb dX3_latest_42 (by decide) ?_
  refine n_sub hx hb (by omega) dX3_latest_43 ?_
  refine lv_iload_n hx hb dX3_latest_44 rfl (lv_at hl 1 rfl) ?_
  refine n_sub hx hb (by omega) dX3_latest_45 ?_
  refine lv_iload_n hx hb dX3_latest_46 rfl (lv_at hl 2 rfl) ?_
  refine g_calli (u := (N, J)) (g_runV (As := [.int (nI (((N 24 0) - 1) - k)), .int (nI (w))]) (rest := []) ⟨hx, hb, hml, hown, hts⟩ (tB_tellIssued l dC dI a cI cL cZ N J (N 24 0 - 1 - k) w (by omega) hw2 hcy hr2 s.heap.size) (cwV 2 hts gX3_latest_X0_tellIssued rfl rfl rfl (by decide +kernel) ⟨Nat.le_of_ble_eq_true rfl, Nat.le_of_ble_eq_true rfl⟩) (va_recv hK hP (ci := 0) (q0 := 3) rfl rfl) hK hP hD hS hZ rfl hl.1 rfl (Nat.le_of_ble_eq_true rfl) dX3_latest_47) (xW_L a cI cL cZ) hD hS (fun r_47 u H locs hw hP hD hS => ?_)
  obtain ⟨rfl, rfl⟩ := hw
  have hP : va_P (dC, dI) vwCl (xW a cI cL cZ N J) H := hP
  have hD : va_D (aA (xL a) s.heap.size) (xW a cI cL cZ N J) := hD
  exact g_reti hx hb hr hlocks (N, J) (⟨rfl, rfl⟩) hP hS dX3_latest_50
set_option maxHeartbeats 4000000 in
set_option maxRecDepth 100000 in
theorem tA_unit_bad1 (l : Launch) (dC : Nat → ClassId) (dI : Nat → Nat → Nat) (a : Nat → Nat) (cI cL cZ : ClassId) (N : Nat → Nat → Nat) (J : Nat → Nat → Int64) (v1 v2 v3 : Int32) (hb0 : ¬ (0 ≤ v1.toInt ∧ v1.toInt < 6)) : MetI l yX3_unit wsX3_unit ({ frames := 1, cells := 0, slots := 0, locals := 21 } : Room) dC dI (gT cI cL cZ) (xF a cI cL cZ) (xL a) (N, J) [.ref (a 0), .int (v1), .int (v2), .int (v3)] (fun r u => r = -1 ∧ u = (N, J)) := by
  intro sz
  refine g_entry (bytes := cX3_unit) (maxL := 4) (ret := (some .int)) (Qc := fun sz => va_Qi (fun r u => r = -1 ∧ u = (N, J)) (gB dC dI (xF a cI cL cZ)) (aA (xL a) sz)) (by decide) rfl (Nat.le_of_ble_eq_true rfl) rfl ?_
  intro p e s m below meth c ls hx hb hr hml hts hown hlocks hK hP hD hS hZ hl
  have hP : va_P (dC, dI) vwCl (xW a cI cL cZ N J) s.heap := hP
  have hD : va_D (aA (xL a) s.heap.size) (xW a cI cL cZ N J) := hD
  have hown : s.vm.findClass RX3 = some m.cls := hown
  have hl : lv_has ls 4 [(0, .ref (a 0)), (1, .int (v1)), (2, .int (v2)), (3, .int (v3))] := hl
  refine lv_iload_n hx hb dX3_unit_0 rfl (lv_at hl 1 rfl) ?_
  refine lv_bipush (v := nI 6) hx hb dX3_unit_1 (by decide) ?_
  refine s_calli (As := [.int (v1), .int (nI (6))]) (rest := []) ⟨hx, hb, hml, hown, hts⟩ (tA_within l v1 6 (by first | decide | assumption | omega)) (va_cwS 2 hts gX3_unit_X3_within rfl rfl rfl (by decide +kernel) ⟨Nat.le_of_ble_eq_true rfl, Nat.le_of_ble_eq_true rfl⟩) rfl hl.1 rfl (Nat.le_of_ble_eq_true rfl) dX3_unit_3 (fun r_3 hw => ?_)
  subst hw
  refine n_if_eq (tgt := 25) hx hb bL dX3_unit_6 (by decide) (fun c_6 => ?_) (fun c_6 => absurd c_6 (fun z => hb0 (b1 z)))
  refine lv_iconst (v := -1) hx hb dX3_unit_25 (by decide) ?_
  exact g_reti hx hb hr hlocks (N, J) (⟨rfl, rfl⟩) hP hS dX3_unit_26
set_option maxHeartbeats 4000000 in
set_option maxRecDepth 100000 in
theorem tA_unit_bad2 (l : Launch) (dC : Nat → ClassId) (dI : Nat → Nat → Nat) (a : Nat → Nat) (cI cL cZ : ClassId) (N : Nat → Nat → Nat) (J : Nat → Nat → Int64) (k : Nat) (v2 v3 : Int32) (hk : k < 6) (hu : N 4 k ≤ 3) (hb0 : ¬ (0 ≤ v2.toInt ∧ v2.toInt < N 4 k)) : MetI l yX3_unit wsX3_unit ({ frames := 1, cells := 0, slots := 0, locals := 21 } : Room) dC dI (gT cI cL cZ) (xF a cI cL cZ) (xL a) (N, J) [.ref (a 0), .int (nI (k)), .int (v2), .int (v3)] (fun r u => r = -1 ∧ u = (N, J)) := by
  intro sz
  refine g_entry (bytes := cX3_unit) (maxL := 4) (ret := (some .int)) (Qc := fun sz => va_Qi (fun r u => r = -1 ∧ u = (N, J)) (gB dC dI (xF a cI cL cZ)) (aA (xL a) sz)) (by decide) rfl (Nat.le_of_ble_eq_true rfl) rfl ?_
  intro p e s m below meth c ls hx hb hr hml hts hown hlocks hK hP hD hS hZ hl
  have hP : va_P (dC, dI) vwCl (xW a cI cL cZ N J) s.heap := hP
  have hD : va_D (aA (xL a) s.heap.size) (xW a cI cL cZ N J) := hD
  have hown : s.vm.findClass RX3 = some m.cls := hown
  have hl : lv_has ls 4 [(0, .ref (a 0)), (1, .int (nI (k))), (2, .int (v2)), (3, .int (v3))] := hl
  have hi2 : ∀ w ∈ wsX20, w ∈ wsX3_unit := by decide +kernel
  have hi3 : ∀ w ∈ wsX30, w ∈ wsX3_unit := by decide +kernel
  have k10 := hts (.fieldLink RX3 10 "ScoreMachine" "setup" "LScoreMachine$Setup;") (by decide +kernel)
  have k58 := hts (.fieldLink RX3 58 "ScoreMachine$Setup" "unitsOf" "[I") (by decide +kernel)
  refine lv_iload_n hx hb dX3_unit_0 rfl (lv_at hl 1 rfl) ?_
  refine lv_bipush (v := nI 6) hx hb dX3_unit_1 (by decide) ?_
  refine s_calli (As := [.int (nI (k)), .int (nI (6))]) (rest := []) ⟨hx, hb, hml, hown, hts⟩ (tA_within l (nI k) 6 (by first | decide | omega)) (va_cwS 2 hts gX3_unit_X3_within rfl rfl rfl (by decide +kernel) ⟨Nat.le_of_ble_eq_true rfl, Nat.le_of_ble_eq_true rfl⟩) rfl hl.1 rfl (Nat.le_of_ble_eq_true rfl) dX3_unit_3 (fun r_3 hw => ?_)
  rw [if_pos (by rw [i_ti (by omega)]; omega)] at hw
  subst hw
  refine n_if_eq (tgt := 25) hx hb (by omega) dX3_unit_6 (by decide) (fun c_6 => absurd c_6 (by decide)) (fun c_6 => ?_)
  refine lv_iload_n hx hb dX3_unit_9 rfl (lv_at hl 2 rfl) ?_
  refine lv_aload_n hx hb dX3_unit_10 rfl (lv_at hl 0 rfl) ?_
  refine xg_60 hx hb hts hi3 hown hK hP k10 dX3_unit_11 ?_
  refine xg_4 hx hb hts hi2 hown hK hP k58 dX3_unit_14 ?_
  refine lv_iload_n hx hb dX3_unit_17 rfl (lv_at hl 1 rfl) ?_
  refine xl_4 (v := N 4 k) hx hb hK hP (by omega) rfl dX3_unit_18 ?_
  refine s_calli (As := [.int (v2), .int (nI (N 4 k))]) (rest := []) ⟨hx, hb, hml, hown, hts⟩ (tA_within l v2 (N 4 k) (by first | decide | assumption | omega)) (va_cwS 2 hts gX3_unit_X3_within rfl rfl rfl (by decide +kernel) ⟨Nat.le_of_ble_eq_true rfl, Nat.le_of_ble_eq_true rfl⟩) rfl hl.1 rfl (Nat.le_of_ble_eq_true rfl) dX3_unit_19 (fun r_19 hw => ?_)
  subst hw
  refine n_if_ne (tgt := 27) hx hb bL dX3_unit_22 (by decide) (fun c_22 => absurd c_22 (fun z => hb0 (b1 z))) (fun c_22 => ?_)
  refine lv_iconst (v := -1) hx hb dX3_unit_25 (by decide) ?_
  exact g_reti hx hb hr hlocks (N, J) (⟨rfl, rfl⟩) hP hS dX3_unit_26
set_option maxHeartbeats 4000000 in
set_option maxRecDepth 100000 in
theorem tA_unit_bad3 (l : Launch) (dC : Nat → ClassId) (dI : Nat → Nat → Nat) (a : Nat → Nat) (cI cL cZ : ClassId) (N : Nat → Nat → Nat) (J : Nat → Nat → Int64) (k i : Nat) (v3 : Int32) (hk : k < 6) (hu : N 4 k ≤ 3) (hi : i < N 4 k) (hb0 : v3.toInt < 0 ∨ 2 < v3.toInt) (hcy : N 22 0 < 2147483648) (h5 : N 36 ((k * 3 + i) * 6 + 5) < 2147483648) : MetI l yX3_unit wsX3_unit ({ frames := 1, cells := 0, slots := 0, locals := 23 } : Room) dC dI (gT cI cL cZ) (xF a cI cL cZ) (xL a) (N, J) [.ref (a 0), .int (nI (k)), .int (nI (i)), .int (v3)] (fun r u => r = -1 ∧ u = (N, J)) := by
  intro sz
  refine g_entry (bytes := cX3_unit) (maxL := 4) (ret := (some .int)) (Qc := fun sz => va_Qi (fun r u => r = -1 ∧ u = (N, J)) (gB dC dI (xF a cI cL cZ)) (aA (xL a) sz)) (by decide) rfl (Nat.le_of_ble_eq_true rfl) rfl ?_
  intro p e s m below meth c ls hx hb hr hml hts hown hlocks hK hP hD hS hZ hl
  have hP : va_P (dC, dI) vwCl (xW a cI cL cZ N J) s.heap := hP
  have hD : va_D (aA (xL a) s.heap.size) (xW a cI cL cZ N J) := hD
  have hown : s.vm.findClass RX3 = some m.cls := hown
  have hl : lv_has ls 4 [(0, .ref (a 0)), (1, .int (nI (k))), (2, .int (nI (i))), (3, .int (v3))] := hl
  have hi2 : ∀ w ∈ wsX20, w ∈ wsX3_unit := by decide +kernel
  have hi3 : ∀ w ∈ wsX30, w ∈ wsX3_unit := by decide +kernel
  have k10 := hts (.fieldLink RX3 10 "ScoreMachine" "setup" "LScoreMachine$Setup;") (by decide +kernel)
  have k30 := hts (.fieldLink RX3 30 "ScoreMachine" "board" "LScoreMachine$Board;") (by decide +kernel)
  have k58 := hts (.fieldLink RX3 58 "ScoreMachine$Setup" "unitsOf" "[I") (by decide +kernel)
  refine lv_iload_n hx hb dX3_unit_0 rfl (lv_at hl 1 rfl) ?_
  refine lv_bipush (v := nI 6) hx hb dX3_unit_1 (by decide) ?_
  refine s_calli (As := [.int (nI (k)), .int (nI (6))]) (rest := []) ⟨hx, hb, hml, hown, hts⟩ (tA_within l (nI k) 6 (by first | decide | omega)) (va_cwS 2 hts gX3_unit_X3_within rfl rfl rfl (by decide +kernel) ⟨Nat.le_of_ble_eq_true rfl, Nat.le_of_ble_eq_true rfl⟩) rfl hl.1 rfl (Nat.le_of_ble_eq_true rfl) dX3_unit_3 (fun r_3 hw => ?_)
  rw [if_pos (by rw [i_ti (by omega)]; omega)] at hw
  subst hw
  refine n_if_eq (tgt := 25) hx hb (by omega) dX3_unit_6 (by decide) (fun c_6 => absurd c_6 (by decide)) (fun c_6 => ?_)
  refine lv_iload_n hx hb dX3_unit_9 rfl (lv_at hl 2 rfl) ?_
  refine lv_aload_n hx hb dX3_unit_10 rfl (lv_at hl 0 rfl) ?_
  refine xg_60 hx hb hts hi3 hown hK hP k10 dX3_unit_11 ?_
  refine xg_4 hx hb hts hi2 hown hK hP k58 dX3_unit_14 ?_
  refine lv_iload_n hx hb dX3_unit_17 rfl (lv_at hl 1 rfl) ?_
  refine xl_4 (v := N 4 k) hx hb hK hP (by omega) rfl dX3_unit_18 ?_
  refine s_calli (As := [.int (nI (i)), .int (nI (N 4 k))]) (rest := []) ⟨hx, hb, hml, hown, hts⟩ (tA_within l (nI i) (N 4 k) (by omega)) (va_cwS 2 hts gX3_unit_X3_within rfl rfl rfl (by decide +kernel) ⟨Nat.le_of_ble_eq_true rfl, Nat.le_of_ble_eq_true rfl⟩) rfl hl.1 rfl (Nat.le_of_ble_eq_true rfl) dX3_unit_19 (fun r_19 hw => ?_)
  rw [if_pos (by rw [i_ti (by omega)]; omega)] at hw
  subst hw
  refine n_if_ne (tgt := 27) hx hb (by omega) dX3_unit_22 (by decide) (fun c_22 => ?_) (fun c_22 => absurd c_22 (by decide))
  refine lv_aload_n hx hb dX3_unit_27 rfl (lv_at hl 0 rfl) ?_
  refine xg_62 hx hb hts hi3 hown hK hP k30 dX3_unit_28 ?_
  refine lv_iload_n hx hb dX3_unit_31 rfl (lv_at hl 1 rfl) ?_
  refine lv_iload_n hx hb dX3_unit_32 rfl (lv_at hl 2 rfl) ?_
  refine s_calli (As := [.int (nI (k)), .int (nI (i))]) (rest := [.ref (a 3)]) ⟨hx, hb, hml, hown, hts⟩ (tA_unitRow l k i) (va_cwS 2 hts gX3_unit_X3_unitRow rfl rfl rfl (by decide +kernel) ⟨Nat.le_of_ble_eq_true rfl, Nat.le_of_ble_eq_true rfl⟩) rfl hl.1 rfl (Nat.le_of_ble_eq_true rfl) dX3_unit_33 (fun r_33 hw => ?_)
  subst hw
  refine lv_iload_n hx hb dX3_unit_36 rfl (lv_at hl 3 rfl) ?_
  refine g_calli (u := (N, J)) (g_runV (As := [.int (nI (k * 3 + i)), .int (v3)]) (rest := []) ⟨hx, hb, hml, hown, hts⟩ (tB_tellUnit_bad l dC dI a cI cL cZ N J (k * 3 + i) v3 (by omega) hb0 hcy h5 s.heap.size) (cwV 2 hts gX3_unit_X0_tellUnit rfl rfl rfl (by decide +kernel) ⟨Nat.le_of_ble_eq_true rfl, Nat.le_of_ble_eq_true rfl⟩) (va_recv hK hP (ci := 0) (q0 := 3) rfl rfl) hK hP hD hS hZ rfl hl.1 rfl (Nat.le_of_ble_eq_true rfl) dX3_unit_37) (xW_L a cI cL cZ) hD hS (fun r_37 u H locs hw hP hD hS => ?_)
  obtain ⟨rfl, rfl⟩ := hw
  have hP : va_P (dC, dI) vwCl (xW a cI cL cZ N J) H := hP
  have hD : va_D (aA (xL a) s.heap.size) (xW a cI cL cZ N J) := hD
  exact g_reti hx hb hr hlocks (N, J) (⟨rfl, rfl⟩) hP hS dX3_unit_40
set_option maxHeartbeats 4000000 in
set_option maxRecDepth 100000 in
theorem tA_unit (l : Launch) (dC : Nat → ClassId) (dI : Nat → Nat → Nat) (a : Nat → Nat) (cI cL cZ : ClassId) (N : Nat → Nat → Nat) (J : Nat → Nat → Int64) (k i w : Nat) (hk : k < 6) (hu : N 4 k ≤ 3) (hi : i < N 4 k) (hw2 : w ≤ 2) (hcy : N 22 0 < 2147483648) (h5 : N 36 ((k * 3 + i) * 6 + 5) < 2147483648) (h4 : N 36 ((k * 3 + i) * 6 + 4) < 2147483648) (h3 : N 36 ((k * 3 + i) * 6 + 3) < 2147483648) : MetI l yX3_unit wsX3_unit ({ frames := 1, cells := 0, slots := 0, locals := 23 } : Room) dC dI (gT cI cL cZ) (xF a cI cL cZ) (xL a) (N, J) [.ref (a 0), .int (nI (k)), .int (nI (i)), .int (nI (w))] (fun r u => r = xTU N (k * 3 + i) w ∧ u = (N, J)) := by
  intro sz
  refine g_entry (bytes := cX3_unit) (maxL := 4) (ret := (some .int)) (Qc := fun sz => va_Qi (fun r u => r = xTU N (k * 3 + i) w ∧ u = (N, J)) (gB dC dI (xF a cI cL cZ)) (aA (xL a) sz)) (by decide) rfl (Nat.le_of_ble_eq_true rfl) rfl ?_
  intro p e s m below meth c ls hx hb hr hml hts hown hlocks hK hP hD hS hZ hl
  have hP : va_P (dC, dI) vwCl (xW a cI cL cZ N J) s.heap := hP
  have hD : va_D (aA (xL a) s.heap.size) (xW a cI cL cZ N J) := hD
  have hown : s.vm.findClass RX3 = some m.cls := hown
  have hl : lv_has ls 4 [(0, .ref (a 0)), (1, .int (nI (k))), (2, .int (nI (i))), (3, .int (nI (w)))] := hl
  have hi2 : ∀ w ∈ wsX20, w ∈ wsX3_unit := by decide +kernel
  have hi3 : ∀ w ∈ wsX30, w ∈ wsX3_unit := by decide +kernel
  have k10 := hts (.fieldLink RX3 10 "ScoreMachine" "setup" "LScoreMachine$Setup;") (by decide +kernel)
  have k30 := hts (.fieldLink RX3 30 "ScoreMachine" "board" "LScoreMachine$Board;") (by decide +kernel)
  have k58 := hts (.fieldLink RX3 58 "ScoreMachine$Setup" "unitsOf" "[I") (by decide +kernel)
  refine lv_iload_n hx hb dX3_unit_0 rfl (lv_at hl 1 rfl) ?_
  refine lv_bipush (v := nI 6) hx hb dX3_unit_1 (by decide) ?_
  refine s_calli (As := [.int (nI (k)), .int (nI (6))]) (rest := []) ⟨hx, hb, hml, hown, hts⟩ (tA_within l (nI k) 6 (by first | decide | omega)) (va_cwS 2 hts gX3_unit_X3_within rfl rfl rfl (by decide +kernel) ⟨Nat.le_of_ble_eq_true rfl, Nat.le_of_ble_eq_true rfl⟩) rfl hl.1 rfl (Nat.le_of_ble_eq_true rfl) dX3_unit_3 (fun r_3 hw => ?_)
  rw [if_pos (by rw [i_ti (by omega)]; omega)] at hw
  subst hw
  refine n_if_eq (tgt := 25) hx hb (by omega) dX3_unit_6 (by decide) (fun c_6 => absurd c_6 (by decide)) (fun c_6 => ?_)
  refine lv_iload_n hx hb dX3_unit_9 rfl (lv_at hl 2 rfl) ?_
  refine lv_aload_n hx hb dX3_unit_10 rfl (lv_at hl 0 rfl) ?_
  refine xg_60 hx hb hts hi3 hown hK hP k10 dX3_unit_11 ?_
  refine xg_4 hx hb hts hi2 hown hK hP k58 dX3_unit_14 ?_
  refine lv_iload_n hx hb dX3_unit_17 rfl (lv_at hl 1 rfl) ?_
  refine xl_4 (v := N 4 k) hx hb hK hP (by omega) rfl dX3_unit_18 ?_
  refine s_calli (As := [.int (nI (i)), .int (nI (N 4 k))]) (rest := []) ⟨hx, hb, hml, hown, hts⟩ (tA_within l (nI i) (N 4 k) (by omega)) (va_cwS 2 hts gX3_unit_X3_within rfl rfl rfl (by decide +kernel) ⟨Nat.le_of_ble_eq_true rfl, Nat.le_of_ble_eq_true rfl⟩) rfl hl.1 rfl (Nat.le_of_ble_eq_true rfl) dX3_unit_19 (fun r_19 hw => ?_)
  rw [if_pos (by rw [i_ti (by omega)]; omega)] at hw
  subst hw
  refine n_if_ne (tgt := 27) hx hb (by omega) dX3_unit_22 (by decide) (fun c_22 => ?_) (fun c_22 => absurd c_22 (by decide))
  refine lv_aload_n hx hb dX3_unit_27 rfl (lv_at hl 0 rfl) ?_
  refine xg_62 hx hb hts hi3 hown hK hP k30 dX3_unit_28 ?_
  refine lv_iload_n hx hb dX3_unit_31 rfl (lv_at hl 1 rfl) ?_
  refine lv_iload_n hx hb dX3_unit_32 rfl (lv_at hl 2 rfl) ?_
  refine s_calli (As := [.int (nI (k)), .int (nI (i))]) (rest := [.ref (a 3)]) ⟨hx, hb, hml, hown, hts⟩ (tA_unitRow l k i) (va_cwS 2 hts gX3_unit_X3_unitRow rfl rfl rfl (by decide +kernel) ⟨Nat.le_of_ble_eq_true rfl, Nat.le_of_ble_eq_true rfl⟩) rfl hl.1 rfl (Nat.le_of_ble_eq_true rfl) dX3_unit_33 (fun r_33 hw => ?_)
  subst hw
  refine lv_iload_n hx hb dX3_unit_36 rfl (lv_at hl 3 rfl) ?_
  refine g_calli (u := (N, J)) (g_runV (As := [.int (nI (k * 3 + i)), .int (nI (w))]) (rest := []) ⟨hx, hb, hml, hown, hts⟩ (tB_tellUnit l dC dI a cI cL cZ N J (k * 3 + i) w (by omega) hw2 hcy h5 h4 h3 s.heap.size) (cwV 2 hts gX3_unit_X0_tellUnit rfl rfl rfl (by decide +kernel) ⟨Nat.le_of_ble_eq_true rfl, Nat.le_of_ble_eq_true rfl⟩) (va_recv hK hP (ci := 0) (q0 := 3) rfl rfl) hK hP hD hS hZ rfl hl.1 rfl (Nat.le_of_ble_eq_true rfl) dX3_unit_37) (xW_L a cI cL cZ) hD hS (fun r_37 u H locs hw hP hD hS => ?_)
  obtain ⟨rfl, rfl⟩ := hw
  have hP : va_P (dC, dI) vwCl (xW a cI cL cZ N J) H := hP
  have hD : va_D (aA (xL a) s.heap.size) (xW a cI cL cZ N J) := hD
  exact g_reti hx hb hr hlocks (N, J) (⟨rfl, rfl⟩) hP hS dX3_unit_40
def xCnt (N : Nat → Nat → Nat) (w : Nat) : Int32 := if w = 0 then nI (N 22 0) else if w = 1 then nI (if N 23 0 = 0 then 0 else 1) else if w = 2 then nI (N 24 0) else if w = 3 then nI (cnX N 18) else if w = 7 then (if N 22 0 < N 33 0 then -1 else nI (N 13 0)) else if w = 8 then nI (N 24 0) - nI (cnX N 18) else nI (N 25 (w - 3))
set_option maxHeartbeats 4000000 in
set_option maxRecDepth 100000 in
theorem tA_count_bad (l : Launch) (dC : Nat → ClassId) (dI : Nat → Nat → Nat) (a : Nat → Nat) (cI cL cZ : ClassId) (N : Nat → Nat → Nat) (J : Nat → Nat → Int64) (v1 : Int32) (hb0 : ¬ (0 ≤ v1.toInt ∧ v1.toInt < 9)) : MetI l yX3_count wsX3_count ({ frames := 0, cells := 0, slots := 0, locals := 0 } : Room) dC dI (gT cI cL cZ) (xF a cI cL cZ) (xL a) (N, J) [.ref (a 0), .int (v1)] (fun r u => r = -1 ∧ u = (N, J)) := by
  intro sz
  refine g_entry (bytes := cX3_count) (maxL := 2) (ret := (some .int)) (Qc := fun sz => va_Qi (fun r u => r = -1 ∧ u = (N, J)) (gB dC dI (xF a cI cL cZ)) (aA (xL a) sz)) (by decide) rfl (Nat.le_of_ble_eq_true rfl) rfl ?_
  intro p e s m below meth c ls hx hb hr hml hts hown hlocks hK hP hD hS hZ hl
  have hP : va_P (dC, dI) vwCl (xW a cI cL cZ N J) s.heap := hP
  have hD : va_D (aA (xL a) s.heap.size) (xW a cI cL cZ N J) := hD
  have hown : s.vm.findClass RX3 = some m.cls := hown
  have hl : lv_has ls 2 [(0, .ref (a 0)), (1, .int (v1))] := hl
  refine lv_iload_n hx hb dX3_count_0 rfl (lv_at hl 1 rfl) ?_
  refine lv_tableOut (tgt := 167) hx hb dX3_count_1 (by omega) (by decide) ?_
  refine lv_iconst (v := -1) hx hb dX3_count_167 (by decide) ?_
  exact g_reti hx hb hr hlocks (N, J) (⟨rfl, rfl⟩) hP hS dX3_count_168
set_option maxHeartbeats 4000000 in
set_option maxRecDepth 100000 in
theorem tA_count (l : Launch) (dC : Nat → ClassId) (dI : Nat → Nat → Nat) (a : Nat → Nat) (cI cL cZ : ClassId) (N : Nat → Nat → Nat) (J : Nat → Nat → Int64) (w : Nat) (hw : w < 9) (hcy : N 22 0 < 2147483648) (ho : N 23 0 < 2) (h33 : N 33 0 < 2147483648) (hw2 : ∀ k, k < 18 → N 36 (6 * k + 5) < 2147483648) : MetI l yX3_count wsX3_count ({ frames := 1, cells := 0, slots := 0, locals := 22 } : Room) dC dI (gT cI cL cZ) (xF a cI cL cZ) (xL a) (N, J) [.ref (a 0), .int (nI (w))] (fun r u => r = xCnt N w ∧ u = (N, J)) := by
  intro sz
  refine g_entry (bytes := cX3_count) (maxL := 2) (ret := (some .int)) (Qc := fun sz => va_Qi (fun r u => r = xCnt N w ∧ u = (N, J)) (gB dC dI (xF a cI cL cZ)) (aA (xL a) sz)) (by decide) rfl (Nat.le_of_ble_eq_true rfl) rfl ?_
  intro p e s m below meth c ls hx hb hr hml hts hown hlocks hK hP hD hS hZ hl
  have hP : va_P (dC, dI) vwCl (xW a cI cL cZ N J) s.heap := hP
  have hD : va_D (aA (xL a) s.heap.size) (xW a cI cL cZ N J) := hD
  have hown : s.vm.findClass RX3 = some m.cls := hown
  have hl : lv_has ls 2 [(0, .ref (a 0)), (1, .int (nI (w)))] := hl
  have hi0 : ∀ w ∈ wsX00, w ∈ wsX3_count := by decide +kernel
  have hi1 : ∀ w ∈ wsX10, w ∈ wsX3_count := by decide +kernel
  have hi3 : ∀ w ∈ wsX30, w ∈ wsX3_count := by decide +kernel
  have k102 := hts (.fieldLink RX3 102 "ScoreMachine$Board" "stalls" "[I") (by decide +kernel)
  have k105 := hts (.fieldLink RX3 105 "ScoreMachine$Board" "branchWritten" "I") (by decide +kernel)
  have k108 := hts (.fieldLink RX3 108 "ScoreMachine$PlainMachine" "place" "I") (by decide +kernel)
  have k21 := hts (.fieldLink RX3 21 "ScoreMachine" "plainMachine" "LScoreMachine$PlainMachine;") (by decide +kernel)
  have k30 := hts (.fieldLink RX3 30 "ScoreMachine" "board" "LScoreMachine$Board;") (by decide +kernel)
  have k80 := hts (.fieldLink RX3 80 "ScoreMachine$Board" "over" "Z") (by decide +kernel)
  have k92 := hts (.fieldLink RX3 92 "ScoreMachine$Board" "cycle" "I") (by decide +kernel)
  have k95 := hts (.fieldLink RX3 95 "ScoreMachine$Board" "issued" "I") (by decide +kernel)
  refine lv_iload_n hx hb dX3_count_0 rfl (lv_at hl 1 rfl) ?_
  rcases (by omega : w = 0 ∨ w = 1 ∨ w = 2 ∨ w = 3 ∨ w = 4 ∨ w = 5 ∨ w = 6 ∨ w = 7 ∨ w = 8) with h9 | h9 | h9 | h9 | h9 | h9 | h9 | h9 | h9
  · refine n_w (b := 0) (h9) ?_
    refine lv_tableIn (off := 51) (tgt := 52) hx hb dX3_count_1 (by decide) (by decide) (by decide) (by decide) ?_
    refine lv_aload_n hx hb dX3_count_52 rfl (lv_at hl 0 rfl) ?_
    refine xg_62 hx hb hts hi3 hown hK hP k30 dX3_count_53 ?_
    refine xg_22 (v := N 22 0) hx hb hts hi0 hown hK hP k92 rfl dX3_count_56 ?_
    exact g_reti hx hb hr hlocks (N, J) (⟨by subst h9; rfl, rfl⟩) hP hS dX3_count_59
  · refine n_w (b := 1) (h9) ?_
    refine lv_tableIn (off := 59) (tgt := 60) hx hb dX3_count_1 (by decide) (by decide) (by decide) (by decide) ?_
    refine lv_aload_n hx hb dX3_count_60 rfl (lv_at hl 0 rfl) ?_
    refine xg_62 hx hb hts hi3 hown hK hP k30 dX3_count_61 ?_
    refine xg_23 (v := N 23 0) hx hb hts hi0 hown hK hP k80 rfl dX3_count_64 ?_
    refine n_if_eq (tgt := 74) hx hb (by omega) dX3_count_67 (by decide) (fun c_67 => ?_) (fun c_67 => ?_)
    · refine lv_iconst (v := nI 0) hx hb dX3_count_74 (by decide) ?_
      exact g_reti hx hb hr hlocks (N, J) (⟨by subst h9; show _ = nI (if N 23 0 = 0 then 0 else 1); split <;> first | rfl | (exfalso; omega), rfl⟩) hP hS dX3_count_75
    · refine lv_iconst (v := nI 1) hx hb dX3_count_70 (by decide) ?_
      refine lv_goto (tgt := 75) hx hb dX3_count_71 (by decide) ?_
      exact g_reti hx hb hr hlocks (N, J) (⟨by subst h9; show _ = nI (if N 23 0 = 0 then 0 else 1); split <;> first | rfl | (exfalso; omega), rfl⟩) hP hS dX3_count_75
  · refine n_w (b := 2) (h9) ?_
    refine lv_tableIn (off := 75) (tgt := 76) hx hb dX3_count_1 (by decide) (by decide) (by decide) (by decide) ?_
    refine lv_aload_n hx hb dX3_count_76 rfl (lv_at hl 0 rfl) ?_
    refine xg_62 hx hb hts hi3 hown hK hP k30 dX3_count_77 ?_
    refine xg_24 (v := N 24 0) hx hb hts hi0 hown hK hP k95 rfl dX3_count_80 ?_
    exact g_reti hx hb hr hlocks (N, J) (⟨by subst h9; rfl, rfl⟩) hP hS dX3_count_83
  · refine n_w (b := 3) (h9) ?_
    refine lv_tableIn (off := 83) (tgt := 84) hx hb dX3_count_1 (by decide) (by decide) (by decide) (by decide) ?_
    refine lv_aload_n hx hb dX3_count_84 rfl (lv_at hl 0 rfl) ?_
    refine xg_62 hx hb hts hi3 hown hK hP k30 dX3_count_85 ?_
    refine g_calli (u := (N, J)) (g_runV (As := []) (rest := []) ⟨hx, hb, hml, hown, hts⟩ (tB_notWritten l dC dI a cI cL cZ N J hcy hw2 s.heap.size) (cwV 0 hts gX3_count_X0_notWritten rfl rfl rfl (by decide +kernel) ⟨Nat.le_of_ble_eq_true rfl, Nat.le_of_ble_eq_true rfl⟩) (va_recv hK hP (ci := 0) (q0 := 3) rfl rfl) hK hP hD hS hZ rfl hl.1 rfl (Nat.le_of_ble_eq_true rfl) dX3_count_88) (xW_L a cI cL cZ) hD hS (fun r_88 u H locs hw hP hD hS => ?_)
    obtain ⟨rfl, rfl⟩ := hw
    have hP : va_P (dC, dI) vwCl (xW a cI cL cZ N J) H := hP
    have hD : va_D (aA (xL a) s.heap.size) (xW a cI cL cZ N J) := hD
    exact g_reti hx hb hr hlocks (N, J) (⟨by subst h9; rfl, rfl⟩) hP hS dX3_count_91
  · refine n_w (b := 4) (h9) ?_
    refine lv_tableIn (off := 91) (tgt := 92) hx hb dX3_count_1 (by decide) (by decide) (by decide) (by decide) ?_
    refine lv_aload_n hx hb dX3_count_92 rfl (lv_at hl 0 rfl) ?_
    refine xg_62 hx hb hts hi3 hown hK hP k30 dX3_count_93 ?_
    refine xg_25 hx hb hts hi0 hown hK hP k102 dX3_count_96 ?_
    refine lv_iconst (v := nI 1) hx hb dX3_count_99 (by decide) ?_
    refine xl_25 (v := N 25 1) hx hb hK hP (by omega) rfl dX3_count_100 ?_
    exact g_reti hx hb hr hlocks (N, J) (⟨by subst h9; rfl, rfl⟩) hP hS dX3_count_101
  · refine n_w (b := 5) (h9) ?_
    refine lv_tableIn (off := 101) (tgt := 102) hx hb dX3_count_1 (by decide) (by decide) (by decide) (by decide) ?_
    refine lv_aload_n hx hb dX3_count_102 rfl (lv_at hl 0 rfl) ?_
    refine xg_62 hx hb hts hi3 hown hK hP k30 dX3_count_103 ?_
    refine xg_25 hx hb hts hi0 hown hK hP k102 dX3_count_106 ?_
    refine lv_iconst (v := nI 2) hx hb dX3_count_109 (by decide) ?_
    refine xl_25 (v := N 25 2) hx hb hK hP (by omega) rfl dX3_count_110 ?_
    exact g_reti hx hb hr hlocks (N, J) (⟨by subst h9; rfl, rfl⟩) hP hS dX3_count_111
  · refine n_w (b := 6) (h9) ?_
    refine lv_tableIn (off := 111) (tgt := 112) hx hb dX3_count_1 (by decide) (by decide) (by decide) (by decide) ?_
    refine lv_aload_n hx hb dX3_count_112 rfl (lv_at hl 0 rfl) ?_
    refine xg_62 hx hb hts hi3 hown hK hP k30 dX3_count_113 ?_
    refine xg_25 hx hb hts hi0 hown hK hP k102 dX3_count_116 ?_
    refine lv_iconst (v := nI 3) hx hb dX3_count_119 (by decide) ?_
    refine xl_25 (v := N 25 3) hx hb hK hP (by omega) rfl dX3_count_120 ?_
    exact g_reti hx hb hr hlocks (N, J) (⟨by subst h9; rfl, rfl⟩) hP hS dX3_count_121
  · refine n_w (b := 7) (h9) ?_
    refine lv_tableIn (off := 121) (tgt := 122) hx hb dX3_count_1 (by decide) (by decide) (by decide) (by decide) ?_
    refine lv_aload_n hx hb dX3_count_122 rfl (lv_at hl 0 rfl) ?_
    refine xg_62 hx hb hts hi3 hown hK hP k30 dX3_count_123 ?_
    refine xg_33 (v := N 33 0) hx hb hts hi0 hown hK hP k105 rfl dX3_count_126 ?_
    refine lv_aload_n hx hb dX3_count_129 rfl (lv_at hl 0 rfl) ?_
    refine xg_62 hx hb hts hi3 hown hK hP k30 dX3_count_130 ?_
    refine xg_22 (v := N 22 0) hx hb hts hi0 hown hK hP k92 rfl dX3_count_133 ?_
    refine n_icmp_le (tgt := 143) hx hb (by omega) (by omega) dX3_count_136 (by decide) (fun c_136 => ?_) (fun c_136 => ?_)
    · refine lv_aload_n hx hb dX3_count_143 rfl (lv_at hl 0 rfl) ?_
      refine xg_61 hx hb hts hi3 hown hK hP k21 dX3_count_144 ?_
      refine xg_13 (v := N 13 0) hx hb hts hi1 hown hK hP k108 rfl dX3_count_147 ?_
      exact g_reti hx hb hr hlocks (N, J) (⟨by subst h9; show _ = (if N 22 0 < N 33 0 then -1 else nI (N 13 0)); split <;> first | rfl | (exfalso; omega), rfl⟩) hP hS dX3_count_150
    · refine lv_iconst (v := -1) hx hb dX3_count_139 (by decide) ?_
      refine lv_goto (tgt := 150) hx hb dX3_count_140 (by decide) ?_
      exact g_reti hx hb hr hlocks (N, J) (⟨by subst h9; show _ = (if N 22 0 < N 33 0 then -1 else nI (N 13 0)); split <;> first | rfl | (exfalso; omega), rfl⟩) hP hS dX3_count_150
  · refine n_w (b := 8) (h9) ?_
    refine lv_tableIn (off := 150) (tgt := 151) hx hb dX3_count_1 (by decide) (by decide) (by decide) (by decide) ?_
    refine lv_aload_n hx hb dX3_count_151 rfl (lv_at hl 0 rfl) ?_
    refine xg_62 hx hb hts hi3 hown hK hP k30 dX3_count_152 ?_
    refine xg_24 (v := N 24 0) hx hb hts hi0 hown hK hP k95 rfl dX3_count_155 ?_
    refine lv_aload_n hx hb dX3_count_158 rfl (lv_at hl 0 rfl) ?_
    refine xg_62 hx hb hts hi3 hown hK hP k30 dX3_count_159 ?_
    refine g_calli (u := (N, J)) (g_runV (As := []) (rest := [.int (nI (N 24 0))]) ⟨hx, hb, hml, hown, hts⟩ (tB_notWritten l dC dI a cI cL cZ N J hcy hw2 s.heap.size) (cwV 0 hts gX3_count_X0_notWritten rfl rfl rfl (by decide +kernel) ⟨Nat.le_of_ble_eq_true rfl, Nat.le_of_ble_eq_true rfl⟩) (va_recv hK hP (ci := 0) (q0 := 3) rfl rfl) hK hP hD hS hZ rfl hl.1 rfl (Nat.le_of_ble_eq_true rfl) dX3_count_162) (xW_L a cI cL cZ) hD hS (fun r_162 u H locs hw hP hD hS => ?_)
    obtain ⟨rfl, rfl⟩ := hw
    have hP : va_P (dC, dI) vwCl (xW a cI cL cZ N J) H := hP
    have hD : va_D (aA (xL a) s.heap.size) (xW a cI cL cZ N J) := hD
    refine lv_isub hx hb dX3_count_165 ?_
    exact g_reti hx hb hr hlocks (N, J) (⟨by subst h9; rfl, rfl⟩) hP hS dX3_count_166
def xAgain (u : gSt) : gSt := (xBN (uN u.1 13 0 0), xBJ (cqJ (cqJ u.2 6 11 16) 7 12 256))
set_option maxHeartbeats 4000000 in
set_option maxRecDepth 100000 in
theorem tA_again (l : Launch) (dC : Nat → ClassId) (dI : Nat → Nat → Nat) (a : Nat → Nat) (cI cL cZ : ClassId) (N : Nat → Nat → Nat) (J : Nat → Nat → Int64)   : MetV l yX3_again wsX3_again ({ frames := 2, cells := 0, slots := 0, locals := 60 } : Room) dC dI (gT cI cL cZ) (xF a cI cL cZ) (xL a) (N, J) [.ref (a 0)] (fun u => u = xAgain (N, J)) := by
  intro sz
  refine g_entry (bytes := cX3_again) (maxL := 1) (ret := none) (Qc := fun sz => va_Qv (fun u => u = xAgain (N, J)) (gB dC dI (xF a cI cL cZ)) (aA (xL a) sz)) (by decide) rfl (Nat.le_of_ble_eq_true rfl) rfl ?_
  intro p e s m below meth c ls hx hb hr hml hts hown hlocks hK hP hD hS hZ hl
  have hP : va_P (dC, dI) vwCl (xW a cI cL cZ N J) s.heap := hP
  have hD : va_D (aA (xL a) s.heap.size) (xW a cI cL cZ N J) := hD
  have hown : s.vm.findClass RX3 = some m.cls := hown
  have hl : lv_has ls 1 [(0, .ref (a 0))] := hl
  have hi3 : ∀ w ∈ wsX30, w ∈ wsX3_again := by decide +kernel
  have k21 := hts (.fieldLink RX3 21 "ScoreMachine" "plainMachine" "LScoreMachine$PlainMachine;") (by decide +kernel)
  have k30 := hts (.fieldLink RX3 30 "ScoreMachine" "board" "LScoreMachine$Board;") (by decide +kernel)
  refine lv_aload_n hx hb dX3_again_0 rfl (lv_at hl 0 rfl) ?_
  refine xg_61 hx hb hts hi3 hown hK hP k21 dX3_again_1 ?_
  refine g_callv (u := (N, J)) (g_runV (As := []) (rest := []) ⟨hx, hb, hml, hown, hts⟩ (tP_begin l dC dI a cI cL cZ N J  s.heap.size) (cwV 0 hts gX3_again_X1_begin rfl rfl rfl (by decide +kernel) ⟨Nat.le_of_ble_eq_true rfl, Nat.le_of_ble_eq_true rfl⟩) (va_recv hK hP (ci := 1) (q0 := 2) rfl rfl) hK hP hD hS hZ rfl hl.1 rfl (Nat.le_of_ble_eq_true rfl) dX3_again_4) (xW_L a cI cL cZ) hD hS (fun u H locs hw hP hD hS => ?_)
  subst hw
  have hP : va_P (dC, dI) vwCl (xW a cI cL cZ (uN N 13 0 0) (cqJ (cqJ J 6 11 16) 7 12 256)) H := hP
  have hD : va_D (aA (xL a) s.heap.size) (xW a cI cL cZ (uN N 13 0 0) (cqJ (cqJ J 6 11 16) 7 12 256)) := hD
  refine lv_aload_n hx hb dX3_again_7 rfl (lv_at hl 0 rfl) ?_
  refine xg_62 hx hb hts hi3 hown hK hP k30 dX3_again_8 ?_
  refine g_callv (u := ((uN N 13 0 0), (cqJ (cqJ J 6 11 16) 7 12 256))) (g_runV (As := []) (rest := []) ⟨hx, hb, hml, hown, hts⟩ (tB_begin l dC dI a cI cL cZ (uN N 13 0 0) (cqJ (cqJ J 6 11 16) 7 12 256)  H.size) (cwV 0 hts gX3_again_X0_begin rfl rfl rfl (by decide +kernel) ⟨Nat.le_of_ble_eq_true rfl, Nat.le_of_ble_eq_true rfl⟩) (va_recv hK hP (ci := 0) (q0 := 3) rfl rfl) hK hP hD hS hZ rfl hl.1 rfl (Nat.le_of_ble_eq_true rfl) dX3_again_11) (xW_L a cI cL cZ) hD hS (fun u H locs hw hP hD hS => ?_)
  subst hw
  have hP : va_P (dC, dI) vwCl (xW a cI cL cZ (xBN (uN N 13 0 0)) (xBJ (cqJ (cqJ J 6 11 16) 7 12 256))) H := hP
  have hD : va_D (aA (xL a) s.heap.size) (xW a cI cL cZ (xBN (uN N 13 0 0)) (xBJ (cqJ (cqJ J 6 11 16) 7 12 256))) := hD
  exact g_retv hx hb hr hlocks ((xBN (uN N 13 0 0)), (xBJ (cqJ (cqJ J 6 11 16) 7 12 256))) (rfl) hP hS dX3_again_14
