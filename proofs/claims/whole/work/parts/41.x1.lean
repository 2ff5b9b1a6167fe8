set_option maxHeartbeats 4000000 in
set_option maxRecDepth 100000 in
theorem tA_readsA (l : Launch) (k : Nat) (hk : k < 2147483648) : MetS l yX3_readsA wsX3_readsA ({ frames := 0, cells := 0, slots := 0, locals := 0 } : Room) [.int (nI (k))] (fun r => r = nI (if xRA k then 1 else 0)) := by
  refine s_entry (bytes := cX3_readsA) (maxL := 1) (ret := (some .boolean)) (by decide) rfl (Nat.le_of_ble_eq_true rfl) ?_
  intro p e s m below meth c ls hx hb hr hml hts hown hlocks hl
  have hown : s.vm.findClass RX3 = some m.cls := hown
  have hl : lv_has ls 1 [(0, .int (nI (k)))] := hl
  refine lv_iload_n hx hb dX3_readsA_0 rfl (lv_at hl 0 rfl) ?_
  refine lv_iconst (v := nI 1) hx hb dX3_readsA_1 (by decide) ?_
  refine n_icmp_lt (tgt := 21) hx hb (by omega) (by omega) dX3_readsA_2 (by decide) (fun c_2 => ?_) (fun c_2 => ?_)
  · refine lv_iconst (v := nI 0) hx hb dX3_readsA_21 (by decide) ?_
    exact s_retz hx hb hr hlocks (by decide) (by (repeat' split) <;> first | rfl | (exfalso; omega)) dX3_readsA_22
  · refine lv_iload_n hx hb dX3_readsA_5 rfl (lv_at hl 0 rfl) ?_
    refine lv_bipush (v := nI 17) hx hb dX3_readsA_6 (by decide) ?_
    refine n_icmp_gt (tgt := 21) hx hb (by omega) (by omega) dX3_readsA_8 (by decide) (fun c_8 => ?_) (fun c_8 => ?_)
    · refine lv_iconst (v := nI 0) hx hb dX3_readsA_21 (by decide) ?_
      exact s_retz hx hb hr hlocks (by decide) (by (repeat' split) <;> first | rfl | (exfalso; omega)) dX3_readsA_22
    · refine lv_iload_n hx hb dX3_readsA_11 rfl (lv_at hl 0 rfl) ?_
      refine lv_bipush (v := nI 6) hx hb dX3_readsA_12 (by decide) ?_
      refine n_icmp_eq (tgt := 21) hx hb (by omega) (by omega) dX3_readsA_14 (by decide) (fun c_14 => ?_) (fun c_14 => ?_)
      · refine lv_iconst (v := nI 0) hx hb dX3_readsA_21 (by decide) ?_
        exact s_retz hx hb hr hlocks (by decide) (by (repeat' split) <;> first | rfl | (exfalso; omega)) dX3_readsA_22
      · refine lv_iconst (v := nI 1) hx hb dX3_readsA_17 (by decide) ?_
        refine lv_goto (tgt := 22) hx hb dX3_readsA_18 (by decide) ?_
        exact s_retz hx hb hr hlocks (by decide) (by (repeat' split) <;> first | rfl | (exfalso; omega)) dX3_readsA_22
set_option maxHeartbeats 4000000 in
set_option maxRecDepth 100000 in
theorem tA_readsB (l : Launch) (k : Nat) (hk : k < 2147483648) : MetS l yX3_readsB wsX3_readsB ({ frames := 0, cells := 0, slots := 0, locals := 0 } : Room) [.int (nI (k))] (fun r => r = nI (if xRB k then 1 else 0)) := by
  refine s_entry (bytes := cX3_readsB) (maxL := 1) (ret := (some .boolean)) (by decide) rfl (Nat.le_of_ble_eq_true rfl) ?_
  intro p e s m below meth c ls hx hb hr hml hts hown hlocks hl
  have hown : s.vm.findClass RX3 = some m.cls := hown
  have hl : lv_has ls 1 [(0, .int (nI (k)))] := hl
  refine lv_iload_n hx hb dX3_readsB_0 rfl (lv_at hl 0 rfl) ?_
  refine lv_iconst (v := nI 1) hx hb dX3_readsB_1 (by decide) ?_
  refine n_icmp_lt (tgt := 10) hx hb (by omega) (by omega) dX3_readsB_2 (by decide) (fun c_2 => ?_) (fun c_2 => ?_)
  · refine lv_iload_n hx hb dX3_readsB_10 rfl (lv_at hl 0 rfl) ?_
    refine lv_bipush (v := nI 8) hx hb dX3_readsB_11 (by decide) ?_
    refine n_icmp_lt (tgt := 26) hx hb (by omega) (by omega) dX3_readsB_13 (by decide) (fun c_13 => ?_) (fun c_13 => ?_)
    · refine lv_iconst (v := nI 0) hx hb dX3_readsB_26 (by decide) ?_
      exact s_retz hx hb hr hlocks (by decide) (by (repeat' split) <;> first | rfl | (exfalso; omega)) dX3_readsB_27
    · refine lv_iload_n hx hb dX3_readsB_16 rfl (lv_at hl 0 rfl) ?_
      refine lv_bipush (v := nI 13) hx hb dX3_readsB_17 (by decide) ?_
      refine n_icmp_gt (tgt := 26) hx hb (by omega) (by omega) dX3_readsB_19 (by decide) (fun c_19 => ?_) (fun c_19 => ?_)
      · refine lv_iconst (v := nI 0) hx hb dX3_readsB_26 (by decide) ?_
        exact s_retz hx hb hr hlocks (by decide) (by (repeat' split) <;> first | rfl | (exfalso; omega)) dX3_readsB_27
      · refine lv_iconst (v := nI 1) hx hb dX3_readsB_22 (by decide) ?_
        refine lv_goto (tgt := 27) hx hb dX3_readsB_23 (by decide) ?_
        exact s_retz hx hb hr hlocks (by decide) (by (repeat' split) <;> first | rfl | (exfalso; omega)) dX3_readsB_27
  · refine lv_iload_n hx hb dX3_readsB_5 rfl (lv_at hl 0 rfl) ?_
    refine lv_iconst (v := nI 5) hx hb dX3_readsB_6 (by decide) ?_
    refine n_icmp_le (tgt := 22) hx hb (by omega) (by omega) dX3_readsB_7 (by decide) (fun c_7 => ?_) (fun c_7 => ?_)
    · refine lv_iconst (v := nI 1) hx hb dX3_readsB_22 (by decide) ?_
      refine lv_goto (tgt := 27) hx hb dX3_readsB_23 (by decide) ?_
      exact s_retz hx hb hr hlocks (by decide) (by (repeat' split) <;> first | rfl | (exfalso; omega)) dX3_readsB_27
    · refine lv_iload_n hx hb dX3_readsB_10 rfl (lv_at hl 0 rfl) ?_
      refine lv_bipush (v := nI 8) hx hb dX3_readsB_11 (by decide) ?_
      refine n_icmp_lt (tgt := 26) hx hb (by omega) (by omega) dX3_readsB_13 (by decide) (fun c_13 => ?_) (fun c_13 => ?_)
      · refine lv_iconst (v := nI 0) hx hb dX3_readsB_26 (by decide) ?_
        exact s_retz hx hb hr hlocks (by decide) (by (repeat' split) <;> first | rfl | (exfalso; omega)) dX3_readsB_27
      · refine lv_iload_n hx hb dX3_readsB_16 rfl (lv_at hl 0 rfl) ?_
        refine lv_bipush (v := nI 13) hx hb dX3_readsB_17 (by decide) ?_
        refine n_icmp_gt (tgt := 26) hx hb (by omega) (by omega) dX3_readsB_19 (by decide) (fun c_19 => ?_) (fun c_19 => ?_)
        · refine lv_iconst (v := nI 0) hx hb dX3_readsB_26 (by decide) ?_
          exact s_retz hx hb hr hlocks (by decide) (by (repeat' split) <;> first | rfl | (exfalso; omega)) dX3_readsB_27
        · refine lv_iconst (v := nI 1) hx hb dX3_readsB_22 (by decide) ?_
          refine lv_goto (tgt := 27) hx hb dX3_readsB_23 (by decide) ?_
          exact s_retz hx hb hr hlocks (by decide) (by (repeat' split) <;> first | rfl | (exfalso; omega)) dX3_readsB_27
set_option maxHeartbeats 4000000 in
set_option maxRecDepth 100000 in
theorem tA_readsD (l : Launch) (k : Nat) (hk : k < 2147483648) : MetS l yX3_readsD wsX3_readsD ({ frames := 0, cells := 0, slots := 0, locals := 0 } : Room) [.int (nI (k))] (fun r => r = nI (if k = 15 then 1 else 0)) := by
  refine s_entry (bytes := cX3_readsD) (maxL := 1) (ret := (some .boolean)) (by decide) rfl (Nat.le_of_ble_eq_true rfl) ?_
  intro p e s m below meth c ls hx hb hr hml hts hown hlocks hl
  have hown : s.vm.findClass RX3 = some m.cls := hown
  have hl : lv_has ls 1 [(0, .int (nI (k)))] := hl
  refine lv_iload_n hx hb dX3_readsD_0 rfl (lv_at hl 0 rfl) ?_
  refine lv_bipush (v := nI 15) hx hb dX3_readsD_1 (by decide) ?_
  refine n_icmp_ne (tgt := 10) hx hb (by omega) (by omega) dX3_readsD_3 (by decide) (fun c_3 => ?_) (fun c_3 => ?_)
  · refine lv_iconst (v := nI 0) hx hb dX3_readsD_10 (by decide) ?_
    exact s_retz hx hb hr hlocks (by decide) (by (repeat' split) <;> first | rfl | (exfalso; omega)) dX3_readsD_11
  · refine lv_iconst (v := nI 1) hx hb dX3_readsD_6 (by decide) ?_
    refine lv_goto (tgt := 11) hx hb dX3_readsD_7 (by decide) ?_
    exact s_retz hx hb hr hlocks (by decide) (by (repeat' split) <;> first | rfl | (exfalso; omega)) dX3_readsD_11
set_option maxHeartbeats 4000000 in
set_option maxRecDepth 100000 in
theorem tA_writesD (l : Launch) (k : Nat) (hk : k < 2147483648) : MetS l yX3_writesD wsX3_writesD ({ frames := 0, cells := 0, slots := 0, locals := 0 } : Room) [.int (nI (k))] (fun r => r = nI (if xWD k then 1 else 0)) := by
  refine s_entry (bytes := cX3_writesD) (maxL := 1) (ret := (some .boolean)) (by decide) rfl (Nat.le_of_ble_eq_true rfl) ?_
  intro p e s m below meth c ls hx hb hr hml hts hown hlocks hl
  have hown : s.vm.findClass RX3 = some m.cls := hown
  have hl : lv_has ls 1 [(0, .int (nI (k)))] := hl
  refine lv_iload_n hx hb dX3_writesD_0 rfl (lv_at hl 0 rfl) ?_
  refine lv_iconst (v := nI 1) hx hb dX3_writesD_1 (by decide) ?_
  refine n_icmp_lt (tgt := 15) hx hb (by omega) (by omega) dX3_writesD_2 (by decide) (fun c_2 => ?_) (fun c_2 => ?_)
  · refine lv_iconst (v := nI 0) hx hb dX3_writesD_15 (by decide) ?_
    exact s_retz hx hb hr hlocks (by decide) (by (repeat' split) <;> first | rfl | (exfalso; omega)) dX3_writesD_16
  · refine lv_iload_n hx hb dX3_writesD_5 rfl (lv_at hl 0 rfl) ?_
    refine lv_bipush (v := nI 14) hx hb dX3_writesD_6 (by decide) ?_
    refine n_icmp_gt (tgt := 15) hx hb (by omega) (by omega) dX3_writesD_8 (by decide) (fun c_8 => ?_) (fun c_8 => ?_)
    · refine lv_iconst (v := nI 0) hx hb dX3_writesD_15 (by decide) ?_
      exact s_retz hx hb hr hlocks (by decide) (by (repeat' split) <;> first | rfl | (exfalso; omega)) dX3_writesD_16
    · refine lv_iconst (v := nI 1) hx hb dX3_writesD_11 (by decide) ?_
      refine lv_goto (tgt := 16) hx hb dX3_writesD_12 (by decide) ?_
      exact s_retz hx hb hr hlocks (by decide) (by (repeat' split) <;> first | rfl | (exfalso; omega)) dX3_writesD_16
set_option maxHeartbeats 4000000 in
set_option maxRecDepth 100000 in
theorem tA_unitRow (l : Launch) (k i : Nat)  : MetS l yX3_unitRow wsX3_unitRow ({ frames := 0, cells := 0, slots := 0, locals := 0 } : Room) [.int (nI (k)), .int (nI (i))] (fun r => r = nI (k * 3 + i)) := by
  refine s_entry (bytes := cX3_unitRow) (maxL := 2) (ret := (some .int)) (by decide) rfl (Nat.le_of_ble_eq_true rfl) ?_
  intro p e s m below meth c ls hx hb hr hml hts hown hlocks hl
  have hown : s.vm.findClass RX3 = some m.cls := hown
  have hl : lv_has ls 2 [(0, .int (nI (k))), (1, .int (nI (i)))] := hl
  refine lv_iload_n hx hb dX3_unitRow_0 rfl (lv_at hl 0 rfl) ?_
  refine lv_iconst (v := nI 3) hx hb dX3_unitRow_1 (by decide) ?_
  refine n_mul hx hb dX3_unitRow_2 ?_
  refine lv_iload_n hx hb dX3_unitRow_3 rfl (lv_at hl 1 rfl) ?_
  refine n_add hx hb dX3_unitRow_4 ?_
  exact s_reti hx hb hr hlocks (rfl) dX3_unitRow_5
set_option maxHeartbeats 4000000 in
set_option maxRecDepth 100000 in
theorem tA_within (l : Launch) (v : Int32) (n : Nat) (hn : n < 2147483648) : MetS l yX3_within wsX3_within ({ frames := 0, cells := 0, slots := 0, locals := 0 } : Room) [.int (v), .int (nI (n))] (fun r => r = nI (if 0 ≤ v.toInt ∧ v.toInt < n then 1 else 0)) := by
  refine s_entry (bytes := cX3_within) (maxL := 2) (ret := (some .boolean)) (by decide) rfl (Nat.le_of_ble_eq_true rfl) ?_
  intro p e s m below meth c ls hx hb hr hml hts hown hlocks hl
  have hown : s.vm.findClass RX3 = some m.cls := hown
  have hl : lv_has ls 2 [(0, .int (v)), (1, .int (nI (n)))] := hl
  refine lv_iload_n hx hb dX3_within_0 rfl (lv_at hl 0 rfl) ?_
  refine lv_if_lt (tgt := 13) hx hb dX3_within_1 (by decide) (fun c_1 => ?_) (fun c_1 => ?_)
  · refine lv_iconst (v := nI 0) hx hb dX3_within_13 (by decide) ?_
    exact s_retz hx hb hr hlocks (by decide) (by simp (disch := assumption) only [i_lt0, i_cle, Int32.not_lt, Int32.not_le] at *; (repeat' split) <;> first | rfl | (exfalso; omega)) dX3_within_14
  · refine lv_iload_n hx hb dX3_within_4 rfl (lv_at hl 0 rfl) ?_
    refine lv_iload_n hx hb dX3_within_5 rfl (lv_at hl 1 rfl) ?_
    refine lv_icmp_ge (tgt := 13) hx hb dX3_within_6 (by decide) (fun c_6 => ?_) (fun c_6 => ?_)
    · refine lv_iconst (v := nI 0) hx hb dX3_within_13 (by decide) ?_
      exact s_retz hx hb hr hlocks (by decide) (by simp (disch := assumption) only [i_lt0, i_cle, Int32.not_lt, Int32.not_le] at *; (repeat' split) <;> first | rfl | (exfalso; omega)) dX3_within_14
    · refine lv_iconst (v := nI 1) hx hb dX3_within_9 (by decide) ?_
      refine lv_goto (tgt := 14) hx hb dX3_within_10 (by decide) ?_
      exact s_retz hx hb hr hlocks (by decide) (by simp (disch := assumption) only [i_lt0, i_cle, Int32.not_lt, Int32.not_le] at *; (repeat' split) <;> first | rfl | (exfalso; omega)) dX3_within_14
set_option maxHeartbeats 4000000 in
set_option maxRecDepth 100000 in
theorem tA_isThere (l : Launch) (v1 v2 : Int32)  : MetS l yX3_isThere wsX3_isThere ({ frames := 1, cells := 0, slots := 0, locals := 21 } : Room) [.int (v1), .int (v2)] (fun r => r = nI (if (v1.toInt = 0 ∧ 0 ≤ v2.toInt ∧ v2.toInt < 16) ∨ (v1.toInt = 1 ∧ 0 ≤ v2.toInt ∧ v2.toInt < 256) then 1 else 0)) := by
  refine s_entry (bytes := cX3_isThere) (maxL := 2) (ret := (some .boolean)) (by decide) rfl (Nat.le_of_ble_eq_true rfl) ?_
  intro p e s m below meth c ls hx hb hr hml hts hown hlocks hl
  have hown : s.vm.findClass RX3 = some m.cls := hown
  have hl : lv_has ls 2 [(0, .int (v1)), (1, .int (v2))] := hl
  refine lv_iload_n hx hb dX3_isThere_0 rfl (lv_at hl 0 rfl) ?_
  refine lv_if_ne (tgt := 13) hx hb dX3_isThere_1 (by decide) (fun c_1 => ?_) (fun c_1 => ?_)
  · refine lv_iload_n hx hb dX3_isThere_13 rfl (lv_at hl 0 rfl) ?_
    refine lv_iconst (v := nI 1) hx hb dX3_isThere_14 (by decide) ?_
    refine lv_icmp_ne (tgt := 32) hx hb dX3_isThere_15 (by decide) (fun c_15 => ?_) (fun c_15 => ?_)
    · refine lv_iconst (v := nI 0) hx hb dX3_isThere_32 (by decide) ?_
      exact s_retz hx hb hr hlocks (by decide) (by simp (disch := decide) only [i_eq0, i_eqc] at *; (repeat' split) <;> first | rfl | (exfalso; omega)) dX3_isThere_33
    · refine lv_iload_n hx hb dX3_isThere_18 rfl (lv_at hl 1 rfl) ?_
      refine lv_sipush (v := nI 256) hx hb dX3_isThere_19 (by decide) ?_
      refine s_calli (As := [.int (v2), .int (nI (256))]) (rest := []) ⟨hx, hb, hml, hown, hts⟩ (tA_within l v2 256 (by decide)) (va_cwS 2 hts gX3_isThere_X3_within rfl rfl rfl (by decide +kernel) ⟨Nat.le_of_ble_eq_true rfl, Nat.le_of_ble_eq_true rfl⟩) rfl hl.1 rfl (Nat.le_of_ble_eq_true rfl) dX3_isThere_22 (fun r_22 hw => ?_)
      subst hw
      refine n_if_eq (tgt := 32) hx hb bL dX3_isThere_25 (by decide) (fun c_25 => ?_) (fun c_25 => ?_)
      · have q2 := b0 c_25
        refine lv_iconst (v := nI 0) hx hb dX3_isThere_32 (by decide) ?_
        exact s_retz hx hb hr hlocks (by decide) (by simp (disch := decide) only [i_eq0, i_eqc] at *; (repeat' split) <;> first | rfl | (exfalso; omega)) dX3_isThere_33
      · have q2 := b1 c_25
        refine lv_iconst (v := nI 1) hx hb dX3_isThere_28 (by decide) ?_
        refine lv_goto (tgt := 33) hx hb dX3_isThere_29 (by decide) ?_
        exact s_retz hx hb hr hlocks (by decide) (by simp (disch := decide) only [i_eq0, i_eqc] at *; (repeat' split) <;> first | rfl | (exfalso; omega)) dX3_isThere_33
  · refine lv_iload_n hx hb dX3_isThere_4 rfl (lv_at hl 1 rfl) ?_
    refine lv_bipush (v := nI 16) hx hb dX3_isThere_5 (by decide) ?_
    refine s_calli (As := [.int (v2), .int (nI (16))]) (rest := []) ⟨hx, hb, hml, hown, hts⟩ (tA_within l v2 16 (by decide)) (va_cwS 2 hts gX3_isThere_X3_within rfl rfl rfl (by decide +kernel) ⟨Nat.le_of_ble_eq_true rfl, Nat.le_of_ble_eq_true rfl⟩) rfl hl.1 rfl (Nat.le_of_ble_eq_true rfl) dX3_isThere_7 (fun r_7 hw => ?_)
    subst hw
    refine n_if_ne (tgt := 28) hx hb bL dX3_isThere_10 (by decide) (fun c_10 => ?_) (fun c_10 => ?_)
    · have q1 := b1 c_10
      refine lv_iconst (v := nI 1) hx hb dX3_isThere_28 (by decide) ?_
      refine lv_goto (tgt := 33) hx hb dX3_isThere_29 (by decide) ?_
      exact s_retz hx hb hr hlocks (by decide) (by simp (disch := decide) only [i_eq0, i_eqc] at *; (repeat' split) <;> first | rfl | (exfalso; omega)) dX3_isThere_33
    · have q1 := b0 c_10
      refine lv_iload_n hx hb dX3_isThere_13 rfl (lv_at hl 0 rfl) ?_
      refine lv_iconst (v := nI 1) hx hb dX3_isThere_14 (by decide) ?_
      refine lv_icmp_ne (tgt := 32) hx hb dX3_isThere_15 (by decide) (fun c_15 => ?_) (fun c_15 => ?_)
      · refine lv_iconst (v := nI 0) hx hb dX3_isThere_32 (by decide) ?_
        exact s_retz hx hb hr hlocks (by decide) (by simp (disch := decide) only [i_eq0, i_eqc] at *; (repeat' split) <;> first | rfl | (exfalso; omega)) dX3_isThere_33
      · refine lv_iload_n hx hb dX3_isThere_18 rfl (lv_at hl 1 rfl) ?_
        refine lv_sipush (v := nI 256) hx hb dX3_isThere_19 (by decide) ?_
        refine s_calli (As := [.int (v2), .int (nI (256))]) (rest := []) ⟨hx, hb, hml, hown, hts⟩ (tA_within l v2 256 (by decide)) (va_cwS 2 hts gX3_isThere_X3_within rfl rfl rfl (by decide +kernel) ⟨Nat.le_of_ble_eq_true rfl, Nat.le_of_ble_eq_true rfl⟩) rfl hl.1 rfl (Nat.le_of_ble_eq_true rfl) dX3_isThere_22 (fun r_22 hw => ?_)
        subst hw
        refine n_if_eq (tgt := 32) hx hb bL dX3_isThere_25 (by decide) (fun c_25 => ?_) (fun c_25 => ?_)
        · have q2 := b0 c_25
          refine lv_iconst (v := nI 0) hx hb dX3_isThere_32 (by decide) ?_
          exact s_retz hx hb hr hlocks (by decide) (by simp (disch := decide) only [i_eq0, i_eqc] at *; (repeat' split) <;> first | rfl | (exfalso; omega)) dX3_isThere_33
        · have q2 := b1 c_25
          refine lv_iconst (v := nI 1) hx hb dX3_isThere_28 (by decide) ?_
          refine lv_goto (tgt := 33) hx hb dX3_isThere_29 (by decide) ?_
          exact s_retz hx hb hr hlocks (by decide) (by simp (disch := decide) only [i_eq0, i_eqc] at *; (repeat' split) <;> first | rfl | (exfalso; omega)) dX3_isThere_33
set_option maxHeartbeats 4000000 in
set_option maxRecDepth 100000 in
theorem tA_began (l : Launch) (dC : Nat → ClassId) (dI : Nat → Nat → Nat) (a : Nat → Nat) (cI cL cZ : ClassId) (N : Nat → Nat → Nat) (J : Nat → Nat → Int64)  (hc : N 22 0 < 2147483648) : MetI l yX3_began wsX3_began ({ frames := 0, cells := 0, slots := 0, locals := 0 } : Room) dC dI (gT cI cL cZ) (xF a cI cL cZ) (xL a) (N, J) [.ref (a 0)] (fun r u => r = nI (if N 22 0 = 0 then 0 else 1) ∧ u = (N, J)) := by
  intro sz
  refine g_entry (bytes := cX3_began) (maxL := 1) (ret := (some .boolean)) (Qc := fun sz => va_Qi (fun r u => r = nI (if N 22 0 = 0 then 0 else 1) ∧ u = (N, J)) (gB dC dI (xF a cI cL cZ)) (aA (xL a) sz)) (by decide) rfl (Nat.le_of_ble_eq_true rfl) rfl ?_
  intro p e s m below meth c ls hx hb hr hml hts hown hlocks hK hP hD hS hZ hl
  have hP : va_P (dC, dI) vwCl (xW a cI cL cZ N J) s.heap := hP
  have hD : va_D (aA (xL a) s.heap.size) (xW a cI cL cZ N J) := hD
  have hown : s.vm.findClass RX3 = some m.cls := hown
  have hl : lv_has ls 1 [(0, .ref (a 0))] := hl
  have hi0 : ∀ w ∈ wsX00, w ∈ wsX3_began := by decide +kernel
  have hi3 : ∀ w ∈ wsX30, w ∈ wsX3_began := by decide +kernel
  have k30 := hts (.fieldLink RX3 30 "ScoreMachine" "board" "LScoreMachine$Board;") (by decide +kernel)
  have k92 := hts (.fieldLink RX3 92 "ScoreMachine$Board" "cycle" "I") (by decide +kernel)
  refine lv_aload_n hx hb dX3_began_0 rfl (lv_at hl 0 rfl) ?_
  refine xg_62 hx hb hts hi3 hown hK hP k30 dX3_began_1 ?_
  refine xg_22 (v := N 22 0) hx hb hts hi0 hown hK hP k92 rfl dX3_began_4 ?_
  refine n_if_eq (tgt := 14) hx hb (by omega) dX3_began_7 (by decide) (fun c_7 => ?_) (fun c_7 => ?_)
  · refine lv_iconst (v := nI 0) hx hb dX3_began_14 (by decide) ?_
    exact g_retz hx hb hr hlocks (by decide) (N, J) (⟨by (repeat' split) <;> first | rfl | (exfalso; omega), rfl⟩) hP hS dX3_began_15
  · refine lv_iconst (v := nI 1) hx hb dX3_began_10 (by decide) ?_
    refine lv_goto (tgt := 15) hx hb dX3_began_11 (by decide) ?_
    exact g_retz hx hb hr hlocks (by decide) (N, J) (⟨by (repeat' split) <;> first | rfl | (exfalso; omega), rfl⟩) hP hS dX3_began_15
set_option maxHeartbeats 4000000 in
set_option maxRecDepth 100000 in
theorem tB_issuedStart (l : Launch) (k : Nat) (hk : k < 4294967296) : MetS l yX0_issuedStart wsX0_issuedStart ({ frames := 0, cells := 0, slots := 0, locals := 0 } : Room) [.int (nI (k))] (fun r => r = nI (k % 64 * 6)) := by
  refine s_entry (bytes := cX0_issuedStart) (maxL := 1) (ret := (some .int)) (by decide) rfl (Nat.le_of_ble_eq_true rfl) ?_
  intro p e s m below meth c ls hx hb hr hml hts hown hlocks hl
  have hown : s.vm.findClass RX0 = some m.cls := hown
  have hl : lv_has ls 1 [(0, .int (nI (k)))] := hl
  refine lv_iload_n hx hb dX0_issuedStart_0 rfl (lv_at hl 0 rfl) ?_
  refine lv_bipush (v := nI 63) hx hb dX0_issuedStart_1 (by decide) ?_
  refine n_and hx hb 6 (by omega) (by decide) dX0_issuedStart_3 ?_
  refine lv_bipush (v := nI 6) hx hb dX0_issuedStart_4 (by decide) ?_
  refine n_mul hx hb dX0_issuedStart_6 ?_
  exact s_reti hx hb hr hlocks (rfl) dX0_issuedStart_7
set_option maxHeartbeats 4000000 in
set_option maxRecDepth 100000 in
theorem tS_registerB (l : Launch) (dC : Nat → ClassId) (dI : Nat → Nat → Nat) (a : Nat → Nat) (cI cL cZ : ClassId) (N : Nat → Nat → Nat) (J : Nat → Nat → Int64) (pl : Nat) (hp : pl < 256) (hb2 : N 3 pl < 4294967296) : MetI l yX2_registerB wsX2_registerB ({ frames := 0, cells := 0, slots := 0, locals := 0 } : Room) dC dI (gT cI cL cZ) (xF a cI cL cZ) (xL a) (N, J) [.ref (a 1), .int (nI (pl))] (fun r u => r = nI (N 3 pl % 16) ∧ u = (N, J)) := by
  intro sz
  refine g_entry (bytes := cX2_registerB) (maxL := 2) (ret := (some .int)) (Qc := fun sz => va_Qi (fun r u => r = nI (N 3 pl % 16) ∧ u = (N, J)) (gB dC dI (xF a cI cL cZ)) (aA (xL a) sz)) (by decide) rfl (Nat.le_of_ble_eq_true rfl) rfl ?_
  intro p e s m below meth c ls hx hb hr hml hts hown hlocks hK hP hD hS hZ hl
  have hP : va_P (dC, dI) vwCl (xW a cI cL cZ N J) s.heap := hP
  have hD : va_D (aA (xL a) s.heap.size) (xW a cI cL cZ N J) := hD
  have hown : s.vm.findClass RX2 = some m.cls := hown
  have hl : lv_has ls 2 [(0, .ref (a 1)), (1, .int (nI (pl)))] := hl
  have hi2 : ∀ w ∈ wsX20, w ∈ wsX2_registerB := by decide +kernel
  have k21 := hts (.fieldLink RX2 21 "ScoreMachine$Setup" "bs" "[I") (by decide +kernel)
  refine lv_aload_n hx hb dX2_registerB_0 rfl (lv_at hl 0 rfl) ?_
  refine xg_3 hx hb hts hi2 hown hK hP k21 dX2_registerB_1 ?_
  refine lv_iload_n hx hb dX2_registerB_4 rfl (lv_at hl 1 rfl) ?_
  refine xl_3 (v := N 3 pl) hx hb hK hP (by omega) rfl dX2_registerB_5 ?_
  refine lv_bipush (v := nI 15) hx hb dX2_registerB_6 (by decide) ?_
  refine n_and hx hb 4 (by omega) (by decide) dX2_registerB_8 ?_
  exact g_reti hx hb hr hlocks (N, J) (⟨rfl, rfl⟩) hP hS dX2_registerB_9
set_option maxHeartbeats 4000000 in
set_option maxRecDepth 100000 in
theorem tP_code (l : Launch) (dC : Nat → ClassId) (dI : Nat → Nat → Nat) (a : Nat → Nat) (cI cL cZ : ClassId) (N : Nat → Nat → Nat) (J : Nat → Nat → Int64)  (hG : xG0 N) : MetI l yX1_code wsX1_code ({ frames := 0, cells := 0, slots := 0, locals := 0 } : Room) dC dI (gT cI cL cZ) (xF a cI cL cZ) (xL a) (N, J) [.ref (a 2)] (fun r u => r = nI (xCode N) ∧ u = (N, J)) := by
  intro sz
  refine g_entry (bytes := cX1_code) (maxL := 1) (ret := (some .int)) (Qc := fun sz => va_Qi (fun r u => r = nI (xCode N) ∧ u = (N, J)) (gB dC dI (xF a cI cL cZ)) (aA (xL a) sz)) (by decide) rfl (Nat.le_of_ble_eq_true rfl) rfl ?_
  intro p e s m below meth c ls hx hb hr hml hts hown hlocks hK hP hD hS hZ hl
  have hP : va_P (dC, dI) vwCl (xW a cI cL cZ N J) s.heap := hP
  have hD : va_D (aA (xL a) s.heap.size) (xW a cI cL cZ N J) := hD
  have hown : s.vm.findClass RX1 = some m.cls := hown
  have hl : lv_has ls 1 [(0, .ref (a 2))] := hl
  have hi1 : ∀ w ∈ wsX10, w ∈ wsX1_code := by decide +kernel
  have hi2 : ∀ w ∈ wsX20, w ∈ wsX1_code := by decide +kernel
  have k18 := hts (.fieldLink RX1 18 "ScoreMachine$PlainMachine" "setup" "LScoreMachine$Setup;") (by decide +kernel)
  have k32 := hts (.fieldLink RX1 32 "ScoreMachine$PlainMachine" "place" "I") (by decide +kernel)
  have k36 := hts (.fieldLink RX1 36 "ScoreMachine$Setup" "codes" "[I") (by decide +kernel)
  obtain ⟨hpl, hpr⟩ := id hG
  have hp0 := hpr (N 13 0) hpl
  refine lv_aload_n hx hb dX1_code_0 rfl (lv_at hl 0 rfl) ?_
  refine xg_10 hx hb hts hi1 hown hK hP k18 dX1_code_1 ?_
  refine xg_0 hx hb hts hi2 hown hK hP k36 dX1_code_4 ?_
  refine lv_aload_n hx hb dX1_code_7 rfl (lv_at hl 0 rfl) ?_
  refine xg_13 (v := N 13 0) hx hb hts hi1 hown hK hP k32 rfl dX1_code_8 ?_
  refine xl_0 (v := N 0 (N 13 0)) hx hb hK hP (by omega) rfl dX1_code_11 ?_
  exact g_reti hx hb hr hlocks (N, J) (⟨rfl, rfl⟩) hP hS dX1_code_12
set_option maxHeartbeats 4000000 in
set_option maxRecDepth 100000 in
theorem tP_cell (l : Launch) (dC : Nat → ClassId) (dI : Nat → Nat → Nat) (a : Nat → Nat) (cI cL cZ : ClassId) (N : Nat → Nat → Nat) (J : Nat → Nat → Int64)  (hG : xG0 N) : MetI l yX1_cell wsX1_cell ({ frames := 0, cells := 0, slots := 0, locals := 0 } : Room) dC dI (gT cI cL cZ) (xF a cI cL cZ) (xL a) (N, J) [.ref (a 2)] (fun r u => r = nI (xCl N J) ∧ u = (N, J)) := by
  intro sz
  refine g_entry (bytes := cX1_cell) (maxL := 3) (ret := (some .int)) (Qc := fun sz => va_Qi (fun r u => r = nI (xCl N J) ∧ u = (N, J)) (gB dC dI (xF a cI cL cZ)) (aA (xL a) sz)) (by decide) rfl (Nat.le_of_ble_eq_true rfl) rfl ?_
  intro p e s m below meth c ls hx hb hr hml hts hown hlocks hK hP hD hS hZ hl
  have hP : va_P (dC, dI) vwCl (xW a cI cL cZ N J) s.heap := hP
  have hD : va_D (aA (xL a) s.heap.size) (xW a cI cL cZ N J) := hD
  have hown : s.vm.findClass RX1 = some m.cls := hown
  have hl : lv_has ls 3 [(0, .ref (a 2))] := hl
  have hi1 : ∀ w ∈ wsX10, w ∈ wsX1_cell := by decide +kernel
  have hi2 : ∀ w ∈ wsX20, w ∈ wsX1_cell := by decide +kernel
  have k18 := hts (.fieldLink RX1 18 "ScoreMachine$PlainMachine" "setup" "LScoreMachine$Setup;") (by decide +kernel)
  have k32 := hts (.fieldLink RX1 32 "ScoreMachine$PlainMachine" "place" "I") (by decide +kernel)
  have k40 := hts (.fieldLink RX1 40 "ScoreMachine$Setup" "as" "[I") (by decide +kernel)
  have k43 := hts (.fieldLink RX1 43 "ScoreMachine$Setup" "bs" "[I") (by decide +kernel)
  have k9 := hts (.fieldLink RX1 9 "ScoreMachine$PlainMachine" "registers" "[J") (by decide +kernel)
  obtain ⟨hpl, hpr⟩ := id hG
  have hp0 := hpr (N 13 0) hpl
  refine lv_aload_n hx hb dX1_cell_0 rfl (lv_at hl 0 rfl) ?_
  refine xg_11 hx hb hts hi1 hown hK hP k9 dX1_cell_1 ?_
  refine lv_aload_n hx hb dX1_cell_4 rfl (lv_at hl 0 rfl) ?_
  refine xg_10 hx hb hts hi1 hown hK hP k18 dX1_cell_5 ?_
  refine xg_2 hx hb hts hi2 hown hK hP k40 dX1_cell_8 ?_
  refine lv_aload_n hx hb dX1_cell_11 rfl (lv_at hl 0 rfl) ?_
  refine xg_13 (v := N 13 0) hx hb hts hi1 hown hK hP k32 rfl dX1_cell_12 ?_
  refine xl_2 (v := xA N) hx hb hK hP (by omega) rfl dX1_cell_15 ?_
  refine xl_11 (v := J 11 (xA N)) hx hb hK hP hp0.2.2.1 rfl dX1_cell_16 ?_
  refine lv_aload_n hx hb dX1_cell_17 rfl (lv_at hl 0 rfl) ?_
  refine xg_10 hx hb hts hi1 hown hK hP k18 dX1_cell_18 ?_
  refine xg_3 hx hb hts hi2 hown hK hP k43 dX1_cell_21 ?_
  refine lv_aload_n hx hb dX1_cell_24 rfl (lv_at hl 0 rfl) ?_
  refine xg_13 (v := N 13 0) hx hb hts hi1 hown hK hP k32 rfl dX1_cell_25 ?_
  refine xl_3 (v := xBB N) hx hb hK hP (by omega) rfl dX1_cell_28 ?_
  refine lv_i2l (v := ((nI (xBB N))).toInt64) hx hb dX1_cell_29 rfl ?_
  refine lv_ladd hx hb dX1_cell_30 ?_
  refine lv_lstore_n (lv' := [(1, .long ((J 11 (xA N)) + (((nI (xBB N))).toInt64))), (0, .ref (a 2))]) hx hb dX1_cell_31 rfl hl (by decide) rfl (fun ls hl => ?_)
  refine lv_lload_n hx hb dX1_cell_32 rfl (lv_at hl 0 rfl) ?_
  refine lv_ldc2 (v := 255) hx hb hown (hts (.constantLong RX1 46 (255)) (by decide +kernel)) dX1_cell_33 ?_
  refine lv_land hx hb dX1_cell_36 ?_
  refine lv_l2i (v := nI (xCl N J)) hx hb dX1_cell_37 (clN_eq _) ?_
  exact g_reti hx hb hr hlocks (N, J) (⟨rfl, rfl⟩) hP hS dX1_cell_38
set_option maxHeartbeats 4000000 in
set_option maxRecDepth 100000 in
theorem tP_worked (l : Launch) (k : Nat) (x y : Int64) (hk : (1 ≤ k ∧ k ≤ 5) ∨ (8 ≤ k ∧ k ≤ 13)) : MetSL l yX1_worked wsX1_worked ({ frames := 0, cells := 0, slots := 0, locals := 0 } : Room) [.int (nI (k)), .long (x), .long (y)] (fun r => r = opV k x y 0 0 (fun _ => 0)) := by
  refine s_entry (bytes := cX1_worked) (maxL := 5) (ret := (some .long)) (by decide) rfl (Nat.le_of_ble_eq_true rfl) ?_
  intro p e s m below meth c ls hx hb hr hml hts hown hlocks hl
  have hown : s.vm.findClass RX1 = some m.cls := hown
  have hl : lv_has ls 5 [(0, .int (nI (k))), (1, .long (x)), (3, .long (y))] := hl
  refine lv_iload_n hx hb dX1_worked_0 rfl (lv_at hl 0 rfl) ?_
  rcases (by omega : k = 1 ∨ k = 2 ∨ k = 3 ∨ k = 4 ∨ k = 5 ∨ k = 8 ∨ k = 9 ∨ k = 10 ∨ k = 11 ∨ k = 12 ∨ k = 13) with h9 | h9 | h9 | h9 | h9 | h9 | h9 | h9 | h9 | h9 | h9
  · refine n_w (b := 1) (h9) ?_
    refine lv_tableIn (off := 67) (tgt := 68) hx hb dX1_worked_1 (by decide) (by decide) (by decide) (by decide) ?_
    refine lv_lload_n hx hb dX1_worked_68 rfl (lv_at hl 1 rfl) ?_
    refine lv_lload_n hx hb dX1_worked_69 rfl (lv_at hl 2 rfl) ?_
    refine lv_ladd hx hb dX1_worked_70 ?_
    exact s_retl hx hb hr hlocks (by rw [h9]; rfl) dX1_worked_71
  · refine n_w (b := 2) (h9) ?_
    refine lv_tableIn (off := 71) (tgt := 72) hx hb dX1_worked_1 (by decide) (by decide) (by decide) (by decide) ?_
    refine lv_lload_n hx hb dX1_worked_72 rfl (lv_at hl 1 rfl) ?_
    refine lv_lload_n hx hb dX1_worked_73 rfl (lv_at hl 2 rfl) ?_
    refine lv_lsub hx hb dX1_worked_74 ?_
    exact s_retl hx hb hr hlocks (by rw [h9]; rfl) dX1_worked_75
  · refine n_w (b := 3) (h9) ?_
    refine lv_tableIn (off := 75) (tgt := 76) hx hb dX1_worked_1 (by decide) (by decide) (by decide) (by decide) ?_
    refine lv_lload_n hx hb dX1_worked_76 rfl (lv_at hl 1 rfl) ?_
    refine lv_lload_n hx hb dX1_worked_77 rfl (lv_at hl 2 rfl) ?_
    refine lv_land hx hb dX1_worked_78 ?_
    exact s_retl hx hb hr hlocks (by rw [h9]; rfl) dX1_worked_79
  · refine n_w (b := 4) (h9) ?_
    refine lv_tableIn (off := 79) (tgt := 80) hx hb dX1_worked_1 (by decide) (by decide) (by decide) (by decide) ?_
    refine lv_lload_n hx hb dX1_worked_80 rfl (lv_at hl 1 rfl) ?_
    refine lv_lload_n hx hb dX1_worked_81 rfl (lv_at hl 2 rfl) ?_
    refine lv_lor hx hb dX1_worked_82 ?_
    exact s_retl hx hb hr hlocks (by rw [h9]; rfl) dX1_worked_83
  · refine n_w (b := 5) (h9) ?_
    refine lv_tableIn (off := 83) (tgt := 84) hx hb dX1_worked_1 (by decide) (by decide) (by decide) (by decide) ?_
    refine lv_lload_n hx hb dX1_worked_84 rfl (lv_at hl 1 rfl) ?_
    refine lv_lload_n hx hb dX1_worked_85 rfl (lv_at hl 2 rfl) ?_
    refine lv_lxor hx hb dX1_worked_86 ?_
    exact s_retl hx hb hr hlocks (by rw [h9]; rfl) dX1_worked_87
  · refine n_w (b := 8) (h9) ?_
    refine lv_tableIn (off := 87) (tgt := 88) hx hb dX1_worked_1 (by decide) (by decide) (by decide) (by decide) ?_
    refine lv_lload_n hx hb dX1_worked_88 rfl (lv_at hl 1 rfl) ?_
    refine lv_lload_n hx hb dX1_worked_89 rfl (lv_at hl 2 rfl) ?_
    refine lv_ldc2 (v := 63) hx hb hown (hts (.constantLong RX1 77 (63)) (by decide +kernel)) dX1_worked_90 ?_
    refine lv_land hx hb dX1_worked_93 ?_
    refine lv_l2i (v := (y &&& 63).toInt32) hx hb dX1_worked_94 rfl ?_
    refine lv_lshl (v := x <<< (Int32.toInt64 (((y &&& 63).toInt32)) &&& 63)) hx hb dX1_worked_95 rfl ?_
    exact s_retl hx hb hr hlocks (by rw [h9]; rfl) dX1_worked_96
  · refine n_w (b := 9) (h9) ?_
    refine lv_tableIn (off := 96) (tgt := 97) hx hb dX1_worked_1 (by decide) (by decide) (by decide) (by decide) ?_
    refine lv_lload_n hx hb dX1_worked_97 rfl (lv_at hl 1 rfl) ?_
    refine lv_lload_n hx hb dX1_worked_98 rfl (lv_at hl 2 rfl) ?_
    refine lv_ldc2 (v := 63) hx hb hown (hts (.constantLong RX1 77 (63)) (by decide +kernel)) dX1_worked_99 ?_
    refine lv_land hx hb dX1_worked_102 ?_
    refine lv_l2i (v := (y &&& 63).toInt32) hx hb dX1_worked_103 rfl ?_
    refine lv_lshr (v := x >>> (Int32.toInt64 (((y &&& 63).toInt32)) &&& 63)) hx hb dX1_worked_104 rfl ?_
    exact s_retl hx hb hr hlocks (by rw [h9]; rfl) dX1_worked_105
  · refine n_w (b := 10) (h9) ?_
    refine lv_tableIn (off := 105) (tgt := 106) hx hb dX1_worked_1 (by decide) (by decide) (by decide) (by decide) ?_
    refine lv_lload_n hx hb dX1_worked_106 rfl (lv_at hl 1 rfl) ?_
    refine lv_lload_n hx hb dX1_worked_107 rfl (lv_at hl 2 rfl) ?_
    refine lv_ldc2 (v := 63) hx hb hown (hts (.constantLong RX1 77 (63)) (by decide +kernel)) dX1_worked_108 ?_
    refine lv_land hx hb dX1_worked_111 ?_
    refine lv_l2i (v := (y &&& 63).toInt32) hx hb dX1_worked_112 rfl ?_
    refine lv_lushr (v := (Int64.toUInt64 x >>> ((Int32.toInt64 (((y &&& 63).toInt32))).toUInt64 &&& Int64.toUInt64 63)).toInt64) hx hb dX1_worked_113 rfl ?_
    exact s_retl hx hb hr hlocks (by rw [h9]; rfl) dX1_worked_114
  · refine n_w (b := 11) (h9) ?_
    refine lv_tableIn (off := 114) (tgt := 115) hx hb dX1_worked_1 (by decide) (by decide) (by decide) (by decide) ?_
    refine lv_lload_n hx hb dX1_worked_115 rfl (lv_at hl 1 rfl) ?_
    refine lv_lload_n hx hb dX1_worked_116 rfl (lv_at hl 2 rfl) ?_
    refine lv_lmul hx hb dX1_worked_117 ?_
    exact s_retl hx hb hr hlocks (by rw [h9]; rfl) dX1_worked_118
  · refine n_w (b := 12) (h9) ?_
    refine lv_tableIn (off := 118) (tgt := 119) hx hb dX1_worked_1 (by decide) (by decide) (by decide) (by decide) ?_
    refine lv_lload_n hx hb dX1_worked_119 rfl (lv_at hl 2 rfl) ?_
    refine lv_lconst (v := 0) hx hb dX1_worked_120 (by decide) ?_
    refine W.lcmp hx hb dX1_worked_121 ?_
    refine lv_if_ne (tgt := 129) hx hb dX1_worked_122 (by decide) (fun c_122 => ?_) (fun c_122 => ?_)
    · refine lv_lload_n hx hb dX1_worked_129 rfl (lv_at hl 1 rfl) ?_
      refine lv_lload_n hx hb dX1_worked_130 rfl (lv_at hl 2 rfl) ?_
      refine lv_ldiv hx hb dX1_worked_131 (fun z => c_122 ((lg_cmp_eq _ _).mpr z)) ?_
      exact s_retl hx hb hr hlocks (by rw [h9]; unfold opV; simp [show ¬ y = 0 from fun z => c_122 ((lg_cmp_eq _ _).mpr z)]) dX1_worked_132
    · refine lv_lconst (v := 0) hx hb dX1_worked_125 (by decide) ?_
      refine lv_goto (tgt := 132) hx hb dX1_worked_126 (by decide) ?_
      exact s_retl hx hb hr hlocks (by rw [h9]; unfold opV; simp [(lg_cmp_eq _ _).mp c_122]) dX1_worked_132
  · refine n_w (b := 13) (h9) ?_
    refine lv_tableIn (off := 132) (tgt := 133) hx hb dX1_worked_1 (by decide) (by decide) (by decide) (by decide) ?_
    refine lv_lload_n hx hb dX1_worked_133 rfl (lv_at hl 2 rfl) ?_
    refine lv_lconst (v := 0) hx hb dX1_worked_134 (by decide) ?_
    refine W.lcmp hx hb dX1_worked_135 ?_
    refine lv_if_ne (tgt := 143) hx hb dX1_worked_136 (by decide) (fun c_136 => ?_) (fun c_136 => ?_)
    · refine lv_lload_n hx hb dX1_worked_143 rfl (lv_at hl 1 rfl) ?_
      refine lv_lload_n hx hb dX1_worked_144 rfl (lv_at hl 2 rfl) ?_
      refine lv_lrem hx hb dX1_worked_145 (fun z => c_136 ((lg_cmp_eq _ _).mpr z)) ?_
      exact s_retl hx hb hr hlocks (by rw [h9]; unfold opV; simp [show ¬ y = 0 from fun z => c_136 ((lg_cmp_eq _ _).mpr z)]) dX1_worked_146
    · refine lv_lconst (v := 0) hx hb dX1_worked_139 (by decide) ?_
      refine lv_goto (tgt := 146) hx hb dX1_worked_140 (by decide) ?_
      exact s_retl hx hb hr hlocks (by rw [h9]; unfold opV; simp [(lg_cmp_eq _ _).mp c_136]) dX1_worked_146
theorem opV_w {k : Nat} (hk : (1 ≤ k ∧ k ≤ 5) ∨ (8 ≤ k ∧ k ≤ 13)) (x y n d : Int64) (mem : Nat → Int64) : opV k x y 0 0 (fun _ => 0) = opV k x y n d mem := by
  rcases (show k = 1 ∨ k = 2 ∨ k = 3 ∨ k = 4 ∨ k = 5 ∨ k = 8 ∨ k = 9 ∨ k = 10 ∨ k = 11 ∨ k = 12 ∨ k = 13 by omega) with h | h | h | h | h | h | h | h | h | h | h <;> subst h <;> rfl
theorem nxP_c {k : Nat} (hk : k < 16) (pl B : Nat) (x y : Int64) : nxP k pl B x = nxP k pl B y := by
  unfold nxP
  rw [if_neg (by omega), if_neg (by omega)]
set_option maxHeartbeats 4000000 in
set_option maxRecDepth 100000 in
theorem tP_value (l : Launch) (dC : Nat → ClassId) (dI : Nat → Nat → Nat) (a : Nat → Nat) (cI cL cZ : ClassId) (N : Nat → Nat → Nat) (J : Nat → Nat → Int64)  (hG : xG0 N) (hc : 1 ≤ xCode N) (hc2 : xCode N ≤ 14) : MetL l yX1_value wsX1_value ({ frames := 1, cells := 0, slots := 0, locals := 24 } : Room) dC dI (gT cI cL cZ) (xF a cI cL cZ) (xL a) (N, J) [.ref (a 2), .int (nI (xCode N))] (fun r u => r = xV N J ∧ u = (N, J)) := by
  intro sz
  refine g_entry (bytes := cX1_value) (maxL := 4) (ret := (some .long)) (Qc := fun sz => va_Ql (fun r u => r = xV N J ∧ u = (N, J)) (gB dC dI (xF a cI cL cZ)) (aA (xL a) sz)) (by decide) rfl (Nat.le_of_ble_eq_true rfl) rfl ?_
  intro p e s m below meth c ls hx hb hr hml hts hown hlocks hK hP hD hS hZ hl
  have hP : va_P (dC, dI) vwCl (xW a cI cL cZ N J) s.heap := hP
  have hD : va_D (aA (xL a) s.heap.size) (xW a cI cL cZ N J) := hD
  have hown : s.vm.findClass RX1 = some m.cls := hown
  have hl : lv_has ls 4 [(0, .ref (a 2)), (1, .int (nI (xCode N)))] := hl
  have hi1 : ∀ w ∈ wsX10, w ∈ wsX1_value := by decide +kernel
  have hi2 : ∀ w ∈ wsX20, w ∈ wsX1_value := by decide +kernel
  have k15 := hts (.fieldLink RX1 15 "ScoreMachine$PlainMachine" "memory" "[J") (by decide +kernel)
  have k18 := hts (.fieldLink RX1 18 "ScoreMachine$PlainMachine" "setup" "LScoreMachine$Setup;") (by decide +kernel)
  have k32 := hts (.fieldLink RX1 32 "ScoreMachine$PlainMachine" "place" "I") (by decide +kernel)
  have k40 := hts (.fieldLink RX1 40 "ScoreMachine$Setup" "as" "[I") (by decide +kernel)
  have k43 := hts (.fieldLink RX1 43 "ScoreMachine$Setup" "bs" "[I") (by decide +kernel)
  have k9 := hts (.fieldLink RX1 9 "ScoreMachine$PlainMachine" "registers" "[J") (by decide +kernel)
  obtain ⟨hpl, hpr⟩ := id hG
  have hp0 := hpr (N 13 0) hpl
  refine lv_iload_n hx hb dX1_value_0 rfl (lv_at hl 1 rfl) ?_
  refine lv_bipush (v := nI 14) hx hb dX1_value_1 (by decide) ?_
  refine n_icmp_ne (tgt := 16) hx hb (by omega) (by omega) dX1_value_3 (by decide) (fun c_3 => ?_) (fun c_3 => ?_)
  · refine lv_aload_n hx hb dX1_value_16 rfl (lv_at hl 0 rfl) ?_
    refine xg_11 hx hb hts hi1 hown hK hP k9 dX1_value_17 ?_
    refine lv_aload_n hx hb dX1_value_20 rfl (lv_at hl 0 rfl) ?_
    refine xg_10 hx hb hts hi1 hown hK hP k18 dX1_value_21 ?_
    refine xg_2 hx hb hts hi2 hown hK hP k40 dX1_value_24 ?_
    refine lv_aload_n hx hb dX1_value_27 rfl (lv_at hl 0 rfl) ?_
    refine xg_13 (v := N 13 0) hx hb hts hi1 hown hK hP k32 rfl dX1_value_28 ?_
    refine xl_2 (v := xA N) hx hb hK hP (by omega) rfl dX1_value_31 ?_
    refine xl_11 (v := J 11 (xA N)) hx hb hK hP hp0.2.2.1 rfl dX1_value_32 ?_
    refine lv_lstore_n (lv' := [(2, .long (J 11 (xA N))), (0, .ref (a 2)), (1, .int (nI (xCode N)))]) hx hb dX1_value_33 rfl hl (by decide) rfl (fun ls hl => ?_)
    refine lv_iload_n hx hb dX1_value_34 rfl (lv_at hl 2 rfl) ?_
    refine lv_bipush (v := nI 6) hx hb dX1_value_35 (by decide) ?_
    refine n_icmp_ne (tgt := 54) hx hb (by omega) (by omega) dX1_value_37 (by decide) (fun c_37 => ?_) (fun c_37 => ?_)
    · refine lv_iload_n hx hb dX1_value_54 rfl (lv_at hl 2 rfl) ?_
      refine lv_bipush (v := nI 7) hx hb dX1_value_55 (by decide) ?_
      refine n_icmp_ne (tgt := 76) hx hb (by omega) (by omega) dX1_value_57 (by decide) (fun c_57 => ?_) (fun c_57 => ?_)
      · refine lv_iload_n hx hb dX1_value_76 rfl (lv_at hl 2 rfl) ?_
        refine lv_lload_n hx hb dX1_value_77 rfl (lv_at hl 0 rfl) ?_
        refine lv_aload_n hx hb dX1_value_78 rfl (lv_at hl 1 rfl) ?_
        refine xg_11 hx hb hts hi1 hown hK hP k9 dX1_value_79 ?_
        refine lv_aload_n hx hb dX1_value_82 rfl (lv_at hl 1 rfl) ?_
        refine xg_10 hx hb hts hi1 hown hK hP k18 dX1_value_83 ?_
        refine lv_aload_n hx hb dX1_value_86 rfl (lv_at hl 1 rfl) ?_
        refine xg_13 (v := N 13 0) hx hb hts hi1 hown hK hP k32 rfl dX1_value_87 ?_
        refine g_calli (u := (N, J)) (g_runV (As := [.int (nI (N 13 0))]) (rest := [.ref (a 12), .long (J 11 (xA N)), .int (nI (xCode N))]) ⟨hx, hb, hml, hown, hts⟩ (tS_registerB l dC dI a cI cL cZ N J (N 13 0) hpl hp0.2.2.2 s.heap.size) (cwV 1 hts gX1_value_X2_registerB rfl rfl rfl (by decide +kernel) ⟨Nat.le_of_ble_eq_true rfl, Nat.le_of_ble_eq_true rfl⟩) (va_recv hK hP (ci := 2) (q0 := 1) rfl rfl) hK hP hD hS hZ rfl hl.1 rfl (Nat.le_of_ble_eq_true rfl) dX1_value_90) (xW_L a cI cL cZ) hD hS (fun r_90 u H locs hw hP hD hS => ?_)
        obtain ⟨rfl, rfl⟩ := hw
        have hP : va_P (dC, dI) vwCl (xW a cI cL cZ N J) H := hP
        have hD : va_D (aA (xL a) s.heap.size) (xW a cI cL cZ N J) := hD
        refine xl_11 (v := J 11 (xBB N % 16)) hx hb hK hP (by omega) rfl dX1_value_93 ?_
        refine s_calll (As := [.int (nI (xCode N)), .long (J 11 (xA N)), .long (J 11 (xBB N % 16))]) (rest := []) ⟨hx, hb, hml, hown, hts⟩ (tP_worked l (xCode N) (J 11 (xA N)) (J 11 (xBB N % 16)) (by omega)) (va_cwS 3 hts gX1_value_X1_worked rfl rfl rfl (by decide +kernel) ⟨Nat.le_of_ble_eq_true rfl, Nat.le_of_ble_eq_true rfl⟩) rfl hl.1 rfl (Nat.le_of_ble_eq_true rfl) dX1_value_94 (fun r_94 hw => ?_)
        subst hw
        exact g_retl hx hb hr hlocks (N, J) (⟨opV_w (by omega) _ _ _ _ _, rfl⟩) hP hS dX1_value_97
      · refine lv_lload_n hx hb dX1_value_60 rfl (lv_at hl 0 rfl) ?_
        refine lv_aload_n hx hb dX1_value_61 rfl (lv_at hl 1 rfl) ?_
        refine xg_10 hx hb hts hi1 hown hK hP k18 dX1_value_62 ?_
        refine xg_3 hx hb hts hi2 hown hK hP k43 dX1_value_65 ?_
        refine lv_aload_n hx hb dX1_value_68 rfl (lv_at hl 1 rfl) ?_
        refine xg_13 (v := N 13 0) hx hb hts hi1 hown hK hP k32 rfl dX1_value_69 ?_
        refine xl_3 (v := xBB N) hx hb hK hP (by omega) rfl dX1_value_72 ?_
        refine lv_i2l (v := ((nI (xBB N))).toInt64) hx hb dX1_value_73 rfl ?_
        refine lv_ladd hx hb dX1_value_74 ?_
        exact g_retl hx hb hr hlocks (N, J) (⟨by unfold xV; rw [c_57]; rfl, rfl⟩) hP hS dX1_value_75
    · refine lv_aload_n hx hb dX1_value_40 rfl (lv_at hl 1 rfl) ?_
      refine xg_10 hx hb hts hi1 hown hK hP k18 dX1_value_41 ?_
      refine xg_3 hx hb hts hi2 hown hK hP k43 dX1_value_44 ?_
      refine lv_aload_n hx hb dX1_value_47 rfl (lv_at hl 1 rfl) ?_
      refine xg_13 (v := N 13 0) hx hb hts hi1 hown hK hP k32 rfl dX1_value_48 ?_
      refine xl_3 (v := xBB N) hx hb hK hP (by omega) rfl dX1_value_51 ?_
      refine lv_i2l (v := ((nI (xBB N))).toInt64) hx hb dX1_value_52 rfl ?_
      exact g_retl hx hb hr hlocks (N, J) (⟨by unfold xV; rw [c_37]; rfl, rfl⟩) hP hS dX1_value_53
  · refine lv_aload_n hx hb dX1_value_6 rfl (lv_at hl 0 rfl) ?_
    refine xg_12 hx hb hts hi1 hown hK hP k15 dX1_value_7 ?_
    refine lv_aload_n hx hb dX1_value_10 rfl (lv_at hl 0 rfl) ?_
    refine g_calli (u := (N, J)) (g_runV (As := []) (rest := [.ref (a 13)]) ⟨hx, hb, hml, hown, hts⟩ (tP_cell l dC dI a cI cL cZ N J hG s.heap.size) (cwV 0 hts gX1_value_X1_cell rfl rfl rfl (by decide +kernel) ⟨Nat.le_of_ble_eq_true rfl, Nat.le_of_ble_eq_true rfl⟩) (va_recv hK hP (ci := 1) (q0 := 2) rfl rfl) hK hP hD hS hZ rfl hl.1 rfl (Nat.le_of_ble_eq_true rfl) dX1_value_11) (xW_L a cI cL cZ) hD hS (fun r_11 u H locs hw hP hD hS => ?_)
    obtain ⟨rfl, rfl⟩ := hw
    have hP : va_P (dC, dI) vwCl (xW a cI cL cZ N J) H := hP
    have hD : va_D (aA (xL a) s.heap.size) (xW a cI cL cZ N J) := hD
    refine xl_12 (v := J 12 (xCl N J)) hx hb hK hP (clN_lt _) rfl dX1_value_14 ?_
    exact g_retl hx hb hr hlocks (N, J) (⟨by unfold xV; rw [c_3]; rfl, rfl⟩) hP hS dX1_value_15
set_option maxHeartbeats 4000000 in
set_option maxRecDepth 100000 in
theorem tP_placeAfter (l : Launch) (dC : Nat → ClassId) (dI : Nat → Nat → Nat) (a : Nat → Nat) (cI cL cZ : ClassId) (N : Nat → Nat → Nat) (J : Nat → Nat → Int64)  (hG : xG0 N) : MetI l yX1_placeAfter wsX1_placeAfter ({ frames := 0, cells := 0, slots := 0, locals := 0 } : Room) dC dI (gT cI cL cZ) (xF a cI cL cZ) (xL a) (N, J) [.ref (a 2), .int (nI (xCode N))] (fun r u => r = nI (xNx N J) ∧ u = (N, J)) := by
  intro sz
  refine g_entry (bytes := cX1_placeAfter) (maxL := 6) (ret := (some .int)) (Qc := fun sz => va_Qi (fun r u => r = nI (xNx N J) ∧ u = (N, J)) (gB dC dI (xF a cI cL cZ)) (aA (xL a) sz)) (by decide) rfl (Nat.le_of_ble_eq_true rfl) rfl ?_
  intro p e s m below meth c ls hx hb hr hml hts hown hlocks hK hP hD hS hZ hl
  have hP : va_P (dC, dI) vwCl (xW a cI cL cZ N J) s.heap := hP
  have hD : va_D (aA (xL a) s.heap.size) (xW a cI cL cZ N J) := hD
  have hown : s.vm.findClass RX1 = some m.cls := hown
  have hl : lv_has ls 6 [(0, .ref (a 2)), (1, .int (nI (xCode N)))] := hl
  have hi1 : ∀ w ∈ wsX10, w ∈ wsX1_placeAfter := by decide +kernel
  have hi2 : ∀ w ∈ wsX20, w ∈ wsX1_placeAfter := by decide +kernel
  have k18 := hts (.fieldLink RX1 18 "ScoreMachine$PlainMachine" "setup" "LScoreMachine$Setup;") (by decide +kernel)
  have k32 := hts (.fieldLink RX1 32 "ScoreMachine$PlainMachine" "place" "I") (by decide +kernel)
  have k40 := hts (.fieldLink RX1 40 "ScoreMachine$Setup" "as" "[I") (by decide +kernel)
  have k43 := hts (.fieldLink RX1 43 "ScoreMachine$Setup" "bs" "[I") (by decide +kernel)
  have k9 := hts (.fieldLink RX1 9 "ScoreMachine$PlainMachine" "registers" "[J") (by decide +kernel)
  obtain ⟨hpl, hpr⟩ := id hG
  have hp0 := hpr (N 13 0) hpl
  have hcd : xCode N ≤ 18 := hp0.1
  refine lv_aload_n hx hb dX1_placeAfter_0 rfl (lv_at hl 0 rfl) ?_
  refine xg_11 hx hb hts hi1 hown hK hP k9 dX1_placeAfter_1 ?_
  refine lv_aload_n hx hb dX1_placeAfter_4 rfl (lv_at hl 0 rfl) ?_
  refine xg_10 hx hb hts hi1 hown hK hP k18 dX1_placeAfter_5 ?_
  refine xg_2 hx hb hts hi2 hown hK hP k40 dX1_placeAfter_8 ?_
  refine lv_aload_n hx hb dX1_placeAfter_11 rfl (lv_at hl 0 rfl) ?_
  refine xg_13 (v := N 13 0) hx hb hts hi1 hown hK hP k32 rfl dX1_placeAfter_12 ?_
  refine xl_2 (v := xA N) hx hb hK hP (by omega) rfl dX1_placeAfter_15 ?_
  refine xl_11 (v := J 11 (xA N)) hx hb hK hP hp0.2.2.1 rfl dX1_placeAfter_16 ?_
  refine lv_lstore_n (lv' := [(2, .long (J 11 (xA N))), (0, .ref (a 2)), (1, .int (nI (xCode N)))]) hx hb dX1_placeAfter_17 rfl hl (by decide) rfl (fun ls hl => ?_)
  refine lv_iload_n hx hb dX1_placeAfter_18 rfl (lv_at hl 2 rfl) ?_
  refine lv_bipush (v := nI 18) hx hb dX1_placeAfter_19 (by decide) ?_
  refine n_icmp_eq (tgt := 48) hx hb (by omega) (by omega) dX1_placeAfter_21 (by decide) (fun c_21 => ?_) (fun c_21 => ?_)
  · refine lv_iconst (v := nI 1) hx hb dX1_placeAfter_48 (by decide) ?_
    refine lv_goto (tgt := 53) hx hb dX1_placeAfter_49 (by decide) ?_
    refine lv_istore (lv' := [(4, .int (nI (1))), (2, .long (J 11 (xA N))), (0, .ref (a 2)), (1, .int (nI (xCode N)))]) hx hb dX1_placeAfter_53 hl (by decide) rfl (fun ls hl => ?_)
    refine lv_iload hx hb dX1_placeAfter_55 (lv_at hl 0 rfl) ?_
    refine n_if_eq (tgt := 75) hx hb (by omega) dX1_placeAfter_57 (by decide) (fun c_57 => absurd c_57 (by decide)) (fun c_57 => ?_)
    refine lv_aload_n hx hb dX1_placeAfter_60 rfl (lv_at hl 2 rfl) ?_
    refine xg_10 hx hb hts hi1 hown hK hP k18 dX1_placeAfter_61 ?_
    refine xg_3 hx hb hts hi2 hown hK hP k43 dX1_placeAfter_64 ?_
    refine lv_aload_n hx hb dX1_placeAfter_67 rfl (lv_at hl 2 rfl) ?_
    refine xg_13 (v := N 13 0) hx hb hts hi1 hown hK hP k32 rfl dX1_placeAfter_68 ?_
    refine xl_3 (v := xBB N) hx hb hK hP (by omega) rfl dX1_placeAfter_71 ?_
    refine lv_goto (tgt := 81) hx hb dX1_placeAfter_72 (by decide) ?_
    refine lv_istore (lv' := [(5, .int (nI (xBB N))), (4, .int (nI (1))), (2, .long (J 11 (xA N))), (0, .ref (a 2)), (1, .int (nI (xCode N)))]) hx hb dX1_placeAfter_81 hl (by decide) rfl (fun ls hl => ?_)
    refine lv_iload hx hb dX1_placeAfter_83 (lv_at hl 0 rfl) ?_
    refine lv_sipush (v := nI 255) hx hb dX1_placeAfter_85 (by decide) ?_
    refine n_and hx hb 8 (by first | exact hp0.2.2.2 | omega) (by decide) dX1_placeAfter_88 ?_
    exact g_reti hx hb hr hlocks (N, J) (⟨by unfold xNx nxP; rw [if_pos (Or.inl c_21)], rfl⟩) hP hS dX1_placeAfter_89
  · refine lv_iload_n hx hb dX1_placeAfter_24 rfl (lv_at hl 2 rfl) ?_
    refine lv_bipush (v := nI 16) hx hb dX1_placeAfter_25 (by decide) ?_
    refine n_icmp_ne (tgt := 36) hx hb (by omega) (by omega) dX1_placeAfter_27 (by decide) (fun c_27 => ?_) (fun c_27 => ?_)
    · refine lv_iload_n hx hb dX1_placeAfter_36 rfl (lv_at hl 2 rfl) ?_
      refine lv_bipush (v := nI 17) hx hb dX1_placeAfter_37 (by decide) ?_
      refine n_icmp_ne (tgt := 52) hx hb (by omega) (by omega) dX1_placeAfter_39 (by decide) (fun c_39 => ?_) (fun c_39 => ?_)
      · refine lv_iconst (v := nI 0) hx hb dX1_placeAfter_52 (by decide) ?_
        refine lv_istore (lv' := [(4, .int (nI (0))), (2, .long (J 11 (xA N))), (0, .ref (a 2)), (1, .int (nI (xCode N)))]) hx hb dX1_placeAfter_53 hl (by decide) rfl (fun ls hl => ?_)
        refine lv_iload hx hb dX1_placeAfter_55 (lv_at hl 0 rfl) ?_
        refine n_if_eq (tgt := 75) hx hb (by omega) dX1_placeAfter_57 (by decide) (fun c_57 => ?_) (fun c_57 => absurd c_57 (by decide))
        refine lv_aload_n hx hb dX1_placeAfter_75 rfl (lv_at hl 2 rfl) ?_
        refine xg_13 (v := N 13 0) hx hb hts hi1 hown hK hP k32 rfl dX1_placeAfter_76 ?_
        refine lv_iconst (v := nI 1) hx hb dX1_placeAfter_79 (by decide) ?_
        refine n_add hx hb dX1_placeAfter_80 ?_
        refine lv_istore (lv' := [(5, .int (nI ((N 13 0) + 1))), (4, .int (nI (0))), (2, .long (J 11 (xA N))), (0, .ref (a 2)), (1, .int (nI (xCode N)))]) hx hb dX1_placeAfter_81 hl (by decide) rfl (fun ls hl => ?_)
        refine lv_iload hx hb dX1_placeAfter_83 (lv_at hl 0 rfl) ?_
        refine lv_sipush (v := nI 255) hx hb dX1_placeAfter_85 (by decide) ?_
        refine n_and hx hb 8 (by first | exact hp0.2.2.2 | omega) (by decide) dX1_placeAfter_88 ?_
        exact g_reti hx hb hr hlocks (N, J) (⟨by unfold xNx nxP; rw [if_neg (fun z => z.elim (fun z => c_21 z) (fun z => z.elim (fun z => c_27 z.1) (fun z => c_39 z.1)))], rfl⟩) hP hS dX1_placeAfter_89
      · refine lv_lload_n hx hb dX1_placeAfter_42 rfl (lv_at hl 0 rfl) ?_
        refine lv_lconst (v := 0) hx hb dX1_placeAfter_43 (by decide) ?_
        refine W.lcmp hx hb dX1_placeAfter_44 ?_
        refine lv_if_ge (tgt := 52) hx hb dX1_placeAfter_45 (by decide) (fun c_45 => ?_) (fun c_45 => ?_)
        · refine lv_iconst (v := nI 0) hx hb dX1_placeAfter_52 (by decide) ?_
          refine lv_istore (lv' := [(4, .int (nI (0))), (2, .long (J 11 (xA N))), (0, .ref (a 2)), (1, .int (nI (xCode N)))]) hx hb dX1_placeAfter_53 hl (by decide) rfl (fun ls hl => ?_)
          refine lv_iload hx hb dX1_placeAfter_55 (lv_at hl 0 rfl) ?_
          refine n_if_eq (tgt := 75) hx hb (by omega) dX1_placeAfter_57 (by decide) (fun c_57 => ?_) (fun c_57 => absurd c_57 (by decide))
          refine lv_aload_n hx hb dX1_placeAfter_75 rfl (lv_at hl 2 rfl) ?_
          refine xg_13 (v := N 13 0) hx hb hts hi1 hown hK hP k32 rfl dX1_placeAfter_76 ?_
          refine lv_iconst (v := nI 1) hx hb dX1_placeAfter_79 (by decide) ?_
          refine n_add hx hb dX1_placeAfter_80 ?_
          refine lv_istore (lv' := [(5, .int (nI ((N 13 0) + 1))), (4, .int (nI (0))), (2, .long (J 11 (xA N))), (0, .ref (a 2)), (1, .int (nI (xCode N)))]) hx hb dX1_placeAfter_81 hl (by decide) rfl (fun ls hl => ?_)
          refine lv_iload hx hb dX1_placeAfter_83 (lv_at hl 0 rfl) ?_
          refine lv_sipush (v := nI 255) hx hb dX1_placeAfter_85 (by decide) ?_
          refine n_and hx hb 8 (by first | exact hp0.2.2.2 | omega) (by decide) dX1_placeAfter_88 ?_
          exact g_reti hx hb hr hlocks (N, J) (⟨by unfold xNx nxP; rw [if_neg (fun z => z.elim (fun z => c_21 z) (fun z => z.elim (fun z => c_27 z.1) (fun z => absurd ((lg_cmp_lt _ _).mpr z.2) (Int32.not_lt.mpr c_45))))], rfl⟩) hP hS dX1_placeAfter_89
        · refine lv_iconst (v := nI 1) hx hb dX1_placeAfter_48 (by decide) ?_
          refine lv_goto (tgt := 53) hx hb dX1_placeAfter_49 (by decide) ?_
          refine lv_istore (lv' := [(4, .int (nI (1))), (2, .long (J 11 (xA N))), (0, .ref (a 2)), (1, .int (nI (xCode N)))]) hx hb dX1_placeAfter_53 hl (by decide) rfl (fun ls hl => ?_)
          refine lv_iload hx hb dX1_placeAfter_55 (lv_at hl 0 rfl) ?_
          refine n_if_eq (tgt := 75) hx hb (by omega) dX1_placeAfter_57 (by decide) (fun c_57 => absurd c_57 (by decide)) (fun c_57 => ?_)
          refine lv_aload_n hx hb dX1_placeAfter_60 rfl (lv_at hl 2 rfl) ?_
          refine xg_10 hx hb hts hi1 hown hK hP k18 dX1_placeAfter_61 ?_
          refine xg_3 hx hb hts hi2 hown hK hP k43 dX1_placeAfter_64 ?_
          refine lv_aload_n hx hb dX1_placeAfter_67 rfl (lv_at hl 2 rfl) ?_
          refine xg_13 (v := N 13 0) hx hb hts hi1 hown hK hP k32 rfl dX1_placeAfter_68 ?_
          refine xl_3 (v := xBB N) hx hb hK hP (by omega) rfl dX1_placeAfter_71 ?_
          refine lv_goto (tgt := 81) hx hb dX1_placeAfter_72 (by decide) ?_
          refine lv_istore (lv' := [(5, .int (nI (xBB N))), (4, .int (nI (1))), (2, .long (J 11 (xA N))), (0, .ref (a 2)), (1, .int (nI (xCode N)))]) hx hb dX1_placeAfter_81 hl (by decide) rfl (fun ls hl => ?_)
          refine lv_iload hx hb dX1_placeAfter_83 (lv_at hl 0 rfl) ?_
          refine lv_sipush (v := nI 255) hx hb dX1_placeAfter_85 (by decide) ?_
          refine n_and hx hb 8 (by first | exact hp0.2.2.2 | omega) (by decide) dX1_placeAfter_88 ?_
          exact g_reti hx hb hr hlocks (N, J) (⟨by unfold xNx nxP; rw [if_pos (Or.inr (Or.inr ⟨c_39, (lg_cmp_lt _ _).mp (Int32.not_le.mp c_45)⟩))], rfl⟩) hP hS dX1_placeAfter_89
    · refine lv_lload_n hx hb dX1_placeAfter_30 rfl (lv_at hl 0 rfl) ?_
      refine lv_lconst (v := 0) hx hb dX1_placeAfter_31 (by decide) ?_
      refine W.lcmp hx hb dX1_placeAfter_32 ?_
      refine lv_if_eq (tgt := 48) hx hb dX1_placeAfter_33 (by decide) (fun c_33 => ?_) (fun c_33 => ?_)
      · refine lv_iconst (v := nI 1) hx hb dX1_placeAfter_48 (by decide) ?_
        refine lv_goto (tgt := 53) hx hb dX1_placeAfter_49 (by decide) ?_
        refine lv_istore (lv' := [(4, .int (nI (1))), (2, .long (J 11 (xA N))), (0, .ref (a 2)), (1, .int (nI (xCode N)))]) hx hb dX1_placeAfter_53 hl (by decide) rfl (fun ls hl => ?_)
        refine lv_iload hx hb dX1_placeAfter_55 (lv_at hl 0 rfl) ?_
        refine n_if_eq (tgt := 75) hx hb (by omega) dX1_placeAfter_57 (by decide) (fun c_57 => absurd c_57 (by decide)) (fun c_57 => ?_)
        refine lv_aload_n hx hb dX1_placeAfter_60 rfl (lv_at hl 2 rfl) ?_
        refine xg_10 hx hb hts hi1 hown hK hP k18 dX1_placeAfter_61 ?_
        refine xg_3 hx hb hts hi2 hown hK hP k43 dX1_placeAfter_64 ?_
        refine lv_aload_n hx hb dX1_placeAfter_67 rfl (lv_at hl 2 rfl) ?_
        refine xg_13 (v := N 13 0) hx hb hts hi1 hown hK hP k32 rfl dX1_placeAfter_68 ?_
        refine xl_3 (v := xBB N) hx hb hK hP (by omega) rfl dX1_placeAfter_71 ?_
        refine lv_goto (tgt := 81) hx hb dX1_placeAfter_72 (by decide) ?_
        refine lv_istore (lv' := [(5, .int (nI (xBB N))), (4, .int (nI (1))), (2, .long (J 11 (xA N))), (0, .ref (a 2)), (1, .int (nI (xCode N)))]) hx hb dX1_placeAfter_81 hl (by decide) rfl (fun ls hl => ?_)
        refine lv_iload hx hb dX1_placeAfter_83 (lv_at hl 0 rfl) ?_
        refine lv_sipush (v := nI 255) hx hb dX1_placeAfter_85 (by decide) ?_
        refine n_and hx hb 8 (by first | exact hp0.2.2.2 | omega) (by decide) dX1_placeAfter_88 ?_
        exact g_reti hx hb hr hlocks (N, J) (⟨by unfold xNx nxP; rw [if_pos (Or.inr (Or.inl ⟨c_27, (lg_cmp_eq _ _).mp c_33⟩))], rfl⟩) hP hS dX1_placeAfter_89
      · refine lv_iload_n hx hb dX1_placeAfter_36 rfl (lv_at hl 2 rfl) ?_
        refine lv_bipush (v := nI 17) hx hb dX1_placeAfter_37 (by decide) ?_
        refine n_icmp_ne (tgt := 52) hx hb (by omega) (by omega) dX1_placeAfter_39 (by decide) (fun c_39 => ?_) (fun c_39 => ?_)
        · refine lv_iconst (v := nI 0) hx hb dX1_placeAfter_52 (by decide) ?_
          refine lv_istore (lv' := [(4, .int (nI (0))), (2, .long (J 11 (xA N))), (0, .ref (a 2)), (1, .int (nI (xCode N)))]) hx hb dX1_placeAfter_53 hl (by decide) rfl (fun ls hl => ?_)
          refine lv_iload hx hb dX1_placeAfter_55 (lv_at hl 0 rfl) ?_
          refine n_if_eq (tgt := 75) hx hb (by omega) dX1_placeAfter_57 (by decide) (fun c_57 => ?_) (fun c_57 => absurd c_57 (by decide))
          refine lv_aload_n hx hb dX1_placeAfter_75 rfl (lv_at hl 2 rfl) ?_
          refine xg_13 (v := N 13 0) hx hb hts hi1 hown hK hP k32 rfl dX1_placeAfter_76 ?_
          refine lv_iconst (v := nI 1) hx hb dX1_placeAfter_79 (by decide) ?_
          refine n_add hx hb dX1_placeAfter_80 ?_
          refine lv_istore (lv' := [(5, .int (nI ((N 13 0) + 1))), (4, .int (nI (0))), (2, .long (J 11 (xA N))), (0, .ref (a 2)), (1, .int (nI (xCode N)))]) hx hb dX1_placeAfter_81 hl (by decide) rfl (fun ls hl => ?_)
          refine lv_iload hx hb dX1_placeAfter_83 (lv_at hl 0 rfl) ?_
          refine lv_sipush (v := nI 255) hx hb dX1_placeAfter_85 (by decide) ?_
          refine n_and hx hb 8 (by first | exact hp0.2.2.2 | omega) (by decide) dX1_placeAfter_88 ?_
          exact g_reti hx hb hr hlocks (N, J) (⟨by unfold xNx nxP; rw [if_neg (fun z => z.elim (fun z => c_21 z) (fun z => z.elim (fun z => c_33 ((lg_cmp_eq _ _).mpr z.2)) (fun z => c_39 z.1)))], rfl⟩) hP hS dX1_placeAfter_89
        · refine lv_lload_n hx hb dX1_placeAfter_42 rfl (lv_at hl 0 rfl) ?_
          refine lv_lconst (v := 0) hx hb dX1_placeAfter_43 (by decide) ?_
          refine W.lcmp hx hb dX1_placeAfter_44 ?_
          refine lv_if_ge (tgt := 52) hx hb dX1_placeAfter_45 (by decide) (fun c_45 => ?_) (fun c_45 => ?_)
          · refine lv_iconst (v := nI 0) hx hb dX1_placeAfter_52 (by decide) ?_
            refine lv_istore (lv' := [(4, .int (nI (0))), (2, .long (J 11 (xA N))), (0, .ref (a 2)), (1, .int (nI (xCode N)))]) hx hb dX1_placeAfter_53 hl (by decide) rfl (fun ls hl => ?_)
            refine lv_iload hx hb dX1_placeAfter_55 (lv_at hl 0 rfl) ?_
            refine n_if_eq (tgt := 75) hx hb (by omega) dX1_placeAfter_57 (by decide) (fun c_57 => ?_) (fun c_57 => absurd c_57 (by decide))
            refine lv_aload_n hx hb dX1_placeAfter_75 rfl (lv_at hl 2 rfl) ?_
            refine xg_13 (v := N 13 0) hx hb hts hi1 hown hK hP k32 rfl dX1_placeAfter_76 ?_
            refine lv_iconst (v := nI 1) hx hb dX1_placeAfter_79 (by decide) ?_
            refine n_add hx hb dX1_placeAfter_80 ?_
            refine lv_istore (lv' := [(5, .int (nI ((N 13 0) + 1))), (4, .int (nI (0))), (2, .long (J 11 (xA N))), (0, .ref (a 2)), (1, .int (nI (xCode N)))]) hx hb dX1_placeAfter_81 hl (by decide) rfl (fun ls hl => ?_)
            refine lv_iload hx hb dX1_placeAfter_83 (lv_at hl 0 rfl) ?_
            refine lv_sipush (v := nI 255) hx hb dX1_placeAfter_85 (by decide) ?_
            refine n_and hx hb 8 (by first | exact hp0.2.2.2 | omega) (by decide) dX1_placeAfter_88 ?_
            exact g_reti hx hb hr hlocks (N, J) (⟨by unfold xNx nxP; rw [if_neg (fun z => z.elim (fun z => c_21 z) (fun z => z.elim (fun z => c_33 ((lg_cmp_eq _ _).mpr z.2)) (fun z => absurd ((lg_cmp_lt _ _).mpr z.2) (Int32.not_lt.mpr c_45))))], rfl⟩) hP hS dX1_placeAfter_89
          · refine lv_iconst (v := nI 1) hx hb dX1_placeAfter_48 (by decide) ?_
            refine lv_goto (tgt := 53) hx hb dX1_placeAfter_49 (by decide) ?_
            refine lv_istore (lv' := [(4, .int (nI (1))), (2, .long (J 11 (xA N))), (0, .ref (a 2)), (1, .int (nI (xCode N)))]) hx hb dX1_placeAfter_53 hl (by decide) rfl (fun ls hl => ?_)
            refine lv_iload hx hb dX1_placeAfter_55 (lv_at hl 0 rfl) ?_
            refine n_if_eq (tgt := 75) hx hb (by omega) dX1_placeAfter_57 (by decide) (fun c_57 => absurd c_57 (by decide)) (fun c_57 => ?_)
            refine lv_aload_n hx hb dX1_placeAfter_60 rfl (lv_at hl 2 rfl) ?_
            refine xg_10 hx hb hts hi1 hown hK hP k18 dX1_placeAfter_61 ?_
            refine xg_3 hx hb hts hi2 hown hK hP k43 dX1_placeAfter_64 ?_
            refine lv_aload_n hx hb dX1_placeAfter_67 rfl (lv_at hl 2 rfl) ?_
            refine xg_13 (v := N 13 0) hx hb hts hi1 hown hK hP k32 rfl dX1_placeAfter_68 ?_
            refine xl_3 (v := xBB N) hx hb hK hP (by omega) rfl dX1_placeAfter_71 ?_
            refine lv_goto (tgt := 81) hx hb dX1_placeAfter_72 (by decide) ?_
            refine lv_istore (lv' := [(5, .int (nI (xBB N))), (4, .int (nI (1))), (2, .long (J 11 (xA N))), (0, .ref (a 2)), (1, .int (nI (xCode N)))]) hx hb dX1_placeAfter_81 hl (by decide) rfl (fun ls hl => ?_)
            refine lv_iload hx hb dX1_placeAfter_83 (lv_at hl 0 rfl) ?_
            refine lv_sipush (v := nI 255) hx hb dX1_placeAfter_85 (by decide) ?_
            refine n_and hx hb 8 (by first | exact hp0.2.2.2 | omega) (by decide) dX1_placeAfter_88 ?_
            exact g_reti hx hb hr hlocks (N, J) (⟨by unfold xNx nxP; rw [if_pos (Or.inr (Or.inr ⟨c_39, (lg_cmp_lt _ _).mp (Int32.not_le.mp c_45)⟩))], rfl⟩) hP hS dX1_placeAfter_89
set_option maxHeartbeats 4000000 in
set_option maxRecDepth 100000 in
theorem tP_step (l : Launch) (dC : Nat → ClassId) (dI : Nat → Nat → Nat) (a : Nat → Nat) (cI cL cZ : ClassId) (N : Nat → Nat → Nat) (J : Nat → Nat → Int64)  (hG : xG0 N) (hc : 1 ≤ xCode N) : MetV l yX1_step wsX1_step ({ frames := 2, cells := 0, slots := 0, locals := 47 } : Room) dC dI (gT cI cL cZ) (xF a cI cL cZ) (xL a) (N, J) [.ref (a 2)] (fun u => u = (uN N 13 0 (xNx N J), xStepJ N J)) := by
  intro sz
  refine g_entry (bytes := cX1_step) (maxL := 3) (ret := none) (Qc := fun sz => va_Qv (fun u => u = (uN N 13 0 (xNx N J), xStepJ N J)) (gB dC dI (xF a cI cL cZ)) (aA (xL a) sz)) (by decide) rfl (Nat.le_of_ble_eq_true rfl) rfl ?_
  intro p e s m below meth c ls hx hb hr hml hts hown hlocks hK hP hD hS hZ hl
  have hP : va_P (dC, dI) vwCl (xW a cI cL cZ N J) s.heap := hP
  have hD : va_D (aA (xL a) s.heap.size) (xW a cI cL cZ N J) := hD
  have hown : s.vm.findClass RX1 = some m.cls := hown
  have hl : lv_has ls 3 [(0, .ref (a 2))] := hl
  have hi1 : ∀ w ∈ wsX10, w ∈ wsX1_step := by decide +kernel
  have hi2 : ∀ w ∈ wsX20, w ∈ wsX1_step := by decide +kernel
  have k15 := hts (.fieldLink RX1 15 "ScoreMachine$PlainMachine" "memory" "[J") (by decide +kernel)
  have k18 := hts (.fieldLink RX1 18 "ScoreMachine$PlainMachine" "setup" "LScoreMachine$Setup;") (by decide +kernel)
  have k32 := hts (.fieldLink RX1 32 "ScoreMachine$PlainMachine" "place" "I") (by decide +kernel)
  have k52 := hts (.fieldLink RX1 52 "ScoreMachine$Setup" "ds" "[I") (by decide +kernel)
  have k9 := hts (.fieldLink RX1 9 "ScoreMachine$PlainMachine" "registers" "[J") (by decide +kernel)
  obtain ⟨hpl, hpr⟩ := id hG
  have hp0 := hpr (N 13 0) hpl
  have hcd : xCode N ≤ 18 := hp0.1
  refine lv_aload_n hx hb dX1_step_0 rfl (lv_at hl 0 rfl) ?_
  refine g_calli (u := (N, J)) (g_runV (As := []) (rest := []) ⟨hx, hb, hml, hown, hts⟩ (tP_code l dC dI a cI cL cZ N J hG s.heap.size) (cwV 0 hts gX1_step_X1_code rfl rfl rfl (by decide +kernel) ⟨Nat.le_of_ble_eq_true rfl, Nat.le_of_ble_eq_true rfl⟩) (va_recv hK hP (ci := 1) (q0 := 2) rfl rfl) hK hP hD hS hZ rfl hl.1 rfl (Nat.le_of_ble_eq_true rfl) dX1_step_1) (xW_L a cI cL cZ) hD hS (fun r_1 u H locs hw hP hD hS => ?_)
  obtain ⟨rfl, rfl⟩ := hw
  have hP : va_P (dC, dI) vwCl (xW a cI cL cZ N J) H := hP
  have hD : va_D (aA (xL a) s.heap.size) (xW a cI cL cZ N J) := hD
  refine lv_istore_n (lv' := [(1, .int (nI (xCode N))), (0, .ref (a 2))]) hx hb dX1_step_4 rfl hl (by decide) rfl (fun ls hl => ?_)
  refine lv_aload_n hx hb dX1_step_5 rfl (lv_at hl 1 rfl) ?_
  refine xg_10 hx hb hts hi1 hown hK hP k18 dX1_step_6 ?_
  refine xg_1 hx hb hts hi2 hown hK hP k52 dX1_step_9 ?_
  refine lv_aload_n hx hb dX1_step_12 rfl (lv_at hl 1 rfl) ?_
  refine xg_13 (v := N 13 0) hx hb hts hi1 hown hK hP k32 rfl dX1_step_13 ?_
  refine xl_1 (v := xD N) hx hb hK hP (by omega) rfl dX1_step_16 ?_
  refine lv_istore_n (lv' := [(2, .int (nI (xD N))), (1, .int (nI (xCode N))), (0, .ref (a 2))]) hx hb dX1_step_17 rfl hl (by decide) rfl (fun ls hl => ?_)
  refine lv_iload_n hx hb dX1_step_18 rfl (lv_at hl 1 rfl) ?_
  refine lv_bipush (v := nI 15) hx hb dX1_step_19 (by decide) ?_
  refine n_icmp_ne (tgt := 42) hx hb (by omega) (by omega) dX1_step_21 (by decide) (fun c_21 => ?_) (fun c_21 => ?_)
  · refine lv_iload_n hx hb dX1_step_42 rfl (lv_at hl 1 rfl) ?_
    refine s_calliN (As := [.int (nI (xCode N))]) (rest := []) ⟨hx, hb, hml, hown, hts⟩ (tA_writesD l (xCode N) (by omega)) ⟨va_cnB (host := "ScoreMachine") 1 hts gX1_step_X3_writesD_n58 rfl rfl rfl hZ.1.2.2.2.2.2.2.2 (hts (.initialized RX3) (by decide +kernel)) (by decide +kernel) ⟨Nat.le_of_ble_eq_true rfl, Nat.le_of_ble_eq_true rfl⟩, hts (.static yX3_writesD) (by decide +kernel), trivial⟩ rfl hl.1 rfl (Nat.le_of_ble_eq_true rfl) dX1_step_43 (fun r_43 hw => ?_)
    subst hw
    refine n_if_eq (tgt := 60) hx hb bL dX1_step_46 (by decide) (fun c_46 => ?_) (fun c_46 => ?_)
    · refine lv_aload_n hx hb dX1_step_60 rfl (lv_at hl 2 rfl) ?_
      refine lv_aload_n hx hb dX1_step_61 rfl (lv_at hl 2 rfl) ?_
      refine lv_iload_n hx hb dX1_step_62 rfl (lv_at hl 1 rfl) ?_
      refine g_calli (u := (N, J)) (g_runV (As := [.int (nI (xCode N))]) (rest := [.ref (a 2)]) ⟨hx, hb, hml, hown, hts⟩ (tP_placeAfter l dC dI a cI cL cZ N J hG H.size) (cwV 1 hts gX1_step_X1_placeAfter rfl rfl rfl (by decide +kernel) ⟨Nat.le_of_ble_eq_true rfl, Nat.le_of_ble_eq_true rfl⟩) (va_recv hK hP (ci := 1) (q0 := 2) rfl rfl) hK hP hD hS hZ rfl hl.1 rfl (Nat.le_of_ble_eq_true rfl) dX1_step_63) (xW_L a cI cL cZ) hD hS (fun r_63 u H locs hw hP hD hS => ?_)
      obtain ⟨hr9, hu9⟩ := hw
      have hr9 : r_63 = nI (xNx N J) := hr9
      subst hr9
      subst hu9
      have hP : va_P (dC, dI) vwCl (xW a cI cL cZ N J) H := hP
      have hD : va_D (aA (xL a) s.heap.size) (xW a cI cL cZ N J) := hD
      refine xp_13 hx hb hts hi1 hown hK hP hD hS k32 dX1_step_66 (fun H locs hP hD hS => ?_)
      exact g_retv hx hb hr hlocks ((uN N 13 (0) (xNx N J)), J) (by unfold xStepJ; rw [if_neg c_21, if_neg (b0 c_46)]) hP hS dX1_step_69
    · refine lv_aload_n hx hb dX1_step_49 rfl (lv_at hl 2 rfl) ?_
      refine xg_11 hx hb hts hi1 hown hK hP k9 dX1_step_50 ?_
      refine lv_iload_n hx hb dX1_step_53 rfl (lv_at hl 0 rfl) ?_
      refine lv_aload_n hx hb dX1_step_54 rfl (lv_at hl 2 rfl) ?_
      refine lv_iload_n hx hb dX1_step_55 rfl (lv_at hl 1 rfl) ?_
      refine g_calll (u := (N, J)) (g_runV (As := [.int (nI (xCode N))]) (rest := [.int (nI (xD N)), .ref (a 12)]) ⟨hx, hb, hml, hown, hts⟩ (tP_value l dC dI a cI cL cZ N J hG (by omega) (by have := b1 c_46; omega) H.size) (cwV 1 hts gX1_step_X1_value rfl rfl rfl (by decide +kernel) ⟨Nat.le_of_ble_eq_true rfl, Nat.le_of_ble_eq_true rfl⟩) (va_recv hK hP (ci := 1) (q0 := 2) rfl rfl) hK hP hD hS hZ rfl hl.1 rfl (Nat.le_of_ble_eq_true rfl) dX1_step_56) (xW_L a cI cL cZ) hD hS (fun r_56 u H locs hw hP hD hS => ?_)
      obtain ⟨rfl, rfl⟩ := hw
      have hP : va_P (dC, dI) vwCl (xW a cI cL cZ N J) H := hP
      have hD : va_D (aA (xL a) s.heap.size) (xW a cI cL cZ N J) := hD
      refine xs_11 hx hb hK hP hD hS hp0.2.1 dX1_step_59 (fun H locs hP hD hS => ?_)
      refine lv_aload_n hx hb dX1_step_60 rfl (lv_at hl 2 rfl) ?_
      refine lv_aload_n hx hb dX1_step_61 rfl (lv_at hl 2 rfl) ?_
      refine lv_iload_n hx hb dX1_step_62 rfl (lv_at hl 1 rfl) ?_
      refine g_calli (u := (N, (uJ J 11 (xD N) (xV N J)))) (g_runV (As := [.int (nI (xCode N))]) (rest := [.ref (a 2)]) ⟨hx, hb, hml, hown, hts⟩ (tP_placeAfter l dC dI a cI cL cZ N (uJ J 11 (xD N) (xV N J)) hG H.size) (cwV 1 hts gX1_step_X1_placeAfter rfl rfl rfl (by decide +kernel) ⟨Nat.le_of_ble_eq_true rfl, Nat.le_of_ble_eq_true rfl⟩) (va_recv hK hP (ci := 1) (q0 := 2) rfl rfl) hK hP hD hS hZ rfl hl.1 rfl (Nat.le_of_ble_eq_true rfl) dX1_step_63) (xW_L a cI cL cZ) hD hS (fun r_63 u H locs hw hP hD hS => ?_)
      obtain ⟨hr9, hu9⟩ := hw
      have hr9 : r_63 = nI (xNx N J) := by rw [hr9]; exact congrArg nI (nxP_c (by have := b1 c_46; omega) _ _ _ _)
      subst hr9
      subst hu9
      have hP : va_P (dC, dI) vwCl (xW a cI cL cZ N (uJ J 11 (xD N) (xV N J))) H := hP
      have hD : va_D (aA (xL a) s.heap.size) (xW a cI cL cZ N (uJ J 11 (xD N) (xV N J))) := hD
      refine xp_13 hx hb hts hi1 hown hK hP hD hS k32 dX1_step_66 (fun H locs hP hD hS => ?_)
      exact g_retv hx hb hr hlocks ((uN N 13 (0) (xNx N J)), (uJ J 11 (xD N) (xV N J))) (by unfold xStepJ; rw [if_neg c_21, if_pos (b1 c_46)]) hP hS dX1_step_69
  · refine lv_aload_n hx hb dX1_step_24 rfl (lv_at hl 2 rfl) ?_
    refine xg_12 hx hb hts hi1 hown hK hP k15 dX1_step_25 ?_
    refine lv_aload_n hx hb dX1_step_28 rfl (lv_at hl 2 rfl) ?_
    refine g_calli (u := (N, J)) (g_runV (As := []) (rest := [.ref (a 13)]) ⟨hx, hb, hml, hown, hts⟩ (tP_cell l dC dI a cI cL cZ N J hG H.size) (cwV 0 hts gX1_step_X1_cell rfl rfl rfl (by decide +kernel) ⟨Nat.le_of_ble_eq_true rfl, Nat.le_of_ble_eq_true rfl⟩) (va_recv hK hP (ci := 1) (q0 := 2) rfl rfl) hK hP hD hS hZ rfl hl.1 rfl (Nat.le_of_ble_eq_true rfl) dX1_step_29) (xW_L a cI cL cZ) hD hS (fun r_29 u H locs hw hP hD hS => ?_)
    obtain ⟨rfl, rfl⟩ := hw
    have hP : va_P (dC, dI) vwCl (xW a cI cL cZ N J) H := hP
    have hD : va_D (aA (xL a) s.heap.size) (xW a cI cL cZ N J) := hD
    refine lv_aload_n hx hb dX1_step_32 rfl (lv_at hl 2 rfl) ?_
    refine xg_11 hx hb hts hi1 hown hK hP k9 dX1_step_33 ?_
    refine lv_iload_n hx hb dX1_step_36 rfl (lv_at hl 0 rfl) ?_
    refine xl_11 (v := J 11 (xD N)) hx hb hK hP hp0.2.1 rfl dX1_step_37 ?_
    refine xs_12 hx hb hK hP hD hS (clN_lt _) dX1_step_38 (fun H locs hP hD hS => ?_)
    refine lv_goto (tgt := 60) hx hb dX1_step_39 (by decide) ?_
    refine lv_aload_n hx hb dX1_step_60 rfl (lv_at hl 2 rfl) ?_
    refine lv_aload_n hx hb dX1_step_61 rfl (lv_at hl 2 rfl) ?_
    refine lv_iload_n hx hb dX1_step_62 rfl (lv_at hl 1 rfl) ?_
    refine g_calli (u := (N, (uJ J 12 (xCl N J) (J 11 (xD N))))) (g_runV (As := [.int (nI (xCode N))]) (rest := [.ref (a 2)]) ⟨hx, hb, hml, hown, hts⟩ (tP_placeAfter l dC dI a cI cL cZ N (uJ J 12 (xCl N J) (J 11 (xD N))) hG H.size) (cwV 1 hts gX1_step_X1_placeAfter rfl rfl rfl (by decide +kernel) ⟨Nat.le_of_ble_eq_true rfl, Nat.le_of_ble_eq_true rfl⟩) (va_recv hK hP (ci := 1) (q0 := 2) rfl rfl) hK hP hD hS hZ rfl hl.1 rfl (Nat.le_of_ble_eq_true rfl) dX1_step_63) (xW_L a cI cL cZ) hD hS (fun r_63 u H locs hw hP hD hS => ?_)
    obtain ⟨hr9, hu9⟩ := hw
    have hr9 : r_63 = nI (xNx N J) := by rw [hr9]; exact congrArg nI (nxP_c (by omega) _ _ _ _)
    subst hr9
    subst hu9
    have hP : va_P (dC, dI) vwCl (xW a cI cL cZ N (uJ J 12 (xCl N J) (J 11 (xD N)))) H := hP
    have hD : va_D (aA (xL a) s.heap.size) (xW a cI cL cZ N (uJ J 12 (xCl N J) (J 11 (xD N)))) := hD
    refine xp_13 hx hb hts hi1 hown hK hP hD hS k32 dX1_step_66 (fun H locs hP hD hS => ?_)
    exact g_retv hx hb hr hlocks ((uN N 13 (0) (xNx N J)), (uJ J 12 (xCl N J) (J 11 (xD N)))) (by unfold xStepJ; rw [if_pos c_21]) hP hS dX1_step_69
