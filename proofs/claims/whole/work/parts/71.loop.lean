/-! the law's loop -/
theorem lp_sub {a b : Nat} (h : b ≤ a) : nI a - nI b = nI (a - b) := by
  have e : nI a = nI (a - b) + nI b := by rw [nI_add, Nat.sub_add_cancel h]
  rw [e, Int32.add_sub_cancel]
theorem lp_head {i L : Nat} (hi : i ≤ 4000) (hL : L ≤ 3072) : nI L - nI 6 < nI i ↔ L < i + 6 := by
  by_cases h6 : 6 ≤ L
  · rw [lp_sub h6, Int32.lt_iff_toInt_lt, i_ti (by omega), i_ti (by omega)]
    omega
  · constructor
    · intro _; omega
    · intro _
      have e : (nI L - nI 6).toInt < 0 := by
        rcases (show L = 0 ∨ L = 1 ∨ L = 2 ∨ L = 3 ∨ L = 4 ∨ L = 5 by omega) with rfl | rfl | rfl | rfl | rfl | rfl <;> decide
      rw [Int32.lt_iff_toInt_lt, i_ti (show i < 2147483648 by omega)]
      omega
set_option maxHeartbeats 4000000 in
set_option maxRecDepth 100000 in
theorem law_loop {p : Program} {e : Env} {s : State} {m : MethodId} {below : List Frame} {meth : Method} {c : Code} {l : Launch} (hl0 : l.stackTraces = false) {sb L : Nat} {xs : Nat → Int32} (C0 : lw_At p s m meth c sb L xs) (hbA : ¬ (fun q : Nat => s.heap.size ≤ q) sb)
    {dC : Nat → ClassId} {dI : Nat → Nat → Nat} {a b : Nat → Nat} {o : Nat} {cI cL cZ : ClassId} (hK : va_K (dC, dI) vwCl (gT cI cL cZ) s) (hZ : gZ (fun q : Nat => s.heap.size ≤ q) s s.heap) (hG : gX (fun q : Nat => s.heap.size ≤ q) s s.heap) (hL : L ≤ 3072) :
    ∀ (n j : Nat) (x w : gSt) (f : Nat → Int64) (H : Heap) (locs : List Loc) (ls : Array Slot), L < 6 * j + 6 * n → 6 * j ≤ L + 5 → rObs x w → x.1 22 0 ≤ 3000 * j → va_P (dC, dI) vwCl (lW a b o cI cL cZ x w f) H → va_D (fun q : Nat => s.heap.size ≤ q) (lW a b o cI cL cZ x w f) → va_S (fun q : Nat => s.heap.size ≤ q) s.heap H locs → lv_has ls 8 [(4, .int (nI (6 * j))), (0, .ref sb), (1, .ref (a 0)), (2, .ref (b 0)), (3, .ref o)] →
      W p l e room_1 s m #[Value.ref sb] below meth c H locs (41 + j) (4657 + 6 * j) (lw_Z below #[Value.ref sb] s) (F0 m 23 ls []) := by
  obtain ⟨hx, hb, hr, hml, hown, hts0, hX, hbl, hlocks, -⟩ := id C0
  have hA : ∀ q, s.heap.size ≤ q → (fun q : Nat => s.heap.size ≤ q) q := fun _ h => h
  intro n
  induction n with
  | zero =>
    intro j x w f H locs ls h1 h2 ho hc hP hD hS hl
    refine lv_iload hx hb dL_law_23 (lv_at hl 0 rfl) ?_
    refine lv_aload_n hx hb dL_law_25 rfl (lv_at hl 1 rfl) ?_
    refine va_slen hx hb hX hbl hbA hS dL_law_26 ?_
    refine lv_bipush (v := nI 6) hx hb dL_law_27 (by decide) ?_
    refine lv_isub hx hb dL_law_29 ?_
    refine lv_icmp_gt (tgt := 735) hx hb dL_law_30 (by decide) (fun c_30 => ?_) (fun c_30 => ?_)
    · refine lv_iconst (v := 1) hx hb dL_law_735 (by decide) ?_
      refine va_forget (fun q hq => hS.2.2 q hq) ?_
      refine W.widen (k := 1068) (n := 12867) (by omega) (by omega) ?_
      exact lw_ret hx hb hr hlocks dL_law_736
    · exact absurd ((lp_head (i := 6 * j) (by omega) hL).mpr (by omega)) c_30
  | succ n ih =>
    intro j x w f H locs ls h1 h2 ho hc hP hD hS hl
    refine lv_iload hx hb dL_law_23 (lv_at hl 0 rfl) ?_
    refine lv_aload_n hx hb dL_law_25 rfl (lv_at hl 1 rfl) ?_
    refine va_slen hx hb hX hbl hbA hS dL_law_26 ?_
    refine lv_bipush (v := nI 6) hx hb dL_law_27 (by decide) ?_
    refine lv_isub hx hb dL_law_29 ?_
    refine lv_icmp_gt (tgt := 735) hx hb dL_law_30 (by decide) (fun c_30 => ?_) (fun c_30 => ?_)
    · refine lv_iconst (v := 1) hx hb dL_law_735 (by decide) ?_
      refine va_forget (fun q hq => hS.2.2 q hq) ?_
      refine W.widen (k := 1068) (n := 12867) (by omega) (by omega) ?_
      exact lw_ret hx hb hr hlocks dL_law_736
    · have hi : 6 * j + 6 ≤ L := by
        rcases Nat.lt_or_ge L (6 * j + 6) with q | q
        · exact absurd ((lp_head (i := 6 * j) (by omega) hL).mpr q) c_30
        · exact q
      have hc1 : x.1 22 0 ≤ 1597000 := by omega
      have hcs : 41 + j + 1 ≤ room_1.cells ∧ 4657 + 6 * j + 6 ≤ room_1.slots := ⟨show 41 + j + 1 ≤ 1068 by omega, show 4657 + 6 * j + 6 ≤ 12867 by omega⟩
      have tail : ∀ (x' w' : gSt) (g : Nat → Int64) (H1 : Heap) (locs1 : List Loc) (ls1 : Array Slot), rObs x' w' → x'.1 22 0 ≤ x.1 22 0 + 3000 → va_P (dC, dI) vwCl (lW a b o cI cL cZ x' w' g) H1 → va_D (fun q : Nat => s.heap.size ≤ q) (lW a b o cI cL cZ x' w' g) → va_S (fun q : Nat => s.heap.size ≤ q) s.heap H1 locs1 → lv_has ls1 8 [(4, .int (nI (6 * j))), (0, .ref sb), (1, .ref (a 0)), (2, .ref (b 0)), (3, .ref o)] → W p l e room_1 s m #[Value.ref sb] below meth c H1 locs1 (41 + j + 1) (4657 + 6 * j + 6) (lw_Z below #[Value.ref sb] s) (F0 m 729 ls1 []) := by
        intro x' w' g H1 locs1 ls1 ho' hc' hP' hD' hS' hl'
        refine lv_iinc (v := nI (6 * (j + 1))) (lv' := [(4, .int (nI (6 * (j + 1)))), (0, .ref sb), (1, .ref (a 0)), (2, .ref (b 0)), (3, .ref o)]) hx hb dL_law_729 hl' (k := 0) rfl (show nI (6 * j) + nI 6 = nI (6 * (j + 1)) from nI_add (6 * j) 6) (by decide) rfl (fun ls2 hl2 => ?_)
        refine lv_goto (tgt := 23) hx hb dL_law_732 (by decide) ?_
        exact ih (j + 1) x' w' g H1 locs1 ls2 (by omega) (by omega) ho' (by omega) hP' hD' hS' hl2
      refine lv_aload_n hx hb dL_law_33 rfl (lv_at hl 1 rfl) ?_
      refine lv_iload hx hb dL_law_34 (lv_at hl 0 rfl) ?_
      refine va_sld hx hb hX hbl hbA hS (vp_in_nI (show 6 * j < L by omega) (by omega)) dL_law_36 ?_
      obtain ⟨B, hB, eB⟩ := i_any (xs (nI (6 * j)).toNatClampNeg)
      rw [eB]
      refine lv_bipush (v := nI 15) hx hb dL_law_37 (by decide) ?_
      refine n_and hx hb 4 hB (by decide) dL_law_39 ?_
      have hd : B % 2 ^ 4 < 16 := Nat.mod_lt _ (by decide)
      generalize B % 2 ^ 4 = d at hd ⊢
      rcases (show d = 0 ∨ d = 1 ∨ d = 2 ∨ d = 3 ∨ d = 4 ∨ d = 5 ∨ d = 6 ∨ d = 7 ∨ d = 8 ∨ d = 9 ∨ d = 10 ∨ d = 11 ∨ d = 12 ∨ d = 13 ∨ d = 14 ∨ d = 15 by omega) with rfl | rfl | rfl | rfl | rfl | rfl | rfl | rfl | rfl | rfl | rfl | rfl | rfl | rfl | rfl | rfl
      · refine lv_tableIn (off := 76) (tgt := 116) hx hb dL_law_40 (by decide) (by decide) (by decide) (by decide) ?_
        exact lc_put hl0 C0 hA hbA hK hZ hG ho hc1 hi hL hcs hP hD hS hl tail
      · refine lv_tableIn (off := 149) (tgt := 189) hx hb dL_law_40 (by decide) (by decide) (by decide) (by decide) ?_
        exact lc_units hl0 C0 hA hbA hK hZ hG ho hc1 hi hL hcs hP hD hS hl tail
      · refine lv_tableIn (off := 186) (tgt := 226) hx hb dL_law_40 (by decide) (by decide) (by decide) (by decide) ?_
        exact lc_latency hl0 C0 hA hbA hK hZ hG ho hc1 hi hL hcs hP hD hS hl tail
      · refine lv_tableIn (off := 223) (tgt := 263) hx hb dL_law_40 (by decide) (by decide) (by decide) (by decide) ?_
        exact lc_width hl0 C0 hA hbA hK hZ hG ho hc1 hi hL hcs hP hD hS hl tail
      · refine lv_tableIn (off := 248) (tgt := 288) hx hb dL_law_40 (by decide) (by decide) (by decide) (by decide) ?_
        exact lc_set hl0 C0 hA hbA hK hZ hG ho hc1 hi hL hcs hP hD hS hl tail
      · refine lv_tableIn (off := 329) (tgt := 369) hx hb dL_law_40 (by decide) (by decide) (by decide) (by decide) ?_
        exact lc_run hl0 C0 hA hbA hK hZ hG ho hc1 hi hL hcs hP hD hS hl tail
      · refine lv_tableIn (off := 354) (tgt := 394) hx hb dL_law_40 (by decide) (by decide) (by decide) (by decide) ?_
        exact lc_again hl0 C0 hA hbA hK hZ hG ho hc1 hi hL hcs hP hD hS hl tail
      · refine lv_tableIn (off := 365) (tgt := 405) hx hb dL_law_40 (by decide) (by decide) (by decide) (by decide) ?_
        exact lc_clear hl0 C0 hA hbA hK hZ hG ho hc1 hi hL hcs hP hD hS hl tail
      · refine lv_tableIn (off := 376) (tgt := 416) hx hb dL_law_40 (by decide) (by decide) (by decide) (by decide) ?_
        exact lc_count hl0 C0 hA hbA hK hZ hG ho hc1 hi hL hcs hP hD hS hl tail
      · refine lv_tableIn (off := 401) (tgt := 441) hx hb dL_law_40 (by decide) (by decide) (by decide) (by decide) ?_
        exact lc_register hl0 C0 hA hbA hK hZ hG ho hc1 hi hL hcs hP hD hS hl tail
      · refine lv_tableIn (off := 456) (tgt := 496) hx hb dL_law_40 (by decide) (by decide) (by decide) (by decide) ?_
        exact lc_memory hl0 C0 hA hbA hK hZ hG ho hc1 hi hL hcs hP hD hS hl tail
      · refine lv_tableIn (off := 511) (tgt := 551) hx hb dL_law_40 (by decide) (by decide) (by decide) (by decide) ?_
        exact lc_plain hl0 C0 hA hbA hK hZ hG ho hc1 hi hL hcs hP hD hS hl tail
      · refine lv_tableIn (off := 578) (tgt := 618) hx hb dL_law_40 (by decide) (by decide) (by decide) (by decide) ?_
        exact lc_unit hl0 C0 hA hbA hK hZ hG ho hc1 hi hL hcs hP hD hS hl tail
      · refine lv_tableIn (off := 627) (tgt := 667) hx hb dL_law_40 (by decide) (by decide) (by decide) (by decide) ?_
        exact lc_pending hl0 C0 hA hbA hK hZ hG ho hc1 hi hL hcs hP hD hS hl tail
      · refine lv_tableIn (off := 652) (tgt := 692) hx hb dL_law_40 (by decide) (by decide) (by decide) (by decide) ?_
        exact lc_latest hl0 C0 hA hbA hK hZ hG ho hc1 hi hL hcs hP hD hS hl tail
      · refine lv_tableOut (tgt := 729) hx hb dL_law_40 (Or.inr (by decide)) (by decide) ?_
        refine W.widen (k := 41 + j + 1) (n := 4657 + 6 * j + 6) (Nat.le_add_right _ _) (Nat.le_add_right _ _) ?_
        exact tail x w f H locs ls ho (Nat.le_add_right _ _) hP hD hS hl
