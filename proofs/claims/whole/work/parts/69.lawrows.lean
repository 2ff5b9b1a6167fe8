/-! calls in the law's body: its world holds both objects and the array for answers -/
def lW (a b : Nat → Nat) (o : Nat) (cI cL cZ : ClassId) (x w : gSt) (f : Nat → Int64) : va_W := xW a cI cL cZ x.1 x.2 ++ (mW b cI cL cZ w.1 w.2 ++ [(o, .inl (cL, 1, .inr (.inl f)))])
theorem lA_sub {ws : va_W} {A : Nat → Prop} {L : List Nat} {H0 H : Heap} {locs : List Loc} (hL : ws.map Prod.fst = L) (hD : va_D A ws) (hS : va_S A H0 H locs) (hA : ∀ q, H0.size ≤ q → A q) : ∀ q, aA L H.size q → A q := gL_sub hL hD hA hS.1
section LJ
variable {D : va_G} {A : Nat → Prop} {a b : Nat → Nat} {o : Nat} {cI cL cZ : ClassId} {x w x' w' : gSt} {f f' : Nat → Int64} {H H1 : Heap}
theorem lj_x (hP : va_P D vwCl (lW a b o cI cL cZ x w f) H) (hD : va_D A (lW a b o cI cL cZ x w f)) (hs : ∀ q, aA (xL a) H.size q → A q) (hk : ∀ q : Nat, q < H.size → ¬ aA (xL a) H.size q → H1[q]? = H[q]?) (hB : va_P D vwCl (xW a cI cL cZ x'.1 x'.2) H1) :
    va_P D vwCl (lW a b o cI cL cZ x' w f) H1 ∧ va_D A (lW a b o cI cL cZ x' w f) := by
  have hDc : va_D A (xW a cI cL cZ x.1 x.2) := hD.sub [0, 1, 2, 3, 4, 5, 6, 7, 8, 9, 10, 11, 12, 13, 14, 15, 16, 17, 18, 19, 20, 21] (by decide) rfl
  obtain ⟨hPn, hDn⟩ := va_join (wc := xW a cI cL cZ x.1 x.2) (wr := mW b cI cL cZ w.1 w.2 ++ [(o, .inl (cL, 1, .inr (.inl f)))]) (w1 := xW a cI cL cZ x'.1 x'.2) hP hD [0, 1, 2, 3, 4, 5, 6, 7, 8, 9, 10, 11, 12, 13, 14, 15, 16, 17, 18, 19, 20, 21] [22, 23, 24, 25, 26, 27, 28, 29, 30, 31, 32, 33, 34, 35, 36, 37, 38, 39, 40] rfl rfl (by decide) (by decide) (fun q h1 h2 => hk q h1 (fun z => h2 (va_aA (L := xL a) rfl z))) (fun q h => hs q (aA_va (L := xL a) rfl h)) hB ((aA_D (L := xL a) (sz := H.size) rfl (D_congr (ws := xW a cI cL cZ x.1 x.2) (ws' := xW a cI cL cZ x'.1 x'.2) rfl hDc)).weaken (fun _ _ _ z => va_aA (ws := xW a cI cL cZ x.1 x.2) (L := xL a) rfl z))
  exact ⟨hPn.sub [19, 20, 21, 22, 23, 24, 25, 26, 27, 28, 29, 30, 31, 32, 33, 34, 35, 36, 37, 38, 39, 40, 0, 1, 2, 3, 4, 5, 6, 7, 8, 9, 10, 11, 12, 13, 14, 15, 16, 17, 18] rfl, hDn.sub [19, 20, 21, 22, 23, 24, 25, 26, 27, 28, 29, 30, 31, 32, 33, 34, 35, 36, 37, 38, 39, 40, 0, 1, 2, 3, 4, 5, 6, 7, 8, 9, 10, 11, 12, 13, 14, 15, 16, 17, 18] (by decide) rfl⟩
theorem lj_m (hP : va_P D vwCl (lW a b o cI cL cZ x w f) H) (hD : va_D A (lW a b o cI cL cZ x w f)) (hs : ∀ q, aA (mL b) H.size q → A q) (hk : ∀ q : Nat, q < H.size → ¬ aA (mL b) H.size q → H1[q]? = H[q]?) (hB : va_P D vwCl (mW b cI cL cZ w'.1 w'.2) H1) :
    va_P D vwCl (lW a b o cI cL cZ x w' f) H1 ∧ va_D A (lW a b o cI cL cZ x w' f) := by
  have hDc : va_D A (mW b cI cL cZ w.1 w.2) := hD.sub [22, 23, 24, 25, 26, 27, 28, 29, 30, 31, 32, 33, 34, 35, 36, 37, 38, 39] (by decide) rfl
  obtain ⟨hPn, hDn⟩ := va_join (wc := mW b cI cL cZ w.1 w.2) (wr := xW a cI cL cZ x.1 x.2 ++ [(o, .inl (cL, 1, .inr (.inl f)))]) (w1 := mW b cI cL cZ w'.1 w'.2) hP hD [22, 23, 24, 25, 26, 27, 28, 29, 30, 31, 32, 33, 34, 35, 36, 37, 38, 39] [0, 1, 2, 3, 4, 5, 6, 7, 8, 9, 10, 11, 12, 13, 14, 15, 16, 17, 18, 19, 20, 21, 40] rfl rfl (by decide) (by decide) (fun q h1 h2 => hk q h1 (fun z => h2 (va_aA (L := mL b) rfl z))) (fun q h => hs q (aA_va (L := mL b) rfl h)) hB ((aA_D (L := mL b) (sz := H.size) rfl (D_congr (ws := mW b cI cL cZ w.1 w.2) (ws' := mW b cI cL cZ w'.1 w'.2) rfl hDc)).weaken (fun _ _ _ z => va_aA (ws := mW b cI cL cZ w.1 w.2) (L := mL b) rfl z))
  exact ⟨hPn.sub [0, 1, 2, 3, 4, 5, 6, 7, 8, 9, 10, 11, 12, 13, 14, 15, 16, 17, 18, 19, 20, 21, 23, 24, 25, 26, 27, 28, 29, 30, 31, 32, 33, 34, 35, 36, 37, 38, 39, 40, 22] rfl, hDn.sub [0, 1, 2, 3, 4, 5, 6, 7, 8, 9, 10, 11, 12, 13, 14, 15, 16, 17, 18, 19, 20, 21, 23, 24, 25, 26, 27, 28, 29, 30, 31, 32, 33, 34, 35, 36, 37, 38, 39, 40, 22] (by decide) rfl⟩
theorem lj_h (hP : va_P D vwCl (lW a b o cI cL cZ x w f) H) (hD : va_D A (lW a b o cI cL cZ x w f)) (hs : ∀ q, aA (hL a o) H.size q → A q) (hk : ∀ q : Nat, q < H.size → ¬ aA (hL a o) H.size q → H1[q]? = H[q]?) (hB : va_P D vwCl (hW a o cI cL cZ x.1 x.2 f') H1) :
    va_P D vwCl (lW a b o cI cL cZ x w f') H1 ∧ va_D A (lW a b o cI cL cZ x w f') := by
  have hDc : va_D A (hW a o cI cL cZ x.1 x.2 f) := hD.sub [0, 1, 2, 3, 4, 5, 6, 7, 8, 9, 10, 11, 12, 13, 14, 15, 16, 17, 18, 19, 20, 21, 40] (by decide) rfl
  obtain ⟨hPn, hDn⟩ := va_join (wc := hW a o cI cL cZ x.1 x.2 f) (wr := mW b cI cL cZ w.1 w.2) (w1 := hW a o cI cL cZ x.1 x.2 f') hP hD [0, 1, 2, 3, 4, 5, 6, 7, 8, 9, 10, 11, 12, 13, 14, 15, 16, 17, 18, 19, 20, 21, 40] [22, 23, 24, 25, 26, 27, 28, 29, 30, 31, 32, 33, 34, 35, 36, 37, 38, 39] rfl rfl (by decide) (by decide) (fun q h1 h2 => hk q h1 (fun z => h2 (va_aA (L := hL a o) rfl z))) (fun q h => hs q (aA_va (L := hL a o) rfl h)) hB ((aA_D (L := hL a o) (sz := H.size) rfl (D_congr (ws := hW a o cI cL cZ x.1 x.2 f) (ws' := hW a o cI cL cZ x.1 x.2 f') rfl hDc)).weaken (fun _ _ _ z => va_aA (ws := hW a o cI cL cZ x.1 x.2 f) (L := hL a o) rfl z))
  exact ⟨hPn.sub [18, 19, 20, 21, 22, 23, 24, 25, 26, 27, 28, 29, 30, 31, 32, 33, 34, 35, 36, 37, 38, 39, 0, 1, 2, 3, 4, 5, 6, 7, 8, 9, 10, 11, 12, 13, 14, 15, 16, 17, 40] rfl, hDn.sub [18, 19, 20, 21, 22, 23, 24, 25, 26, 27, 28, 29, 30, 31, 32, 33, 34, 35, 36, 37, 38, 39, 0, 1, 2, 3, 4, 5, 6, 7, 8, 9, 10, 11, 12, 13, 14, 15, 16, 17, 40] (by decide) rfl⟩
end LJ
section LC
variable {p : Program} {l : Launch} {e : Env} {R : Room} {s : State} {m : MethodId} {args : Array Value} {below : List Frame} {meth : Method} {c : Code} {H : Heap} {locs : List Loc} {cells slots : Nat} {Q : State → Prop}
variable {dC : Nat → ClassId} {dI : Nat → Nat → Nat} {A : Nat → Prop} {a b : Nat → Nat} {o : Nat} {cI cL cZ : ClassId} {x w x' w' : gSt} {f : Nat → Int64}
variable {y : MethodName} {bytes cc : ByteArray} {maxL nL n index : Nat} {ret : Option FieldType} {ws : List Cond} {rm : Room} {Ts : List Cond} {own : String} {As rest st0 : List Value} {pc : Nat} {ls : Array Slot}
theorem okR_cw {own C : String} (n : Nat) {Ts ws ws' : List Cond} {index maxL : Nat} {y : MethodName} {bytes : ByteArray} {ret : Option FieldType} {rm : Room} (ok : okR rm) (ht : ∀ w ∈ Ts, w.before args s = true) (hT : GoodIn Ts (wsV own index C y ws)) (hw : ws = Cond.code y bytes maxL ret :: ws')
    (hd : y.cls = C ∧ y.cls ≠ "java/lang/invoke/MethodHandle" ∧ y.cls ≠ "java/lang/invoke/VarHandle" ∧ (parseMethodDescriptor y.desc).map (fun d => d.parameters.length) = some n) (hm : maxL ≤ 6) : CallW room_1 s args own C index y bytes maxL ret ws rm 0 0 n :=
  cwV n ht hT hw ok.1 ok.2.1 hd ⟨Nat.le_trans (Nat.add_le_add_right ok.2.2.1 1) (by decide), Nat.le_trans (Nat.add_le_add (show 8 + (maxL + 11) ≤ 25 by omega) ok.2.2.2) (by decide)⟩
theorem lx_i {r : Int32} (S : CallFix p m c cc nL s args Ts own) (hM : MetI l y ws rm dC dI (gT cI cL cZ) (xF a cI cL cZ) (xL a) x (.ref (a 0) :: As) (fun q u => q = r ∧ u = x')) (cw : CallW R s args own RX3 index y bytes maxL ret ws rm 0 0 n) (hf : cells ≤ R.cells ∧ slots ≤ R.slots) (hK : va_K (dC, dI) vwCl (gT cI cL cZ) s) (hZ : gZ A s s.heap)
    (hP : va_P (dC, dI) vwCl (lW a b o cI cL cZ x w f) H) (hD : va_D A (lW a b o cI cL cZ x w f)) (hS : va_S A s.heap H locs) (hA : ∀ q, s.heap.size ≤ q → A q)
    (hn : As.length = n) (hsize : ls.size = nL) (hstack : st0 = As.reverse ++ .ref (a 0) :: rest) (hW : (rest.map fun v => v.category).sum ≤ 8) (hdg : decode cc pc = .ok (.invokevirtual index, 3))
    (kk : ∀ (H1 : Heap) (locs1 : List Loc), va_P (dC, dI) vwCl (lW a b o cI cL cZ x' w f) H1 → va_D A (lW a b o cI cL cZ x' w f) → va_S A s.heap H1 locs1 → W p l e R s m args below meth c H1 locs1 cells slots Q (F0 m (pc + 3) ls (.int r :: rest))) : W p l e R s m args below meth c H locs cells slots Q (F0 m pc ls st0) := by
  have hPc : va_P (dC, dI) vwCl (xW a cI cL cZ x.1 x.2) H := hP.sub [0, 1, 2, 3, 4, 5, 6, 7, 8, 9, 10, 11, 12, 13, 14, 15, 16, 17, 18, 19, 20, 21] rfl
  have hDc : va_D A (xW a cI cL cZ x.1 x.2) := hD.sub [0, 1, 2, 3, 4, 5, 6, 7, 8, 9, 10, 11, 12, 13, 14, 15, 16, 17, 18, 19, 20, 21] (by decide) rfl
  have hs := lA_sub (L := xL a) rfl hDc hS hA
  refine va_calli (va_runV (As := As) (rest := rest) (b := a 0) S (hM H.size) cw ⟨gPre.blind, va_recv hK hPc (ci := 3) (q0 := 0) rfl rfl, fun U hU hW => ⟨rfl, by rw [hU], by rw [hU]; exact hPc, va_K.moved hW.alike hK, hDc.weaken (fun _ _ _ _ => trivial), hZ.go hW (by rw [hU]; exact hS.2.1) hs⟩⟩ rfl hn hsize hstack (lv_room hW) hdg hf) hS (fun q _ h => hs q h) hs (fun q u t H1 locs1 ht hvm hw hB hz1 hk1 hS1 => ?_)
  obtain ⟨hw1, hw2⟩ := hw
  subst hw1
  subst hw2
  obtain ⟨hPn, hDn⟩ := lj_x hP hD hs hk1 (by rw [← ht]; exact hB)
  exact kk H1 locs1 hPn hDn hS1
theorem lx_v (S : CallFix p m c cc nL s args Ts own) (hM : MetV l y ws rm dC dI (gT cI cL cZ) (xF a cI cL cZ) (xL a) x (.ref (a 0) :: As) (fun u => u = x')) (cw : CallW R s args own RX3 index y bytes maxL ret ws rm 0 0 n) (hf : cells ≤ R.cells ∧ slots ≤ R.slots) (hK : va_K (dC, dI) vwCl (gT cI cL cZ) s) (hZ : gZ A s s.heap)
    (hP : va_P (dC, dI) vwCl (lW a b o cI cL cZ x w f) H) (hD : va_D A (lW a b o cI cL cZ x w f)) (hS : va_S A s.heap H locs) (hA : ∀ q, s.heap.size ≤ q → A q)
    (hn : As.length = n) (hsize : ls.size = nL) (hstack : st0 = As.reverse ++ .ref (a 0) :: rest) (hW : (rest.map fun v => v.category).sum ≤ 8) (hdg : decode cc pc = .ok (.invokevirtual index, 3))
    (kk : ∀ (H1 : Heap) (locs1 : List Loc), va_P (dC, dI) vwCl (lW a b o cI cL cZ x' w f) H1 → va_D A (lW a b o cI cL cZ x' w f) → va_S A s.heap H1 locs1 → W p l e R s m args below meth c H1 locs1 cells slots Q (F0 m (pc + 3) ls rest)) : W p l e R s m args below meth c H locs cells slots Q (F0 m pc ls st0) := by
  have hPc : va_P (dC, dI) vwCl (xW a cI cL cZ x.1 x.2) H := hP.sub [0, 1, 2, 3, 4, 5, 6, 7, 8, 9, 10, 11, 12, 13, 14, 15, 16, 17, 18, 19, 20, 21] rfl
  have hDc : va_D A (xW a cI cL cZ x.1 x.2) := hD.sub [0, 1, 2, 3, 4, 5, 6, 7, 8, 9, 10, 11, 12, 13, 14, 15, 16, 17, 18, 19, 20, 21] (by decide) rfl
  have hs := lA_sub (L := xL a) rfl hDc hS hA
  refine va_callv (va_runV (As := As) (rest := rest) (b := a 0) S (hM H.size) cw ⟨gPre.blind, va_recv hK hPc (ci := 3) (q0 := 0) rfl rfl, fun U hU hW => ⟨rfl, by rw [hU], by rw [hU]; exact hPc, va_K.moved hW.alike hK, hDc.weaken (fun _ _ _ _ => trivial), hZ.go hW (by rw [hU]; exact hS.2.1) hs⟩⟩ rfl hn hsize hstack (lv_room hW) hdg hf) hS (fun q _ h => hs q h) hs (fun u t H1 locs1 ht hvm hw hB hz1 hk1 hS1 => ?_)
  have hw : u = x' := hw
  subst hw
  obtain ⟨hPn, hDn⟩ := lj_x hP hD hs hk1 (by rw [← ht]; exact hB)
  exact kk H1 locs1 hPn hDn hS1
theorem lm_i {r : Int32} (S : CallFix p m c cc nL s args Ts own) (hM : MetI l y ws rm dC dI (gT cI cL cZ) (mF b cI cL cZ) (mL b) w (.ref (b 0) :: As) (fun q u => q = r ∧ u = w')) (cw : CallW R s args own RX4 index y bytes maxL ret ws rm 0 0 n) (hf : cells ≤ R.cells ∧ slots ≤ R.slots) (hK : va_K (dC, dI) vwCl (gT cI cL cZ) s) (hZ : gZ A s s.heap)
    (hP : va_P (dC, dI) vwCl (lW a b o cI cL cZ x w f) H) (hD : va_D A (lW a b o cI cL cZ x w f)) (hS : va_S A s.heap H locs) (hA : ∀ q, s.heap.size ≤ q → A q)
    (hn : As.length = n) (hsize : ls.size = nL) (hstack : st0 = As.reverse ++ .ref (b 0) :: rest) (hW : (rest.map fun v => v.category).sum ≤ 8) (hdg : decode cc pc = .ok (.invokevirtual index, 3))
    (kk : ∀ (H1 : Heap) (locs1 : List Loc), va_P (dC, dI) vwCl (lW a b o cI cL cZ x w' f) H1 → va_D A (lW a b o cI cL cZ x w' f) → va_S A s.heap H1 locs1 → W p l e R s m args below meth c H1 locs1 cells slots Q (F0 m (pc + 3) ls (.int r :: rest))) : W p l e R s m args below meth c H locs cells slots Q (F0 m pc ls st0) := by
  have hPc : va_P (dC, dI) vwCl (mW b cI cL cZ w.1 w.2) H := hP.sub [22, 23, 24, 25, 26, 27, 28, 29, 30, 31, 32, 33, 34, 35, 36, 37, 38, 39] rfl
  have hDc : va_D A (mW b cI cL cZ w.1 w.2) := hD.sub [22, 23, 24, 25, 26, 27, 28, 29, 30, 31, 32, 33, 34, 35, 36, 37, 38, 39] (by decide) rfl
  have hs := lA_sub (L := mL b) rfl hDc hS hA
  refine va_calli (va_runV (As := As) (rest := rest) (b := b 0) S (hM H.size) cw ⟨gPre.blind, va_recv hK hPc (ci := 4) (q0 := 0) rfl rfl, fun U hU hW => ⟨rfl, by rw [hU], by rw [hU]; exact hPc, va_K.moved hW.alike hK, hDc.weaken (fun _ _ _ _ => trivial), hZ.go hW (by rw [hU]; exact hS.2.1) hs⟩⟩ rfl hn hsize hstack (lv_room hW) hdg hf) hS (fun q _ h => hs q h) hs (fun q u t H1 locs1 ht hvm hw hB hz1 hk1 hS1 => ?_)
  obtain ⟨hw1, hw2⟩ := hw
  subst hw1
  subst hw2
  obtain ⟨hPn, hDn⟩ := lj_m hP hD hs hk1 (by rw [← ht]; exact hB)
  exact kk H1 locs1 hPn hDn hS1
theorem lm_l {r : Int64} (S : CallFix p m c cc nL s args Ts own) (hM : MetL l y ws rm dC dI (gT cI cL cZ) (mF b cI cL cZ) (mL b) w (.ref (b 0) :: As) (fun q u => q = r ∧ u = w')) (cw : CallW R s args own RX4 index y bytes maxL ret ws rm 0 0 n) (hf : cells ≤ R.cells ∧ slots ≤ R.slots) (hK : va_K (dC, dI) vwCl (gT cI cL cZ) s) (hZ : gZ A s s.heap)
    (hP : va_P (dC, dI) vwCl (lW a b o cI cL cZ x w f) H) (hD : va_D A (lW a b o cI cL cZ x w f)) (hS : va_S A s.heap H locs) (hA : ∀ q, s.heap.size ≤ q → A q)
    (hn : As.length = n) (hsize : ls.size = nL) (hstack : st0 = As.reverse ++ .ref (b 0) :: rest) (hW : (rest.map fun v => v.category).sum ≤ 8) (hdg : decode cc pc = .ok (.invokevirtual index, 3))
    (kk : ∀ (H1 : Heap) (locs1 : List Loc), va_P (dC, dI) vwCl (lW a b o cI cL cZ x w' f) H1 → va_D A (lW a b o cI cL cZ x w' f) → va_S A s.heap H1 locs1 → W p l e R s m args below meth c H1 locs1 cells slots Q (F0 m (pc + 3) ls (.long r :: rest))) : W p l e R s m args below meth c H locs cells slots Q (F0 m pc ls st0) := by
  have hPc : va_P (dC, dI) vwCl (mW b cI cL cZ w.1 w.2) H := hP.sub [22, 23, 24, 25, 26, 27, 28, 29, 30, 31, 32, 33, 34, 35, 36, 37, 38, 39] rfl
  have hDc : va_D A (mW b cI cL cZ w.1 w.2) := hD.sub [22, 23, 24, 25, 26, 27, 28, 29, 30, 31, 32, 33, 34, 35, 36, 37, 38, 39] (by decide) rfl
  have hs := lA_sub (L := mL b) rfl hDc hS hA
  refine va_calll (va_runV (As := As) (rest := rest) (b := b 0) S (hM H.size) cw ⟨gPre.blind, va_recv hK hPc (ci := 4) (q0 := 0) rfl rfl, fun U hU hW => ⟨rfl, by rw [hU], by rw [hU]; exact hPc, va_K.moved hW.alike hK, hDc.weaken (fun _ _ _ _ => trivial), hZ.go hW (by rw [hU]; exact hS.2.1) hs⟩⟩ rfl hn hsize hstack (lv_room hW) hdg hf) hS (fun q _ h => hs q h) hs (fun q u t H1 locs1 ht hvm hw hB hz1 hk1 hS1 => ?_)
  obtain ⟨hw1, hw2⟩ := hw
  subst hw1
  subst hw2
  obtain ⟨hPn, hDn⟩ := lj_m hP hD hs hk1 (by rw [← ht]; exact hB)
  exact kk H1 locs1 hPn hDn hS1
theorem lm_v (S : CallFix p m c cc nL s args Ts own) (hM : MetV l y ws rm dC dI (gT cI cL cZ) (mF b cI cL cZ) (mL b) w (.ref (b 0) :: As) (fun u => u = w')) (cw : CallW R s args own RX4 index y bytes maxL ret ws rm 0 0 n) (hf : cells ≤ R.cells ∧ slots ≤ R.slots) (hK : va_K (dC, dI) vwCl (gT cI cL cZ) s) (hZ : gZ A s s.heap)
    (hP : va_P (dC, dI) vwCl (lW a b o cI cL cZ x w f) H) (hD : va_D A (lW a b o cI cL cZ x w f)) (hS : va_S A s.heap H locs) (hA : ∀ q, s.heap.size ≤ q → A q)
    (hn : As.length = n) (hsize : ls.size = nL) (hstack : st0 = As.reverse ++ .ref (b 0) :: rest) (hW : (rest.map fun v => v.category).sum ≤ 8) (hdg : decode cc pc = .ok (.invokevirtual index, 3))
    (kk : ∀ (H1 : Heap) (locs1 : List Loc), va_P (dC, dI) vwCl (lW a b o cI cL cZ x w' f) H1 → va_D A (lW a b o cI cL cZ x w' f) → va_S A s.heap H1 locs1 → W p l e R s m args below meth c H1 locs1 cells slots Q (F0 m (pc + 3) ls rest)) : W p l e R s m args below meth c H locs cells slots Q (F0 m pc ls st0) := by
  have hPc : va_P (dC, dI) vwCl (mW b cI cL cZ w.1 w.2) H := hP.sub [22, 23, 24, 25, 26, 27, 28, 29, 30, 31, 32, 33, 34, 35, 36, 37, 38, 39] rfl
  have hDc : va_D A (mW b cI cL cZ w.1 w.2) := hD.sub [22, 23, 24, 25, 26, 27, 28, 29, 30, 31, 32, 33, 34, 35, 36, 37, 38, 39] (by decide) rfl
  have hs := lA_sub (L := mL b) rfl hDc hS hA
  refine va_callv (va_runV (As := As) (rest := rest) (b := b 0) S (hM H.size) cw ⟨gPre.blind, va_recv hK hPc (ci := 4) (q0 := 0) rfl rfl, fun U hU hW => ⟨rfl, by rw [hU], by rw [hU]; exact hPc, va_K.moved hW.alike hK, hDc.weaken (fun _ _ _ _ => trivial), hZ.go hW (by rw [hU]; exact hS.2.1) hs⟩⟩ rfl hn hsize hstack (lv_room hW) hdg hf) hS (fun q _ h => hs q h) hs (fun u t H1 locs1 ht hvm hw hB hz1 hk1 hS1 => ?_)
  have hw : u = w' := hw
  subst hw
  obtain ⟨hPn, hDn⟩ := lj_m hP hD hs hk1 (by rw [← ht]; exact hB)
  exact kk H1 locs1 hPn hDn hS1
theorem lh_i {k : Nat} {v : Int64} {hh : List (Nat × Nat × Nat × Nat)} (S : CallFix p m c cc nL s args Ts own) (hM : MetH l y ws dC dI a o cI cL cZ x.1 x.2 f As (fun (r : Int32) (g : Nat → Int64) => r = nI k ∧ (k = 0 → g 0 = v))) (cw : vx_CSW R s args own index y bytes maxL ret hh ws ({ frames := 7, cells := 1, slots := 6, locals := 120 } : Room) 1 6 n) (hf : cells + 1 ≤ R.cells ∧ slots + 6 ≤ R.slots) (hK : va_K (dC, dI) vwCl (gT cI cL cZ) s) (hZ : gZ A s s.heap) (hX : gX A s s.heap)
    (hP : va_P (dC, dI) vwCl (lW a b o cI cL cZ x w f) H) (hD : va_D A (lW a b o cI cL cZ x w f)) (hS : va_S A s.heap H locs) (hA : ∀ q, s.heap.size ≤ q → A q)
    (hn : As.length = n) (hsize : ls.size = nL) (hstack : st0 = As.reverse ++ rest) (hRr : (rest.map fun v => v.category).sum ≤ 8) (hdg : decode cc pc = .ok (.invokestatic index, 3))
    (kk : ∀ (g : Nat → Int64) (H1 : Heap) (locs1 : List Loc), (k = 0 → g 0 = v) → va_P (dC, dI) vwCl (lW a b o cI cL cZ x w g) H1 → va_D A (lW a b o cI cL cZ x w g) → va_S A s.heap H1 locs1 → W p l e R s m args below meth c H1 locs1 (cells + 1) (slots + 6) Q (F0 m (pc + 3) ls (.int (nI k) :: rest))) : W p l e R s m args below meth c H locs cells slots Q (F0 m pc ls st0) := by
  have hPc : va_P (dC, dI) vwCl (hW a o cI cL cZ x.1 x.2 f) H := hP.sub [0, 1, 2, 3, 4, 5, 6, 7, 8, 9, 10, 11, 12, 13, 14, 15, 16, 17, 18, 19, 20, 21, 40] rfl
  have hDc : va_D A (hW a o cI cL cZ x.1 x.2 f) := hD.sub [0, 1, 2, 3, 4, 5, 6, 7, 8, 9, 10, 11, 12, 13, 14, 15, 16, 17, 18, 19, 20, 21, 40] (by decide) rfl
  have hs := lA_sub (L := hL a o) rfl hDc hS hA
  refine va_calli (vx_runSW (As := As) (rest := rest) S (hM H.size) cw ⟨gPreX.blind, fun U hU hW => ⟨rfl, ⟨by rw [hU], by rw [hU]; exact hPc, va_K.moved hW.alike hK, hDc.weaken (fun _ _ _ _ => trivial), hZ.go hW (by rw [hU]; exact hS.2.1) hs⟩, hX.go hW (by rw [hU]; exact hS.2.1) hs⟩⟩ rfl hn hsize hstack (lv_room hRr) hdg hf) hS (fun q _ h => hs q h) hs (fun q g t H1 locs1 ht hvm hw hB hz1 hk1 hS1 => ?_)
  obtain ⟨hw1, hw2⟩ := hw
  subst hw1
  obtain ⟨hPn, hDn⟩ := lj_h hP hD hs hk1 (by rw [← ht]; exact hB)
  exact kk g H1 locs1 hw2 hPn hDn hS1
end LC
