def sW (a : Nat → Nat) (cI cL cZ : ClassId) (N : Nat → Nat → Nat) (J : Nat → Nat → Int64) : va_W := [
  (a 1, .inr (2, [.ref (a 4), .ref (a 5), .ref (a 6), .ref (a 7), .ref (a 8), .ref (a 9), .ref (a 10), .ref (a 11), .int (nI (N 8 0))])),
  (a 4, .inl (cI, 256, .inl (fun j => nI (N 0 j)))),
  (a 5, .inl (cI, 256, .inl (fun j => nI (N 1 j)))),
  (a 6, .inl (cI, 256, .inl (fun j => nI (N 2 j)))),
  (a 7, .inl (cI, 256, .inl (fun j => nI (N 3 j)))),
  (a 8, .inl (cI, 6, .inl (fun j => nI (N 4 j)))),
  (a 9, .inl (cI, 6, .inl (fun j => nI (N 5 j)))),
  (a 10, .inl (cL, 16, .inr (.inl (fun j => J 6 j)))),
  (a 11, .inl (cL, 256, .inr (.inl (fun j => J 7 j))))]
def sL (a : Nat → Nat) : List Nat := [a 1, a 4, a 5, a 6, a 7, a 8, a 9, a 10, a 11]
section VS
variable {p : Program} {l : Launch} {e : Env} {R : Room} {s : State} {m : MethodId} {args : Array Value} {below : List Frame} {meth : Method} {c : Code} {H : Heap} {locs : List Loc} {cells slots : Nat} {Q : State → Prop}
variable {cc : ByteArray} {pc : Nat} {ls : Array Slot} {rest : List Value}
variable {dC : Nat → ClassId} {dI : Nat → Nat → Nat} {a : Nat → Nat} {cI cL cZ : ClassId} {N : Nat → Nat → Nat} {J : Nat → Nat → Int64} {A : Nat → Prop} {H0 : Heap}
theorem sg_0 (hx : p.tables.exec = Jvm.exec) (hb : c.code = cc) {own : String} {index : Nat} {Ts : List Cond} (hts : ∀ w ∈ Ts, w.before args s = true) (hin : ∀ w ∈ wsX20, w ∈ Ts) (hown : s.vm.findClass own = some m.cls) (hK : va_K (dC, dI) vwCl (gT cI cL cZ) s) (hP : va_P (dC, dI) vwCl (sW a cI cL cZ N J) H) (hlink : (Cond.fieldLink own index "ScoreMachine$Setup" "codes" "[I").before args s = true) (hdg : decode cc pc = .ok (.getfield index, 3)) (kk : W p l e R s m args below meth c H locs cells slots Q (F0 m (pc + 3) ls (.ref (a 4) :: rest))) : W p l e R s m args below meth c H locs cells slots Q (F0 m (pc) ls (.ref (a 1) :: rest)) :=
  va_get (D := (dC, dI)) (ci := 2) (C := RX2) (T := TX2) (N := 9) (v := .ref (a 4)) hx hb hts hin hown hK hP 0 rfl rfl 0 (by decide) hlink (fun _ h9 => h9) rfl hdg kk
theorem sl_0 (hx : p.tables.exec = Jvm.exec) (hb : c.code = cc) (hK : va_K (dC, dI) vwCl (gT cI cL cZ) s) (hP : va_P (dC, dI) vwCl (sW a cI cL cZ N J) H) {i : Nat} (hi : i < 256) {v : Nat} (hv : N 0 i = v) (hdg : decode cc pc = .ok (.iaload, 1)) (kk : W p l e R s m args below meth c H locs cells slots Q (F0 m (pc + 1) ls (.int (nI v) :: rest))) : W p l e R s m args below meth c H locs cells slots Q (F0 m (pc) ls (.int (nI i) :: .ref (a 4) :: rest)) := by
  subst hv
  exact va_iald hx hb hK hP 1 0 rfl rfl (vp_in_nI hi (by decide)) hdg (by rw [nI_clamp (by omega)]; exact kk)
theorem ss_0 (hx : p.tables.exec = Jvm.exec) (hb : c.code = cc) (hK : va_K (dC, dI) vwCl (gT cI cL cZ) s) (hP : va_P (dC, dI) vwCl (sW a cI cL cZ N J) H) (hD : va_D A (sW a cI cL cZ N J)) (hS : va_S A H0 H locs) {i : Nat} {v : Nat} (hi : i < 256) (hdg : decode cc pc = .ok (.iastore, 1)) (kk : ∀ (H1 : Heap) (locs1 : List Loc), va_P (dC, dI) vwCl (sW a cI cL cZ (uN N 0 i v) J) H1 → va_D A (sW a cI cL cZ (uN N 0 i v) J) → va_S A H0 H1 locs1 → W p l e R s m args below meth c H1 locs1 cells slots Q (F0 m (pc + 1) ls rest)) : W p l e R s m args below meth c H locs cells slots Q (F0 m (pc) ls (.int (nI v) :: .int (nI i) :: .ref (a 4) :: rest)) := by
  have e1 : (sW a cI cL cZ N J).set 1 (a 4, .inl (cI, 256, .inl (upd (fun j => nI (N 0 j)) i (nI v)))) = sW a cI cL cZ (uN N 0 i v) J := by rw [← uN_f N 0 i v]; rfl
  rw [← e1] at kk
  exact va_iast hx hb hK hP hD hS 1 0 rfl rfl (vp_in_nI hi (by decide)) hdg (by rw [nI_clamp (by omega)]; exact kk)
theorem sg_1 (hx : p.tables.exec = Jvm.exec) (hb : c.code = cc) {own : String} {index : Nat} {Ts : List Cond} (hts : ∀ w ∈ Ts, w.before args s = true) (hin : ∀ w ∈ wsX20, w ∈ Ts) (hown : s.vm.findClass own = some m.cls) (hK : va_K (dC, dI) vwCl (gT cI cL cZ) s) (hP : va_P (dC, dI) vwCl (sW a cI cL cZ N J) H) (hlink : (Cond.fieldLink own index "ScoreMachine$Setup" "ds" "[I").before args s = true) (hdg : decode cc pc = .ok (.getfield index, 3)) (kk : W p l e R s m args below meth c H locs cells slots Q (F0 m (pc + 3) ls (.ref (a 5) :: rest))) : W p l e R s m args below meth c H locs cells slots Q (F0 m (pc) ls (.ref (a 1) :: rest)) :=
  va_get (D := (dC, dI)) (ci := 2) (C := RX2) (T := TX2) (N := 9) (v := .ref (a 5)) hx hb hts hin hown hK hP 0 rfl rfl 1 (by decide) hlink (fun _ h9 => h9) rfl hdg kk
theorem sl_1 (hx : p.tables.exec = Jvm.exec) (hb : c.code = cc) (hK : va_K (dC, dI) vwCl (gT cI cL cZ) s) (hP : va_P (dC, dI) vwCl (sW a cI cL cZ N J) H) {i : Nat} (hi : i < 256) {v : Nat} (hv : N 1 i = v) (hdg : decode cc pc = .ok (.iaload, 1)) (kk : W p l e R s m args below meth c H locs cells slots Q (F0 m (pc + 1) ls (.int (nI v) :: rest))) : W p l e R s m args below meth c H locs cells slots Q (F0 m (pc) ls (.int (nI i) :: .ref (a 5) :: rest)) := by
  subst hv
  exact va_iald hx hb hK hP 2 0 rfl rfl (vp_in_nI hi (by decide)) hdg (by rw [nI_clamp (by omega)]; exact kk)
theorem ss_1 (hx : p.tables.exec = Jvm.exec) (hb : c.code = cc) (hK : va_K (dC, dI) vwCl (gT cI cL cZ) s) (hP : va_P (dC, dI) vwCl (sW a cI cL cZ N J) H) (hD : va_D A (sW a cI cL cZ N J)) (hS : va_S A H0 H locs) {i : Nat} {v : Nat} (hi : i < 256) (hdg : decode cc pc = .ok (.iastore, 1)) (kk : ∀ (H1 : Heap) (locs1 : List Loc), va_P (dC, dI) vwCl (sW a cI cL cZ (uN N 1 i v) J) H1 → va_D A (sW a cI cL cZ (uN N 1 i v) J) → va_S A H0 H1 locs1 → W p l e R s m args below meth c H1 locs1 cells slots Q (F0 m (pc + 1) ls rest)) : W p l e R s m args below meth c H locs cells slots Q (F0 m (pc) ls (.int (nI v) :: .int (nI i) :: .ref (a 5) :: rest)) := by
  have e1 : (sW a cI cL cZ N J).set 2 (a 5, .inl (cI, 256, .inl (upd (fun j => nI (N 1 j)) i (nI v)))) = sW a cI cL cZ (uN N 1 i v) J := by rw [← uN_f N 1 i v]; rfl
  rw [← e1] at kk
  exact va_iast hx hb hK hP hD hS 2 0 rfl rfl (vp_in_nI hi (by decide)) hdg (by rw [nI_clamp (by omega)]; exact kk)
theorem sg_2 (hx : p.tables.exec = Jvm.exec) (hb : c.code = cc) {own : String} {index : Nat} {Ts : List Cond} (hts : ∀ w ∈ Ts, w.before args s = true) (hin : ∀ w ∈ wsX20, w ∈ Ts) (hown : s.vm.findClass own = some m.cls) (hK : va_K (dC, dI) vwCl (gT cI cL cZ) s) (hP : va_P (dC, dI) vwCl (sW a cI cL cZ N J) H) (hlink : (Cond.fieldLink own index "ScoreMachine$Setup" "as" "[I").before args s = true) (hdg : decode cc pc = .ok (.getfield index, 3)) (kk : W p l e R s m args below meth c H locs cells slots Q (F0 m (pc + 3) ls (.ref (a 6) :: rest))) : W p l e R s m args below meth c H locs cells slots Q (F0 m (pc) ls (.ref (a 1) :: rest)) :=
  va_get (D := (dC, dI)) (ci := 2) (C := RX2) (T := TX2) (N := 9) (v := .ref (a 6)) hx hb hts hin hown hK hP 0 rfl rfl 2 (by decide) hlink (fun _ h9 => h9) rfl hdg kk
theorem sl_2 (hx : p.tables.exec = Jvm.exec) (hb : c.code = cc) (hK : va_K (dC, dI) vwCl (gT cI cL cZ) s) (hP : va_P (dC, dI) vwCl (sW a cI cL cZ N J) H) {i : Nat} (hi : i < 256) {v : Nat} (hv : N 2 i = v) (hdg : decode cc pc = .ok (.iaload, 1)) (kk : W p l e R s m args below meth c H locs cells slots Q (F0 m (pc + 1) ls (.int (nI v) :: rest))) : W p l e R s m args below meth c H locs cells slots Q (F0 m (pc) ls (.int (nI i) :: .ref (a 6) :: rest)) := by
  subst hv
  exact va_iald hx hb hK hP 3 0 rfl rfl (vp_in_nI hi (by decide)) hdg (by rw [nI_clamp (by omega)]; exact kk)
theorem ss_2 (hx : p.tables.exec = Jvm.exec) (hb : c.code = cc) (hK : va_K (dC, dI) vwCl (gT cI cL cZ) s) (hP : va_P (dC, dI) vwCl (sW a cI cL cZ N J) H) (hD : va_D A (sW a cI cL cZ N J)) (hS : va_S A H0 H locs) {i : Nat} {v : Nat} (hi : i < 256) (hdg : decode cc pc = .ok (.iastore, 1)) (kk : ∀ (H1 : Heap) (locs1 : List Loc), va_P (dC, dI) vwCl (sW a cI cL cZ (uN N 2 i v) J) H1 → va_D A (sW a cI cL cZ (uN N 2 i v) J) → va_S A H0 H1 locs1 → W p l e R s m args below meth c H1 locs1 cells slots Q (F0 m (pc + 1) ls rest)) : W p l e R s m args below meth c H locs cells slots Q (F0 m (pc) ls (.int (nI v) :: .int (nI i) :: .ref (a 6) :: rest)) := by
  have e1 : (sW a cI cL cZ N J).set 3 (a 6, .inl (cI, 256, .inl (upd (fun j => nI (N 2 j)) i (nI v)))) = sW a cI cL cZ (uN N 2 i v) J := by rw [← uN_f N 2 i v]; rfl
  rw [← e1] at kk
  exact va_iast hx hb hK hP hD hS 3 0 rfl rfl (vp_in_nI hi (by decide)) hdg (by rw [nI_clamp (by omega)]; exact kk)
theorem sg_3 (hx : p.tables.exec = Jvm.exec) (hb : c.code = cc) {own : String} {index : Nat} {Ts : List Cond} (hts : ∀ w ∈ Ts, w.before args s = true) (hin : ∀ w ∈ wsX20, w ∈ Ts) (hown : s.vm.findClass own = some m.cls) (hK : va_K (dC, dI) vwCl (gT cI cL cZ) s) (hP : va_P (dC, dI) vwCl (sW a cI cL cZ N J) H) (hlink : (Cond.fieldLink own index "ScoreMachine$Setup" "bs" "[I").before args s = true) (hdg : decode cc pc = .ok (.getfield index, 3)) (kk : W p l e R s m args below meth c H locs cells slots Q (F0 m (pc + 3) ls (.ref (a 7) :: rest))) : W p l e R s m args below meth c H locs cells slots Q (F0 m (pc) ls (.ref (a 1) :: rest)) :=
  va_get (D := (dC, dI)) (ci := 2) (C := RX2) (T := TX2) (N := 9) (v := .ref (a 7)) hx hb hts hin hown hK hP 0 rfl rfl 3 (by decide) hlink (fun _ h9 => h9) rfl hdg kk
theorem sl_3 (hx : p.tables.exec = Jvm.exec) (hb : c.code = cc) (hK : va_K (dC, dI) vwCl (gT cI cL cZ) s) (hP : va_P (dC, dI) vwCl (sW a cI cL cZ N J) H) {i : Nat} (hi : i < 256) {v : Nat} (hv : N 3 i = v) (hdg : decode cc pc = .ok (.iaload, 1)) (kk : W p l e R s m args below meth c H locs cells slots Q (F0 m (pc + 1) ls (.int (nI v) :: rest))) : W p l e R s m args below meth c H locs cells slots Q (F0 m (pc) ls (.int (nI i) :: .ref (a 7) :: rest)) := by
  subst hv
  exact va_iald hx hb hK hP 4 0 rfl rfl (vp_in_nI hi (by decide)) hdg (by rw [nI_clamp (by omega)]; exact kk)
theorem ss_3 (hx : p.tables.exec = Jvm.exec) (hb : c.code = cc) (hK : va_K (dC, dI) vwCl (gT cI cL cZ) s) (hP : va_P (dC, dI) vwCl (sW a cI cL cZ N J) H) (hD : va_D A (sW a cI cL cZ N J)) (hS : va_S A H0 H locs) {i : Nat} {v : Nat} (hi : i < 256) (hdg : decode cc pc = .ok (.iastore, 1)) (kk : ∀ (H1 : Heap) (locs1 : List Loc), va_P (dC, dI) vwCl (sW a cI cL cZ (uN N 3 i v) J) H1 → va_D A (sW a cI cL cZ (uN N 3 i v) J) → va_S A H0 H1 locs1 → W p l e R s m args below meth c H1 locs1 cells slots Q (F0 m (pc + 1) ls rest)) : W p l e R s m args below meth c H locs cells slots Q (F0 m (pc) ls (.int (nI v) :: .int (nI i) :: .ref (a 7) :: rest)) := by
  have e1 : (sW a cI cL cZ N J).set 4 (a 7, .inl (cI, 256, .inl (upd (fun j => nI (N 3 j)) i (nI v)))) = sW a cI cL cZ (uN N 3 i v) J := by rw [← uN_f N 3 i v]; rfl
  rw [← e1] at kk
  exact va_iast hx hb hK hP hD hS 4 0 rfl rfl (vp_in_nI hi (by decide)) hdg (by rw [nI_clamp (by omega)]; exact kk)
theorem sg_4 (hx : p.tables.exec = Jvm.exec) (hb : c.code = cc) {own : String} {index : Nat} {Ts : List Cond} (hts : ∀ w ∈ Ts, w.before args s = true) (hin : ∀ w ∈ wsX20, w ∈ Ts) (hown : s.vm.findClass own = some m.cls) (hK : va_K (dC, dI) vwCl (gT cI cL cZ) s) (hP : va_P (dC, dI) vwCl (sW a cI cL cZ N J) H) (hlink : (Cond.fieldLink own index "ScoreMachine$Setup" "unitsOf" "[I").before args s = true) (hdg : decode cc pc = .ok (.getfield index, 3)) (kk : W p l e R s m args below meth c H locs cells slots Q (F0 m (pc + 3) ls (.ref (a 8) :: rest))) : W p l e R s m args below meth c H locs cells slots Q (F0 m (pc) ls (.ref (a 1) :: rest)) :=
  va_get (D := (dC, dI)) (ci := 2) (C := RX2) (T := TX2) (N := 9) (v := .ref (a 8)) hx hb hts hin hown hK hP 0 rfl rfl 4 (by decide) hlink (fun _ h9 => h9) rfl hdg kk
theorem sl_4 (hx : p.tables.exec = Jvm.exec) (hb : c.code = cc) (hK : va_K (dC, dI) vwCl (gT cI cL cZ) s) (hP : va_P (dC, dI) vwCl (sW a cI cL cZ N J) H) {i : Nat} (hi : i < 6) {v : Nat} (hv : N 4 i = v) (hdg : decode cc pc = .ok (.iaload, 1)) (kk : W p l e R s m args below meth c H locs cells slots Q (F0 m (pc + 1) ls (.int (nI v) :: rest))) : W p l e R s m args below meth c H locs cells slots Q (F0 m (pc) ls (.int (nI i) :: .ref (a 8) :: rest)) := by
  subst hv
  exact va_iald hx hb hK hP 5 0 rfl rfl (vp_in_nI hi (by decide)) hdg (by rw [nI_clamp (by omega)]; exact kk)
theorem ss_4 (hx : p.tables.exec = Jvm.exec) (hb : c.code = cc) (hK : va_K (dC, dI) vwCl (gT cI cL cZ) s) (hP : va_P (dC, dI) vwCl (sW a cI cL cZ N J) H) (hD : va_D A (sW a cI cL cZ N J)) (hS : va_S A H0 H locs) {i : Nat} {v : Nat} (hi : i < 6) (hdg : decode cc pc = .ok (.iastore, 1)) (kk : ∀ (H1 : Heap) (locs1 : List Loc), va_P (dC, dI) vwCl (sW a cI cL cZ (uN N 4 i v) J) H1 → va_D A (sW a cI cL cZ (uN N 4 i v) J) → va_S A H0 H1 locs1 → W p l e R s m args below meth c H1 locs1 cells slots Q (F0 m (pc + 1) ls rest)) : W p l e R s m args below meth c H locs cells slots Q (F0 m (pc) ls (.int (nI v) :: .int (nI i) :: .ref (a 8) :: rest)) := by
  have e1 : (sW a cI cL cZ N J).set 5 (a 8, .inl (cI, 6, .inl (upd (fun j => nI (N 4 j)) i (nI v)))) = sW a cI cL cZ (uN N 4 i v) J := by rw [← uN_f N 4 i v]; rfl
  rw [← e1] at kk
  exact va_iast hx hb hK hP hD hS 5 0 rfl rfl (vp_in_nI hi (by decide)) hdg (by rw [nI_clamp (by omega)]; exact kk)
theorem sg_5 (hx : p.tables.exec = Jvm.exec) (hb : c.code = cc) {own : String} {index : Nat} {Ts : List Cond} (hts : ∀ w ∈ Ts, w.before args s = true) (hin : ∀ w ∈ wsX20, w ∈ Ts) (hown : s.vm.findClass own = some m.cls) (hK : va_K (dC, dI) vwCl (gT cI cL cZ) s) (hP : va_P (dC, dI) vwCl (sW a cI cL cZ N J) H) (hlink : (Cond.fieldLink own index "ScoreMachine$Setup" "latencies" "[I").before args s = true) (hdg : decode cc pc = .ok (.getfield index, 3)) (kk : W p l e R s m args below meth c H locs cells slots Q (F0 m (pc + 3) ls (.ref (a 9) :: rest))) : W p l e R s m args below meth c H locs cells slots Q (F0 m (pc) ls (.ref (a 1) :: rest)) :=
  va_get (D := (dC, dI)) (ci := 2) (C := RX2) (T := TX2) (N := 9) (v := .ref (a 9)) hx hb hts hin hown hK hP 0 rfl rfl 5 (by decide) hlink (fun _ h9 => h9) rfl hdg kk
theorem sl_5 (hx : p.tables.exec = Jvm.exec) (hb : c.code = cc) (hK : va_K (dC, dI) vwCl (gT cI cL cZ) s) (hP : va_P (dC, dI) vwCl (sW a cI cL cZ N J) H) {i : Nat} (hi : i < 6) {v : Nat} (hv : N 5 i = v) (hdg : decode cc pc = .ok (.iaload, 1)) (kk : W p l e R s m args below meth c H locs cells slots Q (F0 m (pc + 1) ls (.int (nI v) :: rest))) : W p l e R s m args below meth c H locs cells slots Q (F0 m (pc) ls (.int (nI i) :: .ref (a 9) :: rest)) := by
  subst hv
  exact va_iald hx hb hK hP 6 0 rfl rfl (vp_in_nI hi (by decide)) hdg (by rw [nI_clamp (by omega)]; exact kk)
theorem ss_5 (hx : p.tables.exec = Jvm.exec) (hb : c.code = cc) (hK : va_K (dC, dI) vwCl (gT cI cL cZ) s) (hP : va_P (dC, dI) vwCl (sW a cI cL cZ N J) H) (hD : va_D A (sW a cI cL cZ N J)) (hS : va_S A H0 H locs) {i : Nat} {v : Nat} (hi : i < 6) (hdg : decode cc pc = .ok (.iastore, 1)) (kk : ∀ (H1 : Heap) (locs1 : List Loc), va_P (dC, dI) vwCl (sW a cI cL cZ (uN N 5 i v) J) H1 → va_D A (sW a cI cL cZ (uN N 5 i v) J) → va_S A H0 H1 locs1 → W p l e R s m args below meth c H1 locs1 cells slots Q (F0 m (pc + 1) ls rest)) : W p l e R s m args below meth c H locs cells slots Q (F0 m (pc) ls (.int (nI v) :: .int (nI i) :: .ref (a 9) :: rest)) := by
  have e1 : (sW a cI cL cZ N J).set 6 (a 9, .inl (cI, 6, .inl (upd (fun j => nI (N 5 j)) i (nI v)))) = sW a cI cL cZ (uN N 5 i v) J := by rw [← uN_f N 5 i v]; rfl
  rw [← e1] at kk
  exact va_iast hx hb hK hP hD hS 6 0 rfl rfl (vp_in_nI hi (by decide)) hdg (by rw [nI_clamp (by omega)]; exact kk)
theorem sg_6 (hx : p.tables.exec = Jvm.exec) (hb : c.code = cc) {own : String} {index : Nat} {Ts : List Cond} (hts : ∀ w ∈ Ts, w.before args s = true) (hin : ∀ w ∈ wsX20, w ∈ Ts) (hown : s.vm.findClass own = some m.cls) (hK : va_K (dC, dI) vwCl (gT cI cL cZ) s) (hP : va_P (dC, dI) vwCl (sW a cI cL cZ N J) H) (hlink : (Cond.fieldLink own index "ScoreMachine$Setup" "registers" "[J").before args s = true) (hdg : decode cc pc = .ok (.getfield index, 3)) (kk : W p l e R s m args below meth c H locs cells slots Q (F0 m (pc + 3) ls (.ref (a 10) :: rest))) : W p l e R s m args below meth c H locs cells slots Q (F0 m (pc) ls (.ref (a 1) :: rest)) :=
  va_get (D := (dC, dI)) (ci := 2) (C := RX2) (T := TX2) (N := 9) (v := .ref (a 10)) hx hb hts hin hown hK hP 0 rfl rfl 6 (by decide) hlink (fun _ h9 => h9) rfl hdg kk
theorem sl_6 (hx : p.tables.exec = Jvm.exec) (hb : c.code = cc) (hK : va_K (dC, dI) vwCl (gT cI cL cZ) s) (hP : va_P (dC, dI) vwCl (sW a cI cL cZ N J) H) {i : Nat} (hi : i < 16) {v : Int64} (hv : J 6 i = v) (hdg : decode cc pc = .ok (.laload, 1)) (kk : W p l e R s m args below meth c H locs cells slots Q (F0 m (pc + 1) ls (.long v :: rest))) : W p l e R s m args below meth c H locs cells slots Q (F0 m (pc) ls (.int (nI i) :: .ref (a 10) :: rest)) := by
  subst hv
  exact va_lald hx hb hK hP 7 1 rfl rfl (vp_in_nI hi (by decide)) hdg (by rw [nI_clamp (by omega)]; exact kk)
theorem ss_6 (hx : p.tables.exec = Jvm.exec) (hb : c.code = cc) (hK : va_K (dC, dI) vwCl (gT cI cL cZ) s) (hP : va_P (dC, dI) vwCl (sW a cI cL cZ N J) H) (hD : va_D A (sW a cI cL cZ N J)) (hS : va_S A H0 H locs) {i : Nat} {v : Int64} (hi : i < 16) (hdg : decode cc pc = .ok (.lastore, 1)) (kk : ∀ (H1 : Heap) (locs1 : List Loc), va_P (dC, dI) vwCl (sW a cI cL cZ N (uJ J 6 i v)) H1 → va_D A (sW a cI cL cZ N (uJ J 6 i v)) → va_S A H0 H1 locs1 → W p l e R s m args below meth c H1 locs1 cells slots Q (F0 m (pc + 1) ls rest)) : W p l e R s m args below meth c H locs cells slots Q (F0 m (pc) ls (.long v :: .int (nI i) :: .ref (a 10) :: rest)) := by
  have e1 : (sW a cI cL cZ N J).set 7 (a 10, .inl (cL, 16, .inr (.inl (vp_updL (fun j => J 6 j) i v)))) = sW a cI cL cZ N (uJ J 6 i v) := by rw [← uJ_f J 6 i v]; rfl
  rw [← e1] at kk
  exact va_last hx hb hK hP hD hS 7 1 rfl rfl (vp_in_nI hi (by decide)) hdg (by rw [nI_clamp (by omega)]; exact kk)
theorem sg_7 (hx : p.tables.exec = Jvm.exec) (hb : c.code = cc) {own : String} {index : Nat} {Ts : List Cond} (hts : ∀ w ∈ Ts, w.before args s = true) (hin : ∀ w ∈ wsX20, w ∈ Ts) (hown : s.vm.findClass own = some m.cls) (hK : va_K (dC, dI) vwCl (gT cI cL cZ) s) (hP : va_P (dC, dI) vwCl (sW a cI cL cZ N J) H) (hlink : (Cond.fieldLink own index "ScoreMachine$Setup" "memory" "[J").before args s = true) (hdg : decode cc pc = .ok (.getfield index, 3)) (kk : W p l e R s m args below meth c H locs cells slots Q (F0 m (pc + 3) ls (.ref (a 11) :: rest))) : W p l e R s m args below meth c H locs cells slots Q (F0 m (pc) ls (.ref (a 1) :: rest)) :=
  va_get (D := (dC, dI)) (ci := 2) (C := RX2) (T := TX2) (N := 9) (v := .ref (a 11)) hx hb hts hin hown hK hP 0 rfl rfl 7 (by decide) hlink (fun _ h9 => h9) rfl hdg kk
theorem sl_7 (hx : p.tables.exec = Jvm.exec) (hb : c.code = cc) (hK : va_K (dC, dI) vwCl (gT cI cL cZ) s) (hP : va_P (dC, dI) vwCl (sW a cI cL cZ N J) H) {i : Nat} (hi : i < 256) {v : Int64} (hv : J 7 i = v) (hdg : decode cc pc = .ok (.laload, 1)) (kk : W p l e R s m args below meth c H locs cells slots Q (F0 m (pc + 1) ls (.long v :: rest))) : W p l e R s m args below meth c H locs cells slots Q (F0 m (pc) ls (.int (nI i) :: .ref (a 11) :: rest)) := by
  subst hv
  exact va_lald hx hb hK hP 8 1 rfl rfl (vp_in_nI hi (by decide)) hdg (by rw [nI_clamp (by omega)]; exact kk)
theorem ss_7 (hx : p.tables.exec = Jvm.exec) (hb : c.code = cc) (hK : va_K (dC, dI) vwCl (gT cI cL cZ) s) (hP : va_P (dC, dI) vwCl (sW a cI cL cZ N J) H) (hD : va_D A (sW a cI cL cZ N J)) (hS : va_S A H0 H locs) {i : Nat} {v : Int64} (hi : i < 256) (hdg : decode cc pc = .ok (.lastore, 1)) (kk : ∀ (H1 : Heap) (locs1 : List Loc), va_P (dC, dI) vwCl (sW a cI cL cZ N (uJ J 7 i v)) H1 → va_D A (sW a cI cL cZ N (uJ J 7 i v)) → va_S A H0 H1 locs1 → W p l e R s m args below meth c H1 locs1 cells slots Q (F0 m (pc + 1) ls rest)) : W p l e R s m args below meth c H locs cells slots Q (F0 m (pc) ls (.long v :: .int (nI i) :: .ref (a 11) :: rest)) := by
  have e1 : (sW a cI cL cZ N J).set 8 (a 11, .inl (cL, 256, .inr (.inl (vp_updL (fun j => J 7 j) i v)))) = sW a cI cL cZ N (uJ J 7 i v) := by rw [← uJ_f J 7 i v]; rfl
  rw [← e1] at kk
  exact va_last hx hb hK hP hD hS 8 1 rfl rfl (vp_in_nI hi (by decide)) hdg (by rw [nI_clamp (by omega)]; exact kk)
theorem sg_8 (hx : p.tables.exec = Jvm.exec) (hb : c.code = cc) {own : String} {index : Nat} {Ts : List Cond} (hts : ∀ w ∈ Ts, w.before args s = true) (hin : ∀ w ∈ wsX20, w ∈ Ts) (hown : s.vm.findClass own = some m.cls) (hK : va_K (dC, dI) vwCl (gT cI cL cZ) s) (hP : va_P (dC, dI) vwCl (sW a cI cL cZ N J) H) (hlink : (Cond.fieldLink own index "ScoreMachine$Setup" "width" "I").before args s = true) {v : Nat} (hv : N 8 0 = v) (hdg : decode cc pc = .ok (.getfield index, 3)) (kk : W p l e R s m args below meth c H locs cells slots Q (F0 m (pc + 3) ls (.int (nI v) :: rest))) : W p l e R s m args below meth c H locs cells slots Q (F0 m (pc) ls (.ref (a 1) :: rest)) :=
  va_get (D := (dC, dI)) (ci := 2) (C := RX2) (T := TX2) (N := 9) (v := .int (nI v)) hx hb hts hin hown hK hP 0 rfl rfl 8 (by decide) hlink (fun _ h9 => h9) (by rw [← hv]; rfl) hdg kk
theorem sp_8 (hx : p.tables.exec = Jvm.exec) (hb : c.code = cc) {own : String} {index : Nat} {Ts : List Cond} (hts : ∀ w ∈ Ts, w.before args s = true) (hin : ∀ w ∈ wsX20, w ∈ Ts) (hown : s.vm.findClass own = some m.cls) (hK : va_K (dC, dI) vwCl (gT cI cL cZ) s) (hP : va_P (dC, dI) vwCl (sW a cI cL cZ N J) H) (hD : va_D A (sW a cI cL cZ N J)) (hS : va_S A H0 H locs) (hlink : (Cond.fieldLink own index "ScoreMachine$Setup" "width" "I").before args s = true) {v : Nat} (hdg : decode cc pc = .ok (.putfield index, 3)) (kk : ∀ (H1 : Heap) (locs1 : List Loc), va_P (dC, dI) vwCl (sW a cI cL cZ (uN N 8 0 v) J) H1 → va_D A (sW a cI cL cZ (uN N 8 0 v) J) → va_S A H0 H1 locs1 → W p l e R s m args below meth c H1 locs1 cells slots Q (F0 m (pc + 3) ls rest)) : W p l e R s m args below meth c H locs cells slots Q (F0 m (pc) ls (.int (nI v) :: .ref (a 1) :: rest)) :=
  va_put (D := (dC, dI)) (ci := 2) (v := .int (nI v)) (ty := .int) (C := RX2) (T := TX2) (N := 9) hx hb hts hin tyX2 tyX2_ok nmX2 hown hK hP hD hS 0 rfl rfl 8 (by decide) hlink (fun _ h9 => h9) rfl (by decide +kernel) rfl rfl (Nat.le_of_ble_eq_true rfl) hdg (fun H1 locs1 q1 q2 q3 => kk H1 locs1 q1 q2 q3)
def cqJ (J : Nat → Nat → Int64) (f g n : Nat) : Nat → Nat → Int64 := fun h => if h = g then (fun j => if j < n then J f j else J h j) else J h
theorem cqJ_f (J : Nat → Nat → Int64) (f g n : Nat) : (fun j => cqJ J f g n g j) = va_cpy (fun j => J f j) (fun j => J g j) 0 0 n := by
  funext j
  unfold cqJ va_cpy
  simp only [if_true]
  by_cases h : j < n
  · rw [if_pos h, if_pos ⟨Nat.zero_le _, by omega⟩, Nat.zero_add, Nat.sub_zero]
  · rw [if_neg h, if_neg (fun z => h (by omega))]
theorem x_cp36 (hx : p.tables.exec = Jvm.exec) (hb : c.code = cc) (hml : c.maxLocals = ls.size) {own : String} {index : Nat} (hown : s.vm.findClass own = some m.cls) (hlink : (Cond.methodLink own index arraycopyName).before args s = true) (hnat : (Cond.native arraycopyName).before args s = true) (hstat : (Cond.static arraycopyName).before args s = true) (hini : (Cond.initialized "java/lang/System").before args s = true) (hK : va_K (dC, dI) vwCl (gT cI cL cZ) s) (hP : va_P (dC, dI) vwCl (xW a cI cL cZ N J) H) (hD : va_D A (xW a cI cL cZ N J)) (hS : va_S A H0 H locs) {d : Nat} (hd : d + 6 ≤ 108) (hframes : 1 ≤ R.frames) (hlocals : (rest.map fun v => v.category).sum + (nativeFrameWords "java/lang/System" "arraycopy" 5 + 11) ≤ R.locals) (hdg : decode cc pc = .ok (.invokestatic index, 3)) (kk : ∀ (H1 : Heap) (locs1 : List Loc), va_P (dC, dI) vwCl (xW a cI cL cZ (cpN N 35 36 d 6) J) H1 → va_D A (xW a cI cL cZ (cpN N 35 36 d 6) J) → va_S A H0 H1 locs1 → W p l e R s m args below meth c H1 locs1 cells slots Q (F0 m (pc + 3) ls rest)) : W p l e R s m args below meth c H locs cells slots Q (F0 m (pc) ls (.int (nI 6) :: .int (nI d) :: .ref (a 20) :: .int (nI 0) :: .ref (a 19) :: rest)) := by
  have e1 : (xW a cI cL cZ N J).set 20 (a 20, .inl (cI, 108, .inl (va_cpy (fun j => nI (N 35 j)) (fun j => nI (N 36 j)) 0 d 6))) = xW a cI cL cZ (cpN N 35 36 d 6) J := by rw [← cpN_f N 35 36 d 6]; rfl
  rw [← e1] at kk
  have h6 : (nI 6).toNatClampNeg = 6 := by decide
  have h0 : (nI 0).toNatClampNeg = 0 := by decide
  have hd2 : (nI d).toNatClampNeg = d := nI_clamp (by omega)
  exact va_copyi hx hb hml hown hlink hnat hstat hini hK hP hD hS 19 20 0 0 rfl rfl rfl rfl rfl (by decide) (nI_pos (by omega)) (by decide) (by rw [h0, h6]; decide) (by rw [hd2, h6]; exact hd) (fun _ _ => rfl) hframes hlocals hdg (by rw [h0, h6, hd2]; exact kk)
theorem x_cp37 (hx : p.tables.exec = Jvm.exec) (hb : c.code = cc) (hml : c.maxLocals = ls.size) {own : String} {index : Nat} (hown : s.vm.findClass own = some m.cls) (hlink : (Cond.methodLink own index arraycopyName).before args s = true) (hnat : (Cond.native arraycopyName).before args s = true) (hstat : (Cond.static arraycopyName).before args s = true) (hini : (Cond.initialized "java/lang/System").before args s = true) (hK : va_K (dC, dI) vwCl (gT cI cL cZ) s) (hP : va_P (dC, dI) vwCl (xW a cI cL cZ N J) H) (hD : va_D A (xW a cI cL cZ N J)) (hS : va_S A H0 H locs) {d : Nat} (hd : d + 6 ≤ 384) (hframes : 1 ≤ R.frames) (hlocals : (rest.map fun v => v.category).sum + (nativeFrameWords "java/lang/System" "arraycopy" 5 + 11) ≤ R.locals) (hdg : decode cc pc = .ok (.invokestatic index, 3)) (kk : ∀ (H1 : Heap) (locs1 : List Loc), va_P (dC, dI) vwCl (xW a cI cL cZ (cpN N 35 37 d 6) J) H1 → va_D A (xW a cI cL cZ (cpN N 35 37 d 6) J) → va_S A H0 H1 locs1 → W p l e R s m args below meth c H1 locs1 cells slots Q (F0 m (pc + 3) ls rest)) : W p l e R s m args below meth c H locs cells slots Q (F0 m (pc) ls (.int (nI 6) :: .int (nI d) :: .ref (a 21) :: .int (nI 0) :: .ref (a 19) :: rest)) := by
  have e1 : (xW a cI cL cZ N J).set 21 (a 21, .inl (cI, 384, .inl (va_cpy (fun j => nI (N 35 j)) (fun j => nI (N 37 j)) 0 d 6))) = xW a cI cL cZ (cpN N 35 37 d 6) J := by rw [← cpN_f N 35 37 d 6]; rfl
  rw [← e1] at kk
  have h6 : (nI 6).toNatClampNeg = 6 := by decide
  have h0 : (nI 0).toNatClampNeg = 0 := by decide
  have hd2 : (nI d).toNatClampNeg = d := nI_clamp (by omega)
  exact va_copyi hx hb hml hown hlink hnat hstat hini hK hP hD hS 19 21 0 0 rfl rfl rfl rfl rfl (by decide) (nI_pos (by omega)) (by decide) (by rw [h0, h6]; decide) (by rw [hd2, h6]; exact hd) (fun _ _ => rfl) hframes hlocals hdg (by rw [h0, h6, hd2]; exact kk)
theorem x_cp11 (hx : p.tables.exec = Jvm.exec) (hb : c.code = cc) (hml : c.maxLocals = ls.size) {own : String} {index : Nat} (hown : s.vm.findClass own = some m.cls) (hlink : (Cond.methodLink own index arraycopyName).before args s = true) (hnat : (Cond.native arraycopyName).before args s = true) (hstat : (Cond.static arraycopyName).before args s = true) (hini : (Cond.initialized "java/lang/System").before args s = true) (hK : va_K (dC, dI) vwCl (gT cI cL cZ) s) (hP : va_P (dC, dI) vwCl (xW a cI cL cZ N J) H) (hD : va_D A (xW a cI cL cZ N J)) (hS : va_S A H0 H locs) (hframes : 1 ≤ R.frames) (hlocals : (rest.map fun v => v.category).sum + (nativeFrameWords "java/lang/System" "arraycopy" 5 + 11) ≤ R.locals) (hdg : decode cc pc = .ok (.invokestatic index, 3)) (kk : ∀ (H1 : Heap) (locs1 : List Loc), va_P (dC, dI) vwCl (xW a cI cL cZ N (cqJ J 6 11 16)) H1 → va_D A (xW a cI cL cZ N (cqJ J 6 11 16)) → va_S A H0 H1 locs1 → W p l e R s m args below meth c H1 locs1 cells slots Q (F0 m (pc + 3) ls rest)) : W p l e R s m args below meth c H locs cells slots Q (F0 m (pc) ls (.int (nI 16) :: .int (nI 0) :: .ref (a 12) :: .int (nI 0) :: .ref (a 10) :: rest)) := by
  have e1 : (xW a cI cL cZ N J).set 12 (a 12, .inl (cL, 16, .inr (.inl (va_cpy (fun j => J 6 j) (fun j => J 11 j) 0 0 16)))) = xW a cI cL cZ N (cqJ J 6 11 16) := by rw [← cqJ_f J 6 11 16]; rfl
  rw [← e1] at kk
  exact va_copyl hx hb hml hown hlink hnat hstat hini hK hP hD hS 10 12 1 1 rfl rfl rfl rfl rfl (by decide) (by decide) (by decide) (by decide) (by decide) (fun _ _ => rfl) hframes hlocals hdg kk
theorem x_cp12 (hx : p.tables.exec = Jvm.exec) (hb : c.code = cc) (hml : c.maxLocals = ls.size) {own : String} {index : Nat} (hown : s.vm.findClass own = some m.cls) (hlink : (Cond.methodLink own index arraycopyName).before args s = true) (hnat : (Cond.native arraycopyName).before args s = true) (hstat : (Cond.static arraycopyName).before args s = true) (hini : (Cond.initialized "java/lang/System").before args s = true) (hK : va_K (dC, dI) vwCl (gT cI cL cZ) s) (hP : va_P (dC, dI) vwCl (xW a cI cL cZ N J) H) (hD : va_D A (xW a cI cL cZ N J)) (hS : va_S A H0 H locs) (hframes : 1 ≤ R.frames) (hlocals : (rest.map fun v => v.category).sum + (nativeFrameWords "java/lang/System" "arraycopy" 5 + 11) ≤ R.locals) (hdg : decode cc pc = .ok (.invokestatic index, 3)) (kk : ∀ (H1 : Heap) (locs1 : List Loc), va_P (dC, dI) vwCl (xW a cI cL cZ N (cqJ J 7 12 256)) H1 → va_D A (xW a cI cL cZ N (cqJ J 7 12 256)) → va_S A H0 H1 locs1 → W p l e R s m args below meth c H1 locs1 cells slots Q (F0 m (pc + 3) ls rest)) : W p l e R s m args below meth c H locs cells slots Q (F0 m (pc) ls (.int (nI 256) :: .int (nI 0) :: .ref (a 13) :: .int (nI 0) :: .ref (a 11) :: rest)) := by
  have e1 : (xW a cI cL cZ N J).set 13 (a 13, .inl (cL, 256, .inr (.inl (va_cpy (fun j => J 7 j) (fun j => J 12 j) 0 0 256)))) = xW a cI cL cZ N (cqJ J 7 12 256) := by rw [← cqJ_f J 7 12 256]; rfl
  rw [← e1] at kk
  exact va_copyl hx hb hml hown hlink hnat hstat hini hK hP hD hS 11 13 1 1 rfl rfl rfl rfl rfl (by decide) (by decide) (by decide) (by decide) (by decide) (fun _ _ => rfl) hframes hlocals hdg kk
def ltF (N : Nat → Nat → Nat) : Nat → Nat → Nat := fun h => if h = 5 then (fun j => if j < 6 then ltN j else N h j) else N h
theorem ltF_f (N : Nat → Nat → Nat) : (fun j => nI (ltF N 5 j)) = va_cpy (fun j => nI (ltN j)) (fun j => nI (N 5 j)) 0 0 6 := by
  funext j
  unfold ltF va_cpy
  simp only [if_true]
  by_cases h : j < 6
  · rw [if_pos h, if_pos ⟨Nat.zero_le _, by omega⟩, Nat.zero_add, Nat.sub_zero]
  · rw [if_neg h, if_neg (fun z => h (by omega))]
theorem s_cpT (hx : p.tables.exec = Jvm.exec) (hb : c.code = cc) (hml : c.maxLocals = ls.size) {own : String} {index : Nat} (hown : s.vm.findClass own = some m.cls) (hlink : (Cond.methodLink own index arraycopyName).before args s = true) (hnat : (Cond.native arraycopyName).before args s = true) (hstat : (Cond.static arraycopyName).before args s = true) (hini : (Cond.initialized "java/lang/System").before args s = true) (hK : va_K (dC, dI) vwCl (gT cI cL cZ) s) (hP : va_P (dC, dI) vwCl (sW a cI cL cZ N J) H) (hD : va_D A (sW a cI cL cZ N J)) (hS : va_S A s.heap H locs) {b0 : Nat} (hX : va_T .int b0 6 (fun j => .int (nI (ltN j))) A s s.heap) (hframes : 1 ≤ R.frames) (hlocals : (rest.map fun v => v.category).sum + (nativeFrameWords "java/lang/System" "arraycopy" 5 + 11) ≤ R.locals) (hdg : decode cc pc = .ok (.invokestatic index, 3)) (kk : ∀ (H1 : Heap) (locs1 : List Loc), va_P (dC, dI) vwCl (sW a cI cL cZ (ltF N) J) H1 → va_D A (sW a cI cL cZ (ltF N) J) → va_S A s.heap H1 locs1 → W p l e R s m args below meth c H1 locs1 cells slots Q (F0 m (pc + 3) ls rest)) : W p l e R s m args below meth c H locs cells slots Q (F0 m (pc) ls (.int (nI 6) :: .int (nI 0) :: .ref (a 9) :: .int (nI 0) :: .ref b0 :: rest)) := by
  have ha1 : (sW a cI cL cZ N J)[6]? = some (a 9, .inl (cI, 6, .inl (fun j => nI (N 5 j)))) := rfl
  have e0 : (sW a cI cL cZ N J).set 6 (a 9, .inl (cI, 6, .inl (va_cpy (fun j => nI (ltN j)) (fun j => nI (N 5 j)) 0 0 6))) = sW a cI cL cZ (ltF N) J := by rw [← ltF_f N]; rfl
  rw [← e0] at kk
  have h6 : (nI 6).toNatClampNeg = 6 := by decide
  have h0 : (nI 0).toNatClampNeg = 0 := by decide
  have i6 : (nI 6).toInt = 6 := by decide
  have i0 : (nI 0).toInt = 0 := by decide
  intro T hT X
  obtain ⟨scr, hs1, hs2, hs3, hs4, -, hs5, hs7⟩ := hX
  have hc0 : H[b0]? = some scr := by rw [hS.2.1 b0 (Array.getElem?_eq_some_iff.mp hs1).1 hs7]; exact hs1
  have hc1 : H[a 9]? = some (vp_cell cI (6, .inl (fun j => nI (N 5 j)))) := hP 6 _ ha1
  obtain ⟨hs6, k0, hk0, cm0, hkk0⟩ := hs2
  obtain ⟨-, k1, hk1, cm1, hkk1⟩ := (hK.2 0 _ rfl).1 6 (fun j => .int (nI (N 5 j)))
  obtain ⟨vm', X', step⟩ := X.arraycopy hx hown hlink hnat hstat hini (src := b0) (dst := a 9) (cs := scr) (cd := vp_cell cI (6, .inl (fun j => nI (N 5 j)))) (srcPos := nI 0) (destPos := nI 0) (n := nI 6) (by rw [hT]; exact hc0) (by rw [hT]; exact hc1)
    hs6 (fun _ h => by cases h) hs3 (fun h => by cases h) hk0 hk1 hkk0 hkk1 (by simp [refKind]) (by decide) (by decide) (by decide)
    (by rw [i0, i6]; omega)
    (by rw [i0, i6]; show ¬ _ > ((arrV cI 6 (fun j => .int (nI (N 5 j)))).slots.size : Int); rw [arrV_size]; decide)
    (fun vm₁ _ i hi => by
      rw [h6] at hi
      have ee : scr.slots.getD ((nI 0).toNatClampNeg + i) .null = .int (nI (ltN i)) := by
        rw [h0, Nat.zero_add, Array.getD_eq_getD_getElem?, hs5 _ hi]
        rfl
      refine ⟨?_, ?_⟩
      · rw [ee]
        rfl
      · rw [ee]
        exact trivial)
    (g := F0 m pc ls (.int (nI 6) :: .int (nI 0) :: .ref (a 9) :: .int (nI 0) :: .ref b0 :: rest)) rfl (by rw [hml]) (rest := rest) rfl (by rw [hb]; exact hdg) hframes (by show 2 * 0 + _ + _ ≤ _; omega)
  have e1 : copied scr (vp_cell cI (6, .inl (fun j => nI (N 5 j)))) (nI 0) (nI 0) (nI 6) = vp_cell cI (6, .inl (va_cpy (fun j => nI (ltN j)) (fun j => nI (N 5 j)) 0 0 6)) := va_copiedX (fun z => .int z) scr cI (fun j => nI (ltN j)) (fun j => nI (N 5 j)) hs5 (by decide)
  rw [e1] at X' step
  have hl : a 9 < H.size := (Array.getElem?_eq_some_iff.mp hc1).1
  generalize hcell : vp_cell cI (6, .inl (va_cpy (fun j => nI (ltN j)) (fun j => nI (N 5 j)) 0 0 6)) = cell at X' step
  have hheap : ((T.setVm vm').setCell (a 9) cell).heap = H.setIfInBounds (a 9) cell := by rw [← hT]; rfl
  have oq : ∀ q : Nat, q ≠ a 9 → (H.setIfInBounds (a 9) cell)[q]? = H[q]? := fun q hq => by simp [Array.getElem?_setIfInBounds, Ne.symm hq]
  obtain ⟨t, a1, b1⟩ := kk _ _ (hP.set hD ha1 (show (H.setIfInBounds (a 9) cell)[a 9]? = some _ by rw [← hcell]; simp [Array.getElem?_setIfInBounds, hl]) oq) (hD.set ha1) ⟨by simp; exact hS.1, fun q g1 g2 => by
      rw [oq q (fun e => g2 (by rw [e]; exact hD.2 6 _ ha1))]
      exact hS.2.1 q g1 g2, fun q hq => by
      rcases List.mem_append.mp hq with h | h
      · exact hS.2.2 q h
      · obtain ⟨z, -, hz⟩ := List.mem_map.mp h
        rw [← hz]
        exact hD.2 6 _ ha1⟩ _ hheap X'
  exact ⟨t, step t a1, b1⟩
end VS
abbrev sF (a : Nat → Nat) (cI cL cZ : ClassId) : gSt → va_W := fun u => sW a cI cL cZ u.1 u.2
theorem sW_L (a : Nat → Nat) (cI cL cZ : ClassId) : ∀ v : gSt, ((fun u : gSt => sW a cI cL cZ u.1 u.2) v).map Prod.fst = sL a := fun _ => rfl
