/-! joins and loops; plain functions of the reference's state -/
section VJ
variable {p : Program} {l : Launch} {e : Env} {R : Room} {s : State} {m : MethodId} {args : Array Value} {below : List Frame} {meth : Method} {c : Code} {H : Heap} {locs : List Loc} {cells slots : Nat} {Q : State → Prop}
variable {dC : Nat → ClassId} {dI : Nat → Nat → Nat} {Wf : gSt → va_W} {A : Nat → Prop} {H0 : Heap} {g : JFrame}
theorem w_join {X : Type} (P : X → Prop) (pj nL : Nat) (lv : X → List (Nat × Value)) (st : X → List Value)
    (k2 : (∀ (x : X) (ls : Array Slot), P x → lv_has ls nL (lv x) → W p l e R s m args below meth c H locs cells slots Q (F0 m pj ls (st x))) → W p l e R s m args below meth c H locs cells slots Q g)
    (k1 : ∀ (x : X) (ls : Array Slot), P x → lv_has ls nL (lv x) → W p l e R s m args below meth c H locs cells slots Q (F0 m pj ls (st x))) : W p l e R s m args below meth c H locs cells slots Q g := k2 k1
theorem w_joinH {X : Type} (u : X → gSt) (P : X → Prop) (pj nL : Nat) (lv : X → List (Nat × Value)) (st : X → List Value)
    (k2 : (∀ (x : X) (ls : Array Slot) (H : Heap) (locs : List Loc), P x → lv_has ls nL (lv x) → va_P (dC, dI) vwCl (Wf (u x)) H → va_D A (Wf (u x)) → va_S A H0 H locs → W p l e R s m args below meth c H locs cells slots Q (F0 m pj ls (st x))) → W p l e R s m args below meth c H locs cells slots Q g)
    (k1 : ∀ (x : X) (ls : Array Slot) (H : Heap) (locs : List Loc), P x → lv_has ls nL (lv x) → va_P (dC, dI) vwCl (Wf (u x)) H → va_D A (Wf (u x)) → va_S A H0 H locs → W p l e R s m args below meth c H locs cells slots Q (F0 m pj ls (st x))) : W p l e R s m args below meth c H locs cells slots Q g := k2 k1
theorem w_loop {X : Type} (μ : X → Nat) (P : X → Prop) (pj nL : Nat) (lv : X → List (Nat × Value)) (st : X → List Value)
    (body : ∀ (x : X) (ls : Array Slot), P x → lv_has ls nL (lv x) → (∀ (x' : X) (ls' : Array Slot), P x' → μ x' < μ x → lv_has ls' nL (lv x') → W p l e R s m args below meth c H locs cells slots Q (F0 m pj ls' (st x'))) → W p l e R s m args below meth c H locs cells slots Q (F0 m pj ls (st x)))
    (x0 : X) (ls0 : Array Slot) (h0 : P x0) (hl0 : lv_has ls0 nL (lv x0)) : W p l e R s m args below meth c H locs cells slots Q (F0 m pj ls0 (st x0)) := by
  have key : ∀ (n : Nat) (x : X) (ls : Array Slot), μ x < n → P x → lv_has ls nL (lv x) → W p l e R s m args below meth c H locs cells slots Q (F0 m pj ls (st x)) := by
    intro n
    induction n with
    | zero => intro x ls h; exact absurd h (Nat.not_lt_zero _)
    | succ n ih => intro x ls h hp hl; exact body x ls hp hl (fun x' ls' hp' hm hl' => ih x' ls' (by omega) hp' hl')
  exact key (μ x0 + 1) x0 ls0 (Nat.lt_succ_self _) h0 hl0
theorem w_loopH {X : Type} (μ : X → Nat) (u : X → gSt) (P : X → Prop) (pj nL : Nat) (lv : X → List (Nat × Value)) (st : X → List Value)
    (body : ∀ (x : X) (ls : Array Slot) (H : Heap) (locs : List Loc), P x → lv_has ls nL (lv x) → va_P (dC, dI) vwCl (Wf (u x)) H → va_D A (Wf (u x)) → va_S A H0 H locs → (∀ (x' : X) (ls' : Array Slot) (H' : Heap) (locs' : List Loc), P x' → μ x' < μ x → lv_has ls' nL (lv x') → va_P (dC, dI) vwCl (Wf (u x')) H' → va_D A (Wf (u x')) → va_S A H0 H' locs' → W p l e R s m args below meth c H' locs' cells slots Q (F0 m pj ls' (st x'))) → W p l e R s m args below meth c H locs cells slots Q (F0 m pj ls (st x)))
    (x0 : X) (ls0 : Array Slot) (h0 : P x0) (hl0 : lv_has ls0 nL (lv x0)) (hP0 : va_P (dC, dI) vwCl (Wf (u x0)) H) (hD0 : va_D A (Wf (u x0))) (hS0 : va_S A H0 H locs) : W p l e R s m args below meth c H locs cells slots Q (F0 m pj ls0 (st x0)) := by
  have key : ∀ (n : Nat) (x : X) (ls : Array Slot) (H : Heap) (locs : List Loc), μ x < n → P x → lv_has ls nL (lv x) → va_P (dC, dI) vwCl (Wf (u x)) H → va_D A (Wf (u x)) → va_S A H0 H locs → W p l e R s m args below meth c H locs cells slots Q (F0 m pj ls (st x)) := by
    intro n
    induction n with
    | zero => intro x ls H locs h; exact absurd h (Nat.not_lt_zero _)
    | succ n ih => intro x ls H locs h hp hl hP hD hS; exact body x ls H locs hp hl hP hD hS (fun x' ls' H' locs' hp' hm hl' hP' hD' hS' => ih x' ls' H' locs' (by omega) hp' hl' hP' hD' hS')
  exact key (μ x0 + 1) x0 ls0 H locs (Nat.lt_succ_self _) h0 hl0 hP0 hD0 hS0
end VJ
/-! an int's rest by 16, from 0 on -/
theorem zz_bmod {z : Int} (h1 : -2147483648 ≤ z) (h2 : z < 2147483648) : z.bmod (2 ^ 32) = z := by
  rw [Int.bmod_eq_of_le (by omega) (by omega)]
theorem rg_int {B : Nat} (h : B < 4294967296) : (nI B).toInt = if B < 2147483648 then (B : Int) else (B : Int) - 4294967296 := by
  show (Int32.ofNat B).toInt = _
  rw [Int32.toInt_ofNat']
  have hz : ((Int32.size : Nat) : Int) = 4294967296 := rfl
  rw [Int.bmod_def, hz]
  split <;> split <;> omega
theorem rg_fac (x : Int) : 16 * x.tdiv 16 + x.tmod 16 = x ∧ x.tmod 16 < 16 ∧ -16 < x.tmod 16 ∧ (0 ≤ x → 0 ≤ x.tmod 16) ∧ (x ≤ 0 → x.tmod 16 ≤ 0) := by
  refine ⟨Int.mul_tdiv_add_tmod _ _, Int.tmod_lt_of_pos x (by decide), Int.lt_tmod_of_pos x (by decide), fun h => Int.tmod_nonneg 16 h, fun h => ?_⟩
  have h1 : 0 ≤ (-x).tmod 16 := Int.tmod_nonneg 16 (by omega)
  rw [Int.neg_tmod] at h1
  omega
theorem rg_rem {B : Nat} : ((nI B) - (nI B) / (nI 16) * (nI 16)).toInt = (nI B).toInt.tmod 16 := by
  have e16 : (nI 16).toInt = 16 := by decide
  have hd : ((nI B) / (nI 16)).toInt = (nI B).toInt.tdiv 16 := by
    rw [Int32.toInt_div_of_ne_right _ _ (by decide), e16]
  have hb := Int32.le_toInt (nI B)
  have hb2 := Int32.toInt_lt (nI B)
  obtain ⟨ht, hm1, hm2, hp, hq⟩ := rg_fac (nI B).toInt
  have hmul : ((nI B) / (nI 16) * (nI 16)).toInt = (nI B).toInt.tdiv 16 * 16 := by
    rw [Int32.toInt_mul, hd, e16]
    rcases Int.le_total 0 (nI B).toInt with h | h
    · have := hp h
      rw [zz_bmod (by omega) (by omega)]
    · have := hq h
      rw [zz_bmod (by omega) (by omega)]
  rw [Int32.toInt_sub, hmul, zz_bmod (by omega) (by omega)]
  omega
theorem rg_pos {B : Nat} (h : B < 4294967296) (hr : 0 ≤ (nI B) - (nI B) / (nI 16) * (nI 16)) : (nI B) - (nI B) / (nI 16) * (nI 16) = nI (B % 16) := by
  apply Int32.toInt_inj.mp
  have h0 := Int32.le_iff_toInt_le.mp hr
  have h00 : (0 : Int32).toInt = 0 := by decide
  rw [h00, rg_rem] at h0
  rw [rg_rem]
  have e := rg_int h
  rw [nI_toInt (n := B % 16) (by omega)]
  obtain ⟨ht, hm1, hm2, hp, hq⟩ := rg_fac (nI B).toInt
  generalize (nI B).toInt.tmod 16 = r at *
  generalize (nI B).toInt.tdiv 16 = q at *
  split at e <;> omega
theorem rg_neg {B : Nat} (h : B < 4294967296) (hr : ¬ 0 ≤ (nI B) - (nI B) / (nI 16) * (nI 16)) : (nI B) - (nI B) / (nI 16) * (nI 16) + nI 16 = nI (B % 16) := by
  apply Int32.toInt_inj.mp
  have h0 : ¬ (0 : Int32).toInt ≤ ((nI B) - (nI B) / (nI 16) * (nI 16)).toInt := fun z => hr (Int32.le_iff_toInt_le.mpr z)
  have h00 : (0 : Int32).toInt = 0 := by decide
  have e16 : (nI 16).toInt = 16 := by decide
  rw [h00, rg_rem] at h0
  have e := rg_int h
  obtain ⟨ht, hm1, hm2, hp, hq⟩ := rg_fac (nI B).toInt
  rw [Int32.toInt_add, rg_rem, e16, nI_toInt (n := B % 16) (by omega)]
  generalize (nI B).toInt.tmod 16 = r at *
  generalize (nI B).toInt.tdiv 16 = q at *
  rw [zz_bmod (by omega) (by omega)]
  split at e <;> omega
/-! the reference: what its methods answer -/
def mCode (N : Nat → Nat → Nat) : Nat := N 0 (4 * N 8 0)
def mD (N : Nat → Nat → Nat) : Nat := N 0 (4 * N 8 0 + 1)
def mA (N : Nat → Nat → Nat) : Nat := N 0 (4 * N 8 0 + 2)
def mBB (N : Nat → Nat → Nat) : Nat := N 0 (4 * N 8 0 + 3)
def mBeg (N : Nat → Nat → Nat) : Nat := if N 13 0 = 0 then 1 else if N 15 0 < N 3 0 then N 14 0 else N 14 0 + 1
def mUW (N : Nat → Nat → Nat) (k : Nat) : Nat := if N 1 k = 1 then N 22 (21 * k + 5) else if N 1 k = 2 then min (N 22 (7 * (3 * k + 1) + 5)) (N 22 (21 * k + 5)) else min (N 22 (7 * (3 * k + 2) + 5)) (min (N 22 (7 * (3 * k + 1) + 5)) (N 22 (21 * k + 5)))
def mSW (N : Nat → Nat → Nat) : Nat := if mCode N < 15 then N 19 (mD N) else 0
def mT (N : Nat → Nat → Nat) : Nat := max (max (max (mBeg N) (N 16 0 + 1)) (mUW N (kdN (mCode N)) + 1)) (mSW N + 1)
def mLow (N : Nat → Nat → Nat) (why : Nat) : Nat := max (if why = 0 then mBeg N - 1 else if why = 1 then N 16 0 else max (N 16 0) (mUW N (kdN (mCode N)))) (mBeg N - 1)
def mHigh (N : Nat → Nat → Nat) (why last : Nat) : Nat := min (if why = 0 then N 16 0 else if why = 1 then max (N 16 0) (mUW N (kdN (mCode N))) else max (max (N 16 0) (mUW N (kdN (mCode N)))) (mSW N)) last
def mWt (N : Nat → Nat → Nat) (why last : Nat) : Nat := mHigh N why last - mLow N why
/-- what the walks need of the reference's numbers -/
def mG0 (N : Nat → Nat → Nat) : Prop := N 8 0 < 256 ∧ (∀ p, p < 256 → N 0 (4 * p) ≤ 18 ∧ N 0 (4 * p + 1) < 16 ∧ N 0 (4 * p + 2) < 16 ∧ N 0 (4 * p + 3) < 4294967296)
def mG (N : Nat → Nat → Nat) : Prop := mG0 N ∧ (∀ k, k < 6 → 1 ≤ N 1 k ∧ N 1 k ≤ 3) ∧ (∀ k, k < 6 → N 2 k ≤ 30) ∧ (1 ≤ N 3 0 ∧ N 3 0 ≤ 4)
  ∧ (N 13 0 < 1073741824 ∧ N 14 0 < 1073741824 ∧ N 15 0 < 1073741824 ∧ N 16 0 < 1073741824 ∧ N 17 0 < 1073741824 ∧ (N 13 0 ≠ 0 → 1 ≤ N 14 0)) ∧ (∀ j, j < 16 → N 19 j < 1073741824 ∧ N 21 j < 1073741824) ∧ (∀ u, u < 18 → N 22 (7 * u + 5) < 1073741824)
theorem kdN_lt (k : Nat) : kdN k < 6 := by unfold kdN; (repeat' split) <;> decide
/-! bits (after laws/BITS.to-paste) -/
theorem wb_tb (n : Nat) : (lN n).toBitVec = BitVec.ofNat 64 n := rfl
theorem wb_inj {a b : Int64} (h : a.toBitVec = b.toBitVec) : a = b := Int64.toBitVec_inj.mp h
theorem wb_tn {n : Nat} (h : n < 2 ^ 64) : (lN n).toBitVec.toNat = n := by rw [wb_tb, BitVec.toNat_ofNat, Nat.mod_eq_of_lt h]
theorem wb_of (x : Int64) : ∃ n, n < 2 ^ 64 ∧ x = lN n := ⟨x.toBitVec.toNat, x.toBitVec.isLt, wb_inj (by rw [wb_tb]; simp)⟩
theorem wb_of32 (x : Int32) : ∃ n, n < 2 ^ 32 ∧ x = nI n := ⟨x.toBitVec.toNat, x.toBitVec.isLt, Int32.toBitVec_inj.mp (by show _ = BitVec.ofNat 32 _; simp)⟩
theorem wb_lt2 {a b : Nat} (h : a < b) : 2 ^ a < 2 ^ b := Nat.pow_lt_pow_right (by decide) h
theorem wb_and {a b : Nat} (ha : a < 2 ^ 64) (hb : b < 2 ^ 64) : lN a &&& lN b = lN (a &&& b) := by
  apply wb_inj
  rw [Int64.toBitVec_and, wb_tb, wb_tb, wb_tb]
  apply BitVec.eq_of_toNat_eq
  rw [BitVec.toNat_and, BitVec.toNat_ofNat, BitVec.toNat_ofNat, BitVec.toNat_ofNat, Nat.mod_eq_of_lt ha, Nat.mod_eq_of_lt hb, Nat.mod_eq_of_lt (Nat.and_lt_two_pow _ hb)]
theorem wb_mask {n k : Nat} (hn : n < 2 ^ 64) (hk : k < 64) : lN n &&& lN (2 ^ k - 1) = lN (n % 2 ^ k) := by
  rw [wb_and hn (by have := wb_lt2 hk; omega), Nat.and_two_pow_sub_one_eq_mod]
/-- which memory a long tells -/
def clN (x : Int64) : Nat := x.toBitVec.toNat % 256
theorem clN_lt (x : Int64) : clN x < 256 := Nat.mod_lt _ (by decide)
theorem clN_eq (x : Int64) : (x &&& 255).toInt32 = nI (clN x) := by
  obtain ⟨n, hn, rfl⟩ := wb_of x
  have e : (255 : Int64) = lN (2 ^ 8 - 1) := rfl
  rw [e, wb_mask hn (by decide), lN_i]
  unfold clN
  rw [wb_tn hn]
theorem cl_int {B : Nat} (h : B < 4294967296) : ((nI B).toInt64 &&& 255).toInt32 = nI (B % 256) := by
  have e : (255 : Int64) = (255 : Int32).toInt64 := by decide
  rw [e, ← Int32.toInt64_and, pk_andN (by omega) 8 (by decide), nI_l (by omega), lN_i]
/-! what an instruction makes, and where it goes on -/
def opV (k : Nat) (x b n d : Int64) (mem : Nat → Int64) : Int64 :=
  if k = 1 then x + b else if k = 2 then x - b else if k = 3 then x &&& b else if k = 4 then x ||| b else if k = 5 then x ^^^ b else if k = 6 then n else if k = 7 then x + n
  else if k = 8 then x <<< (Int32.toInt64 ((b &&& 63).toInt32) &&& 63) else if k = 9 then x >>> (Int32.toInt64 ((b &&& 63).toInt32) &&& 63)
  else if k = 10 then (Int64.toUInt64 x >>> ((Int32.toInt64 ((b &&& 63).toInt32)).toUInt64 &&& Int64.toUInt64 63)).toInt64
  else if k = 11 then x * b else if k = 12 then (if b = 0 then 0 else x / b) else if k = 13 then (if b = 0 then 0 else x - x / b * b) else if k = 14 then mem (clN (x + n)) else if k = 15 then d else 0
def nxP (k pl B : Nat) (x : Int64) : Nat := if k = 18 ∨ (k = 16 ∧ x = 0) ∨ (k = 17 ∧ x < 0) then B % 256 else (pl + 1) % 256
def mV (N : Nat → Nat → Nat) (J : Nat → Nat → Int64) : Int64 := opV (mCode N) (J 6 (mA N)) (J 6 (mBB N % 16)) ((nI (mBB N)).toInt64) (J 6 (mD N)) (J 7)
def mNx (N : Nat → Nat → Nat) (J : Nat → Nat → Int64) : Nat := nxP (mCode N) (N 8 0) (mBB N) (J 6 (mA N))
/-- a unit's value goes to its register or memory -/
def mCm (u : gSt) (k : Nat) : gSt := if u.1 24 k = 0 then u else (uN u.1 24 k 0, if u.1 22 (7 * k + 6) = 4294967295 then u.2 else if 16 ≤ u.1 22 (7 * k + 6) then uJ u.2 10 (u.1 22 (7 * k + 6) - 16) (u.2 23 k) else uJ u.2 9 (u.1 22 (7 * k + 6)) (u.2 23 k))
def mCA (t : Nat) : Nat → gSt → gSt
  | 0, u => u
  | n + 1, u => if (mCA t n u).1 24 n ≠ 0 ∧ (mCA t n u).1 22 (7 * n + 5) < t then mCm (mCA t n u) n else mCA t n u
theorem mCm_N (u : gSt) (k f : Nat) (h : f ≠ 24) : (mCm u k).1 f = u.1 f := by
  unfold mCm
  split
  · rfl
  · exact uN_o h
theorem mCA_N (t : Nat) (u : gSt) (f : Nat) (h : f ≠ 24) : ∀ n, (mCA t n u).1 f = u.1 f
  | 0 => rfl
  | n + 1 => by
    unfold mCA
    split
    · rw [mCm_N _ _ _ h, mCA_N t u f h n]
    · exact mCA_N t u f h n
theorem mCm_J (u : gSt) (k f : Nat) (h : f ≠ 9) (h2 : f ≠ 10) : (mCm u k).2 f = u.2 f := by
  unfold mCm
  split
  · rfl
  · show (if _ then _ else _ : Nat → Nat → Int64) f = _
    split
    · rfl
    · split
      · exact uJ_o h2
      · exact uJ_o h
theorem mCA_J (t : Nat) (u : gSt) (f : Nat) (h : f ≠ 9) (h2 : f ≠ 10) : ∀ n, (mCA t n u).2 f = u.2 f
  | 0 => rfl
  | n + 1 => by
    unfold mCA
    split
    · rw [mCm_J _ _ _ h h2, mCA_J t u f h h2 n]
    · exact mCA_J t u f h h2 n
