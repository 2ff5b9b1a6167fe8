/-! the class: what its methods answer -/
def xCode (N : Nat → Nat → Nat) : Nat := N 0 (N 13 0)
def xD (N : Nat → Nat → Nat) : Nat := N 1 (N 13 0)
def xA (N : Nat → Nat → Nat) : Nat := N 2 (N 13 0)
def xBB (N : Nat → Nat → Nat) : Nat := N 3 (N 13 0)
abbrev xRA (k : Nat) : Prop := 1 ≤ k ∧ k ≤ 17 ∧ k ≠ 6
abbrev xRB (k : Nat) : Prop := (1 ≤ k ∧ k ≤ 5) ∨ (8 ≤ k ∧ k ≤ 13)
abbrev xWD (k : Nat) : Prop := 1 ≤ k ∧ k ≤ 14
def xV (N : Nat → Nat → Nat) (J : Nat → Nat → Int64) : Int64 := opV (xCode N) (J 11 (xA N)) (J 11 (xBB N % 16)) ((nI (xBB N)).toInt64) (J 11 (xD N)) (J 12)
def xNx (N : Nat → Nat → Nat) (J : Nat → Nat → Int64) : Nat := nxP (xCode N) (N 13 0) (xBB N) (J 11 (xA N))
def xCl (N : Nat → Nat → Nat) (J : Nat → Nat → Int64) : Nat := clN (J 11 (xA N) + (nI (xBB N)).toInt64)
def xStepJ (N : Nat → Nat → Nat) (J : Nat → Nat → Int64) : Nat → Nat → Int64 := if xCode N = 15 then uJ J 12 (xCl N J) (J 11 (xD N)) else if xWD (xCode N) then uJ J 11 (xD N) (xV N J) else J
def xa1 (N : Nat → Nat → Nat) : Nat := if xRA (xCode N) then max (N 22 0) (N 27 (xA N)) else N 22 0
def xa2 (N : Nat → Nat → Nat) : Nat := if xRB (xCode N) then max (xa1 N) (N 27 (xBB N % 16)) else xa1 N
def xa3 (N : Nat → Nat → Nat) : Nat := if xCode N = 15 then max (xa2 N) (N 27 (xD N)) else xa2 N
def xDn (N : Nat → Nat → Nat) : Nat := xa3 N + 1 + N 5 (kdN (xCode N))
def xWn (N : Nat → Nat → Nat) : Nat := if xWD (xCode N) then max (xDn N + 1) (N 29 (xD N) + 1) else xDn N + 1
def xS1 (N : Nat → Nat → Nat) : Nat → Nat → Nat := uN (uN (uN (uN (uN (uN N 35 0 (N 13 0)) 35 1 (N 24 0)) 35 2 (N 22 0)) 35 3 (xa3 N + 1)) 35 4 (xDn N)) 35 5 (xWn N)
def cpN (N : Nat → Nat → Nat) (f g d n : Nat) : Nat → Nat → Nat := fun h => if h = g then (fun j => if d ≤ j ∧ j < d + n then N f (j - d) else N h j) else N h
def xKeep (N : Nat → Nat → Nat) (r : Nat) : Nat → Nat → Nat := cpN (cpN N 35 36 (r * 6) 6) 35 37 (N 24 0 % 64 * 6) 6
def xNr (N : Nat → Nat → Nat) (j : Nat) : Nat → Nat → Nat := uN N 29 j (max (N 29 j) (N 35 3))
def xNR1 (N : Nat → Nat → Nat) : Nat → Nat → Nat := if xRA (xCode N) then xNr N (xA N) else N
def xNR2 (N X : Nat → Nat → Nat) : Nat → Nat → Nat := if xRB (xCode N) then xNr X (xBB N % 16) else X
def xNR3 (N X : Nat → Nat → Nat) : Nat → Nat → Nat := if xCode N = 15 then xNr X (xD N) else X
def xNR (N : Nat → Nat → Nat) : Nat → Nat → Nat := xNR3 N (xNR2 N (xNR1 N))
def xNW (u : gSt) : gSt := if kdN (xCode u.1) = 5 then (uN (uN u.1 34 0 (max (u.1 34 0) (u.1 35 5))) 33 0 (u.1 35 5), u.2) else if xCode u.1 = 15 then (uN (uN (uN u.1 34 0 (max (u.1 34 0) (u.1 35 5))) 30 0 (xCl u.1 u.2)) 31 0 (u.1 35 5), uJ u.2 32 0 (u.2 12 (xCl u.1 u.2))) else (uN (uN (uN u.1 34 0 (max (u.1 34 0) (u.1 35 5))) 26 (xD u.1) (u.1 24 0)) 27 (xD u.1) (u.1 35 5), uJ u.2 28 (xD u.1) (u.2 11 (xD u.1)))
def xFr (N : Nat → Nat → Nat) (k : Nat) : Nat := if N 36 ((k * 3 + 0) * 6 + 5) < N 22 0 then 0 else if 1 < N 4 k ∧ N 36 ((k * 3 + 1) * 6 + 5) < N 22 0 then 1 else if 2 < N 4 k ∧ N 36 ((k * 3 + 2) * 6 + 5) < N 22 0 then 2 else 4294967295
def xHin (N : Nat → Nat → Nat) : Nat := if N 22 0 ≤ N 33 0 then 1 else if xFr N (kdN (xCode N)) = 4294967295 then 2 else if xWD (xCode N) ∧ N 22 0 ≤ N 27 (xD N) then 3 else 0
def xU (N : Nat → Nat → Nat) : Nat := kdN (xCode N) * 3 + xFr N (kdN (xCode N))
def xI4 (u : gSt) : gSt := xNW (xNR (xKeep (xS1 u.1) (xU u.1)), u.2)
def xI5 (u : gSt) : gSt := (uN (xI4 u).1 13 0 (xNx u.1 u.2), xStepJ u.1 (xI4 u).2)
def xIss (u : gSt) : gSt := (uN (xI5 u).1 24 0 (u.1 24 0 + 1), (xI5 u).2)
def xLp : Nat → gSt → gSt
  | 0, u => u
  | n + 1, u => if xCode u.1 = 0 then (uN u.1 23 0 (if u.1 34 0 < u.1 22 0 then 1 else 0), u.2) else if xHin u.1 ≠ 0 then (uN u.1 25 (xHin u.1) (u.1 25 (xHin u.1) + 1), u.2) else xLp n (xIss u)
def xCyc (u : gSt) : gSt := xLp (u.1 8 0) (uN u.1 22 0 (u.1 22 0 + 1), u.2)
def xG0 (N : Nat → Nat → Nat) : Prop := N 13 0 < 256 ∧ ∀ p, p < 256 → N 0 p ≤ 18 ∧ N 1 p < 16 ∧ N 2 p < 16 ∧ N 3 p < 4294967296
def xG (N : Nat → Nat → Nat) : Prop := xG0 N ∧ (∀ k, k < 6 → 1 ≤ N 4 k ∧ N 4 k ≤ 3) ∧ (∀ k, k < 6 → N 5 k ≤ 30) ∧ (1 ≤ N 8 0 ∧ N 8 0 ≤ 4)
  ∧ (N 22 0 < 1073741824 ∧ N 24 0 < 1073741824 ∧ N 33 0 < 1073741824 ∧ N 34 0 < 1073741824) ∧ (∀ j, j < 16 → N 27 j < 1073741824 ∧ N 29 j < 1073741824) ∧ (∀ k, k < 18 → N 36 (6 * k + 5) < 1073741824)
theorem xFr_or (N : Nat → Nat → Nat) (k : Nat) : xFr N k ≤ 2 ∨ xFr N k = 4294967295 := by
  unfold xFr
  (repeat' split) <;> omega
theorem nI_m1 {i : Nat} (h : i ≤ 2) : nI i ≠ nI 4294967295 := by
  rcases (show i = 0 ∨ i = 1 ∨ i = 2 by omega) with z | z | z <;> subst z <;> decide
theorem cpN_o {N : Nat → Nat → Nat} {f g d n h : Nat} (z : h ≠ g) : cpN N f g d n h = N h := if_neg z
theorem cpN_f (N : Nat → Nat → Nat) (f g d n : Nat) : (fun j => nI (cpN N f g d n g j)) = va_cpy (fun j => nI (N f j)) (fun j => nI (N g j)) 0 d n := by
  funext j
  unfold cpN va_cpy
  simp only [if_true]
  by_cases h : d ≤ j ∧ j < d + n
  · rw [if_pos h, if_pos h, Nat.zero_add]
  · rw [if_neg h, if_neg h]
