/-! the calls, as the reference answers them: a state is (arrays of numbers, arrays of ints, numbers, ints) by the fields' places -/
abbrev RS : Type := (Nat → Nat → Nat) × (Nat → Nat → Int32) × (Nat → Nat) × (Nat → Int32)
def wS (g : gG) (q : Nat → Nat) (S : RS) : va_W := wM g q S.1 S.2.1 S.2.2.1 S.2.2.2
def cntM (m : Nat → Nat) : Nat := m 6 + m 7 + m 8 + m 9 + m 10 + m 11
def okM (P m : Nat → Nat) : Prop := m 0 < 2 ^ P 2 ∧ (∀ h, h < 5 → m (1 + h) ≤ cntM m) ∧ cntM m ≤ 9999 ∧ ∀ p, p < 6 → m (12 + p) ≤ 99 * m (6 + p)
def okF (R : Nat → Nat) (base : Nat) : Prop := okP (fun k => R (base + k)) ∧ okM (fun k => R (base + k)) (fun k => R (base + 40 + k))
def okR (R : Nat → Nat) : Prop := ((R 0 = 1 ∧ okP R ∧ okM R (fun k => R (40 + k))) ∨ (R 0 = 0 ∧ R 1 = 0 ∧ R 2 = 0 ∧ R 3 = 0 ∧ ∀ k, k < 18 → R (40 + k) = 0)) ∧ ∀ i, i < 2 → (R (58 * (1 + i)) = 1 ∧ okF R (58 * (1 + i))) ∨ R (58 * (1 + i)) = 0
def RI (S : RS) : Prop := okR (S.1 0) ∧ S.2.2.1 2 ≤ 24 ∧ (S.1 0 0 = 0 → S.2.2.1 2 = 0) ∧ (∀ i, i < S.2.2.1 2 → okM (S.1 0) (fun k => S.1 1 (18 * i + k))) ∧ S.2.2.1 4 ≤ 400 ∧ (∀ k, S.1 3 k < 256) ∧ (∀ r, r < 8 → S.2.1 7 r = -1000000 ∨ inR (S.2.1 7 r) 3) ∧ (∀ r, r < 8 → S.1 8 r ≤ 40) ∧ S.2.2.1 11 ≤ 16 ∧ S.2.2.2 12 = -1000000 ∧ S.2.2.1 5 ≤ 3 ∧ S.2.2.1 6 ≤ 5
def cl (x : Int32) : Nat := x.toNatClampNeg
theorem cl_nI {a : Nat} (h : a < 2147483648) : cl (nI a) = a := nI_clamp h
def stN (S : RS) (k : Nat) : RS := (S.1, S.2.1, va_up S.2.2.1 6 k, S.2.2.2)
def nrw (ln v : Int32) : Int32 := if ln = 0 then v.toInt8.toInt32 else if ln = 1 then v.toInt16.toInt32 else v
def zf (it : Nat → Int32) (r n : Nat) : Nat → Int32 := fun k => if 40 * r ≤ k ∧ k < 40 * r + n then 0 else it k
def pM_row (r lane n : Int32) (S : RS) : Int32 × RS :=
  if ¬ inR r 8 ∨ ¬ inR lane 3 ∨ 40 < n then (-1000001, S) else if n < 0 then (fndA 4, stN S 4) else
  (n, (va_up S.1 8 (va_up (S.1 8) (cl r) (cl n)), va_up (va_up S.2.1 7 (upd (S.2.1 7) (cl r) lane)) 9 (zf (S.2.1 9) (cl r) (cl n)), va_up S.2.2.1 6 0, S.2.2.2))
def pM_set (r i v : Int32) (S : RS) : Int32 × RS :=
  if ¬ inR r 8 then (-1000001, S) else if S.2.1 7 (cl r) = -1000000 then (fndA 1, stN S 1) else if ¬ inR i (S.1 8 (cl r)) then (fndA 2, stN S 2) else
  (nrw (S.2.1 7 (cl r)) v, (S.1, va_up S.2.1 9 (upd (S.2.1 9) (40 * cl r + cl i) (nrw (S.2.1 7 (cl r)) v)), va_up S.2.2.1 6 0, S.2.2.2))
def pM_copy (a i b j n : Int32) (S : RS) : Int32 × RS :=
  if ¬ inR a 8 ∨ ¬ inR b 8 then (-1000001, S) else if S.2.1 7 (cl a) = -1000000 ∨ S.2.1 7 (cl b) = -1000000 then (fndA 1, stN S 1) else if S.2.1 7 (cl a) ≠ S.2.1 7 (cl b) then (fndA 5, stN S 5) else if ¬ spn (S.1 8 (cl a)) i n ∨ ¬ spn (S.1 8 (cl b)) j n then (fndA 2, stN S 2) else
  (n, (S.1, va_up S.2.1 9 (va_cpy (S.2.1 9) (S.2.1 9) (40 * cl a + cl i) (40 * cl b + cl j) (cl n)), va_up S.2.2.1 6 0, S.2.2.2))
def pM_drop (r : Int32) (S : RS) : Int32 × RS :=
  if ¬ inR r 8 then (-1000001, S) else if S.2.1 7 (cl r) = -1000000 then (fndA 1, stN S 1) else
  (nI (S.1 8 (cl r)), (S.1, va_up S.2.1 7 (upd (S.2.1 7) (cl r) (-1000000)), va_up S.2.2.1 6 0, S.2.2.2))
def byteW (w : Int64) (k : Nat) : Nat := w.toBitVec.toNat / 2 ^ (8 * k) % 256
def fdT (t : Nat → Nat) (len : Nat) (w : Int64) (n i : Nat) : Nat → Nat := fun k => if len ≤ k ∧ k < len + i then byteW w (n - 1 - (k - len)) else t k
def pM_feed (w : Int64) (n : Int32) (S : RS) : Int32 × RS :=
  if ¬ ((1 : Int32) ≤ n ∧ n ≤ 8) then (-1000001, S) else if 400 < S.2.2.1 4 + cl n then (-1000003, S) else
  (nI (S.2.2.1 4 + cl n), (va_up S.1 3 (fdT (S.1 3) (S.2.2.1 4) w (cl n) (cl n)), S.2.1, va_up S.2.2.1 4 (S.2.2.1 4 + cl n), S.2.2.2))
def pM_fault (S : RS) : Int32 × RS := (nI (S.2.2.1 5), S)
def pM_status (S : RS) : Int32 × RS := (nI (S.2.2.1 6), S)
def goR (R : Nat → Nat) (sk b : Nat) : Nat × Nat × (Nat → Nat) := goA R sk (R (24 + 2 * b)) 5 (R 2 - 1) (R 40) (uM R 0)
def runR (R : Nat → Nat) (b : Nat) : Nat → Nat := va_up (va_up (putM R 0 (goR R 99 b).2.1 (goR R 99 b).2.2) (46 + (goR R 99 b).1) (R (46 + (goR R 99 b).1) + 1)) (52 + (goR R 99 b).1) (R (52 + (goR R 99 b).1) + R (24 + 2 * b + 1))
/-- a beast runs: an act -/
def runS (b : Nat) (S : RS) : RS := (va_up (va_up S.1 0 (runR (S.1 0) b)) 1 (kpP (S.1 1) (S.1 0) (S.2.2.1 2)), S.2.1, va_up S.2.2.1 2 (kpN (S.2.2.1 2)), S.2.2.2)
def pM_run (b : Int32) (S : RS) : Int32 × RS :=
  if ¬ inR b (S.1 0 3) then (-1000001, S) else if inP (S.1 0) = 9999 then (-1000003, S) else (nI (goR (S.1 0) 99 (cl b)).1, runS (cl b) S)
abbrev areB (it : Nat → Int32) (base n B : Nat) : Prop := ∀ k, k < n → inR (it (base + k)) B
abbrev areP (it : Nat → Int32) (base n B Q : Nat) : Prop := ∀ k, k < n → inR (it (base + 2 * k)) B ∧ inR (it (base + 2 * k + 1)) Q
/-- n beasts of a row run, from place base + k on -/
def runsS (it : Nat → Int32) (base : Nat) : Nat → Nat → RS → RS
  | 0, _, S => S
  | n + 1, k, S => runsS it base n (k + 1) (runS (cl (it (base + k))) S)
def lastP (it : Nat → Int32) (base : Nat) : Nat → Nat → RS → Int32 → Int32
  | 0, _, _, x => x
  | n + 1, k, S, _ => lastP it base n (k + 1) (runS (cl (it (base + k))) S) (nI (goR (S.1 0) 99 (cl (it (base + k)))).1)
def pM_runs (r i n : Int32) (S : RS) : Int32 × RS :=
  if S.1 0 0 = 0 then (-1000002, S) else if ¬ inR r 8 ∨ ¬ ((1 : Int32) ≤ n ∧ n ≤ 24) then (-1000001, S) else
  if rfK (S.2.1 7 (cl r)) (S.1 8 (cl r)) i n ≠ 0 then (fndA (rfK (S.2.1 7 (cl r)) (S.1 8 (cl r)) i n), stN S (rfK (S.2.1 7 (cl r)) (S.1 8 (cl r)) i n)) else
  if ¬ areB (S.2.1 9) (40 * cl r + cl i) (cl n) (S.1 0 3) then (-1000001, S) else if 9999 < inP (S.1 0) + cl n then (-1000003, S) else
  (lastP (S.2.1 9) (40 * cl r + cl i) (cl n) 0 S (-1000000), stN (runsS (S.2.1 9) (40 * cl r + cl i) (cl n) 0 S) 0)
def dawnR (R : Nat → Nat) (s : Nat) : Nat → Nat := va_up (va_cpy (fun _ => 0) R 0 40 18) 40 s
def pM_dawn (s : Int32) (S : RS) : Int32 × RS :=
  if S.1 0 0 = 0 then (-1000002, S) else if ¬ inR s (2 ^ S.1 0 2) then (-1000001, S) else
  (nI (S.1 0 40), (va_up (va_up S.1 0 (dawnR (S.1 0) (cl s))) 1 (kpP (S.1 1) (S.1 0) (S.2.2.1 2)), S.2.1, va_up S.2.2.1 2 (kpN (S.2.2.1 2)), S.2.2.2))
def pM_undo (S : RS) : Int32 × RS :=
  if S.2.2.1 2 = 0 then (-1000002, S) else (nI (S.2.2.1 2 - 1), (va_up S.1 0 (va_cpy (S.1 1) (S.1 0) (18 * (S.2.2.1 2 - 1)) 40 18), S.2.1, va_up S.2.2.1 2 (S.2.2.1 2 - 1), S.2.2.2))
def pM_hurdle (h what : Int32) (S : RS) : Int32 × RS :=
  if ¬ inR h (S.1 0 2) then (-1000001, S) else if inR what 4 then (nI (S.1 0 (4 + 4 * cl h + cl what)), S) else if what = 4 then (nI (S.1 0 40 / 2 ^ cl h % 2), S) else if what = 5 then (nI (S.1 0 (41 + cl h)), S) else (-1000001, S)
def pM_heavy (b : Int32) (S : RS) : Int32 × RS := if inR b (S.1 0 3) then (nI (S.1 0 (24 + 2 * cl b + 1)), S) else (-1000001, S)
def pM_kind (b : Int32) (S : RS) : Int32 × RS := if inR b (S.1 0 3) then (nI (S.1 0 (24 + 2 * cl b)), S) else (-1000001, S)
def pM_pen (p what : Int32) (S : RS) : Int32 × RS :=
  if ¬ inR p (S.1 0 1) then (-1000001, S) else if what = 0 then (nI (S.1 0 (46 + cl p)), S) else if what = 1 then (nI (S.1 0 (52 + cl p)), S) else (-1000001, S)
def pM_image (k : Int32) (S : RS) : Int32 × RS :=
  if ¬ inR k 2 then (-1000001, S) else if S.1 0 0 = 0 then (-1000002, S) else (1, (va_up S.1 0 (va_cpy (S.1 0) (S.1 0) 0 (58 * (1 + cl k)) 58), S.2.1, S.2.2.1, S.2.2.2))
def pM_restore (k : Int32) (S : RS) : Int32 × RS :=
  if ¬ inR k 2 then (-1000001, S) else if S.1 0 (58 * (1 + cl k)) = 0 then (-1000002, S) else (1, (va_up S.1 0 (va_cpy (S.1 0) (S.1 0) (58 * (1 + cl k)) 0 58), S.2.1, va_up S.2.2.1 2 0, S.2.2.2))
abbrev isK (kd a : Nat) : Prop := a = 0 ∨ a = kd ∨ (a = 1 ∧ (kd = 1 ∨ kd = 2 ∨ kd = 3)) ∨ (a = 4 ∧ kd = 5)
def pM_as (b a : Int32) (S : RS) : Int32 × RS :=
  if ¬ inR b (S.1 0 3) ∨ ¬ inR a 6 then (-1000001, S) else if isK (S.1 0 (24 + 2 * cl b)) (cl a) then (b, stN S 0) else (fndA 3, stN S 3)
def pM_trace (i : Int32) (S : RS) : Int32 × RS := if inR i (S.2.2.1 11) then (nI (S.1 10 (cl i)), S) else (-1000000, S)
def thr (ln : Int32) : Nat := if ln = -1000000 then 0 else 1
def thrA (f : Nat → Int32) : Nat := 0 + thr (f 0) + thr (f 1) + thr (f 2) + thr (f 3) + thr (f 4) + thr (f 5) + thr (f 6) + thr (f 7)
def pM_count (what : Int32) (S : RS) : Int32 × RS :=
  (if what = 0 then nI (thrA (S.2.1 7)) else if what = 1 then nI (S.1 0 2) else if what = 2 then nI (S.1 0 3) else if what = 3 then nI (S.1 0 1) else if what = 4 then nI (S.2.2.1 2) else if what = 5 then nI (S.1 0 40) else if what = 6 then nI (inP (S.1 0)) else if what = 7 then nI (S.2.2.1 4) else -1000001, S)
