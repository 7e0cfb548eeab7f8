/-! what both sides do, said once: the fold's movements over numbers -/
/-- the sort of hurdle h, a post if it is the one that sticks -/
def srtO (P : Nat → Nat) (sk h : Nat) : Nat := if h = sk then 2 else P (4 + 4 * h + 3)
/-- a hurdle turns, with the one to which it is tied -/
def turnA (P : Nat → Nat) (sk h s : Nat) : Nat := if 0 < P (4 + 4 * h + 2) ∧ srtO P sk (P (4 + 4 * h + 2) - 1) ≠ 2 then (s ^^^ 2 ^ h) ^^^ 2 ^ (P (4 + 4 * h + 2) - 1) else s ^^^ 2 ^ h
def toA (P : Nat → Nat) (sk kd h s : Nat) : Nat := if srtO P sk h = 2 then s / 2 ^ h % 2 else if kd = 2 then 1 - s / 2 ^ h % 2 else if kd = 4 then 0 else if kd = 5 then 1 else s / 2 ^ h % 2
def pushA (kd h : Nat) (u : Nat → Nat) : Nat → Nat := if kd = 1 then va_up u h (u h + 1) else u
abbrev turnsA (P : Nat → Nat) (sk kd h s : Nat) (u : Nat → Nat) : Prop := (kd = 1 ∧ (srtO P sk h = 0 ∨ (srtO P sk h = 1 ∧ (u h + 1) % 3 = 0))) ∨ (kd ≠ 1 ∧ toA P sk kd h s ≠ s / 2 ^ h % 2)
def stA (P : Nat → Nat) (sk kd h s : Nat) (u : Nat → Nat) : Nat := if turnsA P sk kd h s u then turnA P sk h s else s
/-- a beast of kind kd comes to hurdle h: the pen, how all stand, how often they were pushed -/
def goA (P : Nat → Nat) (sk kd : Nat) : Nat → Nat → Nat → (Nat → Nat) → Nat × Nat × (Nat → Nat)
  | 0, _, s, u => (0, s, u)
  | n + 1, h, s, u => if P (4 + 4 * h + toA P sk kd h s) < 10 then (P (4 + 4 * h + toA P sk kd h s), stA P sk kd h s u, pushA kd h u) else goA P sk kd n (P (4 + 4 * h + toA P sk kd h s) - 10) (stA P sk kd h s u) (pushA kd h u)
/-- a plan as the reader lays it: pens, hurdles, beasts; ways to pens or to hurdles told ahead; ties; sorts; kinds -/
def okP (P : Nat → Nat) : Prop := P 1 ≤ 6 ∧ 1 ≤ P 2 ∧ P 2 ≤ 5 ∧ P 3 ≤ 8 ∧ (∀ h, h < P 2 → (P (4 + 4 * h) < P 1 ∨ (10 ≤ P (4 + 4 * h) ∧ P (4 + 4 * h) < 10 + h)) ∧ (P (4 + 4 * h + 1) < P 1 ∨ (10 ≤ P (4 + 4 * h + 1) ∧ P (4 + 4 * h + 1) < 10 + h)) ∧ P (4 + 4 * h + 2) ≤ h ∧ P (4 + 4 * h + 3) ≤ 2) ∧ (∀ b, b < P 3 → 1 ≤ P (24 + 2 * b) ∧ P (24 + 2 * b) ≤ 5 ∧ P (24 + 2 * b + 1) ≤ 99)
theorem toA_le {P : Nat → Nat} {sk kd h s : Nat} : toA P sk kd h s ≤ 1 := by
  have : s / 2 ^ h % 2 < 2 := Nat.mod_lt _ (by decide)
  unfold toA
  repeat' split
  all_goals omega
theorem xor_lt32 {a b : Nat} (ha : a < 32) (hb : b < 32) : a ^^^ b < 32 := Nat.xor_lt_two_pow (n := 5) ha hb
theorem pow_lt32 {h : Nat} (hh : h < 5) : 2 ^ h < 32 := Nat.pow_lt_pow_right (by decide) hh
theorem turnA_lt {P : Nat → Nat} {sk h s : Nat} (hh : h < 5) (ht : P (4 + 4 * h + 2) ≤ h) (hs : s < 32) : turnA P sk h s < 32 := by
  unfold turnA
  split
  · exact xor_lt32 (xor_lt32 hs (pow_lt32 hh)) (pow_lt32 (by omega))
  · exact xor_lt32 hs (pow_lt32 hh)
theorem stA_lt {P : Nat → Nat} {sk kd h s : Nat} {u : Nat → Nat} (hh : h < 5) (ht : P (4 + 4 * h + 2) ≤ h) (hs : s < 32) : stA P sk kd h s u < 32 := by
  unfold stA
  split
  · exact turnA_lt hh ht hs
  · exact hs
theorem pushA_le {kd h : Nat} {u : Nat → Nat} {B : Nat} (hu : ∀ k, u k ≤ B) : ∀ k, pushA kd h u k ≤ B + 1 := by
  intro k
  have h1 := hu k
  have h2 := hu h
  by_cases c : kd = 1
  · rw [show pushA kd h u = va_up u h (u h + 1) from if_pos c]
    show (if k = h then u h + 1 else u k) ≤ _
    split <;> omega
  · rw [show pushA kd h u = u from if_neg c]
    omega
theorem wayA_lt {P : Nat → Nat} (hP : okP P) {sk kd h s : Nat} (hh : h < P 2) : P (4 + 4 * h + toA P sk kd h s) < P 1 ∨ (10 ≤ P (4 + 4 * h + toA P sk kd h s) ∧ P (4 + 4 * h + toA P sk kd h s) < 10 + h) := by
  have h1 := hP.2.2.2.2.1 h hh
  have h2 : toA P sk kd h s ≤ 1 := toA_le
  rcases (show toA P sk kd h s = 0 ∨ toA P sk kd h s = 1 by omega) with e | e <;> rw [e]
  · exact h1.1
  · exact h1.2.1
theorem goA_ok {P : Nat → Nat} (hP : okP P) {sk kd : Nat} : ∀ (n h s : Nat) (u : Nat → Nat) , h < n → h < P 2 → s < 32 → (goA P sk kd n h s u).1 < P 1 ∧ (goA P sk kd n h s u).2.1 < 32 := by
  intro n
  induction n with
  | zero => intro h s u h1; exact absurd h1 (Nat.not_lt_zero _)
  | succ n ih =>
    intro h s u hn hh hs
    have h5 : h < 5 := by have := hP.2.2.1; omega
    have ht := (hP.2.2.2.2.1 h hh).2.2.1
    have hw := wayA_lt hP (sk := sk) (kd := kd) (s := s) hh
    have h6 := hP.1
    unfold goA
    split
    · exact ⟨by show P _ < P 1; omega, stA_lt h5 ht hs⟩
    · exact ih _ _ _ (by omega) (by omega) (stA_lt h5 ht hs)
/-- any number of steps from h + 1 on is as good -/
theorem goA_fuel {P : Nat → Nat} (hP : okP P) {sk kd : Nat} : ∀ (n m h s : Nat) (u : Nat → Nat), h < n → h < m → h < P 2 → goA P sk kd n h s u = goA P sk kd m h s u := by
  intro n
  induction n with
  | zero => intro m h s u h1; exact absurd h1 (Nat.not_lt_zero _)
  | succ n ih =>
    intro m h s u hn hm hh
    cases m with
    | zero => exact absurd hm (Nat.not_lt_zero _)
    | succ m =>
      have hw := wayA_lt hP (sk := sk) (kd := kd) (s := s) hh
      have h6 := hP.1
      unfold goA
      split
      · rfl
      · exact ih m _ _ _ (by omega) (by omega) (by omega)
/-- R and P tell the same plan -/
def eqP (P R : Nat → Nat) : Prop := ∀ k, k < 40 → P k = R k
theorem okP_eq {P R : Nat → Nat} (e : eqP P R) (h : okP R) : okP P := by
  obtain ⟨h1, h2, h3, h4, h5, h6⟩ := h
  have e1 := e 1 (by decide)
  have e2 := e 2 (by decide)
  have e3 := e 3 (by decide)
  refine ⟨by omega, by omega, by omega, by omega, ?_, ?_⟩
  · intro h hh
    rw [e1, e (4 + 4 * h) (by omega), e (4 + 4 * h + 1) (by omega), e (4 + 4 * h + 2) (by omega), e (4 + 4 * h + 3) (by omega)]
    exact h5 h (by omega)
  · intro b hb
    rw [e (24 + 2 * b) (by omega), e (24 + 2 * b + 1) (by omega)]
    exact h6 b (by omega)
theorem okP_5 {P : Nat → Nat} (hP : okP P) {h : Nat} (hh : h < P 2) : h < 5 := by have := hP.2.2.1; omega
theorem okP_t {P : Nat → Nat} (hP : okP P) {h : Nat} (hh : h < P 2) : P (4 + 4 * h + 2) ≤ h := (hP.2.2.2.2.1 h hh).2.2.1
theorem okP_s {P : Nat → Nat} (hP : okP P) {sk h : Nat} (hh : h < P 2) : srtO P sk h ≤ 2 := by
  unfold srtO
  split
  · exact Nat.le_refl 2
  · exact (hP.2.2.2.2.1 h hh).2.2.2
theorem okP_k {P : Nat → Nat} (hP : okP P) {b : Nat} (hb : b < P 3) : 1 ≤ P (24 + 2 * b) ∧ P (24 + 2 * b) ≤ 5 := ⟨(hP.2.2.2.2.2 b hb).1, (hP.2.2.2.2.2 b hb).2.1⟩
theorem eqP_up {R : Nat → Nat} {k v : Nat} (hk : 40 ≤ k) : eqP (va_up R k v) R := fun j hj => if_neg (by omega)
theorem goA_s1 {P : Nat → Nat} {sk kd n h s : Nat} {u : Nat → Nat} (c : P (4 + 4 * h + toA P sk kd h s) < 10) : goA P sk kd (n + 1) h s u = (P (4 + 4 * h + toA P sk kd h s), stA P sk kd h s u, pushA kd h u) := if_pos c
theorem goA_s2 {P : Nat → Nat} {sk kd n h s : Nat} {u : Nat → Nat} (c : ¬ P (4 + 4 * h + toA P sk kd h s) < 10) : goA P sk kd (n + 1) h s u = goA P sk kd n (P (4 + 4 * h + toA P sk kd h s) - 10) (stA P sk kd h s u) (pushA kd h u) := if_neg c
