def lgN (x : Nat) : Int64 := Int64.ofNat x
theorem lgN_or (a b : Nat) : lgN a ||| lgN b = lgN (a ||| b) := by
  apply Int64.toBitVec_inj.mp
  simp only [lgN, Int64.toBitVec_or]
  apply BitVec.eq_of_toNat_eq
  simp [Int64.toBitVec_ofNat', Nat.or_mod_two_pow]
theorem lgN_shl : ∀ m, m < 36 → (1 : Int64) <<< ((nI m).toInt64 &&& 63) = lgN (2 ^ m) := by decide +kernel
theorem lgN_sh : ∀ p, p < 6 → (((nI (p * 6)).toInt64.toUInt64 &&& Int64.toUInt64 63).toBitVec % 64).toNat = p * 6 := by decide +kernel
theorem lgN_shr {m p : Nat} (hp : p < 6) (hm : m < 2 ^ 36) : ((lgN m).toUInt64 >>> ((nI (p * 6)).toInt64.toUInt64 &&& Int64.toUInt64 63)).toInt64 &&& (63 : Int64) = lgN (m / 2 ^ (p * 6) % 64) := by
  have e := lgN_sh p hp
  apply Int64.toBitVec_inj.mp
  apply BitVec.eq_of_getLsbD_eq
  intro i hi
  have hR : (lgN (m / 2 ^ (p * 6) % 64)).toBitVec = BitVec.ofNat 64 (m / 2 ^ (p * 6) % 64) := rfl
  rw [hR, BitVec.getLsbD_ofNat, Int64.toBitVec_and, BitVec.getLsbD_and]
  have e3 : ((lgN m).toUInt64 >>> ((nI (p * 6)).toInt64.toUInt64 &&& Int64.toUInt64 63)).toInt64.toBitVec.getLsbD i = m.testBit (p * 6 + i) := by
    show (((lgN m).toUInt64 >>> ((nI (p * 6)).toInt64.toUInt64 &&& Int64.toUInt64 63)).toBitVec).getLsbD i = _
    rw [UInt64.toBitVec_shiftRight, BitVec.ushiftRight_eq', BitVec.getLsbD_ushiftRight, e]
    show (BitVec.ofNat 64 m).getLsbD (p * 6 + i) = _
    rw [BitVec.getLsbD_ofNat]
    by_cases c : p * 6 + i < 64
    · simp [c]
    · have : m.testBit (p * 6 + i) = false := Nat.testBit_lt_two_pow (Nat.lt_of_lt_of_le hm (Nat.pow_le_pow_right (by decide) (by omega)))
      simp [c, this]
  have e4 : (63 : Int64).toBitVec.getLsbD i = decide (i < 6) := by
    have : ∀ i, i < 64 → (63 : Int64).toBitVec.getLsbD i = decide (i < 6) := by decide +kernel
    exact this i hi
  rw [e3, e4, show (64 : Nat) = 2 ^ 6 from rfl, Nat.testBit_mod_two_pow, Nat.testBit_div_two_pow]
  simp [hi, Nat.add_comm, Bool.and_comm]
def pcN (x : Nat) : Nat := x % 2 + x / 2 % 2 + x / 4 % 2 + x / 8 % 2 + x / 16 % 2 + x / 32 % 2
theorem pcN_2 : ∀ x, x < 64 → (1 < pcN x ↔ ∃ i, i < 6 ∧ ∃ j, j < 6 ∧ i ≠ j ∧ x.testBit i = true ∧ x.testBit j = true) := by decide +kernel
theorem pcN_le {x : Nat} : pcN x ≤ 6 := by unfold pcN; omega
def mkB (kd pn : Nat → Nat) : Nat → Nat
  | 0 => 0
  | k + 1 => mkB kd pn k ||| 2 ^ (pn k * 6 + kd k)
theorem mkB_lt {kd pn : Nat → Nat} {N : Nat} (hk : ∀ k, k < N → kd k < 6 ∧ pn k < 6) : ∀ n, n ≤ N → mkB kd pn n < 2 ^ 36
  | 0, _ => show (0 : Nat) < 2 ^ 36 by decide
  | n + 1, h => by
    have h1 := mkB_lt hk n (by omega)
    have h2 := hk n (by omega)
    exact Nat.or_lt_two_pow h1 (Nat.pow_lt_pow_right (by decide) (by omega))
theorem mkB_bit {kd pn : Nat → Nat} : ∀ n j, ((mkB kd pn n).testBit j = true) ↔ ∃ k, k < n ∧ pn k * 6 + kd k = j
  | 0, j => by
    constructor
    · intro h; simp [mkB] at h
    · rintro ⟨k, hk, _⟩; omega
  | n + 1, j => by
    rw [mkB, Nat.testBit_or, Bool.or_eq_true, mkB_bit n j, Nat.testBit_two_pow]
    constructor
    · rintro (⟨k, h1, h2⟩ | h)
      · exact ⟨k, by omega, h2⟩
      · exact ⟨n, by omega, by simpa using h⟩
    · rintro ⟨k, h1, h2⟩
      rcases (show k < n ∨ k = n by omega) with c | c
      · exact Or.inl ⟨k, c, h2⟩
      · subst c; exact Or.inr (by simpa using h2)
def mxF (kd pn : Nat → Nat) (n : Nat) : Nat → Bool := fun p => decide (1 < pcN (mkB kd pn n / 2 ^ (p * 6) % 64))
theorem mxF_iff {kd pn : Nat → Nat} {n p : Nat} (hk : ∀ k, k < n → kd k < 6) : mxF kd pn n p = true ↔ ∃ k, k < n ∧ ∃ o, o < k ∧ kd k ≠ kd o ∧ pn k = pn o ∧ pn k = p := by
  unfold mxF
  rw [decide_eq_true_iff, pcN_2 _ (Nat.mod_lt _ (by decide))]
  have tb : ∀ i, i < 6 → ((mkB kd pn n / 2 ^ (p * 6) % 64).testBit i = true ↔ ∃ k, k < n ∧ pn k = p ∧ kd k = i) := by
    intro i hi
    rw [show (64 : Nat) = 2 ^ 6 from rfl, Nat.testBit_mod_two_pow, Nat.testBit_div_two_pow, Bool.and_eq_true, decide_eq_true_iff, mkB_bit]
    constructor
    · rintro ⟨_, k, h1, h2⟩
      have := hk k h1
      exact ⟨k, h1, by omega, by omega⟩
    · rintro ⟨k, h1, h2, h3⟩
      exact ⟨hi, k, h1, by rw [h2, h3]; omega⟩
  constructor
  · rintro ⟨i, hi, j, hj, hne, h1, h2⟩
    obtain ⟨a, a1, a2, a3⟩ := (tb i hi).mp h1
    obtain ⟨b, b1, b2, b3⟩ := (tb j hj).mp h2
    rcases (show a < b ∨ b < a ∨ a = b by omega) with c | c | c
    · exact ⟨b, b1, a, c, by rw [a3, b3]; exact fun y => hne y.symm, by rw [a2, b2], b2⟩
    · exact ⟨a, a1, b, c, by rw [a3, b3]; exact hne, by rw [a2, b2], a2⟩
    · subst c; exact absurd (a3.symm.trans b3) hne
  · rintro ⟨k, h1, o, h2, h3, h4, h5⟩
    exact ⟨kd k, hk k h1, kd o, hk o (by omega), h3, (tb _ (hk k h1)).mpr ⟨k, h1, h5, rfl⟩, (tb _ (hk o (by omega))).mpr ⟨o, by omega, by omega, rfl⟩⟩
theorem skA_bit (f : Nat → Bool) : ∀ n p, ((skA f n).testBit p = true) ↔ p < n ∧ f p = true
  | 0, p => by
    constructor
    · intro h; simp [skA] at h
    · rintro ⟨h, _⟩; omega
  | n + 1, p => by
    rw [skA, Nat.testBit_or, Bool.or_eq_true, skA_bit f n p]
    by_cases c : f n = true
    · rw [if_pos c, Nat.one_mul, Nat.testBit_two_pow]
      constructor
      · rintro (h | h)
        · exact ⟨by omega, h.2⟩
        · have e : n = p := by simpa using h
          subst e; exact ⟨by omega, c⟩
      · rintro ⟨h1, h2⟩
        by_cases e : n = p
        · exact Or.inr (by simpa using e)
        · exact Or.inl ⟨by omega, h2⟩
    · rw [if_neg c, Nat.zero_testBit]
      constructor
      · rintro (h | h)
        · exact ⟨by omega, h.2⟩
        · exact absurd h (by decide)
      · rintro ⟨h1, h2⟩
        by_cases e : n = p
        · subst e; exact absurd h2 c
        · exact Or.inl ⟨by omega, h2⟩
theorem mxO_bit {kd pn : Nat → Nat} {k p : Nat} : ∀ o acc, ((mxO kd pn k o acc).testBit p = true) ↔ (acc.testBit p = true ∨ ∃ q, q < o ∧ kd k ≠ kd q ∧ pn k = pn q ∧ pn k = p)
  | 0, acc => by
    constructor
    · intro h; exact Or.inl h
    · rintro (h | ⟨q, h, _⟩)
      · exact h
      · omega
  | o + 1, acc => by
    rw [mxO, Nat.testBit_or, Bool.or_eq_true, mxO_bit o acc]
    by_cases c : kd k ≠ kd o ∧ pn k = pn o
    · rw [if_pos c, Nat.one_mul, Nat.testBit_two_pow]
      constructor
      · rintro ((h | ⟨q, h1, h2⟩) | h)
        · exact Or.inl h
        · exact Or.inr ⟨q, by omega, h2⟩
        · exact Or.inr ⟨o, by omega, c.1, c.2, by simpa using h⟩
      · rintro (h | ⟨q, h1, h2, h3, h4⟩)
        · exact Or.inl (Or.inl h)
        · by_cases e : q = o
          · exact Or.inr (by simpa using h4)
          · exact Or.inl (Or.inr ⟨q, by omega, h2, h3, h4⟩)
    · rw [if_neg c, Nat.zero_testBit]
      constructor
      · rintro ((h | ⟨q, h1, h2⟩) | h)
        · exact Or.inl h
        · exact Or.inr ⟨q, by omega, h2⟩
        · exact absurd h (by decide)
      · rintro (h | ⟨q, h1, h2, h3, h4⟩)
        · exact Or.inl (Or.inl h)
        · by_cases e : q = o
          · subst e; exact absurd ⟨h2, h3⟩ c
          · exact Or.inl (Or.inr ⟨q, by omega, h2, h3, h4⟩)
theorem mxK_bit {kd pn : Nat → Nat} {p : Nat} : ∀ n, ((mxK kd pn n).testBit p = true) ↔ ∃ k, k < n ∧ ∃ o, o < k ∧ kd k ≠ kd o ∧ pn k = pn o ∧ pn k = p
  | 0 => by
    constructor
    · intro h; simp [mxK] at h
    · rintro ⟨k, h, _⟩; omega
  | n + 1 => by
    rw [mxK, mxO_bit, mxK_bit n]
    constructor
    · rintro (⟨k, h1, h2⟩ | ⟨q, h1, h2⟩)
      · exact ⟨k, by omega, h2⟩
      · exact ⟨n, by omega, q, h1, h2⟩
    · rintro ⟨k, h1, o, h2⟩
      rcases (show k < n ∨ k = n by omega) with c | c
      · exact Or.inl ⟨k, c, o, h2⟩
      · subst c; exact Or.inr ⟨o, h2⟩
theorem mx_eq {kd pn : Nat → Nat} {n P : Nat} (hk : ∀ k, k < n → kd k < 6 ∧ pn k < P) : skA (mxF kd pn n) P = mxK kd pn n := by
  apply Nat.eq_of_testBit_eq
  intro p
  rw [Bool.eq_iff_iff, skA_bit, mxK_bit, mxF_iff (fun k h => (hk k h).1)]
  constructor
  · exact fun h => h.2
  · intro h
    refine ⟨?_, h⟩
    obtain ⟨k, h1, o, h2, h3, h4, h5⟩ := h
    have := (hk k h1).2
    omega
