theorem stA_st {P : Nat → Nat} (hP : okP P) {sk kd h s : Nat} {u : Nat → Nat} (hh : h < P 2) (hs : s < 2 ^ P 2) : stA P sk kd h s u < 2 ^ P 2 := by
  have ht := okP_t hP hh
  have e1 : 2 ^ h < 2 ^ P 2 := Nat.pow_lt_pow_right (by decide) hh
  unfold stA
  split
  · unfold turnA
    split
    · have e2 : 2 ^ (P (4 + 4 * h + 2) - 1) < 2 ^ P 2 := Nat.pow_lt_pow_right (by decide) (by omega)
      exact Nat.xor_lt_two_pow (Nat.xor_lt_two_pow hs e1) e2
    · exact Nat.xor_lt_two_pow hs e1
  · exact hs
theorem goA_st {P : Nat → Nat} (hP : okP P) {sk kd : Nat} : ∀ (n h s : Nat) (u : Nat → Nat), h < P 2 → s < 2 ^ P 2 → (goA P sk kd n h s u).2.1 < 2 ^ P 2 := by
  intro n
  induction n with
  | zero => intro h s u _ hs; exact hs
  | succ n ih =>
    intro h s u hh hs
    have hw := wayA_lt hP (sk := sk) (kd := kd) (s := s) hh
    have h6 := hP.1
    by_cases c : P (4 + 4 * h + toA P sk kd h s) < 10
    · rw [goA_s1 c]; exact stA_st hP hh hs
    · rw [goA_s2 c]; exact ih _ _ _ (by omega) (stA_st hP hh hs)
theorem pushA_n {kd h k : Nat} {u : Nat → Nat} (hk : k ≠ h) : pushA kd h u k = u k := by
  unfold pushA
  split
  · exact if_neg hk
  · rfl
theorem pushA_1 {kd h k : Nat} {u : Nat → Nat} : pushA kd h u k ≤ u k + 1 := by
  unfold pushA
  split
  · show (if k = h then u h + 1 else u k) ≤ _
    split
    · rename_i e; rw [e]; exact Nat.le_refl _
    · omega
  · omega
theorem goA_pu {P : Nat → Nat} (hP : okP P) {sk kd : Nat} : ∀ (n h s : Nat) (u : Nat → Nat), h < P 2 → ∀ k, (goA P sk kd n h s u).2.2 k ≤ u k + 1 ∧ (h < k → (goA P sk kd n h s u).2.2 k = u k) := by
  intro n
  induction n with
  | zero => intro h s u _ k; exact ⟨Nat.le_succ _, fun _ => rfl⟩
  | succ n ih =>
    intro h s u hh k
    have hw := wayA_lt hP (sk := sk) (kd := kd) (s := s) hh
    have h6 := hP.1
    by_cases c : P (4 + 4 * h + toA P sk kd h s) < 10
    · rw [goA_s1 c]; exact ⟨pushA_1, fun hk => pushA_n (by omega)⟩
    · rw [goA_s2 c]
      have i1 := ih (P (4 + 4 * h + toA P sk kd h s) - 10) (stA P sk kd h s u) (pushA kd h u) (by omega) k
      by_cases hk : P (4 + 4 * h + toA P sk kd h s) - 10 < k
      · rw [i1.2 hk]
        exact ⟨pushA_1, fun hk => pushA_n (by omega)⟩
      · have e := pushA_n (kd := kd) (h := h) (k := k) (u := u) (by omega)
        rw [e] at i1
        exact ⟨i1.1, fun q => by omega⟩
theorem goR_1 {R : Nat → Nat} (hP : okP R) (hs : R 40 < 2 ^ R 2) (sk b : Nat) : (goR R sk b).1 < R 1 ∧ (goR R sk b).2.1 < 2 ^ R 2 ∧ Z5 (goR R sk b).2.2 ∧ ∀ k, (goR R sk b).2.2 k ≤ uM R 0 k + 1 := by
  have h2 := hP.2.1
  have h5 := hP.2.2.1
  have hs32 : R 40 < 32 := Nat.lt_of_lt_of_le hs (Nat.pow_le_pow_right (n := 2) (by decide) h5)
  exact ⟨(goA_ok hP 5 _ _ _ (by omega) (by omega) hs32).1, goA_st hP 5 _ _ _ (by omega) hs, Z5_goA hP 5 _ _ _ (by omega) (Z5_uM _ _), fun k => (goA_pu hP 5 _ _ _ (by omega) k).1⟩
theorem runR_lo {R : Nat → Nat} {b k : Nat} (hk : k < 40) : runR R b k = R k := by
  unfold runR
  rw [va_up_n (by omega), va_up_n (by omega), putM_lo (by omega)]
theorem runR_hi {R : Nat → Nat} {b k : Nat} (hp : (goR R 99 b).1 < 6) (hk : 58 ≤ k) : runR R b k = R k := by
  unfold runR
  rw [va_up_n (by omega), va_up_n (by omega), putM_hi (by omega)]
theorem runR_40 {R : Nat → Nat} {b : Nat} : runR R b 40 = (goR R 99 b).2.1 := by
  unfold runR
  rw [va_up_n (by omega), va_up_n (by omega)]
  exact putM_at
theorem runR_pu {R : Nat → Nat} {b j : Nat} (hj : j < 5) : runR R b (41 + j) = (goR R 99 b).2.2 j := by
  unfold runR
  rw [va_up_n (by omega), va_up_n (by omega)]
  have h := putM_pu (R := R) (base := 0) (s := (goR R 99 b).2.1) (u := (goR R 99 b).2.2) hj
  rwa [show 0 + 41 + j = 41 + j by omega] at h
theorem runR_ct {R : Nat → Nat} {b p : Nat} (hp : p < 6) : runR R b (46 + p) = if p = (goR R 99 b).1 then R (46 + p) + 1 else R (46 + p) := by
  unfold runR
  rw [va_up_n (by omega)]
  split
  · rename_i e
    rw [← e]; exact va_up_s
  · rw [va_up_n (by omega), putM_hi (by omega)]
theorem runR_hv {R : Nat → Nat} {b p : Nat} (hp : p < 6) (hg : (goR R 99 b).1 < 6) : runR R b (52 + p) = if p = (goR R 99 b).1 then R (52 + p) + R (24 + 2 * b + 1) else R (52 + p) := by
  unfold runR
  split
  · rename_i e
    rw [← e]; exact va_up_s
  · rw [va_up_n (by omega), va_up_n (by omega), putM_hi (by omega)]
theorem runR_P {R : Nat → Nat} {b : Nat} : eqP (runR R b) R := fun _ hk => runR_lo hk
theorem okM_run {R : Nat → Nat} (hP : okP R) (hM : okM R (fun k => R (40 + k))) {b : Nat} (hb : b < R 3) (hf : inP R < 9999) : okM (runR R b) (fun k => runR R b (40 + k)) := by
  obtain ⟨m1, m2, m3, m4⟩ := hM
  have hg := goR_1 hP m1 99 b
  have h6 := hP.1
  have hpen : (goR R 99 b).1 < 6 := by omega
  have hv := (hP.2.2.2.2.2 b hb).2.2
  have hc : cntM (fun k => runR R b (40 + k)) = cntM (fun k => R (40 + k)) + 1 := by
    have c0 : runR R b 46 = _ := runR_ct (p := 0) (by decide)
    have c1 : runR R b 47 = _ := runR_ct (p := 1) (by decide)
    have c2 : runR R b 48 = _ := runR_ct (p := 2) (by decide)
    have c3 : runR R b 49 = _ := runR_ct (p := 3) (by decide)
    have c4 : runR R b 50 = _ := runR_ct (p := 4) (by decide)
    have c5 : runR R b 51 = _ := runR_ct (p := 5) (by decide)
    show runR R b 46 + runR R b 47 + runR R b 48 + runR R b 49 + runR R b 50 + runR R b 51 = R 46 + R 47 + R 48 + R 49 + R 50 + R 51 + 1
    rw [c0, c1, c2, c3, c4, c5]
    generalize (goR R 99 b).1 = z at hpen
    match z, hpen with
    | 0, _ => simp; omega
    | 1, _ => simp; omega
    | 2, _ => simp; omega
    | 3, _ => simp; omega
    | 4, _ => simp; omega
    | 5, _ => simp; omega
  have hin : inP R = cntM (fun k => R (40 + k)) := by
    show 0 + R 46 + R 47 + R 48 + R 49 + R 50 + R 51 = R 46 + R 47 + R 48 + R 49 + R 50 + R 51
    omega
  refine ⟨?_, ?_, ?_, ?_⟩
  · show runR R b 40 < 2 ^ runR R b 2
    rw [runR_40, runR_lo (by decide)]
    exact hg.2.1
  · intro h hh
    show runR R b (40 + (1 + h)) ≤ _
    rw [show 40 + (1 + h) = 41 + h by omega, runR_pu hh, hc]
    have a := hg.2.2.2 h
    rw [uM_at hh] at a
    have c : R (40 + (1 + h)) ≤ cntM (fun k => R (40 + k)) := m2 h hh
    rw [show 40 + (1 + h) = 0 + 41 + h by omega] at c
    omega
  · rw [hc]
    omega
  · intro p hp
    have a : R (40 + (12 + p)) ≤ 99 * R (40 + (6 + p)) := m4 p hp
    show runR R b (40 + (12 + p)) ≤ 99 * runR R b (40 + (6 + p))
    rw [show 40 + (12 + p) = 52 + p by omega, show 40 + (6 + p) = 46 + p by omega] at a ⊢
    rw [runR_ct hp, runR_hv hp hpen]
    split <;> omega
theorem okM_P {P P' m : Nat → Nat} (e : P 2 = P' 2) (h : okM P m) : okM P' m := by
  obtain ⟨a, b⟩ := h
  exact ⟨by rw [← e]; exact a, b⟩
/-- the pasts that are kept when one more is kept -/
theorem kp_ok {P pa R : Nat → Nat} {pm : Nat} (hpm : pm ≤ 24) (h : ∀ i, i < pm → okM P (fun k => pa (18 * i + k))) (hR : okM P (fun k => R (40 + k))) : ∀ i, i < kpN pm → okM P (fun k => kpP pa R pm (18 * i + k)) := by
  have ext : ∀ (f f' : Nat → Nat), (∀ k, k < 18 → f k = f' k) → okM P f' → okM P f := by
    intro f f' e hm
    obtain ⟨a, b, c, d⟩ := hm
    have ec : cntM f = cntM f' := by simp only [cntM, e 6 (by decide), e 7 (by decide), e 8 (by decide), e 9 (by decide), e 10 (by decide), e 11 (by decide)]
    exact ⟨by rw [e 0 (by decide)]; exact a, fun j hj => by rw [e _ (by omega), ec]; exact b j hj, by rw [ec]; exact c, fun p hp => by rw [e _ (by omega), e _ (by omega)]; exact d p hp⟩
  intro i hi
  by_cases c : pm = 24
  · rw [kpN, if_pos c] at hi
    by_cases h23 : i < 23
    · refine ext _ (fun k => pa (18 * (i + 1) + k)) ?_ (h (i + 1) (by omega))
      intro k hk
      show kpP pa R pm (18 * i + k) = _
      rw [kpP, if_pos c, cpy_out (by omega), cpy_in (by omega) (by omega)]
      exact congrArg pa (by omega)
    · refine ext _ _ ?_ hR
      intro k hk
      show kpP pa R pm (18 * i + k) = _
      rw [kpP, if_pos c, cpy_in (by omega) (by omega)]
      exact congrArg R (by omega)
  · rw [kpN, if_neg c] at hi
    by_cases h23 : i < pm
    · refine ext _ _ ?_ (h i h23)
      intro k hk
      show kpP pa R pm (18 * i + k) = _
      rw [kpP, if_neg c, cpy_out (by omega)]
    · refine ext _ _ ?_ hR
      intro k hk
      show kpP pa R pm (18 * i + k) = _
      rw [kpP, if_neg c, cpy_in (by omega) (by omega)]
      exact congrArg R (by omega)
theorem kpN_le {pm : Nat} (h : pm ≤ 24) : kpN pm ≤ 24 := by unfold kpN; split <;> omega
/-- another row of which what is behind 58 is the same -/
theorem okR_new {R R' : Nat → Nat} (h : okR R) (e : ∀ k, 58 ≤ k → k < 174 → R' k = R k) (h0 : R' 0 = 1) (hP : okP R') (hM : okM R' (fun k => R' (40 + k))) : okR R' := by
  refine ⟨Or.inl ⟨h0, hP, hM⟩, ?_⟩
  intro i hi
  have ei : ∀ k, k < 58 → R' (58 * (1 + i) + k) = R (58 * (1 + i) + k) := fun k hk => e _ (by omega) (by omega)
  have e0 : R' (58 * (1 + i)) = R (58 * (1 + i)) := ei 0 (by decide)
  rcases h.2 i hi with ⟨a, b, c⟩ | a
  · refine Or.inl ⟨by rw [e0]; exact a, ?_, ?_⟩
    · exact okP_eq (fun k hk => ei k (by omega)) b
    · obtain ⟨c1, c2, c3, c4⟩ := c
      have ec : ∀ k, k < 18 → R' (58 * (1 + i) + 40 + k) = R (58 * (1 + i) + 40 + k) := fun k hk => by rw [show 58 * (1 + i) + 40 + k = 58 * (1 + i) + (40 + k) by omega]; exact ei _ (by omega)
      have en : cntM (fun k => R' (58 * (1 + i) + 40 + k)) = cntM (fun k => R (58 * (1 + i) + 40 + k)) := by simp only [cntM, ec 6 (by decide), ec 7 (by decide), ec 8 (by decide), ec 9 (by decide), ec 10 (by decide), ec 11 (by decide)]
      refine ⟨?_, ?_, by rw [en]; exact c3, ?_⟩
      · show R' (58 * (1 + i) + 40 + 0) < 2 ^ R' (58 * (1 + i) + 2)
        rw [ec 0 (by decide), ei 2 (by decide)]; exact c1
      · intro j hj
        show R' (58 * (1 + i) + 40 + (1 + j)) ≤ _
        rw [ec _ (by omega), en]; exact c2 j hj
      · intro p hp
        show R' (58 * (1 + i) + 40 + (12 + p)) ≤ 99 * R' (58 * (1 + i) + 40 + (6 + p))
        rw [ec _ (by omega), ec _ (by omega)]; exact c4 p hp
  · exact Or.inr (by rw [e0]; exact a)
theorem RI_runS {S : RS} (h : RI S) {b : Nat} (hb : b < S.1 0 3) (hf : inP (S.1 0) < 9999) : RI (runS b S) := by
  have hq := RI_P h (Or.inr (Or.inl (by omega)))
  obtain ⟨h0, hP, hM⟩ := hq
  obtain ⟨r1, r2, r3, r4, r5⟩ := h
  have hg := goR_1 hP hM.1 99 b
  have h6 := hP.1
  have e2 : runR (S.1 0) b 2 = S.1 0 2 := runR_lo (by decide)
  refine ⟨okR_new r1 (fun k hk _ => runR_hi (by omega) hk) ?_ (okP_eq runR_P hP) (okM_run hP hM hb hf), kpN_le r2, ?_, ?_, r5⟩
  · show runR (S.1 0) b 0 = 1
    rw [runR_lo (by decide)]; exact h0
  · intro hz
    exfalso
    have hz : runR (S.1 0) b 0 = 0 := hz
    rw [runR_lo (by decide), h0] at hz
    exact absurd hz (by decide)
  · exact fun i hi => okM_P e2.symm (kp_ok r2 r4 hM i hi)
