theorem pig : ∀ (N : Nat) (A : Nat → Nat), (∀ i, i < N + 1 → A i < N) → ∃ i j, i < j ∧ j < N + 1 ∧ A i = A j := by
  intro N
  induction N with
  | zero => intro A h; exact absurd (h 0 (by omega)) (Nat.not_lt_zero _)
  | succ N ih =>
    intro A h
    by_cases c : ∃ j, j < N + 1 ∧ A j = A (N + 1)
    · obtain ⟨j, h1, h2⟩ := c
      exact ⟨j, N + 1, h1, by omega, h2⟩
    · have hne : ∀ j, j < N + 1 → A j ≠ A (N + 1) := fun j hj e => c ⟨j, hj, e⟩
      have hl := h (N + 1) (by omega)
      obtain ⟨i, j, h1, h2, h3⟩ := ih (fun i => if A i = N then A (N + 1) else A i) (fun i hi => by
        have a := h i (by omega)
        have b := hne i hi
        show (if A i = N then A (N + 1) else A i) < N
        split <;> omega)
      have h3 : (if A i = N then A (N + 1) else A i) = (if A j = N then A (N + 1) else A j) := h3
      refine ⟨i, j, h1, by omega, ?_⟩
      by_cases ci : A i = N <;> by_cases cj : A j = N
      · rw [ci, cj]
      · rw [if_pos ci, if_neg cj] at h3; exact absurd h3.symm (hne j h2)
      · rw [if_neg ci, if_pos cj] at h3; exact absurd h3 (hne i (by omega))
      · rwa [if_neg ci, if_neg cj] at h3
/-- the first time that a number comes again -/
def rnd (A : Nat → Nat) (t n : Nat) : Prop := t < n ∧ A n = A t ∧ ∀ i j, i < j → j < n → A i ≠ A j
theorem rnd_ex (A : Nat → Nat) : ∀ j, (∃ i, i < j ∧ A i = A j) → ∃ t n, n ≤ j ∧ rnd A t n := by
  intro j
  induction j using Nat.strongRecOn with
  | _ j ih =>
    rintro ⟨i, hi, e⟩
    by_cases c : ∃ a b, a < b ∧ b < j ∧ A a = A b
    · obtain ⟨a, b, h1, h2, h3⟩ := c
      obtain ⟨t, n, h4, h5⟩ := ih b h2 ⟨a, h1, h3⟩
      exact ⟨t, n, by omega, h5⟩
    · exact ⟨i, j, Nat.le_refl _, hi, e.symm, fun a b h1 h2 h3 => c ⟨a, b, h1, h2, h3⟩⟩
theorem rnd_un {A : Nat → Nat} {t n t' n' : Nat} (h : rnd A t n) (h' : rnd A t' n') : t = t' ∧ n = n' := by
  obtain ⟨a1, a2, a3⟩ := h
  obtain ⟨b1, b2, b3⟩ := h'
  have e : n = n' := by
    rcases Nat.lt_trichotomy n n' with c | c | c
    · exact absurd a2.symm (b3 t n a1 c)
    · exact c
    · exact absurd b2.symm (a3 t' n' b1 c)
  subst e
  refine ⟨?_, rfl⟩
  rcases Nat.lt_trichotomy t t' with c | c | c
  · exact absurd (a2.symm.trans b2) (a3 t t' c b1)
  · exact c
  · exact absurd (b2.symm.trans a2) (a3 t' t c a1)
section RND
variable {A : Nat → Nat} {t n : Nat}
/-- A goes on by its own value alone -/
theorem rnd_per (hA : ∀ i j, A i = A j → A (i + 1) = A (j + 1)) (h : rnd A t n) : ∀ i, t ≤ i → A (i + (n - t)) = A i := by
  intro i hi
  obtain ⟨d, rfl⟩ : ∃ d, i = t + d := ⟨i - t, by omega⟩
  clear hi
  induction d with
  | zero => have := h.1; rw [show t + 0 + (n - t) = n by omega]; exact h.2.1
  | succ d ih =>
    have := hA _ _ ih
    rwa [show t + d + (n - t) + 1 = t + (d + 1) + (n - t) by omega, show t + d + 1 = t + (d + 1) by omega] at this
theorem rnd_sh (hA : ∀ i j, A i = A j → A (i + 1) = A (j + 1)) {i j : Nat} (e : A i = A j) : ∀ k, A (i + k) = A (j + k)
  | 0 => e
  | k + 1 => hA _ _ (rnd_sh hA e k)
theorem rnd_red (hA : ∀ i j, A i = A j → A (i + 1) = A (j + 1)) (h : rnd A t n) : ∀ i, ∃ r, r < n ∧ A i = A r ∧ (i < n → r = i) ∧ (t ≤ i → t ≤ r) ∧ ∃ q, i = r + q * (n - t) := by
  intro i
  induction i using Nat.strongRecOn with
  | _ i ih =>
    by_cases c : i < n
    · exact ⟨i, c, rfl, fun _ => rfl, fun y => y, 0, by omega⟩
    · have h1 := h.1
      obtain ⟨r, a1, a2, a3, a4, q, a5⟩ := ih (i - (n - t)) (by omega)
      have p := rnd_per hA h (i - (n - t)) (by omega)
      rw [show i - (n - t) + (n - t) = i by omega] at p
      refine ⟨r, a1, p.trans a2, fun y => absurd y c, fun _ => a4 (by omega), q + 1, ?_⟩
      rw [Nat.succ_mul]; omega
/-- the first return to a place behind it is a round -/
theorem rnd_len (hA : ∀ i j, A i = A j → A (i + 1) = A (j + 1)) (h : rnd A t n) {m l : Nat} (hl : 1 ≤ l) (e : A (m + l) = A m) (hm : ∀ k, 1 ≤ k → k < l → A (m + k) ≠ A m) : t ≤ m ∧ l = n - t := by
  have h1 := h.1
  have ht : t ≤ m := by
    refine Classical.byContradiction fun c => ?_
    obtain ⟨r, a1, a2, a3, a4, q, a5⟩ := rnd_red hA h (m + l)
    by_cases c2 : m + l < n
    · exact h.2.2 m (m + l) (by omega) c2 e.symm
    · have : t ≤ r := a4 (by omega)
      exact h.2.2 m r (by omega) a1 (e.symm.trans a2)
  refine ⟨ht, ?_⟩
  have hp := rnd_per hA h m ht
  rcases Nat.lt_trichotomy l (n - t) with c | c | c
  · exfalso
    obtain ⟨r, a1, a2, a3, a4, q, a5⟩ := rnd_red hA h m
    have ar := a4 ht
    -- the same at r
    have e2 : A (r + l) = A r := by
      have e3 : A (m + l) = A (r + l) := rnd_sh hA a2 l
      rw [← e3, e, a2]
    by_cases c3 : r + l < n
    · exact h.2.2 r (r + l) (by omega) c3 e2.symm
    · have e4 := rnd_per hA h (r + l - (n - t)) (by omega)
      rw [show r + l - (n - t) + (n - t) = r + l by omega] at e4
      exact h.2.2 (r + l - (n - t)) r (by omega) a1 (e4.symm.trans e2)
  · exact c
  · exact absurd hp (hm (n - t) (by omega) c)
theorem rnd_t (hA : ∀ i j, A i = A j → A (i + 1) = A (j + 1)) (h : rnd A t n) {m : Nat} (e : A (m + (n - t)) = A m) : t ≤ m := by
  have h1 := h.1
  refine Classical.byContradiction fun c => ?_
  obtain ⟨r, a1, a2, a3, a4, q, a5⟩ := rnd_red hA h (m + (n - t))
  by_cases c2 : m + (n - t) < n
  · exact h.2.2 m (m + (n - t)) (by omega) c2 e.symm
  · have : t ≤ r := a4 (by omega)
    exact h.2.2 m r (by omega) a1 (e.symm.trans a2)
end RND
theorem aS_go {R : Nat → Nat} {b s0 : Nat} : ∀ i j, aS R b s0 i = aS R b s0 j → aS R b s0 (i + 1) = aS R b s0 (j + 1) := fun i j e => by
  show nxN R (aS R b s0 i) b = nxN R (aS R b s0 j) b
  rw [e]
theorem aS_okN {R : Nat → Nat} (hP : okP R) {b s0 : Nat} (h : okN R s0) : ∀ i, okN R (aS R b s0 i)
  | 0 => h
  | i + 1 => okN_nx hP (okN_m hP (aS_okN hP h i)).2
theorem aS_rnd {R : Nat → Nat} (hP : okP R) {b s0 : Nat} (h0 : s0 < 7776) (hs : s0 % 32 < 2 ^ R 2) : ∃ t n, n ≤ 7776 ∧ rnd (aS R b s0) t n := by
  obtain ⟨i, j, h1, h2, h3⟩ := pig 7776 (aS R b s0) (fun i _ => (aS_ok hP h0 hs i).1)
  obtain ⟨t, n, h4, h5⟩ := rnd_ex (aS R b s0) j ⟨i, h1, h3⟩
  exact ⟨t, n, by omega, h5⟩
def brP (A : Nat → Nat) (m : Nat) : Prop := m = 0 ∨ ∃ q, m = 2 * q + 1 ∧ ∀ k, 1 ≤ k → k ≤ q + 1 → A (q + k) ≠ A q
theorem brent_b {A : Nat → Nat} {t n m l : Nat} (hA : ∀ i j, A i = A j → A (i + 1) = A (j + 1)) (h : rnd A t n) (hn : n ≤ 7776) (hl : l < m + 1) (hp : brP A m) : m + l < 31104 := by
  refine Classical.byContradiction fun c => ?_
  rcases hp with y | ⟨q, y1, y2⟩
  · omega
  · have h1 := h.1
    exact y2 (n - t) (by omega) (by omega) (rnd_per hA h q (by omega))
theorem sndD_num {P : Nat → Nat} (hP : okP P) {b : Nat} {D : Nat → Nat → Nat} (hs : D 0 0 < 2 ^ P 2) : numA P (sndD P 99 b D 0 0) (sndD P 99 b D 1) = nxN P (numA P (D 0 0) (D 1)) b := nxN_num hP hs
theorem aS_L {L : Nat → Nat → Nat} {R : Nat → Nat} (hl : plOK L R) (hP : okP R) {b s0 : Nat} (hb : b < R 3) : ∀ i, aS (plP L) b s0 i = aS R b s0 i
  | 0 => rfl
  | i + 1 => by
    show nxN (plP L) (aS (plP L) b s0 i) b = nxN R (aS R b s0 i) b
    rw [aS_L hl hP hb i, nxN_L hl hP hb]
