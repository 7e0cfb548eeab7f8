theorem srI_L {L : Nat → Nat → Nat} {R : Nat → Nat} (hl : plOK L R) (hP : okP R) {s0 c n : Nat} {C : Nat → Nat} {Pr F : Nat → Int32} (h : srI (plP L) s0 c n C Pr F) : srI R s0 c n C Pr F := by
  obtain ⟨pr, dp, h1, h2, h3, h4, h5, h6⟩ := h
  have e3 : plP L 3 = R 3 := hl.2.2.1
  have e2 : plP L 2 = R 2 := hl.2.1
  rw [e3] at h1
  rw [e2] at h5
  exact ⟨pr, dp, bT_ext (fun v b hb => (nxN_L hl hP hb).symm) h1, h2, h3, h4, h5, h6⟩
theorem bT_un {nx : Nat → Nat → Nat} {B s0 : Nat} (hB8 : B ≤ 8) {Q pr dp Q' pr' dp' : Nat → Nat} {n n' : Nat} (h : bT nx B s0 (8 * n) Q pr dp n) (h' : bT nx B s0 (8 * n') Q' pr' dp' n') : n = n' ∧ ∀ p, p < n → Q p = Q' p ∧ dp p = dp' p ∧ (0 < p → pr p = pr' p) := by
  have a := bT_uniq hB8 h h'
  have b := bT_uniq hB8 h' h
  have h1 := h.1.1
  have h2 := h'.1.1
  have a1 := (a (n - 1) (by omega)).1
  have b1 := (b (n' - 1) (by omega)).1
  exact ⟨by omega, fun p hp => ⟨(a p hp).2.1, (a p hp).2.2.2, (a p hp).2.2.1⟩⟩
theorem srF_iff {R : Nat → Nat} {s0 n : Nat} {C : Nat → Nat} {Pr F : Nat → Int32} (h : srI R s0 (8 * n) n C Pr F) {s : Nat} (hs : s < 32) : (¬ F s < 0) ↔ ∃ i, i < n ∧ C i % 32 = s := by
  obtain ⟨pr, dp, h1, h2, h3, h4, h5, h6⟩ := h
  rcases h6 s hs with ⟨a, b⟩ | ⟨f, f1, f2, f3, f4⟩
  · constructor
    · intro y; rw [a] at y; exact absurd (by decide) y
    · rintro ⟨i, hi, e⟩; exact absurd e (b i hi)
  · constructor
    · intro _; exact ⟨f, f1, f3⟩
    · intro _; rw [f2]; exact nI_pos (by omega)
theorem sonF_iff {F : Nat → Int32} {Q dp : Nat → Nat} {s n : Nat} (hF : farE F Q dp n) (hd : ∀ p, p < n → dp p ≤ p) : (¬ sonF F Q s n 0 = -1000000) ↔ ∃ i, i < n ∧ Q i % 32 = s := by
  rcases sonF_s (F := F) (Q := Q) (s := s) n 0 with ⟨a, b⟩ | ⟨t, t1, t2, t3, t4⟩
  · constructor
    · intro y; exact absurd b y
    · rintro ⟨i, hi, e⟩
      have := a i hi
      rw [Nat.zero_add] at this
      exact absurd e this
  · rw [Nat.zero_add] at t2 t4
    constructor
    · intro _; exact ⟨t, t1, t2⟩
    · intro _
      rw [t4, hF.2 t t1]
      have := hd t t1
      have := hF.1
      exact nI_nN (by omega)
theorem sfN_ge {F : Nat → Int32} {m : Nat} (h : ∀ s, m ≤ s → s < 32 → F s < 0) : ∀ k, m + k ≤ 32 → sfN F (m + k) = sfN F m
  | 0, _ => rfl
  | k + 1, hk => by
    show sfN F (m + k) + _ = _
    rw [if_neg (fun y => y (h (m + k) (by omega) (by omega))), sfN_ge h k (by omega)]
    rfl
theorem comes_eq {R : Nat → Nat} (hP : okP R) (hs : R 40 < 2 ^ R 2) {n : Nat} {C : Nat → Nat} {Pr F : Nat → Int32} (h : srI R (numA R (R 40) (uM R 0)) (8 * n) n C Pr F) {F0 : Nat → Int32} {Q0 : Nat → Nat} {K : Nat} (hb : bfsE R F0 Q0 K) : sfN F 32 = cmN (outQ R (q0 R F0 Q0) K) (2 ^ R 2) := by
  obtain ⟨pr', dp', b1, b2⟩ := bfsE_bT hP hs hb
  have h0 := h
  obtain ⟨pr, dp, h1, h2, h3, h4, h5, h6⟩ := h
  have hu := bT_un hP.2.2.2.1 h1 b1
  have hn : n = (outQ R (q0 R F0 Q0) K).2.2 := hu.1
  have hq : ∀ i, i < n → C i = (outQ R (q0 R F0 Q0) K).2.1 i := fun i hi => (hu.2 i hi).1
  have hp5 : 2 ^ R 2 ≤ 2 ^ 5 := Nat.pow_le_pow_right (by decide) hP.2.2.1
  have key : ∀ s, s ≤ 2 ^ R 2 → sfN F s = cmN (outQ R (q0 R F0 Q0) K) s := by
    intro s
    induction s with
    | zero => intro _; rfl
    | succ s ih =>
      intro hs2
      show sfN F s + (if ¬ F s < 0 then 1 else 0) = cmN (outQ R (q0 R F0 Q0) K) s + (if sonF (outQ R (q0 R F0 Q0) K).1 (outQ R (q0 R F0 Q0) K).2.1 s (outQ R (q0 R F0 Q0) K).2.2 0 = -1000000 then 0 else 1)
      rw [ih (by omega)]
      have e1 := srF_iff h0 (s := s) (by omega)
      have e2 := sonF_iff (s := s) b2 (fun p hp => (bT_dpm b1 p hp).1)
      have e3 : (∃ i, i < n ∧ C i % 32 = s) ↔ ∃ i, i < (outQ R (q0 R F0 Q0) K).2.2 ∧ (outQ R (q0 R F0 Q0) K).2.1 i % 32 = s := by
        constructor
        · rintro ⟨i, a, b⟩; exact ⟨i, by omega, by rw [← hq i a]; exact b⟩
        · rintro ⟨i, a, b⟩; exact ⟨i, by omega, by rw [hq i (by omega)]; exact b⟩
      by_cases c : F s < 0
      · have c2 : sonF (outQ R (q0 R F0 Q0) K).1 (outQ R (q0 R F0 Q0) K).2.1 s (outQ R (q0 R F0 Q0) K).2.2 0 = -1000000 := Classical.byContradiction fun y => (e1.mpr (e3.mpr (e2.mp y))) c
        rw [if_neg (fun y => y c), if_pos c2]
      · have c2 : ¬ sonF (outQ R (q0 R F0 Q0) K).1 (outQ R (q0 R F0 Q0) K).2.1 s (outQ R (q0 R F0 Q0) K).2.2 0 = -1000000 := e2.mpr (e3.mp (e1.mp c))
        rw [if_pos c, if_neg c2]
  have hge : ∀ s, 2 ^ R 2 ≤ s → s < 32 → F s < 0 := by
    intro s h1' h2'
    exact Classical.byContradiction fun y => by
      obtain ⟨i, hi, e⟩ := (srF_iff h0 h2').mp y
      have := (h5 i hi).2
      omega
  have e := sfN_ge hge (32 - 2 ^ R 2) (by omega)
  rw [show 2 ^ R 2 + (32 - 2 ^ R 2) = 32 by omega] at e
  rw [e]
  exact key _ (Nat.le_refl _)
theorem reach_eq {R : Nat → Nat} (hP : okP R) {s0 n : Nat} {C pr dp : Nat → Nat} (h1 : bT (nxN R) (R 3) s0 (8 * n) C pr dp n) {Q' pr' dp' : Nat → Nat} {n' : Nat} (h2 : bT (nxN R) (R 3) s0 (8 * n') Q' pr' dp' n') {s : Nat} {k z : Int32} (hk : ¬ k < -1) (hn8 : n ≤ 7776)
    (hz : ((∀ i, i < n' → Q' i % 32 ≠ s) ∧ z = -1000000) ∨ ∃ f, f < n' ∧ Q' f % 32 = s ∧ (∀ t, t < f → Q' t % 32 ≠ s) ∧ z = if k = -1 then nI (dp' f) else if nI (dp' f) ≤ k then -1000000 else nI (pr' (anc pr' f (dp' f - 1 - cl k)) % 8)) :
    ((∀ i, i < n → C i % 32 ≠ s) → z = -1000000) ∧ ∀ f, f < n → C f % 32 = s → (∀ t, t < f → C t % 32 ≠ s) → z = if k = -1 then nI (dp f) else if nI (dp f) ≤ k then -1000000 else nI (pr (anc pr f (dp f - 1 - cl k)) % 8) := by
  have hu := bT_un hP.2.2.2.1 h2 h1
  have hn : n' = n := hu.1
  subst hn
  have hq : ∀ i, i < n' → Q' i = C i := fun i hi => (hu.2 i hi).1
  constructor
  · intro a
    rcases hz with ⟨_, e⟩ | ⟨f, f1, f2, f3, f4⟩
    · exact e
    · exact absurd (by rw [← hq f f1]; exact f2) (a f f1)
  · intro f a b c
    rcases hz with ⟨d, e⟩ | ⟨f', f1, f2, f3, f4⟩
    · exact absurd (by rw [hq f a]; exact b) (d f a)
    · have ef : f' = f := by
        rcases Nat.lt_trichotomy f' f with y | y | y
        · exact absurd (by rw [← hq f' f1]; exact f2) (c f' y)
        · exact y
        · exact absurd (by rw [hq f a]; exact b) (f3 f y)
      subst ef
      have hd : dp' f' = dp f' := (hu.2 f' a).2.1
      have hanc : ∀ j, j ≤ dp f' → anc pr' f' j = anc pr f' j := by
        intro j
        induction j with
        | zero => intro _; rfl
        | succ j ih =>
          intro hj
          have g1 := bT_anc h1 a j (by omega)
          have e := ih (by omega)
          show pr' (anc pr' f' j) / 8 = pr (anc pr f' j) / 8
          rw [e, (hu.2 _ g1.1).2.2 (g1.2.2 (by omega))]
      rw [f4, hd]
      split
      · rfl
      · split
        · rfl
        · rename_i h8 h9
          have hdm := (bT_dpm h1 f' a).1
          have hin := i32_m1 hk h8 (Int32.not_le.mp h9) (by omega)
          have hcl := inR_cl hin (by omega)
          have g1 := bT_anc h1 a (dp f' - 1 - cl k) (by omega)
          rw [hanc _ (by omega), (hu.2 _ g1.1).2.2 (g1.2.2 (by omega))]
