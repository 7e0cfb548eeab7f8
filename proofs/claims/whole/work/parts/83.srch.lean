theorem pkN_L {L : Nat → Nat → Nat} {R : Nat → Nat} (hl : plOK L R) (hP : okP R) {c : Nat} : pkN (plP L) c = pkN R c := by
  have e2 : plP L 2 = R 2 := hl.2.1
  have e : ∀ k, pkD (plP L) (tkU c) k = pkD R (tkU c) k := by
    intro k
    induction k with
    | zero => rfl
    | succ k ih =>
      show (if _ then _ else pkD (plP L) (tkU c) k) = (if _ then _ else pkD R (tkU c) k)
      rw [ih, e2]
      by_cases y : 4 - k < R 2
      · rw [plOK_s hl hP y]
      · rw [if_neg (fun z => y z.1), if_neg (fun z => y z.1)]
  unfold pkN pkA
  rw [e, e2]
theorem okN_L {L : Nat → Nat → Nat} {R : Nat → Nat} (hl : plOK L R) (hP : okP R) {c : Nat} (h : okN (plP L) c) : okN R c := by
  obtain ⟨s, u, h1, h2⟩ := h
  rw [show plP L 2 = R 2 from hl.2.1] at h1
  rw [numA_L hl hP] at h2
  exact ⟨s, u, h1, h2⟩
theorem srI_L {L : Nat → Nat → Nat} {R : Nat → Nat} (hl : plOK L R) (hP : okP R) {s0 c n M : Nat} {Q O : Nat → Nat} {Pr F : Nat → Int32} (h : srI (plP L) s0 c n Q M O Pr F) : srI R s0 c n Q M O Pr F := by
  obtain ⟨pr, dp, h1, h2, h3, h4, h5, h6, h7⟩ := h
  have e3 : plP L 3 = R 3 := hl.2.2.1
  rw [e3] at h1
  simp only [srF, pkN_L hl hP] at h3 h4 h6 h7
  exact ⟨pr, dp, bT_ext (fun v b hb => (nxN_L hl hP hb).symm) h1, h2, h3, h4, fun i hi => okN_L hl hP (h5 i hi), h6, h7⟩
theorem bT_un {nx : Nat → Nat → Nat} {B s0 : Nat} (hB8 : B ≤ 8) {Q pr dp Q' pr' dp' : Nat → Nat} {n n' : Nat} (h : bT nx B s0 (8 * n) Q pr dp n) (h' : bT nx B s0 (8 * n') Q' pr' dp' n') : n = n' ∧ ∀ p, p < n → Q p = Q' p ∧ dp p = dp' p ∧ (0 < p → pr p = pr' p) := by
  have a := bT_uniq hB8 h h'
  have b := bT_uniq hB8 h' h
  have h1 := h.1.1
  have h2 := h'.1.1
  have a1 := (a (n - 1) (by omega)).1
  have b1 := (b (n' - 1) (by omega)).1
  exact ⟨by omega, fun p hp => ⟨(a p hp).2.1, (a p hp).2.2.2, (a p hp).2.2.1⟩⟩
theorem tnN_L {L : Nat → Nat → Nat} {R : Nat → Nat} (hl : plOK L R) (hP : okP R) : ∀ m, m ≤ R 2 → tnN (plP L) m = tnN R m
  | 0, _ => rfl
  | m + 1, h => by
    show tnN (plP L) m + (if plP L (4 + 4 * m + 3) = 2 then 0 else 1) = tnN R m + (if R (4 + 4 * m + 3) = 2 then 0 else 1)
    rw [tnN_L hl hP m (by omega), plOK_s hl hP (by omega)]
theorem srE_L {L : Nat → Nat → Nat} {R : Nat → Nat} (hl : plOK L R) (hP : okP R) {s0 n M : Nat} {O : Nat → Nat} {Pr F : Nat → Int32} (h : srE (plP L) s0 n M O Pr F) : srE R s0 n M O Pr F := by
  obtain ⟨Q, c, h1, h2, h3⟩ := h
  refine ⟨Q, c, srI_L hl hP h1, ?_, fun i hi => by rw [← pkN_L hl hP]; exact h3 i hi⟩
  rcases h2 with h2 | h2
  · exact Or.inl h2
  · rw [show plP L 2 = R 2 from hl.2.1, tnN_L hl hP _ (Nat.le_refl _)] at h2
    exact Or.inr h2
/-! posts never turn -/
theorem stA_pb {P : Nat → Nat} (hP : okP P) {kd h s x : Nat} {u : Nat → Nat} (hh : h < P 2) (hx : x < P 2) (hs : P (4 + 4 * x + 3) = 2) : (stA P 99 kd h s u).testBit x = s.testBit x := by
  have h25 := hP.2.2.1
  have s99 : ∀ z, z < P 2 → srtO P 99 z = P (4 + 4 * z + 3) := fun z hz => if_neg (by omega)
  unfold stA
  split
  · rename_i ht
    have hne : srtO P 99 h ≠ 2 := by
      intro e
      rcases ht with ⟨_, a | ⟨a, _⟩⟩ | ⟨_, a⟩
      · rw [e] at a; cases a
      · rw [e] at a; cases a
      · exact a (if_pos e)
    have hxh : h ≠ x := fun e => hne (by rw [s99 h hh, e]; exact hs)
    unfold turnA
    split
    · rename_i ht2
      have htl := okP_t hP hh
      have hxt : P (4 + 4 * h + 2) - 1 ≠ x := fun e => ht2.2 (by rw [s99 _ (by omega), e]; exact hs)
      rw [Nat.testBit_xor, Nat.testBit_xor, Nat.testBit_two_pow_of_ne hxh, Nat.testBit_two_pow_of_ne hxt, Bool.xor_false, Bool.xor_false]
    · rw [Nat.testBit_xor, Nat.testBit_two_pow_of_ne hxh, Bool.xor_false]
  · rfl
theorem goA_pb {P : Nat → Nat} (hP : okP P) {kd x : Nat} (hx : x < P 2) (hs : P (4 + 4 * x + 3) = 2) : ∀ (n h s : Nat) (u : Nat → Nat), h < P 2 → ((goA P 99 kd n h s u).2.1).testBit x = s.testBit x := by
  intro n
  induction n with
  | zero => intro h s u _; rfl
  | succ n ih =>
    intro h s u hh
    have hw := wayA_lt hP (sk := 99) (kd := kd) (s := s) hh
    have h6 := hP.1
    by_cases c : P (4 + 4 * h + toA P 99 kd h s) < 10
    · rw [goA_s1 c]; exact stA_pb hP hh hx hs
    · rw [goA_s2 c]
      exact (ih _ _ _ (by omega)).trans (stA_pb hP hh hx hs)
theorem nxN_pb {R : Nat → Nat} (hP : okP R) {n b x : Nat} (hn : n % 32 < 2 ^ R 2) (hx : x < R 2) (hs : R (4 + 4 * x + 3) = 2) : (nxN R n b % 32).testBit x = (n % 32).testBit x := by
  have hg := gOA_ok hP (sk := 99) (b := b) hn (Z5_tk n)
  have h32 := p32 hP hg.2.1
  have e : nxN R n b % 32 = (gOA R 99 b (n % 32) (tkU n)).2.1 := numA_mod h32
  rw [e]
  exact goA_pb hP hx hs 5 (R 2 - 1) (n % 32) (tkU n) (by have := hP.2.1; omega)
abbrev PBt (P : Nat → Nat) (s0 m s : Nat) : Prop := ∀ h, h < m → P (4 + 4 * h + 3) = 2 → s.testBit h = s0.testBit h
theorem bT_pb {R : Nat → Nat} (hP : okP R) {s0 c n : Nat} {Q pr dp : Nat → Nat} (h : bT (nxN R) (R 3) s0 c Q pr dp n) (hs : s0 % 32 < 2 ^ R 2) : ∀ i, i < n → Q i % 32 < 2 ^ R 2 ∧ PBt R (s0 % 32) (R 2) (Q i % 32) := by
  intro i
  induction i using Nat.strongRecOn with
  | _ i ih =>
    intro hi
    by_cases i0 : i = 0
    · subst i0
      rw [h.1.2.1]
      exact ⟨hs, fun _ _ _ => rfl⟩
    · obtain ⟨a1, a2, a3, a4, a5⟩ := h.2.1 i (by omega) hi
      obtain ⟨b1, b2⟩ := ih (pr i / 8) a3 (by omega)
      rw [a4]
      exact ⟨(nxN_ok hP b1).2, fun x hx hp => (nxN_pb hP b1 hx hp).trans (b2 x hx hp)⟩
/-! how many there could be -/
def ctB (p : Nat → Bool) : Nat → Nat
  | 0 => 0
  | n + 1 => ctB p n + (if p n = true then 1 else 0)
theorem ctB_le {p q : Nat → Bool} : ∀ n, (∀ s, s < n → p s = true → q s = true) → ctB p n ≤ ctB q n
  | 0, _ => Nat.le_refl 0
  | n + 1, h => by
    have ih := ctB_le n (fun s hs => h s (by omega))
    have hn := h n (by omega)
    show ctB p n + (if p n = true then 1 else 0) ≤ ctB q n + (if q n = true then 1 else 0)
    by_cases c : p n = true
    · rw [if_pos c, if_pos (hn c)]; omega
    · rw [if_neg c]; omega
theorem ctB_ev {p q : Nat → Bool} : ∀ n, (∀ s, s < n → p s = true → q s = true) → ctB q n ≤ ctB p n → ∀ s, s < n → q s = true → p s = true
  | 0, _, _ => fun s hs => absurd hs (Nat.not_lt_zero _)
  | n + 1, h, hc => by
    have h0 := ctB_le n (fun s hs => h s (by omega))
    have hn := h n (by omega)
    have hc : ctB q n + (if q n = true then 1 else 0) ≤ ctB p n + (if p n = true then 1 else 0) := hc
    have e : q n = true → p n = true := by
      intro c
      refine Classical.byContradiction fun y => ?_
      rw [if_pos c, if_neg y] at hc
      omega
    have hc2 : ctB q n ≤ ctB p n := by
      by_cases c : p n = true
      · rw [if_pos c, if_pos (hn c)] at hc; omega
      · rw [if_neg c] at hc; omega
    intro s hs
    by_cases es : s = n
    · rw [es]; exact e
    · exact ctB_ev n (fun s hs => h s (by omega)) hc2 s (by omega)
theorem ctB_add (p : Nat → Bool) (a : Nat) : ∀ b, ctB p (a + b) = ctB p a + ctB (fun t => p (a + t)) b
  | 0 => rfl
  | b + 1 => by
    show ctB p (a + b) + (if p (a + b) = true then 1 else 0) = ctB p a + (ctB (fun t => p (a + t)) b + (if p (a + b) = true then 1 else 0))
    rw [ctB_add p a b, Nat.add_assoc]
theorem ctB_0 {p : Nat → Bool} : ∀ n, (∀ s, s < n → ¬ p s = true) → ctB p n ≤ 0
  | 0, _ => Nat.le_refl 0
  | n + 1, h => by
    have ih := ctB_0 n (fun s hs => h s (by omega))
    show ctB p n + (if p n = true then 1 else 0) ≤ 0
    rw [if_neg (h n (by omega))]; omega
theorem ctB_pb (P : Nat → Nat) (s0 : Nat) : ∀ m, ctB (fun s => decide (PBt P s0 m s)) (2 ^ m) ≤ 2 ^ tnN P m
  | 0 => by
    show 0 + (if _ then 1 else 0) ≤ 1
    split <;> omega
  | m + 1 => by
    have ih := ctB_pb P s0 m
    have A : ∀ s, s < 2 ^ m → PBt P s0 (m + 1) s → PBt P s0 m s ∧ (P (4 + 4 * m + 3) = 2 → false = s0.testBit m) :=
      fun s hs h => ⟨fun x hx => h x (by omega), fun e => by rw [← h m (by omega) e]; exact (Nat.testBit_lt_two_pow hs).symm⟩
    have B : ∀ t, t < 2 ^ m → PBt P s0 (m + 1) (2 ^ m + t) → PBt P s0 m t ∧ (P (4 + 4 * m + 3) = 2 → true = s0.testBit m) :=
      fun t ht h => ⟨fun x hx e => by rw [← h x (by omega) e, Nat.testBit_two_pow_add_gt hx], fun e => by rw [← h m (by omega) e, Nat.testBit_two_pow_add_eq, Nat.testBit_lt_two_pow ht]; rfl⟩
    have e1 : ctB (fun s => decide (PBt P s0 (m + 1) s)) (2 ^ m) ≤ 2 ^ tnN P m := Nat.le_trans (ctB_le _ (fun s hs y => decide_eq_true (A s hs (of_decide_eq_true y)).1)) ih
    have e2 : ctB (fun t => decide (PBt P s0 (m + 1) (2 ^ m + t))) (2 ^ m) ≤ 2 ^ tnN P m := Nat.le_trans (ctB_le _ (fun s hs y => decide_eq_true (B s hs (of_decide_eq_true y)).1)) ih
    rw [show 2 ^ (m + 1) = 2 ^ m + 2 ^ m by rw [Nat.pow_succ]; omega, ctB_add]
    show ctB (fun s => decide (PBt P s0 (m + 1) s)) (2 ^ m) + ctB (fun t => decide (PBt P s0 (m + 1) (2 ^ m + t))) (2 ^ m) ≤ 2 ^ (tnN P m + (if P (4 + 4 * m + 3) = 2 then 0 else 1))
    by_cases c : P (4 + 4 * m + 3) = 2
    · rw [if_pos c]
      show _ ≤ 2 ^ tnN P m
      cases hb : s0.testBit m with
      | false =>
        have z := ctB_0 (p := fun t => decide (PBt P s0 (m + 1) (2 ^ m + t))) (2 ^ m) (fun t ht y => by
          have q := (B t ht (of_decide_eq_true y)).2 c
          rw [hb] at q; cases q)
        exact Nat.le_trans (Nat.add_le_add e1 z) (Nat.le_refl _)
      | true =>
        have z := ctB_0 (p := fun s => decide (PBt P s0 (m + 1) s)) (2 ^ m) (fun t ht y => by
          have q := (A t ht (of_decide_eq_true y)).2 c
          rw [hb] at q; cases q)
        exact Nat.le_trans (Nat.add_le_add z e2) (by omega)
    · rw [if_neg c, Nat.pow_succ]
      exact Nat.le_trans (Nat.add_le_add e1 e2) (by omega)
theorem sfN_ct (F : Nat → Int32) : ∀ m, sfN F m = ctB (fun t => decide (¬ F t < 0)) m
  | 0 => rfl
  | m + 1 => by
    show sfN F m + (if ¬ F m < 0 then 1 else 0) = ctB (fun t => decide (¬ F t < 0)) m + (if decide (¬ F m < 0) = true then 1 else 0)
    rw [sfN_ct F m]
    by_cases c : F m < 0
    · rw [if_neg (fun y => y c), if_neg (show ¬ decide (¬ F m < 0) = true from fun y => absurd c (of_decide_eq_true y))]
    · rw [if_pos c, if_pos (decide_eq_true c)]
theorem srF_iff {R : Nat → Nat} (hP : okP R) {s0 c n M : Nat} {Q O : Nat → Nat} {Pr F : Nat → Int32} (h : srI R s0 c n Q M O Pr F) {s : Nat} (hs : s < 32) : (¬ F s < 0) ↔ ∃ i, i < n ∧ Q i % 32 = s := by
  obtain ⟨pr, dp, h1, h2, h3, h4, h5, h6, h7⟩ := h
  rcases h6 s hs with ⟨a, b⟩ | ⟨f, f1, f2, f3, f4⟩
  · constructor
    · intro y; rw [a] at y; exact absurd (by decide) y
    · rintro ⟨i, hi, e⟩; exact absurd e (b i hi)
  · constructor
    · intro _; exact ⟨f, f1, f3⟩
    · intro _; rw [f2]; exact nI_nn (by have := okN_7 hP (h5 f f1); omega)
theorem srF_m1 {R : Nat → Nat} (hP : okP R) {s0 c n M : Nat} {Q O : Nat → Nat} {Pr F : Nat → Int32} (h : srI R s0 c n Q M O Pr F) {s : Nat} (hs : s < 32) : F s = -1 ↔ F s < 0 := by
  constructor
  · intro e; rw [e]; decide
  · intro e
    refine Classical.byContradiction fun y => ?_
    obtain ⟨pr, dp, h1, h2, h3, h4, h5, h6, h7⟩ := h
    rcases h6 s hs with ⟨a, b⟩ | ⟨f, f1, f2, f3, f4⟩
    · exact y a
    · rw [f2] at e
      exact nI_nn (by have := okN_7 hP (h5 f f1); omega) e
theorem sonF_iff {F : Nat → Int32} {Q dp : Nat → Nat} {s n : Nat} (hF : farE F Q dp n) (hd : ∀ p, p < n → dp p ≤ p) : (¬ sonF F Q s n 0 = -1000000) ↔ ∃ i, i < n ∧ Q i % 32 = s := by
  rcases sonF_s (F := F) (Q := Q) (s := s) n 0 with ⟨a, b⟩ | ⟨t, t1, t2, t3, t4⟩
  · constructor
    · intro y; exact absurd b y
    · rintro ⟨i, hi, e⟩
      have := a i hi
      rw [Nat.zero_add] at this
      exact absurd e this
  · rw [Nat.zero_add] at t2 t4
    constructor
    · intro _; exact ⟨t, t1, t2⟩
    · intro _
      rw [t4, hF.2 t t1]
      have := hd t t1
      have := hF.1
      exact nI_nN (by omega)
theorem sfN_ge {F : Nat → Int32} {m : Nat} (h : ∀ s, m ≤ s → s < 32 → F s < 0) : ∀ k, m + k ≤ 32 → sfN F (m + k) = sfN F m
  | 0, _ => rfl
  | k + 1, hk => by
    show sfN F (m + k) + _ = _
    rw [if_neg (fun y => y (h (m + k) (by omega) (by omega))), sfN_ge h k (by omega)]
    rfl
theorem srI_ge {R : Nat → Nat} {s0 c n M : Nat} {C O : Nat → Nat} {Pr F : Nat → Int32} (hP : okP R) (h : srI R s0 c n C M O Pr F) : sfN F 32 = sfN F (2 ^ R 2) := by
  have h0 := h
  obtain ⟨pr, dp, h1, h2, h3, h4, h5, h6, h7⟩ := h
  have hp5 : 2 ^ R 2 ≤ 2 ^ 5 := Nat.pow_le_pow_right (by decide) hP.2.2.1
  have hge : ∀ s, 2 ^ R 2 ≤ s → s < 32 → F s < 0 := by
    intro s h1' h2'
    exact Classical.byContradiction fun y => by
      obtain ⟨i, hi, e⟩ := (srF_iff hP h0 h2').mp y
      have := (okN_m hP (h5 i hi)).2
      omega
  have e := sfN_ge hge (32 - 2 ^ R 2) (by omega)
  rwa [show 2 ^ R 2 + (32 - 2 ^ R 2) = 32 by omega] at e
/-- what a search to its very end would find stands among what this one found -/
theorem srE_all {R : Nat → Nat} (hP : okP R) {s0 c n M : Nat} {C O : Nat → Nat} {Pr F : Nat → Int32} (h0 : srI R s0 c n C M O Pr F) (hf : c = 8 * n ∨ 2 ^ tnN R (R 2) ≤ sfN F 32) {Q' pr' dp' : Nat → Nat} {n' : Nat} (h2 : bT (nxN R) (R 3) s0 (8 * n') Q' pr' dp' n') : ∀ s, (∃ i, i < n' ∧ Q' i % 32 = s) → ∃ i, i < n ∧ C i % 32 = s := by
  have hI := h0
  obtain ⟨pr, dp, a1, a2, a3, a4, a5, a6, a7⟩ := h0
  have hs0 : s0 % 32 < 2 ^ R 2 := by
    have y := (okN_m hP (a5 0 (by have := a1.1.1; omega))).2
    rw [a1.1.2.1] at y
    exact y
  rintro s ⟨i, hi, e⟩
  rcases hf with hf | hf
  · subst hf
    have hu := bT_un hP.2.2.2.1 h2 a1
    have hn : n' = n := hu.1
    exact ⟨i, by omega, by rw [← (hu.2 i hi).1]; exact e⟩
  · have hp5 : 2 ^ R 2 ≤ 2 ^ 5 := Nat.pow_le_pow_right (by decide) hP.2.2.1
    obtain ⟨c1, c2⟩ := bT_pb hP h2 hs0 i hi
    rw [e] at c1 c2
    have key := ctB_ev (p := fun t => decide (¬ F t < 0)) (q := fun t => decide (PBt R (s0 % 32) (R 2) t)) (2 ^ R 2) (fun t ht y => by
      obtain ⟨j, hj, ej⟩ := (srF_iff hP hI (by omega)).mp (of_decide_eq_true y)
      have z := (bT_pb hP a1 hs0 j hj).2
      rw [ej] at z
      exact decide_eq_true z) (by
      have y := ctB_pb R (s0 % 32) (R 2)
      have z := srI_ge hP hI
      rw [sfN_ct F (2 ^ R 2)] at z
      exact Nat.le_trans y (by omega)) s c1 (decide_eq_true c2)
    exact (srF_iff hP hI (by omega)).mp (of_decide_eq_true key)
theorem comes_eq {R : Nat → Nat} (hP : okP R) (hs : R 40 < 2 ^ R 2) {n M : Nat} {O : Nat → Nat} {Pr F : Nat → Int32} (h : srE R (numA R (R 40) (uM R 0)) n M O Pr F) {F0 : Nat → Int32} {Q0 : Nat → Nat} {K : Nat} (hb : bfsE R F0 Q0 K) : sfN F 32 = cmN (outQ R (q0 R F0 Q0) K) (2 ^ R 2) := by
  obtain ⟨pr', dp', b1, b2⟩ := bfsE_bT hP hs hb
  obtain ⟨C, c9, h0, hf9, _⟩ := h
  have hall := srE_all hP h0 hf9 b1
  have hI := h0
  obtain ⟨pr, dp, h1, h2, h3, h4, h5, h6, h7⟩ := h0
  have hu := bT_uniq hP.2.2.2.1 h1 b1
  have hp5 : 2 ^ R 2 ≤ 2 ^ 5 := Nat.pow_le_pow_right (by decide) hP.2.2.1
  have key : ∀ s, s ≤ 2 ^ R 2 → sfN F s = cmN (outQ R (q0 R F0 Q0) K) s := by
    intro s
    induction s with
    | zero => intro _; rfl
    | succ s ih =>
      intro hs2
      show sfN F s + (if ¬ F s < 0 then 1 else 0) = cmN (outQ R (q0 R F0 Q0) K) s + (if sonF (outQ R (q0 R F0 Q0) K).1 (outQ R (q0 R F0 Q0) K).2.1 s (outQ R (q0 R F0 Q0) K).2.2 0 = -1000000 then 0 else 1)
      rw [ih (by omega)]
      have e1 := srF_iff hP hI (s := s) (by omega)
      have e2 := sonF_iff (s := s) b2 (fun p hp => (bT_dpm b1 p hp).1)
      have e3 : (∃ i, i < n ∧ C i % 32 = s) ↔ ∃ i, i < (outQ R (q0 R F0 Q0) K).2.2 ∧ (outQ R (q0 R F0 Q0) K).2.1 i % 32 = s := by
        constructor
        · rintro ⟨i, a, b⟩
          exact ⟨i, (hu i a).1, by rw [← (hu i a).2.1]; exact b⟩
        · exact hall s
      by_cases c : F s < 0
      · have c2 : sonF (outQ R (q0 R F0 Q0) K).1 (outQ R (q0 R F0 Q0) K).2.1 s (outQ R (q0 R F0 Q0) K).2.2 0 = -1000000 := Classical.byContradiction fun y => (e1.mpr (e3.mpr (e2.mp y))) c
        rw [if_neg (fun y => y c), if_pos c2]
      · have c2 : ¬ sonF (outQ R (q0 R F0 Q0) K).1 (outQ R (q0 R F0 Q0) K).2.1 s (outQ R (q0 R F0 Q0) K).2.2 0 = -1000000 := e2.mpr (e3.mp (e1.mp c))
        rw [if_pos c, if_neg c2]
  rw [srI_ge hP hI]
  exact key _ (Nat.le_refl _)
theorem reach_eq {R : Nat → Nat} (hP : okP R) {s0 n c9 : Nat} {C pr dp : Nat → Nat} (h1 : bT (nxN R) (R 3) s0 c9 C pr dp n) {Q' pr' dp' : Nat → Nat} {n' : Nat} (hall : ∀ s, (∃ i, i < n' ∧ Q' i % 32 = s) → ∃ i, i < n ∧ C i % 32 = s) (h2 : bT (nxN R) (R 3) s0 (8 * n') Q' pr' dp' n') {s : Nat} {k z : Int32} (hk : ¬ k < -1) (hn8 : n ≤ 7776)
    (hz : ((∀ i, i < n' → Q' i % 32 ≠ s) ∧ z = -1000000) ∨ ∃ f, f < n' ∧ Q' f % 32 = s ∧ (∀ t, t < f → Q' t % 32 ≠ s) ∧ z = if k = -1 then nI (dp' f) else if nI (dp' f) ≤ k then -1000000 else nI (pr' (anc pr' f (dp' f - 1 - cl k)) % 8)) :
    ((∀ i, i < n → C i % 32 ≠ s) → z = -1000000) ∧ ∀ f, f < n → C f % 32 = s → (∀ t, t < f → C t % 32 ≠ s) → z = if k = -1 then nI (dp f) else if nI (dp f) ≤ k then -1000000 else nI (pr (anc pr f (dp f - 1 - cl k)) % 8) := by
  have hu := bT_uniq hP.2.2.2.1 h1 h2
  constructor
  · intro a
    rcases hz with ⟨_, e⟩ | ⟨f, f1, f2, f3, f4⟩
    · exact e
    · obtain ⟨i, hi, e⟩ := hall s ⟨f, f1, f2⟩
      exact absurd e (a i hi)
  · intro f a b c
    rcases hz with ⟨d, e⟩ | ⟨f', f1, f2, f3, f4⟩
    · exact absurd (by rw [← (hu f a).2.1]; exact b) (d f (hu f a).1)
    · have ef : f' = f := by
        rcases Nat.lt_trichotomy f' f with y | y | y
        · exact absurd (by rw [(hu f' (by omega)).2.1]; exact f2) (c f' y)
        · exact y
        · exact absurd (by rw [← (hu f a).2.1]; exact b) (f3 f y)
      subst ef
      have hd : dp' f' = dp f' := (hu f' a).2.2.2.symm
      have hanc : ∀ j, j ≤ dp f' → anc pr' f' j = anc pr f' j := by
        intro j
        induction j with
        | zero => intro _; rfl
        | succ j ih =>
          intro hj
          have g1 := bT_anc h1 a j (by omega)
          have e := ih (by omega)
          show pr' (anc pr' f' j) / 8 = pr (anc pr f' j) / 8
          rw [e, (hu _ g1.1).2.2.1 (g1.2.2 (by omega))]
      rw [f4, hd]
      split
      · rfl
      · split
        · rfl
        · rename_i h8 h9
          have hdm := (bT_dpm h1 f' a).1
          have hin := i32_m1 hk h8 (Int32.not_le.mp h9) (by omega)
          have hcl := inR_cl hin (by omega)
          have g1 := bT_anc h1 a (dp f' - 1 - cl k) (by omega)
          rw [hanc _ (by omega), (hu _ g1.1).2.2.1 (g1.2.2 (by omega))]
