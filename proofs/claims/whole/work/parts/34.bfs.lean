/-! what is found in breadth: codes 8 * (place) + (beast) are taken in order -/
def bT (nx : Nat → Nat → Nat) (B s0 c : Nat) (Q pr dp : Nat → Nat) (n : Nat) : Prop :=
  (1 ≤ n ∧ Q 0 = s0 ∧ dp 0 = 0) ∧
  (∀ p, 0 < p → p < n → pr p < c ∧ pr p % 8 < B ∧ pr p / 8 < p ∧ Q p = nx (Q (pr p / 8)) (pr p % 8) ∧ dp p = dp (pr p / 8) + 1) ∧
  (∀ p r, 0 < p → p < r → r < n → pr p < pr r) ∧
  (∀ p r, p < r → r < n → Q p ≠ Q r) ∧
  (∀ a b, a < n → b < B → 8 * a + b < c → ∃ p, p < n ∧ Q p = nx (Q a) b ∧ (p = 0 ∨ pr p ≤ 8 * a + b))
theorem bT_old {nx : Nat → Nat → Nat} {B s0 k b : Nat} {Q pr dp : Nat → Nat} {n : Nat} (h : bT nx B s0 (8 * k + b) Q pr dp n) {p : Nat} (hp : p < n) (e : Q p = nx (Q k) b) (hb8 : b < 8) (hB8 : B ≤ 8) : bT nx B s0 (8 * k + (b + 1)) Q pr dp n := by
  obtain ⟨h1, h2, h3, h4, h5⟩ := h
  refine ⟨h1, fun r r0 rn => ?_, h3, h4, ?_⟩
  · obtain ⟨a1, a2⟩ := h2 r r0 rn
    exact ⟨by omega, a2⟩
  · intro a b' ha hb hc
    by_cases c : 8 * a + b' < 8 * k + b
    · exact h5 a b' ha hb c
    · have ea : a = k := by omega
      have eb : b' = b := by omega
      subst ea; subst eb
      refine ⟨p, hp, e, ?_⟩
      by_cases p0 : p = 0
      · exact Or.inl p0
      · exact Or.inr (by have := (h2 p (by omega) hp).1; omega)
theorem bT_new {nx : Nat → Nat → Nat} {B s0 k b : Nat} {Q pr dp : Nat → Nat} {n x : Nat} (h : bT nx B s0 (8 * k + b) Q pr dp n) (hk : k < n) (hb : b < B) (hB8 : B ≤ 8) (e : x = nx (Q k) b) (hx : ∀ p, p < n → Q p ≠ x) :
    bT nx B s0 (8 * k + (b + 1)) (va_up Q n x) (va_up pr n (8 * k + b)) (va_up dp n (dp k + 1)) (n + 1) := by
  obtain ⟨h1, h2, h3, h4, h5⟩ := h
  have uo : ∀ (f : Nat → Nat) (v p : Nat), p < n → va_up f n v p = f p := fun f v p hp => va_up_n (by omega)
  refine ⟨⟨by omega, by rw [uo _ _ _ (by omega)]; exact h1.2.1, by rw [uo _ _ _ (by omega)]; exact h1.2.2⟩, ?_, ?_, ?_, ?_⟩
  · intro p p0 pn
    by_cases c : p = n
    · subst c
      rw [va_up_s, va_up_s, va_up_s, show (8 * k + b) / 8 = k by omega, show (8 * k + b) % 8 = b by omega, uo _ _ _ hk, uo _ _ _ hk]
      exact ⟨by omega, hb, hk, e, rfl⟩
    · have hp : p < n := by omega
      obtain ⟨a1, a2, a3, a4, a5⟩ := h2 p p0 hp
      rw [uo pr _ _ hp, uo Q _ _ hp, uo dp _ _ hp, uo Q _ _ (by omega), uo dp _ _ (by omega)]
      exact ⟨by omega, a2, a3, a4, a5⟩
  · intro p r p0 pr' rn
    have hp : p < n := by omega
    rw [uo pr _ _ hp]
    by_cases c : r = n
    · rw [c, va_up_s]; exact (h2 p p0 hp).1
    · rw [uo pr _ _ (by omega)]; exact h3 p r p0 pr' (by omega)
  · intro p r pr' rn
    have hp : p < n := by omega
    rw [uo Q _ _ hp]
    by_cases c : r = n
    · rw [c, va_up_s]; exact hx p hp
    · rw [uo Q _ _ (by omega)]; exact h4 p r pr' (by omega)
  · intro a b' ha hb' hc
    by_cases c : 8 * a + b' < 8 * k + b
    · have ha : a < n := by omega
      obtain ⟨p, hp, e1, e2⟩ := h5 a b' ha hb' c
      exact ⟨p, by omega, by rw [uo Q _ _ hp, uo Q _ _ ha]; exact e1, by rw [uo pr _ _ hp]; exact e2⟩
    · have ea : a = k := by omega
      have eb : b' = b := by omega
      subst ea; subst eb
      exact ⟨n, by omega, by rw [va_up_s, uo Q _ _ hk]; exact e, Or.inr (by rw [va_up_s]; omega)⟩
theorem bT_next {nx : Nat → Nat → Nat} {B s0 k : Nat} {Q pr dp : Nat → Nat} {n : Nat} (h : bT nx B s0 (8 * k + B) Q pr dp n) (hB8 : B ≤ 8) : bT nx B s0 (8 * (k + 1) + 0) Q pr dp n := by
  obtain ⟨h1, h2, h3, h4, h5⟩ := h
  refine ⟨h1, fun r r0 rn => ?_, h3, h4, ?_⟩
  · obtain ⟨a1, a2⟩ := h2 r r0 rn
    exact ⟨by omega, a2⟩
  · intro a b ha hb hc
    exact h5 a b ha hb (by omega)
theorem bT_uniq {nx : Nat → Nat → Nat} {B s0 c9 : Nat} (hB8 : B ≤ 8) {Q pr dp Q' pr' dp' : Nat → Nat} {n n' : Nat} (h : bT nx B s0 c9 Q pr dp n) (h' : bT nx B s0 (8 * n') Q' pr' dp' n') :
    ∀ p, p < n → p < n' ∧ Q p = Q' p ∧ (0 < p → pr p = pr' p) ∧ dp p = dp' p := by
  obtain ⟨h1, h2, h3, h4, h5⟩ := h
  obtain ⟨g1, g2, g3, g4, g5⟩ := h'
  intro p
  induction p using Nat.strongRecOn with
  | _ p ih =>
    intro hp
    by_cases p0 : p = 0
    · subst p0
      exact ⟨by omega, by rw [h1.2.1, g1.2.1], fun q => absurd q (Nat.lt_irrefl 0), by rw [h1.2.2, g1.2.2]⟩
    · obtain ⟨a1, a2, a3, a4, a5⟩ := h2 p (by omega) hp
      obtain ⟨i1, i2, _, i4⟩ := ih (pr p / 8) a3 (by omega)
      obtain ⟨t, t1, t2, t3⟩ := g5 (pr p / 8) (pr p % 8) i1 a2 (by omega)
      rw [← i2, ← a4] at t2
      have tp : p ≤ t := by
        rcases Nat.lt_or_ge t p with c | c
        · obtain ⟨j1, j2, _⟩ := ih t c (by omega)
          exact absurd (j2.trans t2) (h4 t p c hp)
        · exact c
      have t4 : pr' t ≤ pr p := by rcases t3 with t3 | t3; omega; omega
      have hp' : p < n' := by omega
      have t5 : pr' p ≤ pr p := by
        rcases Nat.lt_or_ge p t with c | c
        · have := g3 p t (by omega) c t1; omega
        · have : p = t := by omega
          rw [this]; rw [← this] at t4 ⊢; exact t4
      obtain ⟨b1, b2, b3, b4, b5⟩ := g2 p (by omega) hp'
      obtain ⟨k1, k2, _, k4⟩ := ih (pr' p / 8) b3 (by omega)
      obtain ⟨u, u1, u2, u3⟩ := h5 (pr' p / 8) (pr' p % 8) (by omega) b2 (by omega)
      rw [k2, ← b4] at u2
      have up : p ≤ u := by
        rcases Nat.lt_or_ge u p with c | c
        · obtain ⟨j1, j2, _⟩ := ih u c (by omega)
          exact absurd (j2.symm.trans u2) (g4 u p c hp')
        · exact c
      have u4 : pr u ≤ pr' p := by rcases u3 with u3 | u3; omega; omega
      have u5 : pr p ≤ pr' p := by
        rcases Nat.lt_or_ge p u with c | c
        · have := h3 p u (by omega) c u1; omega
        · have : p = u := by omega
          rw [← this] at u4; exact u4
      have ep : pr p = pr' p := by omega
      refine ⟨hp', ?_, fun _ => ep, ?_⟩
      · rw [a4, b4, ← ep, i2]
      · rw [a5, b5, ← ep, i4]
def anc (pr : Nat → Nat) (f : Nat) : Nat → Nat
  | 0 => f
  | j + 1 => pr (anc pr f j) / 8
theorem bT_dpm {nx : Nat → Nat → Nat} {B s0 c : Nat} {Q pr dp : Nat → Nat} {n : Nat} (h : bT nx B s0 c Q pr dp n) : ∀ r, r < n → dp r ≤ r ∧ ∀ p, p < r → dp p ≤ dp r := by
  obtain ⟨h1, h2, h3, h4, h5⟩ := h
  intro r
  induction r using Nat.strongRecOn with
  | _ r ih =>
    intro hr
    by_cases r0 : r = 0
    · subst r0
      exact ⟨by omega, fun p hp => absurd hp (Nat.not_lt_zero _)⟩
    · obtain ⟨a1, a2, a3, a4, a5⟩ := h2 r (by omega) hr
      have i1 := ih (pr r / 8) a3 (by omega)
      refine ⟨by omega, fun p hp => ?_⟩
      by_cases p0 : p = 0
      · subst p0; omega
      · obtain ⟨b1, b2, b3, b4, b5⟩ := h2 p (by omega) (by omega)
        have hm := h3 p r (by omega) hp hr
        rcases (show pr p / 8 = pr r / 8 ∨ pr p / 8 < pr r / 8 by omega) with q | q
        · rw [b5, a5, q]; exact Nat.le_refl _
        · have := i1.2 _ q
          omega
theorem bT_anc {nx : Nat → Nat → Nat} {B s0 c : Nat} {Q pr dp : Nat → Nat} {n f : Nat} (h : bT nx B s0 c Q pr dp n) (hf : f < n) : ∀ j, j ≤ dp f → anc pr f j < n ∧ dp (anc pr f j) + j = dp f ∧ (j < dp f → 0 < anc pr f j) := by
  have z : ∀ p, p < n → 0 < dp p → 0 < p := by
    intro p hp hd
    rcases (show p = 0 ∨ 0 < p by omega) with q | q
    · rw [q, h.1.2.2] at hd; exact absurd hd (Nat.lt_irrefl 0)
    · exact q
  intro j
  induction j with
  | zero => intro _; exact ⟨hf, rfl, fun q => z f hf q⟩
  | succ j ih =>
    intro hj
    obtain ⟨i1, i2, i3⟩ := ih (by omega)
    obtain ⟨a1, a2, a3, a4, a5⟩ := h.2.1 _ (i3 (by omega)) i1
    refine ⟨?_, ?_, fun q => z _ ?_ ?_⟩
    · show pr (anc pr f j) / 8 < n; omega
    · show dp (pr (anc pr f j) / 8) + (j + 1) = _; omega
    · show pr (anc pr f j) / 8 < n; omega
    · show 0 < dp (pr (anc pr f j) / 8); omega
/-- how far each is, as it is kept -/
def farE (F : Nat → Int32) (Q dp : Nat → Nat) (n : Nat) : Prop := n ≤ 7776 ∧ ∀ p, p < n → F (Q p) = nI (dp p)
def wyP (nx : Nat → Nat → Nat) (B : Nat) (F : Nat → Int32) (s e : Nat) : Nat → Nat → Prop
  | 0, v => F v = nI e ∧ v % 32 = s
  | m + 1, v => ∃ b, b < B ∧ F (nx v b) = F v + 1 ∧ wyP nx B F s e m (nx v b)
def onW (nx : Nat → Nat → Nat) (B : Nat) (F : Nat → Int32) (s e v : Nat) : Prop := ∃ m, wyP nx B F s e m v
theorem bT_nx {nx : Nat → Nat → Nat} {B s0 : Nat} {Q pr dp : Nat → Nat} {n : Nat} {F : Nat → Int32} (h : bT nx B s0 (8 * n) Q pr dp n) (hF : farE F Q dp n) (hB8 : B ≤ 8) {a b : Nat} (ha : a < n) (hb : b < B) : ∃ p, p < n ∧ Q p = nx (Q a) b ∧ (p = 0 ∨ pr p ≤ 8 * a + b) ∧ (F (nx (Q a) b) = F (Q a) + 1 ↔ dp p = dp a + 1) := by
  obtain ⟨p, p1, p2, p3⟩ := h.2.2.2.2 a b ha hb (by omega)
  refine ⟨p, p1, p2, p3, ?_⟩
  have d1 := (bT_dpm h p p1).1
  have d2 := (bT_dpm h a ha).1
  have hn := hF.1
  rw [← p2, hF.2 p p1, hF.2 a ha, nI_1]
  exact ⟨fun q => nI_inj (by omega) (by omega) q, fun q => by rw [q]⟩
theorem wyP_len {nx : Nat → Nat → Nat} {B s0 : Nat} {Q pr dp : Nat → Nat} {n : Nat} {F : Nat → Int32} (h : bT nx B s0 (8 * n) Q pr dp n) (hF : farE F Q dp n) (hB8 : B ≤ 8) {s e : Nat} (he : e < 8000) : ∀ m p, p < n → wyP nx B F s e m (Q p) → dp p + m = e := by
  intro m
  induction m with
  | zero =>
    intro p hp hw
    have d1 := (bT_dpm h p hp).1
    have hn := hF.1
    have := hw.1
    rw [hF.2 p hp] at this
    exact nI_inj (by omega) (by omega) this
  | succ m ih =>
    intro p hp hw
    obtain ⟨b, hb, w1, w2⟩ := hw
    obtain ⟨r, r1, r2, r3, r4⟩ := bT_nx h hF hB8 hp hb
    rw [← r2] at w2
    have := ih r r1 w2
    have := r4.mp w1
    omega
theorem onW_iff {nx : Nat → Nat → Nat} {B s0 : Nat} {Q pr dp : Nat → Nat} {n : Nat} {F : Nat → Int32} (h : bT nx B s0 (8 * n) Q pr dp n) (hF : farE F Q dp n) (hB8 : B ≤ 8) {s e : Nat} (he : e < 8000) {p : Nat} (hp : p < n) :
    onW nx B F s e (Q p) ↔ ((F (Q p) = nI e ∧ Q p % 32 = s) ∨ (F (Q p) < nI e ∧ ∃ b, b < B ∧ onW nx B F s e (nx (Q p) b) ∧ F (nx (Q p) b) = F (Q p) + 1)) := by
  have d1 := (bT_dpm h p hp).1
  have hn := hF.1
  constructor
  · rintro ⟨m, hm⟩
    have hl := wyP_len h hF hB8 he m p hp hm
    cases m with
    | zero => exact Or.inl hm
    | succ m =>
      obtain ⟨b, hb, w1, w2⟩ := hm
      refine Or.inr ⟨?_, b, hb, ⟨m, w2⟩, w1⟩
      rw [hF.2 p hp]
      exact nI_lt (by omega) (by omega)
  · rintro (q | ⟨_, b, hb, ⟨m, w⟩, w1⟩)
    · exact ⟨0, q⟩
    · exact ⟨m + 1, b, hb, w1, w⟩
theorem wyP_anc {nx : Nat → Nat → Nat} {B s0 : Nat} {Q pr dp : Nat → Nat} {n : Nat} {F : Nat → Int32} (h : bT nx B s0 (8 * n) Q pr dp n) (hF : farE F Q dp n) {f s : Nat} (hf : f < n) (hs : Q f % 32 = s) : ∀ j, j ≤ dp f → wyP nx B F s (dp f) j (Q (anc pr f j)) := by
  intro j
  induction j with
  | zero => intro _; exact ⟨hF.2 f hf, hs⟩
  | succ j ih =>
    intro hj
    obtain ⟨i1, i2, i3⟩ := bT_anc h hf j (by omega)
    obtain ⟨a1, a2, a3, a4, a5⟩ := h.2.1 _ (i3 (by omega)) i1
    refine ⟨pr (anc pr f j) % 8, a2, ?_, ?_⟩
    · show F (nx (Q (pr (anc pr f j) / 8)) (pr (anc pr f j) % 8)) = F (Q (pr (anc pr f j) / 8)) + 1
      rw [← a4, hF.2 _ i1, hF.2 _ (by omega), a5, nI_1]
    · show wyP nx B F s (dp f) j (nx (Q (pr (anc pr f j) / 8)) (pr (anc pr f j) % 8))
      rw [← a4]; exact ih (by omega)
theorem bT_chain {nx : Nat → Nat → Nat} {B s0 : Nat} {Q pr dp : Nat → Nat} {n : Nat} {F : Nat → Int32} (h : bT nx B s0 (8 * n) Q pr dp n) (hB8 : B ≤ 8) {f s e : Nat} (hf : f < n) : ∀ m, m ≤ dp f → ∀ x, x < anc pr f m → x < n → wyP nx B F s e m (Q x) → ∃ t, t < f ∧ Q t % 32 = s := by
  intro m
  induction m with
  | zero => intro _ x hx _ hw; exact ⟨x, hx, hw.2⟩
  | succ m ih =>
    intro hm x hx hxn hw
    obtain ⟨b, hb, w1, w2⟩ := hw
    obtain ⟨i1, i2, i3⟩ := bT_anc h hf m (by omega)
    obtain ⟨p, p1, p2, p3⟩ := h.2.2.2.2 x b hxn hb (by omega)
    have hx : x < pr (anc pr f m) / 8 := hx
    have i4 := i3 (by omega)
    rw [← p2] at w2
    refine ih (by omega) p ?_ p1 w2
    rcases p3 with q | q
    · omega
    · rcases Nat.lt_or_ge p (anc pr f m) with c | c
      · exact c
      · exfalso
        rcases (show anc pr f m = p ∨ anc pr f m < p by omega) with e1 | e1
        · rw [← e1] at q; omega
        · have := h.2.2.1 _ _ i4 e1 p1; omega
/-- the way of the first that is found is the least -/
theorem bT_least {nx : Nat → Nat → Nat} {B s0 : Nat} {Q pr dp : Nat → Nat} {n : Nat} {F : Nat → Int32} (h : bT nx B s0 (8 * n) Q pr dp n) (hF : farE F Q dp n) (hB8 : B ≤ 8) {f s : Nat} (hf : f < n) (hs : Q f % 32 = s) (hl : ∀ t, t < f → Q t % 32 ≠ s) {j : Nat} (hj : j < dp f) :
    (onW nx B F s (dp f) (nx (Q (anc pr f (j + 1))) (pr (anc pr f j) % 8)) ∧ F (nx (Q (anc pr f (j + 1))) (pr (anc pr f j) % 8)) = F (Q (anc pr f (j + 1))) + 1) ∧
    (∀ b, b < pr (anc pr f j) % 8 → ¬ (onW nx B F s (dp f) (nx (Q (anc pr f (j + 1))) b) ∧ F (nx (Q (anc pr f (j + 1))) b) = F (Q (anc pr f (j + 1))) + 1)) ∧
    nx (Q (anc pr f (j + 1))) (pr (anc pr f j) % 8) = Q (anc pr f j) ∧ pr (anc pr f j) % 8 < B ∧ anc pr f (j + 1) < n := by
  obtain ⟨i1, i2, i3⟩ := bT_anc h hf j (by omega)
  obtain ⟨j1, j2, j3⟩ := bT_anc h hf (j + 1) (by omega)
  have i4 := i3 hj
  obtain ⟨a1, a2, a3, a4, a5⟩ := h.2.1 _ i4 i1
  have a4 : Q (anc pr f j) = nx (Q (anc pr f (j + 1))) (pr (anc pr f j) % 8) := a4
  have a5 : dp (anc pr f j) = dp (anc pr f (j + 1)) + 1 := a5
  have e8 : dp f < 8000 := by have := (bT_dpm h f hf).1; have := hF.1; omega
  refine ⟨⟨?_, ?_⟩, ?_, a4.symm, a2, j1⟩
  · rw [← a4]; exact ⟨j, wyP_anc h hF hf hs j (by omega)⟩
  · rw [← a4, hF.2 _ i1, hF.2 _ j1, a5, nI_1]
  · rintro b hb ⟨⟨m, hm⟩, hw⟩
    obtain ⟨p, p1, p2, p3, p4⟩ := bT_nx h hF hB8 j1 (b := b) (by omega)
    have p5 := p4.mp hw
    rw [← p2] at hm
    have hlen := wyP_len h hF hB8 e8 m p p1 hm
    have em : m = j := by omega
    subst em
    have hpx : p < anc pr f m := by
      rcases p3 with q | q
      · omega
      · have ea : anc pr f (m + 1) = pr (anc pr f m) / 8 := rfl
        rcases Nat.lt_or_ge p (anc pr f m) with c | c
        · exact c
        · exfalso
          rcases (show anc pr f m = p ∨ anc pr f m < p by omega) with e1 | e1
          · rw [← e1] at q; omega
          · have := h.2.2.1 _ _ i4 e1 p1; omega
    obtain ⟨t, t1, t2⟩ := bT_chain h hB8 hf m (by omega) p hpx p1 hm
    exact hl t t1 t2
/-! the reference's search is such a one -/
theorem inQ_bT {R : Nat → Nat} (hP : okP R) {k s0 : Nat} {st : QS} (h : okQ (R 2) st) (hk : k < st.2.2) {pr dp : Nat → Nat} (hT : bT (nxN R) (R 3) s0 (8 * k + 0) st.2.1 pr dp st.2.2) (hF : farE st.1 st.2.1 dp st.2.2) :
    ∀ b, b ≤ R 3 → ∃ pr' dp' : Nat → Nat, bT (nxN R) (R 3) s0 (8 * k + b) (inQ R k st b).2.1 pr' dp' (inQ R k st b).2.2 ∧ farE (inQ R k st b).1 (inQ R k st b).2.1 dp' (inQ R k st b).2.2
  | 0, _ => ⟨pr, dp, hT, hF⟩
  | b + 1, hb => by
    obtain ⟨pr', dp', t1, t2⟩ := inQ_bT hP h hk hT hF b (by omega)
    obtain ⟨o1, o2, o3, o4⟩ := inQ_ok hP h hk b
    have h8 := hP.2.2.2.1
    generalize hst : inQ R k st b = st1 at *
    have es : inQ R k st (b + 1) = putQ (nxN R (st1.2.1 k) b) (st1.1 (st1.2.1 k) + 1) st1 := by rw [← hst]; rfl
    rw [es]
    have hx7 := nxN_ok hP (n := st1.2.1 k) (b := b) (o1.2.1 k (by omega)).2.1
    by_cases c : st1.1 (nxN R (st1.2.1 k) b) = -1000000
    · have e : putQ (nxN R (st1.2.1 k) b) (st1.1 (st1.2.1 k) + 1) st1 = (upd st1.1 (nxN R (st1.2.1 k) b) (st1.1 (st1.2.1 k) + 1), va_up st1.2.1 st1.2.2 (nxN R (st1.2.1 k) b), st1.2.2 + 1) := if_pos c
      have hne : ∀ p, p < st1.2.2 → st1.2.1 p ≠ nxN R (st1.2.1 k) b := by
        intro p hp q
        obtain ⟨_, _, d, d1, d2⟩ := o1.2.1 p hp
        have := o1.1
        rw [q] at d2
        exact nI_nN (d := d) (by omega) (d2.symm.trans c)
      rw [e]
      refine ⟨_, _, bT_new t1 (by omega) (by omega) h8 rfl hne, ?_⟩
      have hroom := okQ_room o1 hx7.1 c
      refine ⟨by show st1.2.2 + 1 ≤ 7776; omega, ?_⟩
      intro p hp
      have hp : p < st1.2.2 + 1 := hp
      show (if va_up st1.2.1 st1.2.2 (nxN R (st1.2.1 k) b) p = nxN R (st1.2.1 k) b then st1.1 (st1.2.1 k) + 1 else st1.1 (va_up st1.2.1 st1.2.2 (nxN R (st1.2.1 k) b) p)) = nI (va_up dp' st1.2.2 (dp' k + 1) p)
      by_cases e1 : p = st1.2.2
      · rw [e1, va_up_s, va_up_s, if_pos rfl, t2.2 k (by omega), nI_1]
      · rw [va_up_n e1, va_up_n e1, if_neg (hne p (by omega))]
        exact t2.2 p (by omega)
    · have e : putQ (nxN R (st1.2.1 k) b) (st1.1 (st1.2.1 k) + 1) st1 = st1 := if_neg c
      rw [e]
      obtain ⟨p, hp, e1⟩ := (o1.2.2 _ hx7.1).resolve_left c
      exact ⟨pr', dp', bT_old t1 hp e1 (by omega) h8, t2⟩
theorem q0_bT {R : Nat → Nat} (F0 : Nat → Int32) (Q0 : Nat → Nat) (h32 : R 40 < 32) : bT (nxN R) (R 3) (numA R (R 40) (uM R 0)) (8 * 0 + 0) (q0 R F0 Q0).2.1 (fun _ => 0) (fun _ => 0) (q0 R F0 Q0).2.2 ∧ farE (q0 R F0 Q0).1 (q0 R F0 Q0).2.1 (fun _ => 0) (q0 R F0 Q0).2.2 := by
  have hlt : numA R (R 40) (uM R 0) < 7776 := numA_lt h32
  have e : q0 R F0 Q0 = (upd (va_cpy (fun _ => -1000000) F0 0 0 7776) (numA R (R 40) (uM R 0)) 0, va_up Q0 0 (numA R (R 40) (uM R 0)), 1) := by
    have e1 : va_cpy (fun _ => (-1000000 : Int32)) F0 0 0 7776 (numA R (R 40) (uM R 0)) = -1000000 := cpy_in (Nat.zero_le _) (by omega)
    show (if va_cpy (fun _ => (-1000000 : Int32)) F0 0 0 7776 (numA R (R 40) (uM R 0)) = -1000000 then _ else _) = _
    rw [if_pos e1]
  rw [e]
  refine ⟨⟨⟨Nat.le_refl 1, by show va_up Q0 0 (numA R (R 40) (uM R 0)) 0 = _; rw [va_up_s], rfl⟩, ?_, ?_, ?_, ?_⟩, by show (1 : Nat) ≤ 7776; decide, ?_⟩
  · intro p p0 p1; exact absurd p1 (by show ¬ p < 1; omega)
  · intro p r p0 p1 p2; exact absurd p2 (by show ¬ r < 1; omega)
  · intro p r p1 p2; exact absurd p2 (by show ¬ r < 1; omega)
  · intro a b _ _ hc; exact absurd hc (by omega)
  · intro p hp
    have ep : p = 0 := by have : p < 1 := hp; omega
    subst ep
    show upd (va_cpy (fun _ => -1000000) F0 0 0 7776) (numA R (R 40) (uM R 0)) 0 (va_up Q0 0 (numA R (R 40) (uM R 0)) 0) = nI 0
    rw [va_up_s]
    exact if_pos rfl
theorem outQ_bT {R : Nat → Nat} (hP : okP R) (hs : R 40 < 2 ^ R 2) (F0 : Nat → Int32) (Q0 : Nat → Nat) : ∀ K, runQ R (q0 R F0 Q0) K → ∃ pr dp : Nat → Nat, bT (nxN R) (R 3) (numA R (R 40) (uM R 0)) (8 * K + 0) (outQ R (q0 R F0 Q0) K).2.1 pr dp (outQ R (q0 R F0 Q0) K).2.2 ∧ farE (outQ R (q0 R F0 Q0) K).1 (outQ R (q0 R F0 Q0) K).2.1 dp (outQ R (q0 R F0 Q0) K).2.2
  | 0, _ => ⟨_, _, (q0_bT F0 Q0 (p32 hP hs)).1, (q0_bT F0 Q0 (p32 hP hs)).2⟩
  | K + 1, hr => by
    obtain ⟨pr, dp, t1, t2⟩ := outQ_bT hP hs F0 Q0 K (fun k hk => hr k (by omega))
    have hok := outQ_ok hP (q0_ok hP hs (F0 := F0) (Q0 := Q0)) K (fun k hk => hr k (by omega))
    obtain ⟨pr', dp', u1, u2⟩ := inQ_bT hP hok (hr K (by omega)) t1 t2 (R 3) (Nat.le_refl _)
    exact ⟨pr', dp', bT_next u1 hP.2.2.2.1, u2⟩
theorem bfsE_bT {R : Nat → Nat} (hP : okP R) (hs : R 40 < 2 ^ R 2) {F0 : Nat → Int32} {Q0 : Nat → Nat} {K : Nat} (h : bfsE R F0 Q0 K) : ∃ pr dp : Nat → Nat, bT (nxN R) (R 3) (numA R (R 40) (uM R 0)) (8 * (outQ R (q0 R F0 Q0) K).2.2) (outQ R (q0 R F0 Q0) K).2.1 pr dp (outQ R (q0 R F0 Q0) K).2.2 ∧ farE (outQ R (q0 R F0 Q0) K).1 (outQ R (q0 R F0 Q0) K).2.1 dp (outQ R (q0 R F0 Q0) K).2.2 := by
  obtain ⟨pr, dp, t1, t2⟩ := outQ_bT hP hs F0 Q0 K h.1
  refine ⟨pr, dp, ?_, t2⟩
  have e : 8 * (outQ R (q0 R F0 Q0) K).2.2 = 8 * K + 0 := by rw [h.2]; rfl
  rw [e]; exact t1
theorem sonF_s {F : Nat → Int32} {Q : Nat → Nat} {s : Nat} : ∀ m i, (∀ t, t < m → Q (i + t) % 32 ≠ s) ∧ sonF F Q s m i = -1000000 ∨ ∃ t, t < m ∧ Q (i + t) % 32 = s ∧ (∀ u, u < t → Q (i + u) % 32 ≠ s) ∧ sonF F Q s m i = F (Q (i + t))
  | 0, i => Or.inl ⟨fun t ht => absurd ht (Nat.not_lt_zero t), rfl⟩
  | m + 1, i => by
    by_cases c : Q i % 32 = s
    · exact Or.inr ⟨0, Nat.succ_pos _, c, fun u hu => absurd hu (Nat.not_lt_zero u), if_pos c⟩
    · have e : sonF F Q s (m + 1) i = sonF F Q s m (i + 1) := if_neg c
      rw [e]
      rcases sonF_s (F := F) (Q := Q) (s := s) m (i + 1) with ⟨h1, h2⟩ | ⟨t, h1, h2, h3, h4⟩
      · refine Or.inl ⟨fun t ht => ?_, h2⟩
        cases t with
        | zero => exact c
        | succ t => have := h1 t (by omega); rwa [show i + 1 + t = i + (t + 1) by omega] at this
      · refine Or.inr ⟨t + 1, by omega, by rwa [show i + (t + 1) = i + 1 + t by omega], fun u hu => ?_, by rw [h4, show i + 1 + t = i + (t + 1) by omega]⟩
        cases u with
        | zero => exact c
        | succ u => have := h3 u (by omega); rwa [show i + 1 + u = i + (u + 1) by omega] at this
def rM_reached (s k : Int32) (S : RS) (z : Int32) : Prop :=
  if S.1 0 0 = 0 then z = -1000002 else if ¬ inR s (2 ^ S.1 0 2) ∨ k < -1 then z = -1000001 else
  ∃ (Q pr dp : Nat → Nat) (n : Nat), bT (nxN (S.1 0)) (S.1 0 3) (numA (S.1 0) (S.1 0 40) (uM (S.1 0) 0)) (8 * n) Q pr dp n ∧
    (((∀ i, i < n → Q i % 32 ≠ cl s) ∧ z = -1000000) ∨ ∃ f, f < n ∧ Q f % 32 = cl s ∧ (∀ t, t < f → Q t % 32 ≠ cl s) ∧ z = if k = -1 then nI (dp f) else if nI (dp f) ≤ k then -1000000 else nI (pr (anc pr f (dp f - 1 - cl k)) % 8))
