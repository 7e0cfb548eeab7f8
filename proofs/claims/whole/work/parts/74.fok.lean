def wyO (P H v : Nat) : Prop := v < P ∨ (10 ≤ v ∧ v < 10 + H)
theorem nmK_z {T : Nat → Nat} {n c lo hi : Nat} (h : nmK T n c lo hi = 0) : lo ≤ nmV T n c ∧ nmV T n c ≤ hi := by
  unfold nmK nuK at h
  by_cases c1 : ¬ (tP T n c < n ∧ srt (T (tP T n c)) = 2 ∧ tE T n c - tP T n c ≤ 3)
  · rw [if_pos c1] at h; exact absurd h (by decide)
  · rw [if_neg c1] at h
    by_cases c2 : lo ≤ nuV T (tP T n c) (tE T n c) ∧ nuV T (tP T n c) (tE T n c) ≤ hi
    · exact c2
    · rw [if_neg c2] at h; exact absurd h (by decide)
theorem wyK_z {T : Nat → Nat} {n c P H : Nat} (h : wyK T n c P H = 0) : wyO P H (nmV T n c) := by
  unfold wyK at h
  by_cases c1 : nmK T n c 0 999 ≠ 0
  · rw [if_pos c1] at h; exact absurd h c1
  · rw [if_neg c1] at h
    by_cases c2 : nmV T n c < P ∨ (10 ≤ nmV T n c ∧ nmV T n c ≤ 9 + H)
    · rcases c2 with c2 | c2
      · exact Or.inl c2
      · exact Or.inr ⟨c2.1, by omega⟩
    · rw [if_neg c2] at h; exact absurd h (by decide)
theorem pHuA_z {T : Nat → Nat} {n P H c : Nat} (h : (pHuA T n P H c).1 = 0) : wyO P H (pHuA T n P H c).2.2.1 ∧ wyO P H (pHuA T n P H c).2.2.2.1 ∧ (pHuA T n P H c).2.2.2.2.1 ≤ H ∧ (pHuA T n P H c).2.2.2.2.2 ≤ 2 := by
  unfold pHuA at h ⊢
  by_cases c1 : hwS T (tP T n c) (tE T n c) = 3
  · rw [if_pos c1] at h; exact absurd (show (1 : Nat) = 0 from h) (by decide)
  · rw [if_neg c1] at h ⊢
    by_cases c2 : wyK T n (tE T n c) P H ≠ 0
    · rw [if_pos c2] at h; exact absurd h c2
    · rw [if_neg c2] at h ⊢
      by_cases c3 : wyK T n (tE T n (tE T n c)) P H ≠ 0
      · rw [if_pos c3] at h; exact absurd h c3
      · rw [if_neg c3] at h ⊢
        by_cases c4 : nmK T n (tE T n (tE T n (tE T n c))) 0 H ≠ 0
        · rw [if_pos c4] at h; exact absurd h c4
        · rw [if_neg c4]
          exact ⟨wyK_z (Classical.not_not.mp c2), wyK_z (Classical.not_not.mp c3), (nmK_z (Classical.not_not.mp c4)).2, by have y : hwS T (tP T n c) (tE T n c) ≤ 3 := hwS_le; show hwS T (tP T n c) (tE T n c) ≤ 2; omega⟩
def hOK (P : Nat) (A : Nat → Nat) (h : Nat) : Prop := wyO P h (A (4 * h)) ∧ wyO P h (A (4 * h + 1)) ∧ A (4 * h + 2) ≤ h ∧ A (4 * h + 3) ≤ 2
theorem pHs_z {T : Nat → Nat} {n P : Nat} : ∀ (f c H : Nat) (A : Nat → Nat), H ≤ 5 → f + H = 6 → (∀ h, h < H → hOK P A h) → (pHs T n P f c H A).1 = 0 → (pHs T n P f c H A).2.2.1 ≤ 5 ∧ ∀ h, h < (pHs T n P f c H A).2.2.1 → hOK P (pHs T n P f c H A).2.2.2 h := by
  intro f
  induction f with
  | zero => intro c H A h1 h2; omega
  | succ f ih =>
    intro c H A h1 h2 hA h0
    by_cases c1 : isWd T (tP T n c) (tE T n c) 180505256 6
    · by_cases c2 : (pHur T n P H c).1 = 0
      · rw [pHs_s c1 c2] at h0 ⊢
        have h5 : ¬ H = 5 := fun y => by
          have e : pHur T n P H c = (3, c, 0, 0, 0, 0) := if_pos y
          rw [e] at c2; exact absurd (show (3 : Nat) = 0 from c2) (by decide)
        have e : pHur T n P H c = pHuA T n P H (tE T n c) := if_neg h5
        have z := pHuA_z (by rw [← e]; exact c2)
        rw [← e] at z
        refine ih _ (H + 1) _ (by omega) (by omega) ?_ h0
        intro h hh
        unfold hOK upH
        by_cases c3 : h = H
        · subst c3
          rw [va_up_s, va_up_n (show 4 * h + 2 ≠ 4 * h + 3 by omega), va_up_s, va_up_n (show 4 * h + 1 ≠ 4 * h + 3 by omega), va_up_n (show 4 * h + 1 ≠ 4 * h + 2 by omega), va_up_s, va_up_n (show 4 * h ≠ 4 * h + 3 by omega), va_up_n (show 4 * h ≠ 4 * h + 2 by omega), va_up_n (show 4 * h ≠ 4 * h + 1 by omega), va_up_s]
          exact z
        · have o := hA h (by omega)
          unfold hOK at o
          rw [va_up_n (show 4 * h ≠ 4 * H + 3 by omega), va_up_n (show 4 * h ≠ 4 * H + 2 by omega), va_up_n (show 4 * h ≠ 4 * H + 1 by omega), va_up_n (show 4 * h ≠ 4 * H by omega), va_up_n (show 4 * h + 1 ≠ 4 * H + 3 by omega), va_up_n (show 4 * h + 1 ≠ 4 * H + 2 by omega), va_up_n (show 4 * h + 1 ≠ 4 * H + 1 by omega), va_up_n (show 4 * h + 1 ≠ 4 * H by omega), va_up_n (show 4 * h + 2 ≠ 4 * H + 3 by omega), va_up_n (show 4 * h + 2 ≠ 4 * H + 2 by omega), va_up_n (show 4 * h + 2 ≠ 4 * H + 1 by omega), va_up_n (show 4 * h + 2 ≠ 4 * H by omega), va_up_n (show 4 * h + 3 ≠ 4 * H + 3 by omega), va_up_n (show 4 * h + 3 ≠ 4 * H + 2 by omega), va_up_n (show 4 * h + 3 ≠ 4 * H + 1 by omega), va_up_n (show 4 * h + 3 ≠ 4 * H by omega)]
          exact o
      · rw [pHs_x c1 c2] at h0; exact absurd h0 c2
    · rw [pHs_e c1]
      exact ⟨h1, hA⟩
theorem pBsA_z {T : Nat → Nat} {n c : Nat} (h : (pBsA T n c).1 = 0) : (1 ≤ (pBsA T n c).2.2.1 ∧ (pBsA T n c).2.2.1 ≤ 5) ∧ (pBsA T n c).2.2.2 ≤ 99 := by
  unfold pBsA at h ⊢
  by_cases c1 : bwS T (tP T n c) (tE T n c) = 0
  · rw [if_pos c1] at h; exact absurd (show (1 : Nat) = 0 from h) (by decide)
  · rw [if_neg c1] at h ⊢
    by_cases c2 : nmK T n (tE T n c) 1 99 ≠ 0
    · rw [if_pos c2] at h; exact absurd h c2
    · rw [if_neg c2]
      have y : bwS T (tP T n c) (tE T n c) ≤ 5 := bwS_le
      exact ⟨⟨by show 1 ≤ bwS T (tP T n c) (tE T n c); omega, y⟩, (nmK_z (Classical.not_not.mp c2)).2⟩
def bOK (A : Nat → Nat) (b : Nat) : Prop := (1 ≤ A (2 * b) ∧ A (2 * b) ≤ 5) ∧ A (2 * b + 1) ≤ 99
theorem pBs_z {T : Nat → Nat} {n : Nat} : ∀ (f c B : Nat) (A : Nat → Nat), B ≤ 8 → f + B = 9 → (∀ b, b < B → bOK A b) → (pBs T n f c B A).1 = 0 → (pBs T n f c B A).2.2.1 ≤ 8 ∧ ∀ b, b < (pBs T n f c B A).2.2.1 → bOK (pBs T n f c B A).2.2.2 b := by
  intro f
  induction f with
  | zero => intro c B A h1 h2; omega
  | succ f ih =>
    intro c B A h1 h2 hA h0
    by_cases c1 : isWd T (tP T n c) (tE T n c) 21595298 5
    · by_cases c2 : (pBst T n B c).1 = 0
      · rw [pBs_s c1 c2] at h0 ⊢
        have h5 : ¬ B = 8 := fun y => by
          have e : pBst T n B c = (3, c, 0, 0) := if_pos y
          rw [e] at c2; exact absurd (show (3 : Nat) = 0 from c2) (by decide)
        have e : pBst T n B c = pBsA T n (tE T n c) := if_neg h5
        have z := pBsA_z (by rw [← e]; exact c2)
        rw [← e] at z
        refine ih _ (B + 1) _ (by omega) (by omega) ?_ h0
        intro h hh
        unfold bOK upB
        by_cases c3 : h = B
        · subst c3
          rw [va_up_s, va_up_n (show 2 * h ≠ 2 * h + 1 by omega), va_up_s]
          exact z
        · have o := hA h (by omega)
          unfold bOK at o
          rw [va_up_n (show 2 * h ≠ 2 * B + 1 by omega), va_up_n (show 2 * h ≠ 2 * B by omega), va_up_n (show 2 * h + 1 ≠ 2 * B + 1 by omega), va_up_n (show 2 * h + 1 ≠ 2 * B by omega)]
          exact o
      · rw [pBs_x c1 c2] at h0; exact absurd h0 c2
    · rw [pBs_e c1]
      exact ⟨h1, hA⟩
theorem pLaw_z {T : Nat → Nat} {n c : Nat} (h : (pLaw T n c).1 = 0) : (pLaw T n c).2.2 ≤ 6 := by
  unfold pLaw at h ⊢
  by_cases c1 : ¬ isWd T (tP T n c) (tE T n c) 143846 4
  · rw [if_pos c1] at h; exact absurd (show (1 : Nat) = 0 from h) (by decide)
  · rw [if_neg c1] at h ⊢
    by_cases c2 : nmK T n (tE T n c) 1 6 ≠ 0
    · rw [if_pos c2] at h; exact absurd h c2
    · rw [if_neg c2]
      exact (nmK_z (Classical.not_not.mp c2)).2
theorem pAll_z {T A B : Nat → Nat} {n : Nat} (h : (pAll T n A B).1 = 0) : (pAll T n A B).2.2.1 ≤ 6 ∧ 1 ≤ (pAll T n A B).2.2.2.1 ∧ (pAll T n A B).2.2.2.1 ≤ 5 ∧ (pAll T n A B).2.2.2.2.1 ≤ 8 ∧ (∀ x, x < (pAll T n A B).2.2.2.1 → hOK (pAll T n A B).2.2.1 (pAll T n A B).2.2.2.2.2.1 x) ∧ ∀ b, b < (pAll T n A B).2.2.2.2.1 → bOK (pAll T n A B).2.2.2.2.2.2 b := by
  by_cases c1 : (pLaw T n 0).1 = 0
  · by_cases c2 : hsK (pHs T n (pLaw T n 0).2.2 6 (pLaw T n 0).2.1 0 A) = 0
    · have e := pAll_3 (B := B) c1 c2
      have e2 := e.2.2 (by rw [← e.1]; exact h)
      have z1 := pLaw_z c1
      have hh : (pHs T n (pLaw T n 0).2.2 6 (pLaw T n 0).2.1 0 A).1 = 0 ∧ ¬ (pHs T n (pLaw T n 0).2.2 6 (pLaw T n 0).2.1 0 A).2.2.1 = 0 := by
        unfold hsK at c2
        by_cases d1 : (pHs T n (pLaw T n 0).2.2 6 (pLaw T n 0).2.1 0 A).1 ≠ 0
        · rw [if_pos d1] at c2; exact absurd c2 d1
        · rw [if_neg d1] at c2
          by_cases d2 : (pHs T n (pLaw T n 0).2.2 6 (pLaw T n 0).2.1 0 A).2.2.1 = 0
          · rw [if_pos d2] at c2; exact absurd c2 (by decide)
          · exact ⟨Classical.not_not.mp d1, d2⟩
      have z2 := pHs_z 6 (pLaw T n 0).2.1 0 A (by decide) rfl (fun h hh => absurd hh (Nat.not_lt_zero _)) hh.1
      have hb : (pBs T n 9 (pHs T n (pLaw T n 0).2.2 6 (pLaw T n 0).2.1 0 A).2.1 0 B).1 = 0 := by
        have c3 : bsK T n (pBs T n 9 (pHs T n (pLaw T n 0).2.2 6 (pLaw T n 0).2.1 0 A).2.1 0 B) = 0 := by rw [← e.1]; exact h
        unfold bsK at c3
        by_cases d1 : (pBs T n 9 (pHs T n (pLaw T n 0).2.2 6 (pLaw T n 0).2.1 0 A).2.1 0 B).1 ≠ 0
        · rw [if_pos d1] at c3; exact absurd c3 d1
        · exact Classical.not_not.mp d1
      have z3 := pBs_z 9 (pHs T n (pLaw T n 0).2.2 6 (pLaw T n 0).2.1 0 A).2.1 0 B (by decide) rfl (fun h hh => absurd hh (Nat.not_lt_zero _)) hb
      rw [e2]
      exact ⟨z1, Nat.one_le_iff_ne_zero.mpr hh.2, z2.1, z3.1, z2.2, z3.2⟩
    · exact absurd h (by rw [(pAll_2 (B := B) c1 c2).1]; exact c2)
  · exact absurd h (by rw [pAll_1 (A := A) (B := B) c1]; exact c1)
theorem pAll_b {T A B : Nat → Nat} {n : Nat} (h : (pAll T n A B).1 = 0) : (pAll T n A B).2.2.2.1 ≤ 5 ∧ (pAll T n A B).2.2.2.2.1 ≤ 8 := ⟨(pAll_z h).2.2.1, (pAll_z h).2.2.2.1⟩
theorem nowR_new {g : gG} {S S' : RS} {np : Nat} {Pl : Nat → va_W} {pL : Nat → Nat → Nat → Nat} {s0 : Nat} {D : Nat → Nat → Nat} {x : va_W} {L : Nat → Nat → Nat} (h : nowR g S np Pl pL s0 D) (e : S'.1 0 = S.1 0 := by rfl) : nowR g S' (np + 1) (va_up Pl np x) (va_up pL np L) s0 D := by
  obtain ⟨⟨i, h1, h2⟩, h3⟩ := h
  rw [← e] at h2 h3
  refine ⟨⟨i, hasP_new h1, ?_⟩, h3⟩
  rw [va_up_n (by have := h1.1; omega)]
  exact h2
