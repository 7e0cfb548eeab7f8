/-! the reader: tokens of a tape T of n bytes; a place c stands for the token that begins at or behind c -/
def srt (c : Nat) : Nat := if 97 ≤ c ∧ c ≤ 122 then 1 else if 48 ≤ c ∧ c ≤ 57 then 2 else 0
def skB (T : Nat → Nat) (n : Nat) : Nat → Nat → Nat
  | 0, i => i
  | f + 1, i => if i < n ∧ (T i = 32 ∨ T i = 10) then skB T n f (i + 1) else i
def tP (T : Nat → Nat) (n c : Nat) : Nat := skB T n (n - c) c
def rnS (T : Nat → Nat) (n s : Nat) : Nat → Nat → Nat
  | 0, i => i
  | f + 1, i => if i < n ∧ 0 < s ∧ srt (T i) = s then rnS T n s f (i + 1) else i
def tE (T : Nat → Nat) (n c : Nat) : Nat := if tP T n c < n then rnS T n (srt (T (tP T n c))) (n - (tP T n c + 1)) (tP T n c + 1) else tP T n c
theorem srt_le {c : Nat} : srt c ≤ 2 := by
  unfold srt
  repeat' split
  all_goals decide
theorem skB_le {T : Nat → Nat} {n : Nat} : ∀ f i, i ≤ n → i ≤ skB T n f i ∧ skB T n f i ≤ n
  | 0, i, h => ⟨Nat.le_refl _, h⟩
  | f + 1, i, h => by
    by_cases c : i < n ∧ (T i = 32 ∨ T i = 10)
    · rw [skB, if_pos c]
      have := skB_le (T := T) f (i + 1) c.1
      omega
    · rw [skB, if_neg c]; omega
theorem tP_le {T : Nat → Nat} {n c : Nat} (h : c ≤ n) : c ≤ tP T n c ∧ tP T n c ≤ n := skB_le _ _ h
theorem rnS_le {T : Nat → Nat} {n s : Nat} : ∀ f i, i ≤ n → (i ≤ rnS T n s f i ∧ rnS T n s f i ≤ n) ∧ ∀ k, i ≤ k → k < rnS T n s f i → srt (T k) = s
  | 0, i, h => ⟨⟨Nat.le_refl _, h⟩, fun k h1 h2 => absurd h2 (by show ¬ k < i; omega)⟩
  | f + 1, i, h => by
    by_cases c : i < n ∧ 0 < s ∧ srt (T i) = s
    · rw [rnS, if_pos c]
      have := rnS_le (T := T) (s := s) f (i + 1) c.1
      refine ⟨by omega, fun k h1 h2 => ?_⟩
      by_cases e : k = i
      · rw [e]; exact c.2.2
      · exact this.2 k (by omega) h2
    · rw [rnS, if_neg c]; exact ⟨by omega, fun k h1 h2 => absurd h2 (by omega)⟩
theorem tE_le {T : Nat → Nat} {n c : Nat} (h : c ≤ n) : tP T n c ≤ tE T n c ∧ tE T n c ≤ n ∧ (tP T n c < n → tP T n c < tE T n c) ∧ ∀ k, tP T n c ≤ k → k < tE T n c → srt (T k) = srt (T (tP T n c)) := by
  have hp := tP_le (T := T) h
  unfold tE
  by_cases c1 : tP T n c < n
  · rw [if_pos c1]
    have := rnS_le (T := T) (s := srt (T (tP T n c))) (n - (tP T n c + 1)) (tP T n c + 1) c1
    refine ⟨by omega, by omega, fun _ => by omega, fun k h1 h2 => ?_⟩
    by_cases e : k = tP T n c
    · rw [e]
    · exact this.2 k (by omega) h2
  · rw [if_neg c1]
    exact ⟨by omega, by omega, fun q => absurd q c1, fun k h1 h2 => absurd h2 (by omega)⟩
abbrev isWd (T : Nat → Nat) (p e wd lt : Nat) : Prop := e - p = lt ∧ ∀ i, i < lt → T (p + i) = 96 + wd / 2 ^ (5 * i) % 32
def hwS (T : Nat → Nat) (p e : Nat) : Nat := if isWd T p e 7808755 5 then 0 else if isWd T p e 6497939 5 then 1 else if isWd T p e 675312 4 then 2 else 3
def bwS (T : Nat → Nat) (p e : Nat) : Nat := if isWd T p e 5861 3 then 1 else if isWd T p e 13362 3 then 2 else if isWd T p e 78892 4 then 3 else if isWd T p e 4662658 5 then 4 else if isWd T p e 139839533 6 then 5 else 0
def sN (k m : Nat) : Int32 := if k = m then -1000000 else nI k
def decV (T : Nat → Nat) : Nat → Nat → Nat → Nat
  | 0, _, v => v
  | f + 1, i, v => decV T f (i + 1) (10 * v + T i - 48)
/-- a number's value, and what is wrong with it (0 if nothing) -/
def nuV (T : Nat → Nat) (p e : Nat) : Nat := decV T (e - p) p 0
def nuK (T : Nat → Nat) (n p e lo hi : Nat) : Nat := if ¬ (p < n ∧ srt (T p) = 2 ∧ e - p ≤ 3) then 1 else if lo ≤ nuV T p e ∧ nuV T p e ≤ hi then 0 else 2
def kV (k v : Nat) : Int32 := if k = 0 then nI v else -1000000
theorem decV_lt {T : Nat → Nat} : ∀ f i v B, (∀ k, i ≤ k → k < i + f → 48 ≤ T k ∧ T k ≤ 57) → v < B → decV T f i v < B * 10 ^ f
  | 0, _, v, B, _, hv => by show v < B * 10 ^ 0; omega
  | f + 1, i, v, B, h, hv => by
    have h0 := h i (Nat.le_refl _) (by omega)
    have := decV_lt f (i + 1) (10 * v + T i - 48) (10 * B) (fun k h1 h2 => h k (by omega) (by omega)) (by omega)
    show decV T f (i + 1) _ < _
    rw [Nat.pow_succ, show B * (10 ^ f * 10) = 10 * B * 10 ^ f by rw [Nat.mul_comm (10 ^ f) 10, ← Nat.mul_assoc, Nat.mul_comm B 10]]
    exact this
theorem srt_2 {c : Nat} (h : srt c = 2) : 48 ≤ c ∧ c ≤ 57 := by
  unfold srt at h
  split at h
  · omega
  · split at h
    · assumption
    · omega
theorem nuV_lt {T : Nat → Nat} {p e : Nat} (h : ∀ k, p ≤ k → k < e → srt (T k) = 2) (h3 : e - p ≤ 3) (hpe : p ≤ e) : nuV T p e < 1000 := by
  have h1 := decV_lt (T := T) (e - p) p 0 1 (fun k h1 h2 => srt_2 (h k h1 (by omega))) (by decide)
  have h2 : 10 ^ (e - p) ≤ 10 ^ 3 := Nat.pow_le_pow_right (by decide) h3
  unfold nuV
  omega
theorem ns_cur {Ns : Nat → Nat} {a b c : Nat} (h1 : Ns 13 = a) (h2 : Ns 14 = b) (h3 : Ns 15 = c) : Ns = va_up (va_up (va_up Ns 13 a) 14 b) 15 c := by
  funext k
  simp only [va_up]
  split
  · rename_i e; rw [e]; exact h3
  · split
    · rename_i e; rw [e]; exact h2
    · split
      · rename_i e; rw [e]; exact h1
      · rfl
theorem up_same {α : Type} (f : Nat → α) (k : Nat) : va_up f k (f k) = f := by
  funext j
  simp only [va_up]
  split
  · rename_i e; rw [e]
  · rfl
/-! what the reader finds, token by token: what is wrong (0 if nothing), where it is then, what it read -/
def adv (T : Nat → Nat) (n c k : Nat) : Nat := if k = 0 then tE T n c else c
def nmK (T : Nat → Nat) (n c lo hi : Nat) : Nat := nuK T n (tP T n c) (tE T n c) lo hi
def nmV (T : Nat → Nat) (n c : Nat) : Nat := nuV T (tP T n c) (tE T n c)
def sgK (T : Nat → Nat) (n c : Nat) : Nat := if tP T n c < n ∧ T (tP T n c) = 59 then 0 else 1
def wyK (T : Nat → Nat) (n c P H : Nat) : Nat := if nmK T n c 0 999 ≠ 0 then nmK T n c 0 999 else if nmV T n c < P ∨ (10 ≤ nmV T n c ∧ nmV T n c ≤ 9 + H) then 0 else 2
def pLaw (T : Nat → Nat) (n c : Nat) : Nat × Nat × Nat :=
  if ¬ isWd T (tP T n c) (tE T n c) 143846 4 then (1, c, 0) else
  if nmK T n (tE T n c) 1 6 ≠ 0 then (nmK T n (tE T n c) 1 6, tE T n c, 0) else
  (sgK T n (tE T n (tE T n c)), adv T n (tE T n (tE T n c)) (sgK T n (tE T n (tE T n c))), nmV T n (tE T n c))
/-- a hurdle whose word has been read: its sort stands at c -/
def pHuA (T : Nat → Nat) (n P H c : Nat) : Nat × Nat × Nat × Nat × Nat × Nat :=
  if hwS T (tP T n c) (tE T n c) = 3 then (1, c, 0, 0, 0, 0) else
  if wyK T n (tE T n c) P H ≠ 0 then (wyK T n (tE T n c) P H, tE T n c, 0, 0, 0, 0) else
  if wyK T n (tE T n (tE T n c)) P H ≠ 0 then (wyK T n (tE T n (tE T n c)) P H, tE T n (tE T n c), 0, 0, 0, 0) else
  if nmK T n (tE T n (tE T n (tE T n c))) 0 H ≠ 0 then (nmK T n (tE T n (tE T n (tE T n c))) 0 H, tE T n (tE T n (tE T n c)), 0, 0, 0, 0) else
  (sgK T n (tE T n (tE T n (tE T n (tE T n c)))), adv T n (tE T n (tE T n (tE T n (tE T n c)))) (sgK T n (tE T n (tE T n (tE T n (tE T n c))))), nmV T n (tE T n c), nmV T n (tE T n (tE T n c)), nmV T n (tE T n (tE T n (tE T n c))), hwS T (tP T n c) (tE T n c))
def pHur (T : Nat → Nat) (n P H c : Nat) : Nat × Nat × Nat × Nat × Nat × Nat := if H = 5 then (3, c, 0, 0, 0, 0) else pHuA T n P H (tE T n c)
def pBsA (T : Nat → Nat) (n c : Nat) : Nat × Nat × Nat × Nat :=
  if bwS T (tP T n c) (tE T n c) = 0 then (1, c, 0, 0) else
  if nmK T n (tE T n c) 1 99 ≠ 0 then (nmK T n (tE T n c) 1 99, tE T n c, 0, 0) else
  (sgK T n (tE T n (tE T n c)), adv T n (tE T n (tE T n c)) (sgK T n (tE T n (tE T n c))), bwS T (tP T n c) (tE T n c), nmV T n (tE T n c))
def pBst (T : Nat → Nat) (n B c : Nat) : Nat × Nat × Nat × Nat := if B = 8 then (3, c, 0, 0) else pBsA T n (tE T n c)
def upH (A : Nat → Nat) (H l r t s : Nat) : Nat → Nat := va_up (va_up (va_up (va_up A (4 * H) l) (4 * H + 1) r) (4 * H + 2) t) (4 * H + 3) s
def upB (A : Nat → Nat) (B k h : Nat) : Nat → Nat := va_up (va_up A (2 * B) k) (2 * B + 1) h
def pHs (T : Nat → Nat) (n P : Nat) : Nat → Nat → Nat → (Nat → Nat) → Nat × Nat × Nat × (Nat → Nat)
  | 0, c, H, A => (0, c, H, A)
  | f + 1, c, H, A => if isWd T (tP T n c) (tE T n c) 180505256 6 then (if (pHur T n P H c).1 = 0 then pHs T n P f (pHur T n P H c).2.1 (H + 1) (upH A H (pHur T n P H c).2.2.1 (pHur T n P H c).2.2.2.1 (pHur T n P H c).2.2.2.2.1 (pHur T n P H c).2.2.2.2.2) else ((pHur T n P H c).1, (pHur T n P H c).2.1, H, A)) else (0, c, H, A)
def pBs (T : Nat → Nat) (n : Nat) : Nat → Nat → Nat → (Nat → Nat) → Nat × Nat × Nat × (Nat → Nat)
  | 0, c, B, A => (0, c, B, A)
  | f + 1, c, B, A => if isWd T (tP T n c) (tE T n c) 21595298 5 then (if (pBst T n B c).1 = 0 then pBs T n f (pBst T n B c).2.1 (B + 1) (upB A B (pBst T n B c).2.2.1 (pBst T n B c).2.2.2) else ((pBst T n B c).1, (pBst T n B c).2.1, B, A)) else (0, c, B, A)
/-- a whole tape: (what is wrong, where, pens, hurdles, beasts, their arrays) -/
def pAll (T : Nat → Nat) (n : Nat) (A B : Nat → Nat) : Nat × Nat × Nat × Nat × Nat × (Nat → Nat) × (Nat → Nat) :=
  if (pLaw T n 0).1 ≠ 0 then ((pLaw T n 0).1, (pLaw T n 0).2.1, 0, 0, 0, A, B) else
  if (pHs T n (pLaw T n 0).2.2 6 (pLaw T n 0).2.1 0 A).1 ≠ 0 then ((pHs T n (pLaw T n 0).2.2 6 (pLaw T n 0).2.1 0 A).1, (pHs T n (pLaw T n 0).2.2 6 (pLaw T n 0).2.1 0 A).2.1, 0, 0, 0, A, B) else
  if (pHs T n (pLaw T n 0).2.2 6 (pLaw T n 0).2.1 0 A).2.2.1 = 0 then (1, (pHs T n (pLaw T n 0).2.2 6 (pLaw T n 0).2.1 0 A).2.1, 0, 0, 0, A, B) else
  if (pBs T n 9 (pHs T n (pLaw T n 0).2.2 6 (pLaw T n 0).2.1 0 A).2.1 0 B).1 ≠ 0 then ((pBs T n 9 (pHs T n (pLaw T n 0).2.2 6 (pLaw T n 0).2.1 0 A).2.1 0 B).1, (pBs T n 9 (pHs T n (pLaw T n 0).2.2 6 (pLaw T n 0).2.1 0 A).2.1 0 B).2.1, 0, 0, 0, A, B) else
  if tP T n (pBs T n 9 (pHs T n (pLaw T n 0).2.2 6 (pLaw T n 0).2.1 0 A).2.1 0 B).2.1 < n then (1, (pBs T n 9 (pHs T n (pLaw T n 0).2.2 6 (pLaw T n 0).2.1 0 A).2.1 0 B).2.1, 0, 0, 0, A, B) else
  (0, (pBs T n 9 (pHs T n (pLaw T n 0).2.2 6 (pLaw T n 0).2.1 0 A).2.1 0 B).2.1, (pLaw T n 0).2.2, (pHs T n (pLaw T n 0).2.2 6 (pLaw T n 0).2.1 0 A).2.2.1, (pBs T n 9 (pHs T n (pLaw T n 0).2.2 6 (pLaw T n 0).2.1 0 A).2.1 0 B).2.2.1, (pHs T n (pLaw T n 0).2.2 6 (pLaw T n 0).2.1 0 A).2.2.2, (pBs T n 9 (pHs T n (pLaw T n 0).2.2 6 (pLaw T n 0).2.1 0 A).2.1 0 B).2.2.2)
def fldR (R A B : Nat → Nat) (P H nb : Nat) : Nat → Nat := fun k => if k = 0 then 1 else if k = 1 then P else if k = 2 then H else if k = 3 then nb else if k < 24 then A (k - 4) else if k < 40 then B (k - 24) else if k < 58 then 0 else R k
def pM_fold (S : RS) : Int32 × RS :=
  if (pAll (S.1 3) (S.2.2.1 4) (S.1 17) (S.1 19)).1 ≠ 0 then (-1000100 - nI (tP (S.1 3) (S.2.2.1 4) (pAll (S.1 3) (S.2.2.1 4) (S.1 17) (S.1 19)).2.1), (S.1, S.2.1, va_up (va_up S.2.2.1 4 0) 5 (pAll (S.1 3) (S.2.2.1 4) (S.1 17) (S.1 19)).1, S.2.2.2)) else
  (nI (pAll (S.1 3) (S.2.2.1 4) (S.1 17) (S.1 19)).2.2.2.1, (va_up S.1 0 (fldR (S.1 0) (pAll (S.1 3) (S.2.2.1 4) (S.1 17) (S.1 19)).2.2.2.2.2.1 (pAll (S.1 3) (S.2.2.1 4) (S.1 17) (S.1 19)).2.2.2.2.2.2 (pAll (S.1 3) (S.2.2.1 4) (S.1 17) (S.1 19)).2.2.1 (pAll (S.1 3) (S.2.2.1 4) (S.1 17) (S.1 19)).2.2.2.1 (pAll (S.1 3) (S.2.2.1 4) (S.1 17) (S.1 19)).2.2.2.2.1), S.2.1, va_up (va_up S.2.2.1 2 0) 4 0, S.2.2.2))
