/-! all that can be reached, found in breadth: (how far, in what order, how many) -/
abbrev QS : Type := (Nat → Int32) × (Nat → Nat) × Nat
def putQ (x : Nat) (far : Int32) (st : QS) : QS := if st.1 x = -1000000 then (upd st.1 x far, va_up st.2.1 st.2.2 x, st.2.2 + 1) else st
def inQ (R : Nat → Nat) (k : Nat) (st : QS) : Nat → QS
  | 0 => st
  | b + 1 => putQ (nxN R ((inQ R k st b).2.1 k) b) ((inQ R k st b).1 ((inQ R k st b).2.1 k) + 1) (inQ R k st b)
def outQ (R : Nat → Nat) (st : QS) : Nat → QS
  | 0 => st
  | k + 1 => inQ R k (outQ R st k) (R 3)
def cN (F : Nat → Int32) : Nat → Nat
  | 0 => 0
  | n + 1 => cN F n + (if F n = -1000000 then 1 else 0)
theorem cN_up {F : Nat → Int32} {x : Nat} {v : Int32} (hv : v ≠ -1000000) (hx : F x = -1000000) : ∀ n, cN F n = cN (upd F x v) n + (if x < n then 1 else 0)
  | 0 => rfl
  | n + 1 => by
    have h := cN_up hv hx n
    show cN F n + _ = cN (upd F x v) n + _ + _
    rw [h]
    by_cases e : n = x
    · subst e
      have e1 : upd F n v n = v := if_pos rfl
      rw [e1, if_pos hx, if_neg hv, if_neg (Nat.lt_irrefl n), if_pos (Nat.lt_succ_self n)]
    · have e1 : upd F x v n = F n := if_neg e
      rw [e1]
      by_cases h2 : x < n
      · rw [if_pos h2, if_pos (show x < n + 1 by omega)]; omega
      · rw [if_neg h2, if_neg (show ¬ x < n + 1 by omega), Nat.add_zero, Nat.add_zero]
theorem cN_pos {F : Nat → Int32} {x : Nat} (hx : F x = -1000000) : ∀ n, x < n → 0 < cN F n
  | 0, h => absurd h (Nat.not_lt_zero _)
  | n + 1, h => by
    show 0 < cN F n + _
    by_cases e : n = x
    · subst e; rw [if_pos hx]; omega
    · have := cN_pos hx n (by omega); omega
theorem cN_all {F : Nat → Int32} : ∀ n, (∀ k, k < n → F k = -1000000) → cN F n = n
  | 0, _ => rfl
  | n + 1, h => by
    show cN F n + _ = n + 1
    rw [cN_all n (fun k hk => h k (by omega)), if_pos (h n (by omega))]
/-- what always holds of it: places, standings of the fold's hurdles, how far -/
def okQ (H : Nat) (st : QS) : Prop := st.2.2 + cN st.1 7776 = 7776 ∧ (∀ i, i < st.2.2 → st.2.1 i < 7776 ∧ st.2.1 i % 32 < 2 ^ H ∧ ∃ d, d ≤ i ∧ st.1 (st.2.1 i) = nI d) ∧ (∀ x, x < 7776 → st.1 x = -1000000 ∨ ∃ i, i < st.2.2 ∧ st.2.1 i = x)
theorem nI_nN {d : Nat} (h : d < 2000000000) : nI d ≠ -1000000 := fun q => by
  have h1 : (nI d).toInt = (-1000000 : Int32).toInt := congrArg Int32.toInt q
  rw [nI_toInt (by omega)] at h1
  have e : (-1000000 : Int32).toInt = -1000000 := by decide
  omega
theorem okQ_room {H : Nat} {st : QS} (h : okQ H st) {x : Nat} (hx : x < 7776) (hn : st.1 x = -1000000) : st.2.2 < 7776 := by
  have := cN_pos hn 7776 hx
  have := h.1
  omega
theorem okQ_put {H : Nat} {st : QS} (h : okQ H st) {x d : Nat} (hx : x < 7776) (hs : x % 32 < 2 ^ H) (hd : d ≤ st.2.2) : okQ H (putQ x (nI d) st) := by
  by_cases c : st.1 x = -1000000
  · have e : putQ x (nI d) st = (upd st.1 x (nI d), va_up st.2.1 st.2.2 x, st.2.2 + 1) := if_pos c
    have hm := okQ_room h hx c
    have hne : nI d ≠ -1000000 := nI_nN (by omega)
    have hc := cN_up hne c 7776
    rw [if_pos hx] at hc
    rw [e]
    refine ⟨?_, ?_, ?_⟩
    · show st.2.2 + 1 + cN (upd st.1 x (nI d)) 7776 = 7776
      have := h.1
      omega
    · intro i hi
      have hi : i < st.2.2 + 1 := hi
      by_cases e2 : i = st.2.2
      · have ev : va_up st.2.1 st.2.2 x i = x := by rw [e2]; exact va_up_s
        show va_up st.2.1 st.2.2 x i < 7776 ∧ va_up st.2.1 st.2.2 x i % 32 < 2 ^ H ∧ ∃ d', d' ≤ i ∧ upd st.1 x (nI d) (va_up st.2.1 st.2.2 x i) = nI d'
        rw [ev]
        exact ⟨hx, hs, d, by omega, if_pos rfl⟩
      · have ev : va_up st.2.1 st.2.2 x i = st.2.1 i := va_up_n e2
        show va_up st.2.1 st.2.2 x i < 7776 ∧ va_up st.2.1 st.2.2 x i % 32 < 2 ^ H ∧ ∃ d', d' ≤ i ∧ upd st.1 x (nI d) (va_up st.2.1 st.2.2 x i) = nI d'
        rw [ev]
        obtain ⟨h1, h2, d', h3, h4⟩ := h.2.1 i (by omega)
        refine ⟨h1, h2, d', h3, ?_⟩
        show (if st.2.1 i = x then nI d else st.1 (st.2.1 i)) = nI d'
        rw [if_neg (fun q => nI_nN (d := d') (by omega) (by rw [← h4, q]; exact c))]
        exact h4
    · intro y hy
      by_cases e2 : y = x
      · exact Or.inr ⟨st.2.2, Nat.lt_succ_self _, by rw [e2]; exact va_up_s⟩
      · rcases h.2.2 y hy with h1 | ⟨i, hi, h1⟩
        · exact Or.inl (by show (if y = x then nI d else st.1 y) = _; rw [if_neg e2]; exact h1)
        · exact Or.inr ⟨i, Nat.lt_succ_of_lt hi, by show va_up st.2.1 st.2.2 x i = y; rw [va_up_n (by omega)]; exact h1⟩
  · have e : putQ x (nI d) st = st := if_neg c
    rw [e]
    exact h
theorem nxN_ok {R : Nat → Nat} (hP : okP R) {n b : Nat} (hn : n % 32 < 2 ^ R 2) : nxN R n b < 7776 ∧ nxN R n b % 32 < 2 ^ R 2 := by
  have hg := gOA_ok hP (sk := 99) (b := b) hn (Z5_tk n)
  have h32 := p32 hP hg.2.1
  refine ⟨numA_lt h32, ?_⟩
  have e : nxN R n b % 32 = (gOA R 99 b (n % 32) (tkU n)).2.1 := by
    show (32 * numD R (gOA R 99 b (n % 32) (tkU n)).2.2 5 + (gOA R 99 b (n % 32) (tkU n)).2.1) % 32 = _
    omega
  rw [e]
  exact hg.2.1
theorem nxN_eq {Z R : Nat → Nat} (hP : okP R) (h : eqB Z R) {n b : Nat} (hb : b < R 3) : nxN Z n b = nxN R n b := by
  have e : gOA Z 99 b (n % 32) (tkU n) = gOA R 99 b (n % 32) (tkU n) := gOA_eq hP h hb
  rw [nxN, nxN, e, numA_eq (eqB_P h)]
/-- while one is taken from the queue, it stays -/
theorem putQ_old {H : Nat} {st : QS} (h : okQ H st) {x : Nat} {far : Int32} {i : Nat} (hi : i < st.2.2) : (putQ x far st).2.1 i = st.2.1 i ∧ (putQ x far st).1 (st.2.1 i) = st.1 (st.2.1 i) ∧ st.2.2 ≤ (putQ x far st).2.2 := by
  by_cases c : st.1 x = -1000000
  · have e : putQ x far st = (upd st.1 x far, va_up st.2.1 st.2.2 x, st.2.2 + 1) := if_pos c
    rw [e]
    obtain ⟨h1, h2, d, h3, h4⟩ := h.2.1 i hi
    have := h.1
    refine ⟨va_up_n (by omega), ?_, Nat.le_succ _⟩
    show (if st.2.1 i = x then far else st.1 (st.2.1 i)) = _
    rw [if_neg (fun q => nI_nN (d := d) (by omega) (by rw [← h4, q]; exact c))]
  · have e : putQ x far st = st := if_neg c
    rw [e]
    exact ⟨rfl, rfl, Nat.le_refl _⟩
theorem inQ_ok {R : Nat → Nat} (hP : okP R) {k : Nat} {st : QS} (h : okQ (R 2) st) (hk : k < st.2.2) : ∀ b, okQ (R 2) (inQ R k st b) ∧ (inQ R k st b).2.1 k = st.2.1 k ∧ (inQ R k st b).1 (st.2.1 k) = st.1 (st.2.1 k) ∧ st.2.2 ≤ (inQ R k st b).2.2
  | 0 => ⟨h, rfl, rfl, Nat.le_refl _⟩
  | b + 1 => by
    obtain ⟨h1, h2, h3, h4⟩ := inQ_ok hP h hk b
    obtain ⟨a1, a2, d, a3, a4⟩ := h.2.1 k hk
    have hnx := nxN_ok hP (n := st.2.1 k) (b := b) a2
    have hold := putQ_old h1 (x := nxN R ((inQ R k st b).2.1 k) b) (far := (inQ R k st b).1 ((inQ R k st b).2.1 k) + 1) (i := k) (by omega)
    have hd : (inQ R k st b).1 ((inQ R k st b).2.1 k) + 1 = nI (d + 1) := by rw [h2, h3, a4]; exact nI_1 d
    have hput : okQ (R 2) (putQ (nxN R ((inQ R k st b).2.1 k) b) ((inQ R k st b).1 ((inQ R k st b).2.1 k) + 1) (inQ R k st b)) := by
      rw [hd, h2]
      exact okQ_put h1 hnx.1 hnx.2 (by omega)
    refine ⟨hput, ?_, ?_, Nat.le_trans h4 hold.2.2⟩
    · exact hold.1.trans h2
    · have := hold.2.1
      rw [h2] at this
      rw [← h3]
      show (putQ (nxN R ((inQ R k st b).2.1 k) b) _ (inQ R k st b)).1 (st.2.1 k) = _
      rw [← this, h2]
/-- as long as the queue isn't through -/
def runQ (R : Nat → Nat) (st : QS) (K : Nat) : Prop := ∀ k, k < K → k < (outQ R st k).2.2
theorem outQ_ok {R : Nat → Nat} (hP : okP R) {st : QS} (h : okQ (R 2) st) : ∀ K, runQ R st K → okQ (R 2) (outQ R st K)
  | 0, _ => h
  | K + 1, hr => (inQ_ok hP (outQ_ok hP h K (fun k hk => hr k (by omega))) (hr K (by omega)) (R 3)).1
def q0 (R : Nat → Nat) (F0 : Nat → Int32) (Q0 : Nat → Nat) : QS := putQ (numA R (R 40) (uM R 0)) 0 (va_cpy (fun _ => -1000000) F0 0 0 7776, Q0, 0)
theorem q0_ok {R : Nat → Nat} (hP : okP R) (hs : R 40 < 2 ^ R 2) {F0 : Nat → Int32} {Q0 : Nat → Nat} : okQ (R 2) (q0 R F0 Q0) := by
  have h32 := p32 hP hs
  have hb : okQ (R 2) (va_cpy (fun _ => -1000000) F0 0 0 7776, Q0, 0) := by
    refine ⟨?_, fun i hi => absurd hi (Nat.not_lt_zero _), fun x hx => Or.inl (by show va_cpy (fun _ => -1000000) F0 0 0 7776 x = -1000000; rw [cpy_in (by omega) (by omega)])⟩
    show 0 + cN (va_cpy (fun _ => -1000000) F0 0 0 7776) 7776 = 7776
    rw [cN_all 7776 (fun k hk => by rw [cpy_in (by omega) (by omega)])]
  refine okQ_put (d := 0) hb (numA_lt h32) ?_ (Nat.le_refl 0)
  show (32 * numD R (uM R 0) 5 + R 40) % 32 < 2 ^ R 2
  rw [show (32 * numD R (uM R 0) 5 + R 40) % 32 = R 40 by omega]
  exact hs
set_option maxRecDepth 20000 in
theorem c_X6_put (g : gG) (q : Nat → Nat) (Na : Nat → Nat → Nat) (Ia : Nat → Nat → Int32) (Ns : Nat → Nat) (Is : Nat → Int32) (n : Nat) (far : Int32)  (hn : n < 7776) (hr : Ia 21 n = -1000000 → Ns 23 < 7776) : gCon g mX6_put 0 0 0 [.ref (q 26), .int (nI n), .int far] (wM g q Na Ia Ns Is) (fun rv ws' => rv = none ∧ ws' = (wM g q (va_up Na 22 ((putQ n far (Ia 21, Na 22, Ns 23)).2.1)) (va_up Ia 21 ((putQ n far (Ia 21, Na 22, Ns 23)).1)) (va_up Ns 23 ((putQ n far (Ia 21, Na 22, Ns 23)).2.2)) Is)) := by
  refine gCon.of (lv := [(0, .ref (q 26)), (1, .int (nI n)), (2, .int far)]) (by decide) (gLe rfl) rfl ?_
  refine j_aload_n 1 dX6_put_0 rfl 0 rfl ?_
  refine j_getf 4 0 dX6_put_1 rfl fd_X6_42 rfl rfl ?_
  refine j_iload_n 5 dX6_put_4 rfl 1 rfl ?_
  refine j_ialdR n 6 10 dX6_put_5 rfl rfl (by omega) (by decide) ?_
  refine j_ldc (v := (-1000000 : Int32)) 8 dX6_put_6 rfl wd_4_47 ?_
  refine j_icmp_ne 11 38 dX6_put_8 rfl rfl (fun h8 => ?_) (fun h8 => ?_)
  ·
    refine j_vret dX6_put_38 rfl ⟨gLe rfl, gLe rfl, ?_⟩
    first
      | (have e : putQ n far (Ia 21, Na 22, Ns 23) = (upd (Ia 21) n far, va_up (Na 22) (Ns 23) n, Ns 23 + 1) := if_pos h8
         rw [e]; exact ⟨rfl, rfl⟩)
      | (have e : putQ n far (Ia 21, Na 22, Ns 23) = (Ia 21, Na 22, Ns 23) := if_neg h8
         rw [e]; exact ⟨rfl, rfl⟩)
  ·
    refine j_aload_n 12 dX6_put_11 rfl 0 rfl ?_
    refine j_getf 15 0 dX6_put_12 rfl fd_X6_42 rfl rfl ?_
    refine j_iload_n 16 dX6_put_15 rfl 1 rfl ?_
    refine j_iload_n 17 dX6_put_16 rfl 2 rfl ?_
    refine j_iastR n 18 10 (wM g q Na (va_up Ia 21 (upd (Ia 21) n far)) Ns Is) dX6_put_17 rfl rfl (by omega) (by decide) rfl ?_
    refine j_aload_n 19 dX6_put_18 rfl 0 rfl ?_
    refine j_getf 22 0 dX6_put_19 rfl fd_X6_45 rfl rfl ?_
    refine j_aload_n 23 dX6_put_22 rfl 0 rfl ?_
    refine j_getf 26 0 dX6_put_23 rfl fd_X6_233 rfl rfl ?_
    refine j_iload_n 27 dX6_put_26 rfl 1 rfl ?_
    refine j_iastN n (Ns 23) 28 11 (wM g q (va_up Na 22 (va_up (Na 22) (Ns 23) n)) (va_up Ia 21 (upd (Ia 21) n far)) Ns Is) dX6_put_27 rfl rfl (hr h8) (by decide) rfl ?_
    refine j_aload_n 29 dX6_put_28 rfl 0 rfl ?_
    refine j_dup 30 dX6_put_29 rfl rfl ?_
    refine j_getf 33 0 dX6_put_30 rfl fd_X6_233 rfl rfl ?_
    refine j_iconst (v := (1 : Int32)) 34 dX6_put_33 rfl (by decide) ?_
    refine j_iaddN (Ns 23) 1 35 dX6_put_34 rfl ?_
    refine j_putf 38 0 (wM g q (va_up Na 22 (va_up (Na 22) (Ns 23) n)) (va_up Ia 21 (upd (Ia 21) n far)) (va_up Ns 23 ((Ns 23) + 1)) Is) dX6_put_35 rfl fd_X6_233 rfl rfl rfl (gLe rfl) rfl ?_
    refine j_vret dX6_put_38 rfl ⟨gLe rfl, gLe rfl, ?_⟩
    first
      | (have e : putQ n far (Ia 21, Na 22, Ns 23) = (upd (Ia 21) n far, va_up (Na 22) (Ns 23) n, Ns 23 + 1) := if_pos h8
         rw [e]; exact ⟨rfl, rfl⟩)
      | (have e : putQ n far (Ia 21, Na 22, Ns 23) = (Ia 21, Na 22, Ns 23) := if_neg h8
         rw [e]; exact ⟨rfl, rfl⟩)
