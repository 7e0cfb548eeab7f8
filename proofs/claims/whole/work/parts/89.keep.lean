/-! the reference's invariant is kept by every call -/
theorem okM_ext {P f f' : Nat → Nat} (e : ∀ k, k < 18 → f k = f' k) (hm : okM P f') : okM P f := by
  obtain ⟨a, b, c, d⟩ := hm
  have ec : cntM f = cntM f' := by simp only [cntM, e 6 (by decide), e 7 (by decide), e 8 (by decide), e 9 (by decide), e 10 (by decide), e 11 (by decide)]
  exact ⟨by rw [e 0 (by decide)]; exact a, fun j hj => by rw [e _ (by omega), ec]; exact b j hj, by rw [ec]; exact c, fun p hp => by rw [e _ (by omega), e _ (by omega)]; exact d p hp⟩
theorem okF_ext {R R' : Nat → Nat} {a a' : Nat} (e : ∀ k, k < 58 → R' (a' + k) = R (a + k)) (h : okF R a) : okF R' a' := by
  obtain ⟨h1, h2⟩ := h
  refine ⟨okP_eq (fun k hk => e k (by omega)) h1, okM_P (e 2 (by decide)).symm (okM_ext (fun k hk => ?_) h2)⟩
  show R' (a' + 40 + k) = R (a + 40 + k)
  rw [Nat.add_assoc, Nat.add_assoc]
  exact e _ (by omega)
theorem okR_eqB {R R' : Nat → Nat} (e : eqB R' R) (h : okR R) : okR R' := by
  obtain ⟨h1, h2⟩ := h
  refine ⟨?_, ?_⟩
  · rcases h1 with ⟨a, b, c⟩ | ⟨a, b, c, d, f⟩
    · exact Or.inl ⟨by rw [e 0 (by decide)]; exact a, okP_eq (eqB_P e) b, okM_P (e 2 (by decide)).symm (okM_ext (fun k hk => e _ (by omega)) c)⟩
    · exact Or.inr ⟨by rw [e 0 (by decide)]; exact a, by rw [e 1 (by decide)]; exact b, by rw [e 2 (by decide)]; exact c, by rw [e 3 (by decide)]; exact d, fun k hk => by rw [e _ (by omega)]; exact f k hk⟩
  · intro i hi
    rcases h2 i hi with ⟨a, b⟩ | a
    · exact Or.inl ⟨by rw [e _ (by omega)]; exact a, okF_ext (fun k hk => e _ (by omega)) b⟩
    · exact Or.inr (by rw [e _ (by omega)]; exact a)
theorem RI_Gq {S S' : RS} (hI : RI S) (hG : Gq S' S) : RI S' := by
  obtain ⟨g1, ⟨g2, g3, g4, g5⟩, ⟨g6, g7⟩, ⟨g8, g9, g10, g11, g12⟩, g13⟩ := hG
  obtain ⟨r1, r2, r3, r4, r5, r6, r7, r8, r9, r10, r11, r12⟩ := hI
  refine ⟨okR_eqB g1 r1, by rw [g8]; exact r2, by rw [g8, g1 0 (by decide)]; exact r3, ?_, by rw [g9]; exact r5, by rw [g3]; exact r6, by rw [g6]; exact r7, by rw [g4]; exact r8, by rw [g12]; exact r9, by rw [g13]; exact r10, by rw [g10]; exact r11, by rw [g11]; exact r12⟩
  rw [g8, g2]
  exact fun i hi => okM_P (g1 2 (by decide)).symm (r4 i hi)
theorem RI_stN {S : RS} (hI : RI S) {k : Nat} (hk : k ≤ 5) : RI (stN S k) := by
  obtain ⟨r1, r2, r3, r4, r5, r6, r7, r8, r9, r10, r11, r12⟩ := hI
  exact ⟨r1, r2, r3, r4, r5, r6, r7, r8, r9, r10, r11, hk⟩
theorem rfK_le2 {ln i n : Int32} {s : Nat} : rfK ln s i n ≤ 2 := by
  unfold rfK
  repeat' split
  all_goals decide
theorem rpN_le {r i n : Int32} {S : RS} (hI : RI S) : rpN r i n S ≤ 5 := by
  have h6 := hI.2.2.2.2.2.2.2.2.2.2.2
  have h2 : rfK (S.2.1 7 (cl r)) (S.1 8 (cl r)) i (nI (2 * cl n)) ≤ 2 := rfK_le2
  unfold rpN stsA
  split <;> omega
theorem RI_row {S : RS} (hI : RI S) (r l n : Int32) : RI (pM_row r l n S).2 := by
  unfold pM_row
  by_cases c : ¬ inR r 8 ∨ ¬ inR l 3 ∨ 40 < n
  · rw [if_pos c]; exact hI
  · rw [if_neg c]
    by_cases c2 : n < 0
    · rw [if_pos c2]; exact RI_stN hI (by decide)
    · rw [if_neg c2]
      have hr : inR r 8 := Classical.byContradiction fun y => c (Or.inl y)
      have hl : inR l 3 := Classical.byContradiction fun y => c (Or.inr (Or.inl y))
      have hn : ¬ 40 < n := fun y => c (Or.inr (Or.inr y))
      have hn40 : cl n ≤ 40 := by
        rw [Int32.lt_iff_toInt_lt, show (40 : Int32).toInt = 40 by decide] at hn
        rw [i32_neg] at c2
        obtain ⟨a, ha, e⟩ := inR_of (n := 41) (x := n) ⟨by omega, by omega⟩
        rw [e, cl_nI (by omega)]; omega
      obtain ⟨r1, r2, r3, r4, r5, r6, r7, r8, r9, r10, r11, r12⟩ := hI
      refine ⟨r1, r2, r3, r4, r5, r6, fun q hq => ?_, fun q hq => ?_, r9, r10, r11, Nat.zero_le _⟩
      · show upd (S.2.1 7) (cl r) l q = -1000000 ∨ inR (upd (S.2.1 7) (cl r) l q) 3
        simp only [upd]
        split
        · exact Or.inr hl
        · exact r7 q hq
      · show va_up (S.1 8) (cl r) (cl n) q ≤ 40
        simp only [va_up]
        split
        · exact hn40
        · exact r8 q hq
theorem RI_items {S : RS} (hI : RI S) (f : Nat → Int32) : RI (S.1, va_up S.2.1 9 f, va_up S.2.2.1 6 0, S.2.2.2) := by
  obtain ⟨r1, r2, r3, r4, r5, r6, r7, r8, r9, r10, r11, r12⟩ := hI
  exact ⟨r1, r2, r3, r4, r5, r6, r7, r8, r9, r10, r11, Nat.zero_le _⟩
theorem RI_set {S : RS} (hI : RI S) (r i v : Int32) : RI (pM_set r i v S).2 := by
  unfold pM_set
  by_cases c : ¬ inR r 8
  · rw [if_pos c]; exact hI
  · rw [if_neg c]
    by_cases c2 : S.2.1 7 (cl r) = -1000000
    · rw [if_pos c2]; exact RI_stN hI (by decide)
    · rw [if_neg c2]
      by_cases c3 : ¬ inR i (S.1 8 (cl r))
      · rw [if_pos c3]; exact RI_stN hI (by decide)
      · rw [if_neg c3]; exact RI_items hI _
theorem RI_copy {S : RS} (hI : RI S) (a i b j n : Int32) : RI (pM_copy a i b j n S).2 := by
  unfold pM_copy
  by_cases c : ¬ inR a 8 ∨ ¬ inR b 8
  · rw [if_pos c]; exact hI
  · rw [if_neg c]
    by_cases c2 : S.2.1 7 (cl a) = -1000000 ∨ S.2.1 7 (cl b) = -1000000
    · rw [if_pos c2]; exact RI_stN hI (by decide)
    · rw [if_neg c2]
      by_cases c3 : S.2.1 7 (cl a) ≠ S.2.1 7 (cl b)
      · rw [if_pos c3]; exact RI_stN hI (by decide)
      · rw [if_neg c3]
        by_cases c4 : ¬ spn (S.1 8 (cl a)) i n ∨ ¬ spn (S.1 8 (cl b)) j n
        · rw [if_pos c4]; exact RI_stN hI (by decide)
        · rw [if_neg c4]; exact RI_items hI _
theorem RI_drop {S : RS} (hI : RI S) (r : Int32) : RI (pM_drop r S).2 := by
  unfold pM_drop
  by_cases c : ¬ inR r 8
  · rw [if_pos c]; exact hI
  · rw [if_neg c]
    by_cases c2 : S.2.1 7 (cl r) = -1000000
    · rw [if_pos c2]; exact RI_stN hI (by decide)
    · rw [if_neg c2]
      obtain ⟨r1, r2, r3, r4, r5, r6, r7, r8, r9, r10, r11, r12⟩ := hI
      refine ⟨r1, r2, r3, r4, r5, r6, fun q hq => ?_, r8, r9, r10, r11, Nat.zero_le _⟩
      show upd (S.2.1 7) (cl r) (-1000000) q = -1000000 ∨ inR (upd (S.2.1 7) (cl r) (-1000000) q) 3
      simp only [upd]
      split
      · exact Or.inl rfl
      · exact r7 q hq
theorem RI_feed {S : RS} (hI : RI S) (w : Int64) (n : Int32) : RI (pM_feed w n S).2 := by
  unfold pM_feed
  by_cases c : ¬ ((1 : Int32) ≤ n ∧ n ≤ 8)
  · rw [if_pos c]; exact hI
  · rw [if_neg c]
    by_cases c2 : 400 < S.2.2.1 4 + cl n
    · rw [if_pos c2]; exact hI
    · rw [if_neg c2]
      obtain ⟨r1, r2, r3, r4, r5, r6, r7, r8, r9, r10, r11, r12⟩ := hI
      refine ⟨r1, r2, r3, r4, Nat.not_lt.mp c2, fun k => ?_, r7, r8, r9, r10, r11, r12⟩
      show fdT (S.1 3) (S.2.2.1 4) w (cl n) (cl n) k < 256
      unfold fdT
      split
      · exact byteW_lt _ _
      · exact r6 k
theorem RI_run {S : RS} (hI : RI S) (b : Int32) : RI (pM_run b S).2 := by
  unfold pM_run
  by_cases c : ¬ inR b (S.1 0 3)
  · rw [if_pos c]; exact hI
  · rw [if_neg c]
    by_cases c2 : inP (S.1 0) = 9999
    · rw [if_pos c2]; exact hI
    · rw [if_neg c2]
      have hb := Classical.not_not.mp c
      have h8 : S.1 0 3 ≤ 8 := by
        rcases hI.1.1 with y | y
        · exact y.2.1.2.2.2.1
        · omega
      exact RI_runS hI (inR_cl hb (by omega)).2 (by have := inP_le hI; omega)
theorem RI_runsS {it : Nat → Int32} {base : Nat} : ∀ (n k : Nat) (S : RS), RI S → (∀ j, k ≤ j → j < k + n → cl (it (base + j)) < S.1 0 3) → inP (S.1 0) + n ≤ 9999 → RI (runsS it base n k S)
  | 0, _, _, hI, _, _ => hI
  | n + 1, k, S, hI, hb, hp => by
    have h0 := hb k (Nat.le_refl _) (by omega)
    have hok := (RI_P hI (Or.inr (Or.inl (by omega)))).2
    refine RI_runsS n (k + 1) _ (RI_runS hI h0 (by omega)) (fun j h1 h2 => ?_) ?_
    · rw [runS_k.2.2]; exact hb j (by omega) (by omega)
    · have := inP_runz (b := cl (it (base + k))) hok.1 hok.2.1
      show inP (runR (S.1 0) _) + n ≤ 9999
      omega
theorem RI_runs {S : RS} (hI : RI S) (r i n : Int32) : RI (pM_runs r i n S).2 := by
  unfold pM_runs
  by_cases c : S.1 0 0 = 0
  · rw [if_pos c]; exact hI
  · rw [if_neg c]
    by_cases c2 : ¬ inR r 8 ∨ ¬ ((1 : Int32) ≤ n ∧ n ≤ 24)
    · rw [if_pos c2]; exact hI
    · rw [if_neg c2]
      by_cases c3 : rfK (S.2.1 7 (cl r)) (S.1 8 (cl r)) i n ≠ 0
      · rw [if_pos c3]; exact RI_stN hI (Nat.le_trans rfK_le2 (by decide))
      · rw [if_neg c3]
        by_cases c4 : ¬ areB (S.2.1 9) (40 * cl r + cl i) (cl n) (S.1 0 3)
        · rw [if_pos c4]; exact hI
        · rw [if_neg c4]
          by_cases c5 : 9999 < inP (S.1 0) + cl n
          · rw [if_pos c5]; exact hI
          · rw [if_neg c5]
            have h8 := (RI_P hI (Or.inr (Or.inr (Or.inr c)))).2.1.2.2.2.1
            exact RI_stN (RI_runsS _ _ _ hI (fun j _ h2 => areB_cl (Classical.not_not.mp c4) (by omega) j (by omega)) (by omega)) (by decide)
theorem RI_dawn {S : RS} (hI : RI S) (s : Int32) : RI (pM_dawn s S).2 := by
  unfold pM_dawn
  by_cases c : S.1 0 0 = 0
  · rw [if_pos c]; exact hI
  · rw [if_neg c]
    by_cases c2 : ¬ inR s (2 ^ S.1 0 2)
    · rw [if_pos c2]; exact hI
    · rw [if_neg c2]
      obtain ⟨h0, hP, hM⟩ := RI_P hI (Or.inr (Or.inr (Or.inr c)))
      have hp5 : 2 ^ S.1 0 2 ≤ 2 ^ 5 := Nat.pow_le_pow_right (by decide) hP.2.2.1
      have hs := (inR_cl (Classical.not_not.mp c2) (by omega)).2
      obtain ⟨r1, r2, r3, r4, r5⟩ := hI
      have e2 : dawnR (S.1 0) (cl s) 2 = S.1 0 2 := dawnR_lo (by decide)
      have ez : ∀ k, 1 ≤ k → k < 18 → dawnR (S.1 0) (cl s) (40 + k) = 0 := fun k h1 h2 => by rw [dawnR, va_up_n (by omega), cpy_in (by omega) (by omega)]
      refine ⟨okR_new r1 (fun k hk _ => dawnR_hi hk) ?_ (okP_eq (fun k hk => dawnR_lo hk) hP) ?_, kpN_le r2, ?_, fun i hi => okM_P e2.symm (kp_ok r2 r4 hM i hi), r5⟩
      · show dawnR (S.1 0) (cl s) 0 = 1
        rw [dawnR_lo (by decide)]; exact h0
      · refine ⟨?_, fun h hh => ?_, ?_, fun p hp => ?_⟩
        · show dawnR (S.1 0) (cl s) 40 < 2 ^ dawnR (S.1 0) (cl s) 2
          rw [e2, dawnR, va_up_s]; exact hs
        · show dawnR (S.1 0) (cl s) (40 + (1 + h)) ≤ _
          rw [ez _ (by omega) (by omega)]; exact Nat.zero_le _
        · show dawnR (S.1 0) (cl s) (40 + 6) + dawnR (S.1 0) (cl s) (40 + 7) + dawnR (S.1 0) (cl s) (40 + 8) + dawnR (S.1 0) (cl s) (40 + 9) + dawnR (S.1 0) (cl s) (40 + 10) + dawnR (S.1 0) (cl s) (40 + 11) ≤ 9999
          rw [ez 6 (by decide) (by decide), ez 7 (by decide) (by decide), ez 8 (by decide) (by decide), ez 9 (by decide) (by decide), ez 10 (by decide) (by decide), ez 11 (by decide) (by decide)]
          decide
        · show dawnR (S.1 0) (cl s) (40 + (12 + p)) ≤ _
          rw [ez _ (by omega) (by omega)]; exact Nat.zero_le _
      · intro y
        have y2 : dawnR (S.1 0) (cl s) 0 = 0 := y
        rw [dawnR_lo (by decide), h0] at y2; exact absurd y2 (by decide)
theorem RI_undo {S : RS} (hI : RI S) : RI (pM_undo S).2 := by
  unfold pM_undo
  by_cases c : S.2.2.1 2 = 0
  · rw [if_pos c]; exact hI
  · rw [if_neg c]
    have hz : ¬ S.1 0 0 = 0 := fun y => c (hI.2.2.1 y)
    obtain ⟨h0, hP, hM⟩ := RI_P hI (Or.inr (Or.inr (Or.inr hz)))
    obtain ⟨r1, r2, r3, r4, r5⟩ := hI
    have e : ∀ k, k < 40 → va_cpy (S.1 1) (S.1 0) (18 * (S.2.2.1 2 - 1)) 40 18 k = S.1 0 k := fun k hk => cpy_out (by omega)
    have e2 := e 2 (by decide)
    refine ⟨okR_new r1 (fun k hk _ => cpy_out (by omega)) ?_ (okP_eq e hP) ?_, Nat.le_trans (Nat.sub_le _ _) r2, ?_, fun i hi => okM_P e2.symm (r4 i (by have hi : i < S.2.2.1 2 - 1 := hi; omega)), r5⟩
    · show va_cpy (S.1 1) (S.1 0) (18 * (S.2.2.1 2 - 1)) 40 18 0 = 1
      rw [e 0 (by decide)]; exact h0
    · refine okM_P e2.symm (okM_ext (fun k hk => ?_) (r4 (S.2.2.1 2 - 1) (by omega)))
      show va_cpy (S.1 1) (S.1 0) (18 * (S.2.2.1 2 - 1)) 40 18 (40 + k) = _
      rw [cpy_in (by omega) (by omega)]
      exact congrArg (S.1 1) (by omega)
    · intro y
      have y2 : va_cpy (S.1 1) (S.1 0) (18 * (S.2.2.1 2 - 1)) 40 18 0 = 0 := y
      rw [e 0 (by decide), h0] at y2; exact absurd y2 (by decide)
theorem RI_image {S : RS} (hI : RI S) (k : Int32) : RI (pM_image k S).2 := by
  unfold pM_image
  by_cases c : ¬ inR k 2
  · rw [if_pos c]; exact hI
  · rw [if_neg c]
    by_cases c2 : S.1 0 0 = 0
    · rw [if_pos c2]; exact hI
    · rw [if_neg c2]
      have hk := (inR_cl (Classical.not_not.mp c) (by decide)).2
      obtain ⟨h0, hP, hM⟩ := RI_P hI (Or.inr (Or.inr (Or.inr c2)))
      obtain ⟨r1, r2, r3, r4, r5⟩ := hI
      have e : ∀ j, j < 58 → va_cpy (S.1 0) (S.1 0) 0 (58 * (1 + cl k)) 58 j = S.1 0 j := fun j hj => cpy_out (by omega)
      have e2 := e 2 (by decide)
      refine ⟨⟨Or.inl ⟨?_, okP_eq (fun j hj => e j (by omega)) hP, okM_P e2.symm (okM_ext (fun j hj => e _ (by omega)) hM)⟩, fun i hi => ?_⟩, r2, ?_, fun i hi => okM_P e2.symm (r4 i hi), r5⟩
      · show va_cpy (S.1 0) (S.1 0) 0 (58 * (1 + cl k)) 58 0 = 1
        rw [e 0 (by decide)]; exact h0
      · by_cases ci : i = cl k
        · subst ci
          have e3 : ∀ j, j < 58 → va_cpy (S.1 0) (S.1 0) 0 (58 * (1 + cl k)) 58 (58 * (1 + cl k) + j) = S.1 0 (0 + j) := fun j hj => by rw [cpy_in (by omega) (by omega)]; exact congrArg (S.1 0) (by omega)
          refine Or.inl ⟨?_, okF_ext (a := 0) e3 ⟨okP_eq (fun j hj => by show S.1 0 (0 + j) = S.1 0 j; rw [Nat.zero_add]) hP, okM_P (by show S.1 0 2 = S.1 0 (0 + 2); rfl) (okM_ext (fun j hj => by show S.1 0 (0 + 40 + j) = S.1 0 (40 + j); rw [Nat.zero_add]) hM)⟩⟩
          have := e3 0 (by decide)
          rw [Nat.add_zero] at this
          show va_cpy (S.1 0) (S.1 0) 0 (58 * (1 + cl k)) 58 (58 * (1 + cl k)) = 1
          rw [this]; exact h0
        · have e3 : ∀ j, j < 58 → va_cpy (S.1 0) (S.1 0) 0 (58 * (1 + cl k)) 58 (58 * (1 + i) + j) = S.1 0 (58 * (1 + i) + j) := fun j hj => cpy_out (by omega)
          have e4 := e3 0 (by decide)
          rw [Nat.add_zero] at e4
          rcases r1.2 i hi with ⟨a, b⟩ | a
          · exact Or.inl ⟨e4.trans a, okF_ext e3 b⟩
          · exact Or.inr (e4.trans a)
      · intro y
        have y2 : va_cpy (S.1 0) (S.1 0) 0 (58 * (1 + cl k)) 58 0 = 0 := y
        rw [e 0 (by decide), h0] at y2; exact absurd y2 (by decide)
theorem RI_restore {S : RS} (hI : RI S) (k : Int32) : RI (pM_restore k S).2 := by
  unfold pM_restore
  by_cases c : ¬ inR k 2
  · rw [if_pos c]; exact hI
  · rw [if_neg c]
    by_cases c2 : S.1 0 (58 * (1 + cl k)) = 0
    · rw [if_pos c2]; exact hI
    · rw [if_neg c2]
      have hk := (inR_cl (Classical.not_not.mp c) (by decide)).2
      obtain ⟨r1, r2, r3, r4, r5⟩ := hI
      have hF : S.1 0 (58 * (1 + cl k)) = 1 ∧ okF (S.1 0) (58 * (1 + cl k)) := (r1.2 (cl k) hk).resolve_right c2
      have e : ∀ j, j < 58 → va_cpy (S.1 0) (S.1 0) (58 * (1 + cl k)) 0 58 j = S.1 0 (58 * (1 + cl k) + j) := fun j hj => by rw [cpy_in (by omega) (by omega)]; exact congrArg (S.1 0) (by omega)
      have e0 := e 0 (by decide)
      refine ⟨okR_new r1 (fun j hj _ => cpy_out (by omega)) (e0.trans hF.1) (okP_eq (fun j hj => e j (by omega)) hF.2.1) (okM_P (e 2 (by decide)).symm (okM_ext (fun j hj => ?_) hF.2.2)), Nat.zero_le _, fun _ => rfl, fun i hi => absurd hi (Nat.not_lt_zero _), r5⟩
      show va_cpy (S.1 0) (S.1 0) (58 * (1 + cl k)) 0 58 (40 + j) = _
      rw [e _ (by omega)]
      exact congrArg (S.1 0) (by omega)
theorem RI_as {S : RS} (hI : RI S) (b a : Int32) : RI (pM_as b a S).2 := by
  unfold pM_as
  by_cases c : ¬ inR b (S.1 0 3) ∨ ¬ inR a 6
  · rw [if_pos c]; exact hI
  · rw [if_neg c]
    by_cases c2 : isK (S.1 0 (24 + 2 * cl b)) (cl a)
    · rw [if_pos c2]; exact RI_stN hI (by decide)
    · rw [if_neg c2]; exact RI_stN hI (by decide)
theorem askL_le (kd w : Nat) : (askL kd w).length ≤ 16 := by
  unfold askL szL blL ewL mkL
  repeat' split
  all_goals decide
theorem RI_ask {S : RS} (hI : RI S) (b w : Int32) : RI (pM_ask b w S).2 := by
  unfold pM_ask
  by_cases c : ¬ inR b (S.1 0 3) ∨ ¬ inR w 2
  · rw [if_pos c]; exact hI
  · rw [if_neg c]
    obtain ⟨r1, r2, r3, r4, r5, r6, r7, r8, r9, r10, r11, r12⟩ := hI
    exact ⟨r1, r2, r3, r4, r5, r6, r7, r8, askL_le _ _, r10, r11, r12⟩
theorem RI_theft {S : RS} (hI : RI S) (b r i n : Int32) : RI (pM_theft b r i n S).2 := by
  unfold pM_theft
  by_cases c : S.1 0 0 = 0
  · rw [if_pos c]; exact hI
  · rw [if_neg c]
    by_cases c2 : ¬ inR b (S.1 0 3) ∨ ¬ inR r 8 ∨ ¬ inR n 25
    · rw [if_pos c2]; exact hI
    · rw [if_neg c2]
      by_cases c3 : rfW r i n S ≠ 0
      · rw [if_pos c3]; exact RI_stN hI (Nat.le_trans rfK_le2 (by decide))
      · rw [if_neg c3]
        by_cases c4 : ¬ areB (S.2.1 9) (40 * cl r + cl i) (cl n) (S.1 0 3)
        · rw [if_pos c4]; exact hI
        · rw [if_neg c4]; exact RI_stN hI (by decide)
theorem RI_mixed {S : RS} (hI : RI S) (r i n : Int32) : RI (pM_mixed r i n S).2 := by
  unfold pM_mixed
  by_cases c : S.1 0 0 = 0
  · rw [if_pos c]; exact hI
  · rw [if_neg c]
    by_cases c2 : ¬ inR r 8 ∨ ¬ inR n 25
    · rw [if_pos c2]; exact hI
    · rw [if_neg c2]
      by_cases c3 : rfW r i n S ≠ 0
      · rw [if_pos c3]; exact RI_stN hI (Nat.le_trans rfK_le2 (by decide))
      · rw [if_neg c3]
        by_cases c4 : ¬ areB (S.2.1 9) (40 * cl r + cl i) (cl n) (S.1 0 3)
        · rw [if_pos c4]; exact hI
        · rw [if_neg c4]; exact RI_stN hI (by decide)
theorem RI_stood {S : RS} (hI : RI S) (r i n w : Int32) : RI (pM_stood r i n w S).2 := by
  unfold pM_stood
  by_cases c : S.1 0 0 = 0
  · rw [if_pos c]; exact hI
  · rw [if_neg c]
    by_cases c2 : ¬ inR r 8 ∨ ¬ inR n 13 ∨ ¬ inR w 2
    · rw [if_pos c2]; exact hI
    · rw [if_neg c2]
      by_cases c3 : rpW r i n S ≠ 0
      · rw [if_pos c3]; exact RI_stN hI (rpN_le hI)
      · rw [if_neg c3]; exact RI_stN hI (by decide)
theorem RI_sticks {S : RS} (hI : RI S) (r i n : Int32) : RI (pM_sticks r i n S).2 := by
  unfold pM_sticks
  by_cases c : S.1 0 0 = 0
  · rw [if_pos c]; exact hI
  · rw [if_neg c]
    by_cases c2 : ¬ inR r 8 ∨ ¬ inR n 13
    · rw [if_pos c2]; exact hI
    · rw [if_neg c2]
      by_cases c3 : rpW r i n S ≠ 0
      · rw [if_pos c3]; exact RI_stN hI (rpN_le hI)
      · rw [if_neg c3]; exact RI_stN hI (by decide)
theorem if_2 {α β : Type} {c : Prop} [Decidable c] {a b : α} {s : β} : (if c then (a, s) else (b, s)).2 = s := by split <;> rfl
theorem RI_ahead {S : RS} (hI : RI S) (r b p : Int32) : RI (pM_ahead r b p S).2 := by unfold pM_ahead; rw [if_2]; exact hI
theorem RI_heavy {S : RS} (hI : RI S) (b : Int32) : RI (pM_heavy b S).2 := by unfold pM_heavy; rw [if_2]; exact hI
theorem RI_kind {S : RS} (hI : RI S) (b : Int32) : RI (pM_kind b S).2 := by unfold pM_kind; rw [if_2]; exact hI
theorem RI_trace {S : RS} (hI : RI S) (b : Int32) : RI (pM_trace b S).2 := by unfold pM_trace; rw [if_2]; exact hI
theorem RI_pen {S : RS} (hI : RI S) (p w : Int32) : RI (pM_pen p w S).2 := by
  unfold pM_pen
  repeat' split
  all_goals exact hI
theorem RI_hurdle {S : RS} (hI : RI S) (p w : Int32) : RI (pM_hurdle p w S).2 := by
  unfold pM_hurdle
  repeat' split
  all_goals exact hI
theorem sgK_le {T : Nat → Nat} {n c : Nat} : sgK T n c ≤ 1 := by
  unfold sgK
  split <;> decide
theorem wyK_le {T : Nat → Nat} {n c P H : Nat} : wyK T n c P H ≤ 2 := by
  have h : nmK T n c 0 999 ≤ 2 := nuK_le
  unfold wyK
  repeat' split
  all_goals omega
theorem pLaw_le {T : Nat → Nat} {n c : Nat} : (pLaw T n c).1 ≤ 3 := by
  have h1 : nmK T n (tE T n c) 1 6 ≤ 2 := nuK_le
  have h2 : sgK T n (tE T n (tE T n c)) ≤ 1 := sgK_le
  unfold pLaw
  repeat' split
  all_goals (show _ ≤ 3; omega)
theorem pHuA_le {T : Nat → Nat} {n P H c : Nat} : (pHuA T n P H c).1 ≤ 3 := by
  have h1 : wyK T n (tE T n c) P H ≤ 2 := wyK_le
  have h2 : wyK T n (tE T n (tE T n c)) P H ≤ 2 := wyK_le
  have h3 : nmK T n (tE T n (tE T n (tE T n c))) 0 H ≤ 2 := nuK_le
  have h4 : sgK T n (tE T n (tE T n (tE T n (tE T n c)))) ≤ 1 := sgK_le
  unfold pHuA
  repeat' split
  all_goals (show _ ≤ 3; omega)
theorem pHur_le {T : Nat → Nat} {n P H c : Nat} : (pHur T n P H c).1 ≤ 3 := by
  unfold pHur
  split
  · exact Nat.le_refl 3
  · exact pHuA_le
theorem pBst_le {T : Nat → Nat} {n B c : Nat} : (pBst T n B c).1 ≤ 3 := by
  unfold pBst
  split
  · exact Nat.le_refl 3
  · have h1 : nmK T n (tE T n (tE T n c)) 1 99 ≤ 2 := nuK_le
    have h2 : sgK T n (tE T n (tE T n (tE T n c))) ≤ 1 := sgK_le
    unfold pBsA
    repeat' split
    all_goals (show _ ≤ 3; omega)
theorem pHs_le {T : Nat → Nat} {n P : Nat} : ∀ f c H A, (pHs T n P f c H A).1 ≤ 3 := by
  intro f
  induction f with
  | zero => intro c H A; exact Nat.zero_le _
  | succ f ih =>
    intro c H A
    unfold pHs
    split
    · split
      · exact ih _ _ _
      · exact pHur_le
    · exact Nat.zero_le _
theorem pBs_le {T : Nat → Nat} {n : Nat} : ∀ f c B A, (pBs T n f c B A).1 ≤ 3 := by
  intro f
  induction f with
  | zero => intro c H A; exact Nat.zero_le _
  | succ f ih =>
    intro c H A
    unfold pBs
    split
    · split
      · exact ih _ _ _
      · exact pBst_le
    · exact Nat.zero_le _
theorem pAll_3le {T A B : Nat → Nat} {n : Nat} : (pAll T n A B).1 ≤ 3 := by
  by_cases c1 : (pLaw T n 0).1 = 0
  · by_cases c2 : hsK (pHs T n (pLaw T n 0).2.2 6 (pLaw T n 0).2.1 0 A) = 0
    · rw [(pAll_3 (B := B) c1 c2).1]
      have h := pBs_le (T := T) (n := n) 9 (pHs T n (pLaw T n 0).2.2 6 (pLaw T n 0).2.1 0 A).2.1 0 B
      unfold bsK
      repeat' split
      all_goals omega
    · rw [(pAll_2 (B := B) c1 c2).1]
      have h := pHs_le (T := T) (n := n) (P := (pLaw T n 0).2.2) 6 (pLaw T n 0).2.1 0 A
      unfold hsK
      repeat' split
      all_goals omega
  · rw [pAll_1 (A := A) (B := B) c1]; exact pLaw_le
theorem fold_P {R A B : Nat → Nat} {P H nb : Nat} (z1 : P ≤ 6) (z2 : 1 ≤ H) (z3 : H ≤ 5) (z4 : nb ≤ 8) (z5 : ∀ x, x < H → hOK P A x) (z6 : ∀ b, b < nb → bOK B b) : okP (fldR R A B P H nb) := by
  refine ⟨z1, z2, z3, z4, fun h hh => ?_, fun b hb => ?_⟩
  · have hh : h < H := hh
    have e : ∀ d, d < 4 → fldR R A B P H nb (4 + 4 * h + d) = A (4 * h + d) := by
      intro d hd
      unfold fldR
      rw [if_neg (by omega), if_neg (by omega), if_neg (by omega), if_neg (by omega), if_pos (by omega)]
      exact congrArg _ (by omega)
    have e0 := e 0 (by decide)
    rw [Nat.add_zero, Nat.add_zero] at e0
    have eP : fldR R A B P H nb 1 = P := rfl
    rw [eP, e0, e 1 (by decide), e 2 (by decide), e 3 (by decide)]
    exact z5 h hh
  · have hb : b < nb := hb
    have e : ∀ d, d < 2 → fldR R A B P H nb (24 + 2 * b + d) = B (2 * b + d) := by
      intro d hd
      unfold fldR
      rw [if_neg (by omega), if_neg (by omega), if_neg (by omega), if_neg (by omega), if_neg (by omega), if_pos (by omega)]
      exact congrArg _ (by omega)
    have e0 := e 0 (by decide)
    rw [Nat.add_zero, Nat.add_zero] at e0
    rw [e0, e 1 (by decide)]
    have y := z6 b hb
    exact ⟨y.1.1, y.1.2, y.2⟩
theorem fold_M {R A B Q : Nat → Nat} {P H nb : Nat} : okM Q (fun k => fldR R A B P H nb (40 + k)) := by
  have ez : ∀ k, k < 18 → fldR R A B P H nb (40 + k) = 0 := by
    intro k hk
    unfold fldR
    rw [if_neg (by omega), if_neg (by omega), if_neg (by omega), if_neg (by omega), if_neg (by omega), if_neg (by omega), if_pos (by omega)]
  have z : okM Q (fun _ => 0) := ⟨Nat.two_pow_pos _, fun _ _ => Nat.zero_le _, by decide, fun _ _ => Nat.zero_le _⟩
  exact okM_ext ez z
theorem RI_fold {S : RS} (hI : RI S) : RI (pM_fold S).2 := by
  unfold pM_fold
  by_cases c : (pAll (S.1 3) (S.2.2.1 4) (S.1 17) (S.1 19)).1 ≠ 0
  · rw [if_pos c]
    obtain ⟨r1, r2, r3, r4, r5, r6, r7, r8, r9, r10, r11, r12⟩ := hI
    exact ⟨r1, r2, r3, r4, Nat.zero_le _, r6, r7, r8, r9, r10, pAll_3le, r12⟩
  · rw [if_neg c]
    have hz := pAll_z (Classical.not_not.mp c)
    obtain ⟨r1, r2, r3, r4, r5, r6, r7, r8, r9, r10, r11, r12⟩ := hI
    generalize pAll (S.1 3) (S.2.2.1 4) (S.1 17) (S.1 19) = w at hz
    obtain ⟨z1, z2, z3, z4, z5, z6⟩ := hz
    exact ⟨okR_new r1 (fun k hk _ => fold_hi hk) rfl (fold_P z1 z2 z3 z4 z5 z6) fold_M, Nat.zero_le _, fun _ => rfl, fun i hi => absurd hi (Nat.not_lt_zero _), Nat.zero_le _, r6, r7, r8, r9, r10, r11, r12⟩
theorem RI_0 : RI (fun _ _ => 0, va_up (fun _ _ => 0) 7 lnZ, fun _ => 0, va_up (fun _ => 0) 12 (-1000000)) := by
  refine ⟨⟨Or.inr ⟨rfl, rfl, rfl, rfl, fun _ _ => rfl⟩, fun _ _ => Or.inr rfl⟩, Nat.zero_le _, fun _ => rfl, fun i hi => absurd hi (Nat.not_lt_zero _), Nat.zero_le _, fun _ => (by decide : (0 : Nat) < 256), fun r hr => Or.inl (lnZ_at r hr), fun _ _ => Nat.zero_le _, Nat.zero_le _, rfl, Nat.zero_le _, Nat.zero_le _⟩
