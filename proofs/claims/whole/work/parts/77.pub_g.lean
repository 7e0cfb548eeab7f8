theorem cmA_L {L : Nat → Nat → Nat} {R : Nat → Nat} (hl : plOK L R) (hP : okP R) {sk : Nat} {it ri : Nat → Int32} {r x N s : Nat} (hs : x + 2 * N ≤ s) (hi : ∀ i, i < s → ri i = it (40 * r + i)) (hb : areP it (40 * r + x) N (R 3) (R 1)) : ∀ (n k t : Nat) (u : Nat → Nat), k + n ≤ N → cmA (plP L) sk ri x n k t u = cmA R sk it (40 * r + x) n k t u := by
  intro n
  induction n with
  | zero => intros; rfl
  | succ n ih =>
    intro k t u hk
    have e1 : ri (x + 2 * k) = it (40 * r + x + 2 * k) := by have e := hi (x + 2 * k) (by omega); rwa [← Nat.add_assoc] at e
    have e2 : ri (x + 2 * k + 1) = it (40 * r + x + 2 * k + 1) := by have e := hi (x + 2 * k + 1) (by omega); rwa [← Nat.add_assoc, ← Nat.add_assoc] at e
    have hc := (inR_cl (hb k (by omega)).1 (by have := hP.2.2.2.1; omega)).2
    rw [cmA, cmA, e1, e2, gOA_L hl hP hc]
    split
    · exact ih (k + 1) _ _ (by omega)
    · rfl
def stF (R : Nat → Nat) (it : Nat → Int32) (base n : Nat) : Nat → Bool := fun z => cmA R 99 it base n 0 z (fun _ => 0)
def skF (R : Nat → Nat) (it : Nat → Int32) (base n : Nat) : Nat → Bool := fun h => cmA R h it base n 0 (R 40) (uM R 0)
def stE (f : Nat → Bool) : Nat → Nat → Nat × Int32
  | _, 0 => (0, -1000000)
  | m, d + 1 => if f m = true then ((stE f (m + 1) d).1 + 1, nI m) else stE f (m + 1) d
theorem stE_C (f : Nat → Bool) (m : Nat) : ∀ d, stC f (m + d) = ((stC f m).1 + (stE f m d).1, if (stC f m).1 = 0 then (stE f m d).2 else (stC f m).2) := by
  intro d
  induction d generalizing m with
  | zero =>
    show stC f m = ((stC f m).1 + 0, if (stC f m).1 = 0 then -1000000 else (stC f m).2)
    have hz : ∀ m, (stC f m).1 = 0 → (stC f m).2 = -1000000 := by
      intro m
      induction m with
      | zero => intro _; rfl
      | succ m ih =>
        intro h
        rw [stC] at h ⊢
        split at h
        · exact absurd h (Nat.succ_ne_zero _)
        · rename_i c; rw [if_neg c]; exact ih h
    by_cases c : (stC f m).1 = 0
    · rw [if_pos c, Nat.add_zero, ← hz m c]
    · rw [if_neg c, Nat.add_zero]
  | succ d ih =>
    have e := ih (m + 1)
    rw [show m + (d + 1) = m + 1 + d by omega, e, stE, stC]
    by_cases c : f m = true
    · rw [if_pos c, if_pos c]
      refine Prod.ext ?_ ?_
      · show (stC f m).1 + 1 + _ = (stC f m).1 + (_ + 1); omega
      · rfl
    · rw [if_neg c, if_neg c]
theorem stE_0 (f : Nat → Bool) (N : Nat) : stE f 0 N = stC f N := by
  have e := stE_C f 0 N
  rw [Nat.zero_add] at e
  rw [e]
  show stE f 0 N = (0 + (stE f 0 N).1, (stE f 0 N).2)
  rw [Nat.zero_add]
theorem stE_le (f : Nat → Bool) : ∀ d m, (stE f m d).1 ≤ d := by
  intro d
  induction d with
  | zero => intro m; exact Nat.le_refl 0
  | succ d ih =>
    intro m
    have h := ih (m + 1)
    rw [stE]
    split
    · show (stE f (m + 1) d).1 + 1 ≤ d + 1; omega
    · omega
theorem stE_t {f : Nat → Bool} {m N : Nat} (h : m < N) (c : f m = true) : stE f m (N - m) = ((stE f (m + 1) (N - (m + 1))).1 + 1, nI m) := by
  rw [show N - m = (N - (m + 1)) + 1 by omega, stE, if_pos c]
theorem stE_f {f : Nat → Bool} {m N : Nat} (h : m < N) (c : ¬ f m = true) : stE f m (N - m) = stE f (m + 1) (N - (m + 1)) := by
  rw [show N - m = (N - (m + 1)) + 1 by omega, stE, if_neg c]
theorem rp_f {S : RS} {r n : Nat} {i : Int32} (hr : r < 8) (hn : n < 13) (h : ¬ rfK (S.2.1 7 r) (S.1 8 r) i (nI (2 * n)) = 0) : rpW (nI r) i (nI n) S = -1000010 - nI (rfK (S.2.1 7 r) (S.1 8 r) i (nI (2 * n))) ∧ rpW (nI r) i (nI n) S ≠ 0 ∧ rpN (nI r) i (nI n) S = rfK (S.2.1 7 r) (S.1 8 r) i (nI (2 * n)) := by
  unfold rpW rpN rpA stsA
  rw [cl_nI (by omega), cl_nI (by omega), if_neg h, if_neg h, fndA, if_neg h]
  refine ⟨rfl, ?_, rfl⟩
  have h2 : rfK (S.2.1 7 r) (S.1 8 r) i (nI (2 * n)) ≤ 2 := by
    unfold rfK
    repeat' split
    all_goals decide
  generalize rfK (S.2.1 7 r) (S.1 8 r) i (nI (2 * n)) = z at h h2
  match z, h, h2 with
  | 1, _, _ => decide
  | 2, _, _ => decide
theorem rp_b {S : RS} {r n x : Nat} (hr : r < 8) (hn : n < 13) (hx : x < 41) (h : rfK (S.2.1 7 r) (S.1 8 r) (nI x) (nI (2 * n)) = 0) (hp : ¬ areP (S.2.1 9) (40 * r + x) n (S.1 0 3) (S.1 0 1)) : rpW (nI r) (nI x) (nI n) S = -1000001 ∧ stN S (rpN (nI r) (nI x) (nI n) S) = S := by
  unfold rpW rpN rpA stsA
  rw [cl_nI (a := r) (by omega), cl_nI (a := n) (by omega), if_pos h, if_pos h, cl_nI (a := x) (by omega), if_neg hp]
  refine ⟨rfl, ?_⟩
  unfold stN
  rw [up_self]
theorem rp_0 {S : RS} {r n x : Nat} (hr : r < 8) (hn : n < 13) (hx : x < 41) (h : rfK (S.2.1 7 r) (S.1 8 r) (nI x) (nI (2 * n)) = 0) (hp : areP (S.2.1 9) (40 * r + x) n (S.1 0 3) (S.1 0 1)) : ¬ rpW (nI r) (nI x) (nI n) S ≠ 0 := by
  unfold rpW rpA
  rw [cl_nI (a := r) (by omega), cl_nI (a := n) (by omega), if_pos h, cl_nI (a := x) (by omega), if_pos hp]
  exact fun y => y rfl
theorem n_iff {n c : Int32} {m : Nat} (hc : c.toInt = (m : Int) - 1) : (¬ n < 0 ∧ ¬ c < n) ↔ inR n m := by
  rw [i32_neg, Int32.lt_iff_toInt_lt, hc]
  unfold inR
  omega
theorem n_iff2 {n c : Int32} {m : Nat} (hc : c.toInt = (m : Int) - 1) : (¬ n < 0 ∧ n ≤ c) ↔ inR n m := by
  rw [i32_neg, Int32.le_iff_toInt_le, hc]
  unfold inR
  omega
set_option maxRecDepth 20000 in
theorem k_stood (g : gG) (u : Nat → Nat) (S : RS) (ws : va_W) (r : Int32) (i : Int32) (n : Int32) (what : Int32) (hI : RI S) (hC : cR g u S ws) : gCon g mX5_stood 4 0 0 [.ref (u 0), .int r, .int i, .int n, .int what] ws (fun rv ws' => rv = some (.int (pM_stood r i n what S).1) ∧ cR g u (pM_stood r i n what S).2 ws') := by
  refine gCon.of (lv := [(0, .ref (u 0)), (1, .int r), (2, .int i), (3, .int n), (4, .int what)]) (by decide) (gLe rfl) rfl ?_
  obtain ⟨so, xi, xj, xe, xf, xg, rf, af, mf, T, kl, ks, ke, kt, kv, kf, yT, s0, s1, s2, D0, D1, D2, R4, A4, I4, np, Pl, pL, Sr, hA, hN, hR, hW, hAc, hM, hS, hZ1, hZ2, hp⟩ := hC
  obtain ⟨rfl, rfl, rfl, rfl, rfl, rfl, rfl⟩ := hN
  have hxi := hAc.1
  have hxj := hI.2.1
  have hkl := hI.2.2.2.2.1
  have hxe := hI.2.2.2.2.2.2.2.2.1
  refine j_perm _ hp ?_
  refine j_ws ([((u 0), .inr (5, [.ref (u 1), .ref (u 5), .ref (u 10), .ref (u 14), .ref (u 18), .ref (u 2), .int (nI xi), .int (nI (S.2.2.1 2)), .ref (u 3), va_rf so, .ref (u 4), .int (nI (S.2.2.1 11)), .int (nI (S.2.2.1 5)), .int (nI (S.2.2.1 6))])), ((u 1), .inl (g.2.1 3, 8, .inr (.inr (.inr (.inr rf))))), ((u 2), .inl (g.2.1 4, 24, .inr (.inr (.inr (.inr af))))), ((u 3), .inl (g.2.1 4, 2, .inr (.inr (.inr (.inr mf))))), ((u 4), .inl (g.2.1 0, 16, .inl (nF (S.1 10)))), ((u 5), .inr (4, [.ref (u 6), .int (nI (S.2.2.1 4)), .int (nI ks), .int (nI ke), .int (nI kt), .int (nI kv), .int (nI kf)])), ((u 6), .inl (g.2.1 1, 400, .inl (sgF (S.1 3)))), ((u 10), .inr (3, [.ref s0, .int (nI (D0 0 0)), .ref (u 11), .ref (u 12), .ref (u 13)])), ((u 11), .inl (g.2.1 0, 5, .inl (nF (D0 1)))), ((u 12), .inl (g.2.1 0, 6, .inl (nF (D0 2)))), ((u 13), .inl (g.2.1 0, 6, .inl (nF (D0 3)))), ((u 14), .inr (3, [.ref s1, .int (nI (D1 0 0)), .ref (u 15), .ref (u 16), .ref (u 17)])), ((u 15), .inl (g.2.1 0, 5, .inl (nF (D1 1)))), ((u 16), .inl (g.2.1 0, 6, .inl (nF (D1 2)))), ((u 17), .inl (g.2.1 0, 6, .inl (nF (D1 3)))), ((u 18), .inr (3, [.ref s2, .int (nI (D2 0 0)), .ref (u 19), .ref (u 20), .ref (u 21)])), ((u 19), .inl (g.2.1 0, 5, .inl (nF (D2 1)))), ((u 20), .inl (g.2.1 0, 6, .inl (nF (D2 2)))), ((u 21), .inl (g.2.1 0, 6, .inl (nF (D2 3))))] ++ (tlW R4 A4 I4 np Pl Sr)) rfl ?_
  have hW0 := hW
  obtain ⟨⟨zi, ⟨hzi, p1, p2, p3, p4, p5, p6, hpe⟩, hpl⟩, hst⟩ := hW
  have hq := RI_pl hI hpl
  obtain ⟨hq6, hq5, hq8, hq0⟩ := hq
  refine j_perm _ (opn (tl_pl hzi)) ?_
  rw [hpe]
  refine j_ws ([((u 0), .inr (5, [.ref (u 1), .ref (u 5), .ref (u 10), .ref (u 14), .ref (u 18), .ref (u 2), .int (nI xi), .int (nI (S.2.2.1 2)), .ref (u 3), va_rf so, .ref (u 4), .int (nI (S.2.2.1 11)), .int (nI (S.2.2.1 5)), .int (nI (S.2.2.1 6))])), ((u 1), .inl (g.2.1 3, 8, .inr (.inr (.inr (.inr rf))))), ((u 2), .inl (g.2.1 4, 24, .inr (.inr (.inr (.inr af))))), ((u 3), .inl (g.2.1 4, 2, .inr (.inr (.inr (.inr mf))))), ((u 4), .inl (g.2.1 0, 16, .inl (nF (S.1 10)))), ((u 5), .inr (4, [.ref (u 6), .int (nI (S.2.2.1 4)), .int (nI ks), .int (nI ke), .int (nI kt), .int (nI kv), .int (nI kf)])), ((u 6), .inl (g.2.1 1, 400, .inl (sgF (S.1 3)))), ((u 10), .inr (3, [.ref s0, .int (nI (D0 0 0)), .ref (u 11), .ref (u 12), .ref (u 13)])), ((u 11), .inl (g.2.1 0, 5, .inl (nF (D0 1)))), ((u 12), .inl (g.2.1 0, 6, .inl (nF (D0 2)))), ((u 13), .inl (g.2.1 0, 6, .inl (nF (D0 3)))), ((u 14), .inr (3, [.ref s1, .int (nI (D1 0 0)), .ref (u 15), .ref (u 16), .ref (u 17)])), ((u 15), .inl (g.2.1 0, 5, .inl (nF (D1 1)))), ((u 16), .inl (g.2.1 0, 6, .inl (nF (D1 2)))), ((u 17), .inl (g.2.1 0, 6, .inl (nF (D1 3)))), ((u 18), .inr (3, [.ref s2, .int (nI (D2 0 0)), .ref (u 19), .ref (u 20), .ref (u 21)])), ((u 19), .inl (g.2.1 0, 5, .inl (nF (D2 1)))), ((u 20), .inl (g.2.1 0, 6, .inl (nF (D2 2)))), ((u 21), .inl (g.2.1 0, 6, .inl (nF (D2 3)))), (s0, .inr (0, [.int (nI (pL zi 0 0)), .int (nI (pL zi 0 1)), .int (nI (pL zi 0 2)), .ref p1, .ref p2, .ref p3, .ref p4, .ref p5, .ref p6])), (p1, .inl (g.2.1 0, 5, .inl (nF (pL zi 1)))), (p2, .inl (g.2.1 0, 5, .inl (nF (pL zi 2)))), (p3, .inl (g.2.1 0, 5, .inl (nF (pL zi 3)))), (p4, .inl (g.2.1 0, 5, .inl (nF (pL zi 4)))), (p5, .inl (g.2.1 0, 8, .inl (nF (pL zi 5)))), (p6, .inl (g.2.1 0, 8, .inl (nF (pL zi 6))))] ++ (tlW R4 A4 I4 np (va_up Pl zi []) Sr)) rfl ?_
  refine j_aload_n 1 dX5_stood_0 rfl 0 rfl ?_
  refine j_callV0 (rest := []) 4 [0, 7, 19] (c_X5_noFold g (u 0) (u 1) (u 5) (u 10) (u 14) (u 18) (u 2) xi (S.2.2.1 2) (u 3) so (u 4) (S.2.2.1 11) (S.2.2.1 5) (S.2.2.1 6) s0 (D0 0 0) (u 11) (u 12) (u 13) (pL zi 0 0) (pL zi 0 1) (pL zi 0 2) p1 p2 p3 p4 p5 p6 (by first | assumption | omega)) [.int (gB ((pL zi 0 1) = 0))] ([((u 0), .inr (5, [.ref (u 1), .ref (u 5), .ref (u 10), .ref (u 14), .ref (u 18), .ref (u 2), .int (nI xi), .int (nI (S.2.2.1 2)), .ref (u 3), va_rf so, .ref (u 4), .int (nI (S.2.2.1 11)), .int (nI (S.2.2.1 5)), .int (nI (S.2.2.1 6))])), ((u 1), .inl (g.2.1 3, 8, .inr (.inr (.inr (.inr rf))))), ((u 2), .inl (g.2.1 4, 24, .inr (.inr (.inr (.inr af))))), ((u 3), .inl (g.2.1 4, 2, .inr (.inr (.inr (.inr mf))))), ((u 4), .inl (g.2.1 0, 16, .inl (nF (S.1 10)))), ((u 5), .inr (4, [.ref (u 6), .int (nI (S.2.2.1 4)), .int (nI ks), .int (nI ke), .int (nI kt), .int (nI kv), .int (nI kf)])), ((u 6), .inl (g.2.1 1, 400, .inl (sgF (S.1 3)))), ((u 10), .inr (3, [.ref s0, .int (nI (D0 0 0)), .ref (u 11), .ref (u 12), .ref (u 13)])), ((u 11), .inl (g.2.1 0, 5, .inl (nF (D0 1)))), ((u 12), .inl (g.2.1 0, 6, .inl (nF (D0 2)))), ((u 13), .inl (g.2.1 0, 6, .inl (nF (D0 3)))), ((u 14), .inr (3, [.ref s1, .int (nI (D1 0 0)), .ref (u 15), .ref (u 16), .ref (u 17)])), ((u 15), .inl (g.2.1 0, 5, .inl (nF (D1 1)))), ((u 16), .inl (g.2.1 0, 6, .inl (nF (D1 2)))), ((u 17), .inl (g.2.1 0, 6, .inl (nF (D1 3)))), ((u 18), .inr (3, [.ref s2, .int (nI (D2 0 0)), .ref (u 19), .ref (u 20), .ref (u 21)])), ((u 19), .inl (g.2.1 0, 5, .inl (nF (D2 1)))), ((u 20), .inl (g.2.1 0, 6, .inl (nF (D2 2)))), ((u 21), .inl (g.2.1 0, 6, .inl (nF (D2 3)))), (s0, .inr (0, [.int (nI (pL zi 0 0)), .int (nI (pL zi 0 1)), .int (nI (pL zi 0 2)), .ref p1, .ref p2, .ref p3, .ref p4, .ref p5, .ref p6])), (p1, .inl (g.2.1 0, 5, .inl (nF (pL zi 1)))), (p2, .inl (g.2.1 0, 5, .inl (nF (pL zi 2)))), (p3, .inl (g.2.1 0, 5, .inl (nF (pL zi 3)))), (p4, .inl (g.2.1 0, 5, .inl (nF (pL zi 4)))), (p5, .inl (g.2.1 0, 8, .inl (nF (pL zi 5)))), (p6, .inl (g.2.1 0, 8, .inl (nF (pL zi 6))))] ++ (tlW R4 A4 I4 np (va_up Pl zi []) Sr)) dX5_stood_1 rfl cv_X5_160 rfl rfl rfl rfl 0 rfl rfl (gLe rfl) (gLe rfl) (gLe rfl) (gLe rfl) (gLe rfl) rfl (List.append_nil _) ?_
  refine j_topI _ (gB (S.1 0 0 = 0)) (gB_iff hq0) ?_
  refine j_if_eqB 7 10 dX5_stood_4 rfl rfl (fun h4 => ?_) (fun h4 => ?_)
  ·
    refine j_iload_n 11 dX5_stood_10 rfl 1 rfl ?_
    refine j_callSE (rest := []) 14 (c_X5_isRow g r ) [.int (gB (inR r 8))] dX5_stood_11 rfl cs_X5_72 rfl rfl (gLe rfl) (gLe rfl) (gLe rfl) (gLe rfl) rfl ?_
    refine j_if_eqB 17 35 dX5_stood_14 rfl rfl (fun h14 => ?_) (fun h14 => ?_)
    ·
      refine j_ldc (v := (-1000001 : Int32)) 37 dX5_stood_35 rfl wd_1_212 ?_
      have ze : (pM_stood r i n what S) = ((-1000001 : Int32), S) := by
        rw [pM_stood, if_neg h4, if_pos (by first | exact Or.inl h14 | exact Or.inr (Or.inr h32) | exact Or.inr (Or.inl (fun y => ((n_iff (show (12 : Int32).toInt = ((13 : Nat) : Int) - 1 by decide)).mpr y).1 h18)) | exact Or.inr (Or.inl (fun y => ((n_iff (show (12 : Int32).toInt = ((13 : Nat) : Int) - 1 by decide)).mpr y).2 h24)))]
      refine j_iretI dX5_stood_37 rfl ⟨gLe rfl, gLe rfl, ?_⟩
      rw [ze]
      exact ⟨rfl, so, xi, (S.2.2.1 2), (S.2.2.1 11), (S.2.2.1 5), (S.2.2.1 6), rf, af, mf, (S.1 10), (S.2.2.1 4), ks, ke, kt, kv, kf, (S.1 3), s0, s1, s2, D0, D1, D2, R4, A4, I4, np, Pl, pL, Sr, hA, ⟨rfl, rfl, rfl, rfl, rfl, rfl, rfl⟩, hR, hW0, hAc, hM, hS, hZ1, hZ2, (cls (E := (mnW g u so xi (S.2.2.1 2) (S.2.2.1 11) (S.2.2.1 5) (S.2.2.1 6) rf af mf (S.1 10) (S.2.2.1 4) ks ke kt kv kf (S.1 3) s0 s1 s2 D0 D1 D2)) (X := (plW g s0 p1 p2 p3 p4 p5 p6 (pL zi))) (T' := (tlW R4 A4 I4 np (va_up Pl zi []) Sr)) (T := (tlW R4 A4 I4 np Pl Sr)) (by rw [← hpe]; exact (tl_pl hzi).symm))⟩
    ·
      refine j_iload_n 18 dX5_stood_17 rfl 3 rfl ?_
      refine j_if_lt 21 35 dX5_stood_18 rfl rfl (fun h18 => ?_) (fun h18 => ?_)
      ·
        refine j_ldc (v := (-1000001 : Int32)) 37 dX5_stood_35 rfl wd_1_212 ?_
        have ze : (pM_stood r i n what S) = ((-1000001 : Int32), S) := by
          rw [pM_stood, if_neg h4, if_pos (by first | exact Or.inl h14 | exact Or.inr (Or.inr h32) | exact Or.inr (Or.inl (fun y => ((n_iff (show (12 : Int32).toInt = ((13 : Nat) : Int) - 1 by decide)).mpr y).1 h18)) | exact Or.inr (Or.inl (fun y => ((n_iff (show (12 : Int32).toInt = ((13 : Nat) : Int) - 1 by decide)).mpr y).2 h24)))]
        refine j_iretI dX5_stood_37 rfl ⟨gLe rfl, gLe rfl, ?_⟩
        rw [ze]
        exact ⟨rfl, so, xi, (S.2.2.1 2), (S.2.2.1 11), (S.2.2.1 5), (S.2.2.1 6), rf, af, mf, (S.1 10), (S.2.2.1 4), ks, ke, kt, kv, kf, (S.1 3), s0, s1, s2, D0, D1, D2, R4, A4, I4, np, Pl, pL, Sr, hA, ⟨rfl, rfl, rfl, rfl, rfl, rfl, rfl⟩, hR, hW0, hAc, hM, hS, hZ1, hZ2, (cls (E := (mnW g u so xi (S.2.2.1 2) (S.2.2.1 11) (S.2.2.1 5) (S.2.2.1 6) rf af mf (S.1 10) (S.2.2.1 4) ks ke kt kv kf (S.1 3) s0 s1 s2 D0 D1 D2)) (X := (plW g s0 p1 p2 p3 p4 p5 p6 (pL zi))) (T' := (tlW R4 A4 I4 np (va_up Pl zi []) Sr)) (T := (tlW R4 A4 I4 np Pl Sr)) (by rw [← hpe]; exact (tl_pl hzi).symm))⟩
      ·
        refine j_iload_n 22 dX5_stood_21 rfl 3 rfl ?_
        refine j_bipush (v := (12 : Int32)) 24 dX5_stood_22 rfl (by decide) ?_
        refine j_icmp_gt 27 35 dX5_stood_24 rfl rfl (fun h24 => ?_) (fun h24 => ?_)
        ·
          refine j_ldc (v := (-1000001 : Int32)) 37 dX5_stood_35 rfl wd_1_212 ?_
          have ze : (pM_stood r i n what S) = ((-1000001 : Int32), S) := by
            rw [pM_stood, if_neg h4, if_pos (by first | exact Or.inl h14 | exact Or.inr (Or.inr h32) | exact Or.inr (Or.inl (fun y => ((n_iff (show (12 : Int32).toInt = ((13 : Nat) : Int) - 1 by decide)).mpr y).1 h18)) | exact Or.inr (Or.inl (fun y => ((n_iff (show (12 : Int32).toInt = ((13 : Nat) : Int) - 1 by decide)).mpr y).2 h24)))]
          refine j_iretI dX5_stood_37 rfl ⟨gLe rfl, gLe rfl, ?_⟩
          rw [ze]
          exact ⟨rfl, so, xi, (S.2.2.1 2), (S.2.2.1 11), (S.2.2.1 5), (S.2.2.1 6), rf, af, mf, (S.1 10), (S.2.2.1 4), ks, ke, kt, kv, kf, (S.1 3), s0, s1, s2, D0, D1, D2, R4, A4, I4, np, Pl, pL, Sr, hA, ⟨rfl, rfl, rfl, rfl, rfl, rfl, rfl⟩, hR, hW0, hAc, hM, hS, hZ1, hZ2, (cls (E := (mnW g u so xi (S.2.2.1 2) (S.2.2.1 11) (S.2.2.1 5) (S.2.2.1 6) rf af mf (S.1 10) (S.2.2.1 4) ks ke kt kv kf (S.1 3) s0 s1 s2 D0 D1 D2)) (X := (plW g s0 p1 p2 p3 p4 p5 p6 (pL zi))) (T' := (tlW R4 A4 I4 np (va_up Pl zi []) Sr)) (T := (tlW R4 A4 I4 np Pl Sr)) (by rw [← hpe]; exact (tl_pl hzi).symm))⟩
        ·
          refine j_iload 29 dX5_stood_27 rfl 4 rfl ?_
          refine j_callSE (rest := []) 32 (c_X5_isFirstOrSecond g what ) [.int (gB (inR what 2))] dX5_stood_29 rfl cs_X5_212 rfl rfl (gLe rfl) (gLe rfl) (gLe rfl) (gLe rfl) rfl ?_
          refine j_if_neB 35 38 dX5_stood_32 rfl rfl (fun h32 => ?_) (fun h32 => ?_)
          ·
            have hn13 : inR n 13 := (n_iff (show (12 : Int32).toInt = ((13 : Nat) : Int) - 1 by decide)).mp ⟨h18, h24⟩
            have hnb : ¬ (¬ inR r 8 ∨ ¬ inR n 13 ∨ ¬ inR what 2) := fun y => y.elim (fun y => y h14) (fun y => y.elim (fun y => y hn13) (fun y => y h32))
            obtain ⟨zr, hzr, rfl⟩ := inR_of h14
            obtain ⟨zn, hzn, rfl⟩ := inR_of hn13
            have hzn9 := hzn
            obtain ⟨rl, rz, ri, hre, hr1, hr2⟩ := hR zr hzr
            obtain ⟨hz, hzn, hfd⟩ := row_z hI hzr hr1 hr2
            refine j_perm _ (opn (tl_row hzr)) ?_
            rw [hre]
            refine j_ws ([((u 0), .inr (5, [.ref (u 1), .ref (u 5), .ref (u 10), .ref (u 14), .ref (u 18), .ref (u 2), .int (nI xi), .int (nI (S.2.2.1 2)), .ref (u 3), va_rf so, .ref (u 4), .int (nI (S.2.2.1 11)), .int (nI (S.2.2.1 5)), .int (nI (S.2.2.1 6))])), ((u 1), .inl (g.2.1 3, 8, .inr (.inr (.inr (.inr rf))))), ((u 2), .inl (g.2.1 4, 24, .inr (.inr (.inr (.inr af))))), ((u 3), .inl (g.2.1 4, 2, .inr (.inr (.inr (.inr mf))))), ((u 4), .inl (g.2.1 0, 16, .inl (nF (S.1 10)))), ((u 5), .inr (4, [.ref (u 6), .int (nI (S.2.2.1 4)), .int (nI ks), .int (nI ke), .int (nI kt), .int (nI kv), .int (nI kf)])), ((u 6), .inl (g.2.1 1, 400, .inl (sgF (S.1 3)))), ((u 10), .inr (3, [.ref s0, .int (nI (D0 0 0)), .ref (u 11), .ref (u 12), .ref (u 13)])), ((u 11), .inl (g.2.1 0, 5, .inl (nF (D0 1)))), ((u 12), .inl (g.2.1 0, 6, .inl (nF (D0 2)))), ((u 13), .inl (g.2.1 0, 6, .inl (nF (D0 3)))), ((u 14), .inr (3, [.ref s1, .int (nI (D1 0 0)), .ref (u 15), .ref (u 16), .ref (u 17)])), ((u 15), .inl (g.2.1 0, 5, .inl (nF (D1 1)))), ((u 16), .inl (g.2.1 0, 6, .inl (nF (D1 2)))), ((u 17), .inl (g.2.1 0, 6, .inl (nF (D1 3)))), ((u 18), .inr (3, [.ref s2, .int (nI (D2 0 0)), .ref (u 19), .ref (u 20), .ref (u 21)])), ((u 19), .inl (g.2.1 0, 5, .inl (nF (D2 1)))), ((u 20), .inl (g.2.1 0, 6, .inl (nF (D2 2)))), ((u 21), .inl (g.2.1 0, 6, .inl (nF (D2 3)))), (s0, .inr (0, [.int (nI (pL zi 0 0)), .int (nI (pL zi 0 1)), .int (nI (pL zi 0 2)), .ref p1, .ref p2, .ref p3, .ref p4, .ref p5, .ref p6])), (p1, .inl (g.2.1 0, 5, .inl (nF (pL zi 1)))), (p2, .inl (g.2.1 0, 5, .inl (nF (pL zi 2)))), (p3, .inl (g.2.1 0, 5, .inl (nF (pL zi 3)))), (p4, .inl (g.2.1 0, 5, .inl (nF (pL zi 4)))), (p5, .inl (g.2.1 0, 8, .inl (nF (pL zi 5)))), (p6, .inl (g.2.1 0, 8, .inl (nF (pL zi 6)))), ((u (30 + 2 * zr)), .inr (1, [.ref (u (31 + 2 * zr)), .int rl, .int rz])), ((u (31 + 2 * zr)), .inl (g.2.1 0, 40, .inl ri))] ++ (tlW (va_up R4 zr []) A4 I4 np (va_up Pl zi []) Sr)) rfl ?_
            refine j_aload_n 39 dX5_stood_38 rfl 0 rfl ?_
            refine j_iload_n 40 dX5_stood_39 rfl 1 rfl ?_
            refine j_iload_n 41 dX5_stood_40 rfl 2 rfl ?_
            refine j_iconst (v := (2 : Int32)) 42 dX5_stood_41 rfl (by decide) ?_
            refine j_iload_n 43 dX5_stood_42 rfl 3 rfl ?_
            refine j_imulN 2 zn 44 dX5_stood_43 rfl ?_
            refine j_callV0 (rest := []) 47 [0, 1, 26, 27] (c_X5_findingOf g (u 0) (u 1) (u 5) (u 10) (u 14) (u 18) (u 2) xi (S.2.2.1 2) (u 3) so (u 4) (S.2.2.1 11) (S.2.2.1 5) (S.2.2.1 6) rf (u (30 + 2 * zr)) (u (31 + 2 * zr)) rl rz ri zr i (nI (2 * zn)) hz hzr (hA.1 zr hzr)) [.int (nI (fdK rz i (nI (2 * zn))))] ([((u 0), .inr (5, [.ref (u 1), .ref (u 5), .ref (u 10), .ref (u 14), .ref (u 18), .ref (u 2), .int (nI xi), .int (nI (S.2.2.1 2)), .ref (u 3), va_rf so, .ref (u 4), .int (nI (S.2.2.1 11)), .int (nI (S.2.2.1 5)), .int (nI (S.2.2.1 6))])), ((u 1), .inl (g.2.1 3, 8, .inr (.inr (.inr (.inr rf))))), ((u 2), .inl (g.2.1 4, 24, .inr (.inr (.inr (.inr af))))), ((u 3), .inl (g.2.1 4, 2, .inr (.inr (.inr (.inr mf))))), ((u 4), .inl (g.2.1 0, 16, .inl (nF (S.1 10)))), ((u 5), .inr (4, [.ref (u 6), .int (nI (S.2.2.1 4)), .int (nI ks), .int (nI ke), .int (nI kt), .int (nI kv), .int (nI kf)])), ((u 6), .inl (g.2.1 1, 400, .inl (sgF (S.1 3)))), ((u 10), .inr (3, [.ref s0, .int (nI (D0 0 0)), .ref (u 11), .ref (u 12), .ref (u 13)])), ((u 11), .inl (g.2.1 0, 5, .inl (nF (D0 1)))), ((u 12), .inl (g.2.1 0, 6, .inl (nF (D0 2)))), ((u 13), .inl (g.2.1 0, 6, .inl (nF (D0 3)))), ((u 14), .inr (3, [.ref s1, .int (nI (D1 0 0)), .ref (u 15), .ref (u 16), .ref (u 17)])), ((u 15), .inl (g.2.1 0, 5, .inl (nF (D1 1)))), ((u 16), .inl (g.2.1 0, 6, .inl (nF (D1 2)))), ((u 17), .inl (g.2.1 0, 6, .inl (nF (D1 3)))), ((u 18), .inr (3, [.ref s2, .int (nI (D2 0 0)), .ref (u 19), .ref (u 20), .ref (u 21)])), ((u 19), .inl (g.2.1 0, 5, .inl (nF (D2 1)))), ((u 20), .inl (g.2.1 0, 6, .inl (nF (D2 2)))), ((u 21), .inl (g.2.1 0, 6, .inl (nF (D2 3)))), (s0, .inr (0, [.int (nI (pL zi 0 0)), .int (nI (pL zi 0 1)), .int (nI (pL zi 0 2)), .ref p1, .ref p2, .ref p3, .ref p4, .ref p5, .ref p6])), (p1, .inl (g.2.1 0, 5, .inl (nF (pL zi 1)))), (p2, .inl (g.2.1 0, 5, .inl (nF (pL zi 2)))), (p3, .inl (g.2.1 0, 5, .inl (nF (pL zi 3)))), (p4, .inl (g.2.1 0, 5, .inl (nF (pL zi 4)))), (p5, .inl (g.2.1 0, 8, .inl (nF (pL zi 5)))), (p6, .inl (g.2.1 0, 8, .inl (nF (pL zi 6)))), ((u (30 + 2 * zr)), .inr (1, [.ref (u (31 + 2 * zr)), .int rl, .int rz])), ((u (31 + 2 * zr)), .inl (g.2.1 0, 40, .inl ri))] ++ (tlW (va_up R4 zr []) A4 I4 np (va_up Pl zi []) Sr)) dX5_stood_44 rfl cv_X5_88 rfl rfl rfl rfl 0 rfl rfl (gLe rfl) (gLe rfl) (gLe rfl) (gLe rfl) (gLe rfl) rfl (List.append_nil _) ?_
            refine j_istore 49 [(5, .int (nI (fdK rz i (nI (2 * zn))))), (0, .ref (u 0)), (1, .int (nI zr)), (2, .int i), (3, .int (nI zn)), (4, .int what)] dX5_stood_47 rfl (by decide) rfl ?_
            refine j_iload 51 dX5_stood_49 rfl 0 rfl ?_
            refine j_if_eqN (fdK rz i (nI (2 * zn))) 54 61 dX5_stood_51 rfl rfl (by have z0 := (fdK_le : fdK rz i (nI (2 * zn)) ≤ 2); omega) (fun h51 => ?_) (fun h51 => ?_)
            ·
              have hfz : rfK (S.2.1 7 zr) (S.1 8 zr) i (nI (2 * zn)) = 0 := by rw [← hfd]; exact h51
              have hrf := rfK_zz (S := S) (r := zr) (by rw [← hfd]; exact h51)
              obtain ⟨hrl, rfl, hri⟩ := hr2 hrf.1
              have h40 : S.1 8 zr ≤ 40 := hI.2.2.2.2.2.2.2.1 zr hzr
              obtain ⟨zx, hzx, rfl⟩ := inR_of (n := 41) (x := i) ⟨hrf.2.1, by have y := hrf.2.2; omega⟩
              have hsp : zx + 2 * zn ≤ S.1 8 zr := by have y := hrf.2.2.2; rw [nI_toInt (by omega), nI_toInt (by omega)] at y; omega
              have hspz : (zx : Int) + 2 * zn ≤ (nI (S.1 8 zr)).toInt := by rw [nI_toInt (by omega)]; omega
              refine j_aload_n 62 dX5_stood_61 rfl 1 rfl ?_
              refine j_iload_n 63 dX5_stood_62 rfl 2 rfl ?_
              refine j_iload_n 64 dX5_stood_63 rfl 3 rfl ?_
              refine j_iload_n 65 dX5_stood_64 rfl 4 rfl ?_
              refine j_callV0 (rest := []) 68 [0, 1, 26, 27, 7, 19] (c_X5_arePairs g (u 0) (u 1) (u 5) (u 10) (u 14) (u 18) (u 2) xi (S.2.2.1 2) (u 3) so (u 4) (S.2.2.1 11) (S.2.2.1 5) (S.2.2.1 6) rf (u (30 + 2 * zr)) (u (31 + 2 * zr)) rl (nI (S.1 8 zr)) ri s0 (D0 0 0) (u 11) (u 12) (u 13) (pL zi 0 0) (pL zi 0 1) (pL zi 0 2) p1 p2 p3 p4 p5 p6 zr zx zn hz hzr (hA.1 zr hzr) hspz hq8 hq6) [.int (gB (areP ri zx zn (pL zi 0 2) (pL zi 0 0)))] ([((u 0), .inr (5, [.ref (u 1), .ref (u 5), .ref (u 10), .ref (u 14), .ref (u 18), .ref (u 2), .int (nI xi), .int (nI (S.2.2.1 2)), .ref (u 3), va_rf so, .ref (u 4), .int (nI (S.2.2.1 11)), .int (nI (S.2.2.1 5)), .int (nI (S.2.2.1 6))])), ((u 1), .inl (g.2.1 3, 8, .inr (.inr (.inr (.inr rf))))), ((u 2), .inl (g.2.1 4, 24, .inr (.inr (.inr (.inr af))))), ((u 3), .inl (g.2.1 4, 2, .inr (.inr (.inr (.inr mf))))), ((u 4), .inl (g.2.1 0, 16, .inl (nF (S.1 10)))), ((u 5), .inr (4, [.ref (u 6), .int (nI (S.2.2.1 4)), .int (nI ks), .int (nI ke), .int (nI kt), .int (nI kv), .int (nI kf)])), ((u 6), .inl (g.2.1 1, 400, .inl (sgF (S.1 3)))), ((u 10), .inr (3, [.ref s0, .int (nI (D0 0 0)), .ref (u 11), .ref (u 12), .ref (u 13)])), ((u 11), .inl (g.2.1 0, 5, .inl (nF (D0 1)))), ((u 12), .inl (g.2.1 0, 6, .inl (nF (D0 2)))), ((u 13), .inl (g.2.1 0, 6, .inl (nF (D0 3)))), ((u 14), .inr (3, [.ref s1, .int (nI (D1 0 0)), .ref (u 15), .ref (u 16), .ref (u 17)])), ((u 15), .inl (g.2.1 0, 5, .inl (nF (D1 1)))), ((u 16), .inl (g.2.1 0, 6, .inl (nF (D1 2)))), ((u 17), .inl (g.2.1 0, 6, .inl (nF (D1 3)))), ((u 18), .inr (3, [.ref s2, .int (nI (D2 0 0)), .ref (u 19), .ref (u 20), .ref (u 21)])), ((u 19), .inl (g.2.1 0, 5, .inl (nF (D2 1)))), ((u 20), .inl (g.2.1 0, 6, .inl (nF (D2 2)))), ((u 21), .inl (g.2.1 0, 6, .inl (nF (D2 3)))), (s0, .inr (0, [.int (nI (pL zi 0 0)), .int (nI (pL zi 0 1)), .int (nI (pL zi 0 2)), .ref p1, .ref p2, .ref p3, .ref p4, .ref p5, .ref p6])), (p1, .inl (g.2.1 0, 5, .inl (nF (pL zi 1)))), (p2, .inl (g.2.1 0, 5, .inl (nF (pL zi 2)))), (p3, .inl (g.2.1 0, 5, .inl (nF (pL zi 3)))), (p4, .inl (g.2.1 0, 5, .inl (nF (pL zi 4)))), (p5, .inl (g.2.1 0, 8, .inl (nF (pL zi 5)))), (p6, .inl (g.2.1 0, 8, .inl (nF (pL zi 6)))), ((u (30 + 2 * zr)), .inr (1, [.ref (u (31 + 2 * zr)), .int rl, .int (nI (S.1 8 zr))])), ((u (31 + 2 * zr)), .inl (g.2.1 0, 40, .inl ri))] ++ (tlW (va_up R4 zr []) A4 I4 np (va_up Pl zi []) Sr)) dX5_stood_65 rfl cv_X5_221 rfl rfl rfl rfl 0 rfl rfl (gLe rfl) (gLe rfl) (gLe rfl) (gLe rfl) (gLe rfl) rfl (List.append_nil _) ?_
              refine j_topI _ (gB (areP (S.2.1 9) (40 * zr + zx) zn (S.1 0 3) (S.1 0 1))) (gB_iff (by rw [hpl.2.2.1, hpl.1]; exact areP_it hsp hri)) ?_
              refine j_if_neB 71 74 dX5_stood_68 rfl rfl (fun h68 => ?_) (fun h68 => ?_)
              ·
                have hpr : areP ri zx zn (pL zi 0 2) (pL zi 0 0) := by rw [hpl.2.2.1, hpl.1]; exact (areP_it hsp hri).mpr h68
                have hok := (RI_P hI (Or.inr (Or.inr (Or.inr h4)))).2
                have hPl := plOK_P hpl hok.1
                have hp5 : 2 ^ S.1 0 2 ≤ 2 ^ 5 := Nat.pow_le_pow_right (by decide) hok.1.2.2.1
                refine j_iconst (v := (0 : Int32)) 75 dX5_stood_74 rfl (by decide) ?_
                refine j_istore 77 [(6, .int (0 : Int32)), (5, .int (nI (fdK (nI (S.1 8 zr)) (nI zx) (nI (2 * zn))))), (0, .ref (u 0)), (1, .int (nI zr)), (2, .int (nI zx)), (3, .int (nI zn)), (4, .int what)] dX5_stood_75 rfl (by decide) rfl ?_
                refine j_ldc (v := (-1000000 : Int32)) 79 dX5_stood_77 rfl wd_3_69 ?_
                refine j_istore 81 [(7, .int (-1000000 : Int32)), (6, .int (0 : Int32)), (5, .int (nI (fdK (nI (S.1 8 zr)) (nI zx) (nI (2 * zn))))), (0, .ref (u 0)), (1, .int (nI zr)), (2, .int (nI zx)), (3, .int (nI zn)), (4, .int what)] dX5_stood_79 rfl (by decide) rfl ?_
                refine j_iconst (v := (1 : Int32)) 82 dX5_stood_81 rfl (by decide) ?_
                refine j_aload_n 83 dX5_stood_82 rfl 3 rfl ?_
                refine j_getf 86 0 dX5_stood_83 rfl fd_X5_61 rfl rfl ?_
                refine j_getf 89 7 dX5_stood_86 rfl fd_X5_180 rfl rfl ?_
                refine j_getf 92 19 dX5_stood_89 rfl fd_X5_147 rfl rfl ?_
                refine j_ishlN 1 (pL zi 0 1) 93 dX5_stood_92 rfl (by omega) (by rw [hpl.2.1]; omega) ?_
                refine j_topN (1 * 2 ^ (pL zi 0 1)) (2 ^ S.1 0 2) (by rw [Nat.one_mul, hpl.2.1]) ?_
                refine j_iconst (v := (1 : Int32)) 94 dX5_stood_93 rfl (by decide) ?_
                refine j_isub 95 dX5_stood_94 rfl ?_
                refine j_istore 97 [(8, .int ((nI (2 ^ S.1 0 2)) - (1 : Int32))), (7, .int (-1000000 : Int32)), (6, .int (0 : Int32)), (5, .int (nI (fdK (nI (S.1 8 zr)) (nI zx) (nI (2 * zn))))), (0, .ref (u 0)), (1, .int (nI zr)), (2, .int (nI zx)), (3, .int (nI zn)), (4, .int what)] dX5_stood_95 rfl (by decide) rfl ?_
                have hL97 : ∀ (zm97 : Nat) (zm : Nat) (zE : Nat → Nat → Nat) (zs : Nat), zm < zm97 → (zm ≤ 2 ^ S.1 0 2) → (Z5 (zE 1)) → gJ g mX5_stood 4 0 0 (fun k' j' rv ws' => k' ≤ 0 ∧ j' ≤ 0 ∧ (rv = some (.int (pM_stood (nI zr) (nI zx) (nI zn) what S).1) ∧ cR g u (pM_stood (nI zr) (nI zx) (nI zn) what S).2 ws')) 0 0 97 [(8, .int (nI zm - (1 : Int32))), (6, .int (nI ((stE (stF (S.1 0) (S.2.1 9) (40 * zr + zx) zn) zm (2 ^ S.1 0 2 - zm)).1))), (7, .int ((stE (stF (S.1 0) (S.2.1 9) (40 * zr + zx) zn) zm (2 ^ S.1 0 2 - zm)).2)), (0, .ref (u 0)), (1, .int (nI zr)), (2, .int (nI zx)), (3, .int (nI zn)), (4, .int what)] [] ([((u 0), .inr (5, [.ref (u 1), .ref (u 5), .ref (u 10), .ref (u 14), .ref (u 18), .ref (u 2), .int (nI xi), .int (nI (S.2.2.1 2)), .ref (u 3), va_rf so, .ref (u 4), .int (nI (S.2.2.1 11)), .int (nI (S.2.2.1 5)), .int (nI (S.2.2.1 6))])), ((u 1), .inl (g.2.1 3, 8, .inr (.inr (.inr (.inr rf))))), ((u 2), .inl (g.2.1 4, 24, .inr (.inr (.inr (.inr af))))), ((u 3), .inl (g.2.1 4, 2, .inr (.inr (.inr (.inr mf))))), ((u 4), .inl (g.2.1 0, 16, .inl (nF (S.1 10)))), ((u 5), .inr (4, [.ref (u 6), .int (nI (S.2.2.1 4)), .int (nI ks), .int (nI ke), .int (nI kt), .int (nI kv), .int (nI kf)])), ((u 6), .inl (g.2.1 1, 400, .inl (sgF (S.1 3)))), ((u 10), .inr (3, [.ref s0, .int (nI (D0 0 0)), .ref (u 11), .ref (u 12), .ref (u 13)])), ((u 11), .inl (g.2.1 0, 5, .inl (nF (D0 1)))), ((u 12), .inl (g.2.1 0, 6, .inl (nF (D0 2)))), ((u 13), .inl (g.2.1 0, 6, .inl (nF (D0 3)))), ((u 14), .inr (3, [.ref zs, .int (nI (zE 0 0)), .ref (u 15), .ref (u 16), .ref (u 17)])), ((u 15), .inl (g.2.1 0, 5, .inl (nF (zE 1)))), ((u 16), .inl (g.2.1 0, 6, .inl (nF (zE 2)))), ((u 17), .inl (g.2.1 0, 6, .inl (nF (zE 3)))), ((u 18), .inr (3, [.ref s2, .int (nI (D2 0 0)), .ref (u 19), .ref (u 20), .ref (u 21)])), ((u 19), .inl (g.2.1 0, 5, .inl (nF (D2 1)))), ((u 20), .inl (g.2.1 0, 6, .inl (nF (D2 2)))), ((u 21), .inl (g.2.1 0, 6, .inl (nF (D2 3)))), (s0, .inr (0, [.int (nI (pL zi 0 0)), .int (nI (pL zi 0 1)), .int (nI (pL zi 0 2)), .ref p1, .ref p2, .ref p3, .ref p4, .ref p5, .ref p6])), (p1, .inl (g.2.1 0, 5, .inl (nF (pL zi 1)))), (p2, .inl (g.2.1 0, 5, .inl (nF (pL zi 2)))), (p3, .inl (g.2.1 0, 5, .inl (nF (pL zi 3)))), (p4, .inl (g.2.1 0, 5, .inl (nF (pL zi 4)))), (p5, .inl (g.2.1 0, 8, .inl (nF (pL zi 5)))), (p6, .inl (g.2.1 0, 8, .inl (nF (pL zi 6)))), ((u (30 + 2 * zr)), .inr (1, [.ref (u (31 + 2 * zr)), .int rl, .int (nI (S.1 8 zr))])), ((u (31 + 2 * zr)), .inl (g.2.1 0, 40, .inl ri))] ++ (tlW (va_up R4 zr []) A4 I4 np (va_up Pl zi []) Sr)) := by
                  intro zm97
                  induction zm97 with
                  | zero => intro zm zE zs zmh; exact absurd zmh (Nat.not_lt_zero _)
                  | succ zm97 zih97 =>
                    intro zm zE zs zmh97 hzm hzZ
                    refine j_iload 99 dX5_stood_97 rfl 0 rfl ?_
                    refine j_if_lt 102 147 dX5_stood_99 rfl rfl (fun h99 => ?_) (fun h99 => ?_)
                    ·
                      have hz0 : zm = 0 := (pred_neg (by omega)).mp h99
                      subst hz0
                      have hfc : stE (stF (S.1 0) (S.2.1 9) (40 * zr + zx) zn) 0 (2 ^ S.1 0 2 - 0) = stC (stF (S.1 0) (S.2.1 9) (40 * zr + zx) zn) (2 ^ S.1 0 2) := stE_0 _ _
                      refine j_aload_n 148 dX5_stood_147 rfl 3 rfl ?_
                      refine j_iload 150 dX5_stood_148 rfl 7 rfl ?_
                      refine j_if_ne 153 158 dX5_stood_150 rfl rfl (fun h150 => ?_) (fun h150 => ?_)
                      ·
                        refine j_iload 160 dX5_stood_158 rfl 2 rfl ?_
                        refine j_callV0 (rest := []) 163 [0] (c_X5_foundNothing g (u 0) (u 1) (u 5) (u 10) (u 14) (u 18) (u 2) xi (S.2.2.1 2) (u 3) so (u 4) (S.2.2.1 11) (S.2.2.1 5) (S.2.2.1 6) ((stE (stF (S.1 0) (S.2.1 9) (40 * zr + zx) zn) 0 (2 ^ S.1 0 2 - 0)).2) ) [.int ((stE (stF (S.1 0) (S.2.1 9) (40 * zr + zx) zn) 0 (2 ^ S.1 0 2 - 0)).2)] ([((u 0), .inr (5, [.ref (u 1), .ref (u 5), .ref (u 10), .ref (u 14), .ref (u 18), .ref (u 2), .int (nI xi), .int (nI (S.2.2.1 2)), .ref (u 3), va_rf so, .ref (u 4), .int (nI (S.2.2.1 11)), .int (nI (S.2.2.1 5)), .int (0 : Int32)])), ((u 1), .inl (g.2.1 3, 8, .inr (.inr (.inr (.inr rf))))), ((u 2), .inl (g.2.1 4, 24, .inr (.inr (.inr (.inr af))))), ((u 3), .inl (g.2.1 4, 2, .inr (.inr (.inr (.inr mf))))), ((u 4), .inl (g.2.1 0, 16, .inl (nF (S.1 10)))), ((u 5), .inr (4, [.ref (u 6), .int (nI (S.2.2.1 4)), .int (nI ks), .int (nI ke), .int (nI kt), .int (nI kv), .int (nI kf)])), ((u 6), .inl (g.2.1 1, 400, .inl (sgF (S.1 3)))), ((u 10), .inr (3, [.ref s0, .int (nI (D0 0 0)), .ref (u 11), .ref (u 12), .ref (u 13)])), ((u 11), .inl (g.2.1 0, 5, .inl (nF (D0 1)))), ((u 12), .inl (g.2.1 0, 6, .inl (nF (D0 2)))), ((u 13), .inl (g.2.1 0, 6, .inl (nF (D0 3)))), ((u 14), .inr (3, [.ref zs, .int (nI (zE 0 0)), .ref (u 15), .ref (u 16), .ref (u 17)])), ((u 15), .inl (g.2.1 0, 5, .inl (nF (zE 1)))), ((u 16), .inl (g.2.1 0, 6, .inl (nF (zE 2)))), ((u 17), .inl (g.2.1 0, 6, .inl (nF (zE 3)))), ((u 18), .inr (3, [.ref s2, .int (nI (D2 0 0)), .ref (u 19), .ref (u 20), .ref (u 21)])), ((u 19), .inl (g.2.1 0, 5, .inl (nF (D2 1)))), ((u 20), .inl (g.2.1 0, 6, .inl (nF (D2 2)))), ((u 21), .inl (g.2.1 0, 6, .inl (nF (D2 3)))), (s0, .inr (0, [.int (nI (pL zi 0 0)), .int (nI (pL zi 0 1)), .int (nI (pL zi 0 2)), .ref p1, .ref p2, .ref p3, .ref p4, .ref p5, .ref p6])), (p1, .inl (g.2.1 0, 5, .inl (nF (pL zi 1)))), (p2, .inl (g.2.1 0, 5, .inl (nF (pL zi 2)))), (p3, .inl (g.2.1 0, 5, .inl (nF (pL zi 3)))), (p4, .inl (g.2.1 0, 5, .inl (nF (pL zi 4)))), (p5, .inl (g.2.1 0, 8, .inl (nF (pL zi 5)))), (p6, .inl (g.2.1 0, 8, .inl (nF (pL zi 6)))), ((u (30 + 2 * zr)), .inr (1, [.ref (u (31 + 2 * zr)), .int rl, .int (nI (S.1 8 zr))])), ((u (31 + 2 * zr)), .inl (g.2.1 0, 40, .inl ri))] ++ (tlW (va_up R4 zr []) A4 I4 np (va_up Pl zi []) Sr)) dX5_stood_160 rfl cv_X5_85 rfl rfl rfl rfl 0 rfl rfl (gLe rfl) (gLe rfl) (gLe rfl) (gLe rfl) (gLe rfl) rfl (List.append_nil _) ?_
                        have hrp := rp_0 hzr hzn9 hzx hfz h68
                        have ze : (pM_stood (nI zr) (nI zx) (nI zn) what S) = (((stE (stF (S.1 0) (S.2.1 9) (40 * zr + zx) zn) 0 (2 ^ S.1 0 2 - 0)).2), stN S 0) := by
                          rw [pM_stood, if_neg h4, if_neg hnb, if_neg hrp, cl_nI (a := zr) (by omega), cl_nI (a := zx) (by omega), cl_nI (a := zn) (by omega), if_neg h150, hfc]
                          rfl
                        refine j_iretI dX5_stood_163 rfl ⟨gLe rfl, gLe rfl, ?_⟩
                        rw [ze]
                        exact ⟨rfl, so, xi, (S.2.2.1 2), (S.2.2.1 11), (S.2.2.1 5), 0, rf, af, mf, (S.1 10), (S.2.2.1 4), ks, ke, kt, kv, kf, (S.1 3), s0, zs, s2, D0, zE, D2, (va_up R4 zr (rwW g u zr rl (nI (S.1 8 zr)) ri)), A4, I4, np, Pl, pL, Sr, hA, ⟨rfl, rfl, rfl, rfl, rfl, rfl, rfl⟩, (rows_same hre (fun r hr => rowR_ext rfl rfl (fun _ _ => rfl) (hR r hr))), hW0, hAc, hM, hS, hzZ, hZ2, ((cls (E := ((mnW g u so xi (S.2.2.1 2) (S.2.2.1 11) (S.2.2.1 5) 0 rf af mf (S.1 10) (S.2.2.1 4) ks ke kt kv kf (S.1 3) s0 zs s2 D0 zE D2) ++ (plW g s0 p1 p2 p3 p4 p5 p6 (pL zi)))) (X := (rwW g u zr rl (nI (S.1 8 zr)) ri)) (T' := (tlW (va_up R4 zr []) A4 I4 np (va_up Pl zi []) Sr)) (T := (tlW (va_up R4 zr (rwW g u zr rl (nI (S.1 8 zr)) ri)) A4 I4 np (va_up Pl zi []) Sr)) (tl_row' (rwW g u zr rl (nI (S.1 8 zr)) ri) hzr)).trans (cls (E := (mnW g u so xi (S.2.2.1 2) (S.2.2.1 11) (S.2.2.1 5) 0 rf af mf (S.1 10) (S.2.2.1 4) ks ke kt kv kf (S.1 3) s0 zs s2 D0 zE D2)) (X := (plW g s0 p1 p2 p3 p4 p5 p6 (pL zi))) (T' := (tlW (va_up R4 zr (rwW g u zr rl (nI (S.1 8 zr)) ri)) A4 I4 np (va_up Pl zi []) Sr)) (T := (tlW (va_up R4 zr (rwW g u zr rl (nI (S.1 8 zr)) ri)) A4 I4 np Pl Sr)) (by rw [← hpe]; exact (tl_pl hzi).symm)))⟩
                      ·
                        refine j_iload 155 dX5_stood_153 rfl 1 rfl ?_
                        refine j_goto 160 dX5_stood_155 rfl ?_
                        refine j_callV0 (rest := []) 163 [0] (c_X5_foundNothing g (u 0) (u 1) (u 5) (u 10) (u 14) (u 18) (u 2) xi (S.2.2.1 2) (u 3) so (u 4) (S.2.2.1 11) (S.2.2.1 5) (S.2.2.1 6) (nI ((stE (stF (S.1 0) (S.2.1 9) (40 * zr + zx) zn) 0 (2 ^ S.1 0 2 - 0)).1)) ) [.int (nI ((stE (stF (S.1 0) (S.2.1 9) (40 * zr + zx) zn) 0 (2 ^ S.1 0 2 - 0)).1))] ([((u 0), .inr (5, [.ref (u 1), .ref (u 5), .ref (u 10), .ref (u 14), .ref (u 18), .ref (u 2), .int (nI xi), .int (nI (S.2.2.1 2)), .ref (u 3), va_rf so, .ref (u 4), .int (nI (S.2.2.1 11)), .int (nI (S.2.2.1 5)), .int (0 : Int32)])), ((u 1), .inl (g.2.1 3, 8, .inr (.inr (.inr (.inr rf))))), ((u 2), .inl (g.2.1 4, 24, .inr (.inr (.inr (.inr af))))), ((u 3), .inl (g.2.1 4, 2, .inr (.inr (.inr (.inr mf))))), ((u 4), .inl (g.2.1 0, 16, .inl (nF (S.1 10)))), ((u 5), .inr (4, [.ref (u 6), .int (nI (S.2.2.1 4)), .int (nI ks), .int (nI ke), .int (nI kt), .int (nI kv), .int (nI kf)])), ((u 6), .inl (g.2.1 1, 400, .inl (sgF (S.1 3)))), ((u 10), .inr (3, [.ref s0, .int (nI (D0 0 0)), .ref (u 11), .ref (u 12), .ref (u 13)])), ((u 11), .inl (g.2.1 0, 5, .inl (nF (D0 1)))), ((u 12), .inl (g.2.1 0, 6, .inl (nF (D0 2)))), ((u 13), .inl (g.2.1 0, 6, .inl (nF (D0 3)))), ((u 14), .inr (3, [.ref zs, .int (nI (zE 0 0)), .ref (u 15), .ref (u 16), .ref (u 17)])), ((u 15), .inl (g.2.1 0, 5, .inl (nF (zE 1)))), ((u 16), .inl (g.2.1 0, 6, .inl (nF (zE 2)))), ((u 17), .inl (g.2.1 0, 6, .inl (nF (zE 3)))), ((u 18), .inr (3, [.ref s2, .int (nI (D2 0 0)), .ref (u 19), .ref (u 20), .ref (u 21)])), ((u 19), .inl (g.2.1 0, 5, .inl (nF (D2 1)))), ((u 20), .inl (g.2.1 0, 6, .inl (nF (D2 2)))), ((u 21), .inl (g.2.1 0, 6, .inl (nF (D2 3)))), (s0, .inr (0, [.int (nI (pL zi 0 0)), .int (nI (pL zi 0 1)), .int (nI (pL zi 0 2)), .ref p1, .ref p2, .ref p3, .ref p4, .ref p5, .ref p6])), (p1, .inl (g.2.1 0, 5, .inl (nF (pL zi 1)))), (p2, .inl (g.2.1 0, 5, .inl (nF (pL zi 2)))), (p3, .inl (g.2.1 0, 5, .inl (nF (pL zi 3)))), (p4, .inl (g.2.1 0, 5, .inl (nF (pL zi 4)))), (p5, .inl (g.2.1 0, 8, .inl (nF (pL zi 5)))), (p6, .inl (g.2.1 0, 8, .inl (nF (pL zi 6)))), ((u (30 + 2 * zr)), .inr (1, [.ref (u (31 + 2 * zr)), .int rl, .int (nI (S.1 8 zr))])), ((u (31 + 2 * zr)), .inl (g.2.1 0, 40, .inl ri))] ++ (tlW (va_up R4 zr []) A4 I4 np (va_up Pl zi []) Sr)) dX5_stood_160 rfl cv_X5_85 rfl rfl rfl rfl 0 rfl rfl (gLe rfl) (gLe rfl) (gLe rfl) (gLe rfl) (gLe rfl) rfl (List.append_nil _) ?_
                        have hrp := rp_0 hzr hzn9 hzx hfz h68
                        have ze : (pM_stood (nI zr) (nI zx) (nI zn) what S) = ((nI ((stE (stF (S.1 0) (S.2.1 9) (40 * zr + zx) zn) 0 (2 ^ S.1 0 2 - 0)).1)), stN S 0) := by
                          rw [pM_stood, if_neg h4, if_neg hnb, if_neg hrp, cl_nI (a := zr) (by omega), cl_nI (a := zx) (by omega), cl_nI (a := zn) (by omega), if_pos h150, hfc]
                          rfl
                        refine j_iretI dX5_stood_163 rfl ⟨gLe rfl, gLe rfl, ?_⟩
                        rw [ze]
                        exact ⟨rfl, so, xi, (S.2.2.1 2), (S.2.2.1 11), (S.2.2.1 5), 0, rf, af, mf, (S.1 10), (S.2.2.1 4), ks, ke, kt, kv, kf, (S.1 3), s0, zs, s2, D0, zE, D2, (va_up R4 zr (rwW g u zr rl (nI (S.1 8 zr)) ri)), A4, I4, np, Pl, pL, Sr, hA, ⟨rfl, rfl, rfl, rfl, rfl, rfl, rfl⟩, (rows_same hre (fun r hr => rowR_ext rfl rfl (fun _ _ => rfl) (hR r hr))), hW0, hAc, hM, hS, hzZ, hZ2, ((cls (E := ((mnW g u so xi (S.2.2.1 2) (S.2.2.1 11) (S.2.2.1 5) 0 rf af mf (S.1 10) (S.2.2.1 4) ks ke kt kv kf (S.1 3) s0 zs s2 D0 zE D2) ++ (plW g s0 p1 p2 p3 p4 p5 p6 (pL zi)))) (X := (rwW g u zr rl (nI (S.1 8 zr)) ri)) (T' := (tlW (va_up R4 zr []) A4 I4 np (va_up Pl zi []) Sr)) (T := (tlW (va_up R4 zr (rwW g u zr rl (nI (S.1 8 zr)) ri)) A4 I4 np (va_up Pl zi []) Sr)) (tl_row' (rwW g u zr rl (nI (S.1 8 zr)) ri) hzr)).trans (cls (E := (mnW g u so xi (S.2.2.1 2) (S.2.2.1 11) (S.2.2.1 5) 0 rf af mf (S.1 10) (S.2.2.1 4) ks ke kt kv kf (S.1 3) s0 zs s2 D0 zE D2)) (X := (plW g s0 p1 p2 p3 p4 p5 p6 (pL zi))) (T' := (tlW (va_up R4 zr (rwW g u zr rl (nI (S.1 8 zr)) ri)) A4 I4 np (va_up Pl zi []) Sr)) (T := (tlW (va_up R4 zr (rwW g u zr rl (nI (S.1 8 zr)) ri)) A4 I4 np Pl Sr)) (by rw [← hpe]; exact (tl_pl hzi).symm)))⟩
                    ·
                      obtain ⟨zq, rfl⟩ : ∃ z, zm = z + 1 := ⟨zm - 1, by have y : ¬ zm = 0 := fun y => h99 ((pred_neg (k := zm) (by omega)).mpr y); omega⟩
                      refine j_lvs [(8, .int (nI zq)), (6, .int (nI ((stE (stF (S.1 0) (S.2.1 9) (40 * zr + zx) zn) (zq + 1) (2 ^ S.1 0 2 - (zq + 1))).1))), (7, .int ((stE (stF (S.1 0) (S.2.1 9) (40 * zr + zx) zn) (zq + 1) (2 ^ S.1 0 2 - (zq + 1))).2)), (0, .ref (u 0)), (1, .int (nI zr)), (2, .int (nI zx)), (3, .int (nI zn)), (4, .int what)] (by rw [show nI (zq + 1) - (1 : Int32) = nI zq from nI_p (Nat.succ_pos _)]) ?_
                      have hzq : zq < 2 ^ S.1 0 2 := by omega
                      refine j_aload_n 103 dX5_stood_102 rfl 3 rfl ?_
                      refine j_getf 106 0 dX5_stood_103 rfl fd_X5_65 rfl rfl ?_
                      refine j_aload_n 107 dX5_stood_106 rfl 3 rfl ?_
                      refine j_getf 110 0 dX5_stood_107 rfl fd_X5_61 rfl rfl ?_
                      refine j_getf 113 7 dX5_stood_110 rfl fd_X5_180 rfl rfl ?_
                      refine j_iload 115 dX5_stood_113 rfl 0 rfl ?_
                      refine j_callV0 (rest := []) 118 [11, 12, 13, 14] (c_X3_begin g (u 14) zs (u 15) (u 16) (u 17) zE s0 zq ) [] ([((u 0), .inr (5, [.ref (u 1), .ref (u 5), .ref (u 10), .ref (u 14), .ref (u 18), .ref (u 2), .int (nI xi), .int (nI (S.2.2.1 2)), .ref (u 3), va_rf so, .ref (u 4), .int (nI (S.2.2.1 11)), .int (nI (S.2.2.1 5)), .int (nI (S.2.2.1 6))])), ((u 1), .inl (g.2.1 3, 8, .inr (.inr (.inr (.inr rf))))), ((u 2), .inl (g.2.1 4, 24, .inr (.inr (.inr (.inr af))))), ((u 3), .inl (g.2.1 4, 2, .inr (.inr (.inr (.inr mf))))), ((u 4), .inl (g.2.1 0, 16, .inl (nF (S.1 10)))), ((u 5), .inr (4, [.ref (u 6), .int (nI (S.2.2.1 4)), .int (nI ks), .int (nI ke), .int (nI kt), .int (nI kv), .int (nI kf)])), ((u 6), .inl (g.2.1 1, 400, .inl (sgF (S.1 3)))), ((u 10), .inr (3, [.ref s0, .int (nI (D0 0 0)), .ref (u 11), .ref (u 12), .ref (u 13)])), ((u 11), .inl (g.2.1 0, 5, .inl (nF (D0 1)))), ((u 12), .inl (g.2.1 0, 6, .inl (nF (D0 2)))), ((u 13), .inl (g.2.1 0, 6, .inl (nF (D0 3)))), ((u 14), .inr (3, [.ref s0, .int (nI ((bgD zE zq) 0 0)), .ref (u 15), .ref (u 16), .ref (u 17)])), ((u 15), .inl (g.2.1 0, 5, .inl (nF ((bgD zE zq) 1)))), ((u 16), .inl (g.2.1 0, 6, .inl (nF ((bgD zE zq) 2)))), ((u 17), .inl (g.2.1 0, 6, .inl (nF ((bgD zE zq) 3)))), ((u 18), .inr (3, [.ref s2, .int (nI (D2 0 0)), .ref (u 19), .ref (u 20), .ref (u 21)])), ((u 19), .inl (g.2.1 0, 5, .inl (nF (D2 1)))), ((u 20), .inl (g.2.1 0, 6, .inl (nF (D2 2)))), ((u 21), .inl (g.2.1 0, 6, .inl (nF (D2 3)))), (s0, .inr (0, [.int (nI (pL zi 0 0)), .int (nI (pL zi 0 1)), .int (nI (pL zi 0 2)), .ref p1, .ref p2, .ref p3, .ref p4, .ref p5, .ref p6])), (p1, .inl (g.2.1 0, 5, .inl (nF (pL zi 1)))), (p2, .inl (g.2.1 0, 5, .inl (nF (pL zi 2)))), (p3, .inl (g.2.1 0, 5, .inl (nF (pL zi 3)))), (p4, .inl (g.2.1 0, 5, .inl (nF (pL zi 4)))), (p5, .inl (g.2.1 0, 8, .inl (nF (pL zi 5)))), (p6, .inl (g.2.1 0, 8, .inl (nF (pL zi 6)))), ((u (30 + 2 * zr)), .inr (1, [.ref (u (31 + 2 * zr)), .int rl, .int (nI (S.1 8 zr))])), ((u (31 + 2 * zr)), .inl (g.2.1 0, 40, .inl ri))] ++ (tlW (va_up R4 zr []) A4 I4 np (va_up Pl zi []) Sr)) dX5_stood_115 rfl cv_X5_141 rfl rfl rfl rfl 0 rfl rfl (gLe rfl) (gLe rfl) (gLe rfl) (gLe rfl) (gLe rfl) rfl (List.append_nil _) ?_
                      have hbq1 : bgD zE zq 1 = fun _ => 0 := bgD_1 hzZ
                      have hbq0 : bgD zE zq 0 0 = zq := rfl
                      generalize bgD zE zq = zB at hbq1 hbq0 ⊢
                      have hZB : Z5 (zB 1) := by rw [hbq1]; exact fun _ _ => rfl
                      refine j_aload_n 119 dX5_stood_118 rfl 3 rfl ?_
                      refine j_aload_n 120 dX5_stood_119 rfl 3 rfl ?_
                      refine j_getf 123 0 dX5_stood_120 rfl fd_X5_11 rfl rfl ?_
                      refine j_iload_n 124 dX5_stood_123 rfl 4 rfl ?_
                      refine j_aaldR (b := (u (30 + 2 * zr))) 125 1 dX5_stood_124 rfl rfl (vp_in_nI hzr (by decide)) (by rw [nI_clamp (by omega)]; exact hA.1 zr hzr) ?_
                      refine j_iload_n 126 dX5_stood_125 rfl 5 rfl ?_
                      refine j_iload_n 127 dX5_stood_126 rfl 6 rfl ?_
                      refine j_iconst (v := (-1 : Int32)) 128 dX5_stood_127 rfl (by decide) ?_
                      refine j_callVe (rest := []) 131 [0, 26, 27, 11, 12, 13, 14, 19, 20, 21, 22, 23, 24, 25] (c_X5_comeAsTold g (u 0) (u 1) (u 5) (u 10) (u 14) (u 18) (u 2) xi (S.2.2.1 2) (u 3) so (u 4) (S.2.2.1 11) (S.2.2.1 5) (S.2.2.1 6) (u (30 + 2 * zr)) (u (31 + 2 * zr)) rl (nI (S.1 8 zr)) ri s0 (u 15) (u 16) (u 17) zB p1 p2 p3 p4 p5 p6 (pL zi) zx zn (-1 : Int32) 99 hz hspz hpr hPl skC_99 (by rw [hbq0, hpl.2.1]; exact hzq) hZB (fun j => by rw [hbq1]; exact Nat.zero_le _)) dX5_stood_128 rfl cv_X5_225 rfl rfl rfl rfl 0 rfl rfl (gLe rfl) (gLe rfl) (gLe rfl) (gLe rfl) (fun rv w1 hp => ?_)
                      obtain ⟨zD_1, hZD_1, rfl, rfl⟩ := hp
                      refine ⟨gLe rfl, ?_⟩
                      refine j_eq (lv2 := [(8, .int (nI zq)), (6, .int (nI ((stE (stF (S.1 0) (S.2.1 9) (40 * zr + zx) zn) (zq + 1) (2 ^ S.1 0 2 - (zq + 1))).1))), (7, .int ((stE (stF (S.1 0) (S.2.1 9) (40 * zr + zx) zn) (zq + 1) (2 ^ S.1 0 2 - (zq + 1))).2)), (0, .ref (u 0)), (1, .int (nI zr)), (2, .int (nI zx)), (3, .int (nI zn)), (4, .int what)]) (st2 := [.int (gB (cmA (plP (pL zi)) 99 ri zx zn 0 (zB 0 0) (zB 1) = true))]) (ws2 := ([((u 0), .inr (5, [.ref (u 1), .ref (u 5), .ref (u 10), .ref (u 14), .ref (u 18), .ref (u 2), .int (nI xi), .int (nI (S.2.2.1 2)), .ref (u 3), va_rf so, .ref (u 4), .int (nI (S.2.2.1 11)), .int (nI (S.2.2.1 5)), .int (nI (S.2.2.1 6))])), ((u 1), .inl (g.2.1 3, 8, .inr (.inr (.inr (.inr rf))))), ((u 2), .inl (g.2.1 4, 24, .inr (.inr (.inr (.inr af))))), ((u 3), .inl (g.2.1 4, 2, .inr (.inr (.inr (.inr mf))))), ((u 4), .inl (g.2.1 0, 16, .inl (nF (S.1 10)))), ((u 5), .inr (4, [.ref (u 6), .int (nI (S.2.2.1 4)), .int (nI ks), .int (nI ke), .int (nI kt), .int (nI kv), .int (nI kf)])), ((u 6), .inl (g.2.1 1, 400, .inl (sgF (S.1 3)))), ((u 10), .inr (3, [.ref s0, .int (nI (D0 0 0)), .ref (u 11), .ref (u 12), .ref (u 13)])), ((u 11), .inl (g.2.1 0, 5, .inl (nF (D0 1)))), ((u 12), .inl (g.2.1 0, 6, .inl (nF (D0 2)))), ((u 13), .inl (g.2.1 0, 6, .inl (nF (D0 3)))), ((u 14), .inr (3, [.ref s0, .int (nI (zD_1 0 0)), .ref (u 15), .ref (u 16), .ref (u 17)])), ((u 15), .inl (g.2.1 0, 5, .inl (nF (zD_1 1)))), ((u 16), .inl (g.2.1 0, 6, .inl (nF (zD_1 2)))), ((u 17), .inl (g.2.1 0, 6, .inl (nF (zD_1 3)))), ((u 18), .inr (3, [.ref s2, .int (nI (D2 0 0)), .ref (u 19), .ref (u 20), .ref (u 21)])), ((u 19), .inl (g.2.1 0, 5, .inl (nF (D2 1)))), ((u 20), .inl (g.2.1 0, 6, .inl (nF (D2 2)))), ((u 21), .inl (g.2.1 0, 6, .inl (nF (D2 3)))), (s0, .inr (0, [.int (nI ((pL zi) 0 0)), .int (nI ((pL zi) 0 1)), .int (nI ((pL zi) 0 2)), .ref p1, .ref p2, .ref p3, .ref p4, .ref p5, .ref p6])), (p1, .inl (g.2.1 0, 5, .inl (nF ((pL zi) 1)))), (p2, .inl (g.2.1 0, 5, .inl (nF ((pL zi) 2)))), (p3, .inl (g.2.1 0, 5, .inl (nF ((pL zi) 3)))), (p4, .inl (g.2.1 0, 5, .inl (nF ((pL zi) 4)))), (p5, .inl (g.2.1 0, 8, .inl (nF ((pL zi) 5)))), (p6, .inl (g.2.1 0, 8, .inl (nF ((pL zi) 6)))), ((u (30 + 2 * zr)), .inr (1, [.ref (u (31 + 2 * zr)), .int rl, .int (nI (S.1 8 zr))])), ((u (31 + 2 * zr)), .inl (g.2.1 0, 40, .inl ri))] ++ (tlW (va_up R4 zr []) A4 I4 np (va_up Pl zi []) Sr))) rfl rfl (List.append_nil _) ?_
                      refine j_topI _ (gB (stF (S.1 0) (S.2.1 9) (40 * zr + zx) zn zq = true)) (gB_iff (by rw [hbq0, hbq1, cmA_L hpl hok.1 hsp hri h68 zn 0 _ _ (by omega)]; exact Iff.rfl)) ?_
                      refine j_if_eqB 134 141 dX5_stood_131 rfl rfl (fun h131 => ?_) (fun h131 => ?_)
                      ·
                        refine j_iinc (v := (nI zq - (1 : Int32))) 144 [(8, .int (nI zq - (1 : Int32))), (6, .int (nI ((stE (stF (S.1 0) (S.2.1 9) (40 * zr + zx) zn) (zq + 1) (2 ^ S.1 0 2 - (zq + 1))).1))), (7, .int ((stE (stF (S.1 0) (S.2.1 9) (40 * zr + zx) zn) (zq + 1) (2 ^ S.1 0 2 - (zq + 1))).2)), (0, .ref (u 0)), (1, .int (nI zr)), (2, .int (nI zx)), (3, .int (nI zn)), (4, .int what)] dX5_stood_141 rfl 0 rfl (madd1 _) (by decide) rfl ?_
                        refine j_goto 97 dX5_stood_144 rfl ?_
                        refine j_lv [0, 1, 2, 3, 4, 5, 6, 7] rfl ?_
                        refine j_lvs [(8, .int (nI zq - (1 : Int32))), (6, .int (nI ((stE (stF (S.1 0) (S.2.1 9) (40 * zr + zx) zn) zq (2 ^ S.1 0 2 - zq)).1))), (7, .int ((stE (stF (S.1 0) (S.2.1 9) (40 * zr + zx) zn) zq (2 ^ S.1 0 2 - zq)).2)), (0, .ref (u 0)), (1, .int (nI zr)), (2, .int (nI zx)), (3, .int (nI zn)), (4, .int what)] (by rw [stE_f hzq (h131)]; rfl) ?_
                        exact zih97 zq zD_1 s0 (by omega) (by omega) hZD_1
                      ·
                        refine j_iincN ((stE (stF (S.1 0) (S.2.1 9) (40 * zr + zx) zn) (zq + 1) (2 ^ S.1 0 2 - (zq + 1))).1) 1 137 [(6, .int (nI ((stE (stF (S.1 0) (S.2.1 9) (40 * zr + zx) zn) (zq + 1) (2 ^ S.1 0 2 - (zq + 1))).1 + 1))), (8, .int (nI zq)), (7, .int ((stE (stF (S.1 0) (S.2.1 9) (40 * zr + zx) zn) (zq + 1) (2 ^ S.1 0 2 - (zq + 1))).2)), (0, .ref (u 0)), (1, .int (nI zr)), (2, .int (nI zx)), (3, .int (nI zn)), (4, .int what)] dX5_stood_134 rfl 1 rfl (by decide) rfl ?_
                        refine j_iload 139 dX5_stood_137 rfl 1 rfl ?_
                        refine j_istore 141 [(7, .int (nI zq)), (6, .int (nI ((stE (stF (S.1 0) (S.2.1 9) (40 * zr + zx) zn) (zq + 1) (2 ^ S.1 0 2 - (zq + 1))).1 + 1))), (8, .int (nI zq)), (0, .ref (u 0)), (1, .int (nI zr)), (2, .int (nI zx)), (3, .int (nI zn)), (4, .int what)] dX5_stood_139 rfl (by decide) rfl ?_
                        refine j_iinc (v := (nI zq - (1 : Int32))) 144 [(8, .int (nI zq - (1 : Int32))), (7, .int (nI zq)), (6, .int (nI ((stE (stF (S.1 0) (S.2.1 9) (40 * zr + zx) zn) (zq + 1) (2 ^ S.1 0 2 - (zq + 1))).1 + 1))), (0, .ref (u 0)), (1, .int (nI zr)), (2, .int (nI zx)), (3, .int (nI zn)), (4, .int what)] dX5_stood_141 rfl 2 rfl (madd1 _) (by decide) rfl ?_
                        refine j_goto 97 dX5_stood_144 rfl ?_
                        refine j_lv [0, 2, 1, 3, 4, 5, 6, 7] rfl ?_
                        refine j_lvs [(8, .int (nI zq - (1 : Int32))), (6, .int (nI ((stE (stF (S.1 0) (S.2.1 9) (40 * zr + zx) zn) zq (2 ^ S.1 0 2 - zq)).1))), (7, .int ((stE (stF (S.1 0) (S.2.1 9) (40 * zr + zx) zn) zq (2 ^ S.1 0 2 - zq)).2)), (0, .ref (u 0)), (1, .int (nI zr)), (2, .int (nI zx)), (3, .int (nI zn)), (4, .int what)] (by rw [stE_t hzq (h131)]; rfl) ?_
                        exact zih97 zq zD_1 s0 (by omega) (by omega) hZD_1
                refine j_lvs [(8, .int ((nI (2 ^ S.1 0 2)) - (1 : Int32))), (7, .int ((stE (stF (S.1 0) (S.2.1 9) (40 * zr + zx) zn) (2 ^ S.1 0 2) (2 ^ S.1 0 2 - 2 ^ S.1 0 2)).2)), (6, .int (nI ((stE (stF (S.1 0) (S.2.1 9) (40 * zr + zx) zn) (2 ^ S.1 0 2) (2 ^ S.1 0 2 - 2 ^ S.1 0 2)).1))), (5, .int (nI (fdK (nI (S.1 8 zr)) (nI zx) (nI (2 * zn))))), (0, .ref (u 0)), (1, .int (nI zr)), (2, .int (nI zx)), (3, .int (nI zn)), (4, .int what)] (by rw [show stE (stF (S.1 0) (S.2.1 9) (40 * zr + zx) zn) (2 ^ S.1 0 2) (2 ^ S.1 0 2 - 2 ^ S.1 0 2) = (0, -1000000) by rw [Nat.sub_self]; rfl]; rfl) ?_
                refine j_lv [0, 2, 1, 4, 5, 6, 7, 8] rfl ?_
                exact hL97 _ (2 ^ S.1 0 2) D1 s1 (Nat.lt_succ_self _) (Nat.le_refl _) hZ1
              ·
                refine j_ldc (v := (-1000001 : Int32)) 73 dX5_stood_71 rfl wd_1_212 ?_
                have hrp := rp_b hzr hzn9 hzx hfz h68
                have ze : (pM_stood (nI zr) (nI zx) (nI zn) what S) = ((-1000001 : Int32), S) := by
                  rw [pM_stood, if_neg h4, if_neg hnb, if_pos (by rw [hrp.1]; decide), hrp.1, hrp.2]
                refine j_iretI dX5_stood_73 rfl ⟨gLe rfl, gLe rfl, ?_⟩
                rw [ze]
                exact ⟨rfl, so, xi, (S.2.2.1 2), (S.2.2.1 11), (S.2.2.1 5), (S.2.2.1 6), rf, af, mf, (S.1 10), (S.2.2.1 4), ks, ke, kt, kv, kf, (S.1 3), s0, s1, s2, D0, D1, D2, (va_up R4 zr (rwW g u zr rl (nI (S.1 8 zr)) ri)), A4, I4, np, Pl, pL, Sr, hA, ⟨rfl, rfl, rfl, rfl, rfl, rfl, rfl⟩, (rows_same hre (fun r hr => rowR_ext rfl rfl (fun _ _ => rfl) (hR r hr))), hW0, hAc, hM, hS, hZ1, hZ2, ((cls (E := ((mnW g u so xi (S.2.2.1 2) (S.2.2.1 11) (S.2.2.1 5) (S.2.2.1 6) rf af mf (S.1 10) (S.2.2.1 4) ks ke kt kv kf (S.1 3) s0 s1 s2 D0 D1 D2) ++ (plW g s0 p1 p2 p3 p4 p5 p6 (pL zi)))) (X := (rwW g u zr rl (nI (S.1 8 zr)) ri)) (T' := (tlW (va_up R4 zr []) A4 I4 np (va_up Pl zi []) Sr)) (T := (tlW (va_up R4 zr (rwW g u zr rl (nI (S.1 8 zr)) ri)) A4 I4 np (va_up Pl zi []) Sr)) (tl_row' (rwW g u zr rl (nI (S.1 8 zr)) ri) hzr)).trans (cls (E := (mnW g u so xi (S.2.2.1 2) (S.2.2.1 11) (S.2.2.1 5) (S.2.2.1 6) rf af mf (S.1 10) (S.2.2.1 4) ks ke kt kv kf (S.1 3) s0 s1 s2 D0 D1 D2)) (X := (plW g s0 p1 p2 p3 p4 p5 p6 (pL zi))) (T' := (tlW (va_up R4 zr (rwW g u zr rl (nI (S.1 8 zr)) ri)) A4 I4 np (va_up Pl zi []) Sr)) (T := (tlW (va_up R4 zr (rwW g u zr rl (nI (S.1 8 zr)) ri)) A4 I4 np Pl Sr)) (by rw [← hpe]; exact (tl_pl hzi).symm)))⟩
            ·
              refine j_aload_n 55 dX5_stood_54 rfl 1 rfl ?_
              refine j_iload 57 dX5_stood_55 rfl 0 rfl ?_
              refine j_callV0 (rest := []) 60 [0] (c_X5_found g (u 0) (u 1) (u 5) (u 10) (u 14) (u 18) (u 2) xi (S.2.2.1 2) (u 3) so (u 4) (S.2.2.1 11) (S.2.2.1 5) (S.2.2.1 6) (fdK rz i (nI (2 * zn))) ) [.int ((-1000010 : Int32) - nI (fdK rz i (nI (2 * zn))))] ([((u 0), .inr (5, [.ref (u 1), .ref (u 5), .ref (u 10), .ref (u 14), .ref (u 18), .ref (u 2), .int (nI xi), .int (nI (S.2.2.1 2)), .ref (u 3), va_rf so, .ref (u 4), .int (nI (S.2.2.1 11)), .int (nI (S.2.2.1 5)), .int (nI (fdK rz i (nI (2 * zn))))])), ((u 1), .inl (g.2.1 3, 8, .inr (.inr (.inr (.inr rf))))), ((u 2), .inl (g.2.1 4, 24, .inr (.inr (.inr (.inr af))))), ((u 3), .inl (g.2.1 4, 2, .inr (.inr (.inr (.inr mf))))), ((u 4), .inl (g.2.1 0, 16, .inl (nF (S.1 10)))), ((u 5), .inr (4, [.ref (u 6), .int (nI (S.2.2.1 4)), .int (nI ks), .int (nI ke), .int (nI kt), .int (nI kv), .int (nI kf)])), ((u 6), .inl (g.2.1 1, 400, .inl (sgF (S.1 3)))), ((u 10), .inr (3, [.ref s0, .int (nI (D0 0 0)), .ref (u 11), .ref (u 12), .ref (u 13)])), ((u 11), .inl (g.2.1 0, 5, .inl (nF (D0 1)))), ((u 12), .inl (g.2.1 0, 6, .inl (nF (D0 2)))), ((u 13), .inl (g.2.1 0, 6, .inl (nF (D0 3)))), ((u 14), .inr (3, [.ref s1, .int (nI (D1 0 0)), .ref (u 15), .ref (u 16), .ref (u 17)])), ((u 15), .inl (g.2.1 0, 5, .inl (nF (D1 1)))), ((u 16), .inl (g.2.1 0, 6, .inl (nF (D1 2)))), ((u 17), .inl (g.2.1 0, 6, .inl (nF (D1 3)))), ((u 18), .inr (3, [.ref s2, .int (nI (D2 0 0)), .ref (u 19), .ref (u 20), .ref (u 21)])), ((u 19), .inl (g.2.1 0, 5, .inl (nF (D2 1)))), ((u 20), .inl (g.2.1 0, 6, .inl (nF (D2 2)))), ((u 21), .inl (g.2.1 0, 6, .inl (nF (D2 3)))), (s0, .inr (0, [.int (nI (pL zi 0 0)), .int (nI (pL zi 0 1)), .int (nI (pL zi 0 2)), .ref p1, .ref p2, .ref p3, .ref p4, .ref p5, .ref p6])), (p1, .inl (g.2.1 0, 5, .inl (nF (pL zi 1)))), (p2, .inl (g.2.1 0, 5, .inl (nF (pL zi 2)))), (p3, .inl (g.2.1 0, 5, .inl (nF (pL zi 3)))), (p4, .inl (g.2.1 0, 5, .inl (nF (pL zi 4)))), (p5, .inl (g.2.1 0, 8, .inl (nF (pL zi 5)))), (p6, .inl (g.2.1 0, 8, .inl (nF (pL zi 6)))), ((u (30 + 2 * zr)), .inr (1, [.ref (u (31 + 2 * zr)), .int rl, .int rz])), ((u (31 + 2 * zr)), .inl (g.2.1 0, 40, .inl ri))] ++ (tlW (va_up R4 zr []) A4 I4 np (va_up Pl zi []) Sr)) dX5_stood_57 rfl cv_X5_77 rfl rfl rfl rfl 0 rfl rfl (gLe rfl) (gLe rfl) (gLe rfl) (gLe rfl) (gLe rfl) rfl (List.append_nil _) ?_
              have hrp := rp_f (S := S) (i := i) hzr hzn9 (by rw [← hfd]; exact h51)
              rw [← hfd] at hrp
              have ze : (pM_stood (nI zr) i (nI zn) what S) = (((-1000010 : Int32) - nI (fdK rz i (nI (2 * zn)))), stN S (fdK rz i (nI (2 * zn)))) := by
                rw [pM_stood, if_neg h4, if_neg hnb, if_pos hrp.2.1, hrp.1, hrp.2.2]
              refine j_iretI dX5_stood_60 rfl ⟨gLe rfl, gLe rfl, ?_⟩
              rw [ze]
              exact ⟨rfl, so, xi, (S.2.2.1 2), (S.2.2.1 11), (S.2.2.1 5), (fdK rz i (nI (2 * zn))), rf, af, mf, (S.1 10), (S.2.2.1 4), ks, ke, kt, kv, kf, (S.1 3), s0, s1, s2, D0, D1, D2, (va_up R4 zr (rwW g u zr rl rz ri)), A4, I4, np, Pl, pL, Sr, hA, ⟨rfl, rfl, rfl, rfl, rfl, rfl, rfl⟩, (rows_same hre (fun r hr => rowR_ext rfl rfl (fun _ _ => rfl) (hR r hr))), hW0, hAc, hM, hS, hZ1, hZ2, ((cls (E := ((mnW g u so xi (S.2.2.1 2) (S.2.2.1 11) (S.2.2.1 5) (fdK rz i (nI (2 * zn))) rf af mf (S.1 10) (S.2.2.1 4) ks ke kt kv kf (S.1 3) s0 s1 s2 D0 D1 D2) ++ (plW g s0 p1 p2 p3 p4 p5 p6 (pL zi)))) (X := (rwW g u zr rl rz ri)) (T' := (tlW (va_up R4 zr []) A4 I4 np (va_up Pl zi []) Sr)) (T := (tlW (va_up R4 zr (rwW g u zr rl rz ri)) A4 I4 np (va_up Pl zi []) Sr)) (tl_row' (rwW g u zr rl rz ri) hzr)).trans (cls (E := (mnW g u so xi (S.2.2.1 2) (S.2.2.1 11) (S.2.2.1 5) (fdK rz i (nI (2 * zn))) rf af mf (S.1 10) (S.2.2.1 4) ks ke kt kv kf (S.1 3) s0 s1 s2 D0 D1 D2)) (X := (plW g s0 p1 p2 p3 p4 p5 p6 (pL zi))) (T' := (tlW (va_up R4 zr (rwW g u zr rl rz ri)) A4 I4 np (va_up Pl zi []) Sr)) (T := (tlW (va_up R4 zr (rwW g u zr rl rz ri)) A4 I4 np Pl Sr)) (by rw [← hpe]; exact (tl_pl hzi).symm)))⟩
          ·
            refine j_ldc (v := (-1000001 : Int32)) 37 dX5_stood_35 rfl wd_1_212 ?_
            have ze : (pM_stood r i n what S) = ((-1000001 : Int32), S) := by
              rw [pM_stood, if_neg h4, if_pos (by first | exact Or.inl h14 | exact Or.inr (Or.inr h32) | exact Or.inr (Or.inl (fun y => ((n_iff (show (12 : Int32).toInt = ((13 : Nat) : Int) - 1 by decide)).mpr y).1 h18)) | exact Or.inr (Or.inl (fun y => ((n_iff (show (12 : Int32).toInt = ((13 : Nat) : Int) - 1 by decide)).mpr y).2 h24)))]
            refine j_iretI dX5_stood_37 rfl ⟨gLe rfl, gLe rfl, ?_⟩
            rw [ze]
            exact ⟨rfl, so, xi, (S.2.2.1 2), (S.2.2.1 11), (S.2.2.1 5), (S.2.2.1 6), rf, af, mf, (S.1 10), (S.2.2.1 4), ks, ke, kt, kv, kf, (S.1 3), s0, s1, s2, D0, D1, D2, R4, A4, I4, np, Pl, pL, Sr, hA, ⟨rfl, rfl, rfl, rfl, rfl, rfl, rfl⟩, hR, hW0, hAc, hM, hS, hZ1, hZ2, (cls (E := (mnW g u so xi (S.2.2.1 2) (S.2.2.1 11) (S.2.2.1 5) (S.2.2.1 6) rf af mf (S.1 10) (S.2.2.1 4) ks ke kt kv kf (S.1 3) s0 s1 s2 D0 D1 D2)) (X := (plW g s0 p1 p2 p3 p4 p5 p6 (pL zi))) (T' := (tlW R4 A4 I4 np (va_up Pl zi []) Sr)) (T := (tlW R4 A4 I4 np Pl Sr)) (by rw [← hpe]; exact (tl_pl hzi).symm))⟩
  ·
    refine j_ldc (v := (-1000002 : Int32)) 9 dX5_stood_7 rfl wd_3_20 ?_
    have ze : (pM_stood r i n what S) = ((-1000002 : Int32), S) := by
      exact if_pos h4
    refine j_iretI dX5_stood_9 rfl ⟨gLe rfl, gLe rfl, ?_⟩
    rw [ze]
    exact ⟨rfl, so, xi, (S.2.2.1 2), (S.2.2.1 11), (S.2.2.1 5), (S.2.2.1 6), rf, af, mf, (S.1 10), (S.2.2.1 4), ks, ke, kt, kv, kf, (S.1 3), s0, s1, s2, D0, D1, D2, R4, A4, I4, np, Pl, pL, Sr, hA, ⟨rfl, rfl, rfl, rfl, rfl, rfl, rfl⟩, hR, hW0, hAc, hM, hS, hZ1, hZ2, (cls (E := (mnW g u so xi (S.2.2.1 2) (S.2.2.1 11) (S.2.2.1 5) (S.2.2.1 6) rf af mf (S.1 10) (S.2.2.1 4) ks ke kt kv kf (S.1 3) s0 s1 s2 D0 D1 D2)) (X := (plW g s0 p1 p2 p3 p4 p5 p6 (pL zi))) (T' := (tlW R4 A4 I4 np (va_up Pl zi []) Sr)) (T := (tlW R4 A4 I4 np Pl Sr)) (by rw [← hpe]; exact (tl_pl hzi).symm))⟩
set_option maxRecDepth 20000 in
theorem k_sticks (g : gG) (u : Nat → Nat) (S : RS) (ws : va_W) (r : Int32) (i : Int32) (n : Int32) (hI : RI S) (hC : cR g u S ws) : gCon g mX5_sticks 4 0 0 [.ref (u 0), .int r, .int i, .int n] ws (fun rv ws' => rv = some (.int (pM_sticks r i n S).1) ∧ cR g u (pM_sticks r i n S).2 ws') := by
  refine gCon.of (lv := [(0, .ref (u 0)), (1, .int r), (2, .int i), (3, .int n)]) (by decide) (gLe rfl) rfl ?_
  obtain ⟨so, xi, xj, xe, xf, xg, rf, af, mf, T, kl, ks, ke, kt, kv, kf, yT, s0, s1, s2, D0, D1, D2, R4, A4, I4, np, Pl, pL, Sr, hA, hN, hR, hW, hAc, hM, hS, hZ1, hZ2, hp⟩ := hC
  obtain ⟨rfl, rfl, rfl, rfl, rfl, rfl, rfl⟩ := hN
  have hxi := hAc.1
  have hxj := hI.2.1
  have hkl := hI.2.2.2.2.1
  have hxe := hI.2.2.2.2.2.2.2.2.1
  refine j_perm _ hp ?_
  refine j_ws ([((u 0), .inr (5, [.ref (u 1), .ref (u 5), .ref (u 10), .ref (u 14), .ref (u 18), .ref (u 2), .int (nI xi), .int (nI (S.2.2.1 2)), .ref (u 3), va_rf so, .ref (u 4), .int (nI (S.2.2.1 11)), .int (nI (S.2.2.1 5)), .int (nI (S.2.2.1 6))])), ((u 1), .inl (g.2.1 3, 8, .inr (.inr (.inr (.inr rf))))), ((u 2), .inl (g.2.1 4, 24, .inr (.inr (.inr (.inr af))))), ((u 3), .inl (g.2.1 4, 2, .inr (.inr (.inr (.inr mf))))), ((u 4), .inl (g.2.1 0, 16, .inl (nF (S.1 10)))), ((u 5), .inr (4, [.ref (u 6), .int (nI (S.2.2.1 4)), .int (nI ks), .int (nI ke), .int (nI kt), .int (nI kv), .int (nI kf)])), ((u 6), .inl (g.2.1 1, 400, .inl (sgF (S.1 3)))), ((u 10), .inr (3, [.ref s0, .int (nI (D0 0 0)), .ref (u 11), .ref (u 12), .ref (u 13)])), ((u 11), .inl (g.2.1 0, 5, .inl (nF (D0 1)))), ((u 12), .inl (g.2.1 0, 6, .inl (nF (D0 2)))), ((u 13), .inl (g.2.1 0, 6, .inl (nF (D0 3)))), ((u 14), .inr (3, [.ref s1, .int (nI (D1 0 0)), .ref (u 15), .ref (u 16), .ref (u 17)])), ((u 15), .inl (g.2.1 0, 5, .inl (nF (D1 1)))), ((u 16), .inl (g.2.1 0, 6, .inl (nF (D1 2)))), ((u 17), .inl (g.2.1 0, 6, .inl (nF (D1 3)))), ((u 18), .inr (3, [.ref s2, .int (nI (D2 0 0)), .ref (u 19), .ref (u 20), .ref (u 21)])), ((u 19), .inl (g.2.1 0, 5, .inl (nF (D2 1)))), ((u 20), .inl (g.2.1 0, 6, .inl (nF (D2 2)))), ((u 21), .inl (g.2.1 0, 6, .inl (nF (D2 3))))] ++ (tlW R4 A4 I4 np Pl Sr)) rfl ?_
  have hW0 := hW
  obtain ⟨⟨zi, ⟨hzi, p1, p2, p3, p4, p5, p6, hpe⟩, hpl⟩, hst⟩ := hW
  have hq := RI_pl hI hpl
  obtain ⟨hq6, hq5, hq8, hq0⟩ := hq
  refine j_perm _ (opn (tl_pl hzi)) ?_
  rw [hpe]
  refine j_ws ([((u 0), .inr (5, [.ref (u 1), .ref (u 5), .ref (u 10), .ref (u 14), .ref (u 18), .ref (u 2), .int (nI xi), .int (nI (S.2.2.1 2)), .ref (u 3), va_rf so, .ref (u 4), .int (nI (S.2.2.1 11)), .int (nI (S.2.2.1 5)), .int (nI (S.2.2.1 6))])), ((u 1), .inl (g.2.1 3, 8, .inr (.inr (.inr (.inr rf))))), ((u 2), .inl (g.2.1 4, 24, .inr (.inr (.inr (.inr af))))), ((u 3), .inl (g.2.1 4, 2, .inr (.inr (.inr (.inr mf))))), ((u 4), .inl (g.2.1 0, 16, .inl (nF (S.1 10)))), ((u 5), .inr (4, [.ref (u 6), .int (nI (S.2.2.1 4)), .int (nI ks), .int (nI ke), .int (nI kt), .int (nI kv), .int (nI kf)])), ((u 6), .inl (g.2.1 1, 400, .inl (sgF (S.1 3)))), ((u 10), .inr (3, [.ref s0, .int (nI (D0 0 0)), .ref (u 11), .ref (u 12), .ref (u 13)])), ((u 11), .inl (g.2.1 0, 5, .inl (nF (D0 1)))), ((u 12), .inl (g.2.1 0, 6, .inl (nF (D0 2)))), ((u 13), .inl (g.2.1 0, 6, .inl (nF (D0 3)))), ((u 14), .inr (3, [.ref s1, .int (nI (D1 0 0)), .ref (u 15), .ref (u 16), .ref (u 17)])), ((u 15), .inl (g.2.1 0, 5, .inl (nF (D1 1)))), ((u 16), .inl (g.2.1 0, 6, .inl (nF (D1 2)))), ((u 17), .inl (g.2.1 0, 6, .inl (nF (D1 3)))), ((u 18), .inr (3, [.ref s2, .int (nI (D2 0 0)), .ref (u 19), .ref (u 20), .ref (u 21)])), ((u 19), .inl (g.2.1 0, 5, .inl (nF (D2 1)))), ((u 20), .inl (g.2.1 0, 6, .inl (nF (D2 2)))), ((u 21), .inl (g.2.1 0, 6, .inl (nF (D2 3)))), (s0, .inr (0, [.int (nI (pL zi 0 0)), .int (nI (pL zi 0 1)), .int (nI (pL zi 0 2)), .ref p1, .ref p2, .ref p3, .ref p4, .ref p5, .ref p6])), (p1, .inl (g.2.1 0, 5, .inl (nF (pL zi 1)))), (p2, .inl (g.2.1 0, 5, .inl (nF (pL zi 2)))), (p3, .inl (g.2.1 0, 5, .inl (nF (pL zi 3)))), (p4, .inl (g.2.1 0, 5, .inl (nF (pL zi 4)))), (p5, .inl (g.2.1 0, 8, .inl (nF (pL zi 5)))), (p6, .inl (g.2.1 0, 8, .inl (nF (pL zi 6))))] ++ (tlW R4 A4 I4 np (va_up Pl zi []) Sr)) rfl ?_
  refine j_aload_n 1 dX5_sticks_0 rfl 0 rfl ?_
  refine j_callV0 (rest := []) 4 [0, 7, 19] (c_X5_noFold g (u 0) (u 1) (u 5) (u 10) (u 14) (u 18) (u 2) xi (S.2.2.1 2) (u 3) so (u 4) (S.2.2.1 11) (S.2.2.1 5) (S.2.2.1 6) s0 (D0 0 0) (u 11) (u 12) (u 13) (pL zi 0 0) (pL zi 0 1) (pL zi 0 2) p1 p2 p3 p4 p5 p6 (by first | assumption | omega)) [.int (gB ((pL zi 0 1) = 0))] ([((u 0), .inr (5, [.ref (u 1), .ref (u 5), .ref (u 10), .ref (u 14), .ref (u 18), .ref (u 2), .int (nI xi), .int (nI (S.2.2.1 2)), .ref (u 3), va_rf so, .ref (u 4), .int (nI (S.2.2.1 11)), .int (nI (S.2.2.1 5)), .int (nI (S.2.2.1 6))])), ((u 1), .inl (g.2.1 3, 8, .inr (.inr (.inr (.inr rf))))), ((u 2), .inl (g.2.1 4, 24, .inr (.inr (.inr (.inr af))))), ((u 3), .inl (g.2.1 4, 2, .inr (.inr (.inr (.inr mf))))), ((u 4), .inl (g.2.1 0, 16, .inl (nF (S.1 10)))), ((u 5), .inr (4, [.ref (u 6), .int (nI (S.2.2.1 4)), .int (nI ks), .int (nI ke), .int (nI kt), .int (nI kv), .int (nI kf)])), ((u 6), .inl (g.2.1 1, 400, .inl (sgF (S.1 3)))), ((u 10), .inr (3, [.ref s0, .int (nI (D0 0 0)), .ref (u 11), .ref (u 12), .ref (u 13)])), ((u 11), .inl (g.2.1 0, 5, .inl (nF (D0 1)))), ((u 12), .inl (g.2.1 0, 6, .inl (nF (D0 2)))), ((u 13), .inl (g.2.1 0, 6, .inl (nF (D0 3)))), ((u 14), .inr (3, [.ref s1, .int (nI (D1 0 0)), .ref (u 15), .ref (u 16), .ref (u 17)])), ((u 15), .inl (g.2.1 0, 5, .inl (nF (D1 1)))), ((u 16), .inl (g.2.1 0, 6, .inl (nF (D1 2)))), ((u 17), .inl (g.2.1 0, 6, .inl (nF (D1 3)))), ((u 18), .inr (3, [.ref s2, .int (nI (D2 0 0)), .ref (u 19), .ref (u 20), .ref (u 21)])), ((u 19), .inl (g.2.1 0, 5, .inl (nF (D2 1)))), ((u 20), .inl (g.2.1 0, 6, .inl (nF (D2 2)))), ((u 21), .inl (g.2.1 0, 6, .inl (nF (D2 3)))), (s0, .inr (0, [.int (nI (pL zi 0 0)), .int (nI (pL zi 0 1)), .int (nI (pL zi 0 2)), .ref p1, .ref p2, .ref p3, .ref p4, .ref p5, .ref p6])), (p1, .inl (g.2.1 0, 5, .inl (nF (pL zi 1)))), (p2, .inl (g.2.1 0, 5, .inl (nF (pL zi 2)))), (p3, .inl (g.2.1 0, 5, .inl (nF (pL zi 3)))), (p4, .inl (g.2.1 0, 5, .inl (nF (pL zi 4)))), (p5, .inl (g.2.1 0, 8, .inl (nF (pL zi 5)))), (p6, .inl (g.2.1 0, 8, .inl (nF (pL zi 6))))] ++ (tlW R4 A4 I4 np (va_up Pl zi []) Sr)) dX5_sticks_1 rfl cv_X5_160 rfl rfl rfl rfl 0 rfl rfl (gLe rfl) (gLe rfl) (gLe rfl) (gLe rfl) (gLe rfl) rfl (List.append_nil _) ?_
  refine j_topI _ (gB (S.1 0 0 = 0)) (gB_iff hq0) ?_
  refine j_if_eqB 7 10 dX5_sticks_4 rfl rfl (fun h4 => ?_) (fun h4 => ?_)
  ·
    refine j_iload_n 11 dX5_sticks_10 rfl 1 rfl ?_
    refine j_callSE (rest := []) 14 (c_X5_isRow g r ) [.int (gB (inR r 8))] dX5_sticks_11 rfl cs_X5_72 rfl rfl (gLe rfl) (gLe rfl) (gLe rfl) (gLe rfl) rfl ?_
    refine j_if_eqB 17 27 dX5_sticks_14 rfl rfl (fun h14 => ?_) (fun h14 => ?_)
    ·
      refine j_ldc (v := (-1000001 : Int32)) 29 dX5_sticks_27 rfl wd_1_212 ?_
      have ze : (pM_sticks r i n S) = ((-1000001 : Int32), S) := by
        rw [pM_sticks, if_neg h4, if_pos (by first | exact Or.inl h14 | exact Or.inr (fun y => ((n_iff2 (show (12 : Int32).toInt = ((13 : Nat) : Int) - 1 by decide)).mpr y).1 h18) | exact Or.inr (fun y => h24 ((n_iff2 (show (12 : Int32).toInt = ((13 : Nat) : Int) - 1 by decide)).mpr y).2))]
      refine j_iretI dX5_sticks_29 rfl ⟨gLe rfl, gLe rfl, ?_⟩
      rw [ze]
      exact ⟨rfl, so, xi, (S.2.2.1 2), (S.2.2.1 11), (S.2.2.1 5), (S.2.2.1 6), rf, af, mf, (S.1 10), (S.2.2.1 4), ks, ke, kt, kv, kf, (S.1 3), s0, s1, s2, D0, D1, D2, R4, A4, I4, np, Pl, pL, Sr, hA, ⟨rfl, rfl, rfl, rfl, rfl, rfl, rfl⟩, hR, hW0, hAc, hM, hS, hZ1, hZ2, (cls (E := (mnW g u so xi (S.2.2.1 2) (S.2.2.1 11) (S.2.2.1 5) (S.2.2.1 6) rf af mf (S.1 10) (S.2.2.1 4) ks ke kt kv kf (S.1 3) s0 s1 s2 D0 D1 D2)) (X := (plW g s0 p1 p2 p3 p4 p5 p6 (pL zi))) (T' := (tlW R4 A4 I4 np (va_up Pl zi []) Sr)) (T := (tlW R4 A4 I4 np Pl Sr)) (by rw [← hpe]; exact (tl_pl hzi).symm))⟩
    ·
      refine j_iload_n 18 dX5_sticks_17 rfl 3 rfl ?_
      refine j_if_lt 21 27 dX5_sticks_18 rfl rfl (fun h18 => ?_) (fun h18 => ?_)
      ·
        refine j_ldc (v := (-1000001 : Int32)) 29 dX5_sticks_27 rfl wd_1_212 ?_
        have ze : (pM_sticks r i n S) = ((-1000001 : Int32), S) := by
          rw [pM_sticks, if_neg h4, if_pos (by first | exact Or.inl h14 | exact Or.inr (fun y => ((n_iff2 (show (12 : Int32).toInt = ((13 : Nat) : Int) - 1 by decide)).mpr y).1 h18) | exact Or.inr (fun y => h24 ((n_iff2 (show (12 : Int32).toInt = ((13 : Nat) : Int) - 1 by decide)).mpr y).2))]
        refine j_iretI dX5_sticks_29 rfl ⟨gLe rfl, gLe rfl, ?_⟩
        rw [ze]
        exact ⟨rfl, so, xi, (S.2.2.1 2), (S.2.2.1 11), (S.2.2.1 5), (S.2.2.1 6), rf, af, mf, (S.1 10), (S.2.2.1 4), ks, ke, kt, kv, kf, (S.1 3), s0, s1, s2, D0, D1, D2, R4, A4, I4, np, Pl, pL, Sr, hA, ⟨rfl, rfl, rfl, rfl, rfl, rfl, rfl⟩, hR, hW0, hAc, hM, hS, hZ1, hZ2, (cls (E := (mnW g u so xi (S.2.2.1 2) (S.2.2.1 11) (S.2.2.1 5) (S.2.2.1 6) rf af mf (S.1 10) (S.2.2.1 4) ks ke kt kv kf (S.1 3) s0 s1 s2 D0 D1 D2)) (X := (plW g s0 p1 p2 p3 p4 p5 p6 (pL zi))) (T' := (tlW R4 A4 I4 np (va_up Pl zi []) Sr)) (T := (tlW R4 A4 I4 np Pl Sr)) (by rw [← hpe]; exact (tl_pl hzi).symm))⟩
      ·
        refine j_iload_n 22 dX5_sticks_21 rfl 3 rfl ?_
        refine j_bipush (v := (12 : Int32)) 24 dX5_sticks_22 rfl (by decide) ?_
        refine j_icmp_le 27 30 dX5_sticks_24 rfl rfl (fun h24 => ?_) (fun h24 => ?_)
        ·
          have hn13 : inR n 13 := (n_iff2 (show (12 : Int32).toInt = ((13 : Nat) : Int) - 1 by decide)).mp ⟨h18, h24⟩
          have hnb : ¬ (¬ inR r 8 ∨ ¬ inR n 13) := fun y => y.elim (fun y => y h14) (fun y => y hn13)
          obtain ⟨zr, hzr, rfl⟩ := inR_of h14
          obtain ⟨zn, hzn, rfl⟩ := inR_of hn13
          have hzn9 := hzn
          obtain ⟨rl, rz, ri, hre, hr1, hr2⟩ := hR zr hzr
          obtain ⟨hz, hzn, hfd⟩ := row_z hI hzr hr1 hr2
          refine j_perm _ (opn (tl_row hzr)) ?_
          rw [hre]
          refine j_ws ([((u 0), .inr (5, [.ref (u 1), .ref (u 5), .ref (u 10), .ref (u 14), .ref (u 18), .ref (u 2), .int (nI xi), .int (nI (S.2.2.1 2)), .ref (u 3), va_rf so, .ref (u 4), .int (nI (S.2.2.1 11)), .int (nI (S.2.2.1 5)), .int (nI (S.2.2.1 6))])), ((u 1), .inl (g.2.1 3, 8, .inr (.inr (.inr (.inr rf))))), ((u 2), .inl (g.2.1 4, 24, .inr (.inr (.inr (.inr af))))), ((u 3), .inl (g.2.1 4, 2, .inr (.inr (.inr (.inr mf))))), ((u 4), .inl (g.2.1 0, 16, .inl (nF (S.1 10)))), ((u 5), .inr (4, [.ref (u 6), .int (nI (S.2.2.1 4)), .int (nI ks), .int (nI ke), .int (nI kt), .int (nI kv), .int (nI kf)])), ((u 6), .inl (g.2.1 1, 400, .inl (sgF (S.1 3)))), ((u 10), .inr (3, [.ref s0, .int (nI (D0 0 0)), .ref (u 11), .ref (u 12), .ref (u 13)])), ((u 11), .inl (g.2.1 0, 5, .inl (nF (D0 1)))), ((u 12), .inl (g.2.1 0, 6, .inl (nF (D0 2)))), ((u 13), .inl (g.2.1 0, 6, .inl (nF (D0 3)))), ((u 14), .inr (3, [.ref s1, .int (nI (D1 0 0)), .ref (u 15), .ref (u 16), .ref (u 17)])), ((u 15), .inl (g.2.1 0, 5, .inl (nF (D1 1)))), ((u 16), .inl (g.2.1 0, 6, .inl (nF (D1 2)))), ((u 17), .inl (g.2.1 0, 6, .inl (nF (D1 3)))), ((u 18), .inr (3, [.ref s2, .int (nI (D2 0 0)), .ref (u 19), .ref (u 20), .ref (u 21)])), ((u 19), .inl (g.2.1 0, 5, .inl (nF (D2 1)))), ((u 20), .inl (g.2.1 0, 6, .inl (nF (D2 2)))), ((u 21), .inl (g.2.1 0, 6, .inl (nF (D2 3)))), (s0, .inr (0, [.int (nI (pL zi 0 0)), .int (nI (pL zi 0 1)), .int (nI (pL zi 0 2)), .ref p1, .ref p2, .ref p3, .ref p4, .ref p5, .ref p6])), (p1, .inl (g.2.1 0, 5, .inl (nF (pL zi 1)))), (p2, .inl (g.2.1 0, 5, .inl (nF (pL zi 2)))), (p3, .inl (g.2.1 0, 5, .inl (nF (pL zi 3)))), (p4, .inl (g.2.1 0, 5, .inl (nF (pL zi 4)))), (p5, .inl (g.2.1 0, 8, .inl (nF (pL zi 5)))), (p6, .inl (g.2.1 0, 8, .inl (nF (pL zi 6)))), ((u (30 + 2 * zr)), .inr (1, [.ref (u (31 + 2 * zr)), .int rl, .int rz])), ((u (31 + 2 * zr)), .inl (g.2.1 0, 40, .inl ri))] ++ (tlW (va_up R4 zr []) A4 I4 np (va_up Pl zi []) Sr)) rfl ?_
          refine j_aload_n 31 dX5_sticks_30 rfl 0 rfl ?_
          refine j_iload_n 32 dX5_sticks_31 rfl 1 rfl ?_
          refine j_iload_n 33 dX5_sticks_32 rfl 2 rfl ?_
          refine j_iconst (v := (2 : Int32)) 34 dX5_sticks_33 rfl (by decide) ?_
          refine j_iload_n 35 dX5_sticks_34 rfl 3 rfl ?_
          refine j_imulN 2 zn 36 dX5_sticks_35 rfl ?_
          refine j_callV0 (rest := []) 39 [0, 1, 26, 27] (c_X5_findingOf g (u 0) (u 1) (u 5) (u 10) (u 14) (u 18) (u 2) xi (S.2.2.1 2) (u 3) so (u 4) (S.2.2.1 11) (S.2.2.1 5) (S.2.2.1 6) rf (u (30 + 2 * zr)) (u (31 + 2 * zr)) rl rz ri zr i (nI (2 * zn)) hz hzr (hA.1 zr hzr)) [.int (nI (fdK rz i (nI (2 * zn))))] ([((u 0), .inr (5, [.ref (u 1), .ref (u 5), .ref (u 10), .ref (u 14), .ref (u 18), .ref (u 2), .int (nI xi), .int (nI (S.2.2.1 2)), .ref (u 3), va_rf so, .ref (u 4), .int (nI (S.2.2.1 11)), .int (nI (S.2.2.1 5)), .int (nI (S.2.2.1 6))])), ((u 1), .inl (g.2.1 3, 8, .inr (.inr (.inr (.inr rf))))), ((u 2), .inl (g.2.1 4, 24, .inr (.inr (.inr (.inr af))))), ((u 3), .inl (g.2.1 4, 2, .inr (.inr (.inr (.inr mf))))), ((u 4), .inl (g.2.1 0, 16, .inl (nF (S.1 10)))), ((u 5), .inr (4, [.ref (u 6), .int (nI (S.2.2.1 4)), .int (nI ks), .int (nI ke), .int (nI kt), .int (nI kv), .int (nI kf)])), ((u 6), .inl (g.2.1 1, 400, .inl (sgF (S.1 3)))), ((u 10), .inr (3, [.ref s0, .int (nI (D0 0 0)), .ref (u 11), .ref (u 12), .ref (u 13)])), ((u 11), .inl (g.2.1 0, 5, .inl (nF (D0 1)))), ((u 12), .inl (g.2.1 0, 6, .inl (nF (D0 2)))), ((u 13), .inl (g.2.1 0, 6, .inl (nF (D0 3)))), ((u 14), .inr (3, [.ref s1, .int (nI (D1 0 0)), .ref (u 15), .ref (u 16), .ref (u 17)])), ((u 15), .inl (g.2.1 0, 5, .inl (nF (D1 1)))), ((u 16), .inl (g.2.1 0, 6, .inl (nF (D1 2)))), ((u 17), .inl (g.2.1 0, 6, .inl (nF (D1 3)))), ((u 18), .inr (3, [.ref s2, .int (nI (D2 0 0)), .ref (u 19), .ref (u 20), .ref (u 21)])), ((u 19), .inl (g.2.1 0, 5, .inl (nF (D2 1)))), ((u 20), .inl (g.2.1 0, 6, .inl (nF (D2 2)))), ((u 21), .inl (g.2.1 0, 6, .inl (nF (D2 3)))), (s0, .inr (0, [.int (nI (pL zi 0 0)), .int (nI (pL zi 0 1)), .int (nI (pL zi 0 2)), .ref p1, .ref p2, .ref p3, .ref p4, .ref p5, .ref p6])), (p1, .inl (g.2.1 0, 5, .inl (nF (pL zi 1)))), (p2, .inl (g.2.1 0, 5, .inl (nF (pL zi 2)))), (p3, .inl (g.2.1 0, 5, .inl (nF (pL zi 3)))), (p4, .inl (g.2.1 0, 5, .inl (nF (pL zi 4)))), (p5, .inl (g.2.1 0, 8, .inl (nF (pL zi 5)))), (p6, .inl (g.2.1 0, 8, .inl (nF (pL zi 6)))), ((u (30 + 2 * zr)), .inr (1, [.ref (u (31 + 2 * zr)), .int rl, .int rz])), ((u (31 + 2 * zr)), .inl (g.2.1 0, 40, .inl ri))] ++ (tlW (va_up R4 zr []) A4 I4 np (va_up Pl zi []) Sr)) dX5_sticks_36 rfl cv_X5_88 rfl rfl rfl rfl 0 rfl rfl (gLe rfl) (gLe rfl) (gLe rfl) (gLe rfl) (gLe rfl) rfl (List.append_nil _) ?_
          refine j_istore 41 [(4, .int (nI (fdK rz i (nI (2 * zn))))), (0, .ref (u 0)), (1, .int (nI zr)), (2, .int i), (3, .int (nI zn))] dX5_sticks_39 rfl (by decide) rfl ?_
          refine j_iload 43 dX5_sticks_41 rfl 0 rfl ?_
          refine j_if_eqN (fdK rz i (nI (2 * zn))) 46 53 dX5_sticks_43 rfl rfl (by have z0 := (fdK_le : fdK rz i (nI (2 * zn)) ≤ 2); omega) (fun h43 => ?_) (fun h43 => ?_)
          ·
            have hfz : rfK (S.2.1 7 zr) (S.1 8 zr) i (nI (2 * zn)) = 0 := by rw [← hfd]; exact h43
            have hrf := rfK_zz (S := S) (r := zr) (by rw [← hfd]; exact h43)
            obtain ⟨hrl, rfl, hri⟩ := hr2 hrf.1
            have h40 : S.1 8 zr ≤ 40 := hI.2.2.2.2.2.2.2.1 zr hzr
            obtain ⟨zx, hzx, rfl⟩ := inR_of (n := 41) (x := i) ⟨hrf.2.1, by have y := hrf.2.2; omega⟩
            have hsp : zx + 2 * zn ≤ S.1 8 zr := by have y := hrf.2.2.2; rw [nI_toInt (by omega), nI_toInt (by omega)] at y; omega
            have hspz : (zx : Int) + 2 * zn ≤ (nI (S.1 8 zr)).toInt := by rw [nI_toInt (by omega)]; omega
            refine j_aload_n 54 dX5_sticks_53 rfl 1 rfl ?_
            refine j_iload_n 55 dX5_sticks_54 rfl 2 rfl ?_
            refine j_iload_n 56 dX5_sticks_55 rfl 3 rfl ?_
            refine j_iload_n 57 dX5_sticks_56 rfl 4 rfl ?_
            refine j_callV0 (rest := []) 60 [0, 1, 26, 27, 7, 19] (c_X5_arePairs g (u 0) (u 1) (u 5) (u 10) (u 14) (u 18) (u 2) xi (S.2.2.1 2) (u 3) so (u 4) (S.2.2.1 11) (S.2.2.1 5) (S.2.2.1 6) rf (u (30 + 2 * zr)) (u (31 + 2 * zr)) rl (nI (S.1 8 zr)) ri s0 (D0 0 0) (u 11) (u 12) (u 13) (pL zi 0 0) (pL zi 0 1) (pL zi 0 2) p1 p2 p3 p4 p5 p6 zr zx zn hz hzr (hA.1 zr hzr) hspz hq8 hq6) [.int (gB (areP ri zx zn (pL zi 0 2) (pL zi 0 0)))] ([((u 0), .inr (5, [.ref (u 1), .ref (u 5), .ref (u 10), .ref (u 14), .ref (u 18), .ref (u 2), .int (nI xi), .int (nI (S.2.2.1 2)), .ref (u 3), va_rf so, .ref (u 4), .int (nI (S.2.2.1 11)), .int (nI (S.2.2.1 5)), .int (nI (S.2.2.1 6))])), ((u 1), .inl (g.2.1 3, 8, .inr (.inr (.inr (.inr rf))))), ((u 2), .inl (g.2.1 4, 24, .inr (.inr (.inr (.inr af))))), ((u 3), .inl (g.2.1 4, 2, .inr (.inr (.inr (.inr mf))))), ((u 4), .inl (g.2.1 0, 16, .inl (nF (S.1 10)))), ((u 5), .inr (4, [.ref (u 6), .int (nI (S.2.2.1 4)), .int (nI ks), .int (nI ke), .int (nI kt), .int (nI kv), .int (nI kf)])), ((u 6), .inl (g.2.1 1, 400, .inl (sgF (S.1 3)))), ((u 10), .inr (3, [.ref s0, .int (nI (D0 0 0)), .ref (u 11), .ref (u 12), .ref (u 13)])), ((u 11), .inl (g.2.1 0, 5, .inl (nF (D0 1)))), ((u 12), .inl (g.2.1 0, 6, .inl (nF (D0 2)))), ((u 13), .inl (g.2.1 0, 6, .inl (nF (D0 3)))), ((u 14), .inr (3, [.ref s1, .int (nI (D1 0 0)), .ref (u 15), .ref (u 16), .ref (u 17)])), ((u 15), .inl (g.2.1 0, 5, .inl (nF (D1 1)))), ((u 16), .inl (g.2.1 0, 6, .inl (nF (D1 2)))), ((u 17), .inl (g.2.1 0, 6, .inl (nF (D1 3)))), ((u 18), .inr (3, [.ref s2, .int (nI (D2 0 0)), .ref (u 19), .ref (u 20), .ref (u 21)])), ((u 19), .inl (g.2.1 0, 5, .inl (nF (D2 1)))), ((u 20), .inl (g.2.1 0, 6, .inl (nF (D2 2)))), ((u 21), .inl (g.2.1 0, 6, .inl (nF (D2 3)))), (s0, .inr (0, [.int (nI (pL zi 0 0)), .int (nI (pL zi 0 1)), .int (nI (pL zi 0 2)), .ref p1, .ref p2, .ref p3, .ref p4, .ref p5, .ref p6])), (p1, .inl (g.2.1 0, 5, .inl (nF (pL zi 1)))), (p2, .inl (g.2.1 0, 5, .inl (nF (pL zi 2)))), (p3, .inl (g.2.1 0, 5, .inl (nF (pL zi 3)))), (p4, .inl (g.2.1 0, 5, .inl (nF (pL zi 4)))), (p5, .inl (g.2.1 0, 8, .inl (nF (pL zi 5)))), (p6, .inl (g.2.1 0, 8, .inl (nF (pL zi 6)))), ((u (30 + 2 * zr)), .inr (1, [.ref (u (31 + 2 * zr)), .int rl, .int (nI (S.1 8 zr))])), ((u (31 + 2 * zr)), .inl (g.2.1 0, 40, .inl ri))] ++ (tlW (va_up R4 zr []) A4 I4 np (va_up Pl zi []) Sr)) dX5_sticks_57 rfl cv_X5_221 rfl rfl rfl rfl 0 rfl rfl (gLe rfl) (gLe rfl) (gLe rfl) (gLe rfl) (gLe rfl) rfl (List.append_nil _) ?_
            refine j_topI _ (gB (areP (S.2.1 9) (40 * zr + zx) zn (S.1 0 3) (S.1 0 1))) (gB_iff (by rw [hpl.2.2.1, hpl.1]; exact areP_it hsp hri)) ?_
            refine j_if_neB 63 66 dX5_sticks_60 rfl rfl (fun h60 => ?_) (fun h60 => ?_)
            ·
              have hpr : areP ri zx zn (pL zi 0 2) (pL zi 0 0) := by rw [hpl.2.2.1, hpl.1]; exact (areP_it hsp hri).mpr h60
              have hok := (RI_P hI (Or.inr (Or.inr (Or.inr h4)))).2
              have hPl := plOK_P hpl hok.1
              have h3 : D0 0 0 < 2 ^ pL zi 0 1 := by rw [hpl.2.1]; have y := hok.2.1; rw [hst.1]; exact y
              have hZ0 := stOK_Z hst
              have hu0 := pu_c hI hst
              refine j_iconst (v := (0 : Int32)) 67 dX5_sticks_66 rfl (by decide) ?_
              refine j_istore 69 [(5, .int (0 : Int32)), (4, .int (nI (fdK (nI (S.1 8 zr)) (nI zx) (nI (2 * zn))))), (0, .ref (u 0)), (1, .int (nI zr)), (2, .int (nI zx)), (3, .int (nI zn))] dX5_sticks_67 rfl (by decide) rfl ?_
              refine j_iconst (v := (0 : Int32)) 70 dX5_sticks_69 rfl (by decide) ?_
              refine j_istore 72 [(6, .int (0 : Int32)), (5, .int (0 : Int32)), (4, .int (nI (fdK (nI (S.1 8 zr)) (nI zx) (nI (2 * zn))))), (0, .ref (u 0)), (1, .int (nI zr)), (2, .int (nI zx)), (3, .int (nI zn))] dX5_sticks_70 rfl (by decide) rfl ?_
              have hL72 : ∀ (zm72 : Nat) (zh : Nat) (zE : Nat → Nat → Nat) (zs : Nat), S.1 0 2 - zh < zm72 → (zh ≤ pL zi 0 1) → (Z5 (zE 1)) → gJ g mX5_sticks 4 0 0 (fun k' j' rv ws' => k' ≤ 0 ∧ j' ≤ 0 ∧ (rv = some (.int (pM_sticks (nI zr) (nI zx) (nI zn) S).1) ∧ cR g u (pM_sticks (nI zr) (nI zx) (nI zn) S).2 ws')) 0 0 72 [(6, .int (nI zh)), (5, .int (nI (skA (skF (S.1 0) (S.2.1 9) (40 * zr + zx) zn) zh))), (0, .ref (u 0)), (1, .int (nI zr)), (2, .int (nI zx)), (3, .int (nI zn))] [] ([((u 0), .inr (5, [.ref (u 1), .ref (u 5), .ref (u 10), .ref (u 14), .ref (u 18), .ref (u 2), .int (nI xi), .int (nI (S.2.2.1 2)), .ref (u 3), va_rf so, .ref (u 4), .int (nI (S.2.2.1 11)), .int (nI (S.2.2.1 5)), .int (nI (S.2.2.1 6))])), ((u 1), .inl (g.2.1 3, 8, .inr (.inr (.inr (.inr rf))))), ((u 2), .inl (g.2.1 4, 24, .inr (.inr (.inr (.inr af))))), ((u 3), .inl (g.2.1 4, 2, .inr (.inr (.inr (.inr mf))))), ((u 4), .inl (g.2.1 0, 16, .inl (nF (S.1 10)))), ((u 5), .inr (4, [.ref (u 6), .int (nI (S.2.2.1 4)), .int (nI ks), .int (nI ke), .int (nI kt), .int (nI kv), .int (nI kf)])), ((u 6), .inl (g.2.1 1, 400, .inl (sgF (S.1 3)))), ((u 10), .inr (3, [.ref s0, .int (nI (D0 0 0)), .ref (u 11), .ref (u 12), .ref (u 13)])), ((u 11), .inl (g.2.1 0, 5, .inl (nF (D0 1)))), ((u 12), .inl (g.2.1 0, 6, .inl (nF (D0 2)))), ((u 13), .inl (g.2.1 0, 6, .inl (nF (D0 3)))), ((u 14), .inr (3, [.ref zs, .int (nI (zE 0 0)), .ref (u 15), .ref (u 16), .ref (u 17)])), ((u 15), .inl (g.2.1 0, 5, .inl (nF (zE 1)))), ((u 16), .inl (g.2.1 0, 6, .inl (nF (zE 2)))), ((u 17), .inl (g.2.1 0, 6, .inl (nF (zE 3)))), ((u 18), .inr (3, [.ref s2, .int (nI (D2 0 0)), .ref (u 19), .ref (u 20), .ref (u 21)])), ((u 19), .inl (g.2.1 0, 5, .inl (nF (D2 1)))), ((u 20), .inl (g.2.1 0, 6, .inl (nF (D2 2)))), ((u 21), .inl (g.2.1 0, 6, .inl (nF (D2 3)))), (s0, .inr (0, [.int (nI (pL zi 0 0)), .int (nI (pL zi 0 1)), .int (nI (pL zi 0 2)), .ref p1, .ref p2, .ref p3, .ref p4, .ref p5, .ref p6])), (p1, .inl (g.2.1 0, 5, .inl (nF (pL zi 1)))), (p2, .inl (g.2.1 0, 5, .inl (nF (pL zi 2)))), (p3, .inl (g.2.1 0, 5, .inl (nF (pL zi 3)))), (p4, .inl (g.2.1 0, 5, .inl (nF (pL zi 4)))), (p5, .inl (g.2.1 0, 8, .inl (nF (pL zi 5)))), (p6, .inl (g.2.1 0, 8, .inl (nF (pL zi 6)))), ((u (30 + 2 * zr)), .inr (1, [.ref (u (31 + 2 * zr)), .int rl, .int (nI (S.1 8 zr))])), ((u (31 + 2 * zr)), .inl (g.2.1 0, 40, .inl ri))] ++ (tlW (va_up R4 zr []) A4 I4 np (va_up Pl zi []) Sr)) := by
                intro zm72
                induction zm72 with
                | zero => intro zh zE zs zmh; exact absurd zmh (Nat.not_lt_zero _)
                | succ zm72 zih72 =>
                  intro zh zE zs zmh72 hzh hzZ
                  refine j_iload 74 dX5_sticks_72 rfl 0 rfl ?_
                  refine j_aload_n 75 dX5_sticks_74 rfl 2 rfl ?_
                  refine j_getf 78 0 dX5_sticks_75 rfl fd_X5_61 rfl rfl ?_
                  refine j_getf 81 7 dX5_sticks_78 rfl fd_X5_180 rfl rfl ?_
                  refine j_getf 84 19 dX5_sticks_81 rfl fd_X5_147 rfl rfl ?_
                  refine j_icmp_geN zh (pL zi 0 1) 87 130 dX5_sticks_84 rfl rfl (by have z0 := hzh; have z1 := hq5; omega) (by have z0 := hq5; omega) (fun h84 => ?_) (fun h84 => ?_)
                  ·
                    have hzz : zh = S.1 0 2 := by have e := hpl.2.1; omega
                    subst hzz
                    refine j_aload_n 131 dX5_sticks_130 rfl 2 rfl ?_
                    refine j_iload 133 dX5_sticks_131 rfl 1 rfl ?_
                    refine j_callV0 (rest := []) 136 [0] (c_X5_foundNothing g (u 0) (u 1) (u 5) (u 10) (u 14) (u 18) (u 2) xi (S.2.2.1 2) (u 3) so (u 4) (S.2.2.1 11) (S.2.2.1 5) (S.2.2.1 6) (nI (skA (skF (S.1 0) (S.2.1 9) (40 * zr + zx) zn) (S.1 0 2))) ) [.int (nI (skA (skF (S.1 0) (S.2.1 9) (40 * zr + zx) zn) (S.1 0 2)))] ([((u 0), .inr (5, [.ref (u 1), .ref (u 5), .ref (u 10), .ref (u 14), .ref (u 18), .ref (u 2), .int (nI xi), .int (nI (S.2.2.1 2)), .ref (u 3), va_rf so, .ref (u 4), .int (nI (S.2.2.1 11)), .int (nI (S.2.2.1 5)), .int (0 : Int32)])), ((u 1), .inl (g.2.1 3, 8, .inr (.inr (.inr (.inr rf))))), ((u 2), .inl (g.2.1 4, 24, .inr (.inr (.inr (.inr af))))), ((u 3), .inl (g.2.1 4, 2, .inr (.inr (.inr (.inr mf))))), ((u 4), .inl (g.2.1 0, 16, .inl (nF (S.1 10)))), ((u 5), .inr (4, [.ref (u 6), .int (nI (S.2.2.1 4)), .int (nI ks), .int (nI ke), .int (nI kt), .int (nI kv), .int (nI kf)])), ((u 6), .inl (g.2.1 1, 400, .inl (sgF (S.1 3)))), ((u 10), .inr (3, [.ref s0, .int (nI (D0 0 0)), .ref (u 11), .ref (u 12), .ref (u 13)])), ((u 11), .inl (g.2.1 0, 5, .inl (nF (D0 1)))), ((u 12), .inl (g.2.1 0, 6, .inl (nF (D0 2)))), ((u 13), .inl (g.2.1 0, 6, .inl (nF (D0 3)))), ((u 14), .inr (3, [.ref zs, .int (nI (zE 0 0)), .ref (u 15), .ref (u 16), .ref (u 17)])), ((u 15), .inl (g.2.1 0, 5, .inl (nF (zE 1)))), ((u 16), .inl (g.2.1 0, 6, .inl (nF (zE 2)))), ((u 17), .inl (g.2.1 0, 6, .inl (nF (zE 3)))), ((u 18), .inr (3, [.ref s2, .int (nI (D2 0 0)), .ref (u 19), .ref (u 20), .ref (u 21)])), ((u 19), .inl (g.2.1 0, 5, .inl (nF (D2 1)))), ((u 20), .inl (g.2.1 0, 6, .inl (nF (D2 2)))), ((u 21), .inl (g.2.1 0, 6, .inl (nF (D2 3)))), (s0, .inr (0, [.int (nI (pL zi 0 0)), .int (nI (pL zi 0 1)), .int (nI (pL zi 0 2)), .ref p1, .ref p2, .ref p3, .ref p4, .ref p5, .ref p6])), (p1, .inl (g.2.1 0, 5, .inl (nF (pL zi 1)))), (p2, .inl (g.2.1 0, 5, .inl (nF (pL zi 2)))), (p3, .inl (g.2.1 0, 5, .inl (nF (pL zi 3)))), (p4, .inl (g.2.1 0, 5, .inl (nF (pL zi 4)))), (p5, .inl (g.2.1 0, 8, .inl (nF (pL zi 5)))), (p6, .inl (g.2.1 0, 8, .inl (nF (pL zi 6)))), ((u (30 + 2 * zr)), .inr (1, [.ref (u (31 + 2 * zr)), .int rl, .int (nI (S.1 8 zr))])), ((u (31 + 2 * zr)), .inl (g.2.1 0, 40, .inl ri))] ++ (tlW (va_up R4 zr []) A4 I4 np (va_up Pl zi []) Sr)) dX5_sticks_133 rfl cv_X5_85 rfl rfl rfl rfl 0 rfl rfl (gLe rfl) (gLe rfl) (gLe rfl) (gLe rfl) (gLe rfl) rfl (List.append_nil _) ?_
                    have hrp := rp_0 hzr hzn9 hzx hfz h60
                    have ze : (pM_sticks (nI zr) (nI zx) (nI zn) S) = ((nI (skA (skF (S.1 0) (S.2.1 9) (40 * zr + zx) zn) (S.1 0 2))), stN S 0) := by
                      rw [pM_sticks, if_neg h4, if_neg hnb, if_neg hrp, cl_nI (a := zr) (by omega), cl_nI (a := zx) (by omega), cl_nI (a := zn) (by omega)]
                      rfl
                    refine j_iretI dX5_sticks_136 rfl ⟨gLe rfl, gLe rfl, ?_⟩
                    rw [ze]
                    exact ⟨rfl, so, xi, (S.2.2.1 2), (S.2.2.1 11), (S.2.2.1 5), 0, rf, af, mf, (S.1 10), (S.2.2.1 4), ks, ke, kt, kv, kf, (S.1 3), s0, zs, s2, D0, zE, D2, (va_up R4 zr (rwW g u zr rl (nI (S.1 8 zr)) ri)), A4, I4, np, Pl, pL, Sr, hA, ⟨rfl, rfl, rfl, rfl, rfl, rfl, rfl⟩, (rows_same hre (fun r hr => rowR_ext rfl rfl (fun _ _ => rfl) (hR r hr))), hW0, hAc, hM, hS, hzZ, hZ2, ((cls (E := ((mnW g u so xi (S.2.2.1 2) (S.2.2.1 11) (S.2.2.1 5) 0 rf af mf (S.1 10) (S.2.2.1 4) ks ke kt kv kf (S.1 3) s0 zs s2 D0 zE D2) ++ (plW g s0 p1 p2 p3 p4 p5 p6 (pL zi)))) (X := (rwW g u zr rl (nI (S.1 8 zr)) ri)) (T' := (tlW (va_up R4 zr []) A4 I4 np (va_up Pl zi []) Sr)) (T := (tlW (va_up R4 zr (rwW g u zr rl (nI (S.1 8 zr)) ri)) A4 I4 np (va_up Pl zi []) Sr)) (tl_row' (rwW g u zr rl (nI (S.1 8 zr)) ri) hzr)).trans (cls (E := (mnW g u so xi (S.2.2.1 2) (S.2.2.1 11) (S.2.2.1 5) 0 rf af mf (S.1 10) (S.2.2.1 4) ks ke kt kv kf (S.1 3) s0 zs s2 D0 zE D2)) (X := (plW g s0 p1 p2 p3 p4 p5 p6 (pL zi))) (T' := (tlW (va_up R4 zr (rwW g u zr rl (nI (S.1 8 zr)) ri)) A4 I4 np (va_up Pl zi []) Sr)) (T := (tlW (va_up R4 zr (rwW g u zr rl (nI (S.1 8 zr)) ri)) A4 I4 np Pl Sr)) (by rw [← hpe]; exact (tl_pl hzi).symm)))⟩
                  ·
                    refine j_aload_n 88 dX5_sticks_87 rfl 2 rfl ?_
                    refine j_getf 91 0 dX5_sticks_88 rfl fd_X5_65 rfl rfl ?_
                    refine j_aload_n 92 dX5_sticks_91 rfl 2 rfl ?_
                    refine j_getf 95 0 dX5_sticks_92 rfl fd_X5_61 rfl rfl ?_
                    refine j_callV0 (rest := []) 98 [11, 12, 13, 14, 7, 8, 9, 10] (c_X3_takeFrom g (u 14) zs (u 15) (u 16) (u 17) zE (u 10) s0 (u 11) (u 12) (u 13) D0 ) [] ([((u 0), .inr (5, [.ref (u 1), .ref (u 5), .ref (u 10), .ref (u 14), .ref (u 18), .ref (u 2), .int (nI xi), .int (nI (S.2.2.1 2)), .ref (u 3), va_rf so, .ref (u 4), .int (nI (S.2.2.1 11)), .int (nI (S.2.2.1 5)), .int (nI (S.2.2.1 6))])), ((u 1), .inl (g.2.1 3, 8, .inr (.inr (.inr (.inr rf))))), ((u 2), .inl (g.2.1 4, 24, .inr (.inr (.inr (.inr af))))), ((u 3), .inl (g.2.1 4, 2, .inr (.inr (.inr (.inr mf))))), ((u 4), .inl (g.2.1 0, 16, .inl (nF (S.1 10)))), ((u 5), .inr (4, [.ref (u 6), .int (nI (S.2.2.1 4)), .int (nI ks), .int (nI ke), .int (nI kt), .int (nI kv), .int (nI kf)])), ((u 6), .inl (g.2.1 1, 400, .inl (sgF (S.1 3)))), ((u 10), .inr (3, [.ref s0, .int (nI (D0 0 0)), .ref (u 11), .ref (u 12), .ref (u 13)])), ((u 11), .inl (g.2.1 0, 5, .inl (nF (D0 1)))), ((u 12), .inl (g.2.1 0, 6, .inl (nF (D0 2)))), ((u 13), .inl (g.2.1 0, 6, .inl (nF (D0 3)))), ((u 14), .inr (3, [.ref s0, .int (nI ((tkD zE D0) 0 0)), .ref (u 15), .ref (u 16), .ref (u 17)])), ((u 15), .inl (g.2.1 0, 5, .inl (nF ((tkD zE D0) 1)))), ((u 16), .inl (g.2.1 0, 6, .inl (nF ((tkD zE D0) 2)))), ((u 17), .inl (g.2.1 0, 6, .inl (nF ((tkD zE D0) 3)))), ((u 18), .inr (3, [.ref s2, .int (nI (D2 0 0)), .ref (u 19), .ref (u 20), .ref (u 21)])), ((u 19), .inl (g.2.1 0, 5, .inl (nF (D2 1)))), ((u 20), .inl (g.2.1 0, 6, .inl (nF (D2 2)))), ((u 21), .inl (g.2.1 0, 6, .inl (nF (D2 3)))), (s0, .inr (0, [.int (nI (pL zi 0 0)), .int (nI (pL zi 0 1)), .int (nI (pL zi 0 2)), .ref p1, .ref p2, .ref p3, .ref p4, .ref p5, .ref p6])), (p1, .inl (g.2.1 0, 5, .inl (nF (pL zi 1)))), (p2, .inl (g.2.1 0, 5, .inl (nF (pL zi 2)))), (p3, .inl (g.2.1 0, 5, .inl (nF (pL zi 3)))), (p4, .inl (g.2.1 0, 5, .inl (nF (pL zi 4)))), (p5, .inl (g.2.1 0, 8, .inl (nF (pL zi 5)))), (p6, .inl (g.2.1 0, 8, .inl (nF (pL zi 6)))), ((u (30 + 2 * zr)), .inr (1, [.ref (u (31 + 2 * zr)), .int rl, .int (nI (S.1 8 zr))])), ((u (31 + 2 * zr)), .inl (g.2.1 0, 40, .inl ri))] ++ (tlW (va_up R4 zr []) A4 I4 np (va_up Pl zi []) Sr)) dX5_sticks_95 rfl cv_X5_184 rfl rfl rfl rfl 0 rfl rfl (gLe rfl) (gLe rfl) (gLe rfl) (gLe rfl) (gLe rfl) rfl (List.append_nil _) ?_
                    have ht1 : tkD zE D0 1 = D0 1 := tkD_1 hzZ hZ0
                    have hv1 : tkD zE D0 0 0 = D0 0 0 := rfl
                    generalize tkD zE D0 = zT at ht1 hv1 ⊢
                    refine j_aload_n 99 dX5_sticks_98 rfl 2 rfl ?_
                    refine j_aload_n 100 dX5_sticks_99 rfl 2 rfl ?_
                    refine j_getf 103 0 dX5_sticks_100 rfl fd_X5_11 rfl rfl ?_
                    refine j_iload_n 104 dX5_sticks_103 rfl 3 rfl ?_
                    refine j_aaldR (b := (u (30 + 2 * zr))) 105 1 dX5_sticks_104 rfl rfl (vp_in_nI hzr (by decide)) (by rw [nI_clamp (by omega)]; exact hA.1 zr hzr) ?_
                    refine j_iload_n 106 dX5_sticks_105 rfl 4 rfl ?_
                    refine j_iload_n 107 dX5_sticks_106 rfl 5 rfl ?_
                    refine j_iload 109 dX5_sticks_107 rfl 0 rfl ?_
                    refine j_callVe (rest := []) 112 [0, 26, 27, 11, 12, 13, 14, 19, 20, 21, 22, 23, 24, 25] (c_X5_comeAsTold g (u 0) (u 1) (u 5) (u 10) (u 14) (u 18) (u 2) xi (S.2.2.1 2) (u 3) so (u 4) (S.2.2.1 11) (S.2.2.1 5) (S.2.2.1 6) (u (30 + 2 * zr)) (u (31 + 2 * zr)) rl (nI (S.1 8 zr)) ri s0 (u 15) (u 16) (u 17) zT p1 p2 p3 p4 p5 p6 (pL zi) zx zn (nI zh) zh hz hspz hpr hPl (if_pos (show zh < 5 by omega)).symm (by rw [hv1]; exact h3) (by rw [ht1]; exact hZ0) (by rw [ht1]; exact hu0)) dX5_sticks_109 rfl cv_X5_225 rfl rfl rfl rfl 0 rfl rfl (gLe rfl) (gLe rfl) (gLe rfl) (gLe rfl) (fun rv w1 hp => ?_)
                    obtain ⟨zD_1, hZD_1, rfl, rfl⟩ := hp
                    refine ⟨gLe rfl, ?_⟩
                    refine j_eq (lv2 := [(6, .int (nI zh)), (5, .int (nI (skA (skF (S.1 0) (S.2.1 9) (40 * zr + zx) zn) zh))), (0, .ref (u 0)), (1, .int (nI zr)), (2, .int (nI zx)), (3, .int (nI zn))]) (st2 := [.int (gB (cmA (plP (pL zi)) zh ri zx zn 0 (zT 0 0) (zT 1) = true))]) (ws2 := ([((u 0), .inr (5, [.ref (u 1), .ref (u 5), .ref (u 10), .ref (u 14), .ref (u 18), .ref (u 2), .int (nI xi), .int (nI (S.2.2.1 2)), .ref (u 3), va_rf so, .ref (u 4), .int (nI (S.2.2.1 11)), .int (nI (S.2.2.1 5)), .int (nI (S.2.2.1 6))])), ((u 1), .inl (g.2.1 3, 8, .inr (.inr (.inr (.inr rf))))), ((u 2), .inl (g.2.1 4, 24, .inr (.inr (.inr (.inr af))))), ((u 3), .inl (g.2.1 4, 2, .inr (.inr (.inr (.inr mf))))), ((u 4), .inl (g.2.1 0, 16, .inl (nF (S.1 10)))), ((u 5), .inr (4, [.ref (u 6), .int (nI (S.2.2.1 4)), .int (nI ks), .int (nI ke), .int (nI kt), .int (nI kv), .int (nI kf)])), ((u 6), .inl (g.2.1 1, 400, .inl (sgF (S.1 3)))), ((u 10), .inr (3, [.ref s0, .int (nI (D0 0 0)), .ref (u 11), .ref (u 12), .ref (u 13)])), ((u 11), .inl (g.2.1 0, 5, .inl (nF (D0 1)))), ((u 12), .inl (g.2.1 0, 6, .inl (nF (D0 2)))), ((u 13), .inl (g.2.1 0, 6, .inl (nF (D0 3)))), ((u 14), .inr (3, [.ref s0, .int (nI (zD_1 0 0)), .ref (u 15), .ref (u 16), .ref (u 17)])), ((u 15), .inl (g.2.1 0, 5, .inl (nF (zD_1 1)))), ((u 16), .inl (g.2.1 0, 6, .inl (nF (zD_1 2)))), ((u 17), .inl (g.2.1 0, 6, .inl (nF (zD_1 3)))), ((u 18), .inr (3, [.ref s2, .int (nI (D2 0 0)), .ref (u 19), .ref (u 20), .ref (u 21)])), ((u 19), .inl (g.2.1 0, 5, .inl (nF (D2 1)))), ((u 20), .inl (g.2.1 0, 6, .inl (nF (D2 2)))), ((u 21), .inl (g.2.1 0, 6, .inl (nF (D2 3)))), (s0, .inr (0, [.int (nI ((pL zi) 0 0)), .int (nI ((pL zi) 0 1)), .int (nI ((pL zi) 0 2)), .ref p1, .ref p2, .ref p3, .ref p4, .ref p5, .ref p6])), (p1, .inl (g.2.1 0, 5, .inl (nF ((pL zi) 1)))), (p2, .inl (g.2.1 0, 5, .inl (nF ((pL zi) 2)))), (p3, .inl (g.2.1 0, 5, .inl (nF ((pL zi) 3)))), (p4, .inl (g.2.1 0, 5, .inl (nF ((pL zi) 4)))), (p5, .inl (g.2.1 0, 8, .inl (nF ((pL zi) 5)))), (p6, .inl (g.2.1 0, 8, .inl (nF ((pL zi) 6)))), ((u (30 + 2 * zr)), .inr (1, [.ref (u (31 + 2 * zr)), .int rl, .int (nI (S.1 8 zr))])), ((u (31 + 2 * zr)), .inl (g.2.1 0, 40, .inl ri))] ++ (tlW (va_up R4 zr []) A4 I4 np (va_up Pl zi []) Sr))) rfl rfl (List.append_nil _) ?_
                    refine j_topI _ (gB (skF (S.1 0) (S.2.1 9) (40 * zr + zx) zn zh = true)) (gB_iff (by rw [hv1, ht1, cmA_L hpl hok.1 hsp hri h60 zn 0 _ _ (by omega), stOK_u hst, show D0 0 0 = S.1 0 40 from hst.1]; exact Iff.rfl)) ?_
                    refine j_if_eqB 115 124 dX5_sticks_112 rfl rfl (fun h112 => ?_) (fun h112 => ?_)
                    ·
                      refine j_iincN zh 1 127 [(6, .int (nI (zh + 1))), (5, .int (nI (skA (skF (S.1 0) (S.2.1 9) (40 * zr + zx) zn) zh))), (0, .ref (u 0)), (1, .int (nI zr)), (2, .int (nI zx)), (3, .int (nI zn))] dX5_sticks_124 rfl 0 rfl (by decide) rfl ?_
                      refine j_goto 72 dX5_sticks_127 rfl ?_
                      refine j_lv [0, 1, 2, 3, 4, 5] rfl ?_
                      refine j_lvs [(6, .int (nI (zh + 1))), (5, .int (nI (skA (skF (S.1 0) (S.2.1 9) (40 * zr + zx) zn) (zh + 1)))), (0, .ref (u 0)), (1, .int (nI zr)), (2, .int (nI zx)), (3, .int (nI zn))] (by rw [skA, if_neg h112, Nat.or_zero]; rfl) ?_
                      exact zih72 (zh + 1) zD_1 s0 (by have e := hpl.2.1; omega) (by omega) hZD_1
                    ·
                      refine j_iload 117 dX5_sticks_115 rfl 1 rfl ?_
                      refine j_iconst (v := (1 : Int32)) 118 dX5_sticks_117 rfl (by decide) ?_
                      refine j_iload 120 dX5_sticks_118 rfl 0 rfl ?_
                      refine j_ishlN 1 zh 121 dX5_sticks_120 rfl (by omega) (by have := Nat.pow_lt_pow_right (a := 2) (by decide) (show zh < 5 by omega); omega) ?_
                      refine j_iorN (skA (skF (S.1 0) (S.2.1 9) (40 * zr + zx) zn) zh) (1 * 2 ^ zh) 122 dX5_sticks_121 rfl ?_
                      refine j_istore 124 [(5, .int (nI ((skA (skF (S.1 0) (S.2.1 9) (40 * zr + zx) zn) zh) ||| (1 * 2 ^ zh)))), (6, .int (nI zh)), (0, .ref (u 0)), (1, .int (nI zr)), (2, .int (nI zx)), (3, .int (nI zn))] dX5_sticks_122 rfl (by decide) rfl ?_
                      refine j_iincN zh 1 127 [(6, .int (nI (zh + 1))), (5, .int (nI ((skA (skF (S.1 0) (S.2.1 9) (40 * zr + zx) zn) zh) ||| (1 * 2 ^ zh)))), (0, .ref (u 0)), (1, .int (nI zr)), (2, .int (nI zx)), (3, .int (nI zn))] dX5_sticks_124 rfl 1 rfl (by decide) rfl ?_
                      refine j_goto 72 dX5_sticks_127 rfl ?_
                      refine j_lv [0, 1, 2, 3, 4, 5] rfl ?_
                      refine j_lvs [(6, .int (nI (zh + 1))), (5, .int (nI (skA (skF (S.1 0) (S.2.1 9) (40 * zr + zx) zn) (zh + 1)))), (0, .ref (u 0)), (1, .int (nI zr)), (2, .int (nI zx)), (3, .int (nI zn))] (by rw [skA, if_pos h112]; rfl) ?_
                      exact zih72 (zh + 1) zD_1 s0 (by have e := hpl.2.1; omega) (by omega) hZD_1
              refine j_lv [0, 1, 3, 4, 5, 6] rfl ?_
              exact hL72 _ 0 D1 s1 (Nat.lt_succ_self _) (Nat.zero_le _) hZ1
            ·
              refine j_ldc (v := (-1000001 : Int32)) 65 dX5_sticks_63 rfl wd_1_212 ?_
              have hrp := rp_b hzr hzn9 hzx hfz h60
              have ze : (pM_sticks (nI zr) (nI zx) (nI zn) S) = ((-1000001 : Int32), S) := by
                rw [pM_sticks, if_neg h4, if_neg hnb, if_pos (by rw [hrp.1]; decide), hrp.1, hrp.2]
              refine j_iretI dX5_sticks_65 rfl ⟨gLe rfl, gLe rfl, ?_⟩
              rw [ze]
              exact ⟨rfl, so, xi, (S.2.2.1 2), (S.2.2.1 11), (S.2.2.1 5), (S.2.2.1 6), rf, af, mf, (S.1 10), (S.2.2.1 4), ks, ke, kt, kv, kf, (S.1 3), s0, s1, s2, D0, D1, D2, (va_up R4 zr (rwW g u zr rl (nI (S.1 8 zr)) ri)), A4, I4, np, Pl, pL, Sr, hA, ⟨rfl, rfl, rfl, rfl, rfl, rfl, rfl⟩, (rows_same hre (fun r hr => rowR_ext rfl rfl (fun _ _ => rfl) (hR r hr))), hW0, hAc, hM, hS, hZ1, hZ2, ((cls (E := ((mnW g u so xi (S.2.2.1 2) (S.2.2.1 11) (S.2.2.1 5) (S.2.2.1 6) rf af mf (S.1 10) (S.2.2.1 4) ks ke kt kv kf (S.1 3) s0 s1 s2 D0 D1 D2) ++ (plW g s0 p1 p2 p3 p4 p5 p6 (pL zi)))) (X := (rwW g u zr rl (nI (S.1 8 zr)) ri)) (T' := (tlW (va_up R4 zr []) A4 I4 np (va_up Pl zi []) Sr)) (T := (tlW (va_up R4 zr (rwW g u zr rl (nI (S.1 8 zr)) ri)) A4 I4 np (va_up Pl zi []) Sr)) (tl_row' (rwW g u zr rl (nI (S.1 8 zr)) ri) hzr)).trans (cls (E := (mnW g u so xi (S.2.2.1 2) (S.2.2.1 11) (S.2.2.1 5) (S.2.2.1 6) rf af mf (S.1 10) (S.2.2.1 4) ks ke kt kv kf (S.1 3) s0 s1 s2 D0 D1 D2)) (X := (plW g s0 p1 p2 p3 p4 p5 p6 (pL zi))) (T' := (tlW (va_up R4 zr (rwW g u zr rl (nI (S.1 8 zr)) ri)) A4 I4 np (va_up Pl zi []) Sr)) (T := (tlW (va_up R4 zr (rwW g u zr rl (nI (S.1 8 zr)) ri)) A4 I4 np Pl Sr)) (by rw [← hpe]; exact (tl_pl hzi).symm)))⟩
          ·
            refine j_aload_n 47 dX5_sticks_46 rfl 1 rfl ?_
            refine j_iload 49 dX5_sticks_47 rfl 0 rfl ?_
            refine j_callV0 (rest := []) 52 [0] (c_X5_found g (u 0) (u 1) (u 5) (u 10) (u 14) (u 18) (u 2) xi (S.2.2.1 2) (u 3) so (u 4) (S.2.2.1 11) (S.2.2.1 5) (S.2.2.1 6) (fdK rz i (nI (2 * zn))) ) [.int ((-1000010 : Int32) - nI (fdK rz i (nI (2 * zn))))] ([((u 0), .inr (5, [.ref (u 1), .ref (u 5), .ref (u 10), .ref (u 14), .ref (u 18), .ref (u 2), .int (nI xi), .int (nI (S.2.2.1 2)), .ref (u 3), va_rf so, .ref (u 4), .int (nI (S.2.2.1 11)), .int (nI (S.2.2.1 5)), .int (nI (fdK rz i (nI (2 * zn))))])), ((u 1), .inl (g.2.1 3, 8, .inr (.inr (.inr (.inr rf))))), ((u 2), .inl (g.2.1 4, 24, .inr (.inr (.inr (.inr af))))), ((u 3), .inl (g.2.1 4, 2, .inr (.inr (.inr (.inr mf))))), ((u 4), .inl (g.2.1 0, 16, .inl (nF (S.1 10)))), ((u 5), .inr (4, [.ref (u 6), .int (nI (S.2.2.1 4)), .int (nI ks), .int (nI ke), .int (nI kt), .int (nI kv), .int (nI kf)])), ((u 6), .inl (g.2.1 1, 400, .inl (sgF (S.1 3)))), ((u 10), .inr (3, [.ref s0, .int (nI (D0 0 0)), .ref (u 11), .ref (u 12), .ref (u 13)])), ((u 11), .inl (g.2.1 0, 5, .inl (nF (D0 1)))), ((u 12), .inl (g.2.1 0, 6, .inl (nF (D0 2)))), ((u 13), .inl (g.2.1 0, 6, .inl (nF (D0 3)))), ((u 14), .inr (3, [.ref s1, .int (nI (D1 0 0)), .ref (u 15), .ref (u 16), .ref (u 17)])), ((u 15), .inl (g.2.1 0, 5, .inl (nF (D1 1)))), ((u 16), .inl (g.2.1 0, 6, .inl (nF (D1 2)))), ((u 17), .inl (g.2.1 0, 6, .inl (nF (D1 3)))), ((u 18), .inr (3, [.ref s2, .int (nI (D2 0 0)), .ref (u 19), .ref (u 20), .ref (u 21)])), ((u 19), .inl (g.2.1 0, 5, .inl (nF (D2 1)))), ((u 20), .inl (g.2.1 0, 6, .inl (nF (D2 2)))), ((u 21), .inl (g.2.1 0, 6, .inl (nF (D2 3)))), (s0, .inr (0, [.int (nI (pL zi 0 0)), .int (nI (pL zi 0 1)), .int (nI (pL zi 0 2)), .ref p1, .ref p2, .ref p3, .ref p4, .ref p5, .ref p6])), (p1, .inl (g.2.1 0, 5, .inl (nF (pL zi 1)))), (p2, .inl (g.2.1 0, 5, .inl (nF (pL zi 2)))), (p3, .inl (g.2.1 0, 5, .inl (nF (pL zi 3)))), (p4, .inl (g.2.1 0, 5, .inl (nF (pL zi 4)))), (p5, .inl (g.2.1 0, 8, .inl (nF (pL zi 5)))), (p6, .inl (g.2.1 0, 8, .inl (nF (pL zi 6)))), ((u (30 + 2 * zr)), .inr (1, [.ref (u (31 + 2 * zr)), .int rl, .int rz])), ((u (31 + 2 * zr)), .inl (g.2.1 0, 40, .inl ri))] ++ (tlW (va_up R4 zr []) A4 I4 np (va_up Pl zi []) Sr)) dX5_sticks_49 rfl cv_X5_77 rfl rfl rfl rfl 0 rfl rfl (gLe rfl) (gLe rfl) (gLe rfl) (gLe rfl) (gLe rfl) rfl (List.append_nil _) ?_
            have hrp := rp_f (S := S) (i := i) hzr hzn9 (by rw [← hfd]; exact h43)
            rw [← hfd] at hrp
            have ze : (pM_sticks (nI zr) i (nI zn) S) = (((-1000010 : Int32) - nI (fdK rz i (nI (2 * zn)))), stN S (fdK rz i (nI (2 * zn)))) := by
              rw [pM_sticks, if_neg h4, if_neg hnb, if_pos hrp.2.1, hrp.1, hrp.2.2]
            refine j_iretI dX5_sticks_52 rfl ⟨gLe rfl, gLe rfl, ?_⟩
            rw [ze]
            exact ⟨rfl, so, xi, (S.2.2.1 2), (S.2.2.1 11), (S.2.2.1 5), (fdK rz i (nI (2 * zn))), rf, af, mf, (S.1 10), (S.2.2.1 4), ks, ke, kt, kv, kf, (S.1 3), s0, s1, s2, D0, D1, D2, (va_up R4 zr (rwW g u zr rl rz ri)), A4, I4, np, Pl, pL, Sr, hA, ⟨rfl, rfl, rfl, rfl, rfl, rfl, rfl⟩, (rows_same hre (fun r hr => rowR_ext rfl rfl (fun _ _ => rfl) (hR r hr))), hW0, hAc, hM, hS, hZ1, hZ2, ((cls (E := ((mnW g u so xi (S.2.2.1 2) (S.2.2.1 11) (S.2.2.1 5) (fdK rz i (nI (2 * zn))) rf af mf (S.1 10) (S.2.2.1 4) ks ke kt kv kf (S.1 3) s0 s1 s2 D0 D1 D2) ++ (plW g s0 p1 p2 p3 p4 p5 p6 (pL zi)))) (X := (rwW g u zr rl rz ri)) (T' := (tlW (va_up R4 zr []) A4 I4 np (va_up Pl zi []) Sr)) (T := (tlW (va_up R4 zr (rwW g u zr rl rz ri)) A4 I4 np (va_up Pl zi []) Sr)) (tl_row' (rwW g u zr rl rz ri) hzr)).trans (cls (E := (mnW g u so xi (S.2.2.1 2) (S.2.2.1 11) (S.2.2.1 5) (fdK rz i (nI (2 * zn))) rf af mf (S.1 10) (S.2.2.1 4) ks ke kt kv kf (S.1 3) s0 s1 s2 D0 D1 D2)) (X := (plW g s0 p1 p2 p3 p4 p5 p6 (pL zi))) (T' := (tlW (va_up R4 zr (rwW g u zr rl rz ri)) A4 I4 np (va_up Pl zi []) Sr)) (T := (tlW (va_up R4 zr (rwW g u zr rl rz ri)) A4 I4 np Pl Sr)) (by rw [← hpe]; exact (tl_pl hzi).symm)))⟩
        ·
          refine j_ldc (v := (-1000001 : Int32)) 29 dX5_sticks_27 rfl wd_1_212 ?_
          have ze : (pM_sticks r i n S) = ((-1000001 : Int32), S) := by
            rw [pM_sticks, if_neg h4, if_pos (by first | exact Or.inl h14 | exact Or.inr (fun y => ((n_iff2 (show (12 : Int32).toInt = ((13 : Nat) : Int) - 1 by decide)).mpr y).1 h18) | exact Or.inr (fun y => h24 ((n_iff2 (show (12 : Int32).toInt = ((13 : Nat) : Int) - 1 by decide)).mpr y).2))]
          refine j_iretI dX5_sticks_29 rfl ⟨gLe rfl, gLe rfl, ?_⟩
          rw [ze]
          exact ⟨rfl, so, xi, (S.2.2.1 2), (S.2.2.1 11), (S.2.2.1 5), (S.2.2.1 6), rf, af, mf, (S.1 10), (S.2.2.1 4), ks, ke, kt, kv, kf, (S.1 3), s0, s1, s2, D0, D1, D2, R4, A4, I4, np, Pl, pL, Sr, hA, ⟨rfl, rfl, rfl, rfl, rfl, rfl, rfl⟩, hR, hW0, hAc, hM, hS, hZ1, hZ2, (cls (E := (mnW g u so xi (S.2.2.1 2) (S.2.2.1 11) (S.2.2.1 5) (S.2.2.1 6) rf af mf (S.1 10) (S.2.2.1 4) ks ke kt kv kf (S.1 3) s0 s1 s2 D0 D1 D2)) (X := (plW g s0 p1 p2 p3 p4 p5 p6 (pL zi))) (T' := (tlW R4 A4 I4 np (va_up Pl zi []) Sr)) (T := (tlW R4 A4 I4 np Pl Sr)) (by rw [← hpe]; exact (tl_pl hzi).symm))⟩
  ·
    refine j_ldc (v := (-1000002 : Int32)) 9 dX5_sticks_7 rfl wd_3_20 ?_
    have ze : (pM_sticks r i n S) = ((-1000002 : Int32), S) := by
      exact if_pos h4
    refine j_iretI dX5_sticks_9 rfl ⟨gLe rfl, gLe rfl, ?_⟩
    rw [ze]
    exact ⟨rfl, so, xi, (S.2.2.1 2), (S.2.2.1 11), (S.2.2.1 5), (S.2.2.1 6), rf, af, mf, (S.1 10), (S.2.2.1 4), ks, ke, kt, kv, kf, (S.1 3), s0, s1, s2, D0, D1, D2, R4, A4, I4, np, Pl, pL, Sr, hA, ⟨rfl, rfl, rfl, rfl, rfl, rfl, rfl⟩, hR, hW0, hAc, hM, hS, hZ1, hZ2, (cls (E := (mnW g u so xi (S.2.2.1 2) (S.2.2.1 11) (S.2.2.1 5) (S.2.2.1 6) rf af mf (S.1 10) (S.2.2.1 4) ks ke kt kv kf (S.1 3) s0 s1 s2 D0 D1 D2)) (X := (plW g s0 p1 p2 p3 p4 p5 p6 (pL zi))) (T' := (tlW R4 A4 I4 np (va_up Pl zi []) Sr)) (T := (tlW R4 A4 I4 np Pl Sr)) (by rw [← hpe]; exact (tl_pl hzi).symm))⟩
