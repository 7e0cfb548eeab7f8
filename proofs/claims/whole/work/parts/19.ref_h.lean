theorem rng_of {x : Int32} {a b : Int32} {m n : Nat} (ha : a.toInt = m) (hb : b.toInt = n) (h : a ≤ x ∧ x ≤ b) : ∃ k : Nat, (m ≤ k ∧ k ≤ n) ∧ x = nI k := by
  have h1 := Int32.le_iff_toInt_le.mp h.1
  have h2 := Int32.le_iff_toInt_le.mp h.2
  rw [ha] at h1
  rw [hb] at h2
  refine ⟨x.toInt.toNat, by omega, ?_⟩
  apply Int32.toInt_inj.mp
  rw [nI_toInt]
  · omega
  · have := Int32.toInt_lt x
    omega
theorem inR_cl {x : Int32} {n : Nat} (h : inR x n) (hn : n < 2147483648) : x = nI (cl x) ∧ cl x < n := by
  obtain ⟨a, ha, rfl⟩ := inR_of h
  rw [cl_nI (by omega)]
  exact ⟨rfl, ha⟩
theorem rfK_le {ln : Int32} {s : Nat} {i n : Int32} : rfK ln s i n ≤ 2 := by
  unfold rfK
  split
  · decide
  · split <;> decide
theorem fndA_0 {k : Nat} (hk : k ≤ 2) : fndA k = 0 ↔ k = 0 := by
  match k, hk with
  | 0, _ => decide
  | 1, _ => decide
  | 2, _ => decide
theorem rfK_0 {ln : Int32} {s : Nat} {i n : Int32} (h : rfK ln s i n = 0) : ln ≠ -1000000 ∧ spn s i n := by
  unfold rfK at h
  split at h
  · exact absurd h (by decide)
  · rename_i c
    split at h
    · rename_i c2; exact ⟨c, c2⟩
    · exact absurd h (by decide)
theorem spn_of {s n : Nat} {i : Int32} (hn : n < 2147483648) (h : spn s i (nI n)) : ∃ a : Nat, a + n ≤ s ∧ i = nI a := by
  obtain ⟨h1, h2, h3⟩ := h
  rw [nI_toInt hn] at h3
  refine ⟨i.toInt.toNat, by omega, ?_⟩
  apply Int32.toInt_inj.mp
  rw [nI_toInt]
  · omega
  · have := Int32.toInt_lt i
    omega
theorem inP_run {R : Nat → Nat} {b : Nat} (hp : (goR R 99 b).1 < 6) : inP (runR R b) = inP R + 1 := by
  have c0 : runR R b 46 = _ := runR_ct (p := 0) (by decide)
  have c1 : runR R b 47 = _ := runR_ct (p := 1) (by decide)
  have c2 : runR R b 48 = _ := runR_ct (p := 2) (by decide)
  have c3 : runR R b 49 = _ := runR_ct (p := 3) (by decide)
  have c4 : runR R b 50 = _ := runR_ct (p := 4) (by decide)
  have c5 : runR R b 51 = _ := runR_ct (p := 5) (by decide)
  show 0 + runR R b 46 + runR R b 47 + runR R b 48 + runR R b 49 + runR R b 50 + runR R b 51 = 0 + R 46 + R 47 + R 48 + R 49 + R 50 + R 51 + 1
  rw [c0, c1, c2, c3, c4, c5]
  generalize (goR R 99 b).1 = z at hp
  match z, hp with
  | 0, _ => simp; omega
  | 1, _ => simp; omega
  | 2, _ => simp; omega
  | 3, _ => simp; omega
  | 4, _ => simp; omega
  | 5, _ => simp; omega
theorem RI_uM {S : RS} (h : RI S) : ∀ k, uM (S.1 0) 0 k ≤ 1000000000 := by
  intro k
  by_cases hk : k < 5
  · rw [uM_at hk, show 0 + 41 + k = 41 + k by omega]
    have := (RI_40 h).2.1 k hk
    omega
  · rw [Z5_uM _ _ k (by omega)]
    exact Nat.zero_le _
theorem RI_go {S : RS} (h : RI S) {b : Nat} (hb : b < S.1 0 3) : okP (S.1 0) ∧ (goR (S.1 0) 99 b).1 < 6 := by
  obtain ⟨h0, hP, hM⟩ := RI_P h (Or.inr (Or.inl (by omega)))
  have h1 := (goR_1 hP hM.1 99 b).1
  have h2 := hP.1
  exact ⟨hP, by omega⟩
def thrS (f : Nat → Int32) : Nat → Nat
  | 0 => 0
  | n + 1 => thrS f n + thr (f n)
theorem thrS_le (f : Nat → Int32) : ∀ n, thrS f n ≤ n
  | 0 => Nat.le_refl 0
  | n + 1 => by
    have h1 := thrS_le f n
    have h2 : thr (f n) ≤ 1 := by unfold thr; split <;> decide
    show thrS f n + thr (f n) ≤ n + 1
    omega
set_option maxRecDepth 20000 in
theorem c_X6_runOne (g : gG) (q : Nat → Nat) (Na : Nat → Nat → Nat) (Ia : Nat → Nat → Int32) (Ns : Nat → Nat) (Is : Nat → Int32) (b : Nat)  (hs : Is 12 = skI 99) (hP : okP (Na 0)) (hS : Na 0 40 < 32) (hU : ∀ k, uM (Na 0) 0 k ≤ 1000000000) (hB : b < Na 0 3) (hp : Ns 2 ≤ 24) (hg6 : (goR (Na 0) 99 b).1 < 6) : gCon g mX6_runOne 4 0 0 [.ref (q 26), .int (nI b)] (wM g q Na Ia Ns Is) (fun rv ws' => rv = some (.int (nI ((goR (Na 0) 99 b).1))) ∧ ws' = (wM g q (va_up (va_up Na 0 (runR (Na 0) b)) 1 (kpP (Na 1) (Na 0) (Ns 2))) Ia (va_up Ns 2 (kpN (Ns 2))) Is)) := by
  refine gCon.of (lv := [(0, .ref (q 26)), (1, .int (nI b))]) (by decide) (gLe rfl) rfl ?_
  have hb8 := hP.2.2.2.1
  refine j_aload_n 1 dX6_runOne_0 rfl 0 rfl ?_
  refine j_callVW (rest := []) 4 (c_X6_keepPast g q Na Ia Ns Is   hp) [] dX6_runOne_1 rfl cv_X6_184 rfl rfl 0 rfl rfl (gLe rfl) (gLe rfl) (gLe rfl) (gLe rfl) (wM_len _ _ _ _ _ _ _ _ _ _) rfl ?_
  refine j_aload_n 5 dX6_runOne_4 rfl 0 rfl ?_
  refine j_iconst (v := (0 : Int32)) 6 dX6_runOne_5 rfl (by decide) ?_
  refine j_iload_n 7 dX6_runOne_6 rfl 1 rfl ?_
  refine j_callVW (rest := []) 10 (c_X6_go g q (va_up Na 1 (kpP (Na 1) (Na 0) (Ns 2))) Ia (va_up Ns 2 (kpN (Ns 2))) Is 0 b 99 hs hP (Or.inl rfl) hS hU hB) [.int (nI ((goA (Na 0) 99 ((Na 0) (24 + 2 * b)) 5 ((Na 0) 2 - 1) ((Na 0) (0 + 40)) (uM (Na 0) 0)).1))] dX6_runOne_7 rfl cv_X6_187 rfl rfl 0 rfl rfl (gLe rfl) (gLe rfl) (gLe rfl) (gLe rfl) (wM_len _ _ _ _ _ _ _ _ _ _) rfl ?_
  refine j_topN ((goA (Na 0) 99 ((Na 0) (24 + 2 * b)) 5 ((Na 0) 2 - 1) ((Na 0) (0 + 40)) (uM (Na 0) 0)).1) ((goR (Na 0) 99 b).1) rfl ?_
  refine j_ws (wM g q (va_up (va_up Na 0 (putM (Na 0) 0 (goR (Na 0) 99 b).2.1 (goR (Na 0) 99 b).2.2)) 1 (kpP (Na 1) (Na 0) (Ns 2))) Ia (va_up Ns 2 (kpN (Ns 2))) Is) rfl ?_
  refine j_istore_n 11 [(2, .int (nI ((goR (Na 0) 99 b).1))), (0, .ref (q 26)), (1, .int (nI b))] dX6_runOne_10 rfl (by decide) rfl ?_
  refine j_aload_n 12 dX6_runOne_11 rfl 1 rfl ?_
  refine j_getf 15 0 dX6_runOne_12 rfl fd_X6_7 rfl rfl ?_
  refine j_bipush (v := (46 : Int32)) 17 dX6_runOne_15 rfl (by decide) ?_
  refine j_iload_n 18 dX6_runOne_17 rfl 0 rfl ?_
  refine j_iaddN 46 ((goR (Na 0) 99 b).1) 19 dX6_runOne_18 rfl ?_
  refine j_dup2 20 dX6_runOne_19 rfl rfl rfl ?_
  refine j_ialdN (46 + ((goR (Na 0) 99 b).1)) 21 1 dX6_runOne_20 rfl rfl (by have z0 := hg6; omega) (by decide) ?_
  refine j_topN ((putM (Na 0) 0 (goR (Na 0) 99 b).2.1 (goR (Na 0) 99 b).2.2) (46 + ((goR (Na 0) 99 b).1))) (Na 0 (46 + (goR (Na 0) 99 b).1)) (putM_hi (by omega)) ?_
  refine j_iconst (v := (1 : Int32)) 22 dX6_runOne_21 rfl (by decide) ?_
  refine j_iaddN (Na 0 (46 + (goR (Na 0) 99 b).1)) 1 23 dX6_runOne_22 rfl ?_
  refine j_iastN ((Na 0 (46 + (goR (Na 0) 99 b).1)) + 1) (46 + ((goR (Na 0) 99 b).1)) 24 1 (wM g q (va_up (va_up Na 0 (va_up (putM (Na 0) 0 (goR (Na 0) 99 b).2.1 (goR (Na 0) 99 b).2.2) (46 + ((goR (Na 0) 99 b).1)) ((Na 0 (46 + (goR (Na 0) 99 b).1)) + 1))) 1 (kpP (Na 1) (Na 0) (Ns 2))) Ia (va_up Ns 2 (kpN (Ns 2))) Is) dX6_runOne_23 rfl rfl (by have z0 := hg6; omega) (by decide) rfl ?_
  refine j_aload_n 25 dX6_runOne_24 rfl 1 rfl ?_
  refine j_getf 28 0 dX6_runOne_25 rfl fd_X6_7 rfl rfl ?_
  refine j_bipush (v := (52 : Int32)) 30 dX6_runOne_28 rfl (by decide) ?_
  refine j_iload_n 31 dX6_runOne_30 rfl 0 rfl ?_
  refine j_iaddN 52 ((goR (Na 0) 99 b).1) 32 dX6_runOne_31 rfl ?_
  refine j_dup2 33 dX6_runOne_32 rfl rfl rfl ?_
  refine j_ialdN (52 + ((goR (Na 0) 99 b).1)) 34 1 dX6_runOne_33 rfl rfl (by have z0 := hg6; omega) (by decide) ?_
  refine j_topN ((va_up (putM (Na 0) 0 (goR (Na 0) 99 b).2.1 (goR (Na 0) 99 b).2.2) (46 + ((goR (Na 0) 99 b).1)) ((Na 0 (46 + (goR (Na 0) 99 b).1)) + 1)) (52 + ((goR (Na 0) 99 b).1))) (Na 0 (52 + (goR (Na 0) 99 b).1)) (by rw [va_up_n (by omega), putM_hi (by omega)]) ?_
  refine j_aload_n 35 dX6_runOne_34 rfl 1 rfl ?_
  refine j_getf 38 0 dX6_runOne_35 rfl fd_X6_7 rfl rfl ?_
  refine j_bipush (v := (24 : Int32)) 40 dX6_runOne_38 rfl (by decide) ?_
  refine j_iconst (v := (2 : Int32)) 41 dX6_runOne_40 rfl (by decide) ?_
  refine j_iload_n 42 dX6_runOne_41 rfl 2 rfl ?_
  refine j_imulN 2 b 43 dX6_runOne_42 rfl ?_
  refine j_iaddN 24 (2 * b) 44 dX6_runOne_43 rfl ?_
  refine j_iconst (v := (1 : Int32)) 45 dX6_runOne_44 rfl (by decide) ?_
  refine j_iaddN (24 + (2 * b)) 1 46 dX6_runOne_45 rfl ?_
  refine j_ialdN ((24 + (2 * b)) + 1) 47 1 dX6_runOne_46 rfl rfl (by omega) (by decide) ?_
  refine j_topN ((va_up (putM (Na 0) 0 (goR (Na 0) 99 b).2.1 (goR (Na 0) 99 b).2.2) (46 + ((goR (Na 0) 99 b).1)) ((Na 0 (46 + (goR (Na 0) 99 b).1)) + 1)) ((24 + (2 * b)) + 1)) (Na 0 (24 + 2 * b + 1)) (by rw [va_up_n (by omega), putM_lo (by omega)]) ?_
  refine j_iaddN (Na 0 (52 + (goR (Na 0) 99 b).1)) (Na 0 (24 + 2 * b + 1)) 48 dX6_runOne_47 rfl ?_
  refine j_iastN ((Na 0 (52 + (goR (Na 0) 99 b).1)) + (Na 0 (24 + 2 * b + 1))) (52 + ((goR (Na 0) 99 b).1)) 49 1 (wM g q (va_up (va_up Na 0 (va_up (va_up (putM (Na 0) 0 (goR (Na 0) 99 b).2.1 (goR (Na 0) 99 b).2.2) (46 + ((goR (Na 0) 99 b).1)) ((Na 0 (46 + (goR (Na 0) 99 b).1)) + 1)) (52 + ((goR (Na 0) 99 b).1)) ((Na 0 (52 + (goR (Na 0) 99 b).1)) + (Na 0 (24 + 2 * b + 1))))) 1 (kpP (Na 1) (Na 0) (Ns 2))) Ia (va_up Ns 2 (kpN (Ns 2))) Is) dX6_runOne_48 rfl rfl (by have z0 := hg6; omega) (by decide) rfl ?_
  refine j_iload_n 50 dX6_runOne_49 rfl 0 rfl ?_
  refine j_iretI dX6_runOne_50 rfl ⟨gLe rfl, gLe rfl, ?_⟩
  exact ⟨rfl, rfl⟩
set_option maxRecDepth 20000 in
theorem c_X6_run (g : gG) (q : Nat → Nat) (Na : Nat → Nat → Nat) (Ia : Nat → Nat → Int32) (Ns : Nat → Nat) (Is : Nat → Int32) (b : Int32) (hI : RI (Na, Ia, Ns, Is)) : gCon g mX6_run 5 0 0 [.ref (q 26), .int b] (wS g q (Na, Ia, Ns, Is)) (fun rv ws' => rv = some (.int (pM_run b (Na, Ia, Ns, Is)).1) ∧ ws' = wS g q (pM_run b (Na, Ia, Ns, Is)).2) := by
  refine gCon.of (lv := [(0, .ref (q 26)), (1, .int b)]) (by decide) (gLe rfl) rfl ?_
  refine j_ws (wM g q Na Ia Ns Is) rfl ?_
  have h8 : Na 0 1 ≤ 6 ∧ Na 0 2 ≤ 5 ∧ Na 0 3 ≤ 8 ∧ Na 0 0 ≤ 1 := RI_3 hI
  have h40 : Na 0 40 < 32 ∧ (∀ j, j < 5 → Na 0 (41 + j) ≤ 9999) ∧ (∀ p, p < 6 → Na 0 (46 + p) ≤ 9999 ∧ Na 0 (52 + p) ≤ 989901) ∧ inP (Na 0) ≤ 9999 := RI_40 hI
  have hpm : Ns 2 ≤ 24 := hI.2.1
  have hsz : ∀ r, r < 8 → Na 8 r ≤ 40 := hI.2.2.2.2.2.2.2.1
  have htr : Ns 11 ≤ 16 := hI.2.2.2.2.2.2.2.2.1
  have hst : Is 12 = -1000000 := hI.2.2.2.2.2.2.2.2.2.1
  have htp : Ns 4 ≤ 400 := hI.2.2.2.2.1
  refine j_aload_n 1 dX6_run_0 rfl 0 rfl ?_
  refine j_iload_n 2 dX6_run_1 rfl 1 rfl ?_
  refine j_callVW (rest := []) 5 (c_X6_isBeast g q Na Ia Ns Is b  (by omega)) [.int (gB (inR b ((Na 0) 3)))] dX6_run_2 rfl cv_X6_190 rfl rfl 0 rfl rfl (gLe rfl) (gLe rfl) (gLe rfl) (gLe rfl) (wM_len _ _ _ _ _ _ _ _ _ _) rfl ?_
  refine j_if_neB 8 13 dX6_run_5 rfl rfl (fun h5 => ?_) (fun h5 => ?_)
  ·
    obtain ⟨zb, hzb, rfl⟩ := inR_of h5
    have hgo : okP (Na 0) ∧ (goR (Na 0) 99 zb).1 < 6 := RI_go hI (by exact hzb)
    have hum : ∀ k, uM (Na 0) 0 k ≤ 1000000000 := RI_uM hI
    refine j_aload_n 14 dX6_run_13 rfl 0 rfl ?_
    refine j_callVW (rest := []) 17 (c_X6_inPens g q Na Ia Ns Is   ) [.int (nI (inP (Na 0)))] dX6_run_14 rfl cv_X6_193 rfl rfl 0 rfl rfl (gLe rfl) (gLe rfl) (gLe rfl) (gLe rfl) (wM_len _ _ _ _ _ _ _ _ _ _) rfl ?_
    refine j_sipush (v := (9999 : Int32)) 20 dX6_run_17 rfl (by decide) ?_
    refine j_icmp_neN (inP (Na 0)) 9999 23 28 dX6_run_20 rfl rfl (by have z0 := h40.2.2.2; omega) (by decide) (fun h20 => ?_) (fun h20 => ?_)
    ·
      refine j_aload_n 29 dX6_run_28 rfl 0 rfl ?_
      refine j_iload_n 30 dX6_run_29 rfl 1 rfl ?_
      refine j_callVW (rest := []) 33 (c_X6_runOne g q Na Ia Ns Is zb  hst hgo.1 h40.1 hum hzb hpm hgo.2) [.int (nI ((goR (Na 0) 99 zb).1))] dX6_run_30 rfl cv_X6_196 rfl rfl 0 rfl rfl (gLe rfl) (gLe rfl) (gLe rfl) (gLe rfl) (wM_len _ _ _ _ _ _ _ _ _ _) rfl ?_
      refine j_iretI dX6_run_33 rfl ⟨gLe rfl, gLe rfl, ?_⟩
      have ze : (pM_run (nI zb) (Na, Ia, Ns, Is)) = ((nI ((goR (Na 0) 99 zb).1)), ((va_up (va_up Na 0 (runR (Na 0) zb)) 1 (kpP (Na 1) (Na 0) (Ns 2))), Ia, (va_up Ns 2 (kpN (Ns 2))), Is)) := by
        rw [pM_run, if_neg (fun z => z h5), if_neg h20, cl_nI (by omega)]
        rfl
      exact ⟨congrArg (fun z : Int32 × RS => some (Value.int z.1)) ze.symm, congrArg (fun z : Int32 × RS => wS g q z.2) ze.symm⟩
    ·
      refine j_ldc (v := (-1000003 : Int32)) 25 dX6_run_23 rfl wd_4_171 ?_
      refine j_goto 33 dX6_run_25 rfl ?_
      refine j_iretI dX6_run_33 rfl ⟨gLe rfl, gLe rfl, ?_⟩
      have ze : (pM_run (nI zb) (Na, Ia, Ns, Is)) = ((-1000003 : Int32), (Na, Ia, Ns, Is)) := by
        rw [pM_run, if_neg (fun z => z h5), if_pos h20]
      exact ⟨congrArg (fun z : Int32 × RS => some (Value.int z.1)) ze.symm, congrArg (fun z : Int32 × RS => wS g q z.2) ze.symm⟩
  ·
    refine j_ldc (v := (-1000001 : Int32)) 10 dX6_run_8 rfl wd_4_140 ?_
    refine j_goto 33 dX6_run_10 rfl ?_
    refine j_iretI dX6_run_33 rfl ⟨gLe rfl, gLe rfl, ?_⟩
    have ze : (pM_run b (Na, Ia, Ns, Is)) = ((-1000001 : Int32), (Na, Ia, Ns, Is)) := by
      exact if_pos h5
    exact ⟨congrArg (fun z : Int32 × RS => some (Value.int z.1)) ze.symm, congrArg (fun z : Int32 × RS => wS g q z.2) ze.symm⟩
set_option maxRecDepth 20000 in
theorem c_X6_runs (g : gG) (q : Nat → Nat) (Na : Nat → Nat → Nat) (Ia : Nat → Nat → Int32) (Ns : Nat → Nat) (Is : Nat → Int32) (r : Int32) (i : Int32) (n : Int32) (hI : RI (Na, Ia, Ns, Is)) : gCon g mX6_runs 5 0 0 [.ref (q 26), .int r, .int i, .int n] (wS g q (Na, Ia, Ns, Is)) (fun rv ws' => rv = some (.int (pM_runs r i n (Na, Ia, Ns, Is)).1) ∧ ws' = wS g q (pM_runs r i n (Na, Ia, Ns, Is)).2) := by
  refine gCon.of (lv := [(0, .ref (q 26)), (1, .int r), (2, .int i), (3, .int n)]) (by decide) (gLe rfl) rfl ?_
  refine j_ws (wM g q Na Ia Ns Is) rfl ?_
  have h8 : Na 0 1 ≤ 6 ∧ Na 0 2 ≤ 5 ∧ Na 0 3 ≤ 8 ∧ Na 0 0 ≤ 1 := RI_3 hI
  have h40 : Na 0 40 < 32 ∧ (∀ j, j < 5 → Na 0 (41 + j) ≤ 9999) ∧ (∀ p, p < 6 → Na 0 (46 + p) ≤ 9999 ∧ Na 0 (52 + p) ≤ 989901) ∧ inP (Na 0) ≤ 9999 := RI_40 hI
  have hpm : Ns 2 ≤ 24 := hI.2.1
  have hsz : ∀ r, r < 8 → Na 8 r ≤ 40 := hI.2.2.2.2.2.2.2.1
  have htr : Ns 11 ≤ 16 := hI.2.2.2.2.2.2.2.2.1
  have hst : Is 12 = -1000000 := hI.2.2.2.2.2.2.2.2.2.1
  have htp : Ns 4 ≤ 400 := hI.2.2.2.2.1
  refine j_aload_n 1 dX6_runs_0 rfl 0 rfl ?_
  refine j_getf 4 0 dX6_runs_1 rfl fd_X6_7 rfl rfl ?_
  refine j_iconst (v := (0 : Int32)) 5 dX6_runs_4 rfl (by decide) ?_
  refine j_ialdN 0 6 1 dX6_runs_5 rfl rfl (by decide) (by decide) ?_
  refine j_if_neN ((Na 0) 0) 9 12 dX6_runs_6 rfl rfl (by have z0 := h8.2.2.2; omega) (fun h6 => ?_) (fun h6 => ?_)
  ·
    refine j_iload_n 13 dX6_runs_12 rfl 1 rfl ?_
    refine j_callSE (rest := []) 16 (c_isR g r) [.int (gB (inR r 8))] dX6_runs_13 rfl cs_X6_65 rfl rfl (gLe rfl) (gLe rfl) (gLe rfl) (gLe rfl) rfl ?_
    refine j_if_eqB 19 31 dX6_runs_16 rfl rfl (fun h16 => ?_) (fun h16 => ?_)
    ·
      refine j_ldc (v := (-1000001 : Int32)) 33 dX6_runs_31 rfl wd_4_140 ?_
      refine j_iretI dX6_runs_33 rfl ⟨gLe rfl, gLe rfl, ?_⟩
      have ze : (pM_runs r i n (Na, Ia, Ns, Is)) = ((-1000001 : Int32), (Na, Ia, Ns, Is)) := by
        rw [pM_runs, if_neg h6, if_pos (by first | exact Or.inl h16 | exact Or.inr h28)]
      exact ⟨congrArg (fun z : Int32 × RS => some (Value.int z.1)) ze.symm, congrArg (fun z : Int32 × RS => wS g q z.2) ze.symm⟩
    ·
      refine j_iload_n 20 dX6_runs_19 rfl 3 rfl ?_
      refine j_i2l 21 dX6_runs_20 rfl ?_
      refine j_lconst (v := 1) 22 dX6_runs_21 rfl (by decide) ?_
      refine j_ldc2 (v := (24 : Int64)) 25 dX6_runs_22 rfl wd_5_48 ?_
      refine j_callSE (rest := []) 28 (c_in32 g n (1 : Int32) (24 : Int32) (1 : Int64) (24 : Int64) (by decide) (by decide)) [.int (gB ((1 : Int32) ≤ n ∧ n ≤ (24 : Int32)))] dX6_runs_25 rfl cs_X6_61 rfl rfl (gLe rfl) (gLe rfl) (gLe rfl) (gLe rfl) rfl ?_
      refine j_if_neB 31 34 dX6_runs_28 rfl rfl (fun h28 => ?_) (fun h28 => ?_)
      ·
        obtain ⟨zr, hzr, rfl⟩ := inR_of h16
        obtain ⟨zn, hzn, rfl⟩ := rng_of (m := 1) (n := 24) (by decide) (by decide) h28
        refine j_aload_n 35 dX6_runs_34 rfl 0 rfl ?_
        refine j_iload_n 36 dX6_runs_35 rfl 1 rfl ?_
        refine j_iload_n 37 dX6_runs_36 rfl 2 rfl ?_
        refine j_iload_n 38 dX6_runs_37 rfl 3 rfl ?_
        refine j_callVW (rest := []) 41 (c_X6_refused g q Na Ia Ns Is zr i (nI zn)  (by omega) (by have := hsz zr hzr; omega)) [.int (fndA (rfK ((Ia 7) zr) ((Na 8) zr) i (nI zn)))] dX6_runs_38 rfl cv_X6_205 rfl rfl 0 rfl rfl (gLe rfl) (gLe rfl) (gLe rfl) (gLe rfl) (wM_len _ _ _ _ _ _ _ _ _ _) rfl ?_
        refine j_istore 43 [(4, .int (fndA (rfK ((Ia 7) zr) ((Na 8) zr) i (nI zn)))), (0, .ref (q 26)), (1, .int (nI zr)), (2, .int i), (3, .int (nI zn))] dX6_runs_41 rfl (by decide) rfl ?_
        refine j_iload 45 dX6_runs_43 rfl 0 rfl ?_
        refine j_if_eq 48 51 dX6_runs_45 rfl rfl (fun h45 => ?_) (fun h45 => ?_)
        ·
          have hrf := (fndA_0 rfK_le).mp h45
          have hsp := (rfK_0 hrf).2
          have hszr := hsz zr hzr
          refine j_ws (wM g q Na Ia Ns Is) (by rw [hrf]; rfl) ?_
          obtain ⟨zj, hzj, rfl⟩ := spn_of (by omega) hsp
          refine j_aload_n 52 dX6_runs_51 rfl 1 rfl ?_
          refine j_bipush (v := (40 : Int32)) 54 dX6_runs_52 rfl (by decide) ?_
          refine j_iload_n 55 dX6_runs_54 rfl 2 rfl ?_
          refine j_imulN 40 zr 56 dX6_runs_55 rfl ?_
          refine j_iload_n 57 dX6_runs_56 rfl 3 rfl ?_
          refine j_iaddN (40 * zr) zj 58 dX6_runs_57 rfl ?_
          refine j_iload_n 59 dX6_runs_58 rfl 4 rfl ?_
          refine j_callVW (rest := []) 62 (c_X6_areBeasts g q Na Ia Ns Is ((40 * zr) + zj) zn  (by omega) (by omega)) [.int (gB (areB (Ia 9) ((40 * zr) + zj) zn ((Na 0) 3)))] dX6_runs_59 rfl cv_X6_208 rfl rfl 0 rfl rfl (gLe rfl) (gLe rfl) (gLe rfl) (gLe rfl) (wM_len _ _ _ _ _ _ _ _ _ _) rfl ?_
          refine j_if_neB 65 68 dX6_runs_62 rfl rfl (fun h62 => ?_) (fun h62 => ?_)
          ·
            refine j_aload_n 69 dX6_runs_68 rfl 1 rfl ?_
            refine j_callVW (rest := []) 72 (c_X6_inPens g q Na Ia Ns Is   ) [.int (nI (inP (Na 0)))] dX6_runs_69 rfl cv_X6_193 rfl rfl 0 rfl rfl (gLe rfl) (gLe rfl) (gLe rfl) (gLe rfl) (wM_len _ _ _ _ _ _ _ _ _ _) rfl ?_
            refine j_iload_n 73 dX6_runs_72 rfl 4 rfl ?_
            refine j_iaddN (inP (Na 0)) zn 74 dX6_runs_73 rfl ?_
            refine j_sipush (v := (9999 : Int32)) 77 dX6_runs_74 rfl (by decide) ?_
            refine j_icmp_leN ((inP (Na 0)) + zn) 9999 80 83 dX6_runs_77 rfl rfl (by have z0 := h40.2.2.2; omega) (by decide) (fun h77 => ?_) (fun h77 => ?_)
            ·
              refine j_ldc (v := (-1000000 : Int32)) 85 dX6_runs_83 rfl wd_4_47 ?_
              refine j_istore 87 [(5, .int (-1000000 : Int32)), (4, .int (fndA (rfK ((Ia 7) zr) ((Na 8) zr) (nI zj) (nI zn)))), (0, .ref (q 26)), (1, .int (nI zr)), (2, .int (nI zj)), (3, .int (nI zn))] dX6_runs_85 rfl (by decide) rfl ?_
              refine j_iconst (v := (0 : Int32)) 88 dX6_runs_87 rfl (by decide) ?_
              refine j_istore 90 [(6, .int (0 : Int32)), (5, .int (-1000000 : Int32)), (4, .int (fndA (rfK ((Ia 7) zr) ((Na 8) zr) (nI zj) (nI zn)))), (0, .ref (q 26)), (1, .int (nI zr)), (2, .int (nI zj)), (3, .int (nI zn))] dX6_runs_88 rfl (by decide) rfl ?_
              have hL90 : ∀ (zm90 : Nat) (zi : Nat) (zl : Int32) (ZNa : Nat → Nat → Nat) (ZNs : Nat → Nat), zn - zi < zm90 → (zi ≤ zn) → (RI (ZNa, Ia, ZNs, Is)) → (runsS (Ia 9) (40 * zr + zj) (zn - zi) zi (ZNa, Ia, ZNs, Is) = runsS (Ia 9) (40 * zr + zj) zn 0 (Na, Ia, Ns, Is)) → (lastP (Ia 9) (40 * zr + zj) (zn - zi) zi (ZNa, Ia, ZNs, Is) zl = lastP (Ia 9) (40 * zr + zj) zn 0 (Na, Ia, Ns, Is) (-1000000)) → (inP (ZNa 0) + (zn - zi) ≤ 9999) → (ZNa 0 3 = Na 0 3) → gJ g mX6_runs 5 0 0 (fun k' j' rv ws' => k' ≤ 0 ∧ j' ≤ 0 ∧ (rv = some (.int (pM_runs (nI zr) (nI zj) (nI zn) (Na, Ia, Ns, Is)).1) ∧ ws' = wS g q (pM_runs (nI zr) (nI zj) (nI zn) (Na, Ia, Ns, Is)).2)) 0 0 90 [(6, .int (nI zi)), (5, .int zl), (0, .ref (q 26)), (1, .int (nI zr)), (2, .int (nI zj)), (3, .int (nI zn))] [] (wM g q ZNa Ia ZNs Is) := by
                intro zm90
                induction zm90 with
                | zero => intro zi zl ZNa ZNs zmh; exact absurd zmh (Nat.not_lt_zero _)
                | succ zm90 zih90 =>
                  intro zi zl ZNa ZNs zmh90 hz hRI hR1 hR2 hR3 hR4
                  refine j_iload 92 dX6_runs_90 rfl 0 rfl ?_
                  refine j_iload_n 93 dX6_runs_92 rfl 5 rfl ?_
                  refine j_icmp_geN zi zn 96 122 dX6_runs_93 rfl rfl (by omega) (by omega) (fun h93 => ?_) (fun h93 => ?_)
                  ·
                    refine j_aload_n 123 dX6_runs_122 rfl 2 rfl ?_
                    refine j_iload 125 dX6_runs_123 rfl 1 rfl ?_
                    refine j_callVW (rest := []) 128 (c_X6_give g q ZNa Ia ZNs Is zl  ) [.int zl] dX6_runs_125 rfl cv_X6_76 rfl rfl 0 rfl rfl (gLe rfl) (gLe rfl) (gLe rfl) (gLe rfl) (wM_len _ _ _ _ _ _ _ _ _ _) rfl ?_
                    refine j_iretI dX6_runs_128 rfl ⟨gLe rfl, gLe rfl, ?_⟩
                    have ze : (pM_runs (nI zr) (nI zj) (nI zn) (Na, Ia, Ns, Is)) = (zl, (ZNa, Ia, (va_up ZNs 6 0), Is)) := by
                      have ye : zi = zn := by omega
                      subst ye
                      rw [Nat.sub_self] at hR1 hR2
                      have hR1 : (ZNa, Ia, ZNs, Is) = _ := hR1
                      have hR2 : zl = _ := hR2
                      rw [pM_runs, if_neg h6, if_neg (fun z => z.elim (fun z => z h16) (fun z => z h28)), cl_nI (by omega), if_neg (fun z => z hrf), cl_nI (by omega), cl_nI (by omega), if_neg (fun z => z h62), if_neg (Nat.not_lt.mpr h77), ← hR1, ← hR2]
                      rfl
                    exact ⟨congrArg (fun z : Int32 × RS => some (Value.int z.1)) ze.symm, congrArg (fun z : Int32 × RS => wS g q z.2) ze.symm⟩
                  ·
                    have hcl : Ia 9 (40 * zr + zj + zi) = nI (cl (Ia 9 (40 * zr + zj + zi))) ∧ cl (Ia 9 (40 * zr + zj + zi)) < ZNa 0 3 := by rw [hR4]; exact inR_cl (h62 zi (by omega)) (by omega)
                    have hgo : okP (ZNa 0) ∧ (goR (ZNa 0) 99 (cl (Ia 9 (40 * zr + zj + zi)))).1 < 6 := RI_go hRI hcl.2
                    have hum : ∀ k, uM (ZNa 0) 0 k ≤ 1000000000 := RI_uM hRI
                    have hz40 : ZNa 0 40 < 32 := (RI_40 hRI).1
                    refine j_aload_n 97 dX6_runs_96 rfl 2 rfl ?_
                    refine j_aload_n 98 dX6_runs_97 rfl 2 rfl ?_
                    refine j_getf 101 0 dX6_runs_98 rfl fd_X6_26 rfl rfl ?_
                    refine j_bipush (v := (40 : Int32)) 103 dX6_runs_101 rfl (by decide) ?_
                    refine j_iload_n 104 dX6_runs_103 rfl 3 rfl ?_
                    refine j_imulN 40 zr 105 dX6_runs_104 rfl ?_
                    refine j_iload_n 106 dX6_runs_105 rfl 4 rfl ?_
                    refine j_iaddN (40 * zr) zj 107 dX6_runs_106 rfl ?_
                    refine j_iload 109 dX6_runs_107 rfl 0 rfl ?_
                    refine j_iaddN ((40 * zr) + zj) zi 110 dX6_runs_109 rfl ?_
                    refine j_ialdR (((40 * zr) + zj) + zi) 111 6 dX6_runs_110 rfl rfl (by omega) (by decide) ?_
                    refine j_topI ((Ia 9) (((40 * zr) + zj) + zi)) (nI (cl (Ia 9 (40 * zr + zj + zi)))) hcl.1 ?_
                    refine j_callVW (rest := []) 114 (c_X6_runOne g q ZNa Ia ZNs Is (cl (Ia 9 (40 * zr + zj + zi)))  hst hgo.1 hz40 hum hcl.2 hRI.2.1 hgo.2) [.int (nI ((goR (ZNa 0) 99 (cl (Ia 9 (40 * zr + zj + zi)))).1))] dX6_runs_111 rfl cv_X6_196 rfl rfl 0 rfl rfl (gLe rfl) (gLe rfl) (gLe rfl) (gLe rfl) (wM_len _ _ _ _ _ _ _ _ _ _) rfl ?_
                    refine j_istore 116 [(5, .int (nI ((goR (ZNa 0) 99 (cl (Ia 9 (40 * zr + zj + zi)))).1))), (6, .int (nI zi)), (0, .ref (q 26)), (1, .int (nI zr)), (2, .int (nI zj)), (3, .int (nI zn))] dX6_runs_114 rfl (by decide) rfl ?_
                    refine j_iincN zi 1 119 [(6, .int (nI (zi + 1))), (5, .int (nI ((goR (ZNa 0) 99 (cl (Ia 9 (40 * zr + zj + zi)))).1))), (0, .ref (q 26)), (1, .int (nI zr)), (2, .int (nI zj)), (3, .int (nI zn))] dX6_runs_116 rfl 1 rfl (by decide) rfl ?_
                    refine j_goto 90 dX6_runs_119 rfl ?_
                    refine j_lv [0, 1, 2, 3, 4, 5] rfl ?_
                    exact zih90 (zi + 1) (nI (goR (ZNa 0) 99 (cl (Ia 9 (40 * zr + zj + zi)))).1) (va_up (va_up ZNa 0 (runR (ZNa 0) (cl (Ia 9 (40 * zr + zj + zi))))) 1 (kpP (ZNa 1) (ZNa 0) (ZNs 2))) (va_up ZNs 2 (kpN (ZNs 2))) (by omega) (by omega) (RI_runS hRI hcl.2 (by show inP (ZNa 0) < 9999; omega)) (by rw [← hR1, show zn - zi = zn - (zi + 1) + 1 by omega]; rfl) (by rw [← hR2, show zn - zi = zn - (zi + 1) + 1 by omega]; rfl) (by show inP (runR (ZNa 0) _) + _ ≤ 9999; rw [inP_run hgo.2]; omega) (by show runR (ZNa 0) _ 3 = _; rw [runR_lo (by decide)]; exact hR4)
              refine j_lv [0, 1, 3, 4, 5, 6] rfl ?_
              exact hL90 _ 0 (-1000000) Na Ns (Nat.lt_succ_self _) (by omega) hI rfl rfl (by omega) rfl
            ·
              refine j_ldc (v := (-1000003 : Int32)) 82 dX6_runs_80 rfl wd_4_171 ?_
              refine j_iretI dX6_runs_82 rfl ⟨gLe rfl, gLe rfl, ?_⟩
              have ze : (pM_runs (nI zr) (nI zj) (nI zn) (Na, Ia, Ns, Is)) = ((-1000003 : Int32), (Na, Ia, Ns, Is)) := by
                rw [pM_runs, if_neg h6, if_neg (fun z => z.elim (fun z => z h16) (fun z => z h28)), cl_nI (by omega), if_neg (fun z => z hrf), cl_nI (by omega), cl_nI (by omega), if_neg (fun z => z h62), if_pos (Nat.not_le.mp h77)]
              exact ⟨congrArg (fun z : Int32 × RS => some (Value.int z.1)) ze.symm, congrArg (fun z : Int32 × RS => wS g q z.2) ze.symm⟩
          ·
            refine j_ldc (v := (-1000001 : Int32)) 67 dX6_runs_65 rfl wd_4_140 ?_
            refine j_iretI dX6_runs_67 rfl ⟨gLe rfl, gLe rfl, ?_⟩
            have ze : (pM_runs (nI zr) (nI zj) (nI zn) (Na, Ia, Ns, Is)) = ((-1000001 : Int32), (Na, Ia, Ns, Is)) := by
              rw [pM_runs, if_neg h6, if_neg (fun z => z.elim (fun z => z h16) (fun z => z h28)), cl_nI (by omega), if_neg (fun z => z hrf), cl_nI (by omega), cl_nI (by omega), if_pos h62]
            exact ⟨congrArg (fun z : Int32 × RS => some (Value.int z.1)) ze.symm, congrArg (fun z : Int32 × RS => wS g q z.2) ze.symm⟩
        ·
          refine j_iload 50 dX6_runs_48 rfl 0 rfl ?_
          refine j_iretI dX6_runs_50 rfl ⟨gLe rfl, gLe rfl, ?_⟩
          have ze : (pM_runs (nI zr) i (nI zn) (Na, Ia, Ns, Is)) = ((fndA (rfK ((Ia 7) zr) ((Na 8) zr) i (nI zn))), (Na, Ia, (va_up Ns 6 (stsA (Ns 6) (rfK ((Ia 7) zr) ((Na 8) zr) i (nI zn)))), Is)) := by
            rw [pM_runs, if_neg h6, if_neg (fun z => z.elim (fun z => z h16) (fun z => z h28)), cl_nI (by omega), if_pos (fun z => h45 ((fndA_0 rfK_le).mpr z))]
            rw [stsA, if_neg (fun z => h45 ((fndA_0 rfK_le).mpr z))]
            rfl
          exact ⟨congrArg (fun z : Int32 × RS => some (Value.int z.1)) ze.symm, congrArg (fun z : Int32 × RS => wS g q z.2) ze.symm⟩
      ·
        refine j_ldc (v := (-1000001 : Int32)) 33 dX6_runs_31 rfl wd_4_140 ?_
        refine j_iretI dX6_runs_33 rfl ⟨gLe rfl, gLe rfl, ?_⟩
        have ze : (pM_runs r i n (Na, Ia, Ns, Is)) = ((-1000001 : Int32), (Na, Ia, Ns, Is)) := by
          rw [pM_runs, if_neg h6, if_pos (by first | exact Or.inl h16 | exact Or.inr h28)]
        exact ⟨congrArg (fun z : Int32 × RS => some (Value.int z.1)) ze.symm, congrArg (fun z : Int32 × RS => wS g q z.2) ze.symm⟩
  ·
    refine j_ldc (v := (-1000002 : Int32)) 11 dX6_runs_9 rfl wd_5_47 ?_
    refine j_iretI dX6_runs_11 rfl ⟨gLe rfl, gLe rfl, ?_⟩
    have ze : (pM_runs r i n (Na, Ia, Ns, Is)) = ((-1000002 : Int32), (Na, Ia, Ns, Is)) := by
      exact if_pos h6
    exact ⟨congrArg (fun z : Int32 × RS => some (Value.int z.1)) ze.symm, congrArg (fun z : Int32 × RS => wS g q z.2) ze.symm⟩
set_option maxRecDepth 20000 in
theorem c_X6_isKind (g : gG) (kd : Nat) (a : Nat)  (hk : kd ≤ 5) (ha : a ≤ 5) : gCon g mX6_isKind 0 0 0 [.int (nI kd), .int (nI a)] [] (fun rv ws' => rv = some (.int (gB (isK kd a))) ∧ ws' = []) := by
  refine gCon.of (lv := [(0, .int (nI kd)), (1, .int (nI a))]) (by decide) (gLe rfl) rfl ?_
  refine j_iload_n 1 dX6_isKind_0 rfl 0 rfl ?_
  refine j_iconst (v := (1 : Int32)) 2 dX6_isKind_1 rfl (by decide) ?_
  refine j_icmp_eqN kd 1 5 15 dX6_isKind_2 rfl rfl (by omega) (by decide) (fun h2 => ?_) (fun h2 => ?_)
  ·
    refine j_iconst (v := (1 : Int32)) 16 dX6_isKind_15 rfl (by decide) ?_
    refine j_goto 20 dX6_isKind_16 rfl ?_
    refine j_istore_n 21 [(2, .int (1 : Int32)), (0, .int (nI kd)), (1, .int (nI a))] dX6_isKind_20 rfl (by decide) rfl ?_
    refine j_iload_n 22 dX6_isKind_21 rfl 2 rfl ?_
    refine j_if_eqN a 25 49 dX6_isKind_22 rfl rfl (by omega) (fun h22 => ?_) (fun h22 => ?_)
    ·
      refine j_iconst (v := (1 : Int32)) 50 dX6_isKind_49 rfl (by decide) ?_
      refine j_goto 54 dX6_isKind_50 rfl ?_
      refine j_iret1 (c := isK kd a) dX6_isKind_54 rfl ?_ ⟨gLe rfl, gLe rfl, rfl, rfl⟩
      unfold isK
      omega
    ·
      refine j_iload_n 26 dX6_isKind_25 rfl 2 rfl ?_
      refine j_iload_n 27 dX6_isKind_26 rfl 1 rfl ?_
      refine j_icmp_eqN a kd 30 49 dX6_isKind_27 rfl rfl (by omega) (by omega) (fun h27 => ?_) (fun h27 => ?_)
      ·
        refine j_iconst (v := (1 : Int32)) 50 dX6_isKind_49 rfl (by decide) ?_
        refine j_goto 54 dX6_isKind_50 rfl ?_
        refine j_iret1 (c := isK kd a) dX6_isKind_54 rfl ?_ ⟨gLe rfl, gLe rfl, rfl, rfl⟩
        unfold isK
        omega
      ·
        refine j_iload_n 31 dX6_isKind_30 rfl 2 rfl ?_
        refine j_iconst (v := (1 : Int32)) 32 dX6_isKind_31 rfl (by decide) ?_
        refine j_icmp_neN a 1 35 39 dX6_isKind_32 rfl rfl (by omega) (by decide) (fun h32 => ?_) (fun h32 => ?_)
        ·
          refine j_iload_n 40 dX6_isKind_39 rfl 2 rfl ?_
          refine j_iconst (v := (4 : Int32)) 41 dX6_isKind_40 rfl (by decide) ?_
          refine j_icmp_neN a 4 44 53 dX6_isKind_41 rfl rfl (by omega) (by decide) (fun h41 => ?_) (fun h41 => ?_)
          ·
            refine j_iconst (v := (0 : Int32)) 54 dX6_isKind_53 rfl (by decide) ?_
            refine j_iret0 (c := isK kd a) dX6_isKind_54 rfl ?_ ⟨gLe rfl, gLe rfl, rfl, rfl⟩
            unfold isK
            omega
          ·
            refine j_iload_n 45 dX6_isKind_44 rfl 1 rfl ?_
            refine j_iconst (v := (5 : Int32)) 46 dX6_isKind_45 rfl (by decide) ?_
            refine j_icmp_neN kd 5 49 53 dX6_isKind_46 rfl rfl (by omega) (by decide) (fun h46 => ?_) (fun h46 => ?_)
            ·
              refine j_iconst (v := (0 : Int32)) 54 dX6_isKind_53 rfl (by decide) ?_
              refine j_iret0 (c := isK kd a) dX6_isKind_54 rfl ?_ ⟨gLe rfl, gLe rfl, rfl, rfl⟩
              unfold isK
              omega
            ·
              refine j_iconst (v := (1 : Int32)) 50 dX6_isKind_49 rfl (by decide) ?_
              refine j_goto 54 dX6_isKind_50 rfl ?_
              refine j_iret1 (c := isK kd a) dX6_isKind_54 rfl ?_ ⟨gLe rfl, gLe rfl, rfl, rfl⟩
              unfold isK
              omega
        ·
          refine j_iload_n 36 dX6_isKind_35 rfl 0 rfl ?_
          refine j_if_neN 1 39 49 dX6_isKind_36 rfl rfl (by decide) (fun h36 => ?_) (fun h36 => absurd h36 (by decide))
          refine j_iconst (v := (1 : Int32)) 50 dX6_isKind_49 rfl (by decide) ?_
          refine j_goto 54 dX6_isKind_50 rfl ?_
          refine j_iret1 (c := isK kd a) dX6_isKind_54 rfl ?_ ⟨gLe rfl, gLe rfl, rfl, rfl⟩
          unfold isK
          omega
  ·
    refine j_iload_n 6 dX6_isKind_5 rfl 0 rfl ?_
    refine j_iconst (v := (2 : Int32)) 7 dX6_isKind_6 rfl (by decide) ?_
    refine j_icmp_eqN kd 2 10 15 dX6_isKind_7 rfl rfl (by omega) (by decide) (fun h7 => ?_) (fun h7 => ?_)
    ·
      refine j_iconst (v := (1 : Int32)) 16 dX6_isKind_15 rfl (by decide) ?_
      refine j_goto 20 dX6_isKind_16 rfl ?_
      refine j_istore_n 21 [(2, .int (1 : Int32)), (0, .int (nI kd)), (1, .int (nI a))] dX6_isKind_20 rfl (by decide) rfl ?_
      refine j_iload_n 22 dX6_isKind_21 rfl 2 rfl ?_
      refine j_if_eqN a 25 49 dX6_isKind_22 rfl rfl (by omega) (fun h22 => ?_) (fun h22 => ?_)
      ·
        refine j_iconst (v := (1 : Int32)) 50 dX6_isKind_49 rfl (by decide) ?_
        refine j_goto 54 dX6_isKind_50 rfl ?_
        refine j_iret1 (c := isK kd a) dX6_isKind_54 rfl ?_ ⟨gLe rfl, gLe rfl, rfl, rfl⟩
        unfold isK
        omega
      ·
        refine j_iload_n 26 dX6_isKind_25 rfl 2 rfl ?_
        refine j_iload_n 27 dX6_isKind_26 rfl 1 rfl ?_
        refine j_icmp_eqN a kd 30 49 dX6_isKind_27 rfl rfl (by omega) (by omega) (fun h27 => ?_) (fun h27 => ?_)
        ·
          refine j_iconst (v := (1 : Int32)) 50 dX6_isKind_49 rfl (by decide) ?_
          refine j_goto 54 dX6_isKind_50 rfl ?_
          refine j_iret1 (c := isK kd a) dX6_isKind_54 rfl ?_ ⟨gLe rfl, gLe rfl, rfl, rfl⟩
          unfold isK
          omega
        ·
          refine j_iload_n 31 dX6_isKind_30 rfl 2 rfl ?_
          refine j_iconst (v := (1 : Int32)) 32 dX6_isKind_31 rfl (by decide) ?_
          refine j_icmp_neN a 1 35 39 dX6_isKind_32 rfl rfl (by omega) (by decide) (fun h32 => ?_) (fun h32 => ?_)
          ·
            refine j_iload_n 40 dX6_isKind_39 rfl 2 rfl ?_
            refine j_iconst (v := (4 : Int32)) 41 dX6_isKind_40 rfl (by decide) ?_
            refine j_icmp_neN a 4 44 53 dX6_isKind_41 rfl rfl (by omega) (by decide) (fun h41 => ?_) (fun h41 => ?_)
            ·
              refine j_iconst (v := (0 : Int32)) 54 dX6_isKind_53 rfl (by decide) ?_
              refine j_iret0 (c := isK kd a) dX6_isKind_54 rfl ?_ ⟨gLe rfl, gLe rfl, rfl, rfl⟩
              unfold isK
              omega
            ·
              refine j_iload_n 45 dX6_isKind_44 rfl 1 rfl ?_
              refine j_iconst (v := (5 : Int32)) 46 dX6_isKind_45 rfl (by decide) ?_
              refine j_icmp_neN kd 5 49 53 dX6_isKind_46 rfl rfl (by omega) (by decide) (fun h46 => ?_) (fun h46 => ?_)
              ·
                refine j_iconst (v := (0 : Int32)) 54 dX6_isKind_53 rfl (by decide) ?_
                refine j_iret0 (c := isK kd a) dX6_isKind_54 rfl ?_ ⟨gLe rfl, gLe rfl, rfl, rfl⟩
                unfold isK
                omega
              ·
                refine j_iconst (v := (1 : Int32)) 50 dX6_isKind_49 rfl (by decide) ?_
                refine j_goto 54 dX6_isKind_50 rfl ?_
                refine j_iret1 (c := isK kd a) dX6_isKind_54 rfl ?_ ⟨gLe rfl, gLe rfl, rfl, rfl⟩
                unfold isK
                omega
          ·
            refine j_iload_n 36 dX6_isKind_35 rfl 0 rfl ?_
            refine j_if_neN 1 39 49 dX6_isKind_36 rfl rfl (by decide) (fun h36 => ?_) (fun h36 => absurd h36 (by decide))
            refine j_iconst (v := (1 : Int32)) 50 dX6_isKind_49 rfl (by decide) ?_
            refine j_goto 54 dX6_isKind_50 rfl ?_
            refine j_iret1 (c := isK kd a) dX6_isKind_54 rfl ?_ ⟨gLe rfl, gLe rfl, rfl, rfl⟩
            unfold isK
            omega
    ·
      refine j_iload_n 11 dX6_isKind_10 rfl 0 rfl ?_
      refine j_iconst (v := (3 : Int32)) 12 dX6_isKind_11 rfl (by decide) ?_
      refine j_icmp_neN kd 3 15 19 dX6_isKind_12 rfl rfl (by omega) (by decide) (fun h12 => ?_) (fun h12 => ?_)
      ·
        refine j_iconst (v := (0 : Int32)) 20 dX6_isKind_19 rfl (by decide) ?_
        refine j_istore_n 21 [(2, .int (0 : Int32)), (0, .int (nI kd)), (1, .int (nI a))] dX6_isKind_20 rfl (by decide) rfl ?_
        refine j_iload_n 22 dX6_isKind_21 rfl 2 rfl ?_
        refine j_if_eqN a 25 49 dX6_isKind_22 rfl rfl (by omega) (fun h22 => ?_) (fun h22 => ?_)
        ·
          refine j_iconst (v := (1 : Int32)) 50 dX6_isKind_49 rfl (by decide) ?_
          refine j_goto 54 dX6_isKind_50 rfl ?_
          refine j_iret1 (c := isK kd a) dX6_isKind_54 rfl ?_ ⟨gLe rfl, gLe rfl, rfl, rfl⟩
          unfold isK
          omega
        ·
          refine j_iload_n 26 dX6_isKind_25 rfl 2 rfl ?_
          refine j_iload_n 27 dX6_isKind_26 rfl 1 rfl ?_
          refine j_icmp_eqN a kd 30 49 dX6_isKind_27 rfl rfl (by omega) (by omega) (fun h27 => ?_) (fun h27 => ?_)
          ·
            refine j_iconst (v := (1 : Int32)) 50 dX6_isKind_49 rfl (by decide) ?_
            refine j_goto 54 dX6_isKind_50 rfl ?_
            refine j_iret1 (c := isK kd a) dX6_isKind_54 rfl ?_ ⟨gLe rfl, gLe rfl, rfl, rfl⟩
            unfold isK
            omega
          ·
            refine j_iload_n 31 dX6_isKind_30 rfl 2 rfl ?_
            refine j_iconst (v := (1 : Int32)) 32 dX6_isKind_31 rfl (by decide) ?_
            refine j_icmp_neN a 1 35 39 dX6_isKind_32 rfl rfl (by omega) (by decide) (fun h32 => ?_) (fun h32 => ?_)
            ·
              refine j_iload_n 40 dX6_isKind_39 rfl 2 rfl ?_
              refine j_iconst (v := (4 : Int32)) 41 dX6_isKind_40 rfl (by decide) ?_
              refine j_icmp_neN a 4 44 53 dX6_isKind_41 rfl rfl (by omega) (by decide) (fun h41 => ?_) (fun h41 => ?_)
              ·
                refine j_iconst (v := (0 : Int32)) 54 dX6_isKind_53 rfl (by decide) ?_
                refine j_iret0 (c := isK kd a) dX6_isKind_54 rfl ?_ ⟨gLe rfl, gLe rfl, rfl, rfl⟩
                unfold isK
                omega
              ·
                refine j_iload_n 45 dX6_isKind_44 rfl 1 rfl ?_
                refine j_iconst (v := (5 : Int32)) 46 dX6_isKind_45 rfl (by decide) ?_
                refine j_icmp_neN kd 5 49 53 dX6_isKind_46 rfl rfl (by omega) (by decide) (fun h46 => ?_) (fun h46 => ?_)
                ·
                  refine j_iconst (v := (0 : Int32)) 54 dX6_isKind_53 rfl (by decide) ?_
                  refine j_iret0 (c := isK kd a) dX6_isKind_54 rfl ?_ ⟨gLe rfl, gLe rfl, rfl, rfl⟩
                  unfold isK
                  omega
                ·
                  refine j_iconst (v := (1 : Int32)) 50 dX6_isKind_49 rfl (by decide) ?_
                  refine j_goto 54 dX6_isKind_50 rfl ?_
                  refine j_iret1 (c := isK kd a) dX6_isKind_54 rfl ?_ ⟨gLe rfl, gLe rfl, rfl, rfl⟩
                  unfold isK
                  omega
            ·
              refine j_iload_n 36 dX6_isKind_35 rfl 0 rfl ?_
              refine j_if_neN 0 39 49 dX6_isKind_36 rfl rfl (by decide) (fun h36 => absurd h36 (by decide)) (fun h36 => ?_)
              refine j_iload_n 40 dX6_isKind_39 rfl 2 rfl ?_
              refine j_iconst (v := (4 : Int32)) 41 dX6_isKind_40 rfl (by decide) ?_
              refine j_icmp_neN a 4 44 53 dX6_isKind_41 rfl rfl (by omega) (by decide) (fun h41 => ?_) (fun h41 => ?_)
              ·
                refine j_iconst (v := (0 : Int32)) 54 dX6_isKind_53 rfl (by decide) ?_
                refine j_iret0 (c := isK kd a) dX6_isKind_54 rfl ?_ ⟨gLe rfl, gLe rfl, rfl, rfl⟩
                unfold isK
                omega
              ·
                refine j_iload_n 45 dX6_isKind_44 rfl 1 rfl ?_
                refine j_iconst (v := (5 : Int32)) 46 dX6_isKind_45 rfl (by decide) ?_
                refine j_icmp_neN kd 5 49 53 dX6_isKind_46 rfl rfl (by omega) (by decide) (fun h46 => ?_) (fun h46 => ?_)
                ·
                  refine j_iconst (v := (0 : Int32)) 54 dX6_isKind_53 rfl (by decide) ?_
                  refine j_iret0 (c := isK kd a) dX6_isKind_54 rfl ?_ ⟨gLe rfl, gLe rfl, rfl, rfl⟩
                  unfold isK
                  omega
                ·
                  refine j_iconst (v := (1 : Int32)) 50 dX6_isKind_49 rfl (by decide) ?_
                  refine j_goto 54 dX6_isKind_50 rfl ?_
                  refine j_iret1 (c := isK kd a) dX6_isKind_54 rfl ?_ ⟨gLe rfl, gLe rfl, rfl, rfl⟩
                  unfold isK
                  omega
      ·
        refine j_iconst (v := (1 : Int32)) 16 dX6_isKind_15 rfl (by decide) ?_
        refine j_goto 20 dX6_isKind_16 rfl ?_
        refine j_istore_n 21 [(2, .int (1 : Int32)), (0, .int (nI kd)), (1, .int (nI a))] dX6_isKind_20 rfl (by decide) rfl ?_
        refine j_iload_n 22 dX6_isKind_21 rfl 2 rfl ?_
        refine j_if_eqN a 25 49 dX6_isKind_22 rfl rfl (by omega) (fun h22 => ?_) (fun h22 => ?_)
        ·
          refine j_iconst (v := (1 : Int32)) 50 dX6_isKind_49 rfl (by decide) ?_
          refine j_goto 54 dX6_isKind_50 rfl ?_
          refine j_iret1 (c := isK kd a) dX6_isKind_54 rfl ?_ ⟨gLe rfl, gLe rfl, rfl, rfl⟩
          unfold isK
          omega
        ·
          refine j_iload_n 26 dX6_isKind_25 rfl 2 rfl ?_
          refine j_iload_n 27 dX6_isKind_26 rfl 1 rfl ?_
          refine j_icmp_eqN a kd 30 49 dX6_isKind_27 rfl rfl (by omega) (by omega) (fun h27 => ?_) (fun h27 => ?_)
          ·
            refine j_iconst (v := (1 : Int32)) 50 dX6_isKind_49 rfl (by decide) ?_
            refine j_goto 54 dX6_isKind_50 rfl ?_
            refine j_iret1 (c := isK kd a) dX6_isKind_54 rfl ?_ ⟨gLe rfl, gLe rfl, rfl, rfl⟩
            unfold isK
            omega
          ·
            refine j_iload_n 31 dX6_isKind_30 rfl 2 rfl ?_
            refine j_iconst (v := (1 : Int32)) 32 dX6_isKind_31 rfl (by decide) ?_
            refine j_icmp_neN a 1 35 39 dX6_isKind_32 rfl rfl (by omega) (by decide) (fun h32 => ?_) (fun h32 => ?_)
            ·
              refine j_iload_n 40 dX6_isKind_39 rfl 2 rfl ?_
              refine j_iconst (v := (4 : Int32)) 41 dX6_isKind_40 rfl (by decide) ?_
              refine j_icmp_neN a 4 44 53 dX6_isKind_41 rfl rfl (by omega) (by decide) (fun h41 => ?_) (fun h41 => ?_)
              ·
                refine j_iconst (v := (0 : Int32)) 54 dX6_isKind_53 rfl (by decide) ?_
                refine j_iret0 (c := isK kd a) dX6_isKind_54 rfl ?_ ⟨gLe rfl, gLe rfl, rfl, rfl⟩
                unfold isK
                omega
              ·
                refine j_iload_n 45 dX6_isKind_44 rfl 1 rfl ?_
                refine j_iconst (v := (5 : Int32)) 46 dX6_isKind_45 rfl (by decide) ?_
                refine j_icmp_neN kd 5 49 53 dX6_isKind_46 rfl rfl (by omega) (by decide) (fun h46 => ?_) (fun h46 => ?_)
                ·
                  refine j_iconst (v := (0 : Int32)) 54 dX6_isKind_53 rfl (by decide) ?_
                  refine j_iret0 (c := isK kd a) dX6_isKind_54 rfl ?_ ⟨gLe rfl, gLe rfl, rfl, rfl⟩
                  unfold isK
                  omega
                ·
                  refine j_iconst (v := (1 : Int32)) 50 dX6_isKind_49 rfl (by decide) ?_
                  refine j_goto 54 dX6_isKind_50 rfl ?_
                  refine j_iret1 (c := isK kd a) dX6_isKind_54 rfl ?_ ⟨gLe rfl, gLe rfl, rfl, rfl⟩
                  unfold isK
                  omega
            ·
              refine j_iload_n 36 dX6_isKind_35 rfl 0 rfl ?_
              refine j_if_neN 1 39 49 dX6_isKind_36 rfl rfl (by decide) (fun h36 => ?_) (fun h36 => absurd h36 (by decide))
              refine j_iconst (v := (1 : Int32)) 50 dX6_isKind_49 rfl (by decide) ?_
              refine j_goto 54 dX6_isKind_50 rfl ?_
              refine j_iret1 (c := isK kd a) dX6_isKind_54 rfl ?_ ⟨gLe rfl, gLe rfl, rfl, rfl⟩
              unfold isK
              omega
set_option maxRecDepth 20000 in
theorem c_X6_as (g : gG) (q : Nat → Nat) (Na : Nat → Nat → Nat) (Ia : Nat → Nat → Int32) (Ns : Nat → Nat) (Is : Nat → Int32) (b : Int32) (a : Int32) (hI : RI (Na, Ia, Ns, Is)) : gCon g mX6_as 2 0 0 [.ref (q 26), .int b, .int a] (wS g q (Na, Ia, Ns, Is)) (fun rv ws' => rv = some (.int (pM_as b a (Na, Ia, Ns, Is)).1) ∧ ws' = wS g q (pM_as b a (Na, Ia, Ns, Is)).2) := by
  refine gCon.of (lv := [(0, .ref (q 26)), (1, .int b), (2, .int a)]) (by decide) (gLe rfl) rfl ?_
  refine j_ws (wM g q Na Ia Ns Is) rfl ?_
  have h8 : Na 0 1 ≤ 6 ∧ Na 0 2 ≤ 5 ∧ Na 0 3 ≤ 8 ∧ Na 0 0 ≤ 1 := RI_3 hI
  have h40 : Na 0 40 < 32 ∧ (∀ j, j < 5 → Na 0 (41 + j) ≤ 9999) ∧ (∀ p, p < 6 → Na 0 (46 + p) ≤ 9999 ∧ Na 0 (52 + p) ≤ 989901) ∧ inP (Na 0) ≤ 9999 := RI_40 hI
  have hpm : Ns 2 ≤ 24 := hI.2.1
  have hsz : ∀ r, r < 8 → Na 8 r ≤ 40 := hI.2.2.2.2.2.2.2.1
  have htr : Ns 11 ≤ 16 := hI.2.2.2.2.2.2.2.2.1
  have hst : Is 12 = -1000000 := hI.2.2.2.2.2.2.2.2.2.1
  have htp : Ns 4 ≤ 400 := hI.2.2.2.2.1
  refine j_aload_n 1 dX6_as_0 rfl 0 rfl ?_
  refine j_iload_n 2 dX6_as_1 rfl 1 rfl ?_
  refine j_callVW (rest := []) 5 (c_X6_isBeast g q Na Ia Ns Is b  (by omega)) [.int (gB (inR b ((Na 0) 3)))] dX6_as_2 rfl cv_X6_190 rfl rfl 0 rfl rfl (gLe rfl) (gLe rfl) (gLe rfl) (gLe rfl) (wM_len _ _ _ _ _ _ _ _ _ _) rfl ?_
  refine j_if_eqB 8 20 dX6_as_5 rfl rfl (fun h5 => ?_) (fun h5 => ?_)
  ·
    refine j_ldc (v := (-1000001 : Int32)) 22 dX6_as_20 rfl wd_4_140 ?_
    refine j_iretI dX6_as_22 rfl ⟨gLe rfl, gLe rfl, ?_⟩
    have ze : (pM_as b a (Na, Ia, Ns, Is)) = ((-1000001 : Int32), (Na, Ia, Ns, Is)) := by
      exact if_pos (by first | exact Or.inl h5 | exact Or.inr h17)
    exact ⟨congrArg (fun z : Int32 × RS => some (Value.int z.1)) ze.symm, congrArg (fun z : Int32 × RS => wS g q z.2) ze.symm⟩
  ·
    refine j_iload_n 9 dX6_as_8 rfl 2 rfl ?_
    refine j_i2l 10 dX6_as_9 rfl ?_
    refine j_lconst (v := 0) 11 dX6_as_10 rfl (by decide) ?_
    refine j_ldc2 (v := (5 : Int64)) 14 dX6_as_11 rfl wd_5_191 ?_
    refine j_callSE (rest := []) 17 (c_inR g a 6 (5 : Int64) (5 : Int32) ⟨by decide, by decide⟩) [.int (gB (inR a 6))] dX6_as_14 rfl cs_X6_61 rfl rfl (gLe rfl) (gLe rfl) (gLe rfl) (gLe rfl) rfl ?_
    refine j_if_neB 20 23 dX6_as_17 rfl rfl (fun h17 => ?_) (fun h17 => ?_)
    ·
      obtain ⟨zb, hzb, rfl⟩ := inR_of h5
      obtain ⟨za, hza, rfl⟩ := inR_of h17
      have hokp : okP (Na 0) := (RI_go hI (by exact hzb)).1
      refine j_aload_n 24 dX6_as_23 rfl 0 rfl ?_
      refine j_getf 27 0 dX6_as_24 rfl fd_X6_7 rfl rfl ?_
      refine j_bipush (v := (24 : Int32)) 29 dX6_as_27 rfl (by decide) ?_
      refine j_iconst (v := (2 : Int32)) 30 dX6_as_29 rfl (by decide) ?_
      refine j_iload_n 31 dX6_as_30 rfl 1 rfl ?_
      refine j_imulN 2 zb 32 dX6_as_31 rfl ?_
      refine j_iaddN 24 (2 * zb) 33 dX6_as_32 rfl ?_
      refine j_ialdN (24 + (2 * zb)) 34 1 dX6_as_33 rfl rfl (by omega) (by decide) ?_
      refine j_iload_n 35 dX6_as_34 rfl 2 rfl ?_
      refine j_callSE (rest := []) 38 (c_X6_isKind g ((Na 0) (24 + (2 * zb))) za (okP_k hokp hzb).2 (by omega)) [.int (gB (isK ((Na 0) (24 + (2 * zb))) za))] dX6_as_35 rfl cs_X6_265 rfl rfl (gLe rfl) (gLe rfl) (gLe rfl) (gLe rfl) rfl ?_
      refine j_if_eqB 41 49 dX6_as_38 rfl rfl (fun h38 => ?_) (fun h38 => ?_)
      ·
        refine j_aload_n 50 dX6_as_49 rfl 0 rfl ?_
        refine j_iconst (v := (3 : Int32)) 51 dX6_as_50 rfl (by decide) ?_
        refine j_callVW (rest := []) 54 (c_X6_find g q Na Ia Ns Is 3  ) [.int ((-1000010 : Int32) - nI 3)] dX6_as_51 rfl cv_X6_72 rfl rfl 0 rfl rfl (gLe rfl) (gLe rfl) (gLe rfl) (gLe rfl) (wM_len _ _ _ _ _ _ _ _ _ _) rfl ?_
        refine j_iretI dX6_as_54 rfl ⟨gLe rfl, gLe rfl, ?_⟩
        have ze : (pM_as (nI zb) (nI za) (Na, Ia, Ns, Is)) = (((-1000010 : Int32) - nI 3), (Na, Ia, (va_up Ns 6 3), Is)) := by
          rw [pM_as, if_neg (fun z => z.elim (fun z => z h5) (fun z => z h17)), cl_nI (by omega), cl_nI (by omega), if_neg h38]
          rfl
        exact ⟨congrArg (fun z : Int32 × RS => some (Value.int z.1)) ze.symm, congrArg (fun z : Int32 × RS => wS g q z.2) ze.symm⟩
      ·
        refine j_aload_n 42 dX6_as_41 rfl 0 rfl ?_
        refine j_iload_n 43 dX6_as_42 rfl 1 rfl ?_
        refine j_callVW (rest := []) 46 (c_X6_give g q Na Ia Ns Is (nI zb)  ) [.int (nI zb)] dX6_as_43 rfl cv_X6_76 rfl rfl 0 rfl rfl (gLe rfl) (gLe rfl) (gLe rfl) (gLe rfl) (wM_len _ _ _ _ _ _ _ _ _ _) rfl ?_
        refine j_goto 54 dX6_as_46 rfl ?_
        refine j_iretI dX6_as_54 rfl ⟨gLe rfl, gLe rfl, ?_⟩
        have ze : (pM_as (nI zb) (nI za) (Na, Ia, Ns, Is)) = ((nI zb), (Na, Ia, (va_up Ns 6 0), Is)) := by
          rw [pM_as, if_neg (fun z => z.elim (fun z => z h5) (fun z => z h17)), cl_nI (by omega), cl_nI (by omega), if_pos h38]
          rfl
        exact ⟨congrArg (fun z : Int32 × RS => some (Value.int z.1)) ze.symm, congrArg (fun z : Int32 × RS => wS g q z.2) ze.symm⟩
    ·
      refine j_ldc (v := (-1000001 : Int32)) 22 dX6_as_20 rfl wd_4_140 ?_
      refine j_iretI dX6_as_22 rfl ⟨gLe rfl, gLe rfl, ?_⟩
      have ze : (pM_as b a (Na, Ia, Ns, Is)) = ((-1000001 : Int32), (Na, Ia, Ns, Is)) := by
        exact if_pos (by first | exact Or.inl h5 | exact Or.inr h17)
      exact ⟨congrArg (fun z : Int32 × RS => some (Value.int z.1)) ze.symm, congrArg (fun z : Int32 × RS => wS g q z.2) ze.symm⟩
set_option maxRecDepth 20000 in
theorem c_X6_count (g : gG) (q : Nat → Nat) (Na : Nat → Nat → Nat) (Ia : Nat → Nat → Int32) (Ns : Nat → Nat) (Is : Nat → Int32) (what : Int32) (hI : RI (Na, Ia, Ns, Is)) : gCon g mX6_count 1 0 0 [.ref (q 26), .int what] (wS g q (Na, Ia, Ns, Is)) (fun rv ws' => rv = some (.int (pM_count what (Na, Ia, Ns, Is)).1) ∧ ws' = wS g q (pM_count what (Na, Ia, Ns, Is)).2) := by
  refine gCon.of (lv := [(0, .ref (q 26)), (1, .int what)]) (by decide) (gLe rfl) rfl ?_
  refine j_ws (wM g q Na Ia Ns Is) rfl ?_
  have h8 : Na 0 1 ≤ 6 ∧ Na 0 2 ≤ 5 ∧ Na 0 3 ≤ 8 ∧ Na 0 0 ≤ 1 := RI_3 hI
  have h40 : Na 0 40 < 32 ∧ (∀ j, j < 5 → Na 0 (41 + j) ≤ 9999) ∧ (∀ p, p < 6 → Na 0 (46 + p) ≤ 9999 ∧ Na 0 (52 + p) ≤ 989901) ∧ inP (Na 0) ≤ 9999 := RI_40 hI
  have hpm : Ns 2 ≤ 24 := hI.2.1
  have hsz : ∀ r, r < 8 → Na 8 r ≤ 40 := hI.2.2.2.2.2.2.2.1
  have htr : Ns 11 ≤ 16 := hI.2.2.2.2.2.2.2.2.1
  have hst : Is 12 = -1000000 := hI.2.2.2.2.2.2.2.2.2.1
  have htp : Ns 4 ≤ 400 := hI.2.2.2.2.1
  refine j_iconst (v := (0 : Int32)) 1 dX6_count_0 rfl (by decide) ?_
  refine j_istore_n 2 [(2, .int (0 : Int32)), (0, .ref (q 26)), (1, .int what)] dX6_count_1 rfl (by decide) rfl ?_
  refine j_iconst (v := (0 : Int32)) 3 dX6_count_2 rfl (by decide) ?_
  refine j_istore_n 4 [(3, .int (0 : Int32)), (2, .int (0 : Int32)), (0, .ref (q 26)), (1, .int what)] dX6_count_3 rfl (by decide) rfl ?_
  have hL4 : ∀ (zm4 : Nat) (zi : Nat), 8 - zi < zm4 → (zi ≤ 8) → gJ g mX6_count 1 0 0 (fun k' j' rv ws' => k' ≤ 0 ∧ j' ≤ 0 ∧ (rv = some (.int (pM_count what (Na, Ia, Ns, Is)).1) ∧ ws' = wS g q (pM_count what (Na, Ia, Ns, Is)).2)) 0 0 4 [(3, .int (nI zi)), (2, .int (nI (thrS (Ia 7) zi))), (0, .ref (q 26)), (1, .int what)] [] (wM g q Na Ia Ns Is) := by
    intro zm4
    induction zm4 with
    | zero => intro zi zmh; exact absurd zmh (Nat.not_lt_zero _)
    | succ zm4 zih4 =>
      intro zi zmh4 hz
      refine j_iload_n 5 dX6_count_4 rfl 0 rfl ?_
      refine j_bipush (v := (8 : Int32)) 7 dX6_count_5 rfl (by decide) ?_
      refine j_icmp_geN zi 8 10 35 dX6_count_7 rfl rfl (by omega) (by decide) (fun h7 => ?_) (fun h7 => ?_)
      ·
        have ye : zi = 8 := by omega
        subst ye
        refine j_iload_n 36 dX6_count_35 rfl 3 rfl ?_
        by_cases hw36_0 : what = (0 : Int32)
        ·
          subst hw36_0
          refine j_tabIn (off := 48) 84 dX6_count_36 (by decide) (by decide) (by decide) rfl ?_
          refine j_iload_n 85 dX6_count_84 rfl 1 rfl ?_
          refine j_iretI dX6_count_85 rfl ⟨gLe rfl, gLe rfl, ?_⟩
          have ze : (pM_count (0 : Int32) (Na, Ia, Ns, Is)) = ((nI (thrS (Ia 7) 8)), (Na, Ia, Ns, Is)) := by
            rfl
          exact ⟨congrArg (fun z : Int32 × RS => some (Value.int z.1)) ze.symm, congrArg (fun z : Int32 × RS => wS g q z.2) ze.symm⟩
        by_cases hw36_1 : what = (1 : Int32)
        ·
          subst hw36_1
          refine j_tabIn (off := 50) 86 dX6_count_36 (by decide) (by decide) (by decide) rfl ?_
          refine j_aload_n 87 dX6_count_86 rfl 2 rfl ?_
          refine j_getf 90 0 dX6_count_87 rfl fd_X6_7 rfl rfl ?_
          refine j_iconst (v := (2 : Int32)) 91 dX6_count_90 rfl (by decide) ?_
          refine j_ialdN 2 92 1 dX6_count_91 rfl rfl (by decide) (by decide) ?_
          refine j_iretI dX6_count_92 rfl ⟨gLe rfl, gLe rfl, ?_⟩
          have ze : (pM_count (1 : Int32) (Na, Ia, Ns, Is)) = ((nI ((Na 0) 2)), (Na, Ia, Ns, Is)) := by
            rfl
          exact ⟨congrArg (fun z : Int32 × RS => some (Value.int z.1)) ze.symm, congrArg (fun z : Int32 × RS => wS g q z.2) ze.symm⟩
        by_cases hw36_2 : what = (2 : Int32)
        ·
          subst hw36_2
          refine j_tabIn (off := 57) 93 dX6_count_36 (by decide) (by decide) (by decide) rfl ?_
          refine j_aload_n 94 dX6_count_93 rfl 2 rfl ?_
          refine j_getf 97 0 dX6_count_94 rfl fd_X6_7 rfl rfl ?_
          refine j_iconst (v := (3 : Int32)) 98 dX6_count_97 rfl (by decide) ?_
          refine j_ialdN 3 99 1 dX6_count_98 rfl rfl (by decide) (by decide) ?_
          refine j_iretI dX6_count_99 rfl ⟨gLe rfl, gLe rfl, ?_⟩
          have ze : (pM_count (2 : Int32) (Na, Ia, Ns, Is)) = ((nI ((Na 0) 3)), (Na, Ia, Ns, Is)) := by
            rfl
          exact ⟨congrArg (fun z : Int32 × RS => some (Value.int z.1)) ze.symm, congrArg (fun z : Int32 × RS => wS g q z.2) ze.symm⟩
        by_cases hw36_3 : what = (3 : Int32)
        ·
          subst hw36_3
          refine j_tabIn (off := 64) 100 dX6_count_36 (by decide) (by decide) (by decide) rfl ?_
          refine j_aload_n 101 dX6_count_100 rfl 2 rfl ?_
          refine j_getf 104 0 dX6_count_101 rfl fd_X6_7 rfl rfl ?_
          refine j_iconst (v := (1 : Int32)) 105 dX6_count_104 rfl (by decide) ?_
          refine j_ialdN 1 106 1 dX6_count_105 rfl rfl (by decide) (by decide) ?_
          refine j_iretI dX6_count_106 rfl ⟨gLe rfl, gLe rfl, ?_⟩
          have ze : (pM_count (3 : Int32) (Na, Ia, Ns, Is)) = ((nI ((Na 0) 1)), (Na, Ia, Ns, Is)) := by
            rfl
          exact ⟨congrArg (fun z : Int32 × RS => some (Value.int z.1)) ze.symm, congrArg (fun z : Int32 × RS => wS g q z.2) ze.symm⟩
        by_cases hw36_4 : what = (4 : Int32)
        ·
          subst hw36_4
          refine j_tabIn (off := 71) 107 dX6_count_36 (by decide) (by decide) (by decide) rfl ?_
          refine j_aload_n 108 dX6_count_107 rfl 2 rfl ?_
          refine j_getf 111 0 dX6_count_108 rfl fd_X6_167 rfl rfl ?_
          refine j_iretI dX6_count_111 rfl ⟨gLe rfl, gLe rfl, ?_⟩
          have ze : (pM_count (4 : Int32) (Na, Ia, Ns, Is)) = ((nI (Ns 2)), (Na, Ia, Ns, Is)) := by
            rfl
          exact ⟨congrArg (fun z : Int32 × RS => some (Value.int z.1)) ze.symm, congrArg (fun z : Int32 × RS => wS g q z.2) ze.symm⟩
        by_cases hw36_5 : what = (5 : Int32)
        ·
          subst hw36_5
          refine j_tabIn (off := 76) 112 dX6_count_36 (by decide) (by decide) (by decide) rfl ?_
          refine j_aload_n 113 dX6_count_112 rfl 2 rfl ?_
          refine j_getf 116 0 dX6_count_113 rfl fd_X6_7 rfl rfl ?_
          refine j_bipush (v := (40 : Int32)) 118 dX6_count_116 rfl (by decide) ?_
          refine j_ialdN 40 119 1 dX6_count_118 rfl rfl (by decide) (by decide) ?_
          refine j_iretI dX6_count_119 rfl ⟨gLe rfl, gLe rfl, ?_⟩
          have ze : (pM_count (5 : Int32) (Na, Ia, Ns, Is)) = ((nI ((Na 0) 40)), (Na, Ia, Ns, Is)) := by
            rfl
          exact ⟨congrArg (fun z : Int32 × RS => some (Value.int z.1)) ze.symm, congrArg (fun z : Int32 × RS => wS g q z.2) ze.symm⟩
        by_cases hw36_6 : what = (6 : Int32)
        ·
          subst hw36_6
          refine j_tabIn (off := 84) 120 dX6_count_36 (by decide) (by decide) (by decide) rfl ?_
          refine j_aload_n 121 dX6_count_120 rfl 2 rfl ?_
          refine j_callVW (rest := []) 124 (c_X6_inPens g q Na Ia Ns Is   ) [.int (nI (inP (Na 0)))] dX6_count_121 rfl cv_X6_193 rfl rfl 0 rfl rfl (gLe rfl) (gLe rfl) (gLe rfl) (gLe rfl) (wM_len _ _ _ _ _ _ _ _ _ _) rfl ?_
          refine j_iretI dX6_count_124 rfl ⟨gLe rfl, gLe rfl, ?_⟩
          have ze : (pM_count (6 : Int32) (Na, Ia, Ns, Is)) = ((nI (inP (Na 0))), (Na, Ia, Ns, Is)) := by
            rfl
          exact ⟨congrArg (fun z : Int32 × RS => some (Value.int z.1)) ze.symm, congrArg (fun z : Int32 × RS => wS g q z.2) ze.symm⟩
        by_cases hw36_7 : what = (7 : Int32)
        ·
          subst hw36_7
          refine j_tabIn (off := 89) 125 dX6_count_36 (by decide) (by decide) (by decide) rfl ?_
          refine j_aload_n 126 dX6_count_125 rfl 2 rfl ?_
          refine j_getf 129 0 dX6_count_126 rfl fd_X6_85 rfl rfl ?_
          refine j_iretI dX6_count_129 rfl ⟨gLe rfl, gLe rfl, ?_⟩
          have ze : (pM_count (7 : Int32) (Na, Ia, Ns, Is)) = ((nI (Ns 4)), (Na, Ia, Ns, Is)) := by
            rfl
          exact ⟨congrArg (fun z : Int32 × RS => some (Value.int z.1)) ze.symm, congrArg (fun z : Int32 × RS => wS g q z.2) ze.symm⟩
        refine j_tabOut 130 dX6_count_36 (by have y0 := lv_neT hw36_0 (show (0 : Int32).toInt = 0 by decide); have y1 := lv_neT hw36_1 (show (1 : Int32).toInt = 1 by decide); have y2 := lv_neT hw36_2 (show (2 : Int32).toInt = 2 by decide); have y3 := lv_neT hw36_3 (show (3 : Int32).toInt = 3 by decide); have y4 := lv_neT hw36_4 (show (4 : Int32).toInt = 4 by decide); have y5 := lv_neT hw36_5 (show (5 : Int32).toInt = 5 by decide); have y6 := lv_neT hw36_6 (show (6 : Int32).toInt = 6 by decide); have y7 := lv_neT hw36_7 (show (7 : Int32).toInt = 7 by decide); omega) rfl ?_
        refine j_ldc (v := (-1000001 : Int32)) 132 dX6_count_130 rfl wd_4_140 ?_
        refine j_iretI dX6_count_132 rfl ⟨gLe rfl, gLe rfl, ?_⟩
        have ze : (pM_count what (Na, Ia, Ns, Is)) = ((-1000001 : Int32), (Na, Ia, Ns, Is)) := by
          rw [pM_count, if_neg hw36_0, if_neg hw36_1, if_neg hw36_2, if_neg hw36_3, if_neg hw36_4, if_neg hw36_5, if_neg hw36_6, if_neg hw36_7]
        exact ⟨congrArg (fun z : Int32 × RS => some (Value.int z.1)) ze.symm, congrArg (fun z : Int32 × RS => wS g q z.2) ze.symm⟩
      ·
        refine j_iload_n 11 dX6_count_10 rfl 1 rfl ?_
        refine j_aload_n 12 dX6_count_11 rfl 2 rfl ?_
        refine j_getf 15 0 dX6_count_12 rfl fd_X6_20 rfl rfl ?_
        refine j_iload_n 16 dX6_count_15 rfl 0 rfl ?_
        refine j_ialdR zi 17 4 dX6_count_16 rfl rfl (by omega) (by decide) ?_
        refine j_ldc (v := (-1000000 : Int32)) 19 dX6_count_17 rfl wd_4_47 ?_
        refine j_icmp_ne 22 26 dX6_count_19 rfl rfl (fun h19 => ?_) (fun h19 => ?_)
        ·
          refine j_iconst (v := (1 : Int32)) 27 dX6_count_26 rfl (by decide) ?_
          refine j_topN 1 (thr (Ia 7 zi)) (by rw [thr, if_neg h19]) ?_
          refine j_iaddN (thrS (Ia 7) zi) (thr (Ia 7 zi)) 28 dX6_count_27 rfl ?_
          refine j_istore_n 29 [(2, .int (nI ((thrS (Ia 7) zi) + (thr (Ia 7 zi))))), (3, .int (nI zi)), (0, .ref (q 26)), (1, .int what)] dX6_count_28 rfl (by decide) rfl ?_
          refine j_iincN zi 1 32 [(3, .int (nI (zi + 1))), (2, .int (nI ((thrS (Ia 7) zi) + (thr (Ia 7 zi))))), (0, .ref (q 26)), (1, .int what)] dX6_count_29 rfl 1 rfl (by decide) rfl ?_
          refine j_goto 4 dX6_count_32 rfl ?_
          refine j_lv [0, 1, 2, 3] rfl ?_
          exact zih4 (zi + 1) (by omega) (by omega)
        ·
          refine j_iconst (v := (0 : Int32)) 23 dX6_count_22 rfl (by decide) ?_
          refine j_goto 27 dX6_count_23 rfl ?_
          refine j_topN 0 (thr (Ia 7 zi)) (by rw [thr, if_pos h19]) ?_
          refine j_iaddN (thrS (Ia 7) zi) (thr (Ia 7 zi)) 28 dX6_count_27 rfl ?_
          refine j_istore_n 29 [(2, .int (nI ((thrS (Ia 7) zi) + (thr (Ia 7 zi))))), (3, .int (nI zi)), (0, .ref (q 26)), (1, .int what)] dX6_count_28 rfl (by decide) rfl ?_
          refine j_iincN zi 1 32 [(3, .int (nI (zi + 1))), (2, .int (nI ((thrS (Ia 7) zi) + (thr (Ia 7 zi))))), (0, .ref (q 26)), (1, .int what)] dX6_count_29 rfl 1 rfl (by decide) rfl ?_
          refine j_goto 4 dX6_count_32 rfl ?_
          refine j_lv [0, 1, 2, 3] rfl ?_
          exact zih4 (zi + 1) (by omega) (by omega)
  refine j_lv [0, 1, 2, 3] rfl ?_
  exact hL4 _ 0 (Nat.lt_succ_self _) (by omega)
