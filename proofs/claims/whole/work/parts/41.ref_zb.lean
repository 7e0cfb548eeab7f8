theorem pLaw_ok {T : Nat → Nat} {n c : Nat} (hc : c ≤ n) : (pLaw T n c).2.1 ≤ n ∧ ((pLaw T n c).1 = 0 → 1 ≤ (pLaw T n c).2.2 ∧ (pLaw T n c).2.2 ≤ 6) := by
  have h1 := (tE_le (T := T) hc).2.1
  have h2 := (tE_le (T := T) h1).2.1
  have h3 := (tE_le (T := T) h2).2.1
  unfold pLaw
  split
  · exact ⟨hc, fun y => absurd y (Nat.succ_ne_zero _)⟩
  · split
    · rename_i c1; exact ⟨h1, fun y => absurd y c1⟩
    · rename_i c1
      have hv := nuK_v (Classical.not_not.mp c1)
      refine ⟨?_, fun _ => hv.2⟩
      show adv T n _ _ ≤ n
      unfold adv
      split <;> omega
theorem adv_le {T : Nat → Nat} {n c k : Nat} (hc : c ≤ n) : adv T n c k ≤ n := by
  unfold adv
  split
  · exact (tE_le (T := T) hc).2.1
  · exact hc
theorem pHur_ok {T : Nat → Nat} {n P H c : Nat} (hc : c ≤ n) : (pHur T n P H c).2.1 ≤ n := by
  have h1 := (tE_le (T := T) hc).2.1
  have h2 := (tE_le (T := T) h1).2.1
  have h3 := (tE_le (T := T) h2).2.1
  have h4 := (tE_le (T := T) h3).2.1
  have h5 := (tE_le (T := T) h4).2.1
  unfold pHur pHuA
  repeat' split
  all_goals first | exact hc | exact h1 | exact h2 | exact h3 | exact h4 | exact adv_le h5
theorem pBst_ok {T : Nat → Nat} {n B c : Nat} (hc : c ≤ n) : (pBst T n B c).2.1 ≤ n := by
  have h1 := (tE_le (T := T) hc).2.1
  have h2 := (tE_le (T := T) h1).2.1
  have h3 := (tE_le (T := T) h2).2.1
  unfold pBst pBsA
  repeat' split
  all_goals first | exact hc | exact h1 | exact h2 | exact adv_le h3
theorem pHur_k {T : Nat → Nat} {n P H c : Nat} (h : (pHur T n P H c).1 = 0) : H ≠ 5 := by
  intro q
  rw [pHur, if_pos q] at h
  exact absurd h (Nat.succ_ne_zero _)
theorem pBst_k {T : Nat → Nat} {n B c : Nat} (h : (pBst T n B c).1 = 0) : B ≠ 8 := by
  intro q
  rw [pBst, if_pos q] at h
  exact absurd h (Nat.succ_ne_zero _)
theorem pHs_s {T : Nat → Nat} {n P f c H : Nat} {A : Nat → Nat} (h1 : isWd T (tP T n c) (tE T n c) 180505256 6) (h2 : (pHur T n P H c).1 = 0) : pHs T n P (f + 1) c H A = pHs T n P f (pHur T n P H c).2.1 (H + 1) (upH A H (pHur T n P H c).2.2.1 (pHur T n P H c).2.2.2.1 (pHur T n P H c).2.2.2.2.1 (pHur T n P H c).2.2.2.2.2) := by rw [pHs, if_pos h1, if_pos h2]
theorem pHs_x {T : Nat → Nat} {n P f c H : Nat} {A : Nat → Nat} (h1 : isWd T (tP T n c) (tE T n c) 180505256 6) (h2 : (pHur T n P H c).1 ≠ 0) : pHs T n P (f + 1) c H A = ((pHur T n P H c).1, (pHur T n P H c).2.1, H, A) := by rw [pHs, if_pos h1, if_neg h2]
theorem pHs_e {T : Nat → Nat} {n P f c H : Nat} {A : Nat → Nat} (h1 : ¬ isWd T (tP T n c) (tE T n c) 180505256 6) : pHs T n P (f + 1) c H A = (0, c, H, A) := by rw [pHs, if_neg h1]
theorem pBs_s {T : Nat → Nat} {n f c B : Nat} {A : Nat → Nat} (h1 : isWd T (tP T n c) (tE T n c) 21595298 5) (h2 : (pBst T n B c).1 = 0) : pBs T n (f + 1) c B A = pBs T n f (pBst T n B c).2.1 (B + 1) (upB A B (pBst T n B c).2.2.1 (pBst T n B c).2.2.2) := by rw [pBs, if_pos h1, if_pos h2]
theorem pBs_x {T : Nat → Nat} {n f c B : Nat} {A : Nat → Nat} (h1 : isWd T (tP T n c) (tE T n c) 21595298 5) (h2 : (pBst T n B c).1 ≠ 0) : pBs T n (f + 1) c B A = ((pBst T n B c).1, (pBst T n B c).2.1, B, A) := by rw [pBs, if_pos h1, if_neg h2]
theorem pBs_e {T : Nat → Nat} {n f c B : Nat} {A : Nat → Nat} (h1 : ¬ isWd T (tP T n c) (tE T n c) 21595298 5) : pBs T n (f + 1) c B A = (0, c, B, A) := by rw [pBs, if_neg h1]
set_option maxRecDepth 20000 in
theorem c_X6_readsAll (g : gG) (q : Nat → Nat) (Na : Nat → Nat → Nat) (Ia : Nat → Nat → Int32) (Ns : Nat → Nat) (Is : Nat → Int32)   (hT : ∀ k, Na 3 k < 256) (h4 : Ns 4 ≤ 400) : gCon g mX6_readsAll 4 0 0 [.ref (q 26)] (wM g q Na Ia Ns Is) (fun rv ws' => ∃ (ZA : Nat → Nat) (ZB : Nat → Nat) (zm : Nat) (zn : Nat) (z13 : Nat) (z15 : Nat) (ZP : Int32), ((pAll (Na 3) (Ns 4) (Na 17) (Na 19)).1 = 0 → zm = (pAll (Na 3) (Ns 4) (Na 17) (Na 19)).2.2.2.1 ∧ zn = (pAll (Na 3) (Ns 4) (Na 17) (Na 19)).2.2.2.2.1 ∧ ZP = nI (pAll (Na 3) (Ns 4) (Na 17) (Na 19)).2.2.1 ∧ ZA = (pAll (Na 3) (Ns 4) (Na 17) (Na 19)).2.2.2.2.2.1 ∧ ZB = (pAll (Na 3) (Ns 4) (Na 17) (Na 19)).2.2.2.2.2.2) ∧ rv = some (.int (gB ((pAll (Na 3) (Ns 4) (Na 17) (Na 19)).1 = 0))) ∧ ws' = (wM g q (va_up (va_up Na 17 ZA) 19 ZB) Ia (va_up (va_up (va_up (va_up (va_up (va_up Ns 5 (stsA (Ns 5) ((pAll (Na 3) (Ns 4) (Na 17) (Na 19)).1))) 13 z13) 14 (tP (Na 3) (Ns 4) (pAll (Na 3) (Ns 4) (Na 17) (Na 19)).2.1)) 15 z15) 18 zm) 20 zn) (va_up Is 16 ZP))) := by
  refine gCon.of (lv := [(0, .ref (q 26))]) (by decide) (gLe rfl) rfl ?_
  have hc0 : 0 ≤ Ns 4 := Nat.zero_le _
  have hE0 := tE_le (T := Na 3) hc0
  have hlk := pLaw_ok (T := Na 3) hc0
  refine j_aload_n 1 dX6_readsAll_0 rfl 0 rfl ?_
  refine j_iconst (v := (0 : Int32)) 2 dX6_readsAll_1 rfl (by decide) ?_
  refine j_putf 5 0 (wM g q Na Ia (va_up Ns 13 0) Is) dX6_readsAll_2 rfl fd_X6_91 rfl rfl rfl (gLe rfl) rfl ?_
  refine j_aload_n 6 dX6_readsAll_5 rfl 0 rfl ?_
  refine j_iconst (v := (0 : Int32)) 7 dX6_readsAll_6 rfl (by decide) ?_
  refine j_putf 10 0 (wM g q Na Ia (va_up (va_up Ns 13 0) 18 0) Is) dX6_readsAll_7 rfl fd_X6_128 rfl rfl rfl (gLe rfl) rfl ?_
  refine j_aload_n 11 dX6_readsAll_10 rfl 0 rfl ?_
  refine j_iconst (v := (0 : Int32)) 12 dX6_readsAll_11 rfl (by decide) ?_
  refine j_putf 15 0 (wM g q Na Ia (va_up (va_up (va_up Ns 13 0) 18 0) 20 0) Is) dX6_readsAll_12 rfl fd_X6_146 rfl rfl rfl (gLe rfl) rfl ?_
  refine j_aload_n 16 dX6_readsAll_15 rfl 0 rfl ?_
  refine j_callVW (rest := []) 19 (c_X6_token g q Na Ia (va_up (va_up (va_up Ns 13 0) 18 0) 20 0) Is   hT h4 (Nat.zero_le _)) [] dX6_readsAll_16 rfl cv_X6_120 rfl rfl 0 rfl rfl (gLe rfl) (gLe rfl) (gLe rfl) (gLe rfl) (wM_len _ _ _ _ _ _ _ _ _ _) rfl ?_
  refine j_aload_n 20 dX6_readsAll_19 rfl 0 rfl ?_
  refine j_callVX (rest := []) 23 (c_X6_readsLaw g q Na Ia (va_up (va_up (va_up (va_up (va_up Ns 13 (tE (Na 3) (Ns 4) 0)) 14 (tP (Na 3) (Ns 4) 0)) 15 (tE (Na 3) (Ns 4) 0)) 18 0) 20 0) Is  0 hT h4 hc0 rfl rfl rfl) dX6_readsAll_20 rfl cv_X6_152 rfl rfl 0 rfl rfl (gLe rfl) (gLe rfl) (gLe rfl) (gLe rfl) (fun rv w1 hp => ?_)
  obtain ⟨ZP_1, hZP_1, rfl, rfl⟩ := hp
  refine ⟨(wM_len _ _ _ _ _ _ _ _ _ _), ?_⟩
  refine j_eq (lv2 := [(0, .ref (q 26))]) (st2 := [.int (gB ((pLaw (Na 3) (Ns 4) 0).1 = 0))]) (ws2 := (wM g q Na Ia (va_up (va_up (va_up (va_up (va_up (va_up Ns 5 (stsA (Ns 5) ((pLaw (Na 3) (Ns 4) 0).1))) 13 (tE (Na 3) (Ns 4) ((pLaw (Na 3) (Ns 4) 0).2.1))) 14 (tP (Na 3) (Ns 4) ((pLaw (Na 3) (Ns 4) 0).2.1))) 15 (tE (Na 3) (Ns 4) ((pLaw (Na 3) (Ns 4) 0).2.1))) 18 0) 20 0) (va_up Is 16 ZP_1))) rfl rfl rfl ?_
  refine j_if_neB 26 28 dX6_readsAll_23 rfl rfl (fun h23 => ?_) (fun h23 => ?_)
  ·
    have hL28 : ∀ (zm28 : Nat) (zc : Nat) (zH : Nat) (ZA : Nat → Nat), 6 - zH < zm28 → (zc ≤ Ns 4) → (zH ≤ 5) → (pHs (Na 3) (Ns 4) (pLaw (Na 3) (Ns 4) 0).2.2 (6 - zH) zc zH ZA = (pHs (Na 3) (Ns 4) (pLaw (Na 3) (Ns 4) 0).2.2 6 (pLaw (Na 3) (Ns 4) 0).2.1 0 (Na 17))) → gJ g mX6_readsAll 4 0 0 (fun k' j' rv ws' => k' ≤ 0 ∧ j' ≤ 0 ∧ (∃ (ZA : Nat → Nat) (ZB : Nat → Nat) (zm : Nat) (zn : Nat) (z13 : Nat) (z15 : Nat) (ZP : Int32), ((pAll (Na 3) (Ns 4) (Na 17) (Na 19)).1 = 0 → zm = (pAll (Na 3) (Ns 4) (Na 17) (Na 19)).2.2.2.1 ∧ zn = (pAll (Na 3) (Ns 4) (Na 17) (Na 19)).2.2.2.2.1 ∧ ZP = nI (pAll (Na 3) (Ns 4) (Na 17) (Na 19)).2.2.1 ∧ ZA = (pAll (Na 3) (Ns 4) (Na 17) (Na 19)).2.2.2.2.2.1 ∧ ZB = (pAll (Na 3) (Ns 4) (Na 17) (Na 19)).2.2.2.2.2.2) ∧ rv = some (.int (gB ((pAll (Na 3) (Ns 4) (Na 17) (Na 19)).1 = 0))) ∧ ws' = (wM g q (va_up (va_up Na 17 ZA) 19 ZB) Ia (va_up (va_up (va_up (va_up (va_up (va_up Ns 5 (stsA (Ns 5) ((pAll (Na 3) (Ns 4) (Na 17) (Na 19)).1))) 13 z13) 14 (tP (Na 3) (Ns 4) (pAll (Na 3) (Ns 4) (Na 17) (Na 19)).2.1)) 15 z15) 18 zm) 20 zn) (va_up Is 16 ZP)))) 0 0 28 [(0, .ref (q 26))] [] (wM g q (va_up Na 17 ZA) Ia (va_up (va_up (va_up (va_up (va_up Ns 13 (tE (Na 3) (Ns 4) zc)) 14 (tP (Na 3) (Ns 4) zc)) 15 (tE (Na 3) (Ns 4) zc)) 18 zH) 20 0) (va_up Is 16 (nI (pLaw (Na 3) (Ns 4) 0).2.2))) := by
      intro zm28
      induction zm28 with
      | zero => intro zc zH ZA zmh; exact absurd zmh (Nat.not_lt_zero _)
      | succ zm28 zih28 =>
        intro zc zH ZA zmh28 hzc hzH hzR
        refine j_aload_n 29 dX6_readsAll_28 rfl 0 rfl ?_
        refine j_ldc (v := (180505256 : Int32)) 31 dX6_readsAll_29 rfl wd_4_209 ?_
        refine j_bipush (v := (6 : Int32)) 33 dX6_readsAll_31 rfl (by decide) ?_
        have hEz := tE_le (T := Na 3) hzc
        refine j_callVW (rest := []) 36 (c_X6_isWord g q (va_up Na 17 ZA) Ia (va_up (va_up (va_up (va_up (va_up Ns 13 (tE (Na 3) (Ns 4) zc)) 14 (tP (Na 3) (Ns 4) zc)) 15 (tE (Na 3) (Ns 4) zc)) 18 zH) 20 0) (va_up Is 16 (nI (pLaw (Na 3) (Ns 4) 0).2.2)) 180505256 6  hT h4 (by decide) (by decide) ⟨hEz.1, hEz.2.1⟩) [.int (gB (isWd (Na 3) (tP (Na 3) (Ns 4) zc) (tE (Na 3) (Ns 4) zc) 180505256 6))] dX6_readsAll_33 rfl cv_X6_104 rfl rfl 0 rfl rfl (gLe rfl) (gLe rfl) (gLe rfl) (gLe rfl) (wM_len _ _ _ _ _ _ _ _ _ _) rfl ?_
        refine j_if_eqB 39 48 dX6_readsAll_36 rfl rfl (fun h36 => ?_) (fun h36 => ?_)
        ·
          have hL48 : ∀ (zm48 : Nat) (zd : Nat) (zB : Nat) (ZB : Nat → Nat), 9 - zB < zm48 → (zd ≤ Ns 4) → (zB ≤ 8) → (pBs (Na 3) (Ns 4) (9 - zB) zd zB ZB = (pBs (Na 3) (Ns 4) 9 (pHs (Na 3) (Ns 4) (pLaw (Na 3) (Ns 4) 0).2.2 6 (pLaw (Na 3) (Ns 4) 0).2.1 0 (Na 17)).2.1 0 (Na 19))) → (zH = 0 → zd = zc) → gJ g mX6_readsAll 4 0 0 (fun k' j' rv ws' => k' ≤ 0 ∧ j' ≤ 0 ∧ (∃ (ZA : Nat → Nat) (ZB : Nat → Nat) (zm : Nat) (zn : Nat) (z13 : Nat) (z15 : Nat) (ZP : Int32), ((pAll (Na 3) (Ns 4) (Na 17) (Na 19)).1 = 0 → zm = (pAll (Na 3) (Ns 4) (Na 17) (Na 19)).2.2.2.1 ∧ zn = (pAll (Na 3) (Ns 4) (Na 17) (Na 19)).2.2.2.2.1 ∧ ZP = nI (pAll (Na 3) (Ns 4) (Na 17) (Na 19)).2.2.1 ∧ ZA = (pAll (Na 3) (Ns 4) (Na 17) (Na 19)).2.2.2.2.2.1 ∧ ZB = (pAll (Na 3) (Ns 4) (Na 17) (Na 19)).2.2.2.2.2.2) ∧ rv = some (.int (gB ((pAll (Na 3) (Ns 4) (Na 17) (Na 19)).1 = 0))) ∧ ws' = (wM g q (va_up (va_up Na 17 ZA) 19 ZB) Ia (va_up (va_up (va_up (va_up (va_up (va_up Ns 5 (stsA (Ns 5) ((pAll (Na 3) (Ns 4) (Na 17) (Na 19)).1))) 13 z13) 14 (tP (Na 3) (Ns 4) (pAll (Na 3) (Ns 4) (Na 17) (Na 19)).2.1)) 15 z15) 18 zm) 20 zn) (va_up Is 16 ZP)))) 0 0 48 [(0, .ref (q 26))] [] (wM g q (va_up (va_up Na 17 ZA) 19 ZB) Ia (va_up (va_up (va_up (va_up (va_up Ns 13 (tE (Na 3) (Ns 4) zd)) 14 (tP (Na 3) (Ns 4) zd)) 15 (tE (Na 3) (Ns 4) zd)) 18 zH) 20 zB) (va_up Is 16 (nI (pLaw (Na 3) (Ns 4) 0).2.2))) := by
            intro zm48
            induction zm48 with
            | zero => intro zd zB ZB zmh; exact absurd zmh (Nat.not_lt_zero _)
            | succ zm48 zih48 =>
              intro zd zB ZB zmh48 hzd hzB hyR hy0
              refine j_aload_n 49 dX6_readsAll_48 rfl 0 rfl ?_
              refine j_getf 52 0 dX6_readsAll_49 rfl fd_X6_128 rfl rfl ?_
              refine j_if_leN zH 55 74 dX6_readsAll_52 rfl rfl (by have z0 := hzH; omega) (fun h52 => ?_) (fun h52 => ?_)
              ·
                have hz1 : (pHs (Na 3) (Ns 4) (pLaw (Na 3) (Ns 4) 0).2.2 6 (pLaw (Na 3) (Ns 4) 0).2.1 0 (Na 17)) = (0, zc, zH, ZA) := by rw [← hzR, show 6 - zH = 5 - zH + 1 by omega, pHs_e h36]
                refine j_aload_n 75 dX6_readsAll_74 rfl 0 rfl ?_
                refine j_getf 78 0 dX6_readsAll_75 rfl fd_X6_128 rfl rfl ?_
                refine j_if_eqN zH 81 92 dX6_readsAll_78 rfl rfl (by have z0 := hzH; omega) (fun h78 => ?_) (fun h78 => ?_)
                ·
                  have hL : (pAll (Na 3) (Ns 4) (Na 17) (Na 19)) = (1, zd, 0, 0, 0, Na 17, Na 19) := by
                    rw [pAll, if_neg (fun y => y h23)]
                    first
                      | (rw [hz1, if_neg (fun y => y rfl), if_pos h78]; rw [hy0 h78])
                      | (rw [hz2, hz1]; rw [if_neg (fun y => y rfl), if_neg h78, if_neg (fun y => y rfl), if_pos (Nat.not_le.mp h89)])
                  have hk : (1 : Nat) ≠ 0 := by decide
                  refine j_aload_n 93 dX6_readsAll_92 rfl 0 rfl ?_
                  refine j_iconst (v := (1 : Int32)) 94 dX6_readsAll_93 rfl (by decide) ?_
                  refine j_putf 97 0 (wM g q (va_up (va_up Na 17 ZA) 19 ZB) Ia (va_up (va_up (va_up (va_up (va_up (va_up Ns 5 1) 13 (tE (Na 3) (Ns 4) zd)) 14 (tP (Na 3) (Ns 4) zd)) 15 (tE (Na 3) (Ns 4) zd)) 18 zH) 20 zB) (va_up Is 16 (nI (pLaw (Na 3) (Ns 4) 0).2.2))) dX6_readsAll_94 rfl fd_X6_113 rfl rfl rfl (gLe rfl) rfl ?_
                  refine j_iconst (v := (0 : Int32)) 98 dX6_readsAll_97 rfl (by decide) ?_
                  refine j_ws (wM g q (va_up (va_up Na 17 ZA) 19 ZB) Ia (va_up (va_up (va_up (va_up (va_up (va_up Ns 5 1) 13 (tE (Na 3) (Ns 4) zd)) 14 (tP (Na 3) (Ns 4) zd)) 15 (tE (Na 3) (Ns 4) zd)) 18 zH) 20 zB) (va_up Is 16 (nI (pLaw (Na 3) (Ns 4) 0).2.2))) rfl ?_
                  refine j_iret0 (c := (pAll (Na 3) (Ns 4) (Na 17) (Na 19)).1 = 0) dX6_readsAll_98 rfl (by rw [hL]; exact hk) ⟨gLe rfl, gLe rfl, ZA, ZB, zH, zB, tE (Na 3) (Ns 4) zd, tE (Na 3) (Ns 4) zd, (nI (pLaw (Na 3) (Ns 4) 0).2.2), fun y => absurd y (by rw [hL]; exact hk), rfl, ?_⟩
                  rw [hL]
                  all_goals first | done | rfl
                ·
                  refine j_aload_n 82 dX6_readsAll_81 rfl 0 rfl ?_
                  refine j_getf 85 0 dX6_readsAll_82 rfl fd_X6_94 rfl rfl ?_
                  refine j_aload_n 86 dX6_readsAll_85 rfl 0 rfl ?_
                  refine j_getf 89 0 dX6_readsAll_86 rfl fd_X6_85 rfl rfl ?_
                  have hEd2 := tE_le (T := Na 3) hzd
                  have hPd2 := tP_le (T := Na 3) hzd
                  have hz2 : (pBs (Na 3) (Ns 4) 9 (pHs (Na 3) (Ns 4) (pLaw (Na 3) (Ns 4) 0).2.2 6 (pLaw (Na 3) (Ns 4) 0).2.1 0 (Na 17)).2.1 0 (Na 19)) = (0, zd, zB, ZB) := by rw [← hyR, show 9 - zB = 8 - zB + 1 by omega, pBs_e (by first | exact h62 | exact absurd h52 (by omega))]
                  refine j_icmp_geN (tP (Na 3) (Ns 4) zd) (Ns 4) 92 99 dX6_readsAll_89 rfl rfl (by have z0 := hPd2; have z1 := h4; omega) (by have z0 := h4; omega) (fun h89 => ?_) (fun h89 => ?_)
                  ·
                    have hL : (pAll (Na 3) (Ns 4) (Na 17) (Na 19)) = (0, zd, (pLaw (Na 3) (Ns 4) 0).2.2, zH, zB, ZA, ZB) := by
                      rw [pAll, if_neg (fun y => y h23), hz2, hz1]
                      rw [if_neg (fun y => y rfl), if_neg h78, if_neg (fun y => y rfl), if_neg (Nat.not_lt.mpr h89)]
                    refine j_iconst (v := (1 : Int32)) 100 dX6_readsAll_99 rfl (by decide) ?_
                    skip
                    refine j_iret1 (c := (pAll (Na 3) (Ns 4) (Na 17) (Na 19)).1 = 0) dX6_readsAll_100 rfl (by rw [hL]) ⟨gLe rfl, gLe rfl, ZA, ZB, zH, zB, tE (Na 3) (Ns 4) zd, tE (Na 3) (Ns 4) zd, (nI (pLaw (Na 3) (Ns 4) 0).2.2), fun _ => by rw [hL]; exact ⟨rfl, rfl, rfl, rfl, rfl⟩, rfl, ?_⟩
                    rw [hL]
                    all_goals first | done | rfl
                  ·
                    have hL : (pAll (Na 3) (Ns 4) (Na 17) (Na 19)) = (1, zd, 0, 0, 0, Na 17, Na 19) := by
                      rw [pAll, if_neg (fun y => y h23)]
                      first
                        | (rw [hz1, if_neg (fun y => y rfl), if_pos h78]; rw [hy0 h78])
                        | (rw [hz2, hz1]; rw [if_neg (fun y => y rfl), if_neg h78, if_neg (fun y => y rfl), if_pos (Nat.not_le.mp h89)])
                    have hk : (1 : Nat) ≠ 0 := by decide
                    refine j_aload_n 93 dX6_readsAll_92 rfl 0 rfl ?_
                    refine j_iconst (v := (1 : Int32)) 94 dX6_readsAll_93 rfl (by decide) ?_
                    refine j_putf 97 0 (wM g q (va_up (va_up Na 17 ZA) 19 ZB) Ia (va_up (va_up (va_up (va_up (va_up (va_up Ns 5 1) 13 (tE (Na 3) (Ns 4) zd)) 14 (tP (Na 3) (Ns 4) zd)) 15 (tE (Na 3) (Ns 4) zd)) 18 zH) 20 zB) (va_up Is 16 (nI (pLaw (Na 3) (Ns 4) 0).2.2))) dX6_readsAll_94 rfl fd_X6_113 rfl rfl rfl (gLe rfl) rfl ?_
                    refine j_iconst (v := (0 : Int32)) 98 dX6_readsAll_97 rfl (by decide) ?_
                    refine j_ws (wM g q (va_up (va_up Na 17 ZA) 19 ZB) Ia (va_up (va_up (va_up (va_up (va_up (va_up Ns 5 1) 13 (tE (Na 3) (Ns 4) zd)) 14 (tP (Na 3) (Ns 4) zd)) 15 (tE (Na 3) (Ns 4) zd)) 18 zH) 20 zB) (va_up Is 16 (nI (pLaw (Na 3) (Ns 4) 0).2.2))) rfl ?_
                    refine j_iret0 (c := (pAll (Na 3) (Ns 4) (Na 17) (Na 19)).1 = 0) dX6_readsAll_98 rfl (by rw [hL]; exact hk) ⟨gLe rfl, gLe rfl, ZA, ZB, zH, zB, tE (Na 3) (Ns 4) zd, tE (Na 3) (Ns 4) zd, (nI (pLaw (Na 3) (Ns 4) 0).2.2), fun y => absurd y (by rw [hL]; exact hk), rfl, ?_⟩
                    rw [hL]
                    all_goals first | done | rfl
              ·
                refine j_aload_n 56 dX6_readsAll_55 rfl 0 rfl ?_
                refine j_ldc (v := (21595298 : Int32)) 58 dX6_readsAll_56 rfl wd_4_226 ?_
                refine j_iconst (v := (5 : Int32)) 59 dX6_readsAll_58 rfl (by decide) ?_
                have hEd := tE_le (T := Na 3) hzd
                refine j_callVW (rest := []) 62 (c_X6_isWord g q (va_up (va_up Na 17 ZA) 19 ZB) Ia (va_up (va_up (va_up (va_up (va_up Ns 13 (tE (Na 3) (Ns 4) zd)) 14 (tP (Na 3) (Ns 4) zd)) 15 (tE (Na 3) (Ns 4) zd)) 18 zH) 20 zB) (va_up Is 16 (nI (pLaw (Na 3) (Ns 4) 0).2.2)) 21595298 5  hT h4 (by decide) (by decide) ⟨hEd.1, hEd.2.1⟩) [.int (gB (isWd (Na 3) (tP (Na 3) (Ns 4) zd) (tE (Na 3) (Ns 4) zd) 21595298 5))] dX6_readsAll_59 rfl cv_X6_104 rfl rfl 0 rfl rfl (gLe rfl) (gLe rfl) (gLe rfl) (gLe rfl) (wM_len _ _ _ _ _ _ _ _ _ _) rfl ?_
                refine j_if_eqB 65 74 dX6_readsAll_62 rfl rfl (fun h62 => ?_) (fun h62 => ?_)
                ·
                  have hz1 : (pHs (Na 3) (Ns 4) (pLaw (Na 3) (Ns 4) 0).2.2 6 (pLaw (Na 3) (Ns 4) 0).2.1 0 (Na 17)) = (0, zc, zH, ZA) := by rw [← hzR, show 6 - zH = 5 - zH + 1 by omega, pHs_e h36]
                  refine j_aload_n 75 dX6_readsAll_74 rfl 0 rfl ?_
                  refine j_getf 78 0 dX6_readsAll_75 rfl fd_X6_128 rfl rfl ?_
                  refine j_if_eqN zH 81 92 dX6_readsAll_78 rfl rfl (by have z0 := hzH; omega) (fun h78 => ?_) (fun h78 => ?_)
                  ·
                    have hL : (pAll (Na 3) (Ns 4) (Na 17) (Na 19)) = (1, zd, 0, 0, 0, Na 17, Na 19) := by
                      rw [pAll, if_neg (fun y => y h23)]
                      first
                        | (rw [hz1, if_neg (fun y => y rfl), if_pos h78]; rw [hy0 h78])
                        | (rw [hz2, hz1]; rw [if_neg (fun y => y rfl), if_neg h78, if_neg (fun y => y rfl), if_pos (Nat.not_le.mp h89)])
                    have hk : (1 : Nat) ≠ 0 := by decide
                    refine j_aload_n 93 dX6_readsAll_92 rfl 0 rfl ?_
                    refine j_iconst (v := (1 : Int32)) 94 dX6_readsAll_93 rfl (by decide) ?_
                    refine j_putf 97 0 (wM g q (va_up (va_up Na 17 ZA) 19 ZB) Ia (va_up (va_up (va_up (va_up (va_up (va_up Ns 5 1) 13 (tE (Na 3) (Ns 4) zd)) 14 (tP (Na 3) (Ns 4) zd)) 15 (tE (Na 3) (Ns 4) zd)) 18 zH) 20 zB) (va_up Is 16 (nI (pLaw (Na 3) (Ns 4) 0).2.2))) dX6_readsAll_94 rfl fd_X6_113 rfl rfl rfl (gLe rfl) rfl ?_
                    refine j_iconst (v := (0 : Int32)) 98 dX6_readsAll_97 rfl (by decide) ?_
                    refine j_ws (wM g q (va_up (va_up Na 17 ZA) 19 ZB) Ia (va_up (va_up (va_up (va_up (va_up (va_up Ns 5 1) 13 (tE (Na 3) (Ns 4) zd)) 14 (tP (Na 3) (Ns 4) zd)) 15 (tE (Na 3) (Ns 4) zd)) 18 zH) 20 zB) (va_up Is 16 (nI (pLaw (Na 3) (Ns 4) 0).2.2))) rfl ?_
                    refine j_iret0 (c := (pAll (Na 3) (Ns 4) (Na 17) (Na 19)).1 = 0) dX6_readsAll_98 rfl (by rw [hL]; exact hk) ⟨gLe rfl, gLe rfl, ZA, ZB, zH, zB, tE (Na 3) (Ns 4) zd, tE (Na 3) (Ns 4) zd, (nI (pLaw (Na 3) (Ns 4) 0).2.2), fun y => absurd y (by rw [hL]; exact hk), rfl, ?_⟩
                    rw [hL]
                    all_goals first | done | rfl
                  ·
                    refine j_aload_n 82 dX6_readsAll_81 rfl 0 rfl ?_
                    refine j_getf 85 0 dX6_readsAll_82 rfl fd_X6_94 rfl rfl ?_
                    refine j_aload_n 86 dX6_readsAll_85 rfl 0 rfl ?_
                    refine j_getf 89 0 dX6_readsAll_86 rfl fd_X6_85 rfl rfl ?_
                    have hEd2 := tE_le (T := Na 3) hzd
                    have hPd2 := tP_le (T := Na 3) hzd
                    have hz2 : (pBs (Na 3) (Ns 4) 9 (pHs (Na 3) (Ns 4) (pLaw (Na 3) (Ns 4) 0).2.2 6 (pLaw (Na 3) (Ns 4) 0).2.1 0 (Na 17)).2.1 0 (Na 19)) = (0, zd, zB, ZB) := by rw [← hyR, show 9 - zB = 8 - zB + 1 by omega, pBs_e (by first | exact h62 | exact absurd h52 (by omega))]
                    refine j_icmp_geN (tP (Na 3) (Ns 4) zd) (Ns 4) 92 99 dX6_readsAll_89 rfl rfl (by have z0 := hPd2; have z1 := h4; omega) (by have z0 := h4; omega) (fun h89 => ?_) (fun h89 => ?_)
                    ·
                      have hL : (pAll (Na 3) (Ns 4) (Na 17) (Na 19)) = (0, zd, (pLaw (Na 3) (Ns 4) 0).2.2, zH, zB, ZA, ZB) := by
                        rw [pAll, if_neg (fun y => y h23), hz2, hz1]
                        rw [if_neg (fun y => y rfl), if_neg h78, if_neg (fun y => y rfl), if_neg (Nat.not_lt.mpr h89)]
                      refine j_iconst (v := (1 : Int32)) 100 dX6_readsAll_99 rfl (by decide) ?_
                      skip
                      refine j_iret1 (c := (pAll (Na 3) (Ns 4) (Na 17) (Na 19)).1 = 0) dX6_readsAll_100 rfl (by rw [hL]) ⟨gLe rfl, gLe rfl, ZA, ZB, zH, zB, tE (Na 3) (Ns 4) zd, tE (Na 3) (Ns 4) zd, (nI (pLaw (Na 3) (Ns 4) 0).2.2), fun _ => by rw [hL]; exact ⟨rfl, rfl, rfl, rfl, rfl⟩, rfl, ?_⟩
                      rw [hL]
                      all_goals first | done | rfl
                    ·
                      have hL : (pAll (Na 3) (Ns 4) (Na 17) (Na 19)) = (1, zd, 0, 0, 0, Na 17, Na 19) := by
                        rw [pAll, if_neg (fun y => y h23)]
                        first
                          | (rw [hz1, if_neg (fun y => y rfl), if_pos h78]; rw [hy0 h78])
                          | (rw [hz2, hz1]; rw [if_neg (fun y => y rfl), if_neg h78, if_neg (fun y => y rfl), if_pos (Nat.not_le.mp h89)])
                      have hk : (1 : Nat) ≠ 0 := by decide
                      refine j_aload_n 93 dX6_readsAll_92 rfl 0 rfl ?_
                      refine j_iconst (v := (1 : Int32)) 94 dX6_readsAll_93 rfl (by decide) ?_
                      refine j_putf 97 0 (wM g q (va_up (va_up Na 17 ZA) 19 ZB) Ia (va_up (va_up (va_up (va_up (va_up (va_up Ns 5 1) 13 (tE (Na 3) (Ns 4) zd)) 14 (tP (Na 3) (Ns 4) zd)) 15 (tE (Na 3) (Ns 4) zd)) 18 zH) 20 zB) (va_up Is 16 (nI (pLaw (Na 3) (Ns 4) 0).2.2))) dX6_readsAll_94 rfl fd_X6_113 rfl rfl rfl (gLe rfl) rfl ?_
                      refine j_iconst (v := (0 : Int32)) 98 dX6_readsAll_97 rfl (by decide) ?_
                      refine j_ws (wM g q (va_up (va_up Na 17 ZA) 19 ZB) Ia (va_up (va_up (va_up (va_up (va_up (va_up Ns 5 1) 13 (tE (Na 3) (Ns 4) zd)) 14 (tP (Na 3) (Ns 4) zd)) 15 (tE (Na 3) (Ns 4) zd)) 18 zH) 20 zB) (va_up Is 16 (nI (pLaw (Na 3) (Ns 4) 0).2.2))) rfl ?_
                      refine j_iret0 (c := (pAll (Na 3) (Ns 4) (Na 17) (Na 19)).1 = 0) dX6_readsAll_98 rfl (by rw [hL]; exact hk) ⟨gLe rfl, gLe rfl, ZA, ZB, zH, zB, tE (Na 3) (Ns 4) zd, tE (Na 3) (Ns 4) zd, (nI (pLaw (Na 3) (Ns 4) 0).2.2), fun y => absurd y (by rw [hL]; exact hk), rfl, ?_⟩
                      rw [hL]
                      all_goals first | done | rfl
                ·
                  refine j_aload_n 66 dX6_readsAll_65 rfl 0 rfl ?_
                  refine j_callVX (rest := []) 69 (c_X6_readsBeast g q (va_up (va_up Na 17 ZA) 19 ZB) Ia (va_up (va_up (va_up (va_up (va_up Ns 13 (tE (Na 3) (Ns 4) zd)) 14 (tP (Na 3) (Ns 4) zd)) 15 (tE (Na 3) (Ns 4) zd)) 18 zH) 20 zB) (va_up Is 16 (nI (pLaw (Na 3) (Ns 4) 0).2.2))  zd hT h4 hzd rfl rfl rfl hzB) dX6_readsAll_66 rfl cv_X6_160 rfl rfl 0 rfl rfl (gLe rfl) (gLe rfl) (gLe rfl) (gLe rfl) (fun rv w1 hp => ?_)
                  obtain ⟨ZA_2, zm_2, hZA_2, rfl, rfl⟩ := hp
                  refine ⟨(wM_len _ _ _ _ _ _ _ _ _ _), ?_⟩
                  refine j_eq (lv2 := [(0, .ref (q 26))]) (st2 := [.int (gB ((pBst (Na 3) (Ns 4) zB zd).1 = 0))]) (ws2 := (wM g q (va_up (va_up Na 17 ZA) 19 ZA_2) Ia (va_up (va_up (va_up (va_up (va_up (va_up Ns 5 (stsA (Ns 5) ((pBst (Na 3) (Ns 4) zB zd).1))) 13 (tE (Na 3) (Ns 4) ((pBst (Na 3) (Ns 4) zB zd).2.1))) 14 (tP (Na 3) (Ns 4) ((pBst (Na 3) (Ns 4) zB zd).2.1))) 15 (tE (Na 3) (Ns 4) ((pBst (Na 3) (Ns 4) zB zd).2.1))) 18 zH) 20 zm_2) (va_up Is 16 (nI (pLaw (Na 3) (Ns 4) 0).2.2)))) rfl rfl rfl ?_
                  refine j_if_neB 72 48 dX6_readsAll_69 rfl rfl (fun h69 => ?_) (fun h69 => ?_)
                  ·
                    refine j_lv [0] rfl ?_
                    obtain ⟨yx1, yx2⟩ := hZA_2 h69
                    subst yx1
                    subst yx2
                    refine j_ws (wM g q (va_up (va_up Na 17 ZA) 19 (upB ZB zB (pBst (Na 3) (Ns 4) zB zd).2.2.1 (pBst (Na 3) (Ns 4) zB zd).2.2.2)) Ia (va_up (va_up (va_up (va_up (va_up (va_up Ns 5 (stsA (Ns 5) ((pBst (Na 3) (Ns 4) zB zd).1))) 13 (tE (Na 3) (Ns 4) ((pBst (Na 3) (Ns 4) zB zd).2.1))) 14 (tP (Na 3) (Ns 4) ((pBst (Na 3) (Ns 4) zB zd).2.1))) 15 (tE (Na 3) (Ns 4) ((pBst (Na 3) (Ns 4) zB zd).2.1))) 18 zH) 20 (zB + 1)) (va_up Is 16 (nI (pLaw (Na 3) (Ns 4) 0).2.2))) rfl ?_
                    refine j_ws (wM g q (va_up (va_up Na 17 ZA) 19 (upB ZB zB (pBst (Na 3) (Ns 4) zB zd).2.2.1 (pBst (Na 3) (Ns 4) zB zd).2.2.2)) Ia (va_up (va_up (va_up (va_up (va_up Ns 13 (tE (Na 3) (Ns 4) ((pBst (Na 3) (Ns 4) zB zd).2.1))) 14 (tP (Na 3) (Ns 4) ((pBst (Na 3) (Ns 4) zB zd).2.1))) 15 (tE (Na 3) (Ns 4) ((pBst (Na 3) (Ns 4) zB zd).2.1))) 18 zH) 20 (zB + 1)) (va_up Is 16 (nI (pLaw (Na 3) (Ns 4) 0).2.2))) (by rw [stsA_0 h69, up_same Ns 5]) ?_
                    exact zih48 ((pBst (Na 3) (Ns 4) zB zd).2.1) (zB + 1) (upB ZB zB (pBst (Na 3) (Ns 4) zB zd).2.2.1 (pBst (Na 3) (Ns 4) zB zd).2.2.2) (by omega) (pBst_ok hzd) (by have := (show zB ≠ 8 from pBst_k h69); omega) (by rw [← hyR, show 9 - zB = 9 - (zB + 1) + 1 by omega, pBs_s h62 h69]) (fun y => absurd y (by omega))
                  ·
                    have hk := h69
                    have hz1 : (pHs (Na 3) (Ns 4) (pLaw (Na 3) (Ns 4) 0).2.2 6 (pLaw (Na 3) (Ns 4) 0).2.1 0 (Na 17)) = (0, zc, zH, ZA) := by rw [← hzR, show 6 - zH = 5 - zH + 1 by omega, pHs_e h36]
                    have hz2 : (pBs (Na 3) (Ns 4) 9 (pHs (Na 3) (Ns 4) (pLaw (Na 3) (Ns 4) 0).2.2 6 (pLaw (Na 3) (Ns 4) 0).2.1 0 (Na 17)).2.1 0 (Na 19)) = ((pBst (Na 3) (Ns 4) zB zd).1, (pBst (Na 3) (Ns 4) zB zd).2.1, zB, ZB) := by rw [← hyR, show 9 - zB = 8 - zB + 1 by omega, pBs_x h62 h69]
                    have hL : (pAll (Na 3) (Ns 4) (Na 17) (Na 19)) = ((pBst (Na 3) (Ns 4) zB zd).1, (pBst (Na 3) (Ns 4) zB zd).2.1, 0, 0, 0, Na 17, Na 19) := by
                      rw [pAll, if_neg (fun y => y h23), hz2, hz1]
                      rw [if_neg (fun y => y rfl), if_neg (by show ¬ zH = 0; omega), if_pos h69]
                    refine j_iconst (v := (0 : Int32)) 73 dX6_readsAll_72 rfl (by decide) ?_
                    refine j_ws (wM g q (va_up (va_up Na 17 ZA) 19 ZA_2) Ia (va_up (va_up (va_up (va_up (va_up (va_up Ns 5 (stsA (Ns 5) ((pBst (Na 3) (Ns 4) zB zd).1))) 13 (tE (Na 3) (Ns 4) ((pBst (Na 3) (Ns 4) zB zd).2.1))) 14 (tP (Na 3) (Ns 4) ((pBst (Na 3) (Ns 4) zB zd).2.1))) 15 (tE (Na 3) (Ns 4) ((pBst (Na 3) (Ns 4) zB zd).2.1))) 18 zH) 20 zm_2) (va_up Is 16 (nI (pLaw (Na 3) (Ns 4) 0).2.2))) rfl ?_
                    refine j_iret0 (c := (pAll (Na 3) (Ns 4) (Na 17) (Na 19)).1 = 0) dX6_readsAll_73 rfl (by rw [hL]; exact hk) ⟨gLe rfl, gLe rfl, ZA, ZA_2, zH, zm_2, tE (Na 3) (Ns 4) ((pBst (Na 3) (Ns 4) zB zd).2.1), tE (Na 3) (Ns 4) ((pBst (Na 3) (Ns 4) zB zd).2.1), (nI (pLaw (Na 3) (Ns 4) 0).2.2), fun y => absurd y (by rw [hL]; exact hk), rfl, ?_⟩
                    rw [hL]
                    all_goals first | done | rfl
          have hz1 : (pHs (Na 3) (Ns 4) (pLaw (Na 3) (Ns 4) 0).2.2 6 (pLaw (Na 3) (Ns 4) 0).2.1 0 (Na 17)) = (0, zc, zH, ZA) := by rw [← hzR, show 6 - zH = 5 - zH + 1 by omega, pHs_e h36]
          refine j_ws (wM g q (va_up (va_up Na 17 ZA) 19 (Na 19)) Ia (va_up (va_up (va_up (va_up (va_up Ns 13 (tE (Na 3) (Ns 4) zc)) 14 (tP (Na 3) (Ns 4) zc)) 15 (tE (Na 3) (Ns 4) zc)) 18 zH) 20 0) (va_up Is 16 (nI (pLaw (Na 3) (Ns 4) 0).2.2))) (by rw [up_eqs _ 19 (Na 19)]; all_goals first | done | rfl) ?_
          refine j_lv [0] rfl ?_
          exact hL48 _ zc 0 (Na 19) (Nat.lt_succ_self _) hzc (Nat.zero_le _) (by rw [hz1]) (fun _ => rfl)
        ·
          refine j_aload_n 40 dX6_readsAll_39 rfl 0 rfl ?_
          refine j_callVX (rest := []) 43 (c_X6_readsHurdle g q (va_up Na 17 ZA) Ia (va_up (va_up (va_up (va_up (va_up Ns 13 (tE (Na 3) (Ns 4) zc)) 14 (tP (Na 3) (Ns 4) zc)) 15 (tE (Na 3) (Ns 4) zc)) 18 zH) 20 0) (va_up Is 16 (nI (pLaw (Na 3) (Ns 4) 0).2.2))  zc ((pLaw (Na 3) (Ns 4) 0).2.2) hT h4 hzc rfl rfl rfl (hlk.2 h23).2 rfl hzH) dX6_readsAll_40 rfl cv_X6_156 rfl rfl 0 rfl rfl (gLe rfl) (gLe rfl) (gLe rfl) (gLe rfl) (fun rv w1 hp => ?_)
          obtain ⟨ZA_3, zm_3, hZA_3, rfl, rfl⟩ := hp
          refine ⟨(wM_len _ _ _ _ _ _ _ _ _ _), ?_⟩
          refine j_eq (lv2 := [(0, .ref (q 26))]) (st2 := [.int (gB ((pHur (Na 3) (Ns 4) ((pLaw (Na 3) (Ns 4) 0).2.2) zH zc).1 = 0))]) (ws2 := (wM g q (va_up Na 17 ZA_3) Ia (va_up (va_up (va_up (va_up (va_up (va_up Ns 5 (stsA (Ns 5) ((pHur (Na 3) (Ns 4) ((pLaw (Na 3) (Ns 4) 0).2.2) zH zc).1))) 13 (tE (Na 3) (Ns 4) ((pHur (Na 3) (Ns 4) ((pLaw (Na 3) (Ns 4) 0).2.2) zH zc).2.1))) 14 (tP (Na 3) (Ns 4) ((pHur (Na 3) (Ns 4) ((pLaw (Na 3) (Ns 4) 0).2.2) zH zc).2.1))) 15 (tE (Na 3) (Ns 4) ((pHur (Na 3) (Ns 4) ((pLaw (Na 3) (Ns 4) 0).2.2) zH zc).2.1))) 18 zm_3) 20 0) (va_up Is 16 (nI (pLaw (Na 3) (Ns 4) 0).2.2)))) rfl rfl rfl ?_
          refine j_if_neB 46 28 dX6_readsAll_43 rfl rfl (fun h43 => ?_) (fun h43 => ?_)
          ·
            refine j_lv [0] rfl ?_
            obtain ⟨yx1, yx2⟩ := hZA_3 h43
            subst yx1
            subst yx2
            refine j_ws (wM g q (va_up Na 17 (upH ZA zH (pHur (Na 3) (Ns 4) (pLaw (Na 3) (Ns 4) 0).2.2 zH zc).2.2.1 (pHur (Na 3) (Ns 4) (pLaw (Na 3) (Ns 4) 0).2.2 zH zc).2.2.2.1 (pHur (Na 3) (Ns 4) (pLaw (Na 3) (Ns 4) 0).2.2 zH zc).2.2.2.2.1 (pHur (Na 3) (Ns 4) (pLaw (Na 3) (Ns 4) 0).2.2 zH zc).2.2.2.2.2)) Ia (va_up (va_up (va_up (va_up (va_up (va_up Ns 5 (stsA (Ns 5) ((pHur (Na 3) (Ns 4) ((pLaw (Na 3) (Ns 4) 0).2.2) zH zc).1))) 13 (tE (Na 3) (Ns 4) ((pHur (Na 3) (Ns 4) ((pLaw (Na 3) (Ns 4) 0).2.2) zH zc).2.1))) 14 (tP (Na 3) (Ns 4) ((pHur (Na 3) (Ns 4) ((pLaw (Na 3) (Ns 4) 0).2.2) zH zc).2.1))) 15 (tE (Na 3) (Ns 4) ((pHur (Na 3) (Ns 4) ((pLaw (Na 3) (Ns 4) 0).2.2) zH zc).2.1))) 18 (zH + 1)) 20 0) (va_up Is 16 (nI (pLaw (Na 3) (Ns 4) 0).2.2))) rfl ?_
            refine j_ws (wM g q (va_up Na 17 (upH ZA zH (pHur (Na 3) (Ns 4) (pLaw (Na 3) (Ns 4) 0).2.2 zH zc).2.2.1 (pHur (Na 3) (Ns 4) (pLaw (Na 3) (Ns 4) 0).2.2 zH zc).2.2.2.1 (pHur (Na 3) (Ns 4) (pLaw (Na 3) (Ns 4) 0).2.2 zH zc).2.2.2.2.1 (pHur (Na 3) (Ns 4) (pLaw (Na 3) (Ns 4) 0).2.2 zH zc).2.2.2.2.2)) Ia (va_up (va_up (va_up (va_up (va_up Ns 13 (tE (Na 3) (Ns 4) ((pHur (Na 3) (Ns 4) ((pLaw (Na 3) (Ns 4) 0).2.2) zH zc).2.1))) 14 (tP (Na 3) (Ns 4) ((pHur (Na 3) (Ns 4) ((pLaw (Na 3) (Ns 4) 0).2.2) zH zc).2.1))) 15 (tE (Na 3) (Ns 4) ((pHur (Na 3) (Ns 4) ((pLaw (Na 3) (Ns 4) 0).2.2) zH zc).2.1))) 18 (zH + 1)) 20 0) (va_up Is 16 (nI (pLaw (Na 3) (Ns 4) 0).2.2))) (by rw [stsA_0 h43, up_same Ns 5]) ?_
            exact zih28 ((pHur (Na 3) (Ns 4) (pLaw (Na 3) (Ns 4) 0).2.2 zH zc).2.1) (zH + 1) (upH ZA zH (pHur (Na 3) (Ns 4) (pLaw (Na 3) (Ns 4) 0).2.2 zH zc).2.2.1 (pHur (Na 3) (Ns 4) (pLaw (Na 3) (Ns 4) 0).2.2 zH zc).2.2.2.1 (pHur (Na 3) (Ns 4) (pLaw (Na 3) (Ns 4) 0).2.2 zH zc).2.2.2.2.1 (pHur (Na 3) (Ns 4) (pLaw (Na 3) (Ns 4) 0).2.2 zH zc).2.2.2.2.2) (by omega) (pHur_ok hzc) (by have := (show zH ≠ 5 from pHur_k h43); omega) (by rw [← hzR, show 6 - zH = 6 - (zH + 1) + 1 by omega, pHs_s h36 h43])
          ·
            have hk := h43
            have hz1 : (pHs (Na 3) (Ns 4) (pLaw (Na 3) (Ns 4) 0).2.2 6 (pLaw (Na 3) (Ns 4) 0).2.1 0 (Na 17)) = ((pHur (Na 3) (Ns 4) (pLaw (Na 3) (Ns 4) 0).2.2 zH zc).1, (pHur (Na 3) (Ns 4) (pLaw (Na 3) (Ns 4) 0).2.2 zH zc).2.1, zH, ZA) := by rw [← hzR, show 6 - zH = 5 - zH + 1 by omega, pHs_x h36 h43]
            have hL : (pAll (Na 3) (Ns 4) (Na 17) (Na 19)) = ((pHur (Na 3) (Ns 4) (pLaw (Na 3) (Ns 4) 0).2.2 zH zc).1, (pHur (Na 3) (Ns 4) (pLaw (Na 3) (Ns 4) 0).2.2 zH zc).2.1, 0, 0, 0, Na 17, Na 19) := by rw [pAll, if_neg (fun y => y h23), hz1, if_pos h43]
            refine j_iconst (v := (0 : Int32)) 47 dX6_readsAll_46 rfl (by decide) ?_
            refine j_ws (wM g q (va_up Na 17 ZA_3) Ia (va_up (va_up (va_up (va_up (va_up (va_up Ns 5 (stsA (Ns 5) ((pHur (Na 3) (Ns 4) ((pLaw (Na 3) (Ns 4) 0).2.2) zH zc).1))) 13 (tE (Na 3) (Ns 4) ((pHur (Na 3) (Ns 4) ((pLaw (Na 3) (Ns 4) 0).2.2) zH zc).2.1))) 14 (tP (Na 3) (Ns 4) ((pHur (Na 3) (Ns 4) ((pLaw (Na 3) (Ns 4) 0).2.2) zH zc).2.1))) 15 (tE (Na 3) (Ns 4) ((pHur (Na 3) (Ns 4) ((pLaw (Na 3) (Ns 4) 0).2.2) zH zc).2.1))) 18 zm_3) 20 0) (va_up Is 16 (nI (pLaw (Na 3) (Ns 4) 0).2.2))) rfl ?_
            refine j_iret0 (c := (pAll (Na 3) (Ns 4) (Na 17) (Na 19)).1 = 0) dX6_readsAll_47 rfl (by rw [hL]; exact hk) ⟨gLe rfl, gLe rfl, ZA_3, Na 19, zm_3, 0, tE (Na 3) (Ns 4) ((pHur (Na 3) (Ns 4) ((pLaw (Na 3) (Ns 4) 0).2.2) zH zc).2.1), tE (Na 3) (Ns 4) ((pHur (Na 3) (Ns 4) ((pLaw (Na 3) (Ns 4) 0).2.2) zH zc).2.1), (nI (pLaw (Na 3) (Ns 4) 0).2.2), fun y => absurd y (by rw [hL]; exact hk), rfl, ?_⟩
            rw [hL]
            all_goals first | done | rfl
    have hP6 := hlk.2 h23
    refine j_ws (wM g q Na Ia (va_up (va_up (va_up (va_up (va_up (va_up Ns 5 (stsA (Ns 5) ((pLaw (Na 3) (Ns 4) 0).1))) 13 (tE (Na 3) (Ns 4) ((pLaw (Na 3) (Ns 4) 0).2.1))) 14 (tP (Na 3) (Ns 4) ((pLaw (Na 3) (Ns 4) 0).2.1))) 15 (tE (Na 3) (Ns 4) ((pLaw (Na 3) (Ns 4) 0).2.1))) 18 0) 20 0) (va_up Is 16 ZP_1)) rfl ?_
    refine j_ws (wM g q (va_up Na 17 (Na 17)) Ia (va_up (va_up (va_up (va_up (va_up Ns 13 (tE (Na 3) (Ns 4) ((pLaw (Na 3) (Ns 4) 0).2.1))) 14 (tP (Na 3) (Ns 4) ((pLaw (Na 3) (Ns 4) 0).2.1))) 15 (tE (Na 3) (Ns 4) ((pLaw (Na 3) (Ns 4) 0).2.1))) 18 0) 20 0) (va_up Is 16 (nI (pLaw (Na 3) (Ns 4) 0).2.2))) (by rw [stsA_0 h23, up_same Ns 5, hZP_1 h23, up_same Na 17]; all_goals first | done | rfl) ?_
    refine j_lv [0] rfl ?_
    exact hL28 _ ((pLaw (Na 3) (Ns 4) 0).2.1) 0 (Na 17) (Nat.lt_succ_self _) hlk.1 (Nat.zero_le _) rfl
  ·
    have hk := h23
    have hL : (pAll (Na 3) (Ns 4) (Na 17) (Na 19)) = ((pLaw (Na 3) (Ns 4) 0).1, (pLaw (Na 3) (Ns 4) 0).2.1, 0, 0, 0, Na 17, Na 19) := if_pos h23
    refine j_iconst (v := (0 : Int32)) 27 dX6_readsAll_26 rfl (by decide) ?_
    refine j_ws (wM g q Na Ia (va_up (va_up (va_up (va_up (va_up (va_up Ns 5 (stsA (Ns 5) ((pLaw (Na 3) (Ns 4) 0).1))) 13 (tE (Na 3) (Ns 4) ((pLaw (Na 3) (Ns 4) 0).2.1))) 14 (tP (Na 3) (Ns 4) ((pLaw (Na 3) (Ns 4) 0).2.1))) 15 (tE (Na 3) (Ns 4) ((pLaw (Na 3) (Ns 4) 0).2.1))) 18 0) 20 0) (va_up Is 16 ZP_1)) rfl ?_
    refine j_iret0 (c := (pAll (Na 3) (Ns 4) (Na 17) (Na 19)).1 = 0) dX6_readsAll_27 rfl (by rw [hL]; exact hk) ⟨gLe rfl, gLe rfl, Na 17, Na 19, 0, 0, tE (Na 3) (Ns 4) ((pLaw (Na 3) (Ns 4) 0).2.1), tE (Na 3) (Ns 4) ((pLaw (Na 3) (Ns 4) 0).2.1), ZP_1, fun y => absurd y (by rw [hL]; exact hk), rfl, ?_⟩
    rw [hL]
    all_goals first | done | rfl
