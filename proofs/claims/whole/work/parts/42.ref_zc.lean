theorem fldR_eq (R A B : Nat → Nat) (P H nb : Nat) : va_cpy (fun _ => 0) (va_cpy B (va_cpy A (va_up (va_up (va_up (va_up R 0 1) 1 P) 2 H) 3 nb) 0 4 20) 0 24 16) 0 40 18 = fldR R A B P H nb := by
  funext k
  simp only [va_cpy, va_up, fldR]
  by_cases h58 : 58 ≤ k
  · rw [if_neg (by omega), if_neg (by omega), if_neg (by omega), if_neg (by omega), if_neg (by omega), if_neg (by omega), if_neg (by omega), if_neg (by omega), if_neg (by omega), if_neg (by omega), if_neg (by omega), if_neg (by omega), if_neg (by omega), if_neg (by omega)]
  · by_cases h40 : 40 ≤ k
    · rw [if_pos (by omega), if_neg (by omega), if_neg (by omega), if_neg (by omega), if_neg (by omega), if_neg (by omega), if_neg (by omega), if_pos (by omega)]
    · rw [if_neg (by omega)]
      by_cases h24 : 24 ≤ k
      · rw [if_pos (by omega), if_neg (by omega), if_neg (by omega), if_neg (by omega), if_neg (by omega), if_neg (by omega), if_pos (by omega), Nat.zero_add]
      · rw [if_neg (by omega)]
        by_cases h4 : 4 ≤ k
        · rw [if_pos (by omega), if_neg (by omega), if_neg (by omega), if_neg (by omega), if_neg (by omega), if_pos (by omega), Nat.zero_add]
        · rw [if_neg (by omega)]
          match k, h4 with
          | 0, _ => rfl
          | 1, _ => rfl
          | 2, _ => rfl
          | 3, _ => rfl
          | k + 4, h => exact absurd (by omega) h
theorem pAll_le {T : Nat → Nat} {n : Nat} {A B : Nat → Nat} : (pAll T n A B).2.2.2.1 ≤ 100 → True := fun _ => trivial
set_option maxRecDepth 20000 in
theorem c_X6_fold (g : gG) (q : Nat → Nat) (Na : Nat → Nat → Nat) (Ia : Nat → Nat → Int32) (Ns : Nat → Nat) (Is : Nat → Int32)  (hI : RI (Na, Ia, Ns, Is)) : gCon g mX6_fold 5 0 0 [.ref (q 26)] (wS g q (Na, Ia, Ns, Is)) (fun rv ws' => ∃ S9 : RS, Gq S9 (pM_fold  (Na, Ia, Ns, Is)).2 ∧ rv = some (.int (pM_fold  (Na, Ia, Ns, Is)).1) ∧ ws' = wS g q S9) := by
  refine gCon.of (lv := [(0, .ref (q 26))]) (by decide) (gLe rfl) rfl ?_
  refine j_ws (wM g q Na Ia Ns Is) rfl ?_
  have h8 : Na 0 1 ≤ 6 ∧ Na 0 2 ≤ 5 ∧ Na 0 3 ≤ 8 ∧ Na 0 0 ≤ 1 := RI_3 hI
  have h40 : Na 0 40 < 32 ∧ (∀ j, j < 5 → Na 0 (41 + j) ≤ 9999) ∧ (∀ p, p < 6 → Na 0 (46 + p) ≤ 9999 ∧ Na 0 (52 + p) ≤ 989901) ∧ inP (Na 0) ≤ 9999 := RI_40 hI
  have hpm : Ns 2 ≤ 24 := hI.2.1
  have hsz : ∀ r, r < 8 → Na 8 r ≤ 40 := hI.2.2.2.2.2.2.2.1
  have htr : Ns 11 ≤ 16 := hI.2.2.2.2.2.2.2.2.1
  have hst : Is 12 = -1000000 := hI.2.2.2.2.2.2.2.2.2.1
  have htp : Ns 4 ≤ 400 := hI.2.2.2.2.1
  have hT : ∀ k, Na 3 k < 256 := hI.2.2.2.2.2.1
  have h4 : Ns 4 ≤ 400 := hI.2.2.2.2.1
  refine j_aload_n 1 dX6_fold_0 rfl 0 rfl ?_
  refine j_callVX (rest := []) 4 (c_X6_readsAll g q Na Ia Ns Is   hT h4) dX6_fold_1 rfl cv_X6_163 rfl rfl 0 rfl rfl (gLe rfl) (gLe rfl) (gLe rfl) (gLe rfl) (fun rv w1 hp => ?_)
  obtain ⟨ZA_1, ZB_1, zm_1, zn_1, z13_1, z15_1, ZP_1, hZA_1, rfl, rfl⟩ := hp
  refine ⟨(wM_len _ _ _ _ _ _ _ _ _ _), ?_⟩
  refine j_eq (lv2 := [(0, .ref (q 26))]) (st2 := [.int (gB ((pAll (Na 3) (Ns 4) (Na 17) (Na 19)).1 = 0))]) (ws2 := (wM g q (va_up (va_up Na 17 ZA_1) 19 ZB_1) Ia (va_up (va_up (va_up (va_up (va_up (va_up Ns 5 (stsA (Ns 5) ((pAll (Na 3) (Ns 4) (Na 17) (Na 19)).1))) 13 z13_1) 14 (tP (Na 3) (Ns 4) (pAll (Na 3) (Ns 4) (Na 17) (Na 19)).2.1)) 15 z15_1) 18 zm_1) 20 zn_1) (va_up Is 16 ZP_1))) rfl rfl rfl ?_
  generalize hPA : (pAll (Na 3) (Ns 4) (Na 17) (Na 19)) = zPA at hZA_1 ⊢
  refine j_istore_n 5 [(1, .int (gB (zPA.1 = 0))), (0, .ref (q 26))] dX6_fold_4 rfl (by decide) rfl ?_
  refine j_aload_n 6 dX6_fold_5 rfl 1 rfl ?_
  refine j_getf 9 0 dX6_fold_6 rfl fd_X6_94 rfl rfl ?_
  refine j_topN _ (tP (Na 3) (Ns 4) zPA.2.1) rfl ?_
  refine j_istore_n 10 [(2, .int (nI (tP (Na 3) (Ns 4) zPA.2.1))), (1, .int (gB (zPA.1 = 0))), (0, .ref (q 26))] dX6_fold_9 rfl (by decide) rfl ?_
  refine j_aload_n 11 dX6_fold_10 rfl 2 rfl ?_
  refine j_iconst (v := (0 : Int32)) 12 dX6_fold_11 rfl (by decide) ?_
  refine j_putf 15 0 (wM g q (va_up (va_up Na 17 ZA_1) 19 ZB_1) Ia (va_up (va_up (va_up (va_up (va_up (va_up (va_up Ns 4 0) 5 (stsA (Ns 5) (zPA.1))) 13 z13_1) 14 (tP (Na 3) (Ns 4) zPA.2.1)) 15 z15_1) 18 zm_1) 20 zn_1) (va_up Is 16 ZP_1)) dX6_fold_12 rfl fd_X6_85 rfl rfl rfl (gLe rfl) rfl ?_
  refine j_iload_n 16 dX6_fold_15 rfl 1 rfl ?_
  refine j_if_neB 19 24 dX6_fold_16 rfl rfl (fun h16 => ?_) (fun h16 => ?_)
  ·
    obtain ⟨yx1, yx2, yx3, yx4, yx5⟩ := hZA_1 h16
    subst yx1
    subst yx2
    subst yx3
    subst yx4
    subst yx5
    refine j_ws (wM g q (va_up (va_up Na 17 zPA.2.2.2.2.2.1) 19 zPA.2.2.2.2.2.2) Ia (va_up (va_up (va_up (va_up (va_up (va_up (va_up Ns 4 0) 5 (stsA (Ns 5) (zPA.1))) 13 z13_1) 14 (tP (Na 3) (Ns 4) zPA.2.1)) 15 z15_1) 18 zPA.2.2.2.1) 20 zPA.2.2.2.2.1) (va_up Is 16 (nI zPA.2.2.1))) rfl ?_
    refine j_ws (wM g q (va_up (va_up Na 17 zPA.2.2.2.2.2.1) 19 zPA.2.2.2.2.2.2) Ia (va_up (va_up (va_up (va_up (va_up (va_up Ns 4 0) 13 z13_1) 14 (tP (Na 3) (Ns 4) zPA.2.1)) 15 z15_1) 18 zPA.2.2.2.1) 20 zPA.2.2.2.2.1) (va_up Is 16 (nI zPA.2.2.1))) (by rw [stsA_0 h16]; (first | rw [up_eqs _ 5 (Ns 5)] | skip); all_goals first | done | rfl) ?_
    refine j_aload_n 25 dX6_fold_24 rfl 2 rfl ?_
    refine j_getf 28 0 dX6_fold_25 rfl fd_X6_7 rfl rfl ?_
    refine j_iconst (v := (0 : Int32)) 29 dX6_fold_28 rfl (by decide) ?_
    refine j_iconst (v := (1 : Int32)) 30 dX6_fold_29 rfl (by decide) ?_
    refine j_iastN 1 0 31 1 (wM g q (va_up (va_up (va_up Na 0 (va_up (Na 0) 0 1)) 17 zPA.2.2.2.2.2.1) 19 zPA.2.2.2.2.2.2) Ia (va_up (va_up (va_up (va_up (va_up (va_up Ns 4 0) 13 z13_1) 14 (tP (Na 3) (Ns 4) zPA.2.1)) 15 z15_1) 18 zPA.2.2.2.1) 20 zPA.2.2.2.2.1) (va_up Is 16 (nI zPA.2.2.1))) dX6_fold_30 rfl rfl (by decide) (by decide) rfl ?_
    refine j_aload_n 32 dX6_fold_31 rfl 2 rfl ?_
    refine j_getf 35 0 dX6_fold_32 rfl fd_X6_7 rfl rfl ?_
    refine j_iconst (v := (1 : Int32)) 36 dX6_fold_35 rfl (by decide) ?_
    refine j_aload_n 37 dX6_fold_36 rfl 2 rfl ?_
    refine j_getf 40 0 dX6_fold_37 rfl fd_X6_123 rfl rfl ?_
    refine j_iastN zPA.2.2.1 1 41 1 (wM g q (va_up (va_up (va_up Na 0 (va_up (va_up (Na 0) 0 1) 1 zPA.2.2.1)) 17 zPA.2.2.2.2.2.1) 19 zPA.2.2.2.2.2.2) Ia (va_up (va_up (va_up (va_up (va_up (va_up Ns 4 0) 13 z13_1) 14 (tP (Na 3) (Ns 4) zPA.2.1)) 15 z15_1) 18 zPA.2.2.2.1) 20 zPA.2.2.2.2.1) (va_up Is 16 (nI zPA.2.2.1))) dX6_fold_40 rfl rfl (by decide) (by decide) rfl ?_
    refine j_aload_n 42 dX6_fold_41 rfl 2 rfl ?_
    refine j_getf 45 0 dX6_fold_42 rfl fd_X6_7 rfl rfl ?_
    refine j_iconst (v := (2 : Int32)) 46 dX6_fold_45 rfl (by decide) ?_
    refine j_aload_n 47 dX6_fold_46 rfl 2 rfl ?_
    refine j_getf 50 0 dX6_fold_47 rfl fd_X6_128 rfl rfl ?_
    refine j_iastN zPA.2.2.2.1 2 51 1 (wM g q (va_up (va_up (va_up Na 0 (va_up (va_up (va_up (Na 0) 0 1) 1 zPA.2.2.1) 2 zPA.2.2.2.1)) 17 zPA.2.2.2.2.2.1) 19 zPA.2.2.2.2.2.2) Ia (va_up (va_up (va_up (va_up (va_up (va_up Ns 4 0) 13 z13_1) 14 (tP (Na 3) (Ns 4) zPA.2.1)) 15 z15_1) 18 zPA.2.2.2.1) 20 zPA.2.2.2.2.1) (va_up Is 16 (nI zPA.2.2.1))) dX6_fold_50 rfl rfl (by decide) (by decide) rfl ?_
    refine j_aload_n 52 dX6_fold_51 rfl 2 rfl ?_
    refine j_getf 55 0 dX6_fold_52 rfl fd_X6_7 rfl rfl ?_
    refine j_iconst (v := (3 : Int32)) 56 dX6_fold_55 rfl (by decide) ?_
    refine j_aload_n 57 dX6_fold_56 rfl 2 rfl ?_
    refine j_getf 60 0 dX6_fold_57 rfl fd_X6_146 rfl rfl ?_
    refine j_iastN zPA.2.2.2.2.1 3 61 1 (wM g q (va_up (va_up (va_up Na 0 (va_up (va_up (va_up (va_up (Na 0) 0 1) 1 zPA.2.2.1) 2 zPA.2.2.2.1) 3 zPA.2.2.2.2.1)) 17 zPA.2.2.2.2.2.1) 19 zPA.2.2.2.2.2.2) Ia (va_up (va_up (va_up (va_up (va_up (va_up Ns 4 0) 13 z13_1) 14 (tP (Na 3) (Ns 4) zPA.2.1)) 15 z15_1) 18 zPA.2.2.2.1) 20 zPA.2.2.2.2.1) (va_up Is 16 (nI zPA.2.2.1))) dX6_fold_60 rfl rfl (by decide) (by decide) rfl ?_
    refine j_iconst (v := (0 : Int32)) 62 dX6_fold_61 rfl (by decide) ?_
    refine j_istore_n 63 [(3, .int (0 : Int32)), (2, .int (nI (tP (Na 3) (Ns 4) zPA.2.1))), (1, .int (gB (zPA.1 = 0))), (0, .ref (q 26))] dX6_fold_62 rfl (by decide) rfl ?_
    have hL63 : ∀ (zm63 : Nat) (zi : Nat), 20 - zi < zm63 → (zi ≤ 20) → gJ g mX6_fold 5 0 0 (fun k' j' rv ws' => k' ≤ 0 ∧ j' ≤ 0 ∧ (∃ S9 : RS, Gq S9 (pM_fold  (Na, Ia, Ns, Is)).2 ∧ rv = some (.int (pM_fold  (Na, Ia, Ns, Is)).1) ∧ ws' = wS g q S9)) 0 0 63 [(3, .int (nI zi)), (0, .ref (q 26)), (2, .int (nI (tP (Na 3) (Ns 4) zPA.2.1))), (1, .int (gB (zPA.1 = 0)))] [] (wM g q (va_up (va_up (va_up Na 0 (va_cpy zPA.2.2.2.2.2.1 (va_up (va_up (va_up (va_up (Na 0) 0 1) 1 zPA.2.2.1) 2 zPA.2.2.2.1) 3 zPA.2.2.2.2.1) 0 4 zi)) 17 zPA.2.2.2.2.2.1) 19 zPA.2.2.2.2.2.2) Ia (va_up (va_up (va_up (va_up (va_up (va_up Ns 4 0) 13 z13_1) 14 (tP (Na 3) (Ns 4) zPA.2.1)) 15 z15_1) 18 zPA.2.2.2.1) 20 zPA.2.2.2.2.1) (va_up Is 16 (nI zPA.2.2.1))) := by
      intro zm63
      induction zm63 with
      | zero => intro zi zmh; exact absurd zmh (Nat.not_lt_zero _)
      | succ zm63 zih63 =>
        intro zi zmh63 hzi
        refine j_iload_n 64 dX6_fold_63 rfl 0 rfl ?_
        refine j_bipush (v := (20 : Int32)) 66 dX6_fold_64 rfl (by decide) ?_
        refine j_icmp_geN zi 20 69 89 dX6_fold_66 rfl rfl (by omega) (by decide) (fun h66 => ?_) (fun h66 => ?_)
        ·
          have ye : zi = 20 := by omega
          subst ye
          refine j_iconst (v := (0 : Int32)) 90 dX6_fold_89 rfl (by decide) ?_
          refine j_istore_n 91 [(3, .int (0 : Int32)), (0, .ref (q 26)), (2, .int (nI (tP (Na 3) (Ns 4) zPA.2.1))), (1, .int (gB (zPA.1 = 0)))] dX6_fold_90 rfl (by decide) rfl ?_
          have hL91 : ∀ (zm91 : Nat) (zj : Nat), 16 - zj < zm91 → (zj ≤ 16) → gJ g mX6_fold 5 0 0 (fun k' j' rv ws' => k' ≤ 0 ∧ j' ≤ 0 ∧ (∃ S9 : RS, Gq S9 (pM_fold  (Na, Ia, Ns, Is)).2 ∧ rv = some (.int (pM_fold  (Na, Ia, Ns, Is)).1) ∧ ws' = wS g q S9)) 0 0 91 [(3, .int (nI zj)), (0, .ref (q 26)), (2, .int (nI (tP (Na 3) (Ns 4) zPA.2.1))), (1, .int (gB (zPA.1 = 0)))] [] (wM g q (va_up (va_up (va_up Na 0 (va_cpy zPA.2.2.2.2.2.2 (va_cpy zPA.2.2.2.2.2.1 (va_up (va_up (va_up (va_up (Na 0) 0 1) 1 zPA.2.2.1) 2 zPA.2.2.2.1) 3 zPA.2.2.2.2.1) 0 4 20) 0 24 zj)) 17 zPA.2.2.2.2.2.1) 19 zPA.2.2.2.2.2.2) Ia (va_up (va_up (va_up (va_up (va_up (va_up Ns 4 0) 13 z13_1) 14 (tP (Na 3) (Ns 4) zPA.2.1)) 15 z15_1) 18 zPA.2.2.2.1) 20 zPA.2.2.2.2.1) (va_up Is 16 (nI zPA.2.2.1))) := by
            intro zm91
            induction zm91 with
            | zero => intro zj zmh; exact absurd zmh (Nat.not_lt_zero _)
            | succ zm91 zih91 =>
              intro zj zmh91 hzj
              refine j_iload_n 92 dX6_fold_91 rfl 0 rfl ?_
              refine j_bipush (v := (16 : Int32)) 94 dX6_fold_92 rfl (by decide) ?_
              refine j_icmp_geN zj 16 97 118 dX6_fold_94 rfl rfl (by omega) (by decide) (fun h94 => ?_) (fun h94 => ?_)
              ·
                have ye : zj = 16 := by omega
                subst ye
                refine j_iconst (v := (0 : Int32)) 119 dX6_fold_118 rfl (by decide) ?_
                refine j_istore_n 120 [(3, .int (0 : Int32)), (0, .ref (q 26)), (2, .int (nI (tP (Na 3) (Ns 4) zPA.2.1))), (1, .int (gB (zPA.1 = 0)))] dX6_fold_119 rfl (by decide) rfl ?_
                have hL120 : ∀ (zm120 : Nat) (zl : Nat), 18 - zl < zm120 → (zl ≤ 18) → gJ g mX6_fold 5 0 0 (fun k' j' rv ws' => k' ≤ 0 ∧ j' ≤ 0 ∧ (∃ S9 : RS, Gq S9 (pM_fold  (Na, Ia, Ns, Is)).2 ∧ rv = some (.int (pM_fold  (Na, Ia, Ns, Is)).1) ∧ ws' = wS g q S9)) 0 0 120 [(3, .int (nI zl)), (0, .ref (q 26)), (2, .int (nI (tP (Na 3) (Ns 4) zPA.2.1))), (1, .int (gB (zPA.1 = 0)))] [] (wM g q (va_up (va_up (va_up Na 0 (va_cpy (fun _ => 0) (va_cpy zPA.2.2.2.2.2.2 (va_cpy zPA.2.2.2.2.2.1 (va_up (va_up (va_up (va_up (Na 0) 0 1) 1 zPA.2.2.1) 2 zPA.2.2.2.1) 3 zPA.2.2.2.2.1) 0 4 20) 0 24 16) 0 40 zl)) 17 zPA.2.2.2.2.2.1) 19 zPA.2.2.2.2.2.2) Ia (va_up (va_up (va_up (va_up (va_up (va_up Ns 4 0) 13 z13_1) 14 (tP (Na 3) (Ns 4) zPA.2.1)) 15 z15_1) 18 zPA.2.2.2.1) 20 zPA.2.2.2.2.1) (va_up Is 16 (nI zPA.2.2.1))) := by
                  intro zm120
                  induction zm120 with
                  | zero => intro zl zmh; exact absurd zmh (Nat.not_lt_zero _)
                  | succ zm120 zih120 =>
                    intro zl zmh120 hzl
                    refine j_iload_n 121 dX6_fold_120 rfl 0 rfl ?_
                    refine j_bipush (v := (18 : Int32)) 123 dX6_fold_121 rfl (by decide) ?_
                    refine j_icmp_geN zl 18 126 142 dX6_fold_123 rfl rfl (by omega) (by decide) (fun h123 => ?_) (fun h123 => ?_)
                    ·
                      have ye : zl = 18 := by omega
                      subst ye
                      refine j_ws (wM g q (va_up (va_up (va_up Na 0 (fldR (Na 0) zPA.2.2.2.2.2.1 zPA.2.2.2.2.2.2 zPA.2.2.1 zPA.2.2.2.1 zPA.2.2.2.2.1)) 17 zPA.2.2.2.2.2.1) 19 zPA.2.2.2.2.2.2) Ia (va_up (va_up (va_up (va_up (va_up (va_up Ns 4 0) 13 z13_1) 14 (tP (Na 3) (Ns 4) zPA.2.1)) 15 z15_1) 18 zPA.2.2.2.1) 20 zPA.2.2.2.2.1) (va_up Is 16 (nI zPA.2.2.1))) (congrArg (fun z => wM g q (va_up (va_up (va_up Na 0 z) 17 zPA.2.2.2.2.2.1) 19 zPA.2.2.2.2.2.2) Ia (va_up (va_up (va_up (va_up (va_up (va_up Ns 4 0) 13 z13_1) 14 (tP (Na 3) (Ns 4) zPA.2.1)) 15 z15_1) 18 zPA.2.2.2.1) 20 zPA.2.2.2.2.1) (va_up Is 16 (nI zPA.2.2.1))) (fldR_eq _ _ _ _ _ _)) ?_
                      refine j_aload_n 143 dX6_fold_142 rfl 1 rfl ?_
                      refine j_iconst (v := (0 : Int32)) 144 dX6_fold_143 rfl (by decide) ?_
                      refine j_putf 147 0 (wM g q (va_up (va_up (va_up Na 0 (fldR (Na 0) zPA.2.2.2.2.2.1 zPA.2.2.2.2.2.2 zPA.2.2.1 zPA.2.2.2.1 zPA.2.2.2.2.1)) 17 zPA.2.2.2.2.2.1) 19 zPA.2.2.2.2.2.2) Ia (va_up (va_up (va_up (va_up (va_up (va_up (va_up Ns 2 0) 4 0) 13 z13_1) 14 (tP (Na 3) (Ns 4) zPA.2.1)) 15 z15_1) 18 zPA.2.2.2.1) 20 zPA.2.2.2.2.1) (va_up Is 16 (nI zPA.2.2.1))) dX6_fold_144 rfl fd_X6_167 rfl rfl rfl (gLe rfl) rfl ?_
                      refine j_aload_n 148 dX6_fold_147 rfl 1 rfl ?_
                      refine j_getf 151 0 dX6_fold_148 rfl fd_X6_128 rfl rfl ?_
                      refine j_iretI dX6_fold_151 rfl ⟨gLe rfl, gLe rfl, ?_⟩
                      have ze : (pM_fold  (Na, Ia, Ns, Is)) = ((nI zPA.2.2.2.1), (va_up Na 0 (fldR (Na 0) zPA.2.2.2.2.2.1 zPA.2.2.2.2.2.2 zPA.2.2.1 zPA.2.2.2.1 zPA.2.2.2.2.1), Ia, va_up (va_up Ns 2 0) 4 0, Is)) := by
                        rw [pM_fold, hPA, if_neg (fun y => y h16)]
                      exact ⟨((va_up (va_up (va_up Na 0 (fldR (Na 0) zPA.2.2.2.2.2.1 zPA.2.2.2.2.2.2 zPA.2.2.1 zPA.2.2.2.1 zPA.2.2.2.2.1)) 17 zPA.2.2.2.2.2.1) 19 zPA.2.2.2.2.2.2), Ia, (va_up (va_up (va_up (va_up (va_up (va_up (va_up Ns 2 0) 4 0) 13 z13_1) 14 (tP (Na 3) (Ns 4) zPA.2.1)) 15 z15_1) 18 zPA.2.2.2.1) 20 zPA.2.2.2.2.1), (va_up Is 16 (nI zPA.2.2.1))), by rw [ze]; exact ⟨(fun k _ => rfl), ⟨rfl, rfl, rfl, rfl⟩, ⟨rfl, rfl⟩, ⟨rfl, rfl, rfl, rfl, rfl⟩, rfl⟩, congrArg (fun z : Int32 × RS => some (Value.int z.1)) ze.symm, rfl⟩
                    ·
                      refine j_aload_n 127 dX6_fold_126 rfl 1 rfl ?_
                      refine j_getf 130 0 dX6_fold_127 rfl fd_X6_7 rfl rfl ?_
                      refine j_bipush (v := (40 : Int32)) 132 dX6_fold_130 rfl (by decide) ?_
                      refine j_iload_n 133 dX6_fold_132 rfl 0 rfl ?_
                      refine j_iaddN 40 zl 134 dX6_fold_133 rfl ?_
                      refine j_iconst (v := (0 : Int32)) 135 dX6_fold_134 rfl (by decide) ?_
                      refine j_iastN 0 (40 + zl) 136 1 (wM g q (va_up (va_up (va_up Na 0 (va_up (va_cpy (fun _ => 0) (va_cpy zPA.2.2.2.2.2.2 (va_cpy zPA.2.2.2.2.2.1 (va_up (va_up (va_up (va_up (Na 0) 0 1) 1 zPA.2.2.1) 2 zPA.2.2.2.1) 3 zPA.2.2.2.2.1) 0 4 20) 0 24 16) 0 40 zl) (40 + zl) 0)) 17 zPA.2.2.2.2.2.1) 19 zPA.2.2.2.2.2.2) Ia (va_up (va_up (va_up (va_up (va_up (va_up Ns 4 0) 13 z13_1) 14 (tP (Na 3) (Ns 4) zPA.2.1)) 15 z15_1) 18 zPA.2.2.2.1) 20 zPA.2.2.2.2.1) (va_up Is 16 (nI zPA.2.2.1))) dX6_fold_135 rfl rfl (by omega) (by decide) rfl ?_
                      refine j_ws (wM g q (va_up (va_up (va_up Na 0 (va_cpy (fun _ => 0) (va_cpy zPA.2.2.2.2.2.2 (va_cpy zPA.2.2.2.2.2.1 (va_up (va_up (va_up (va_up (Na 0) 0 1) 1 zPA.2.2.1) 2 zPA.2.2.2.1) 3 zPA.2.2.2.2.1) 0 4 20) 0 24 16) 0 40 (zl + 1))) 17 zPA.2.2.2.2.2.1) 19 zPA.2.2.2.2.2.2) Ia (va_up (va_up (va_up (va_up (va_up (va_up Ns 4 0) 13 z13_1) 14 (tP (Na 3) (Ns 4) zPA.2.1)) 15 z15_1) 18 zPA.2.2.2.1) 20 zPA.2.2.2.2.1) (va_up Is 16 (nI zPA.2.2.1))) (congrArg (fun z => wM g q (va_up (va_up (va_up Na 0 z) 17 zPA.2.2.2.2.2.1) 19 zPA.2.2.2.2.2.2) Ia (va_up (va_up (va_up (va_up (va_up (va_up Ns 4 0) 13 z13_1) 14 (tP (Na 3) (Ns 4) zPA.2.1)) 15 z15_1) 18 zPA.2.2.2.1) 20 zPA.2.2.2.2.1) (va_up Is 16 (nI zPA.2.2.1))) (cpy_s (fun _ => 0) (va_cpy zPA.2.2.2.2.2.2 (va_cpy zPA.2.2.2.2.2.1 (va_up (va_up (va_up (va_up (Na 0) 0 1) 1 zPA.2.2.1) 2 zPA.2.2.2.1) 3 zPA.2.2.2.2.1) 0 4 20) 0 24 16) 0 40 zl)) ?_
                      refine j_iincN zl 1 139 [(3, .int (nI (zl + 1))), (0, .ref (q 26)), (2, .int (nI (tP (Na 3) (Ns 4) zPA.2.1))), (1, .int (gB (zPA.1 = 0)))] dX6_fold_136 rfl 0 rfl (by decide) rfl ?_
                      refine j_goto 120 dX6_fold_139 rfl ?_
                      refine j_lv [0, 1, 2, 3] rfl ?_
                      exact zih120 (zl + 1) (by omega) (by omega)
                refine j_ws (wM g q (va_up (va_up (va_up Na 0 (va_cpy (fun _ => 0) (va_cpy zPA.2.2.2.2.2.2 (va_cpy zPA.2.2.2.2.2.1 (va_up (va_up (va_up (va_up (Na 0) 0 1) 1 zPA.2.2.1) 2 zPA.2.2.2.1) 3 zPA.2.2.2.2.1) 0 4 20) 0 24 16) 0 40 0)) 17 zPA.2.2.2.2.2.1) 19 zPA.2.2.2.2.2.2) Ia (va_up (va_up (va_up (va_up (va_up (va_up Ns 4 0) 13 z13_1) 14 (tP (Na 3) (Ns 4) zPA.2.1)) 15 z15_1) 18 zPA.2.2.2.1) 20 zPA.2.2.2.2.1) (va_up Is 16 (nI zPA.2.2.1))) (congrArg (fun z => wM g q (va_up (va_up (va_up Na 0 z) 17 zPA.2.2.2.2.2.1) 19 zPA.2.2.2.2.2.2) Ia (va_up (va_up (va_up (va_up (va_up (va_up Ns 4 0) 13 z13_1) 14 (tP (Na 3) (Ns 4) zPA.2.1)) 15 z15_1) 18 zPA.2.2.2.1) 20 zPA.2.2.2.2.1) (va_up Is 16 (nI zPA.2.2.1))) (cpy_0 _ _ _ _).symm) ?_
                refine j_lv [0, 1, 2, 3] rfl ?_
                exact hL120 _ 0 (Nat.lt_succ_self _) (Nat.zero_le _)
              ·
                refine j_aload_n 98 dX6_fold_97 rfl 1 rfl ?_
                refine j_getf 101 0 dX6_fold_98 rfl fd_X6_7 rfl rfl ?_
                refine j_bipush (v := (24 : Int32)) 103 dX6_fold_101 rfl (by decide) ?_
                refine j_iload_n 104 dX6_fold_103 rfl 0 rfl ?_
                refine j_iaddN 24 zj 105 dX6_fold_104 rfl ?_
                refine j_aload_n 106 dX6_fold_105 rfl 1 rfl ?_
                refine j_getf 109 0 dX6_fold_106 rfl fd_X6_39 rfl rfl ?_
                refine j_iload_n 110 dX6_fold_109 rfl 0 rfl ?_
                refine j_ialdN zj 111 9 dX6_fold_110 rfl rfl (by omega) (by decide) ?_
                refine j_iastN (zPA.2.2.2.2.2.2 zj) (24 + zj) 112 1 (wM g q (va_up (va_up (va_up Na 0 (va_up (va_cpy zPA.2.2.2.2.2.2 (va_cpy zPA.2.2.2.2.2.1 (va_up (va_up (va_up (va_up (Na 0) 0 1) 1 zPA.2.2.1) 2 zPA.2.2.2.1) 3 zPA.2.2.2.2.1) 0 4 20) 0 24 zj) (24 + zj) (zPA.2.2.2.2.2.2 zj))) 17 zPA.2.2.2.2.2.1) 19 zPA.2.2.2.2.2.2) Ia (va_up (va_up (va_up (va_up (va_up (va_up Ns 4 0) 13 z13_1) 14 (tP (Na 3) (Ns 4) zPA.2.1)) 15 z15_1) 18 zPA.2.2.2.1) 20 zPA.2.2.2.2.1) (va_up Is 16 (nI zPA.2.2.1))) dX6_fold_111 rfl rfl (by omega) (by decide) rfl ?_
                refine j_ws (wM g q (va_up (va_up (va_up Na 0 (va_cpy zPA.2.2.2.2.2.2 (va_cpy zPA.2.2.2.2.2.1 (va_up (va_up (va_up (va_up (Na 0) 0 1) 1 zPA.2.2.1) 2 zPA.2.2.2.1) 3 zPA.2.2.2.2.1) 0 4 20) 0 24 (zj + 1))) 17 zPA.2.2.2.2.2.1) 19 zPA.2.2.2.2.2.2) Ia (va_up (va_up (va_up (va_up (va_up (va_up Ns 4 0) 13 z13_1) 14 (tP (Na 3) (Ns 4) zPA.2.1)) 15 z15_1) 18 zPA.2.2.2.1) 20 zPA.2.2.2.2.1) (va_up Is 16 (nI zPA.2.2.1))) (congrArg (fun z => wM g q (va_up (va_up (va_up Na 0 z) 17 zPA.2.2.2.2.2.1) 19 zPA.2.2.2.2.2.2) Ia (va_up (va_up (va_up (va_up (va_up (va_up Ns 4 0) 13 z13_1) 14 (tP (Na 3) (Ns 4) zPA.2.1)) 15 z15_1) 18 zPA.2.2.2.1) 20 zPA.2.2.2.2.1) (va_up Is 16 (nI zPA.2.2.1))) (by have y := cpy_s zPA.2.2.2.2.2.2 (va_cpy zPA.2.2.2.2.2.1 (va_up (va_up (va_up (va_up (Na 0) 0 1) 1 zPA.2.2.1) 2 zPA.2.2.2.1) 3 zPA.2.2.2.2.1) 0 4 20) 0 24 zj; rw [Nat.zero_add] at y; exact y)) ?_
                refine j_iincN zj 1 115 [(3, .int (nI (zj + 1))), (0, .ref (q 26)), (2, .int (nI (tP (Na 3) (Ns 4) zPA.2.1))), (1, .int (gB (zPA.1 = 0)))] dX6_fold_112 rfl 0 rfl (by decide) rfl ?_
                refine j_goto 91 dX6_fold_115 rfl ?_
                refine j_lv [0, 1, 2, 3] rfl ?_
                exact zih91 (zj + 1) (by omega) (by omega)
          refine j_ws (wM g q (va_up (va_up (va_up Na 0 (va_cpy zPA.2.2.2.2.2.2 (va_cpy zPA.2.2.2.2.2.1 (va_up (va_up (va_up (va_up (Na 0) 0 1) 1 zPA.2.2.1) 2 zPA.2.2.2.1) 3 zPA.2.2.2.2.1) 0 4 20) 0 24 0)) 17 zPA.2.2.2.2.2.1) 19 zPA.2.2.2.2.2.2) Ia (va_up (va_up (va_up (va_up (va_up (va_up Ns 4 0) 13 z13_1) 14 (tP (Na 3) (Ns 4) zPA.2.1)) 15 z15_1) 18 zPA.2.2.2.1) 20 zPA.2.2.2.2.1) (va_up Is 16 (nI zPA.2.2.1))) (congrArg (fun z => wM g q (va_up (va_up (va_up Na 0 z) 17 zPA.2.2.2.2.2.1) 19 zPA.2.2.2.2.2.2) Ia (va_up (va_up (va_up (va_up (va_up (va_up Ns 4 0) 13 z13_1) 14 (tP (Na 3) (Ns 4) zPA.2.1)) 15 z15_1) 18 zPA.2.2.2.1) 20 zPA.2.2.2.2.1) (va_up Is 16 (nI zPA.2.2.1))) (cpy_0 _ _ _ _).symm) ?_
          refine j_lv [0, 1, 2, 3] rfl ?_
          exact hL91 _ 0 (Nat.lt_succ_self _) (Nat.zero_le _)
        ·
          refine j_aload_n 70 dX6_fold_69 rfl 1 rfl ?_
          refine j_getf 73 0 dX6_fold_70 rfl fd_X6_7 rfl rfl ?_
          refine j_iconst (v := (4 : Int32)) 74 dX6_fold_73 rfl (by decide) ?_
          refine j_iload_n 75 dX6_fold_74 rfl 0 rfl ?_
          refine j_iaddN 4 zi 76 dX6_fold_75 rfl ?_
          refine j_aload_n 77 dX6_fold_76 rfl 1 rfl ?_
          refine j_getf 80 0 dX6_fold_77 rfl fd_X6_36 rfl rfl ?_
          refine j_iload_n 81 dX6_fold_80 rfl 0 rfl ?_
          refine j_ialdN zi 82 8 dX6_fold_81 rfl rfl (by omega) (by decide) ?_
          refine j_iastN (zPA.2.2.2.2.2.1 zi) (4 + zi) 83 1 (wM g q (va_up (va_up (va_up Na 0 (va_up (va_cpy zPA.2.2.2.2.2.1 (va_up (va_up (va_up (va_up (Na 0) 0 1) 1 zPA.2.2.1) 2 zPA.2.2.2.1) 3 zPA.2.2.2.2.1) 0 4 zi) (4 + zi) (zPA.2.2.2.2.2.1 zi))) 17 zPA.2.2.2.2.2.1) 19 zPA.2.2.2.2.2.2) Ia (va_up (va_up (va_up (va_up (va_up (va_up Ns 4 0) 13 z13_1) 14 (tP (Na 3) (Ns 4) zPA.2.1)) 15 z15_1) 18 zPA.2.2.2.1) 20 zPA.2.2.2.2.1) (va_up Is 16 (nI zPA.2.2.1))) dX6_fold_82 rfl rfl (by omega) (by decide) rfl ?_
          refine j_ws (wM g q (va_up (va_up (va_up Na 0 (va_cpy zPA.2.2.2.2.2.1 (va_up (va_up (va_up (va_up (Na 0) 0 1) 1 zPA.2.2.1) 2 zPA.2.2.2.1) 3 zPA.2.2.2.2.1) 0 4 (zi + 1))) 17 zPA.2.2.2.2.2.1) 19 zPA.2.2.2.2.2.2) Ia (va_up (va_up (va_up (va_up (va_up (va_up Ns 4 0) 13 z13_1) 14 (tP (Na 3) (Ns 4) zPA.2.1)) 15 z15_1) 18 zPA.2.2.2.1) 20 zPA.2.2.2.2.1) (va_up Is 16 (nI zPA.2.2.1))) (congrArg (fun z => wM g q (va_up (va_up (va_up Na 0 z) 17 zPA.2.2.2.2.2.1) 19 zPA.2.2.2.2.2.2) Ia (va_up (va_up (va_up (va_up (va_up (va_up Ns 4 0) 13 z13_1) 14 (tP (Na 3) (Ns 4) zPA.2.1)) 15 z15_1) 18 zPA.2.2.2.1) 20 zPA.2.2.2.2.1) (va_up Is 16 (nI zPA.2.2.1))) (by have y := cpy_s zPA.2.2.2.2.2.1 (va_up (va_up (va_up (va_up (Na 0) 0 1) 1 zPA.2.2.1) 2 zPA.2.2.2.1) 3 zPA.2.2.2.2.1) 0 4 zi; rw [Nat.zero_add] at y; exact y)) ?_
          refine j_iincN zi 1 86 [(3, .int (nI (zi + 1))), (0, .ref (q 26)), (2, .int (nI (tP (Na 3) (Ns 4) zPA.2.1))), (1, .int (gB (zPA.1 = 0)))] dX6_fold_83 rfl 0 rfl (by decide) rfl ?_
          refine j_goto 63 dX6_fold_86 rfl ?_
          refine j_lv [0, 1, 2, 3] rfl ?_
          exact zih63 (zi + 1) (by omega) (by omega)
    refine j_ws (wM g q (va_up (va_up (va_up Na 0 (va_cpy zPA.2.2.2.2.2.1 (va_up (va_up (va_up (va_up (Na 0) 0 1) 1 zPA.2.2.1) 2 zPA.2.2.2.1) 3 zPA.2.2.2.2.1) 0 4 0)) 17 zPA.2.2.2.2.2.1) 19 zPA.2.2.2.2.2.2) Ia (va_up (va_up (va_up (va_up (va_up (va_up Ns 4 0) 13 z13_1) 14 (tP (Na 3) (Ns 4) zPA.2.1)) 15 z15_1) 18 zPA.2.2.2.1) 20 zPA.2.2.2.2.1) (va_up Is 16 (nI zPA.2.2.1))) (congrArg (fun z => wM g q (va_up (va_up (va_up Na 0 z) 17 zPA.2.2.2.2.2.1) 19 zPA.2.2.2.2.2.2) Ia (va_up (va_up (va_up (va_up (va_up (va_up Ns 4 0) 13 z13_1) 14 (tP (Na 3) (Ns 4) zPA.2.1)) 15 z15_1) 18 zPA.2.2.2.1) 20 zPA.2.2.2.2.1) (va_up Is 16 (nI zPA.2.2.1))) (cpy_0 _ _ _ _).symm) ?_
    refine j_lv [0, 3, 1, 2] rfl ?_
    exact hL63 _ 0 (Nat.lt_succ_self _) (Nat.zero_le _)
  ·
    refine j_ws (wM g q (va_up (va_up Na 17 ZA_1) 19 ZB_1) Ia (va_up (va_up (va_up (va_up (va_up (va_up (va_up Ns 4 0) 5 (stsA (Ns 5) (zPA.1))) 13 z13_1) 14 (tP (Na 3) (Ns 4) zPA.2.1)) 15 z15_1) 18 zm_1) 20 zn_1) (va_up Is 16 ZP_1)) rfl ?_
    refine j_ws (wM g q (va_up (va_up Na 17 ZA_1) 19 ZB_1) Ia (va_up (va_up (va_up (va_up (va_up (va_up (va_up Ns 4 0) 5 zPA.1) 13 z13_1) 14 (tP (Na 3) (Ns 4) zPA.2.1)) 15 z15_1) 18 zm_1) 20 zn_1) (va_up Is 16 ZP_1)) (by rw [stsA_n h16]) ?_
    refine j_ldc (v := (-1000100 : Int32)) 21 dX6_fold_19 rfl wd_4_238 ?_
    refine j_iload_n 22 dX6_fold_21 rfl 0 rfl ?_
    refine j_isub 23 dX6_fold_22 rfl ?_
    refine j_iretI dX6_fold_23 rfl ⟨gLe rfl, gLe rfl, ?_⟩
    have ze : (pM_fold  (Na, Ia, Ns, Is)) = (((-1000100 : Int32) - (nI (tP (Na 3) (Ns 4) zPA.2.1))), (Na, Ia, va_up (va_up Ns 4 0) 5 zPA.1, Is)) := by
      rw [pM_fold, hPA, if_pos h16]
    exact ⟨((va_up (va_up Na 17 ZA_1) 19 ZB_1), Ia, (va_up (va_up (va_up (va_up (va_up (va_up (va_up Ns 4 0) 5 zPA.1) 13 z13_1) 14 (tP (Na 3) (Ns 4) zPA.2.1)) 15 z15_1) 18 zm_1) 20 zn_1), (va_up Is 16 ZP_1)), by rw [ze]; exact ⟨(fun k _ => rfl), ⟨rfl, rfl, rfl, rfl⟩, ⟨rfl, rfl⟩, ⟨rfl, rfl, rfl, rfl, rfl⟩, rfl⟩, by rw [ze], rfl⟩
