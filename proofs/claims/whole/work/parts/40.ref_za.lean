theorem up_eqs {α : Type} (f : Nat → α) (k : Nat) (v : α) (h : f k = v) : va_up f k v = f := by rw [← h]; exact up_same f k
theorem sN_n {k m : Nat} (hk : k < 100000) : sN k m = -1000000 ↔ k = m := by
  unfold sN
  split
  · rename_i h; exact ⟨fun _ => h, fun _ => rfl⟩
  · rename_i h; exact ⟨fun q => absurd q (nI_nN (by omega)), fun q => absurd q h⟩
theorem sN_v {k m : Nat} (h : k ≠ m) : sN k m = nI k := if_neg h
theorem hwS_le {T : Nat → Nat} {p e : Nat} : hwS T p e ≤ 3 := by
  unfold hwS
  repeat' split
  all_goals decide
theorem bwS_le {T : Nat → Nat} {p e : Nat} : bwS T p e ≤ 5 := by
  unfold bwS
  repeat' split
  all_goals decide
theorem kV_nk {k v : Nat} (hk : k ≠ 0 ∨ v < 100000) (h : kV k v = -1000000) : k ≠ 0 := by
  intro q
  rw [kV_0 q] at h
  exact nI_nN (by omega) h
set_option maxRecDepth 20000 in
theorem c_X6_readsLaw (g : gG) (q : Nat → Nat) (Na : Nat → Nat → Nat) (Ia : Nat → Nat → Int32) (Ns : Nat → Nat) (Is : Nat → Int32)  (zc : Nat) (hT : ∀ k, Na 3 k < 256) (h4 : Ns 4 ≤ 400) (hc0 : zc ≤ Ns 4) (h13 : Ns 13 = tE (Na 3) (Ns 4) zc) (h14 : Ns 14 = tP (Na 3) (Ns 4) zc) (h15 : Ns 15 = tE (Na 3) (Ns 4) zc) : gCon g mX6_readsLaw 3 0 0 [.ref (q 26)] (wM g q Na Ia Ns Is) (fun rv ws' => ∃ (ZP : Int32), ((pLaw (Na 3) (Ns 4) zc).1 = 0 → ZP = nI (pLaw (Na 3) (Ns 4) zc).2.2) ∧ rv = some (.int (gB ((pLaw (Na 3) (Ns 4) zc).1 = 0))) ∧ ws' = (wM g q Na Ia (va_up (va_up (va_up (va_up Ns 5 (stsA (Ns 5) ((pLaw (Na 3) (Ns 4) zc).1))) 13 (tE (Na 3) (Ns 4) ((pLaw (Na 3) (Ns 4) zc).2.1))) 14 (tP (Na 3) (Ns 4) ((pLaw (Na 3) (Ns 4) zc).2.1))) 15 (tE (Na 3) (Ns 4) ((pLaw (Na 3) (Ns 4) zc).2.1))) (va_up Is 16 ZP))) := by
  refine gCon.of (lv := [(0, .ref (q 26))]) (by decide) (gLe rfl) rfl ?_
  have hE0 := tE_le (T := Na 3) hc0
  have hc1 := hE0.2.1
  have hE1 := tE_le (T := Na 3) hc1
  have hc2 := hE1.2.1
  have hE2 := tE_le (T := Na 3) hc2
  refine j_ws (wM g q Na Ia (va_up (va_up (va_up Ns 13 (tE (Na 3) (Ns 4) zc)) 14 (tP (Na 3) (Ns 4) zc)) 15 (tE (Na 3) (Ns 4) zc)) Is) (congrArg (fun z => wM g q Na Ia z Is) (ns_cur h13 h14 h15)) ?_
  refine j_aload_n 1 dX6_readsLaw_0 rfl 0 rfl ?_
  refine j_ldc (v := (143846 : Int32)) 3 dX6_readsLaw_1 rfl wd_4_192 ?_
  refine j_iconst (v := (4 : Int32)) 4 dX6_readsLaw_3 rfl (by decide) ?_
  refine j_callVW (rest := []) 7 (c_X6_isWord g q Na Ia (va_up (va_up (va_up Ns 13 (tE (Na 3) (Ns 4) zc)) 14 (tP (Na 3) (Ns 4) zc)) 15 (tE (Na 3) (Ns 4) zc)) Is 143846 4  hT h4 (by decide) (by decide) ⟨hE0.1, hE0.2.1⟩) [.int (gB (isWd (Na 3) (tP (Na 3) (Ns 4) zc) (tE (Na 3) (Ns 4) zc) 143846 4))] dX6_readsLaw_4 rfl cv_X6_104 rfl rfl 0 rfl rfl (gLe rfl) (gLe rfl) (gLe rfl) (gLe rfl) (wM_len _ _ _ _ _ _ _ _ _ _) rfl ?_
  refine j_if_neB 10 17 dX6_readsLaw_7 rfl rfl (fun h7 => ?_) (fun h7 => ?_)
  ·
    refine j_aload_n 18 dX6_readsLaw_17 rfl 0 rfl ?_
    refine j_callVW (rest := []) 21 (c_X6_token g q Na Ia (va_up (va_up (va_up Ns 13 (tE (Na 3) (Ns 4) zc)) 14 (tP (Na 3) (Ns 4) zc)) 15 (tE (Na 3) (Ns 4) zc)) Is   hT h4 hc1) [] dX6_readsLaw_18 rfl cv_X6_120 rfl rfl 0 rfl rfl (gLe rfl) (gLe rfl) (gLe rfl) (gLe rfl) (wM_len _ _ _ _ _ _ _ _ _ _) rfl ?_
    refine j_aload_n 22 dX6_readsLaw_21 rfl 0 rfl ?_
    refine j_aload_n 23 dX6_readsLaw_22 rfl 0 rfl ?_
    refine j_iconst (v := (1 : Int32)) 24 dX6_readsLaw_23 rfl (by decide) ?_
    refine j_bipush (v := (6 : Int32)) 26 dX6_readsLaw_24 rfl (by decide) ?_
    refine j_callVW (rest := [.ref (q 26)]) 29 (c_X6_number g q Na Ia (va_up (va_up (va_up Ns 13 (tE (Na 3) (Ns 4) (tE (Na 3) (Ns 4) zc))) 14 (tP (Na 3) (Ns 4) (tE (Na 3) (Ns 4) zc))) 15 (tE (Na 3) (Ns 4) (tE (Na 3) (Ns 4) zc))) Is 1 6 (tE (Na 3) (Ns 4) zc) hT h4 hc1 rfl rfl rfl (by decide) (by decide)) [.int (kV (nmK (Na 3) (Ns 4) (tE (Na 3) (Ns 4) zc) 1 6) (nmV (Na 3) (Ns 4) (tE (Na 3) (Ns 4) zc))), .ref (q 26)] dX6_readsLaw_26 rfl cv_X6_132 rfl rfl 0 rfl rfl (gLe rfl) (gLe rfl) (gLe rfl) (gLe rfl) (wM_len _ _ _ _ _ _ _ _ _ _) rfl ?_
    refine j_putf 32 0 (wM g q Na Ia (va_up (va_up (va_up (va_up Ns 5 (stsA (Ns 5) (nmK (Na 3) (Ns 4) (tE (Na 3) (Ns 4) zc) 1 6))) 13 (tE (Na 3) (Ns 4) (adv (Na 3) (Ns 4) (tE (Na 3) (Ns 4) zc) (nmK (Na 3) (Ns 4) (tE (Na 3) (Ns 4) zc) 1 6)))) 14 (tP (Na 3) (Ns 4) (adv (Na 3) (Ns 4) (tE (Na 3) (Ns 4) zc) (nmK (Na 3) (Ns 4) (tE (Na 3) (Ns 4) zc) 1 6)))) 15 (tE (Na 3) (Ns 4) (adv (Na 3) (Ns 4) (tE (Na 3) (Ns 4) zc) (nmK (Na 3) (Ns 4) (tE (Na 3) (Ns 4) zc) 1 6)))) (va_up Is 16 (kV (nmK (Na 3) (Ns 4) (tE (Na 3) (Ns 4) zc) 1 6) (nmV (Na 3) (Ns 4) (tE (Na 3) (Ns 4) zc))))) dX6_readsLaw_29 rfl fd_X6_123 rfl rfl rfl (gLe rfl) rfl ?_
    refine j_aload_n 33 dX6_readsLaw_32 rfl 0 rfl ?_
    refine j_getf 36 0 dX6_readsLaw_33 rfl fd_X6_123 rfl rfl ?_
    refine j_ldc (v := (-1000000 : Int32)) 38 dX6_readsLaw_36 rfl wd_4_47 ?_
    refine j_icmp_eq 41 52 dX6_readsLaw_38 rfl rfl (fun h38 => ?_) (fun h38 => ?_)
    ·
      have hk0 : (nmK (Na 3) (Ns 4) (tE (Na 3) (Ns 4) zc) 1 6) ≠ 0 := kV_nk (by by_cases y : (nmK (Na 3) (Ns 4) (tE (Na 3) (Ns 4) zc) 1 6) = 0; exact Or.inr (by have := nmV_lt hc1 y; omega); exact Or.inl y) h38
      refine j_ws (wM g q Na Ia (va_up (va_up (va_up (va_up Ns 5 (stsA (Ns 5) (nmK (Na 3) (Ns 4) (tE (Na 3) (Ns 4) zc) 1 6))) 13 (tE (Na 3) (Ns 4) (adv (Na 3) (Ns 4) (tE (Na 3) (Ns 4) zc) (nmK (Na 3) (Ns 4) (tE (Na 3) (Ns 4) zc) 1 6)))) 14 (tP (Na 3) (Ns 4) (adv (Na 3) (Ns 4) (tE (Na 3) (Ns 4) zc) (nmK (Na 3) (Ns 4) (tE (Na 3) (Ns 4) zc) 1 6)))) 15 (tE (Na 3) (Ns 4) (adv (Na 3) (Ns 4) (tE (Na 3) (Ns 4) zc) (nmK (Na 3) (Ns 4) (tE (Na 3) (Ns 4) zc) 1 6)))) (va_up Is 16 (kV (nmK (Na 3) (Ns 4) (tE (Na 3) (Ns 4) zc) 1 6) (nmV (Na 3) (Ns 4) (tE (Na 3) (Ns 4) zc))))) rfl ?_
      refine j_ws (wM g q Na Ia (va_up (va_up (va_up (va_up Ns 5 (stsA (Ns 5) (nmK (Na 3) (Ns 4) (tE (Na 3) (Ns 4) zc) 1 6))) 13 (tE (Na 3) (Ns 4) (tE (Na 3) (Ns 4) zc))) 14 (tP (Na 3) (Ns 4) (tE (Na 3) (Ns 4) zc))) 15 (tE (Na 3) (Ns 4) (tE (Na 3) (Ns 4) zc))) (va_up Is 16 (kV (nmK (Na 3) (Ns 4) (tE (Na 3) (Ns 4) zc) 1 6) (nmV (Na 3) (Ns 4) (tE (Na 3) (Ns 4) zc))))) (by rw [adv_n hk0]) ?_
      have hL : (pLaw (Na 3) (Ns 4) zc) = ((nmK (Na 3) (Ns 4) (tE (Na 3) (Ns 4) zc) 1 6), (tE (Na 3) (Ns 4) zc), 0) := by rw [pLaw, if_neg (fun y => y h7), if_pos hk0]
      refine j_iconst (v := (0 : Int32)) 53 dX6_readsLaw_52 rfl (by decide) ?_
      refine j_iret0 (c := (pLaw (Na 3) (Ns 4) zc).1 = 0) dX6_readsLaw_53 rfl (by rw [hL]; exact hk0) ⟨gLe rfl, gLe rfl, (kV (nmK (Na 3) (Ns 4) (tE (Na 3) (Ns 4) zc) 1 6) (nmV (Na 3) (Ns 4) (tE (Na 3) (Ns 4) zc))), fun y => absurd y (by rw [hL]; exact hk0), rfl, ?_⟩
      rw [hL]
      all_goals first | done | rfl
    ·
      have hk0 : (nmK (Na 3) (Ns 4) (tE (Na 3) (Ns 4) zc) 1 6) = 0 := kV_ne h38
      refine j_ws (wM g q Na Ia (va_up (va_up (va_up (va_up Ns 5 (stsA (Ns 5) (nmK (Na 3) (Ns 4) (tE (Na 3) (Ns 4) zc) 1 6))) 13 (tE (Na 3) (Ns 4) (adv (Na 3) (Ns 4) (tE (Na 3) (Ns 4) zc) (nmK (Na 3) (Ns 4) (tE (Na 3) (Ns 4) zc) 1 6)))) 14 (tP (Na 3) (Ns 4) (adv (Na 3) (Ns 4) (tE (Na 3) (Ns 4) zc) (nmK (Na 3) (Ns 4) (tE (Na 3) (Ns 4) zc) 1 6)))) 15 (tE (Na 3) (Ns 4) (adv (Na 3) (Ns 4) (tE (Na 3) (Ns 4) zc) (nmK (Na 3) (Ns 4) (tE (Na 3) (Ns 4) zc) 1 6)))) (va_up Is 16 (kV (nmK (Na 3) (Ns 4) (tE (Na 3) (Ns 4) zc) 1 6) (nmV (Na 3) (Ns 4) (tE (Na 3) (Ns 4) zc))))) rfl ?_
      refine j_ws (wM g q Na Ia (va_up (va_up (va_up Ns 13 (tE (Na 3) (Ns 4) (tE (Na 3) (Ns 4) (tE (Na 3) (Ns 4) zc)))) 14 (tP (Na 3) (Ns 4) (tE (Na 3) (Ns 4) (tE (Na 3) (Ns 4) zc)))) 15 (tE (Na 3) (Ns 4) (tE (Na 3) (Ns 4) (tE (Na 3) (Ns 4) zc)))) (va_up Is 16 (kV (nmK (Na 3) (Ns 4) (tE (Na 3) (Ns 4) zc) 1 6) (nmV (Na 3) (Ns 4) (tE (Na 3) (Ns 4) zc))))) (by rw [adv_0 hk0, stsA_0 hk0, up_same Ns 5]) ?_
      have hL : (pLaw (Na 3) (Ns 4) zc) = ((sgK (Na 3) (Ns 4) (tE (Na 3) (Ns 4) (tE (Na 3) (Ns 4) zc))), adv (Na 3) (Ns 4) (tE (Na 3) (Ns 4) (tE (Na 3) (Ns 4) zc)) (sgK (Na 3) (Ns 4) (tE (Na 3) (Ns 4) (tE (Na 3) (Ns 4) zc))), nmV (Na 3) (Ns 4) (tE (Na 3) (Ns 4) zc)) := by rw [pLaw, if_neg (fun y => y h7), if_neg (fun y => y hk0)]
      refine j_aload_n 42 dX6_readsLaw_41 rfl 0 rfl ?_
      refine j_callVW (rest := []) 45 (c_X6_readsSign g q Na Ia (va_up (va_up (va_up Ns 13 (tE (Na 3) (Ns 4) (tE (Na 3) (Ns 4) (tE (Na 3) (Ns 4) zc)))) 14 (tP (Na 3) (Ns 4) (tE (Na 3) (Ns 4) (tE (Na 3) (Ns 4) zc)))) 15 (tE (Na 3) (Ns 4) (tE (Na 3) (Ns 4) (tE (Na 3) (Ns 4) zc)))) (va_up Is 16 (kV (nmK (Na 3) (Ns 4) (tE (Na 3) (Ns 4) zc) 1 6) (nmV (Na 3) (Ns 4) (tE (Na 3) (Ns 4) zc))))  (tE (Na 3) (Ns 4) (tE (Na 3) (Ns 4) zc)) hT h4 hc2 rfl rfl rfl) [.int (gB (sgK (Na 3) (Ns 4) (tE (Na 3) (Ns 4) (tE (Na 3) (Ns 4) zc)) = 0))] dX6_readsLaw_42 rfl cv_X6_135 rfl rfl 0 rfl rfl (gLe rfl) (gLe rfl) (gLe rfl) (gLe rfl) (wM_len _ _ _ _ _ _ _ _ _ _) rfl ?_
      refine j_if_eqB 48 52 dX6_readsLaw_45 rfl rfl (fun h45 => ?_) (fun h45 => ?_)
      ·
        refine j_iconst (v := (0 : Int32)) 53 dX6_readsLaw_52 rfl (by decide) ?_
        refine j_iret0 (c := (pLaw (Na 3) (Ns 4) zc).1 = 0) dX6_readsLaw_53 rfl (by rw [hL]; exact h45) ⟨gLe rfl, gLe rfl, (kV (nmK (Na 3) (Ns 4) (tE (Na 3) (Ns 4) zc) 1 6) (nmV (Na 3) (Ns 4) (tE (Na 3) (Ns 4) zc))), fun _ => by rw [hL]; exact kV_0 hk0, rfl, ?_⟩
        rw [hL]
        all_goals first | done | rfl
      ·
        refine j_iconst (v := (1 : Int32)) 49 dX6_readsLaw_48 rfl (by decide) ?_
        refine j_goto 53 dX6_readsLaw_49 rfl ?_
        refine j_iret1 (c := (pLaw (Na 3) (Ns 4) zc).1 = 0) dX6_readsLaw_53 rfl (by rw [hL]; exact h45) ⟨gLe rfl, gLe rfl, (kV (nmK (Na 3) (Ns 4) (tE (Na 3) (Ns 4) zc) 1 6) (nmV (Na 3) (Ns 4) (tE (Na 3) (Ns 4) zc))), fun _ => by rw [hL]; exact kV_0 hk0, rfl, ?_⟩
        rw [hL]
        all_goals first | done | rfl
  ·
    have hL : (pLaw (Na 3) (Ns 4) zc) = (1, zc, 0) := if_pos h7
    refine j_aload_n 11 dX6_readsLaw_10 rfl 0 rfl ?_
    refine j_iconst (v := (1 : Int32)) 12 dX6_readsLaw_11 rfl (by decide) ?_
    refine j_putf 15 0 (wM g q Na Ia (va_up (va_up (va_up (va_up Ns 5 1) 13 (tE (Na 3) (Ns 4) zc)) 14 (tP (Na 3) (Ns 4) zc)) 15 (tE (Na 3) (Ns 4) zc)) Is) dX6_readsLaw_12 rfl fd_X6_113 rfl rfl rfl (gLe rfl) rfl ?_
    refine j_iconst (v := (0 : Int32)) 16 dX6_readsLaw_15 rfl (by decide) ?_
    refine j_iret0 (c := (pLaw (Na 3) (Ns 4) zc).1 = 0) dX6_readsLaw_16 rfl (by rw [hL]; exact (Nat.succ_ne_zero _)) ⟨gLe rfl, gLe rfl, Is 16, fun y => absurd y (by rw [hL]; exact Nat.succ_ne_zero _), rfl, ?_⟩
    rw [hL, up_same Is 16]
    all_goals first | done | rfl
set_option maxRecDepth 20000 in
theorem c_X6_readsHurdle (g : gG) (q : Nat → Nat) (Na : Nat → Nat → Nat) (Ia : Nat → Nat → Int32) (Ns : Nat → Nat) (Is : Nat → Int32)  (zc : Nat) (zP : Nat) (hT : ∀ k, Na 3 k < 256) (h4 : Ns 4 ≤ 400) (hc0 : zc ≤ Ns 4) (h13 : Ns 13 = tE (Na 3) (Ns 4) zc) (h14 : Ns 14 = tP (Na 3) (Ns 4) zc) (h15 : Ns 15 = tE (Na 3) (Ns 4) zc) (hP6 : zP ≤ 6) (hPI : Is 16 = nI zP) (hm : Ns 18 ≤ 5) : gCon g mX6_readsHurdle 3 0 0 [.ref (q 26)] (wM g q Na Ia Ns Is) (fun rv ws' => ∃ (ZA : Nat → Nat) (zm : Nat), ((pHur (Na 3) (Ns 4) zP (Ns 18) zc).1 = 0 → zm = Ns 18 + 1 ∧ ZA = upH (Na 17) (Ns 18) (pHur (Na 3) (Ns 4) zP (Ns 18) zc).2.2.1 (pHur (Na 3) (Ns 4) zP (Ns 18) zc).2.2.2.1 (pHur (Na 3) (Ns 4) zP (Ns 18) zc).2.2.2.2.1 (pHur (Na 3) (Ns 4) zP (Ns 18) zc).2.2.2.2.2) ∧ rv = some (.int (gB ((pHur (Na 3) (Ns 4) zP (Ns 18) zc).1 = 0))) ∧ ws' = (wM g q (va_up Na 17 ZA) Ia (va_up (va_up (va_up (va_up (va_up Ns 5 (stsA (Ns 5) ((pHur (Na 3) (Ns 4) zP (Ns 18) zc).1))) 13 (tE (Na 3) (Ns 4) ((pHur (Na 3) (Ns 4) zP (Ns 18) zc).2.1))) 14 (tP (Na 3) (Ns 4) ((pHur (Na 3) (Ns 4) zP (Ns 18) zc).2.1))) 15 (tE (Na 3) (Ns 4) ((pHur (Na 3) (Ns 4) zP (Ns 18) zc).2.1))) 18 zm) Is)) := by
  refine gCon.of (lv := [(0, .ref (q 26))]) (by decide) (gLe rfl) rfl ?_
  have hE0 := tE_le (T := Na 3) hc0
  have hc1 := hE0.2.1
  have hE1 := tE_le (T := Na 3) hc1
  have hc2 := hE1.2.1
  have hE2 := tE_le (T := Na 3) hc2
  have hc3 := hE2.2.1
  have hE3 := tE_le (T := Na 3) hc3
  have hc4 := hE3.2.1
  have hE4 := tE_le (T := Na 3) hc4
  have hc5 := hE4.2.1
  have hE5 := tE_le (T := Na 3) hc5
  refine j_ws (wM g q Na Ia (va_up (va_up (va_up Ns 13 (tE (Na 3) (Ns 4) zc)) 14 (tP (Na 3) (Ns 4) zc)) 15 (tE (Na 3) (Ns 4) zc)) Is) (congrArg (fun z => wM g q Na Ia z Is) (ns_cur h13 h14 h15)) ?_
  refine j_aload_n 1 dX6_readsHurdle_0 rfl 0 rfl ?_
  refine j_getf 4 0 dX6_readsHurdle_1 rfl fd_X6_128 rfl rfl ?_
  refine j_iconst (v := (5 : Int32)) 5 dX6_readsHurdle_4 rfl (by decide) ?_
  refine j_icmp_neN (Ns 18) 5 8 15 dX6_readsHurdle_5 rfl rfl (by have z0 := hm; omega) (by decide) (fun h5 => ?_) (fun h5 => ?_)
  ·
    refine j_aload_n 16 dX6_readsHurdle_15 rfl 0 rfl ?_
    refine j_callVW (rest := []) 19 (c_X6_token g q Na Ia (va_up (va_up (va_up Ns 13 (tE (Na 3) (Ns 4) zc)) 14 (tP (Na 3) (Ns 4) zc)) 15 (tE (Na 3) (Ns 4) zc)) Is   hT h4 hc1) [] dX6_readsHurdle_16 rfl cv_X6_120 rfl rfl 0 rfl rfl (gLe rfl) (gLe rfl) (gLe rfl) (gLe rfl) (wM_len _ _ _ _ _ _ _ _ _ _) rfl ?_
    refine j_aload_n 20 dX6_readsHurdle_19 rfl 0 rfl ?_
    refine j_callVW (rest := []) 23 (c_X6_hurdleWord g q Na Ia (va_up (va_up (va_up Ns 13 (tE (Na 3) (Ns 4) (tE (Na 3) (Ns 4) zc))) 14 (tP (Na 3) (Ns 4) (tE (Na 3) (Ns 4) zc))) 15 (tE (Na 3) (Ns 4) (tE (Na 3) (Ns 4) zc))) Is   hT h4 ⟨hE1.1, hE1.2.1⟩) [.int (sN (hwS (Na 3) (tP (Na 3) (Ns 4) (tE (Na 3) (Ns 4) zc)) (tE (Na 3) (Ns 4) (tE (Na 3) (Ns 4) zc))) 3)] dX6_readsHurdle_20 rfl cv_X6_139 rfl rfl 0 rfl rfl (gLe rfl) (gLe rfl) (gLe rfl) (gLe rfl) (wM_len _ _ _ _ _ _ _ _ _ _) rfl ?_
    refine j_istore_n 24 [(1, .int (sN (hwS (Na 3) (tP (Na 3) (Ns 4) (tE (Na 3) (Ns 4) zc)) (tE (Na 3) (Ns 4) (tE (Na 3) (Ns 4) zc))) 3)), (0, .ref (q 26))] dX6_readsHurdle_23 rfl (by decide) rfl ?_
    refine j_iload_n 25 dX6_readsHurdle_24 rfl 0 rfl ?_
    refine j_ldc (v := (-1000000 : Int32)) 27 dX6_readsHurdle_25 rfl wd_4_47 ?_
    refine j_icmp_ne 30 37 dX6_readsHurdle_27 rfl rfl (fun h27 => ?_) (fun h27 => ?_)
    ·
      have hs3 : ¬ (hwS (Na 3) (tP (Na 3) (Ns 4) (tE (Na 3) (Ns 4) zc)) (tE (Na 3) (Ns 4) (tE (Na 3) (Ns 4) zc))) = 3 := fun y => h27 ((sN_n (by have := hwS_le (T := Na 3) (p := tP (Na 3) (Ns 4) (tE (Na 3) (Ns 4) zc)) (e := tE (Na 3) (Ns 4) (tE (Na 3) (Ns 4) zc)); omega)).mpr y)
      refine j_lvs [(1, .int (nI (hwS (Na 3) (tP (Na 3) (Ns 4) (tE (Na 3) (Ns 4) zc)) (tE (Na 3) (Ns 4) (tE (Na 3) (Ns 4) zc))))), (0, .ref (q 26))] (by rw [show sN (hwS (Na 3) (tP (Na 3) (Ns 4) (tE (Na 3) (Ns 4) zc)) (tE (Na 3) (Ns 4) (tE (Na 3) (Ns 4) zc))) 3 = nI (hwS (Na 3) (tP (Na 3) (Ns 4) (tE (Na 3) (Ns 4) zc)) (tE (Na 3) (Ns 4) (tE (Na 3) (Ns 4) zc))) from sN_v hs3]) ?_
      refine j_aload_n 38 dX6_readsHurdle_37 rfl 1 rfl ?_
      refine j_callVW (rest := []) 41 (c_X6_token g q Na Ia (va_up (va_up (va_up Ns 13 (tE (Na 3) (Ns 4) (tE (Na 3) (Ns 4) zc))) 14 (tP (Na 3) (Ns 4) (tE (Na 3) (Ns 4) zc))) 15 (tE (Na 3) (Ns 4) (tE (Na 3) (Ns 4) zc))) Is   hT h4 hc2) [] dX6_readsHurdle_38 rfl cv_X6_120 rfl rfl 0 rfl rfl (gLe rfl) (gLe rfl) (gLe rfl) (gLe rfl) (wM_len _ _ _ _ _ _ _ _ _ _) rfl ?_
      refine j_aload_n 42 dX6_readsHurdle_41 rfl 1 rfl ?_
      refine j_callVW (rest := []) 45 (c_X6_way g q Na Ia (va_up (va_up (va_up Ns 13 (tE (Na 3) (Ns 4) (tE (Na 3) (Ns 4) (tE (Na 3) (Ns 4) zc)))) 14 (tP (Na 3) (Ns 4) (tE (Na 3) (Ns 4) (tE (Na 3) (Ns 4) zc)))) 15 (tE (Na 3) (Ns 4) (tE (Na 3) (Ns 4) (tE (Na 3) (Ns 4) zc)))) Is  (tE (Na 3) (Ns 4) (tE (Na 3) (Ns 4) zc)) zP hT h4 hc2 rfl rfl rfl hP6 hPI hm) [.int (kV (wyK (Na 3) (Ns 4) (tE (Na 3) (Ns 4) (tE (Na 3) (Ns 4) zc)) zP (Ns 18)) (nmV (Na 3) (Ns 4) (tE (Na 3) (Ns 4) (tE (Na 3) (Ns 4) zc))))] dX6_readsHurdle_42 rfl cv_X6_143 rfl rfl 0 rfl rfl (gLe rfl) (gLe rfl) (gLe rfl) (gLe rfl) (wM_len _ _ _ _ _ _ _ _ _ _) rfl ?_
      refine j_istore_n 46 [(2, .int (kV (wyK (Na 3) (Ns 4) (tE (Na 3) (Ns 4) (tE (Na 3) (Ns 4) zc)) zP (Ns 18)) (nmV (Na 3) (Ns 4) (tE (Na 3) (Ns 4) (tE (Na 3) (Ns 4) zc))))), (1, .int (nI (hwS (Na 3) (tP (Na 3) (Ns 4) (tE (Na 3) (Ns 4) zc)) (tE (Na 3) (Ns 4) (tE (Na 3) (Ns 4) zc))))), (0, .ref (q 26))] dX6_readsHurdle_45 rfl (by decide) rfl ?_
      refine j_iload_n 47 dX6_readsHurdle_46 rfl 0 rfl ?_
      refine j_ldc (v := (-1000000 : Int32)) 49 dX6_readsHurdle_47 rfl wd_4_47 ?_
      refine j_icmp_ne 52 57 dX6_readsHurdle_49 rfl rfl (fun h49 => ?_) (fun h49 => ?_)
      ·
        have hk2 : (wyK (Na 3) (Ns 4) (tE (Na 3) (Ns 4) (tE (Na 3) (Ns 4) zc)) zP (Ns 18)) = 0 := kV_ne h49
        refine j_ws (wM g q Na Ia (va_up (va_up (va_up (va_up Ns 5 (stsA (Ns 5) (wyK (Na 3) (Ns 4) (tE (Na 3) (Ns 4) (tE (Na 3) (Ns 4) zc)) zP (Ns 18)))) 13 (tE (Na 3) (Ns 4) (adv (Na 3) (Ns 4) (tE (Na 3) (Ns 4) (tE (Na 3) (Ns 4) zc)) (wyK (Na 3) (Ns 4) (tE (Na 3) (Ns 4) (tE (Na 3) (Ns 4) zc)) zP (Ns 18))))) 14 (tP (Na 3) (Ns 4) (adv (Na 3) (Ns 4) (tE (Na 3) (Ns 4) (tE (Na 3) (Ns 4) zc)) (wyK (Na 3) (Ns 4) (tE (Na 3) (Ns 4) (tE (Na 3) (Ns 4) zc)) zP (Ns 18))))) 15 (tE (Na 3) (Ns 4) (adv (Na 3) (Ns 4) (tE (Na 3) (Ns 4) (tE (Na 3) (Ns 4) zc)) (wyK (Na 3) (Ns 4) (tE (Na 3) (Ns 4) (tE (Na 3) (Ns 4) zc)) zP (Ns 18))))) Is) rfl ?_
        refine j_ws (wM g q Na Ia (va_up (va_up (va_up Ns 13 (tE (Na 3) (Ns 4) (tE (Na 3) (Ns 4) (tE (Na 3) (Ns 4) (tE (Na 3) (Ns 4) zc))))) 14 (tP (Na 3) (Ns 4) (tE (Na 3) (Ns 4) (tE (Na 3) (Ns 4) (tE (Na 3) (Ns 4) zc))))) 15 (tE (Na 3) (Ns 4) (tE (Na 3) (Ns 4) (tE (Na 3) (Ns 4) (tE (Na 3) (Ns 4) zc))))) Is) (by rw [adv_0 hk2, stsA_0 hk2, up_same Ns 5]) ?_
        refine j_lvs [(2, .int (nI (nmV (Na 3) (Ns 4) (tE (Na 3) (Ns 4) (tE (Na 3) (Ns 4) zc))))), (1, .int (nI (hwS (Na 3) (tP (Na 3) (Ns 4) (tE (Na 3) (Ns 4) zc)) (tE (Na 3) (Ns 4) (tE (Na 3) (Ns 4) zc))))), (0, .ref (q 26))] (by rw [show kV (wyK (Na 3) (Ns 4) (tE (Na 3) (Ns 4) (tE (Na 3) (Ns 4) zc)) zP (Ns 18)) (nmV (Na 3) (Ns 4) (tE (Na 3) (Ns 4) (tE (Na 3) (Ns 4) zc))) = nI (nmV (Na 3) (Ns 4) (tE (Na 3) (Ns 4) (tE (Na 3) (Ns 4) zc))) from kV_0 hk2]) ?_
        refine j_aload_n 58 dX6_readsHurdle_57 rfl 2 rfl ?_
        refine j_callVW (rest := []) 61 (c_X6_way g q Na Ia (va_up (va_up (va_up Ns 13 (tE (Na 3) (Ns 4) (tE (Na 3) (Ns 4) (tE (Na 3) (Ns 4) (tE (Na 3) (Ns 4) zc))))) 14 (tP (Na 3) (Ns 4) (tE (Na 3) (Ns 4) (tE (Na 3) (Ns 4) (tE (Na 3) (Ns 4) zc))))) 15 (tE (Na 3) (Ns 4) (tE (Na 3) (Ns 4) (tE (Na 3) (Ns 4) (tE (Na 3) (Ns 4) zc))))) Is  (tE (Na 3) (Ns 4) (tE (Na 3) (Ns 4) (tE (Na 3) (Ns 4) zc))) zP hT h4 hc3 rfl rfl rfl hP6 hPI hm) [.int (kV (wyK (Na 3) (Ns 4) (tE (Na 3) (Ns 4) (tE (Na 3) (Ns 4) (tE (Na 3) (Ns 4) zc))) zP (Ns 18)) (nmV (Na 3) (Ns 4) (tE (Na 3) (Ns 4) (tE (Na 3) (Ns 4) (tE (Na 3) (Ns 4) zc)))))] dX6_readsHurdle_58 rfl cv_X6_143 rfl rfl 0 rfl rfl (gLe rfl) (gLe rfl) (gLe rfl) (gLe rfl) (wM_len _ _ _ _ _ _ _ _ _ _) rfl ?_
        refine j_istore_n 62 [(3, .int (kV (wyK (Na 3) (Ns 4) (tE (Na 3) (Ns 4) (tE (Na 3) (Ns 4) (tE (Na 3) (Ns 4) zc))) zP (Ns 18)) (nmV (Na 3) (Ns 4) (tE (Na 3) (Ns 4) (tE (Na 3) (Ns 4) (tE (Na 3) (Ns 4) zc)))))), (2, .int (nI (nmV (Na 3) (Ns 4) (tE (Na 3) (Ns 4) (tE (Na 3) (Ns 4) zc))))), (1, .int (nI (hwS (Na 3) (tP (Na 3) (Ns 4) (tE (Na 3) (Ns 4) zc)) (tE (Na 3) (Ns 4) (tE (Na 3) (Ns 4) zc))))), (0, .ref (q 26))] dX6_readsHurdle_61 rfl (by decide) rfl ?_
        refine j_iload_n 63 dX6_readsHurdle_62 rfl 0 rfl ?_
        refine j_ldc (v := (-1000000 : Int32)) 65 dX6_readsHurdle_63 rfl wd_4_47 ?_
        refine j_icmp_ne 68 73 dX6_readsHurdle_65 rfl rfl (fun h65 => ?_) (fun h65 => ?_)
        ·
          have hk3 : (wyK (Na 3) (Ns 4) (tE (Na 3) (Ns 4) (tE (Na 3) (Ns 4) (tE (Na 3) (Ns 4) zc))) zP (Ns 18)) = 0 := kV_ne h65
          refine j_ws (wM g q Na Ia (va_up (va_up (va_up (va_up Ns 5 (stsA (Ns 5) (wyK (Na 3) (Ns 4) (tE (Na 3) (Ns 4) (tE (Na 3) (Ns 4) (tE (Na 3) (Ns 4) zc))) zP (Ns 18)))) 13 (tE (Na 3) (Ns 4) (adv (Na 3) (Ns 4) (tE (Na 3) (Ns 4) (tE (Na 3) (Ns 4) (tE (Na 3) (Ns 4) zc))) (wyK (Na 3) (Ns 4) (tE (Na 3) (Ns 4) (tE (Na 3) (Ns 4) (tE (Na 3) (Ns 4) zc))) zP (Ns 18))))) 14 (tP (Na 3) (Ns 4) (adv (Na 3) (Ns 4) (tE (Na 3) (Ns 4) (tE (Na 3) (Ns 4) (tE (Na 3) (Ns 4) zc))) (wyK (Na 3) (Ns 4) (tE (Na 3) (Ns 4) (tE (Na 3) (Ns 4) (tE (Na 3) (Ns 4) zc))) zP (Ns 18))))) 15 (tE (Na 3) (Ns 4) (adv (Na 3) (Ns 4) (tE (Na 3) (Ns 4) (tE (Na 3) (Ns 4) (tE (Na 3) (Ns 4) zc))) (wyK (Na 3) (Ns 4) (tE (Na 3) (Ns 4) (tE (Na 3) (Ns 4) (tE (Na 3) (Ns 4) zc))) zP (Ns 18))))) Is) rfl ?_
          refine j_ws (wM g q Na Ia (va_up (va_up (va_up Ns 13 (tE (Na 3) (Ns 4) (tE (Na 3) (Ns 4) (tE (Na 3) (Ns 4) (tE (Na 3) (Ns 4) (tE (Na 3) (Ns 4) zc)))))) 14 (tP (Na 3) (Ns 4) (tE (Na 3) (Ns 4) (tE (Na 3) (Ns 4) (tE (Na 3) (Ns 4) (tE (Na 3) (Ns 4) zc)))))) 15 (tE (Na 3) (Ns 4) (tE (Na 3) (Ns 4) (tE (Na 3) (Ns 4) (tE (Na 3) (Ns 4) (tE (Na 3) (Ns 4) zc)))))) Is) (by rw [adv_0 hk3, stsA_0 hk3, up_same Ns 5]) ?_
          refine j_lvs [(3, .int (nI (nmV (Na 3) (Ns 4) (tE (Na 3) (Ns 4) (tE (Na 3) (Ns 4) (tE (Na 3) (Ns 4) zc)))))), (2, .int (nI (nmV (Na 3) (Ns 4) (tE (Na 3) (Ns 4) (tE (Na 3) (Ns 4) zc))))), (1, .int (nI (hwS (Na 3) (tP (Na 3) (Ns 4) (tE (Na 3) (Ns 4) zc)) (tE (Na 3) (Ns 4) (tE (Na 3) (Ns 4) zc))))), (0, .ref (q 26))] (by rw [show kV (wyK (Na 3) (Ns 4) (tE (Na 3) (Ns 4) (tE (Na 3) (Ns 4) (tE (Na 3) (Ns 4) zc))) zP (Ns 18)) (nmV (Na 3) (Ns 4) (tE (Na 3) (Ns 4) (tE (Na 3) (Ns 4) (tE (Na 3) (Ns 4) zc)))) = nI (nmV (Na 3) (Ns 4) (tE (Na 3) (Ns 4) (tE (Na 3) (Ns 4) (tE (Na 3) (Ns 4) zc)))) from kV_0 hk3]) ?_
          refine j_aload_n 74 dX6_readsHurdle_73 rfl 3 rfl ?_
          refine j_iconst (v := (0 : Int32)) 75 dX6_readsHurdle_74 rfl (by decide) ?_
          refine j_aload_n 76 dX6_readsHurdle_75 rfl 3 rfl ?_
          refine j_getf 79 0 dX6_readsHurdle_76 rfl fd_X6_128 rfl rfl ?_
          refine j_callVW (rest := []) 82 (c_X6_number g q Na Ia (va_up (va_up (va_up Ns 13 (tE (Na 3) (Ns 4) (tE (Na 3) (Ns 4) (tE (Na 3) (Ns 4) (tE (Na 3) (Ns 4) (tE (Na 3) (Ns 4) zc)))))) 14 (tP (Na 3) (Ns 4) (tE (Na 3) (Ns 4) (tE (Na 3) (Ns 4) (tE (Na 3) (Ns 4) (tE (Na 3) (Ns 4) zc)))))) 15 (tE (Na 3) (Ns 4) (tE (Na 3) (Ns 4) (tE (Na 3) (Ns 4) (tE (Na 3) (Ns 4) (tE (Na 3) (Ns 4) zc)))))) Is 0 (Ns 18) (tE (Na 3) (Ns 4) (tE (Na 3) (Ns 4) (tE (Na 3) (Ns 4) (tE (Na 3) (Ns 4) zc)))) hT h4 hc4 rfl rfl rfl (by decide) (by omega)) [.int (kV (nmK (Na 3) (Ns 4) (tE (Na 3) (Ns 4) (tE (Na 3) (Ns 4) (tE (Na 3) (Ns 4) (tE (Na 3) (Ns 4) zc)))) 0 (Ns 18)) (nmV (Na 3) (Ns 4) (tE (Na 3) (Ns 4) (tE (Na 3) (Ns 4) (tE (Na 3) (Ns 4) (tE (Na 3) (Ns 4) zc))))))] dX6_readsHurdle_79 rfl cv_X6_132 rfl rfl 0 rfl rfl (gLe rfl) (gLe rfl) (gLe rfl) (gLe rfl) (wM_len _ _ _ _ _ _ _ _ _ _) rfl ?_
          refine j_istore 84 [(4, .int (kV (nmK (Na 3) (Ns 4) (tE (Na 3) (Ns 4) (tE (Na 3) (Ns 4) (tE (Na 3) (Ns 4) (tE (Na 3) (Ns 4) zc)))) 0 (Ns 18)) (nmV (Na 3) (Ns 4) (tE (Na 3) (Ns 4) (tE (Na 3) (Ns 4) (tE (Na 3) (Ns 4) (tE (Na 3) (Ns 4) zc))))))), (3, .int (nI (nmV (Na 3) (Ns 4) (tE (Na 3) (Ns 4) (tE (Na 3) (Ns 4) (tE (Na 3) (Ns 4) zc)))))), (2, .int (nI (nmV (Na 3) (Ns 4) (tE (Na 3) (Ns 4) (tE (Na 3) (Ns 4) zc))))), (1, .int (nI (hwS (Na 3) (tP (Na 3) (Ns 4) (tE (Na 3) (Ns 4) zc)) (tE (Na 3) (Ns 4) (tE (Na 3) (Ns 4) zc))))), (0, .ref (q 26))] dX6_readsHurdle_82 rfl (by decide) rfl ?_
          refine j_iload 86 dX6_readsHurdle_84 rfl 0 rfl ?_
          refine j_ldc (v := (-1000000 : Int32)) 88 dX6_readsHurdle_86 rfl wd_4_47 ?_
          refine j_icmp_ne 91 93 dX6_readsHurdle_88 rfl rfl (fun h88 => ?_) (fun h88 => ?_)
          ·
            have hk4 : (nmK (Na 3) (Ns 4) (tE (Na 3) (Ns 4) (tE (Na 3) (Ns 4) (tE (Na 3) (Ns 4) (tE (Na 3) (Ns 4) zc)))) 0 (Ns 18)) = 0 := kV_ne h88
            refine j_ws (wM g q Na Ia (va_up (va_up (va_up (va_up Ns 5 (stsA (Ns 5) (nmK (Na 3) (Ns 4) (tE (Na 3) (Ns 4) (tE (Na 3) (Ns 4) (tE (Na 3) (Ns 4) (tE (Na 3) (Ns 4) zc)))) 0 (Ns 18)))) 13 (tE (Na 3) (Ns 4) (adv (Na 3) (Ns 4) (tE (Na 3) (Ns 4) (tE (Na 3) (Ns 4) (tE (Na 3) (Ns 4) (tE (Na 3) (Ns 4) zc)))) (nmK (Na 3) (Ns 4) (tE (Na 3) (Ns 4) (tE (Na 3) (Ns 4) (tE (Na 3) (Ns 4) (tE (Na 3) (Ns 4) zc)))) 0 (Ns 18))))) 14 (tP (Na 3) (Ns 4) (adv (Na 3) (Ns 4) (tE (Na 3) (Ns 4) (tE (Na 3) (Ns 4) (tE (Na 3) (Ns 4) (tE (Na 3) (Ns 4) zc)))) (nmK (Na 3) (Ns 4) (tE (Na 3) (Ns 4) (tE (Na 3) (Ns 4) (tE (Na 3) (Ns 4) (tE (Na 3) (Ns 4) zc)))) 0 (Ns 18))))) 15 (tE (Na 3) (Ns 4) (adv (Na 3) (Ns 4) (tE (Na 3) (Ns 4) (tE (Na 3) (Ns 4) (tE (Na 3) (Ns 4) (tE (Na 3) (Ns 4) zc)))) (nmK (Na 3) (Ns 4) (tE (Na 3) (Ns 4) (tE (Na 3) (Ns 4) (tE (Na 3) (Ns 4) (tE (Na 3) (Ns 4) zc)))) 0 (Ns 18))))) Is) rfl ?_
            refine j_ws (wM g q Na Ia (va_up (va_up (va_up Ns 13 (tE (Na 3) (Ns 4) (tE (Na 3) (Ns 4) (tE (Na 3) (Ns 4) (tE (Na 3) (Ns 4) (tE (Na 3) (Ns 4) (tE (Na 3) (Ns 4) zc))))))) 14 (tP (Na 3) (Ns 4) (tE (Na 3) (Ns 4) (tE (Na 3) (Ns 4) (tE (Na 3) (Ns 4) (tE (Na 3) (Ns 4) (tE (Na 3) (Ns 4) zc))))))) 15 (tE (Na 3) (Ns 4) (tE (Na 3) (Ns 4) (tE (Na 3) (Ns 4) (tE (Na 3) (Ns 4) (tE (Na 3) (Ns 4) (tE (Na 3) (Ns 4) zc))))))) Is) (by rw [adv_0 hk4, stsA_0 hk4, up_same Ns 5]) ?_
            refine j_lvs [(4, .int (nI (nmV (Na 3) (Ns 4) (tE (Na 3) (Ns 4) (tE (Na 3) (Ns 4) (tE (Na 3) (Ns 4) (tE (Na 3) (Ns 4) zc))))))), (3, .int (nI (nmV (Na 3) (Ns 4) (tE (Na 3) (Ns 4) (tE (Na 3) (Ns 4) (tE (Na 3) (Ns 4) zc)))))), (2, .int (nI (nmV (Na 3) (Ns 4) (tE (Na 3) (Ns 4) (tE (Na 3) (Ns 4) zc))))), (1, .int (nI (hwS (Na 3) (tP (Na 3) (Ns 4) (tE (Na 3) (Ns 4) zc)) (tE (Na 3) (Ns 4) (tE (Na 3) (Ns 4) zc))))), (0, .ref (q 26))] (by rw [show kV (nmK (Na 3) (Ns 4) (tE (Na 3) (Ns 4) (tE (Na 3) (Ns 4) (tE (Na 3) (Ns 4) (tE (Na 3) (Ns 4) zc)))) 0 (Ns 18)) (nmV (Na 3) (Ns 4) (tE (Na 3) (Ns 4) (tE (Na 3) (Ns 4) (tE (Na 3) (Ns 4) (tE (Na 3) (Ns 4) zc))))) = nI (nmV (Na 3) (Ns 4) (tE (Na 3) (Ns 4) (tE (Na 3) (Ns 4) (tE (Na 3) (Ns 4) (tE (Na 3) (Ns 4) zc))))) from kV_0 hk4]) ?_
            have hm4 : Ns 18 ≤ 4 := by omega
            refine j_aload_n 94 dX6_readsHurdle_93 rfl 4 rfl ?_
            refine j_getf 97 0 dX6_readsHurdle_94 rfl fd_X6_36 rfl rfl ?_
            refine j_iconst (v := (4 : Int32)) 98 dX6_readsHurdle_97 rfl (by decide) ?_
            refine j_aload_n 99 dX6_readsHurdle_98 rfl 4 rfl ?_
            refine j_getf 102 0 dX6_readsHurdle_99 rfl fd_X6_128 rfl rfl ?_
            refine j_imulN 4 (Ns 18) 103 dX6_readsHurdle_102 rfl ?_
            refine j_iload_n 104 dX6_readsHurdle_103 rfl 2 rfl ?_
            refine j_iastN (nmV (Na 3) (Ns 4) (tE (Na 3) (Ns 4) (tE (Na 3) (Ns 4) zc))) (4 * (Ns 18)) 105 8 (wM g q (va_up Na 17 (va_up (Na 17) (4 * (Ns 18)) (nmV (Na 3) (Ns 4) (tE (Na 3) (Ns 4) (tE (Na 3) (Ns 4) zc))))) Ia (va_up (va_up (va_up Ns 13 (tE (Na 3) (Ns 4) (tE (Na 3) (Ns 4) (tE (Na 3) (Ns 4) (tE (Na 3) (Ns 4) (tE (Na 3) (Ns 4) (tE (Na 3) (Ns 4) zc))))))) 14 (tP (Na 3) (Ns 4) (tE (Na 3) (Ns 4) (tE (Na 3) (Ns 4) (tE (Na 3) (Ns 4) (tE (Na 3) (Ns 4) (tE (Na 3) (Ns 4) zc))))))) 15 (tE (Na 3) (Ns 4) (tE (Na 3) (Ns 4) (tE (Na 3) (Ns 4) (tE (Na 3) (Ns 4) (tE (Na 3) (Ns 4) (tE (Na 3) (Ns 4) zc))))))) Is) dX6_readsHurdle_104 rfl rfl (by omega) (by decide) rfl ?_
            refine j_aload_n 106 dX6_readsHurdle_105 rfl 4 rfl ?_
            refine j_getf 109 0 dX6_readsHurdle_106 rfl fd_X6_36 rfl rfl ?_
            refine j_iconst (v := (4 : Int32)) 110 dX6_readsHurdle_109 rfl (by decide) ?_
            refine j_aload_n 111 dX6_readsHurdle_110 rfl 4 rfl ?_
            refine j_getf 114 0 dX6_readsHurdle_111 rfl fd_X6_128 rfl rfl ?_
            refine j_imulN 4 (Ns 18) 115 dX6_readsHurdle_114 rfl ?_
            refine j_iconst (v := (1 : Int32)) 116 dX6_readsHurdle_115 rfl (by decide) ?_
            refine j_iaddN (4 * (Ns 18)) 1 117 dX6_readsHurdle_116 rfl ?_
            refine j_iload_n 118 dX6_readsHurdle_117 rfl 1 rfl ?_
            refine j_iastN (nmV (Na 3) (Ns 4) (tE (Na 3) (Ns 4) (tE (Na 3) (Ns 4) (tE (Na 3) (Ns 4) zc)))) ((4 * (Ns 18)) + 1) 119 8 (wM g q (va_up Na 17 (va_up (va_up (Na 17) (4 * (Ns 18)) (nmV (Na 3) (Ns 4) (tE (Na 3) (Ns 4) (tE (Na 3) (Ns 4) zc)))) ((4 * (Ns 18)) + 1) (nmV (Na 3) (Ns 4) (tE (Na 3) (Ns 4) (tE (Na 3) (Ns 4) (tE (Na 3) (Ns 4) zc)))))) Ia (va_up (va_up (va_up Ns 13 (tE (Na 3) (Ns 4) (tE (Na 3) (Ns 4) (tE (Na 3) (Ns 4) (tE (Na 3) (Ns 4) (tE (Na 3) (Ns 4) (tE (Na 3) (Ns 4) zc))))))) 14 (tP (Na 3) (Ns 4) (tE (Na 3) (Ns 4) (tE (Na 3) (Ns 4) (tE (Na 3) (Ns 4) (tE (Na 3) (Ns 4) (tE (Na 3) (Ns 4) zc))))))) 15 (tE (Na 3) (Ns 4) (tE (Na 3) (Ns 4) (tE (Na 3) (Ns 4) (tE (Na 3) (Ns 4) (tE (Na 3) (Ns 4) (tE (Na 3) (Ns 4) zc))))))) Is) dX6_readsHurdle_118 rfl rfl (by omega) (by decide) rfl ?_
            refine j_aload_n 120 dX6_readsHurdle_119 rfl 4 rfl ?_
            refine j_getf 123 0 dX6_readsHurdle_120 rfl fd_X6_36 rfl rfl ?_
            refine j_iconst (v := (4 : Int32)) 124 dX6_readsHurdle_123 rfl (by decide) ?_
            refine j_aload_n 125 dX6_readsHurdle_124 rfl 4 rfl ?_
            refine j_getf 128 0 dX6_readsHurdle_125 rfl fd_X6_128 rfl rfl ?_
            refine j_imulN 4 (Ns 18) 129 dX6_readsHurdle_128 rfl ?_
            refine j_iconst (v := (2 : Int32)) 130 dX6_readsHurdle_129 rfl (by decide) ?_
            refine j_iaddN (4 * (Ns 18)) 2 131 dX6_readsHurdle_130 rfl ?_
            refine j_iload 133 dX6_readsHurdle_131 rfl 0 rfl ?_
            refine j_iastN (nmV (Na 3) (Ns 4) (tE (Na 3) (Ns 4) (tE (Na 3) (Ns 4) (tE (Na 3) (Ns 4) (tE (Na 3) (Ns 4) zc))))) ((4 * (Ns 18)) + 2) 134 8 (wM g q (va_up Na 17 (va_up (va_up (va_up (Na 17) (4 * (Ns 18)) (nmV (Na 3) (Ns 4) (tE (Na 3) (Ns 4) (tE (Na 3) (Ns 4) zc)))) ((4 * (Ns 18)) + 1) (nmV (Na 3) (Ns 4) (tE (Na 3) (Ns 4) (tE (Na 3) (Ns 4) (tE (Na 3) (Ns 4) zc))))) ((4 * (Ns 18)) + 2) (nmV (Na 3) (Ns 4) (tE (Na 3) (Ns 4) (tE (Na 3) (Ns 4) (tE (Na 3) (Ns 4) (tE (Na 3) (Ns 4) zc))))))) Ia (va_up (va_up (va_up Ns 13 (tE (Na 3) (Ns 4) (tE (Na 3) (Ns 4) (tE (Na 3) (Ns 4) (tE (Na 3) (Ns 4) (tE (Na 3) (Ns 4) (tE (Na 3) (Ns 4) zc))))))) 14 (tP (Na 3) (Ns 4) (tE (Na 3) (Ns 4) (tE (Na 3) (Ns 4) (tE (Na 3) (Ns 4) (tE (Na 3) (Ns 4) (tE (Na 3) (Ns 4) zc))))))) 15 (tE (Na 3) (Ns 4) (tE (Na 3) (Ns 4) (tE (Na 3) (Ns 4) (tE (Na 3) (Ns 4) (tE (Na 3) (Ns 4) (tE (Na 3) (Ns 4) zc))))))) Is) dX6_readsHurdle_133 rfl rfl (by omega) (by decide) rfl ?_
            refine j_aload_n 135 dX6_readsHurdle_134 rfl 4 rfl ?_
            refine j_getf 138 0 dX6_readsHurdle_135 rfl fd_X6_36 rfl rfl ?_
            refine j_iconst (v := (4 : Int32)) 139 dX6_readsHurdle_138 rfl (by decide) ?_
            refine j_aload_n 140 dX6_readsHurdle_139 rfl 4 rfl ?_
            refine j_getf 143 0 dX6_readsHurdle_140 rfl fd_X6_128 rfl rfl ?_
            refine j_imulN 4 (Ns 18) 144 dX6_readsHurdle_143 rfl ?_
            refine j_iconst (v := (3 : Int32)) 145 dX6_readsHurdle_144 rfl (by decide) ?_
            refine j_iaddN (4 * (Ns 18)) 3 146 dX6_readsHurdle_145 rfl ?_
            refine j_iload_n 147 dX6_readsHurdle_146 rfl 3 rfl ?_
            refine j_iastN (hwS (Na 3) (tP (Na 3) (Ns 4) (tE (Na 3) (Ns 4) zc)) (tE (Na 3) (Ns 4) (tE (Na 3) (Ns 4) zc))) ((4 * (Ns 18)) + 3) 148 8 (wM g q (va_up Na 17 (va_up (va_up (va_up (va_up (Na 17) (4 * (Ns 18)) (nmV (Na 3) (Ns 4) (tE (Na 3) (Ns 4) (tE (Na 3) (Ns 4) zc)))) ((4 * (Ns 18)) + 1) (nmV (Na 3) (Ns 4) (tE (Na 3) (Ns 4) (tE (Na 3) (Ns 4) (tE (Na 3) (Ns 4) zc))))) ((4 * (Ns 18)) + 2) (nmV (Na 3) (Ns 4) (tE (Na 3) (Ns 4) (tE (Na 3) (Ns 4) (tE (Na 3) (Ns 4) (tE (Na 3) (Ns 4) zc)))))) ((4 * (Ns 18)) + 3) (hwS (Na 3) (tP (Na 3) (Ns 4) (tE (Na 3) (Ns 4) zc)) (tE (Na 3) (Ns 4) (tE (Na 3) (Ns 4) zc))))) Ia (va_up (va_up (va_up Ns 13 (tE (Na 3) (Ns 4) (tE (Na 3) (Ns 4) (tE (Na 3) (Ns 4) (tE (Na 3) (Ns 4) (tE (Na 3) (Ns 4) (tE (Na 3) (Ns 4) zc))))))) 14 (tP (Na 3) (Ns 4) (tE (Na 3) (Ns 4) (tE (Na 3) (Ns 4) (tE (Na 3) (Ns 4) (tE (Na 3) (Ns 4) (tE (Na 3) (Ns 4) zc))))))) 15 (tE (Na 3) (Ns 4) (tE (Na 3) (Ns 4) (tE (Na 3) (Ns 4) (tE (Na 3) (Ns 4) (tE (Na 3) (Ns 4) (tE (Na 3) (Ns 4) zc))))))) Is) dX6_readsHurdle_147 rfl rfl (by omega) (by decide) rfl ?_
            refine j_aload_n 149 dX6_readsHurdle_148 rfl 4 rfl ?_
            refine j_dup 150 dX6_readsHurdle_149 rfl rfl ?_
            refine j_getf 153 0 dX6_readsHurdle_150 rfl fd_X6_128 rfl rfl ?_
            refine j_iconst (v := (1 : Int32)) 154 dX6_readsHurdle_153 rfl (by decide) ?_
            refine j_iaddN (Ns 18) 1 155 dX6_readsHurdle_154 rfl ?_
            refine j_putf 158 0 (wM g q (va_up Na 17 (va_up (va_up (va_up (va_up (Na 17) (4 * (Ns 18)) (nmV (Na 3) (Ns 4) (tE (Na 3) (Ns 4) (tE (Na 3) (Ns 4) zc)))) ((4 * (Ns 18)) + 1) (nmV (Na 3) (Ns 4) (tE (Na 3) (Ns 4) (tE (Na 3) (Ns 4) (tE (Na 3) (Ns 4) zc))))) ((4 * (Ns 18)) + 2) (nmV (Na 3) (Ns 4) (tE (Na 3) (Ns 4) (tE (Na 3) (Ns 4) (tE (Na 3) (Ns 4) (tE (Na 3) (Ns 4) zc)))))) ((4 * (Ns 18)) + 3) (hwS (Na 3) (tP (Na 3) (Ns 4) (tE (Na 3) (Ns 4) zc)) (tE (Na 3) (Ns 4) (tE (Na 3) (Ns 4) zc))))) Ia (va_up (va_up (va_up (va_up Ns 13 (tE (Na 3) (Ns 4) (tE (Na 3) (Ns 4) (tE (Na 3) (Ns 4) (tE (Na 3) (Ns 4) (tE (Na 3) (Ns 4) (tE (Na 3) (Ns 4) zc))))))) 14 (tP (Na 3) (Ns 4) (tE (Na 3) (Ns 4) (tE (Na 3) (Ns 4) (tE (Na 3) (Ns 4) (tE (Na 3) (Ns 4) (tE (Na 3) (Ns 4) zc))))))) 15 (tE (Na 3) (Ns 4) (tE (Na 3) (Ns 4) (tE (Na 3) (Ns 4) (tE (Na 3) (Ns 4) (tE (Na 3) (Ns 4) (tE (Na 3) (Ns 4) zc))))))) 18 ((Ns 18) + 1)) Is) dX6_readsHurdle_155 rfl fd_X6_128 rfl rfl rfl (gLe rfl) rfl ?_
            refine j_aload_n 159 dX6_readsHurdle_158 rfl 4 rfl ?_
            refine j_callVW (rest := []) 162 (c_X6_readsSign g q (va_up Na 17 (va_up (va_up (va_up (va_up (Na 17) (4 * (Ns 18)) (nmV (Na 3) (Ns 4) (tE (Na 3) (Ns 4) (tE (Na 3) (Ns 4) zc)))) ((4 * (Ns 18)) + 1) (nmV (Na 3) (Ns 4) (tE (Na 3) (Ns 4) (tE (Na 3) (Ns 4) (tE (Na 3) (Ns 4) zc))))) ((4 * (Ns 18)) + 2) (nmV (Na 3) (Ns 4) (tE (Na 3) (Ns 4) (tE (Na 3) (Ns 4) (tE (Na 3) (Ns 4) (tE (Na 3) (Ns 4) zc)))))) ((4 * (Ns 18)) + 3) (hwS (Na 3) (tP (Na 3) (Ns 4) (tE (Na 3) (Ns 4) zc)) (tE (Na 3) (Ns 4) (tE (Na 3) (Ns 4) zc))))) Ia (va_up (va_up (va_up (va_up Ns 13 (tE (Na 3) (Ns 4) (tE (Na 3) (Ns 4) (tE (Na 3) (Ns 4) (tE (Na 3) (Ns 4) (tE (Na 3) (Ns 4) (tE (Na 3) (Ns 4) zc))))))) 14 (tP (Na 3) (Ns 4) (tE (Na 3) (Ns 4) (tE (Na 3) (Ns 4) (tE (Na 3) (Ns 4) (tE (Na 3) (Ns 4) (tE (Na 3) (Ns 4) zc))))))) 15 (tE (Na 3) (Ns 4) (tE (Na 3) (Ns 4) (tE (Na 3) (Ns 4) (tE (Na 3) (Ns 4) (tE (Na 3) (Ns 4) (tE (Na 3) (Ns 4) zc))))))) 18 ((Ns 18) + 1)) Is  (tE (Na 3) (Ns 4) (tE (Na 3) (Ns 4) (tE (Na 3) (Ns 4) (tE (Na 3) (Ns 4) (tE (Na 3) (Ns 4) zc))))) hT h4 hc5 rfl rfl rfl) [.int (gB (sgK (Na 3) (Ns 4) (tE (Na 3) (Ns 4) (tE (Na 3) (Ns 4) (tE (Na 3) (Ns 4) (tE (Na 3) (Ns 4) (tE (Na 3) (Ns 4) zc))))) = 0))] dX6_readsHurdle_159 rfl cv_X6_135 rfl rfl 0 rfl rfl (gLe rfl) (gLe rfl) (gLe rfl) (gLe rfl) (wM_len _ _ _ _ _ _ _ _ _ _) rfl ?_
            have hL : (pHur (Na 3) (Ns 4) zP (Ns 18) zc) = ((sgK (Na 3) (Ns 4) (tE (Na 3) (Ns 4) (tE (Na 3) (Ns 4) (tE (Na 3) (Ns 4) (tE (Na 3) (Ns 4) (tE (Na 3) (Ns 4) zc)))))), adv (Na 3) (Ns 4) (tE (Na 3) (Ns 4) (tE (Na 3) (Ns 4) (tE (Na 3) (Ns 4) (tE (Na 3) (Ns 4) (tE (Na 3) (Ns 4) zc))))) (sgK (Na 3) (Ns 4) (tE (Na 3) (Ns 4) (tE (Na 3) (Ns 4) (tE (Na 3) (Ns 4) (tE (Na 3) (Ns 4) (tE (Na 3) (Ns 4) zc)))))), nmV (Na 3) (Ns 4) (tE (Na 3) (Ns 4) (tE (Na 3) (Ns 4) zc)), nmV (Na 3) (Ns 4) (tE (Na 3) (Ns 4) (tE (Na 3) (Ns 4) (tE (Na 3) (Ns 4) zc))), nmV (Na 3) (Ns 4) (tE (Na 3) (Ns 4) (tE (Na 3) (Ns 4) (tE (Na 3) (Ns 4) (tE (Na 3) (Ns 4) zc)))), (hwS (Na 3) (tP (Na 3) (Ns 4) (tE (Na 3) (Ns 4) zc)) (tE (Na 3) (Ns 4) (tE (Na 3) (Ns 4) zc)))) := by rw [pHur, if_neg h5, pHuA, if_neg hs3, if_neg (fun y => y hk2), if_neg (fun y => y hk3), if_neg (fun y => y hk4)]
            refine j_topI _ (gB ((pHur (Na 3) (Ns 4) zP (Ns 18) zc).1 = 0)) (gB_iff (by rw [hL])) ?_
            refine j_iretB dX6_readsHurdle_162 rfl ⟨gLe rfl, gLe rfl, va_up (va_up (va_up (va_up (Na 17) (4 * (Ns 18)) (nmV (Na 3) (Ns 4) (tE (Na 3) (Ns 4) (tE (Na 3) (Ns 4) zc)))) ((4 * (Ns 18)) + 1) (nmV (Na 3) (Ns 4) (tE (Na 3) (Ns 4) (tE (Na 3) (Ns 4) (tE (Na 3) (Ns 4) zc))))) ((4 * (Ns 18)) + 2) (nmV (Na 3) (Ns 4) (tE (Na 3) (Ns 4) (tE (Na 3) (Ns 4) (tE (Na 3) (Ns 4) (tE (Na 3) (Ns 4) zc)))))) ((4 * (Ns 18)) + 3) (hwS (Na 3) (tP (Na 3) (Ns 4) (tE (Na 3) (Ns 4) zc)) (tE (Na 3) (Ns 4) (tE (Na 3) (Ns 4) zc))), (Ns 18) + 1, fun _ => by rw [hL]; exact ⟨rfl, rfl⟩, rfl, ?_⟩
            rw [hL]
            all_goals first | done | rfl
          ·
            have hk : (nmK (Na 3) (Ns 4) (tE (Na 3) (Ns 4) (tE (Na 3) (Ns 4) (tE (Na 3) (Ns 4) (tE (Na 3) (Ns 4) zc)))) 0 (Ns 18)) ≠ 0 := kV_nk (by by_cases y : (nmK (Na 3) (Ns 4) (tE (Na 3) (Ns 4) (tE (Na 3) (Ns 4) (tE (Na 3) (Ns 4) (tE (Na 3) (Ns 4) zc)))) 0 (Ns 18)) = 0; exact Or.inr (by have := nmV_lt hc4 y; omega); exact Or.inl y) h88
            refine j_ws (wM g q Na Ia (va_up (va_up (va_up (va_up Ns 5 (stsA (Ns 5) (nmK (Na 3) (Ns 4) (tE (Na 3) (Ns 4) (tE (Na 3) (Ns 4) (tE (Na 3) (Ns 4) (tE (Na 3) (Ns 4) zc)))) 0 (Ns 18)))) 13 (tE (Na 3) (Ns 4) (adv (Na 3) (Ns 4) (tE (Na 3) (Ns 4) (tE (Na 3) (Ns 4) (tE (Na 3) (Ns 4) (tE (Na 3) (Ns 4) zc)))) (nmK (Na 3) (Ns 4) (tE (Na 3) (Ns 4) (tE (Na 3) (Ns 4) (tE (Na 3) (Ns 4) (tE (Na 3) (Ns 4) zc)))) 0 (Ns 18))))) 14 (tP (Na 3) (Ns 4) (adv (Na 3) (Ns 4) (tE (Na 3) (Ns 4) (tE (Na 3) (Ns 4) (tE (Na 3) (Ns 4) (tE (Na 3) (Ns 4) zc)))) (nmK (Na 3) (Ns 4) (tE (Na 3) (Ns 4) (tE (Na 3) (Ns 4) (tE (Na 3) (Ns 4) (tE (Na 3) (Ns 4) zc)))) 0 (Ns 18))))) 15 (tE (Na 3) (Ns 4) (adv (Na 3) (Ns 4) (tE (Na 3) (Ns 4) (tE (Na 3) (Ns 4) (tE (Na 3) (Ns 4) (tE (Na 3) (Ns 4) zc)))) (nmK (Na 3) (Ns 4) (tE (Na 3) (Ns 4) (tE (Na 3) (Ns 4) (tE (Na 3) (Ns 4) (tE (Na 3) (Ns 4) zc)))) 0 (Ns 18))))) Is) rfl ?_
            refine j_ws (wM g q Na Ia (va_up (va_up (va_up (va_up Ns 5 (stsA (Ns 5) (nmK (Na 3) (Ns 4) (tE (Na 3) (Ns 4) (tE (Na 3) (Ns 4) (tE (Na 3) (Ns 4) (tE (Na 3) (Ns 4) zc)))) 0 (Ns 18)))) 13 (tE (Na 3) (Ns 4) (tE (Na 3) (Ns 4) (tE (Na 3) (Ns 4) (tE (Na 3) (Ns 4) (tE (Na 3) (Ns 4) zc)))))) 14 (tP (Na 3) (Ns 4) (tE (Na 3) (Ns 4) (tE (Na 3) (Ns 4) (tE (Na 3) (Ns 4) (tE (Na 3) (Ns 4) zc)))))) 15 (tE (Na 3) (Ns 4) (tE (Na 3) (Ns 4) (tE (Na 3) (Ns 4) (tE (Na 3) (Ns 4) (tE (Na 3) (Ns 4) zc)))))) Is) (by rw [adv_n hk]) ?_
            have hL : (pHur (Na 3) (Ns 4) zP (Ns 18) zc) = ((nmK (Na 3) (Ns 4) (tE (Na 3) (Ns 4) (tE (Na 3) (Ns 4) (tE (Na 3) (Ns 4) (tE (Na 3) (Ns 4) zc)))) 0 (Ns 18)), (tE (Na 3) (Ns 4) (tE (Na 3) (Ns 4) (tE (Na 3) (Ns 4) (tE (Na 3) (Ns 4) zc)))), 0, 0, 0, 0) := by rw [pHur, if_neg h5, pHuA, if_neg hs3, if_neg (fun y => y hk2), if_neg (fun y => y hk3), if_pos hk]
            refine j_iconst (v := (0 : Int32)) 92 dX6_readsHurdle_91 rfl (by decide) ?_
            refine j_iret0 (c := (pHur (Na 3) (Ns 4) zP (Ns 18) zc).1 = 0) dX6_readsHurdle_92 rfl (by rw [hL]; exact hk) ⟨gLe rfl, gLe rfl, Na 17, Ns 18, fun y => absurd y (by rw [hL]; exact hk), rfl, ?_⟩
            rw [hL, up_eqs _ 18 (Ns 18), up_same Na 17]
            all_goals first | done | rfl
        ·
          have hk : (wyK (Na 3) (Ns 4) (tE (Na 3) (Ns 4) (tE (Na 3) (Ns 4) (tE (Na 3) (Ns 4) zc))) zP (Ns 18)) ≠ 0 := kV_nk (by by_cases y : (wyK (Na 3) (Ns 4) (tE (Na 3) (Ns 4) (tE (Na 3) (Ns 4) (tE (Na 3) (Ns 4) zc))) zP (Ns 18)) = 0; exact Or.inr (by have := nmV_lt hc3 (wyK_v y).1; omega); exact Or.inl y) h65
          refine j_ws (wM g q Na Ia (va_up (va_up (va_up (va_up Ns 5 (stsA (Ns 5) (wyK (Na 3) (Ns 4) (tE (Na 3) (Ns 4) (tE (Na 3) (Ns 4) (tE (Na 3) (Ns 4) zc))) zP (Ns 18)))) 13 (tE (Na 3) (Ns 4) (adv (Na 3) (Ns 4) (tE (Na 3) (Ns 4) (tE (Na 3) (Ns 4) (tE (Na 3) (Ns 4) zc))) (wyK (Na 3) (Ns 4) (tE (Na 3) (Ns 4) (tE (Na 3) (Ns 4) (tE (Na 3) (Ns 4) zc))) zP (Ns 18))))) 14 (tP (Na 3) (Ns 4) (adv (Na 3) (Ns 4) (tE (Na 3) (Ns 4) (tE (Na 3) (Ns 4) (tE (Na 3) (Ns 4) zc))) (wyK (Na 3) (Ns 4) (tE (Na 3) (Ns 4) (tE (Na 3) (Ns 4) (tE (Na 3) (Ns 4) zc))) zP (Ns 18))))) 15 (tE (Na 3) (Ns 4) (adv (Na 3) (Ns 4) (tE (Na 3) (Ns 4) (tE (Na 3) (Ns 4) (tE (Na 3) (Ns 4) zc))) (wyK (Na 3) (Ns 4) (tE (Na 3) (Ns 4) (tE (Na 3) (Ns 4) (tE (Na 3) (Ns 4) zc))) zP (Ns 18))))) Is) rfl ?_
          refine j_ws (wM g q Na Ia (va_up (va_up (va_up (va_up Ns 5 (stsA (Ns 5) (wyK (Na 3) (Ns 4) (tE (Na 3) (Ns 4) (tE (Na 3) (Ns 4) (tE (Na 3) (Ns 4) zc))) zP (Ns 18)))) 13 (tE (Na 3) (Ns 4) (tE (Na 3) (Ns 4) (tE (Na 3) (Ns 4) (tE (Na 3) (Ns 4) zc))))) 14 (tP (Na 3) (Ns 4) (tE (Na 3) (Ns 4) (tE (Na 3) (Ns 4) (tE (Na 3) (Ns 4) zc))))) 15 (tE (Na 3) (Ns 4) (tE (Na 3) (Ns 4) (tE (Na 3) (Ns 4) (tE (Na 3) (Ns 4) zc))))) Is) (by rw [adv_n hk]) ?_
          have hL : (pHur (Na 3) (Ns 4) zP (Ns 18) zc) = ((wyK (Na 3) (Ns 4) (tE (Na 3) (Ns 4) (tE (Na 3) (Ns 4) (tE (Na 3) (Ns 4) zc))) zP (Ns 18)), (tE (Na 3) (Ns 4) (tE (Na 3) (Ns 4) (tE (Na 3) (Ns 4) zc))), 0, 0, 0, 0) := by rw [pHur, if_neg h5, pHuA, if_neg hs3, if_neg (fun y => y hk2), if_pos hk]
          refine j_ldc (v := (-1000000 : Int32)) 70 dX6_readsHurdle_68 rfl wd_4_47 ?_
          refine j_goto 82 dX6_readsHurdle_70 rfl ?_
          refine j_istore 84 [(4, .int (-1000000 : Int32)), (3, .int (kV (wyK (Na 3) (Ns 4) (tE (Na 3) (Ns 4) (tE (Na 3) (Ns 4) (tE (Na 3) (Ns 4) zc))) zP (Ns 18)) (nmV (Na 3) (Ns 4) (tE (Na 3) (Ns 4) (tE (Na 3) (Ns 4) (tE (Na 3) (Ns 4) zc)))))), (2, .int (nI (nmV (Na 3) (Ns 4) (tE (Na 3) (Ns 4) (tE (Na 3) (Ns 4) zc))))), (1, .int (nI (hwS (Na 3) (tP (Na 3) (Ns 4) (tE (Na 3) (Ns 4) zc)) (tE (Na 3) (Ns 4) (tE (Na 3) (Ns 4) zc))))), (0, .ref (q 26))] dX6_readsHurdle_82 rfl (by decide) rfl ?_
          refine j_iload 86 dX6_readsHurdle_84 rfl 0 rfl ?_
          refine j_ldc (v := (-1000000 : Int32)) 88 dX6_readsHurdle_86 rfl wd_4_47 ?_
          refine j_icmp_ne 91 93 dX6_readsHurdle_88 rfl rfl (fun h88 => absurd rfl h88) (fun h88 => ?_)
          refine j_iconst (v := (0 : Int32)) 92 dX6_readsHurdle_91 rfl (by decide) ?_
          refine j_iret0 (c := (pHur (Na 3) (Ns 4) zP (Ns 18) zc).1 = 0) dX6_readsHurdle_92 rfl (by rw [hL]; exact hk) ⟨gLe rfl, gLe rfl, Na 17, Ns 18, fun y => absurd y (by rw [hL]; exact hk), rfl, ?_⟩
          rw [hL, up_eqs _ 18 (Ns 18), up_same Na 17]
          all_goals first | done | rfl
      ·
        have hk : (wyK (Na 3) (Ns 4) (tE (Na 3) (Ns 4) (tE (Na 3) (Ns 4) zc)) zP (Ns 18)) ≠ 0 := kV_nk (by by_cases y : (wyK (Na 3) (Ns 4) (tE (Na 3) (Ns 4) (tE (Na 3) (Ns 4) zc)) zP (Ns 18)) = 0; exact Or.inr (by have := nmV_lt hc2 (wyK_v y).1; omega); exact Or.inl y) h49
        refine j_ws (wM g q Na Ia (va_up (va_up (va_up (va_up Ns 5 (stsA (Ns 5) (wyK (Na 3) (Ns 4) (tE (Na 3) (Ns 4) (tE (Na 3) (Ns 4) zc)) zP (Ns 18)))) 13 (tE (Na 3) (Ns 4) (adv (Na 3) (Ns 4) (tE (Na 3) (Ns 4) (tE (Na 3) (Ns 4) zc)) (wyK (Na 3) (Ns 4) (tE (Na 3) (Ns 4) (tE (Na 3) (Ns 4) zc)) zP (Ns 18))))) 14 (tP (Na 3) (Ns 4) (adv (Na 3) (Ns 4) (tE (Na 3) (Ns 4) (tE (Na 3) (Ns 4) zc)) (wyK (Na 3) (Ns 4) (tE (Na 3) (Ns 4) (tE (Na 3) (Ns 4) zc)) zP (Ns 18))))) 15 (tE (Na 3) (Ns 4) (adv (Na 3) (Ns 4) (tE (Na 3) (Ns 4) (tE (Na 3) (Ns 4) zc)) (wyK (Na 3) (Ns 4) (tE (Na 3) (Ns 4) (tE (Na 3) (Ns 4) zc)) zP (Ns 18))))) Is) rfl ?_
        refine j_ws (wM g q Na Ia (va_up (va_up (va_up (va_up Ns 5 (stsA (Ns 5) (wyK (Na 3) (Ns 4) (tE (Na 3) (Ns 4) (tE (Na 3) (Ns 4) zc)) zP (Ns 18)))) 13 (tE (Na 3) (Ns 4) (tE (Na 3) (Ns 4) (tE (Na 3) (Ns 4) zc)))) 14 (tP (Na 3) (Ns 4) (tE (Na 3) (Ns 4) (tE (Na 3) (Ns 4) zc)))) 15 (tE (Na 3) (Ns 4) (tE (Na 3) (Ns 4) (tE (Na 3) (Ns 4) zc)))) Is) (by rw [adv_n hk]) ?_
        have hL : (pHur (Na 3) (Ns 4) zP (Ns 18) zc) = ((wyK (Na 3) (Ns 4) (tE (Na 3) (Ns 4) (tE (Na 3) (Ns 4) zc)) zP (Ns 18)), (tE (Na 3) (Ns 4) (tE (Na 3) (Ns 4) zc)), 0, 0, 0, 0) := by rw [pHur, if_neg h5, pHuA, if_neg hs3, if_pos hk]
        refine j_ldc (v := (-1000000 : Int32)) 54 dX6_readsHurdle_52 rfl wd_4_47 ?_
        refine j_goto 61 dX6_readsHurdle_54 rfl ?_
        refine j_istore_n 62 [(3, .int (-1000000 : Int32)), (2, .int (kV (wyK (Na 3) (Ns 4) (tE (Na 3) (Ns 4) (tE (Na 3) (Ns 4) zc)) zP (Ns 18)) (nmV (Na 3) (Ns 4) (tE (Na 3) (Ns 4) (tE (Na 3) (Ns 4) zc))))), (1, .int (nI (hwS (Na 3) (tP (Na 3) (Ns 4) (tE (Na 3) (Ns 4) zc)) (tE (Na 3) (Ns 4) (tE (Na 3) (Ns 4) zc))))), (0, .ref (q 26))] dX6_readsHurdle_61 rfl (by decide) rfl ?_
        refine j_iload_n 63 dX6_readsHurdle_62 rfl 0 rfl ?_
        refine j_ldc (v := (-1000000 : Int32)) 65 dX6_readsHurdle_63 rfl wd_4_47 ?_
        refine j_icmp_ne 68 73 dX6_readsHurdle_65 rfl rfl (fun h65 => absurd rfl h65) (fun h65 => ?_)
        refine j_ldc (v := (-1000000 : Int32)) 70 dX6_readsHurdle_68 rfl wd_4_47 ?_
        refine j_goto 82 dX6_readsHurdle_70 rfl ?_
        refine j_istore 84 [(4, .int (-1000000 : Int32)), (3, .int (-1000000 : Int32)), (2, .int (kV (wyK (Na 3) (Ns 4) (tE (Na 3) (Ns 4) (tE (Na 3) (Ns 4) zc)) zP (Ns 18)) (nmV (Na 3) (Ns 4) (tE (Na 3) (Ns 4) (tE (Na 3) (Ns 4) zc))))), (1, .int (nI (hwS (Na 3) (tP (Na 3) (Ns 4) (tE (Na 3) (Ns 4) zc)) (tE (Na 3) (Ns 4) (tE (Na 3) (Ns 4) zc))))), (0, .ref (q 26))] dX6_readsHurdle_82 rfl (by decide) rfl ?_
        refine j_iload 86 dX6_readsHurdle_84 rfl 0 rfl ?_
        refine j_ldc (v := (-1000000 : Int32)) 88 dX6_readsHurdle_86 rfl wd_4_47 ?_
        refine j_icmp_ne 91 93 dX6_readsHurdle_88 rfl rfl (fun h88 => absurd rfl h88) (fun h88 => ?_)
        refine j_iconst (v := (0 : Int32)) 92 dX6_readsHurdle_91 rfl (by decide) ?_
        refine j_iret0 (c := (pHur (Na 3) (Ns 4) zP (Ns 18) zc).1 = 0) dX6_readsHurdle_92 rfl (by rw [hL]; exact hk) ⟨gLe rfl, gLe rfl, Na 17, Ns 18, fun y => absurd y (by rw [hL]; exact hk), rfl, ?_⟩
        rw [hL, up_eqs _ 18 (Ns 18), up_same Na 17]
        all_goals first | done | rfl
    ·
      have hs3 : (hwS (Na 3) (tP (Na 3) (Ns 4) (tE (Na 3) (Ns 4) zc)) (tE (Na 3) (Ns 4) (tE (Na 3) (Ns 4) zc))) = 3 := (sN_n (by have := hwS_le (T := Na 3) (p := tP (Na 3) (Ns 4) (tE (Na 3) (Ns 4) zc)) (e := tE (Na 3) (Ns 4) (tE (Na 3) (Ns 4) zc)); omega)).mp h27
      have hL : (pHur (Na 3) (Ns 4) zP (Ns 18) zc) = (1, (tE (Na 3) (Ns 4) zc), 0, 0, 0, 0) := by rw [pHur, if_neg h5, pHuA, if_pos hs3]
      refine j_aload_n 31 dX6_readsHurdle_30 rfl 1 rfl ?_
      refine j_iconst (v := (1 : Int32)) 32 dX6_readsHurdle_31 rfl (by decide) ?_
      refine j_putf 35 0 (wM g q Na Ia (va_up (va_up (va_up (va_up Ns 5 1) 13 (tE (Na 3) (Ns 4) (tE (Na 3) (Ns 4) zc))) 14 (tP (Na 3) (Ns 4) (tE (Na 3) (Ns 4) zc))) 15 (tE (Na 3) (Ns 4) (tE (Na 3) (Ns 4) zc))) Is) dX6_readsHurdle_32 rfl fd_X6_113 rfl rfl rfl (gLe rfl) rfl ?_
      refine j_iconst (v := (0 : Int32)) 36 dX6_readsHurdle_35 rfl (by decide) ?_
      refine j_iret0 (c := (pHur (Na 3) (Ns 4) zP (Ns 18) zc).1 = 0) dX6_readsHurdle_36 rfl (by rw [hL]; exact (Nat.succ_ne_zero _)) ⟨gLe rfl, gLe rfl, Na 17, Ns 18, fun y => absurd y (by rw [hL]; exact Nat.succ_ne_zero _), rfl, ?_⟩
      rw [hL, up_eqs _ 18 (Ns 18), up_same Na 17]
      all_goals first | done | rfl
  ·
    have hL : (pHur (Na 3) (Ns 4) zP (Ns 18) zc) = (3, zc, 0, 0, 0, 0) := if_pos h5
    refine j_aload_n 9 dX6_readsHurdle_8 rfl 0 rfl ?_
    refine j_iconst (v := (3 : Int32)) 10 dX6_readsHurdle_9 rfl (by decide) ?_
    refine j_putf 13 0 (wM g q Na Ia (va_up (va_up (va_up (va_up Ns 5 3) 13 (tE (Na 3) (Ns 4) zc)) 14 (tP (Na 3) (Ns 4) zc)) 15 (tE (Na 3) (Ns 4) zc)) Is) dX6_readsHurdle_10 rfl fd_X6_113 rfl rfl rfl (gLe rfl) rfl ?_
    refine j_iconst (v := (0 : Int32)) 14 dX6_readsHurdle_13 rfl (by decide) ?_
    refine j_iret0 (c := (pHur (Na 3) (Ns 4) zP (Ns 18) zc).1 = 0) dX6_readsHurdle_14 rfl (by rw [hL]; exact (Nat.succ_ne_zero _)) ⟨gLe rfl, gLe rfl, Na 17, Ns 18, fun y => absurd y (by rw [hL]; exact Nat.succ_ne_zero _), rfl, ?_⟩
    rw [hL, up_eqs _ 18 (Ns 18), up_same Na 17]
    all_goals first | done | rfl
set_option maxRecDepth 20000 in
theorem c_X6_readsBeast (g : gG) (q : Nat → Nat) (Na : Nat → Nat → Nat) (Ia : Nat → Nat → Int32) (Ns : Nat → Nat) (Is : Nat → Int32)  (zc : Nat) (hT : ∀ k, Na 3 k < 256) (h4 : Ns 4 ≤ 400) (hc0 : zc ≤ Ns 4) (h13 : Ns 13 = tE (Na 3) (Ns 4) zc) (h14 : Ns 14 = tP (Na 3) (Ns 4) zc) (h15 : Ns 15 = tE (Na 3) (Ns 4) zc) (hm : Ns 20 ≤ 8) : gCon g mX6_readsBeast 3 0 0 [.ref (q 26)] (wM g q Na Ia Ns Is) (fun rv ws' => ∃ (ZA : Nat → Nat) (zm : Nat), ((pBst (Na 3) (Ns 4) (Ns 20) zc).1 = 0 → zm = Ns 20 + 1 ∧ ZA = upB (Na 19) (Ns 20) (pBst (Na 3) (Ns 4) (Ns 20) zc).2.2.1 (pBst (Na 3) (Ns 4) (Ns 20) zc).2.2.2) ∧ rv = some (.int (gB ((pBst (Na 3) (Ns 4) (Ns 20) zc).1 = 0))) ∧ ws' = (wM g q (va_up Na 19 ZA) Ia (va_up (va_up (va_up (va_up (va_up Ns 5 (stsA (Ns 5) ((pBst (Na 3) (Ns 4) (Ns 20) zc).1))) 13 (tE (Na 3) (Ns 4) ((pBst (Na 3) (Ns 4) (Ns 20) zc).2.1))) 14 (tP (Na 3) (Ns 4) ((pBst (Na 3) (Ns 4) (Ns 20) zc).2.1))) 15 (tE (Na 3) (Ns 4) ((pBst (Na 3) (Ns 4) (Ns 20) zc).2.1))) 20 zm) Is)) := by
  refine gCon.of (lv := [(0, .ref (q 26))]) (by decide) (gLe rfl) rfl ?_
  have hE0 := tE_le (T := Na 3) hc0
  have hc1 := hE0.2.1
  have hE1 := tE_le (T := Na 3) hc1
  have hc2 := hE1.2.1
  have hE2 := tE_le (T := Na 3) hc2
  have hc3 := hE2.2.1
  have hE3 := tE_le (T := Na 3) hc3
  refine j_ws (wM g q Na Ia (va_up (va_up (va_up Ns 13 (tE (Na 3) (Ns 4) zc)) 14 (tP (Na 3) (Ns 4) zc)) 15 (tE (Na 3) (Ns 4) zc)) Is) (congrArg (fun z => wM g q Na Ia z Is) (ns_cur h13 h14 h15)) ?_
  refine j_aload_n 1 dX6_readsBeast_0 rfl 0 rfl ?_
  refine j_getf 4 0 dX6_readsBeast_1 rfl fd_X6_146 rfl rfl ?_
  refine j_bipush (v := (8 : Int32)) 6 dX6_readsBeast_4 rfl (by decide) ?_
  refine j_icmp_neN (Ns 20) 8 9 16 dX6_readsBeast_6 rfl rfl (by have z0 := hm; omega) (by decide) (fun h6 => ?_) (fun h6 => ?_)
  ·
    refine j_aload_n 17 dX6_readsBeast_16 rfl 0 rfl ?_
    refine j_callVW (rest := []) 20 (c_X6_token g q Na Ia (va_up (va_up (va_up Ns 13 (tE (Na 3) (Ns 4) zc)) 14 (tP (Na 3) (Ns 4) zc)) 15 (tE (Na 3) (Ns 4) zc)) Is   hT h4 hc1) [] dX6_readsBeast_17 rfl cv_X6_120 rfl rfl 0 rfl rfl (gLe rfl) (gLe rfl) (gLe rfl) (gLe rfl) (wM_len _ _ _ _ _ _ _ _ _ _) rfl ?_
    refine j_aload_n 21 dX6_readsBeast_20 rfl 0 rfl ?_
    refine j_callVW (rest := []) 24 (c_X6_beastWord g q Na Ia (va_up (va_up (va_up Ns 13 (tE (Na 3) (Ns 4) (tE (Na 3) (Ns 4) zc))) 14 (tP (Na 3) (Ns 4) (tE (Na 3) (Ns 4) zc))) 15 (tE (Na 3) (Ns 4) (tE (Na 3) (Ns 4) zc))) Is   hT h4 ⟨hE1.1, hE1.2.1⟩) [.int (sN (bwS (Na 3) (tP (Na 3) (Ns 4) (tE (Na 3) (Ns 4) zc)) (tE (Na 3) (Ns 4) (tE (Na 3) (Ns 4) zc))) 0)] dX6_readsBeast_21 rfl cv_X6_149 rfl rfl 0 rfl rfl (gLe rfl) (gLe rfl) (gLe rfl) (gLe rfl) (wM_len _ _ _ _ _ _ _ _ _ _) rfl ?_
    refine j_istore_n 25 [(1, .int (sN (bwS (Na 3) (tP (Na 3) (Ns 4) (tE (Na 3) (Ns 4) zc)) (tE (Na 3) (Ns 4) (tE (Na 3) (Ns 4) zc))) 0)), (0, .ref (q 26))] dX6_readsBeast_24 rfl (by decide) rfl ?_
    refine j_iload_n 26 dX6_readsBeast_25 rfl 0 rfl ?_
    refine j_ldc (v := (-1000000 : Int32)) 28 dX6_readsBeast_26 rfl wd_4_47 ?_
    refine j_icmp_ne 31 38 dX6_readsBeast_28 rfl rfl (fun h28 => ?_) (fun h28 => ?_)
    ·
      have hs3 : ¬ (bwS (Na 3) (tP (Na 3) (Ns 4) (tE (Na 3) (Ns 4) zc)) (tE (Na 3) (Ns 4) (tE (Na 3) (Ns 4) zc))) = 0 := fun y => h28 ((sN_n (by have := bwS_le (T := Na 3) (p := tP (Na 3) (Ns 4) (tE (Na 3) (Ns 4) zc)) (e := tE (Na 3) (Ns 4) (tE (Na 3) (Ns 4) zc)); omega)).mpr y)
      refine j_lvs [(1, .int (nI (bwS (Na 3) (tP (Na 3) (Ns 4) (tE (Na 3) (Ns 4) zc)) (tE (Na 3) (Ns 4) (tE (Na 3) (Ns 4) zc))))), (0, .ref (q 26))] (by rw [show sN (bwS (Na 3) (tP (Na 3) (Ns 4) (tE (Na 3) (Ns 4) zc)) (tE (Na 3) (Ns 4) (tE (Na 3) (Ns 4) zc))) 0 = nI (bwS (Na 3) (tP (Na 3) (Ns 4) (tE (Na 3) (Ns 4) zc)) (tE (Na 3) (Ns 4) (tE (Na 3) (Ns 4) zc))) from sN_v hs3]) ?_
      refine j_aload_n 39 dX6_readsBeast_38 rfl 1 rfl ?_
      refine j_callVW (rest := []) 42 (c_X6_token g q Na Ia (va_up (va_up (va_up Ns 13 (tE (Na 3) (Ns 4) (tE (Na 3) (Ns 4) zc))) 14 (tP (Na 3) (Ns 4) (tE (Na 3) (Ns 4) zc))) 15 (tE (Na 3) (Ns 4) (tE (Na 3) (Ns 4) zc))) Is   hT h4 hc2) [] dX6_readsBeast_39 rfl cv_X6_120 rfl rfl 0 rfl rfl (gLe rfl) (gLe rfl) (gLe rfl) (gLe rfl) (wM_len _ _ _ _ _ _ _ _ _ _) rfl ?_
      refine j_aload_n 43 dX6_readsBeast_42 rfl 1 rfl ?_
      refine j_iconst (v := (1 : Int32)) 44 dX6_readsBeast_43 rfl (by decide) ?_
      refine j_bipush (v := (99 : Int32)) 46 dX6_readsBeast_44 rfl (by decide) ?_
      refine j_callVW (rest := []) 49 (c_X6_number g q Na Ia (va_up (va_up (va_up Ns 13 (tE (Na 3) (Ns 4) (tE (Na 3) (Ns 4) (tE (Na 3) (Ns 4) zc)))) 14 (tP (Na 3) (Ns 4) (tE (Na 3) (Ns 4) (tE (Na 3) (Ns 4) zc)))) 15 (tE (Na 3) (Ns 4) (tE (Na 3) (Ns 4) (tE (Na 3) (Ns 4) zc)))) Is 1 99 (tE (Na 3) (Ns 4) (tE (Na 3) (Ns 4) zc)) hT h4 hc2 rfl rfl rfl (by decide) (by decide)) [.int (kV (nmK (Na 3) (Ns 4) (tE (Na 3) (Ns 4) (tE (Na 3) (Ns 4) zc)) 1 99) (nmV (Na 3) (Ns 4) (tE (Na 3) (Ns 4) (tE (Na 3) (Ns 4) zc))))] dX6_readsBeast_46 rfl cv_X6_132 rfl rfl 0 rfl rfl (gLe rfl) (gLe rfl) (gLe rfl) (gLe rfl) (wM_len _ _ _ _ _ _ _ _ _ _) rfl ?_
      refine j_istore_n 50 [(2, .int (kV (nmK (Na 3) (Ns 4) (tE (Na 3) (Ns 4) (tE (Na 3) (Ns 4) zc)) 1 99) (nmV (Na 3) (Ns 4) (tE (Na 3) (Ns 4) (tE (Na 3) (Ns 4) zc))))), (1, .int (nI (bwS (Na 3) (tP (Na 3) (Ns 4) (tE (Na 3) (Ns 4) zc)) (tE (Na 3) (Ns 4) (tE (Na 3) (Ns 4) zc))))), (0, .ref (q 26))] dX6_readsBeast_49 rfl (by decide) rfl ?_
      refine j_iload_n 51 dX6_readsBeast_50 rfl 0 rfl ?_
      refine j_ldc (v := (-1000000 : Int32)) 53 dX6_readsBeast_51 rfl wd_4_47 ?_
      refine j_icmp_ne 56 58 dX6_readsBeast_53 rfl rfl (fun h53 => ?_) (fun h53 => ?_)
      ·
        have hk2 : (nmK (Na 3) (Ns 4) (tE (Na 3) (Ns 4) (tE (Na 3) (Ns 4) zc)) 1 99) = 0 := kV_ne h53
        refine j_ws (wM g q Na Ia (va_up (va_up (va_up (va_up Ns 5 (stsA (Ns 5) (nmK (Na 3) (Ns 4) (tE (Na 3) (Ns 4) (tE (Na 3) (Ns 4) zc)) 1 99))) 13 (tE (Na 3) (Ns 4) (adv (Na 3) (Ns 4) (tE (Na 3) (Ns 4) (tE (Na 3) (Ns 4) zc)) (nmK (Na 3) (Ns 4) (tE (Na 3) (Ns 4) (tE (Na 3) (Ns 4) zc)) 1 99)))) 14 (tP (Na 3) (Ns 4) (adv (Na 3) (Ns 4) (tE (Na 3) (Ns 4) (tE (Na 3) (Ns 4) zc)) (nmK (Na 3) (Ns 4) (tE (Na 3) (Ns 4) (tE (Na 3) (Ns 4) zc)) 1 99)))) 15 (tE (Na 3) (Ns 4) (adv (Na 3) (Ns 4) (tE (Na 3) (Ns 4) (tE (Na 3) (Ns 4) zc)) (nmK (Na 3) (Ns 4) (tE (Na 3) (Ns 4) (tE (Na 3) (Ns 4) zc)) 1 99)))) Is) rfl ?_
        refine j_ws (wM g q Na Ia (va_up (va_up (va_up Ns 13 (tE (Na 3) (Ns 4) (tE (Na 3) (Ns 4) (tE (Na 3) (Ns 4) (tE (Na 3) (Ns 4) zc))))) 14 (tP (Na 3) (Ns 4) (tE (Na 3) (Ns 4) (tE (Na 3) (Ns 4) (tE (Na 3) (Ns 4) zc))))) 15 (tE (Na 3) (Ns 4) (tE (Na 3) (Ns 4) (tE (Na 3) (Ns 4) (tE (Na 3) (Ns 4) zc))))) Is) (by rw [adv_0 hk2, stsA_0 hk2, up_same Ns 5]) ?_
        refine j_lvs [(2, .int (nI (nmV (Na 3) (Ns 4) (tE (Na 3) (Ns 4) (tE (Na 3) (Ns 4) zc))))), (1, .int (nI (bwS (Na 3) (tP (Na 3) (Ns 4) (tE (Na 3) (Ns 4) zc)) (tE (Na 3) (Ns 4) (tE (Na 3) (Ns 4) zc))))), (0, .ref (q 26))] (by rw [show kV (nmK (Na 3) (Ns 4) (tE (Na 3) (Ns 4) (tE (Na 3) (Ns 4) zc)) 1 99) (nmV (Na 3) (Ns 4) (tE (Na 3) (Ns 4) (tE (Na 3) (Ns 4) zc))) = nI (nmV (Na 3) (Ns 4) (tE (Na 3) (Ns 4) (tE (Na 3) (Ns 4) zc))) from kV_0 hk2]) ?_
        have hm4 : Ns 20 ≤ 7 := by omega
        refine j_aload_n 59 dX6_readsBeast_58 rfl 2 rfl ?_
        refine j_getf 62 0 dX6_readsBeast_59 rfl fd_X6_39 rfl rfl ?_
        refine j_iconst (v := (2 : Int32)) 63 dX6_readsBeast_62 rfl (by decide) ?_
        refine j_aload_n 64 dX6_readsBeast_63 rfl 2 rfl ?_
        refine j_getf 67 0 dX6_readsBeast_64 rfl fd_X6_146 rfl rfl ?_
        refine j_imulN 2 (Ns 20) 68 dX6_readsBeast_67 rfl ?_
        refine j_iload_n 69 dX6_readsBeast_68 rfl 1 rfl ?_
        refine j_iastN (bwS (Na 3) (tP (Na 3) (Ns 4) (tE (Na 3) (Ns 4) zc)) (tE (Na 3) (Ns 4) (tE (Na 3) (Ns 4) zc))) (2 * (Ns 20)) 70 9 (wM g q (va_up Na 19 (va_up (Na 19) (2 * (Ns 20)) (bwS (Na 3) (tP (Na 3) (Ns 4) (tE (Na 3) (Ns 4) zc)) (tE (Na 3) (Ns 4) (tE (Na 3) (Ns 4) zc))))) Ia (va_up (va_up (va_up Ns 13 (tE (Na 3) (Ns 4) (tE (Na 3) (Ns 4) (tE (Na 3) (Ns 4) (tE (Na 3) (Ns 4) zc))))) 14 (tP (Na 3) (Ns 4) (tE (Na 3) (Ns 4) (tE (Na 3) (Ns 4) (tE (Na 3) (Ns 4) zc))))) 15 (tE (Na 3) (Ns 4) (tE (Na 3) (Ns 4) (tE (Na 3) (Ns 4) (tE (Na 3) (Ns 4) zc))))) Is) dX6_readsBeast_69 rfl rfl (by omega) (by decide) rfl ?_
        refine j_aload_n 71 dX6_readsBeast_70 rfl 2 rfl ?_
        refine j_getf 74 0 dX6_readsBeast_71 rfl fd_X6_39 rfl rfl ?_
        refine j_iconst (v := (2 : Int32)) 75 dX6_readsBeast_74 rfl (by decide) ?_
        refine j_aload_n 76 dX6_readsBeast_75 rfl 2 rfl ?_
        refine j_getf 79 0 dX6_readsBeast_76 rfl fd_X6_146 rfl rfl ?_
        refine j_imulN 2 (Ns 20) 80 dX6_readsBeast_79 rfl ?_
        refine j_iconst (v := (1 : Int32)) 81 dX6_readsBeast_80 rfl (by decide) ?_
        refine j_iaddN (2 * (Ns 20)) 1 82 dX6_readsBeast_81 rfl ?_
        refine j_iload_n 83 dX6_readsBeast_82 rfl 0 rfl ?_
        refine j_iastN (nmV (Na 3) (Ns 4) (tE (Na 3) (Ns 4) (tE (Na 3) (Ns 4) zc))) ((2 * (Ns 20)) + 1) 84 9 (wM g q (va_up Na 19 (va_up (va_up (Na 19) (2 * (Ns 20)) (bwS (Na 3) (tP (Na 3) (Ns 4) (tE (Na 3) (Ns 4) zc)) (tE (Na 3) (Ns 4) (tE (Na 3) (Ns 4) zc)))) ((2 * (Ns 20)) + 1) (nmV (Na 3) (Ns 4) (tE (Na 3) (Ns 4) (tE (Na 3) (Ns 4) zc))))) Ia (va_up (va_up (va_up Ns 13 (tE (Na 3) (Ns 4) (tE (Na 3) (Ns 4) (tE (Na 3) (Ns 4) (tE (Na 3) (Ns 4) zc))))) 14 (tP (Na 3) (Ns 4) (tE (Na 3) (Ns 4) (tE (Na 3) (Ns 4) (tE (Na 3) (Ns 4) zc))))) 15 (tE (Na 3) (Ns 4) (tE (Na 3) (Ns 4) (tE (Na 3) (Ns 4) (tE (Na 3) (Ns 4) zc))))) Is) dX6_readsBeast_83 rfl rfl (by omega) (by decide) rfl ?_
        refine j_aload_n 85 dX6_readsBeast_84 rfl 2 rfl ?_
        refine j_dup 86 dX6_readsBeast_85 rfl rfl ?_
        refine j_getf 89 0 dX6_readsBeast_86 rfl fd_X6_146 rfl rfl ?_
        refine j_iconst (v := (1 : Int32)) 90 dX6_readsBeast_89 rfl (by decide) ?_
        refine j_iaddN (Ns 20) 1 91 dX6_readsBeast_90 rfl ?_
        refine j_putf 94 0 (wM g q (va_up Na 19 (va_up (va_up (Na 19) (2 * (Ns 20)) (bwS (Na 3) (tP (Na 3) (Ns 4) (tE (Na 3) (Ns 4) zc)) (tE (Na 3) (Ns 4) (tE (Na 3) (Ns 4) zc)))) ((2 * (Ns 20)) + 1) (nmV (Na 3) (Ns 4) (tE (Na 3) (Ns 4) (tE (Na 3) (Ns 4) zc))))) Ia (va_up (va_up (va_up (va_up Ns 13 (tE (Na 3) (Ns 4) (tE (Na 3) (Ns 4) (tE (Na 3) (Ns 4) (tE (Na 3) (Ns 4) zc))))) 14 (tP (Na 3) (Ns 4) (tE (Na 3) (Ns 4) (tE (Na 3) (Ns 4) (tE (Na 3) (Ns 4) zc))))) 15 (tE (Na 3) (Ns 4) (tE (Na 3) (Ns 4) (tE (Na 3) (Ns 4) (tE (Na 3) (Ns 4) zc))))) 20 ((Ns 20) + 1)) Is) dX6_readsBeast_91 rfl fd_X6_146 rfl rfl rfl (gLe rfl) rfl ?_
        refine j_aload_n 95 dX6_readsBeast_94 rfl 2 rfl ?_
        refine j_callVW (rest := []) 98 (c_X6_readsSign g q (va_up Na 19 (va_up (va_up (Na 19) (2 * (Ns 20)) (bwS (Na 3) (tP (Na 3) (Ns 4) (tE (Na 3) (Ns 4) zc)) (tE (Na 3) (Ns 4) (tE (Na 3) (Ns 4) zc)))) ((2 * (Ns 20)) + 1) (nmV (Na 3) (Ns 4) (tE (Na 3) (Ns 4) (tE (Na 3) (Ns 4) zc))))) Ia (va_up (va_up (va_up (va_up Ns 13 (tE (Na 3) (Ns 4) (tE (Na 3) (Ns 4) (tE (Na 3) (Ns 4) (tE (Na 3) (Ns 4) zc))))) 14 (tP (Na 3) (Ns 4) (tE (Na 3) (Ns 4) (tE (Na 3) (Ns 4) (tE (Na 3) (Ns 4) zc))))) 15 (tE (Na 3) (Ns 4) (tE (Na 3) (Ns 4) (tE (Na 3) (Ns 4) (tE (Na 3) (Ns 4) zc))))) 20 ((Ns 20) + 1)) Is  (tE (Na 3) (Ns 4) (tE (Na 3) (Ns 4) (tE (Na 3) (Ns 4) zc))) hT h4 hc3 rfl rfl rfl) [.int (gB (sgK (Na 3) (Ns 4) (tE (Na 3) (Ns 4) (tE (Na 3) (Ns 4) (tE (Na 3) (Ns 4) zc))) = 0))] dX6_readsBeast_95 rfl cv_X6_135 rfl rfl 0 rfl rfl (gLe rfl) (gLe rfl) (gLe rfl) (gLe rfl) (wM_len _ _ _ _ _ _ _ _ _ _) rfl ?_
        have hL : (pBst (Na 3) (Ns 4) (Ns 20) zc) = ((sgK (Na 3) (Ns 4) (tE (Na 3) (Ns 4) (tE (Na 3) (Ns 4) (tE (Na 3) (Ns 4) zc)))), adv (Na 3) (Ns 4) (tE (Na 3) (Ns 4) (tE (Na 3) (Ns 4) (tE (Na 3) (Ns 4) zc))) (sgK (Na 3) (Ns 4) (tE (Na 3) (Ns 4) (tE (Na 3) (Ns 4) (tE (Na 3) (Ns 4) zc)))), (bwS (Na 3) (tP (Na 3) (Ns 4) (tE (Na 3) (Ns 4) zc)) (tE (Na 3) (Ns 4) (tE (Na 3) (Ns 4) zc))), nmV (Na 3) (Ns 4) (tE (Na 3) (Ns 4) (tE (Na 3) (Ns 4) zc))) := by rw [pBst, if_neg h6, pBsA, if_neg hs3, if_neg (fun y => y hk2)]
        refine j_topI _ (gB ((pBst (Na 3) (Ns 4) (Ns 20) zc).1 = 0)) (gB_iff (by rw [hL])) ?_
        refine j_iretB dX6_readsBeast_98 rfl ⟨gLe rfl, gLe rfl, va_up (va_up (Na 19) (2 * (Ns 20)) (bwS (Na 3) (tP (Na 3) (Ns 4) (tE (Na 3) (Ns 4) zc)) (tE (Na 3) (Ns 4) (tE (Na 3) (Ns 4) zc)))) ((2 * (Ns 20)) + 1) (nmV (Na 3) (Ns 4) (tE (Na 3) (Ns 4) (tE (Na 3) (Ns 4) zc))), (Ns 20) + 1, fun _ => by rw [hL]; exact ⟨rfl, rfl⟩, rfl, ?_⟩
        rw [hL]
        all_goals first | done | rfl
      ·
        have hk : (nmK (Na 3) (Ns 4) (tE (Na 3) (Ns 4) (tE (Na 3) (Ns 4) zc)) 1 99) ≠ 0 := kV_nk (by by_cases y : (nmK (Na 3) (Ns 4) (tE (Na 3) (Ns 4) (tE (Na 3) (Ns 4) zc)) 1 99) = 0; exact Or.inr (by have := nmV_lt hc2 y; omega); exact Or.inl y) h53
        refine j_ws (wM g q Na Ia (va_up (va_up (va_up (va_up Ns 5 (stsA (Ns 5) (nmK (Na 3) (Ns 4) (tE (Na 3) (Ns 4) (tE (Na 3) (Ns 4) zc)) 1 99))) 13 (tE (Na 3) (Ns 4) (adv (Na 3) (Ns 4) (tE (Na 3) (Ns 4) (tE (Na 3) (Ns 4) zc)) (nmK (Na 3) (Ns 4) (tE (Na 3) (Ns 4) (tE (Na 3) (Ns 4) zc)) 1 99)))) 14 (tP (Na 3) (Ns 4) (adv (Na 3) (Ns 4) (tE (Na 3) (Ns 4) (tE (Na 3) (Ns 4) zc)) (nmK (Na 3) (Ns 4) (tE (Na 3) (Ns 4) (tE (Na 3) (Ns 4) zc)) 1 99)))) 15 (tE (Na 3) (Ns 4) (adv (Na 3) (Ns 4) (tE (Na 3) (Ns 4) (tE (Na 3) (Ns 4) zc)) (nmK (Na 3) (Ns 4) (tE (Na 3) (Ns 4) (tE (Na 3) (Ns 4) zc)) 1 99)))) Is) rfl ?_
        refine j_ws (wM g q Na Ia (va_up (va_up (va_up (va_up Ns 5 (stsA (Ns 5) (nmK (Na 3) (Ns 4) (tE (Na 3) (Ns 4) (tE (Na 3) (Ns 4) zc)) 1 99))) 13 (tE (Na 3) (Ns 4) (tE (Na 3) (Ns 4) (tE (Na 3) (Ns 4) zc)))) 14 (tP (Na 3) (Ns 4) (tE (Na 3) (Ns 4) (tE (Na 3) (Ns 4) zc)))) 15 (tE (Na 3) (Ns 4) (tE (Na 3) (Ns 4) (tE (Na 3) (Ns 4) zc)))) Is) (by rw [adv_n hk]) ?_
        have hL : (pBst (Na 3) (Ns 4) (Ns 20) zc) = ((nmK (Na 3) (Ns 4) (tE (Na 3) (Ns 4) (tE (Na 3) (Ns 4) zc)) 1 99), (tE (Na 3) (Ns 4) (tE (Na 3) (Ns 4) zc)), 0, 0) := by rw [pBst, if_neg h6, pBsA, if_neg hs3, if_pos hk]
        refine j_iconst (v := (0 : Int32)) 57 dX6_readsBeast_56 rfl (by decide) ?_
        refine j_iret0 (c := (pBst (Na 3) (Ns 4) (Ns 20) zc).1 = 0) dX6_readsBeast_57 rfl (by rw [hL]; exact hk) ⟨gLe rfl, gLe rfl, Na 19, Ns 20, fun y => absurd y (by rw [hL]; exact hk), rfl, ?_⟩
        rw [hL, up_eqs _ 20 (Ns 20), up_same Na 19]
        all_goals first | done | rfl
    ·
      have hs3 : (bwS (Na 3) (tP (Na 3) (Ns 4) (tE (Na 3) (Ns 4) zc)) (tE (Na 3) (Ns 4) (tE (Na 3) (Ns 4) zc))) = 0 := (sN_n (by have := bwS_le (T := Na 3) (p := tP (Na 3) (Ns 4) (tE (Na 3) (Ns 4) zc)) (e := tE (Na 3) (Ns 4) (tE (Na 3) (Ns 4) zc)); omega)).mp h28
      have hL : (pBst (Na 3) (Ns 4) (Ns 20) zc) = (1, (tE (Na 3) (Ns 4) zc), 0, 0) := by rw [pBst, if_neg h6, pBsA, if_pos hs3]
      refine j_aload_n 32 dX6_readsBeast_31 rfl 1 rfl ?_
      refine j_iconst (v := (1 : Int32)) 33 dX6_readsBeast_32 rfl (by decide) ?_
      refine j_putf 36 0 (wM g q Na Ia (va_up (va_up (va_up (va_up Ns 5 1) 13 (tE (Na 3) (Ns 4) (tE (Na 3) (Ns 4) zc))) 14 (tP (Na 3) (Ns 4) (tE (Na 3) (Ns 4) zc))) 15 (tE (Na 3) (Ns 4) (tE (Na 3) (Ns 4) zc))) Is) dX6_readsBeast_33 rfl fd_X6_113 rfl rfl rfl (gLe rfl) rfl ?_
      refine j_iconst (v := (0 : Int32)) 37 dX6_readsBeast_36 rfl (by decide) ?_
      refine j_iret0 (c := (pBst (Na 3) (Ns 4) (Ns 20) zc).1 = 0) dX6_readsBeast_37 rfl (by rw [hL]; exact (Nat.succ_ne_zero _)) ⟨gLe rfl, gLe rfl, Na 19, Ns 20, fun y => absurd y (by rw [hL]; exact Nat.succ_ne_zero _), rfl, ?_⟩
      rw [hL, up_eqs _ 20 (Ns 20), up_same Na 19]
      all_goals first | done | rfl
  ·
    have hL : (pBst (Na 3) (Ns 4) (Ns 20) zc) = (3, zc, 0, 0) := if_pos h6
    refine j_aload_n 10 dX6_readsBeast_9 rfl 0 rfl ?_
    refine j_iconst (v := (3 : Int32)) 11 dX6_readsBeast_10 rfl (by decide) ?_
    refine j_putf 14 0 (wM g q Na Ia (va_up (va_up (va_up (va_up Ns 5 3) 13 (tE (Na 3) (Ns 4) zc)) 14 (tP (Na 3) (Ns 4) zc)) 15 (tE (Na 3) (Ns 4) zc)) Is) dX6_readsBeast_11 rfl fd_X6_113 rfl rfl rfl (gLe rfl) rfl ?_
    refine j_iconst (v := (0 : Int32)) 15 dX6_readsBeast_14 rfl (by decide) ?_
    refine j_iret0 (c := (pBst (Na 3) (Ns 4) (Ns 20) zc).1 = 0) dX6_readsBeast_15 rfl (by rw [hL]; exact (Nat.succ_ne_zero _)) ⟨gLe rfl, gLe rfl, Na 19, Ns 20, fun y => absurd y (by rw [hL]; exact Nat.succ_ne_zero _), rfl, ?_⟩
    rw [hL, up_eqs _ 20 (Ns 20), up_same Na 19]
    all_goals first | done | rfl
