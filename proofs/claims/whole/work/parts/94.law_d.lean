theorem idx_le {L z : Nat} (hL : L ≤ 384) (hz : z ≤ 400) (h : ¬ (Int32.ofNat L - (6 : Int32) < nI z)) : z + 6 ≤ L := by
  rw [Int32.lt_iff_toInt_lt, nI_toInt (by omega)] at h
  have e : (Int32.ofNat L - (6 : Int32)).toInt = (L : Int) - 6 := by
    rw [Int32.toInt_sub, show (Int32.ofNat L).toInt = (L : Int) from nI_toInt (by omega), show (6 : Int32).toInt = 6 by decide, Int.bmod_eq_of_le (by omega) (by omega)]
  omega
set_option maxRecDepth 20000 in
theorem lw_loop (g : gG) (nm : String) (u q : Nat → Nat) (hL : g.2.2.2.1 ≤ 384) : ∀ (r zk : Nat) (zS : RS) (zc : va_W), 64 - zk < r → zk ≤ 64 → RI zS → cR g u zS zc → gJ g (mLn nm) 60 600000 7302250 (fun k' j' rv ws' => k' ≤ 600000 ∧ j' ≤ 7302250 ∧ rv = some (.int 1)) (300 + 10 * zk) (40000 + 23392 * zk) 18 [(3, .int (nI (6 * zk))), (2, .ref (q 26)), (1, .ref (u 0)), (0, .ref (gA g 5))] [] (zc ++ wS g q zS) := by
  intro r
  induction r with
  | zero => intro zk zS zc h; exact absurd h (Nat.not_lt_zero _)
  | succ r ih =>
    intro zk zS zc hr hz hI hC
    refine j_iload_n 19 dL_law_18 rfl 0 rfl ?_
    refine j_aload_n 20 dL_law_19 rfl 3 rfl ?_
    refine j_slen 21 dL_law_20 rfl ?_
    refine j_bipush (v := (6 : Int32)) 23 dL_law_21 rfl (by decide) ?_
    refine j_isub 24 dL_law_23 rfl ?_
    refine j_icmp_gt 27 1134 dL_law_24 rfl rfl (fun h24 => ?_) (fun h24 => ?_)
    · refine j_iconst (v := (1 : Int32)) 1135 dL_law_1134 rfl (by decide) ?_
      exact j_iret dL_law_1135 rfl (by decide) ⟨by omega, by omega, rfl⟩
    · have hi : 6 * zk + 6 ≤ g.2.2.2.1 := idx_le hL (by omega) h24
      have cont : ∀ (S2 : RS) (z2 : va_W), RI S2 → cR g u S2 z2 → gJ g (mLn nm) 60 600000 7302250 (fun k' j' rv ws' => k' ≤ 600000 ∧ j' ≤ 7302250 ∧ rv = some (.int 1)) (300 + 10 * zk + 10) (40000 + 23392 * zk + 23392) 1128 [(3, .int (nI (6 * zk))), (2, .ref (q 26)), (1, .ref (u 0)), (0, .ref (gA g 5))] [] (z2 ++ wS g q S2) := by
        intro S2 z2 h1 h2
        refine j_iincN (6 * zk) 6 1131 [(3, .int (nI (6 * zk + 6))), (2, .ref (q 26)), (1, .ref (u 0)), (0, .ref (gA g 5))] dL_law_1128 rfl 0 rfl (by show _ < 4; decide) rfl ?_
        refine j_goto 18 dL_law_1131 rfl ?_
        refine j_lvs [(3, .int (nI (6 * (zk + 1)))), (2, .ref (q 26)), (1, .ref (u 0)), (0, .ref (gA g 5))] (by rw [show 6 * zk + 6 = 6 * (zk + 1) by omega]) ?_
        refine j_widen (300 + 10 * (zk + 1)) (40000 + 23392 * (zk + 1)) (by omega) (by omega) ?_
        exact ih (zk + 1) S2 z2 (by omega) (by omega) h1 h2
      refine j_aload_n 28 dL_law_27 rfl 3 rfl ?_
      refine j_iload_n 29 dL_law_28 rfl 0 rfl ?_
      refine j_sld 30 dL_law_29 rfl (vp_in_nI (by omega) (by omega)) ?_
      refine j_bipush (v := (31 : Int32)) 32 dL_law_30 rfl (by decide) ?_
      refine j_iand 33 dL_law_32 rfl ?_
      generalize (g.2.2.2.2 (nI (6 * zk)).toNatClampNeg &&& (31 : Int32)) = w
      by_cases hw0 : w = (0 : Int32)
      · subst hw0
        refine j_tabIn (off := 135) 168 dL_law_33 (by decide) (by decide) (by decide) rfl ?_
        exact lw_c0 g nm u q zS zc (6 * zk) _ _ hi hL hI hC (by omega) (by omega) cont
      by_cases hw1 : w = (1 : Int32)
      · subst hw1
        refine j_tabIn (off := 178) 211 dL_law_33 (by decide) (by decide) (by decide) rfl ?_
        exact lw_c1 g nm u q zS zc (6 * zk) _ _ hi hL hI hC (by omega) (by omega) cont
      by_cases hw2 : w = (2 : Int32)
      · subst hw2
        refine j_tabIn (off := 221) 254 dL_law_33 (by decide) (by decide) (by decide) rfl ?_
        exact lw_c2 g nm u q zS zc (6 * zk) _ _ hi hL hI hC (by omega) (by omega) cont
      by_cases hw3 : w = (3 : Int32)
      · subst hw3
        refine j_tabIn (off := 284) 317 dL_law_33 (by decide) (by decide) (by decide) rfl ?_
        exact lw_c3 g nm u q zS zc (6 * zk) _ _ hi hL hI hC (by omega) (by omega) cont
      by_cases hw4 : w = (4 : Int32)
      · subst hw4
        refine j_tabIn (off := 307) 340 dL_law_33 (by decide) (by decide) (by decide) rfl ?_
        exact lw_c4 g nm u q zS zc (6 * zk) _ _ hi hL hI hC (by omega) (by omega) cont
      by_cases hw5 : w = (5 : Int32)
      · subst hw5
        refine j_tabIn (off := 370) 403 dL_law_33 (by decide) (by decide) (by decide) rfl ?_
        exact lw_c5 g nm u q zS zc (6 * zk) _ _ hi hL hI hC (by omega) (by omega) cont
      by_cases hw6 : w = (6 : Int32)
      · subst hw6
        refine j_tabIn (off := 383) 416 dL_law_33 (by decide) (by decide) (by decide) rfl ?_
        exact lw_c6 g nm u q zS zc (6 * zk) _ _ hi hL hI hC (by omega) (by omega) cont
      by_cases hw7 : w = (7 : Int32)
      · subst hw7
        refine j_tabIn (off := 396) 429 dL_law_33 (by decide) (by decide) (by decide) rfl ?_
        exact lw_c7 g nm u q zS zc (6 * zk) _ _ hi hL hI hC (by omega) (by omega) cont
      by_cases hw8 : w = (8 : Int32)
      · subst hw8
        refine j_tabIn (off := 419) 452 dL_law_33 (by decide) (by decide) (by decide) rfl ?_
        exact lw_c8 g nm u q zS zc (6 * zk) _ _ hi hL hI hC (by omega) (by omega) cont
      by_cases hw9 : w = (9 : Int32)
      · subst hw9
        refine j_tabIn (off := 462) 495 dL_law_33 (by decide) (by decide) (by decide) rfl ?_
        exact lw_c9 g nm u q zS zc (6 * zk) _ _ hi hL hI hC (by omega) (by omega) cont
      by_cases hw10 : w = (10 : Int32)
      · subst hw10
        refine j_tabIn (off := 485) 518 dL_law_33 (by decide) (by decide) (by decide) rfl ?_
        exact lw_c10 g nm u q zS zc (6 * zk) _ _ hi hL hI hC (by omega) (by omega) cont
      by_cases hw11 : w = (11 : Int32)
      · subst hw11
        refine j_tabIn (off := 498) 531 dL_law_33 (by decide) (by decide) (by decide) rfl ?_
        exact lw_c11 g nm u q zS zc (6 * zk) _ _ hi hL hI hC (by omega) (by omega) cont
      by_cases hw12 : w = (12 : Int32)
      · subst hw12
        refine j_tabIn (off := 531) 564 dL_law_33 (by decide) (by decide) (by decide) rfl ?_
        exact lw_c12 g nm u q zS zc (6 * zk) _ _ hi hL hI hC (by omega) (by omega) cont
      by_cases hw13 : w = (13 : Int32)
      · subst hw13
        refine j_tabIn (off := 554) 587 dL_law_33 (by decide) (by decide) (by decide) rfl ?_
        exact lw_c13 g nm u q zS zc (6 * zk) _ _ hi hL hI hC (by omega) (by omega) cont
      by_cases hw14 : w = (14 : Int32)
      · subst hw14
        refine j_tabIn (off := 587) 620 dL_law_33 (by decide) (by decide) (by decide) rfl ?_
        exact lw_c14 g nm u q zS zc (6 * zk) _ _ hi hL hI hC (by omega) (by omega) cont
      by_cases hw15 : w = (15 : Int32)
      · subst hw15
        refine j_tabIn (off := 640) 673 dL_law_33 (by decide) (by decide) (by decide) rfl ?_
        exact lw_c15 g nm u q zS zc (6 * zk) _ _ hi hL hI hC (by omega) (by omega) cont
      by_cases hw16 : w = (16 : Int32)
      · subst hw16
        refine j_tabIn (off := 683) 716 dL_law_33 (by decide) (by decide) (by decide) rfl ?_
        exact lw_c16 g nm u q zS zc (6 * zk) _ _ hi hL hI hC (by omega) (by omega) cont
      by_cases hw17 : w = (17 : Int32)
      · subst hw17
        refine j_tabIn (off := 716) 749 dL_law_33 (by decide) (by decide) (by decide) rfl ?_
        exact lw_c17 g nm u q zS zc (6 * zk) _ _ hi hL hI hC (by omega) (by omega) cont
      by_cases hw18 : w = (18 : Int32)
      · subst hw18
        refine j_tabIn (off := 729) 762 dL_law_33 (by decide) (by decide) (by decide) rfl ?_
        exact lw_c18 g nm u q zS zc (6 * zk) _ _ hi hL hI hC (by omega) (by omega) cont
      by_cases hw19 : w = (19 : Int32)
      · subst hw19
        refine j_tabIn (off := 762) 795 dL_law_33 (by decide) (by decide) (by decide) rfl ?_
        exact lw_c19 g nm u q zS zc (6 * zk) _ _ hi hL hI hC (by omega) (by omega) cont
      by_cases hw20 : w = (20 : Int32)
      · subst hw20
        refine j_tabIn (off := 805) 838 dL_law_33 (by decide) (by decide) (by decide) rfl ?_
        exact lw_c20 g nm u q zS zc (6 * zk) _ _ hi hL hI hC (by omega) (by omega) cont
      by_cases hw21 : w = (21 : Int32)
      · subst hw21
        refine j_tabIn (off := 858) 891 dL_law_33 (by decide) (by decide) (by decide) rfl ?_
        exact lw_c21 g nm u q zS zc (6 * zk) _ _ hi hL hI hC (by omega) (by omega) cont
      by_cases hw22 : w = (22 : Int32)
      · subst hw22
        refine j_tabIn (off := 901) 934 dL_law_33 (by decide) (by decide) (by decide) rfl ?_
        exact lw_c22 g nm u q zS zc (6 * zk) _ _ hi hL hI hC (by omega) (by omega) cont
      by_cases hw23 : w = (23 : Int32)
      · subst hw23
        refine j_tabIn (off := 924) 957 dL_law_33 (by decide) (by decide) (by decide) rfl ?_
        exact lw_c23 g nm u q zS zc (6 * zk) _ _ hi hL hI hC (by omega) (by omega) cont
      by_cases hw24 : w = (24 : Int32)
      · subst hw24
        refine j_tabIn (off := 947) 980 dL_law_33 (by decide) (by decide) (by decide) rfl ?_
        exact lw_c24 g nm u q zS zc (6 * zk) _ _ hi hL hI hC (by omega) (by omega) cont
      by_cases hw25 : w = (25 : Int32)
      · subst hw25
        refine j_tabIn (off := 970) 1003 dL_law_33 (by decide) (by decide) (by decide) rfl ?_
        exact lw_c25 g nm u q zS zc (6 * zk) _ _ hi hL hI hC (by omega) (by omega) cont
      by_cases hw26 : w = (26 : Int32)
      · subst hw26
        refine j_tabIn (off := 1003) 1036 dL_law_33 (by decide) (by decide) (by decide) rfl ?_
        exact lw_c26 g nm u q zS zc (6 * zk) _ _ hi hL hI hC (by omega) (by omega) cont
      by_cases hw27 : w = (27 : Int32)
      · subst hw27
        refine j_tabIn (off := 1036) 1069 dL_law_33 (by decide) (by decide) (by decide) rfl ?_
        exact lw_c27 g nm u q zS zc (6 * zk) _ _ hi hL hI hC (by omega) (by omega) cont
      by_cases hw28 : w = (28 : Int32)
      · subst hw28
        refine j_tabIn (off := 1059) 1092 dL_law_33 (by decide) (by decide) (by decide) rfl ?_
        exact lw_c28 g nm u q zS zc (6 * zk) _ _ hi hL hI hC (by omega) (by omega) cont
      by_cases hw29 : w = (29 : Int32)
      · subst hw29
        refine j_tabIn (off := 1082) 1115 dL_law_33 (by decide) (by decide) (by decide) rfl ?_
        exact lw_c29 g nm u q zS zc (6 * zk) _ _ hi hL hI hC (by omega) (by omega) cont
      refine j_tabOut 1128 dL_law_33 (by have y0 := lv_neT hw0 (show (0 : Int32).toInt = 0 by decide); have y1 := lv_neT hw1 (show (1 : Int32).toInt = 1 by decide); have y2 := lv_neT hw2 (show (2 : Int32).toInt = 2 by decide); have y3 := lv_neT hw3 (show (3 : Int32).toInt = 3 by decide); have y4 := lv_neT hw4 (show (4 : Int32).toInt = 4 by decide); have y5 := lv_neT hw5 (show (5 : Int32).toInt = 5 by decide); have y6 := lv_neT hw6 (show (6 : Int32).toInt = 6 by decide); have y7 := lv_neT hw7 (show (7 : Int32).toInt = 7 by decide); have y8 := lv_neT hw8 (show (8 : Int32).toInt = 8 by decide); have y9 := lv_neT hw9 (show (9 : Int32).toInt = 9 by decide); have y10 := lv_neT hw10 (show (10 : Int32).toInt = 10 by decide); have y11 := lv_neT hw11 (show (11 : Int32).toInt = 11 by decide); have y12 := lv_neT hw12 (show (12 : Int32).toInt = 12 by decide); have y13 := lv_neT hw13 (show (13 : Int32).toInt = 13 by decide); have y14 := lv_neT hw14 (show (14 : Int32).toInt = 14 by decide); have y15 := lv_neT hw15 (show (15 : Int32).toInt = 15 by decide); have y16 := lv_neT hw16 (show (16 : Int32).toInt = 16 by decide); have y17 := lv_neT hw17 (show (17 : Int32).toInt = 17 by decide); have y18 := lv_neT hw18 (show (18 : Int32).toInt = 18 by decide); have y19 := lv_neT hw19 (show (19 : Int32).toInt = 19 by decide); have y20 := lv_neT hw20 (show (20 : Int32).toInt = 20 by decide); have y21 := lv_neT hw21 (show (21 : Int32).toInt = 21 by decide); have y22 := lv_neT hw22 (show (22 : Int32).toInt = 22 by decide); have y23 := lv_neT hw23 (show (23 : Int32).toInt = 23 by decide); have y24 := lv_neT hw24 (show (24 : Int32).toInt = 24 by decide); have y25 := lv_neT hw25 (show (25 : Int32).toInt = 25 by decide); have y26 := lv_neT hw26 (show (26 : Int32).toInt = 26 by decide); have y27 := lv_neT hw27 (show (27 : Int32).toInt = 27 by decide); have y28 := lv_neT hw28 (show (28 : Int32).toInt = 28 by decide); have y29 := lv_neT hw29 (show (29 : Int32).toInt = 29 by decide); omega) rfl ?_
      refine j_widen (300 + 10 * zk + 10) (40000 + 23392 * zk + 23392) (by omega) (by omega) ?_
      exact cont zS zc hI hC
set_option maxRecDepth 20000 in
theorem lw_all (g : gG) (nm : String) (hL : g.2.2.2.1 ≤ 384) : gJ g (mLn nm) 60 600000 7302250 (fun k' j' rv ws' => k' ≤ 600000 ∧ j' ≤ 7302250 ∧ rv = some (.int 1)) 0 0 0 [(0, .ref (gA g 5))] [] [] := by
  refine j_new 3 dL_law_0 rfl nw_L_7 (gLe rfl) (gLe rfl) (fun xa => ?_)
  refine j_ws ([(xa, .inr (5, [.null, .null, .null, .null, .null, .null, .int 0, .int 0, .null, .null, .null, .int 0, .int 0, .int 0]))] ++ []) rfl ?_
  refine j_dup 4 dL_law_3 rfl rfl ?_
  refine j_callIP (As := []) (rest := [.ref xa]) 7 (c_X5_init g xa) dL_law_4 rfl ci_L_9 rfl rfl (gLe rfl) (gLe rfl) (gLe rfl) (gLe rfl) (fun rv w1 hp => ?_)
  obtain ⟨u, rfl, rfl, hC⟩ := hp
  refine j_eq (lv2 := [(0, .ref (gA g 5))]) (st2 := [.ref (u 0)]) (ws2 := w1) rfl rfl (List.append_nil _) ?_
  refine j_astore_n 8 [(1, .ref (u 0)), (0, .ref (gA g 5))] dL_law_7 rfl (by show _ < 4; decide) rfl ?_
  refine j_new 11 dL_law_8 rfl nw_L_10 (gLe rfl) (gLe rfl) (fun qm => ?_)
  refine j_perm ([(qm, .inr (6, [.null, .null, .int 0, .null, .int 0, .int 0, .int 0, .null, .null, .null, .null, .int 0, .int 0, .int 0, .int 0, .int 0, .int 0, .null, .int 0, .null, .int 0, .null, .null, .int 0, .null, .null]))] ++ w1) List.perm_append_comm ?_
  refine j_dup 12 dL_law_11 rfl rfl ?_
  refine j_callIP (As := []) (rest := [.ref qm]) 15 (c_X6_init g qm) dL_law_12 rfl ci_L_12 rfl rfl (gLe rfl) (gLe rfl) (gLe rfl) (gLe rfl) (fun rv w2 hp => ?_)
  obtain ⟨q, rfl, rfl, rfl⟩ := hp
  refine j_eq (lv2 := [(1, .ref (u 0)), (0, .ref (gA g 5))]) (st2 := [.ref (q 26)]) (ws2 := wS g q S0 ++ w1) rfl rfl rfl ?_
  refine j_perm (w1 ++ wS g q S0) List.perm_append_comm ?_
  refine j_astore_n 16 [(2, .ref (q 26)), (1, .ref (u 0)), (0, .ref (gA g 5))] dL_law_15 rfl (by show _ < 4; decide) rfl ?_
  refine j_iconst (v := (0 : Int32)) 17 dL_law_16 rfl (by decide) ?_
  refine j_istore_n 18 [(3, .int (0 : Int32)), (2, .ref (q 26)), (1, .ref (u 0)), (0, .ref (gA g 5))] dL_law_17 rfl (by show _ < 4; decide) rfl ?_
  refine j_widen (300 + 10 * 0) (40000 + 23392 * 0) (gLe rfl) (gLe rfl) ?_
  exact lw_loop g nm u q hL 100 0 S0 w1 (by decide) (by decide) RI_0 hC
