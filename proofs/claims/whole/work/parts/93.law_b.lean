set_option maxRecDepth 20000 in
theorem lw_c10 (g : gG) (nm : String) (u q : Nat → Nat) (zS : RS) (zc : va_W) (zi kk jj : Nat) (hi : zi + 6 ≤ g.2.2.2.1) (hL : g.2.2.2.1 ≤ 384) (hI : RI zS) (hC : cR g u zS zc) (hk : kk + 10 ≤ 600000) (hj : jj + 23392 ≤ 7302250) (cont : ∀ (S2 : RS) (z2 : va_W), RI S2 → cR g u S2 z2 → gJ g (mLn nm) 60 600000 7302250 (fun k' j' rv ws' => k' ≤ 600000 ∧ j' ≤ 7302250 ∧ rv = some (.int 1)) (kk + 10) (jj + 23392) 1128 [(3, .int (nI zi)), (2, .ref (q 26)), (1, .ref (u 0)), (0, .ref (gA g 5))] [] (z2 ++ wS g q S2)) : gJ g (mLn nm) 60 600000 7302250 (fun k' j' rv ws' => k' ≤ 600000 ∧ j' ≤ 7302250 ∧ rv = some (.int 1)) kk jj 518 [(3, .int (nI zi)), (2, .ref (q 26)), (1, .ref (u 0)), (0, .ref (gA g 5))] [] (zc ++ wS g q zS) := by
  refine j_aload_n 519 dL_law_518 rfl 2 rfl ?_
  obtain ⟨zfs, zmm⟩ := cR_mem hC
  refine j_callVP (As := []) (rest := []) (wc := zc) (wr := wS g q zS) 522 (k_undo g u zS zc  hI hC) dL_law_519 rfl cv_L_60 rfl rfl zmm rfl (gLe rfl) (gLe rfl) (by omega) (by omega) (fun rv w1 hp => ?_)
  obtain ⟨rfl, hC2⟩ := hp
  refine j_eq (lv2 := [(3, .int (nI zi)), (2, .ref (q 26)), (1, .ref (u 0)), (0, .ref (gA g 5))]) (st2 := [.int ((pM_undo  zS).1)]) (ws2 := w1 ++ wS g q zS) rfl rfl rfl ?_
  refine j_aload_n 523 dL_law_522 rfl 1 rfl ?_
  refine j_perm (wS g q zS ++ w1) List.perm_append_comm ?_
  refine j_callVP (As := []) (rest := [.int ((pM_undo  zS).1)]) (wc := wS g q zS) (wr := w1) 526 (c_X6_undo g q zS.1 zS.2.1 zS.2.2.1 zS.2.2.2  hI) dL_law_523 rfl cv_L_63 rfl rfl (List.mem_cons_self (l := (wS g q zS).tail)) rfl (gLe rfl) (gLe rfl) (by omega) (by omega) (fun rv w2 hp => ?_)
  obtain ⟨rfl, rfl⟩ := hp
  refine j_eq (lv2 := [(3, .int (nI zi)), (2, .ref (q 26)), (1, .ref (u 0)), (0, .ref (gA g 5))]) (st2 := [.int ((pM_undo  zS).1), .int ((pM_undo  zS).1)]) (ws2 := wS g q (pM_undo  zS).2 ++ w1) rfl rfl rfl ?_
  refine j_perm (w1 ++ wS g q (pM_undo  zS).2) List.perm_append_comm ?_
  refine j_icmp_eq 529 1128 dL_law_526 rfl rfl (fun _ => ?_) (fun hne => absurd rfl hne)
  refine j_widen (kk + 10) (jj + 23392) (by omega) (by omega) ?_
  exact cont (pM_undo  zS).2 w1 (RI_undo hI ) hC2
set_option maxRecDepth 20000 in
theorem lw_c11 (g : gG) (nm : String) (u q : Nat → Nat) (zS : RS) (zc : va_W) (zi kk jj : Nat) (hi : zi + 6 ≤ g.2.2.2.1) (hL : g.2.2.2.1 ≤ 384) (hI : RI zS) (hC : cR g u zS zc) (hk : kk + 10 ≤ 600000) (hj : jj + 23392 ≤ 7302250) (cont : ∀ (S2 : RS) (z2 : va_W), RI S2 → cR g u S2 z2 → gJ g (mLn nm) 60 600000 7302250 (fun k' j' rv ws' => k' ≤ 600000 ∧ j' ≤ 7302250 ∧ rv = some (.int 1)) (kk + 10) (jj + 23392) 1128 [(3, .int (nI zi)), (2, .ref (q 26)), (1, .ref (u 0)), (0, .ref (gA g 5))] [] (z2 ++ wS g q S2)) : gJ g (mLn nm) 60 600000 7302250 (fun k' j' rv ws' => k' ≤ 600000 ∧ j' ≤ 7302250 ∧ rv = some (.int 1)) kk jj 531 [(3, .int (nI zi)), (2, .ref (q 26)), (1, .ref (u 0)), (0, .ref (gA g 5))] [] (zc ++ wS g q zS) := by
  refine j_aload_n 532 dL_law_531 rfl 2 rfl ?_
  refine j_aload_n 533 dL_law_532 rfl 3 rfl ?_
  refine j_iload_n 534 dL_law_533 rfl 0 rfl ?_
  refine j_iconst (v := (1 : Int32)) 535 dL_law_534 rfl (by decide) ?_
  refine j_iaddN zi 1 536 dL_law_535 rfl ?_
  refine j_sld 537 dL_law_536 rfl (vp_in_nI (by omega) (by omega)) ?_
  refine j_aload_n 538 dL_law_537 rfl 3 rfl ?_
  refine j_iload_n 539 dL_law_538 rfl 0 rfl ?_
  refine j_iconst (v := (2 : Int32)) 540 dL_law_539 rfl (by decide) ?_
  refine j_iaddN zi 2 541 dL_law_540 rfl ?_
  refine j_sld 542 dL_law_541 rfl (vp_in_nI (by omega) (by omega)) ?_
  obtain ⟨zfs, zmm⟩ := cR_mem hC
  refine j_callVP (As := [.int (g.2.2.2.2 (nI (zi + 1)).toNatClampNeg), .int (g.2.2.2.2 (nI (zi + 2)).toNatClampNeg)]) (rest := []) (wc := zc) (wr := wS g q zS) 545 (k_hurdle g u zS zc (g.2.2.2.2 (nI (zi + 1)).toNatClampNeg) (g.2.2.2.2 (nI (zi + 2)).toNatClampNeg) hI hC) dL_law_542 rfl cv_L_64 rfl rfl zmm rfl (gLe rfl) (gLe rfl) (by omega) (by omega) (fun rv w1 hp => ?_)
  obtain ⟨rfl, hC2⟩ := hp
  refine j_eq (lv2 := [(3, .int (nI zi)), (2, .ref (q 26)), (1, .ref (u 0)), (0, .ref (gA g 5))]) (st2 := [.int ((pM_hurdle (g.2.2.2.2 (nI (zi + 1)).toNatClampNeg) (g.2.2.2.2 (nI (zi + 2)).toNatClampNeg) zS).1)]) (ws2 := w1 ++ wS g q zS) rfl rfl rfl ?_
  refine j_aload_n 546 dL_law_545 rfl 1 rfl ?_
  refine j_aload_n 547 dL_law_546 rfl 3 rfl ?_
  refine j_iload_n 548 dL_law_547 rfl 0 rfl ?_
  refine j_iconst (v := (1 : Int32)) 549 dL_law_548 rfl (by decide) ?_
  refine j_iaddN zi 1 550 dL_law_549 rfl ?_
  refine j_sld 551 dL_law_550 rfl (vp_in_nI (by omega) (by omega)) ?_
  refine j_aload_n 552 dL_law_551 rfl 3 rfl ?_
  refine j_iload_n 553 dL_law_552 rfl 0 rfl ?_
  refine j_iconst (v := (2 : Int32)) 554 dL_law_553 rfl (by decide) ?_
  refine j_iaddN zi 2 555 dL_law_554 rfl ?_
  refine j_sld 556 dL_law_555 rfl (vp_in_nI (by omega) (by omega)) ?_
  refine j_perm (wS g q zS ++ w1) List.perm_append_comm ?_
  refine j_callVP (As := [.int (g.2.2.2.2 (nI (zi + 1)).toNatClampNeg), .int (g.2.2.2.2 (nI (zi + 2)).toNatClampNeg)]) (rest := [.int ((pM_hurdle (g.2.2.2.2 (nI (zi + 1)).toNatClampNeg) (g.2.2.2.2 (nI (zi + 2)).toNatClampNeg) zS).1)]) (wc := wS g q zS) (wr := w1) 559 (c_X6_hurdle g q zS.1 zS.2.1 zS.2.2.1 zS.2.2.2 (g.2.2.2.2 (nI (zi + 1)).toNatClampNeg) (g.2.2.2.2 (nI (zi + 2)).toNatClampNeg) hI) dL_law_556 rfl cv_L_68 rfl rfl (List.mem_cons_self (l := (wS g q zS).tail)) rfl (gLe rfl) (gLe rfl) (by omega) (by omega) (fun rv w2 hp => ?_)
  obtain ⟨rfl, rfl⟩ := hp
  refine j_eq (lv2 := [(3, .int (nI zi)), (2, .ref (q 26)), (1, .ref (u 0)), (0, .ref (gA g 5))]) (st2 := [.int ((pM_hurdle (g.2.2.2.2 (nI (zi + 1)).toNatClampNeg) (g.2.2.2.2 (nI (zi + 2)).toNatClampNeg) zS).1), .int ((pM_hurdle (g.2.2.2.2 (nI (zi + 1)).toNatClampNeg) (g.2.2.2.2 (nI (zi + 2)).toNatClampNeg) zS).1)]) (ws2 := wS g q (pM_hurdle (g.2.2.2.2 (nI (zi + 1)).toNatClampNeg) (g.2.2.2.2 (nI (zi + 2)).toNatClampNeg) zS).2 ++ w1) rfl rfl rfl ?_
  refine j_perm (w1 ++ wS g q (pM_hurdle (g.2.2.2.2 (nI (zi + 1)).toNatClampNeg) (g.2.2.2.2 (nI (zi + 2)).toNatClampNeg) zS).2) List.perm_append_comm ?_
  refine j_icmp_eq 562 1128 dL_law_559 rfl rfl (fun _ => ?_) (fun hne => absurd rfl hne)
  refine j_widen (kk + 10) (jj + 23392) (by omega) (by omega) ?_
  exact cont (pM_hurdle (g.2.2.2.2 (nI (zi + 1)).toNatClampNeg) (g.2.2.2.2 (nI (zi + 2)).toNatClampNeg) zS).2 w1 (RI_hurdle hI (g.2.2.2.2 (nI (zi + 1)).toNatClampNeg) (g.2.2.2.2 (nI (zi + 2)).toNatClampNeg)) hC2
set_option maxRecDepth 20000 in
theorem lw_c12 (g : gG) (nm : String) (u q : Nat → Nat) (zS : RS) (zc : va_W) (zi kk jj : Nat) (hi : zi + 6 ≤ g.2.2.2.1) (hL : g.2.2.2.1 ≤ 384) (hI : RI zS) (hC : cR g u zS zc) (hk : kk + 10 ≤ 600000) (hj : jj + 23392 ≤ 7302250) (cont : ∀ (S2 : RS) (z2 : va_W), RI S2 → cR g u S2 z2 → gJ g (mLn nm) 60 600000 7302250 (fun k' j' rv ws' => k' ≤ 600000 ∧ j' ≤ 7302250 ∧ rv = some (.int 1)) (kk + 10) (jj + 23392) 1128 [(3, .int (nI zi)), (2, .ref (q 26)), (1, .ref (u 0)), (0, .ref (gA g 5))] [] (z2 ++ wS g q S2)) : gJ g (mLn nm) 60 600000 7302250 (fun k' j' rv ws' => k' ≤ 600000 ∧ j' ≤ 7302250 ∧ rv = some (.int 1)) kk jj 564 [(3, .int (nI zi)), (2, .ref (q 26)), (1, .ref (u 0)), (0, .ref (gA g 5))] [] (zc ++ wS g q zS) := by
  refine j_aload_n 565 dL_law_564 rfl 2 rfl ?_
  refine j_aload_n 566 dL_law_565 rfl 3 rfl ?_
  refine j_iload_n 567 dL_law_566 rfl 0 rfl ?_
  refine j_iconst (v := (1 : Int32)) 568 dL_law_567 rfl (by decide) ?_
  refine j_iaddN zi 1 569 dL_law_568 rfl ?_
  refine j_sld 570 dL_law_569 rfl (vp_in_nI (by omega) (by omega)) ?_
  obtain ⟨zfs, zmm⟩ := cR_mem hC
  refine j_callVP (As := [.int (g.2.2.2.2 (nI (zi + 1)).toNatClampNeg)]) (rest := []) (wc := zc) (wr := wS g q zS) 573 (k_heavy g u zS zc (g.2.2.2.2 (nI (zi + 1)).toNatClampNeg) hI hC) dL_law_570 rfl cv_L_69 rfl rfl zmm rfl (gLe rfl) (gLe rfl) (by omega) (by omega) (fun rv w1 hp => ?_)
  obtain ⟨rfl, hC2⟩ := hp
  refine j_eq (lv2 := [(3, .int (nI zi)), (2, .ref (q 26)), (1, .ref (u 0)), (0, .ref (gA g 5))]) (st2 := [.int ((pM_heavy (g.2.2.2.2 (nI (zi + 1)).toNatClampNeg) zS).1)]) (ws2 := w1 ++ wS g q zS) rfl rfl rfl ?_
  refine j_aload_n 574 dL_law_573 rfl 1 rfl ?_
  refine j_aload_n 575 dL_law_574 rfl 3 rfl ?_
  refine j_iload_n 576 dL_law_575 rfl 0 rfl ?_
  refine j_iconst (v := (1 : Int32)) 577 dL_law_576 rfl (by decide) ?_
  refine j_iaddN zi 1 578 dL_law_577 rfl ?_
  refine j_sld 579 dL_law_578 rfl (vp_in_nI (by omega) (by omega)) ?_
  refine j_perm (wS g q zS ++ w1) List.perm_append_comm ?_
  refine j_callVP (As := [.int (g.2.2.2.2 (nI (zi + 1)).toNatClampNeg)]) (rest := [.int ((pM_heavy (g.2.2.2.2 (nI (zi + 1)).toNatClampNeg) zS).1)]) (wc := wS g q zS) (wr := w1) 582 (c_X6_heavy g q zS.1 zS.2.1 zS.2.2.1 zS.2.2.2 (g.2.2.2.2 (nI (zi + 1)).toNatClampNeg) hI) dL_law_579 rfl cv_L_72 rfl rfl (List.mem_cons_self (l := (wS g q zS).tail)) rfl (gLe rfl) (gLe rfl) (by omega) (by omega) (fun rv w2 hp => ?_)
  obtain ⟨rfl, rfl⟩ := hp
  refine j_eq (lv2 := [(3, .int (nI zi)), (2, .ref (q 26)), (1, .ref (u 0)), (0, .ref (gA g 5))]) (st2 := [.int ((pM_heavy (g.2.2.2.2 (nI (zi + 1)).toNatClampNeg) zS).1), .int ((pM_heavy (g.2.2.2.2 (nI (zi + 1)).toNatClampNeg) zS).1)]) (ws2 := wS g q (pM_heavy (g.2.2.2.2 (nI (zi + 1)).toNatClampNeg) zS).2 ++ w1) rfl rfl rfl ?_
  refine j_perm (w1 ++ wS g q (pM_heavy (g.2.2.2.2 (nI (zi + 1)).toNatClampNeg) zS).2) List.perm_append_comm ?_
  refine j_icmp_eq 585 1128 dL_law_582 rfl rfl (fun _ => ?_) (fun hne => absurd rfl hne)
  refine j_widen (kk + 10) (jj + 23392) (by omega) (by omega) ?_
  exact cont (pM_heavy (g.2.2.2.2 (nI (zi + 1)).toNatClampNeg) zS).2 w1 (RI_heavy hI (g.2.2.2.2 (nI (zi + 1)).toNatClampNeg)) hC2
set_option maxRecDepth 20000 in
theorem lw_c13 (g : gG) (nm : String) (u q : Nat → Nat) (zS : RS) (zc : va_W) (zi kk jj : Nat) (hi : zi + 6 ≤ g.2.2.2.1) (hL : g.2.2.2.1 ≤ 384) (hI : RI zS) (hC : cR g u zS zc) (hk : kk + 10 ≤ 600000) (hj : jj + 23392 ≤ 7302250) (cont : ∀ (S2 : RS) (z2 : va_W), RI S2 → cR g u S2 z2 → gJ g (mLn nm) 60 600000 7302250 (fun k' j' rv ws' => k' ≤ 600000 ∧ j' ≤ 7302250 ∧ rv = some (.int 1)) (kk + 10) (jj + 23392) 1128 [(3, .int (nI zi)), (2, .ref (q 26)), (1, .ref (u 0)), (0, .ref (gA g 5))] [] (z2 ++ wS g q S2)) : gJ g (mLn nm) 60 600000 7302250 (fun k' j' rv ws' => k' ≤ 600000 ∧ j' ≤ 7302250 ∧ rv = some (.int 1)) kk jj 587 [(3, .int (nI zi)), (2, .ref (q 26)), (1, .ref (u 0)), (0, .ref (gA g 5))] [] (zc ++ wS g q zS) := by
  refine j_aload_n 588 dL_law_587 rfl 2 rfl ?_
  refine j_aload_n 589 dL_law_588 rfl 3 rfl ?_
  refine j_iload_n 590 dL_law_589 rfl 0 rfl ?_
  refine j_iconst (v := (1 : Int32)) 591 dL_law_590 rfl (by decide) ?_
  refine j_iaddN zi 1 592 dL_law_591 rfl ?_
  refine j_sld 593 dL_law_592 rfl (vp_in_nI (by omega) (by omega)) ?_
  refine j_aload_n 594 dL_law_593 rfl 3 rfl ?_
  refine j_iload_n 595 dL_law_594 rfl 0 rfl ?_
  refine j_iconst (v := (2 : Int32)) 596 dL_law_595 rfl (by decide) ?_
  refine j_iaddN zi 2 597 dL_law_596 rfl ?_
  refine j_sld 598 dL_law_597 rfl (vp_in_nI (by omega) (by omega)) ?_
  obtain ⟨zfs, zmm⟩ := cR_mem hC
  refine j_callVP (As := [.int (g.2.2.2.2 (nI (zi + 1)).toNatClampNeg), .int (g.2.2.2.2 (nI (zi + 2)).toNatClampNeg)]) (rest := []) (wc := zc) (wr := wS g q zS) 601 (k_pen g u zS zc (g.2.2.2.2 (nI (zi + 1)).toNatClampNeg) (g.2.2.2.2 (nI (zi + 2)).toNatClampNeg) hI hC) dL_law_598 rfl cv_L_73 rfl rfl zmm rfl (gLe rfl) (gLe rfl) (by omega) (by omega) (fun rv w1 hp => ?_)
  obtain ⟨rfl, hC2⟩ := hp
  refine j_eq (lv2 := [(3, .int (nI zi)), (2, .ref (q 26)), (1, .ref (u 0)), (0, .ref (gA g 5))]) (st2 := [.int ((pM_pen (g.2.2.2.2 (nI (zi + 1)).toNatClampNeg) (g.2.2.2.2 (nI (zi + 2)).toNatClampNeg) zS).1)]) (ws2 := w1 ++ wS g q zS) rfl rfl rfl ?_
  refine j_aload_n 602 dL_law_601 rfl 1 rfl ?_
  refine j_aload_n 603 dL_law_602 rfl 3 rfl ?_
  refine j_iload_n 604 dL_law_603 rfl 0 rfl ?_
  refine j_iconst (v := (1 : Int32)) 605 dL_law_604 rfl (by decide) ?_
  refine j_iaddN zi 1 606 dL_law_605 rfl ?_
  refine j_sld 607 dL_law_606 rfl (vp_in_nI (by omega) (by omega)) ?_
  refine j_aload_n 608 dL_law_607 rfl 3 rfl ?_
  refine j_iload_n 609 dL_law_608 rfl 0 rfl ?_
  refine j_iconst (v := (2 : Int32)) 610 dL_law_609 rfl (by decide) ?_
  refine j_iaddN zi 2 611 dL_law_610 rfl ?_
  refine j_sld 612 dL_law_611 rfl (vp_in_nI (by omega) (by omega)) ?_
  refine j_perm (wS g q zS ++ w1) List.perm_append_comm ?_
  refine j_callVP (As := [.int (g.2.2.2.2 (nI (zi + 1)).toNatClampNeg), .int (g.2.2.2.2 (nI (zi + 2)).toNatClampNeg)]) (rest := [.int ((pM_pen (g.2.2.2.2 (nI (zi + 1)).toNatClampNeg) (g.2.2.2.2 (nI (zi + 2)).toNatClampNeg) zS).1)]) (wc := wS g q zS) (wr := w1) 615 (c_X6_pen g q zS.1 zS.2.1 zS.2.2.1 zS.2.2.2 (g.2.2.2.2 (nI (zi + 1)).toNatClampNeg) (g.2.2.2.2 (nI (zi + 2)).toNatClampNeg) hI) dL_law_612 rfl cv_L_76 rfl rfl (List.mem_cons_self (l := (wS g q zS).tail)) rfl (gLe rfl) (gLe rfl) (by omega) (by omega) (fun rv w2 hp => ?_)
  obtain ⟨rfl, rfl⟩ := hp
  refine j_eq (lv2 := [(3, .int (nI zi)), (2, .ref (q 26)), (1, .ref (u 0)), (0, .ref (gA g 5))]) (st2 := [.int ((pM_pen (g.2.2.2.2 (nI (zi + 1)).toNatClampNeg) (g.2.2.2.2 (nI (zi + 2)).toNatClampNeg) zS).1), .int ((pM_pen (g.2.2.2.2 (nI (zi + 1)).toNatClampNeg) (g.2.2.2.2 (nI (zi + 2)).toNatClampNeg) zS).1)]) (ws2 := wS g q (pM_pen (g.2.2.2.2 (nI (zi + 1)).toNatClampNeg) (g.2.2.2.2 (nI (zi + 2)).toNatClampNeg) zS).2 ++ w1) rfl rfl rfl ?_
  refine j_perm (w1 ++ wS g q (pM_pen (g.2.2.2.2 (nI (zi + 1)).toNatClampNeg) (g.2.2.2.2 (nI (zi + 2)).toNatClampNeg) zS).2) List.perm_append_comm ?_
  refine j_icmp_eq 618 1128 dL_law_615 rfl rfl (fun _ => ?_) (fun hne => absurd rfl hne)
  refine j_widen (kk + 10) (jj + 23392) (by omega) (by omega) ?_
  exact cont (pM_pen (g.2.2.2.2 (nI (zi + 1)).toNatClampNeg) (g.2.2.2.2 (nI (zi + 2)).toNatClampNeg) zS).2 w1 (RI_pen hI (g.2.2.2.2 (nI (zi + 1)).toNatClampNeg) (g.2.2.2.2 (nI (zi + 2)).toNatClampNeg)) hC2
set_option maxRecDepth 20000 in
theorem lw_c14 (g : gG) (nm : String) (u q : Nat → Nat) (zS : RS) (zc : va_W) (zi kk jj : Nat) (hi : zi + 6 ≤ g.2.2.2.1) (hL : g.2.2.2.1 ≤ 384) (hI : RI zS) (hC : cR g u zS zc) (hk : kk + 10 ≤ 600000) (hj : jj + 23392 ≤ 7302250) (cont : ∀ (S2 : RS) (z2 : va_W), RI S2 → cR g u S2 z2 → gJ g (mLn nm) 60 600000 7302250 (fun k' j' rv ws' => k' ≤ 600000 ∧ j' ≤ 7302250 ∧ rv = some (.int 1)) (kk + 10) (jj + 23392) 1128 [(3, .int (nI zi)), (2, .ref (q 26)), (1, .ref (u 0)), (0, .ref (gA g 5))] [] (z2 ++ wS g q S2)) : gJ g (mLn nm) 60 600000 7302250 (fun k' j' rv ws' => k' ≤ 600000 ∧ j' ≤ 7302250 ∧ rv = some (.int 1)) kk jj 620 [(3, .int (nI zi)), (2, .ref (q 26)), (1, .ref (u 0)), (0, .ref (gA g 5))] [] (zc ++ wS g q zS) := by
  refine j_aload_n 621 dL_law_620 rfl 2 rfl ?_
  refine j_aload_n 622 dL_law_621 rfl 3 rfl ?_
  refine j_iload_n 623 dL_law_622 rfl 0 rfl ?_
  refine j_iconst (v := (1 : Int32)) 624 dL_law_623 rfl (by decide) ?_
  refine j_iaddN zi 1 625 dL_law_624 rfl ?_
  refine j_sld 626 dL_law_625 rfl (vp_in_nI (by omega) (by omega)) ?_
  refine j_aload_n 627 dL_law_626 rfl 3 rfl ?_
  refine j_iload_n 628 dL_law_627 rfl 0 rfl ?_
  refine j_iconst (v := (2 : Int32)) 629 dL_law_628 rfl (by decide) ?_
  refine j_iaddN zi 2 630 dL_law_629 rfl ?_
  refine j_sld 631 dL_law_630 rfl (vp_in_nI (by omega) (by omega)) ?_
  refine j_aload_n 632 dL_law_631 rfl 3 rfl ?_
  refine j_iload_n 633 dL_law_632 rfl 0 rfl ?_
  refine j_iconst (v := (3 : Int32)) 634 dL_law_633 rfl (by decide) ?_
  refine j_iaddN zi 3 635 dL_law_634 rfl ?_
  refine j_sld 636 dL_law_635 rfl (vp_in_nI (by omega) (by omega)) ?_
  refine j_aload_n 637 dL_law_636 rfl 3 rfl ?_
  refine j_iload_n 638 dL_law_637 rfl 0 rfl ?_
  refine j_iconst (v := (4 : Int32)) 639 dL_law_638 rfl (by decide) ?_
  refine j_iaddN zi 4 640 dL_law_639 rfl ?_
  refine j_sld 641 dL_law_640 rfl (vp_in_nI (by omega) (by omega)) ?_
  obtain ⟨zfs, zmm⟩ := cR_mem hC
  refine j_callVP (As := [.int (g.2.2.2.2 (nI (zi + 1)).toNatClampNeg), .int (g.2.2.2.2 (nI (zi + 2)).toNatClampNeg), .int (g.2.2.2.2 (nI (zi + 3)).toNatClampNeg), .int (g.2.2.2.2 (nI (zi + 4)).toNatClampNeg)]) (rest := []) (wc := zc) (wr := wS g q zS) 644 (k_stood g u zS zc (g.2.2.2.2 (nI (zi + 1)).toNatClampNeg) (g.2.2.2.2 (nI (zi + 2)).toNatClampNeg) (g.2.2.2.2 (nI (zi + 3)).toNatClampNeg) (g.2.2.2.2 (nI (zi + 4)).toNatClampNeg) hI hC) dL_law_641 rfl cv_L_77 rfl rfl zmm rfl (gLe rfl) (gLe rfl) (by omega) (by omega) (fun rv w1 hp => ?_)
  obtain ⟨rfl, hC2⟩ := hp
  refine j_eq (lv2 := [(3, .int (nI zi)), (2, .ref (q 26)), (1, .ref (u 0)), (0, .ref (gA g 5))]) (st2 := [.int ((pM_stood (g.2.2.2.2 (nI (zi + 1)).toNatClampNeg) (g.2.2.2.2 (nI (zi + 2)).toNatClampNeg) (g.2.2.2.2 (nI (zi + 3)).toNatClampNeg) (g.2.2.2.2 (nI (zi + 4)).toNatClampNeg) zS).1)]) (ws2 := w1 ++ wS g q zS) rfl rfl rfl ?_
  refine j_aload_n 645 dL_law_644 rfl 1 rfl ?_
  refine j_aload_n 646 dL_law_645 rfl 3 rfl ?_
  refine j_iload_n 647 dL_law_646 rfl 0 rfl ?_
  refine j_iconst (v := (1 : Int32)) 648 dL_law_647 rfl (by decide) ?_
  refine j_iaddN zi 1 649 dL_law_648 rfl ?_
  refine j_sld 650 dL_law_649 rfl (vp_in_nI (by omega) (by omega)) ?_
  refine j_aload_n 651 dL_law_650 rfl 3 rfl ?_
  refine j_iload_n 652 dL_law_651 rfl 0 rfl ?_
  refine j_iconst (v := (2 : Int32)) 653 dL_law_652 rfl (by decide) ?_
  refine j_iaddN zi 2 654 dL_law_653 rfl ?_
  refine j_sld 655 dL_law_654 rfl (vp_in_nI (by omega) (by omega)) ?_
  refine j_aload_n 656 dL_law_655 rfl 3 rfl ?_
  refine j_iload_n 657 dL_law_656 rfl 0 rfl ?_
  refine j_iconst (v := (3 : Int32)) 658 dL_law_657 rfl (by decide) ?_
  refine j_iaddN zi 3 659 dL_law_658 rfl ?_
  refine j_sld 660 dL_law_659 rfl (vp_in_nI (by omega) (by omega)) ?_
  refine j_aload_n 661 dL_law_660 rfl 3 rfl ?_
  refine j_iload_n 662 dL_law_661 rfl 0 rfl ?_
  refine j_iconst (v := (4 : Int32)) 663 dL_law_662 rfl (by decide) ?_
  refine j_iaddN zi 4 664 dL_law_663 rfl ?_
  refine j_sld 665 dL_law_664 rfl (vp_in_nI (by omega) (by omega)) ?_
  refine j_perm (wS g q zS ++ w1) List.perm_append_comm ?_
  refine j_callVP (As := [.int (g.2.2.2.2 (nI (zi + 1)).toNatClampNeg), .int (g.2.2.2.2 (nI (zi + 2)).toNatClampNeg), .int (g.2.2.2.2 (nI (zi + 3)).toNatClampNeg), .int (g.2.2.2.2 (nI (zi + 4)).toNatClampNeg)]) (rest := [.int ((pM_stood (g.2.2.2.2 (nI (zi + 1)).toNatClampNeg) (g.2.2.2.2 (nI (zi + 2)).toNatClampNeg) (g.2.2.2.2 (nI (zi + 3)).toNatClampNeg) (g.2.2.2.2 (nI (zi + 4)).toNatClampNeg) zS).1)]) (wc := wS g q zS) (wr := w1) 668 (c_X6_stood g q zS.1 zS.2.1 zS.2.2.1 zS.2.2.2 (g.2.2.2.2 (nI (zi + 1)).toNatClampNeg) (g.2.2.2.2 (nI (zi + 2)).toNatClampNeg) (g.2.2.2.2 (nI (zi + 3)).toNatClampNeg) (g.2.2.2.2 (nI (zi + 4)).toNatClampNeg) hI) dL_law_665 rfl cv_L_81 rfl rfl (List.mem_cons_self (l := (wS g q zS).tail)) rfl (gLe rfl) (gLe rfl) (by omega) (by omega) (fun rv w2 hp => ?_)
  obtain ⟨S9, hG, rfl, rfl⟩ := hp
  refine j_eq (lv2 := [(3, .int (nI zi)), (2, .ref (q 26)), (1, .ref (u 0)), (0, .ref (gA g 5))]) (st2 := [.int ((pM_stood (g.2.2.2.2 (nI (zi + 1)).toNatClampNeg) (g.2.2.2.2 (nI (zi + 2)).toNatClampNeg) (g.2.2.2.2 (nI (zi + 3)).toNatClampNeg) (g.2.2.2.2 (nI (zi + 4)).toNatClampNeg) zS).1), .int ((pM_stood (g.2.2.2.2 (nI (zi + 1)).toNatClampNeg) (g.2.2.2.2 (nI (zi + 2)).toNatClampNeg) (g.2.2.2.2 (nI (zi + 3)).toNatClampNeg) (g.2.2.2.2 (nI (zi + 4)).toNatClampNeg) zS).1)]) (ws2 := wS g q S9 ++ w1) rfl rfl rfl ?_
  refine j_perm (w1 ++ wS g q S9) List.perm_append_comm ?_
  refine j_icmp_eq 671 1128 dL_law_668 rfl rfl (fun _ => ?_) (fun hne => absurd rfl hne)
  refine j_widen (kk + 10) (jj + 23392) (by omega) (by omega) ?_
  exact cont S9 w1 (RI_Gq (RI_stood hI (g.2.2.2.2 (nI (zi + 1)).toNatClampNeg) (g.2.2.2.2 (nI (zi + 2)).toNatClampNeg) (g.2.2.2.2 (nI (zi + 3)).toNatClampNeg) (g.2.2.2.2 (nI (zi + 4)).toNatClampNeg)) hG) (cR_Gq (RI_stood hI (g.2.2.2.2 (nI (zi + 1)).toNatClampNeg) (g.2.2.2.2 (nI (zi + 2)).toNatClampNeg) (g.2.2.2.2 (nI (zi + 3)).toNatClampNeg) (g.2.2.2.2 (nI (zi + 4)).toNatClampNeg)) hG hC2)
set_option maxRecDepth 20000 in
theorem lw_c15 (g : gG) (nm : String) (u q : Nat → Nat) (zS : RS) (zc : va_W) (zi kk jj : Nat) (hi : zi + 6 ≤ g.2.2.2.1) (hL : g.2.2.2.1 ≤ 384) (hI : RI zS) (hC : cR g u zS zc) (hk : kk + 10 ≤ 600000) (hj : jj + 23392 ≤ 7302250) (cont : ∀ (S2 : RS) (z2 : va_W), RI S2 → cR g u S2 z2 → gJ g (mLn nm) 60 600000 7302250 (fun k' j' rv ws' => k' ≤ 600000 ∧ j' ≤ 7302250 ∧ rv = some (.int 1)) (kk + 10) (jj + 23392) 1128 [(3, .int (nI zi)), (2, .ref (q 26)), (1, .ref (u 0)), (0, .ref (gA g 5))] [] (z2 ++ wS g q S2)) : gJ g (mLn nm) 60 600000 7302250 (fun k' j' rv ws' => k' ≤ 600000 ∧ j' ≤ 7302250 ∧ rv = some (.int 1)) kk jj 673 [(3, .int (nI zi)), (2, .ref (q 26)), (1, .ref (u 0)), (0, .ref (gA g 5))] [] (zc ++ wS g q zS) := by
  refine j_aload_n 674 dL_law_673 rfl 2 rfl ?_
  refine j_aload_n 675 dL_law_674 rfl 3 rfl ?_
  refine j_iload_n 676 dL_law_675 rfl 0 rfl ?_
  refine j_iconst (v := (1 : Int32)) 677 dL_law_676 rfl (by decide) ?_
  refine j_iaddN zi 1 678 dL_law_677 rfl ?_
  refine j_sld 679 dL_law_678 rfl (vp_in_nI (by omega) (by omega)) ?_
  refine j_aload_n 680 dL_law_679 rfl 3 rfl ?_
  refine j_iload_n 681 dL_law_680 rfl 0 rfl ?_
  refine j_iconst (v := (2 : Int32)) 682 dL_law_681 rfl (by decide) ?_
  refine j_iaddN zi 2 683 dL_law_682 rfl ?_
  refine j_sld 684 dL_law_683 rfl (vp_in_nI (by omega) (by omega)) ?_
  refine j_aload_n 685 dL_law_684 rfl 3 rfl ?_
  refine j_iload_n 686 dL_law_685 rfl 0 rfl ?_
  refine j_iconst (v := (3 : Int32)) 687 dL_law_686 rfl (by decide) ?_
  refine j_iaddN zi 3 688 dL_law_687 rfl ?_
  refine j_sld 689 dL_law_688 rfl (vp_in_nI (by omega) (by omega)) ?_
  obtain ⟨zfs, zmm⟩ := cR_mem hC
  refine j_callVP (As := [.int (g.2.2.2.2 (nI (zi + 1)).toNatClampNeg), .int (g.2.2.2.2 (nI (zi + 2)).toNatClampNeg), .int (g.2.2.2.2 (nI (zi + 3)).toNatClampNeg)]) (rest := []) (wc := zc) (wr := wS g q zS) 692 (k_ahead g u zS zc (g.2.2.2.2 (nI (zi + 1)).toNatClampNeg) (g.2.2.2.2 (nI (zi + 2)).toNatClampNeg) (g.2.2.2.2 (nI (zi + 3)).toNatClampNeg) hI hC) dL_law_689 rfl cv_L_82 rfl rfl zmm rfl (gLe rfl) (gLe rfl) (by omega) (by omega) (fun rv w1 hp => ?_)
  obtain ⟨rfl, hC2⟩ := hp
  refine j_eq (lv2 := [(3, .int (nI zi)), (2, .ref (q 26)), (1, .ref (u 0)), (0, .ref (gA g 5))]) (st2 := [.int ((pM_ahead (g.2.2.2.2 (nI (zi + 1)).toNatClampNeg) (g.2.2.2.2 (nI (zi + 2)).toNatClampNeg) (g.2.2.2.2 (nI (zi + 3)).toNatClampNeg) zS).1)]) (ws2 := w1 ++ wS g q zS) rfl rfl rfl ?_
  refine j_aload_n 693 dL_law_692 rfl 1 rfl ?_
  refine j_aload_n 694 dL_law_693 rfl 3 rfl ?_
  refine j_iload_n 695 dL_law_694 rfl 0 rfl ?_
  refine j_iconst (v := (1 : Int32)) 696 dL_law_695 rfl (by decide) ?_
  refine j_iaddN zi 1 697 dL_law_696 rfl ?_
  refine j_sld 698 dL_law_697 rfl (vp_in_nI (by omega) (by omega)) ?_
  refine j_aload_n 699 dL_law_698 rfl 3 rfl ?_
  refine j_iload_n 700 dL_law_699 rfl 0 rfl ?_
  refine j_iconst (v := (2 : Int32)) 701 dL_law_700 rfl (by decide) ?_
  refine j_iaddN zi 2 702 dL_law_701 rfl ?_
  refine j_sld 703 dL_law_702 rfl (vp_in_nI (by omega) (by omega)) ?_
  refine j_aload_n 704 dL_law_703 rfl 3 rfl ?_
  refine j_iload_n 705 dL_law_704 rfl 0 rfl ?_
  refine j_iconst (v := (3 : Int32)) 706 dL_law_705 rfl (by decide) ?_
  refine j_iaddN zi 3 707 dL_law_706 rfl ?_
  refine j_sld 708 dL_law_707 rfl (vp_in_nI (by omega) (by omega)) ?_
  refine j_perm (wS g q zS ++ w1) List.perm_append_comm ?_
  refine j_callVP (As := [.int (g.2.2.2.2 (nI (zi + 1)).toNatClampNeg), .int (g.2.2.2.2 (nI (zi + 2)).toNatClampNeg), .int (g.2.2.2.2 (nI (zi + 3)).toNatClampNeg)]) (rest := [.int ((pM_ahead (g.2.2.2.2 (nI (zi + 1)).toNatClampNeg) (g.2.2.2.2 (nI (zi + 2)).toNatClampNeg) (g.2.2.2.2 (nI (zi + 3)).toNatClampNeg) zS).1)]) (wc := wS g q zS) (wr := w1) 711 (c_X6_ahead g q zS.1 zS.2.1 zS.2.2.1 zS.2.2.2 (g.2.2.2.2 (nI (zi + 1)).toNatClampNeg) (g.2.2.2.2 (nI (zi + 2)).toNatClampNeg) (g.2.2.2.2 (nI (zi + 3)).toNatClampNeg) hI) dL_law_708 rfl cv_L_85 rfl rfl (List.mem_cons_self (l := (wS g q zS).tail)) rfl (gLe rfl) (gLe rfl) (by omega) (by omega) (fun rv w2 hp => ?_)
  obtain ⟨S9, hG, rfl, rfl⟩ := hp
  refine j_eq (lv2 := [(3, .int (nI zi)), (2, .ref (q 26)), (1, .ref (u 0)), (0, .ref (gA g 5))]) (st2 := [.int ((pM_ahead (g.2.2.2.2 (nI (zi + 1)).toNatClampNeg) (g.2.2.2.2 (nI (zi + 2)).toNatClampNeg) (g.2.2.2.2 (nI (zi + 3)).toNatClampNeg) zS).1), .int ((pM_ahead (g.2.2.2.2 (nI (zi + 1)).toNatClampNeg) (g.2.2.2.2 (nI (zi + 2)).toNatClampNeg) (g.2.2.2.2 (nI (zi + 3)).toNatClampNeg) zS).1)]) (ws2 := wS g q S9 ++ w1) rfl rfl rfl ?_
  refine j_perm (w1 ++ wS g q S9) List.perm_append_comm ?_
  refine j_icmp_eq 714 1128 dL_law_711 rfl rfl (fun _ => ?_) (fun hne => absurd rfl hne)
  refine j_widen (kk + 10) (jj + 23392) (by omega) (by omega) ?_
  exact cont S9 w1 (RI_Gq (RI_ahead hI (g.2.2.2.2 (nI (zi + 1)).toNatClampNeg) (g.2.2.2.2 (nI (zi + 2)).toNatClampNeg) (g.2.2.2.2 (nI (zi + 3)).toNatClampNeg)) hG) (cR_Gq (RI_ahead hI (g.2.2.2.2 (nI (zi + 1)).toNatClampNeg) (g.2.2.2.2 (nI (zi + 2)).toNatClampNeg) (g.2.2.2.2 (nI (zi + 3)).toNatClampNeg)) hG hC2)
set_option maxRecDepth 20000 in
theorem lw_c16 (g : gG) (nm : String) (u q : Nat → Nat) (zS : RS) (zc : va_W) (zi kk jj : Nat) (hi : zi + 6 ≤ g.2.2.2.1) (hL : g.2.2.2.1 ≤ 384) (hI : RI zS) (hC : cR g u zS zc) (hk : kk + 10 ≤ 600000) (hj : jj + 23392 ≤ 7302250) (cont : ∀ (S2 : RS) (z2 : va_W), RI S2 → cR g u S2 z2 → gJ g (mLn nm) 60 600000 7302250 (fun k' j' rv ws' => k' ≤ 600000 ∧ j' ≤ 7302250 ∧ rv = some (.int 1)) (kk + 10) (jj + 23392) 1128 [(3, .int (nI zi)), (2, .ref (q 26)), (1, .ref (u 0)), (0, .ref (gA g 5))] [] (z2 ++ wS g q S2)) : gJ g (mLn nm) 60 600000 7302250 (fun k' j' rv ws' => k' ≤ 600000 ∧ j' ≤ 7302250 ∧ rv = some (.int 1)) kk jj 716 [(3, .int (nI zi)), (2, .ref (q 26)), (1, .ref (u 0)), (0, .ref (gA g 5))] [] (zc ++ wS g q zS) := by
  refine j_aload_n 717 dL_law_716 rfl 2 rfl ?_
  refine j_aload_n 718 dL_law_717 rfl 3 rfl ?_
  refine j_iload_n 719 dL_law_718 rfl 0 rfl ?_
  refine j_iconst (v := (1 : Int32)) 720 dL_law_719 rfl (by decide) ?_
  refine j_iaddN zi 1 721 dL_law_720 rfl ?_
  refine j_sld 722 dL_law_721 rfl (vp_in_nI (by omega) (by omega)) ?_
  refine j_aload_n 723 dL_law_722 rfl 3 rfl ?_
  refine j_iload_n 724 dL_law_723 rfl 0 rfl ?_
  refine j_iconst (v := (2 : Int32)) 725 dL_law_724 rfl (by decide) ?_
  refine j_iaddN zi 2 726 dL_law_725 rfl ?_
  refine j_sld 727 dL_law_726 rfl (vp_in_nI (by omega) (by omega)) ?_
  obtain ⟨zfs, zmm⟩ := cR_mem hC
  refine j_callVP (As := [.int (g.2.2.2.2 (nI (zi + 1)).toNatClampNeg), .int (g.2.2.2.2 (nI (zi + 2)).toNatClampNeg)]) (rest := []) (wc := zc) (wr := wS g q zS) 730 (k_reached g u zS zc (g.2.2.2.2 (nI (zi + 1)).toNatClampNeg) (g.2.2.2.2 (nI (zi + 2)).toNatClampNeg) hI hC) dL_law_727 rfl cv_L_86 rfl rfl zmm rfl (gLe rfl) (gLe rfl) (by omega) (by omega) (fun rv w1 hp => ?_)
  obtain ⟨v9, rfl, hv9, hC2⟩ := hp
  refine j_eq (lv2 := [(3, .int (nI zi)), (2, .ref (q 26)), (1, .ref (u 0)), (0, .ref (gA g 5))]) (st2 := [.int v9]) (ws2 := w1 ++ wS g q zS) rfl rfl rfl ?_
  refine j_aload_n 731 dL_law_730 rfl 1 rfl ?_
  refine j_aload_n 732 dL_law_731 rfl 3 rfl ?_
  refine j_iload_n 733 dL_law_732 rfl 0 rfl ?_
  refine j_iconst (v := (1 : Int32)) 734 dL_law_733 rfl (by decide) ?_
  refine j_iaddN zi 1 735 dL_law_734 rfl ?_
  refine j_sld 736 dL_law_735 rfl (vp_in_nI (by omega) (by omega)) ?_
  refine j_aload_n 737 dL_law_736 rfl 3 rfl ?_
  refine j_iload_n 738 dL_law_737 rfl 0 rfl ?_
  refine j_iconst (v := (2 : Int32)) 739 dL_law_738 rfl (by decide) ?_
  refine j_iaddN zi 2 740 dL_law_739 rfl ?_
  refine j_sld 741 dL_law_740 rfl (vp_in_nI (by omega) (by omega)) ?_
  refine j_perm (wS g q zS ++ w1) List.perm_append_comm ?_
  refine j_callVP (As := [.int (g.2.2.2.2 (nI (zi + 1)).toNatClampNeg), .int (g.2.2.2.2 (nI (zi + 2)).toNatClampNeg)]) (rest := [.int v9]) (wc := wS g q zS) (wr := w1) 744 (c_X6_reached g q zS.1 zS.2.1 zS.2.2.1 zS.2.2.2 (g.2.2.2.2 (nI (zi + 1)).toNatClampNeg) (g.2.2.2.2 (nI (zi + 2)).toNatClampNeg) hI) dL_law_741 rfl cv_L_89 rfl rfl (List.mem_cons_self (l := (wS g q zS).tail)) rfl (gLe rfl) (gLe rfl) (by omega) (by omega) (fun rv w2 hp => ?_)
  obtain ⟨S9, z9, hG, hr9, rfl, rfl⟩ := hp
  refine j_eq (lv2 := [(3, .int (nI zi)), (2, .ref (q 26)), (1, .ref (u 0)), (0, .ref (gA g 5))]) (st2 := [.int v9, .int v9]) (ws2 := wS g q S9 ++ w1) rfl (by rw [hv9 z9 hr9]; rfl) rfl ?_
  refine j_perm (w1 ++ wS g q S9) List.perm_append_comm ?_
  refine j_icmp_eq 747 1128 dL_law_744 rfl rfl (fun _ => ?_) (fun hne => absurd rfl hne)
  refine j_widen (kk + 10) (jj + 23392) (by omega) (by omega) ?_
  exact cont S9 w1 (RI_Gq hI hG) (cR_Gq hI hG hC2)
set_option maxRecDepth 20000 in
theorem lw_c17 (g : gG) (nm : String) (u q : Nat → Nat) (zS : RS) (zc : va_W) (zi kk jj : Nat) (hi : zi + 6 ≤ g.2.2.2.1) (hL : g.2.2.2.1 ≤ 384) (hI : RI zS) (hC : cR g u zS zc) (hk : kk + 10 ≤ 600000) (hj : jj + 23392 ≤ 7302250) (cont : ∀ (S2 : RS) (z2 : va_W), RI S2 → cR g u S2 z2 → gJ g (mLn nm) 60 600000 7302250 (fun k' j' rv ws' => k' ≤ 600000 ∧ j' ≤ 7302250 ∧ rv = some (.int 1)) (kk + 10) (jj + 23392) 1128 [(3, .int (nI zi)), (2, .ref (q 26)), (1, .ref (u 0)), (0, .ref (gA g 5))] [] (z2 ++ wS g q S2)) : gJ g (mLn nm) 60 600000 7302250 (fun k' j' rv ws' => k' ≤ 600000 ∧ j' ≤ 7302250 ∧ rv = some (.int 1)) kk jj 749 [(3, .int (nI zi)), (2, .ref (q 26)), (1, .ref (u 0)), (0, .ref (gA g 5))] [] (zc ++ wS g q zS) := by
  refine j_aload_n 750 dL_law_749 rfl 2 rfl ?_
  obtain ⟨zfs, zmm⟩ := cR_mem hC
  refine j_callVP (As := []) (rest := []) (wc := zc) (wr := wS g q zS) 753 (k_comes g u zS zc  hI hC) dL_law_750 rfl cv_L_90 rfl rfl zmm rfl (gLe rfl) (gLe rfl) (by omega) (by omega) (fun rv w1 hp => ?_)
  obtain ⟨v9, rfl, hv9, hC2⟩ := hp
  refine j_eq (lv2 := [(3, .int (nI zi)), (2, .ref (q 26)), (1, .ref (u 0)), (0, .ref (gA g 5))]) (st2 := [.int v9]) (ws2 := w1 ++ wS g q zS) rfl rfl rfl ?_
  refine j_aload_n 754 dL_law_753 rfl 1 rfl ?_
  refine j_perm (wS g q zS ++ w1) List.perm_append_comm ?_
  refine j_callVP (As := []) (rest := [.int v9]) (wc := wS g q zS) (wr := w1) 757 (c_X6_comes g q zS.1 zS.2.1 zS.2.2.1 zS.2.2.2  hI) dL_law_754 rfl cv_L_93 rfl rfl (List.mem_cons_self (l := (wS g q zS).tail)) rfl (gLe rfl) (gLe rfl) (by omega) (by omega) (fun rv w2 hp => ?_)
  obtain ⟨S9, z9, hG, hr9, rfl, rfl⟩ := hp
  refine j_eq (lv2 := [(3, .int (nI zi)), (2, .ref (q 26)), (1, .ref (u 0)), (0, .ref (gA g 5))]) (st2 := [.int v9, .int v9]) (ws2 := wS g q S9 ++ w1) rfl (by rw [hv9 z9 hr9]; rfl) rfl ?_
  refine j_perm (w1 ++ wS g q S9) List.perm_append_comm ?_
  refine j_icmp_eq 760 1128 dL_law_757 rfl rfl (fun _ => ?_) (fun hne => absurd rfl hne)
  refine j_widen (kk + 10) (jj + 23392) (by omega) (by omega) ?_
  exact cont S9 w1 (RI_Gq hI hG) (cR_Gq hI hG hC2)
set_option maxRecDepth 20000 in
theorem lw_c18 (g : gG) (nm : String) (u q : Nat → Nat) (zS : RS) (zc : va_W) (zi kk jj : Nat) (hi : zi + 6 ≤ g.2.2.2.1) (hL : g.2.2.2.1 ≤ 384) (hI : RI zS) (hC : cR g u zS zc) (hk : kk + 10 ≤ 600000) (hj : jj + 23392 ≤ 7302250) (cont : ∀ (S2 : RS) (z2 : va_W), RI S2 → cR g u S2 z2 → gJ g (mLn nm) 60 600000 7302250 (fun k' j' rv ws' => k' ≤ 600000 ∧ j' ≤ 7302250 ∧ rv = some (.int 1)) (kk + 10) (jj + 23392) 1128 [(3, .int (nI zi)), (2, .ref (q 26)), (1, .ref (u 0)), (0, .ref (gA g 5))] [] (z2 ++ wS g q S2)) : gJ g (mLn nm) 60 600000 7302250 (fun k' j' rv ws' => k' ≤ 600000 ∧ j' ≤ 7302250 ∧ rv = some (.int 1)) kk jj 762 [(3, .int (nI zi)), (2, .ref (q 26)), (1, .ref (u 0)), (0, .ref (gA g 5))] [] (zc ++ wS g q zS) := by
  refine j_aload_n 763 dL_law_762 rfl 2 rfl ?_
  refine j_aload_n 764 dL_law_763 rfl 3 rfl ?_
  refine j_iload_n 765 dL_law_764 rfl 0 rfl ?_
  refine j_iconst (v := (1 : Int32)) 766 dL_law_765 rfl (by decide) ?_
  refine j_iaddN zi 1 767 dL_law_766 rfl ?_
  refine j_sld 768 dL_law_767 rfl (vp_in_nI (by omega) (by omega)) ?_
  refine j_aload_n 769 dL_law_768 rfl 3 rfl ?_
  refine j_iload_n 770 dL_law_769 rfl 0 rfl ?_
  refine j_iconst (v := (2 : Int32)) 771 dL_law_770 rfl (by decide) ?_
  refine j_iaddN zi 2 772 dL_law_771 rfl ?_
  refine j_sld 773 dL_law_772 rfl (vp_in_nI (by omega) (by omega)) ?_
  obtain ⟨zfs, zmm⟩ := cR_mem hC
  refine j_callVP (As := [.int (g.2.2.2.2 (nI (zi + 1)).toNatClampNeg), .int (g.2.2.2.2 (nI (zi + 2)).toNatClampNeg)]) (rest := []) (wc := zc) (wr := wS g q zS) 776 (k_round g u zS zc (g.2.2.2.2 (nI (zi + 1)).toNatClampNeg) (g.2.2.2.2 (nI (zi + 2)).toNatClampNeg) hI hC) dL_law_773 rfl cv_L_94 rfl rfl zmm rfl (gLe rfl) (gLe rfl) (by omega) (by omega) (fun rv w1 hp => ?_)
  obtain ⟨v9, rfl, hv9, hC2⟩ := hp
  refine j_eq (lv2 := [(3, .int (nI zi)), (2, .ref (q 26)), (1, .ref (u 0)), (0, .ref (gA g 5))]) (st2 := [.int v9]) (ws2 := w1 ++ wS g q zS) rfl rfl rfl ?_
  refine j_aload_n 777 dL_law_776 rfl 1 rfl ?_
  refine j_aload_n 778 dL_law_777 rfl 3 rfl ?_
  refine j_iload_n 779 dL_law_778 rfl 0 rfl ?_
  refine j_iconst (v := (1 : Int32)) 780 dL_law_779 rfl (by decide) ?_
  refine j_iaddN zi 1 781 dL_law_780 rfl ?_
  refine j_sld 782 dL_law_781 rfl (vp_in_nI (by omega) (by omega)) ?_
  refine j_aload_n 783 dL_law_782 rfl 3 rfl ?_
  refine j_iload_n 784 dL_law_783 rfl 0 rfl ?_
  refine j_iconst (v := (2 : Int32)) 785 dL_law_784 rfl (by decide) ?_
  refine j_iaddN zi 2 786 dL_law_785 rfl ?_
  refine j_sld 787 dL_law_786 rfl (vp_in_nI (by omega) (by omega)) ?_
  refine j_perm (wS g q zS ++ w1) List.perm_append_comm ?_
  refine j_callVP (As := [.int (g.2.2.2.2 (nI (zi + 1)).toNatClampNeg), .int (g.2.2.2.2 (nI (zi + 2)).toNatClampNeg)]) (rest := [.int v9]) (wc := wS g q zS) (wr := w1) 790 (c_X6_round g q zS.1 zS.2.1 zS.2.2.1 zS.2.2.2 (g.2.2.2.2 (nI (zi + 1)).toNatClampNeg) (g.2.2.2.2 (nI (zi + 2)).toNatClampNeg) hI) dL_law_787 rfl cv_L_97 rfl rfl (List.mem_cons_self (l := (wS g q zS).tail)) rfl (gLe rfl) (gLe rfl) (by omega) (by omega) (fun rv w2 hp => ?_)
  obtain ⟨S9, z9, hG, hr9, rfl, rfl⟩ := hp
  refine j_eq (lv2 := [(3, .int (nI zi)), (2, .ref (q 26)), (1, .ref (u 0)), (0, .ref (gA g 5))]) (st2 := [.int v9, .int v9]) (ws2 := wS g q S9 ++ w1) rfl (by rw [hv9 z9 hr9]; rfl) rfl ?_
  refine j_perm (w1 ++ wS g q S9) List.perm_append_comm ?_
  refine j_icmp_eq 793 1128 dL_law_790 rfl rfl (fun _ => ?_) (fun hne => absurd rfl hne)
  refine j_widen (kk + 10) (jj + 23392) (by omega) (by omega) ?_
  exact cont S9 w1 (RI_Gq hI hG) (cR_Gq hI hG hC2)
set_option maxRecDepth 20000 in
theorem lw_c19 (g : gG) (nm : String) (u q : Nat → Nat) (zS : RS) (zc : va_W) (zi kk jj : Nat) (hi : zi + 6 ≤ g.2.2.2.1) (hL : g.2.2.2.1 ≤ 384) (hI : RI zS) (hC : cR g u zS zc) (hk : kk + 10 ≤ 600000) (hj : jj + 23392 ≤ 7302250) (cont : ∀ (S2 : RS) (z2 : va_W), RI S2 → cR g u S2 z2 → gJ g (mLn nm) 60 600000 7302250 (fun k' j' rv ws' => k' ≤ 600000 ∧ j' ≤ 7302250 ∧ rv = some (.int 1)) (kk + 10) (jj + 23392) 1128 [(3, .int (nI zi)), (2, .ref (q 26)), (1, .ref (u 0)), (0, .ref (gA g 5))] [] (z2 ++ wS g q S2)) : gJ g (mLn nm) 60 600000 7302250 (fun k' j' rv ws' => k' ≤ 600000 ∧ j' ≤ 7302250 ∧ rv = some (.int 1)) kk jj 795 [(3, .int (nI zi)), (2, .ref (q 26)), (1, .ref (u 0)), (0, .ref (gA g 5))] [] (zc ++ wS g q zS) := by
  refine j_aload_n 796 dL_law_795 rfl 2 rfl ?_
  refine j_aload_n 797 dL_law_796 rfl 3 rfl ?_
  refine j_iload_n 798 dL_law_797 rfl 0 rfl ?_
  refine j_iconst (v := (1 : Int32)) 799 dL_law_798 rfl (by decide) ?_
  refine j_iaddN zi 1 800 dL_law_799 rfl ?_
  refine j_sld 801 dL_law_800 rfl (vp_in_nI (by omega) (by omega)) ?_
  refine j_aload_n 802 dL_law_801 rfl 3 rfl ?_
  refine j_iload_n 803 dL_law_802 rfl 0 rfl ?_
  refine j_iconst (v := (2 : Int32)) 804 dL_law_803 rfl (by decide) ?_
  refine j_iaddN zi 2 805 dL_law_804 rfl ?_
  refine j_sld 806 dL_law_805 rfl (vp_in_nI (by omega) (by omega)) ?_
  refine j_aload_n 807 dL_law_806 rfl 3 rfl ?_
  refine j_iload_n 808 dL_law_807 rfl 0 rfl ?_
  refine j_iconst (v := (3 : Int32)) 809 dL_law_808 rfl (by decide) ?_
  refine j_iaddN zi 3 810 dL_law_809 rfl ?_
  refine j_sld 811 dL_law_810 rfl (vp_in_nI (by omega) (by omega)) ?_
  obtain ⟨zfs, zmm⟩ := cR_mem hC
  refine j_callVP (As := [.int (g.2.2.2.2 (nI (zi + 1)).toNatClampNeg), .int (g.2.2.2.2 (nI (zi + 2)).toNatClampNeg), .int (g.2.2.2.2 (nI (zi + 3)).toNatClampNeg)]) (rest := []) (wc := zc) (wr := wS g q zS) 814 (k_sticks g u zS zc (g.2.2.2.2 (nI (zi + 1)).toNatClampNeg) (g.2.2.2.2 (nI (zi + 2)).toNatClampNeg) (g.2.2.2.2 (nI (zi + 3)).toNatClampNeg) hI hC) dL_law_811 rfl cv_L_98 rfl rfl zmm rfl (gLe rfl) (gLe rfl) (by omega) (by omega) (fun rv w1 hp => ?_)
  obtain ⟨rfl, hC2⟩ := hp
  refine j_eq (lv2 := [(3, .int (nI zi)), (2, .ref (q 26)), (1, .ref (u 0)), (0, .ref (gA g 5))]) (st2 := [.int ((pM_sticks (g.2.2.2.2 (nI (zi + 1)).toNatClampNeg) (g.2.2.2.2 (nI (zi + 2)).toNatClampNeg) (g.2.2.2.2 (nI (zi + 3)).toNatClampNeg) zS).1)]) (ws2 := w1 ++ wS g q zS) rfl rfl rfl ?_
  refine j_aload_n 815 dL_law_814 rfl 1 rfl ?_
  refine j_aload_n 816 dL_law_815 rfl 3 rfl ?_
  refine j_iload_n 817 dL_law_816 rfl 0 rfl ?_
  refine j_iconst (v := (1 : Int32)) 818 dL_law_817 rfl (by decide) ?_
  refine j_iaddN zi 1 819 dL_law_818 rfl ?_
  refine j_sld 820 dL_law_819 rfl (vp_in_nI (by omega) (by omega)) ?_
  refine j_aload_n 821 dL_law_820 rfl 3 rfl ?_
  refine j_iload_n 822 dL_law_821 rfl 0 rfl ?_
  refine j_iconst (v := (2 : Int32)) 823 dL_law_822 rfl (by decide) ?_
  refine j_iaddN zi 2 824 dL_law_823 rfl ?_
  refine j_sld 825 dL_law_824 rfl (vp_in_nI (by omega) (by omega)) ?_
  refine j_aload_n 826 dL_law_825 rfl 3 rfl ?_
  refine j_iload_n 827 dL_law_826 rfl 0 rfl ?_
  refine j_iconst (v := (3 : Int32)) 828 dL_law_827 rfl (by decide) ?_
  refine j_iaddN zi 3 829 dL_law_828 rfl ?_
  refine j_sld 830 dL_law_829 rfl (vp_in_nI (by omega) (by omega)) ?_
  refine j_perm (wS g q zS ++ w1) List.perm_append_comm ?_
  refine j_callVP (As := [.int (g.2.2.2.2 (nI (zi + 1)).toNatClampNeg), .int (g.2.2.2.2 (nI (zi + 2)).toNatClampNeg), .int (g.2.2.2.2 (nI (zi + 3)).toNatClampNeg)]) (rest := [.int ((pM_sticks (g.2.2.2.2 (nI (zi + 1)).toNatClampNeg) (g.2.2.2.2 (nI (zi + 2)).toNatClampNeg) (g.2.2.2.2 (nI (zi + 3)).toNatClampNeg) zS).1)]) (wc := wS g q zS) (wr := w1) 833 (c_X6_sticks g q zS.1 zS.2.1 zS.2.2.1 zS.2.2.2 (g.2.2.2.2 (nI (zi + 1)).toNatClampNeg) (g.2.2.2.2 (nI (zi + 2)).toNatClampNeg) (g.2.2.2.2 (nI (zi + 3)).toNatClampNeg) hI) dL_law_830 rfl cv_L_101 rfl rfl (List.mem_cons_self (l := (wS g q zS).tail)) rfl (gLe rfl) (gLe rfl) (by omega) (by omega) (fun rv w2 hp => ?_)
  obtain ⟨S9, hG, rfl, rfl⟩ := hp
  refine j_eq (lv2 := [(3, .int (nI zi)), (2, .ref (q 26)), (1, .ref (u 0)), (0, .ref (gA g 5))]) (st2 := [.int ((pM_sticks (g.2.2.2.2 (nI (zi + 1)).toNatClampNeg) (g.2.2.2.2 (nI (zi + 2)).toNatClampNeg) (g.2.2.2.2 (nI (zi + 3)).toNatClampNeg) zS).1), .int ((pM_sticks (g.2.2.2.2 (nI (zi + 1)).toNatClampNeg) (g.2.2.2.2 (nI (zi + 2)).toNatClampNeg) (g.2.2.2.2 (nI (zi + 3)).toNatClampNeg) zS).1)]) (ws2 := wS g q S9 ++ w1) rfl rfl rfl ?_
  refine j_perm (w1 ++ wS g q S9) List.perm_append_comm ?_
  refine j_icmp_eq 836 1128 dL_law_833 rfl rfl (fun _ => ?_) (fun hne => absurd rfl hne)
  refine j_widen (kk + 10) (jj + 23392) (by omega) (by omega) ?_
  exact cont S9 w1 (RI_Gq (RI_sticks hI (g.2.2.2.2 (nI (zi + 1)).toNatClampNeg) (g.2.2.2.2 (nI (zi + 2)).toNatClampNeg) (g.2.2.2.2 (nI (zi + 3)).toNatClampNeg)) hG) (cR_Gq (RI_sticks hI (g.2.2.2.2 (nI (zi + 1)).toNatClampNeg) (g.2.2.2.2 (nI (zi + 2)).toNatClampNeg) (g.2.2.2.2 (nI (zi + 3)).toNatClampNeg)) hG hC2)
