set_option maxRecDepth 20000 in
theorem k_round (g : gG) (u : Nat → Nat) (S : RS) (ws : va_W) (b : Int32) (what : Int32) (hI : RI S) (hC : cR g u S ws) : gCon g mX5_round 4 0 0 [.ref (u 0), .int b, .int what] ws (fun rv ws' => ∃ v9 : Int32, rv = some (.int v9) ∧ (∀ z9 : Int32, (rM_round b what S) z9 → z9 = v9) ∧ cR g u S ws') := by
  refine gCon.of (lv := [(0, .ref (u 0)), (1, .int b), (2, .int what)]) (by decide) (gLe rfl) rfl ?_
  obtain ⟨so, xi, xj, xe, xf, xg, rf, af, mf, T, kl, ks, ke, kt, kv, kf, yT, s0, s1, s2, D0, D1, D2, R4, A4, I4, np, Pl, pL, Sr, hA, hN, hR, hW, hAc, hM, hS, hZ1, hZ2, hp⟩ := hC
  obtain ⟨rfl, rfl, rfl, rfl, rfl, rfl, rfl⟩ := hN
  have hxi := hAc.1
  have hxj := hI.2.1
  have hkl := hI.2.2.2.2.1
  have hxe := hI.2.2.2.2.2.2.2.2.1
  refine j_perm _ hp ?_
  refine j_ws ([((u 0), .inr (5, [.ref (u 1), .ref (u 5), .ref (u 10), .ref (u 14), .ref (u 18), .ref (u 2), .int (nI xi), .int (nI (S.2.2.1 2)), .ref (u 3), va_rf so, .ref (u 4), .int (nI (S.2.2.1 11)), .int (nI (S.2.2.1 5)), .int (nI (S.2.2.1 6))])), ((u 1), .inl (g.2.1 3, 8, .inr (.inr (.inr (.inr rf))))), ((u 2), .inl (g.2.1 4, 24, .inr (.inr (.inr (.inr af))))), ((u 3), .inl (g.2.1 4, 2, .inr (.inr (.inr (.inr mf))))), ((u 4), .inl (g.2.1 0, 16, .inl (nF (S.1 10)))), ((u 5), .inr (4, [.ref (u 6), .int (nI (S.2.2.1 4)), .int (nI ks), .int (nI ke), .int (nI kt), .int (nI kv), .int (nI kf)])), ((u 6), .inl (g.2.1 1, 400, .inl (sgF (S.1 3)))), ((u 10), .inr (3, [.ref s0, .int (nI (D0 0 0)), .ref (u 11), .ref (u 12), .ref (u 13)])), ((u 11), .inl (g.2.1 0, 5, .inl (nF (D0 1)))), ((u 12), .inl (g.2.1 0, 6, .inl (nF (D0 2)))), ((u 13), .inl (g.2.1 0, 6, .inl (nF (D0 3)))), ((u 14), .inr (3, [.ref s1, .int (nI (D1 0 0)), .ref (u 15), .ref (u 16), .ref (u 17)])), ((u 15), .inl (g.2.1 0, 5, .inl (nF (D1 1)))), ((u 16), .inl (g.2.1 0, 6, .inl (nF (D1 2)))), ((u 17), .inl (g.2.1 0, 6, .inl (nF (D1 3)))), ((u 18), .inr (3, [.ref s2, .int (nI (D2 0 0)), .ref (u 19), .ref (u 20), .ref (u 21)])), ((u 19), .inl (g.2.1 0, 5, .inl (nF (D2 1)))), ((u 20), .inl (g.2.1 0, 6, .inl (nF (D2 2)))), ((u 21), .inl (g.2.1 0, 6, .inl (nF (D2 3))))] ++ (tlW R4 A4 I4 np Pl Sr)) rfl ?_
  have hW0 := hW
  obtain ⟨⟨zi, ⟨hzi, p1, p2, p3, p4, p5, p6, hpe⟩, hpl⟩, hst⟩ := hW
  have hq := RI_pl hI hpl
  obtain ⟨hq6, hq5, hq8, hq0⟩ := hq
  refine j_perm _ (opn (tl_pl hzi)) ?_
  rw [hpe]
  refine j_ws ([((u 0), .inr (5, [.ref (u 1), .ref (u 5), .ref (u 10), .ref (u 14), .ref (u 18), .ref (u 2), .int (nI xi), .int (nI (S.2.2.1 2)), .ref (u 3), va_rf so, .ref (u 4), .int (nI (S.2.2.1 11)), .int (nI (S.2.2.1 5)), .int (nI (S.2.2.1 6))])), ((u 1), .inl (g.2.1 3, 8, .inr (.inr (.inr (.inr rf))))), ((u 2), .inl (g.2.1 4, 24, .inr (.inr (.inr (.inr af))))), ((u 3), .inl (g.2.1 4, 2, .inr (.inr (.inr (.inr mf))))), ((u 4), .inl (g.2.1 0, 16, .inl (nF (S.1 10)))), ((u 5), .inr (4, [.ref (u 6), .int (nI (S.2.2.1 4)), .int (nI ks), .int (nI ke), .int (nI kt), .int (nI kv), .int (nI kf)])), ((u 6), .inl (g.2.1 1, 400, .inl (sgF (S.1 3)))), ((u 10), .inr (3, [.ref s0, .int (nI (D0 0 0)), .ref (u 11), .ref (u 12), .ref (u 13)])), ((u 11), .inl (g.2.1 0, 5, .inl (nF (D0 1)))), ((u 12), .inl (g.2.1 0, 6, .inl (nF (D0 2)))), ((u 13), .inl (g.2.1 0, 6, .inl (nF (D0 3)))), ((u 14), .inr (3, [.ref s1, .int (nI (D1 0 0)), .ref (u 15), .ref (u 16), .ref (u 17)])), ((u 15), .inl (g.2.1 0, 5, .inl (nF (D1 1)))), ((u 16), .inl (g.2.1 0, 6, .inl (nF (D1 2)))), ((u 17), .inl (g.2.1 0, 6, .inl (nF (D1 3)))), ((u 18), .inr (3, [.ref s2, .int (nI (D2 0 0)), .ref (u 19), .ref (u 20), .ref (u 21)])), ((u 19), .inl (g.2.1 0, 5, .inl (nF (D2 1)))), ((u 20), .inl (g.2.1 0, 6, .inl (nF (D2 2)))), ((u 21), .inl (g.2.1 0, 6, .inl (nF (D2 3)))), (s0, .inr (0, [.int (nI (pL zi 0 0)), .int (nI (pL zi 0 1)), .int (nI (pL zi 0 2)), .ref p1, .ref p2, .ref p3, .ref p4, .ref p5, .ref p6])), (p1, .inl (g.2.1 0, 5, .inl (nF (pL zi 1)))), (p2, .inl (g.2.1 0, 5, .inl (nF (pL zi 2)))), (p3, .inl (g.2.1 0, 5, .inl (nF (pL zi 3)))), (p4, .inl (g.2.1 0, 5, .inl (nF (pL zi 4)))), (p5, .inl (g.2.1 0, 8, .inl (nF (pL zi 5)))), (p6, .inl (g.2.1 0, 8, .inl (nF (pL zi 6))))] ++ (tlW R4 A4 I4 np (va_up Pl zi []) Sr)) rfl ?_
  refine j_aload_n 1 dX5_round_0 rfl 0 rfl ?_
  refine j_iload_n 2 dX5_round_1 rfl 1 rfl ?_
  refine j_callV0 (rest := []) 5 [0, 7, 19] (c_X5_isBeast g (u 0) (u 1) (u 5) (u 10) (u 14) (u 18) (u 2) xi (S.2.2.1 2) (u 3) so (u 4) (S.2.2.1 11) (S.2.2.1 5) (S.2.2.1 6) s0 (D0 0 0) (u 11) (u 12) (u 13) (pL zi 0 0) (pL zi 0 1) (pL zi 0 2) p1 p2 p3 p4 p5 p6 b (by first | assumption | omega)) [.int (gB (inR b (pL zi 0 2)))] ([((u 0), .inr (5, [.ref (u 1), .ref (u 5), .ref (u 10), .ref (u 14), .ref (u 18), .ref (u 2), .int (nI xi), .int (nI (S.2.2.1 2)), .ref (u 3), va_rf so, .ref (u 4), .int (nI (S.2.2.1 11)), .int (nI (S.2.2.1 5)), .int (nI (S.2.2.1 6))])), ((u 1), .inl (g.2.1 3, 8, .inr (.inr (.inr (.inr rf))))), ((u 2), .inl (g.2.1 4, 24, .inr (.inr (.inr (.inr af))))), ((u 3), .inl (g.2.1 4, 2, .inr (.inr (.inr (.inr mf))))), ((u 4), .inl (g.2.1 0, 16, .inl (nF (S.1 10)))), ((u 5), .inr (4, [.ref (u 6), .int (nI (S.2.2.1 4)), .int (nI ks), .int (nI ke), .int (nI kt), .int (nI kv), .int (nI kf)])), ((u 6), .inl (g.2.1 1, 400, .inl (sgF (S.1 3)))), ((u 10), .inr (3, [.ref s0, .int (nI (D0 0 0)), .ref (u 11), .ref (u 12), .ref (u 13)])), ((u 11), .inl (g.2.1 0, 5, .inl (nF (D0 1)))), ((u 12), .inl (g.2.1 0, 6, .inl (nF (D0 2)))), ((u 13), .inl (g.2.1 0, 6, .inl (nF (D0 3)))), ((u 14), .inr (3, [.ref s1, .int (nI (D1 0 0)), .ref (u 15), .ref (u 16), .ref (u 17)])), ((u 15), .inl (g.2.1 0, 5, .inl (nF (D1 1)))), ((u 16), .inl (g.2.1 0, 6, .inl (nF (D1 2)))), ((u 17), .inl (g.2.1 0, 6, .inl (nF (D1 3)))), ((u 18), .inr (3, [.ref s2, .int (nI (D2 0 0)), .ref (u 19), .ref (u 20), .ref (u 21)])), ((u 19), .inl (g.2.1 0, 5, .inl (nF (D2 1)))), ((u 20), .inl (g.2.1 0, 6, .inl (nF (D2 2)))), ((u 21), .inl (g.2.1 0, 6, .inl (nF (D2 3)))), (s0, .inr (0, [.int (nI (pL zi 0 0)), .int (nI (pL zi 0 1)), .int (nI (pL zi 0 2)), .ref p1, .ref p2, .ref p3, .ref p4, .ref p5, .ref p6])), (p1, .inl (g.2.1 0, 5, .inl (nF (pL zi 1)))), (p2, .inl (g.2.1 0, 5, .inl (nF (pL zi 2)))), (p3, .inl (g.2.1 0, 5, .inl (nF (pL zi 3)))), (p4, .inl (g.2.1 0, 5, .inl (nF (pL zi 4)))), (p5, .inl (g.2.1 0, 8, .inl (nF (pL zi 5)))), (p6, .inl (g.2.1 0, 8, .inl (nF (pL zi 6))))] ++ (tlW R4 A4 I4 np (va_up Pl zi []) Sr)) dX5_round_2 rfl cv_X5_150 rfl rfl rfl rfl 0 rfl rfl (gLe rfl) (gLe rfl) (gLe rfl) (gLe rfl) (gLe rfl) rfl (List.append_nil _) ?_
  refine j_topI _ (gB (inR b (S.1 0 3))) (gB_iff (by rw [hpl.2.2.1])) ?_
  refine j_if_eqB 8 15 dX5_round_5 rfl rfl (fun h5 => ?_) (fun h5 => ?_)
  ·
    refine j_ldc (v := (-1000001 : Int32)) 17 dX5_round_15 rfl wd_1_212 ?_
    have ze : ∀ z9 : Int32, (rM_round b what S) z9 → z9 = (-1000001 : Int32) := by
      intro z9 h9
      rw [rM_round, if_pos (by first | exact Or.inl h5 | exact Or.inr h12)] at h9
      exact h9
    refine j_iretI dX5_round_17 rfl ⟨gLe rfl, gLe rfl, (-1000001 : Int32), rfl, ze, ?_⟩
    exact ⟨so, xi, (S.2.2.1 2), (S.2.2.1 11), (S.2.2.1 5), (S.2.2.1 6), rf, af, mf, (S.1 10), (S.2.2.1 4), ks, ke, kt, kv, kf, (S.1 3), s0, s1, s2, D0, D1, D2, R4, A4, I4, np, Pl, pL, Sr, hA, ⟨rfl, rfl, rfl, rfl, rfl, rfl, rfl⟩, hR, hW0, hAc, hM, hS, hZ1, hZ2, (cls (E := (mnW g u so xi (S.2.2.1 2) (S.2.2.1 11) (S.2.2.1 5) (S.2.2.1 6) rf af mf (S.1 10) (S.2.2.1 4) ks ke kt kv kf (S.1 3) s0 s1 s2 D0 D1 D2)) (X := (plW g s0 p1 p2 p3 p4 p5 p6 (pL zi))) (T' := (tlW R4 A4 I4 np (va_up Pl zi []) Sr)) (T := (tlW R4 A4 I4 np Pl Sr)) (by rw [← hpe]; exact (tl_pl hzi).symm))⟩
  ·
    refine j_iload_n 9 dX5_round_8 rfl 2 rfl ?_
    refine j_callSE (rest := []) 12 (c_X5_isFirstOrSecond g what ) [.int (gB (inR what 2))] dX5_round_9 rfl cs_X5_212 rfl rfl (gLe rfl) (gLe rfl) (gLe rfl) (gLe rfl) rfl ?_
    refine j_if_neB 15 18 dX5_round_12 rfl rfl (fun h12 => ?_) (fun h12 => ?_)
    ·
      have hnb : ¬ (¬ inR b (S.1 0 3) ∨ ¬ inR what 2) := fun y => y.elim (fun y => y h5) (fun y => y h12)
      have hb8 : S.1 0 3 ≤ 8 := by rw [← hpl.2.2.1]; exact hq8
      obtain ⟨zb, hzb, rfl⟩ := inR_of h5
      have hok := (RI_P hI (Or.inr (Or.inl (by omega)))).2
      have hPl := plOK_P hpl hok.1
      have h3 : D0 0 0 < 2 ^ pL zi 0 1 := by rw [hpl.2.1]; have y := hok.2.1; rw [hst.1]; exact y
      have hZ0 := stOK_Z hst
      have hu0 := pu_c hI hst
      have hb2 : zb < pL zi 0 2 := by rw [hpl.2.2.1]; exact hzb
      have hs32 := p32 hok.1 hok.2.1
      have hcd : numA (plP (pL zi)) (D0 0 0) (D0 1) = numA (S.1 0) (S.1 0 40) (uM (S.1 0) 0) := by rw [numA_L hpl hok.1, stOK_u hst, show D0 0 0 = S.1 0 40 from hst.1]
      obtain ⟨t, n, hn7, hrd⟩ := aS_rnd hok.1 (b := zb) (s0 := numA (S.1 0) (S.1 0 40) (uM (S.1 0) 0)) (numA_lt hs32) (by rw [numA_mod hs32]; exact hok.2.1)
      have hrc : rnd (aS (plP (pL zi)) zb (numA (plP (pL zi)) (D0 0 0) (D0 1))) t n := by rw [hcd]; exact ⟨hrd.1, by rw [aS_L hpl hok.1 hzb, aS_L hpl hok.1 hzb]; exact hrd.2.1, fun i j h1 h2 => by rw [aS_L hpl hok.1 hzb, aS_L hpl hok.1 hzb]; exact hrd.2.2 i j h1 h2⟩
      have htn := hrd.1
      refine j_aload_n 19 dX5_round_18 rfl 0 rfl ?_
      refine j_iload_n 20 dX5_round_19 rfl 1 rfl ?_
      refine j_callVe (rest := []) 23 [0, 7, 8, 9, 10, 11, 12, 13, 14, 19, 20, 21, 22, 23, 24, 25] (c_X5_roundLength g (u 0) (u 1) (u 5) (u 10) (u 14) (u 18) (u 2) xi (S.2.2.1 2) (u 3) so (u 4) (S.2.2.1 11) (S.2.2.1 5) (S.2.2.1 6) s0 (u 11) (u 12) (u 13) D0 s1 (u 15) (u 16) (u 17) D1 p1 p2 p3 p4 p5 p6 (pL zi) zb t n hPl hb2 h3 hZ0 hZ1 hu0 hrc hn7) dX5_round_20 rfl cv_X5_250 rfl rfl rfl rfl 0 rfl rfl (gLe rfl) (gLe rfl) (gLe rfl) (gLe rfl) (fun rv w1 hp => ?_)
      obtain ⟨zE_1, hzZ_1, rfl, rfl⟩ := hp
      refine ⟨gLe rfl, ?_⟩
      refine j_eq (lv2 := [(0, .ref (u 0)), (1, .int (nI zb)), (2, .int what)]) (st2 := [.int (nI (n - t))]) (ws2 := ([((u 0), .inr (5, [.ref (u 1), .ref (u 5), .ref (u 10), .ref (u 14), .ref (u 18), .ref (u 2), .int (nI xi), .int (nI (S.2.2.1 2)), .ref (u 3), va_rf so, .ref (u 4), .int (nI (S.2.2.1 11)), .int (nI (S.2.2.1 5)), .int (nI (S.2.2.1 6))])), ((u 1), .inl (g.2.1 3, 8, .inr (.inr (.inr (.inr rf))))), ((u 2), .inl (g.2.1 4, 24, .inr (.inr (.inr (.inr af))))), ((u 3), .inl (g.2.1 4, 2, .inr (.inr (.inr (.inr mf))))), ((u 4), .inl (g.2.1 0, 16, .inl (nF (S.1 10)))), ((u 5), .inr (4, [.ref (u 6), .int (nI (S.2.2.1 4)), .int (nI ks), .int (nI ke), .int (nI kt), .int (nI kv), .int (nI kf)])), ((u 6), .inl (g.2.1 1, 400, .inl (sgF (S.1 3)))), ((u 10), .inr (3, [.ref s0, .int (nI (D0 0 0)), .ref (u 11), .ref (u 12), .ref (u 13)])), ((u 11), .inl (g.2.1 0, 5, .inl (nF (D0 1)))), ((u 12), .inl (g.2.1 0, 6, .inl (nF (D0 2)))), ((u 13), .inl (g.2.1 0, 6, .inl (nF (D0 3)))), ((u 14), .inr (3, [.ref s0, .int (nI (zE_1 0 0)), .ref (u 15), .ref (u 16), .ref (u 17)])), ((u 15), .inl (g.2.1 0, 5, .inl (nF (zE_1 1)))), ((u 16), .inl (g.2.1 0, 6, .inl (nF (zE_1 2)))), ((u 17), .inl (g.2.1 0, 6, .inl (nF (zE_1 3)))), ((u 18), .inr (3, [.ref s2, .int (nI (D2 0 0)), .ref (u 19), .ref (u 20), .ref (u 21)])), ((u 19), .inl (g.2.1 0, 5, .inl (nF (D2 1)))), ((u 20), .inl (g.2.1 0, 6, .inl (nF (D2 2)))), ((u 21), .inl (g.2.1 0, 6, .inl (nF (D2 3)))), (s0, .inr (0, [.int (nI ((pL zi) 0 0)), .int (nI ((pL zi) 0 1)), .int (nI ((pL zi) 0 2)), .ref p1, .ref p2, .ref p3, .ref p4, .ref p5, .ref p6])), (p1, .inl (g.2.1 0, 5, .inl (nF ((pL zi) 1)))), (p2, .inl (g.2.1 0, 5, .inl (nF ((pL zi) 2)))), (p3, .inl (g.2.1 0, 5, .inl (nF ((pL zi) 3)))), (p4, .inl (g.2.1 0, 5, .inl (nF ((pL zi) 4)))), (p5, .inl (g.2.1 0, 8, .inl (nF ((pL zi) 5)))), (p6, .inl (g.2.1 0, 8, .inl (nF ((pL zi) 6))))] ++ (tlW R4 A4 I4 np (va_up Pl zi []) Sr))) rfl rfl (by simp only [gPut, List.cons_append, List.nil_append, List.set_cons_zero, List.set_cons_succ, List.append_nil]) ?_
      refine j_istore_n 24 [(3, .int (nI (n - t))), (0, .ref (u 0)), (1, .int (nI zb)), (2, .int what)] dX5_round_23 rfl (by decide) rfl ?_
      refine j_iload_n 25 dX5_round_24 rfl 3 rfl ?_
      refine j_if_ne 28 37 dX5_round_25 rfl rfl (fun h25 => ?_) (fun h25 => ?_)
      ·
        refine j_iload_n 38 dX5_round_37 rfl 0 rfl ?_
        have ze : ∀ z9 : Int32, (rM_round (nI zb) what S) z9 → z9 = (nI (n - t)) := by
          intro z9 h9
          rw [rM_round, if_neg hnb, cl_nI (a := zb) (by omega)] at h9
          obtain ⟨t9, n9, g1, g2, g3, g4, g5⟩ := h9
          obtain ⟨e1, e2⟩ := rnd_un (A := aS (S.1 0) zb (numA (S.1 0) (S.1 0 40) (uM (S.1 0) 0))) ⟨g1, g4, g3⟩ hrd
          subst e1
          subst e2
          have hw1 : what = 1 := (inF2.mpr h12).resolve_left h25
          rw [g5, hw1, show cl (1 : Int32) = 1 by decide, if_neg (by decide)]
          exact pk_sub (by omega)
        refine j_iretI dX5_round_38 rfl ⟨gLe rfl, gLe rfl, (nI (n - t)), rfl, ze, ?_⟩
        exact ⟨so, xi, (S.2.2.1 2), (S.2.2.1 11), (S.2.2.1 5), (S.2.2.1 6), rf, af, mf, (S.1 10), (S.2.2.1 4), ks, ke, kt, kv, kf, (S.1 3), s0, s0, s2, D0, zE_1, D2, R4, A4, I4, np, Pl, pL, Sr, hA, ⟨rfl, rfl, rfl, rfl, rfl, rfl, rfl⟩, hR, hW0, hAc, hM, hS, hzZ_1, hZ2, (cls (E := (mnW g u so xi (S.2.2.1 2) (S.2.2.1 11) (S.2.2.1 5) (S.2.2.1 6) rf af mf (S.1 10) (S.2.2.1 4) ks ke kt kv kf (S.1 3) s0 s0 s2 D0 zE_1 D2)) (X := (plW g s0 p1 p2 p3 p4 p5 p6 (pL zi))) (T' := (tlW R4 A4 I4 np (va_up Pl zi []) Sr)) (T := (tlW R4 A4 I4 np Pl Sr)) (by rw [← hpe]; exact (tl_pl hzi).symm))⟩
      ·
        refine j_aload_n 29 dX5_round_28 rfl 1 rfl ?_
        refine j_iload_n 30 dX5_round_29 rfl 2 rfl ?_
        refine j_iload_n 31 dX5_round_30 rfl 0 rfl ?_
        refine j_callVe (rest := []) 34 [0, 7, 8, 9, 10, 11, 12, 13, 14, 15, 16, 17, 18, 19, 20, 21, 22, 23, 24, 25] (c_X5_tailLength g (u 0) (u 1) (u 5) (u 10) (u 14) (u 18) (u 2) xi (S.2.2.1 2) (u 3) so (u 4) (S.2.2.1 11) (S.2.2.1 5) (S.2.2.1 6) s0 (u 11) (u 12) (u 13) D0 s0 (u 15) (u 16) (u 17) zE_1 s2 (u 19) (u 20) (u 21) D2 p1 p2 p3 p4 p5 p6 (pL zi) zb (n - t) t n hPl hb2 h3 hZ0 hzZ_1 hu0 hrc hn7 hZ2 rfl) dX5_round_31 rfl cv_X5_253 rfl rfl rfl rfl 0 rfl rfl (gLe rfl) (gLe rfl) (gLe rfl) (gLe rfl) (fun rv w1 hp => ?_)
        obtain ⟨zE_2, zF_2, hzZ_2, hzZ2_2, rfl, rfl⟩ := hp
        refine ⟨gLe rfl, ?_⟩
        refine j_eq (lv2 := [(3, .int (nI (n - t))), (0, .ref (u 0)), (1, .int (nI zb)), (2, .int what)]) (st2 := [.int (nI t)]) (ws2 := ([((u 0), .inr (5, [.ref (u 1), .ref (u 5), .ref (u 10), .ref (u 14), .ref (u 18), .ref (u 2), .int (nI xi), .int (nI (S.2.2.1 2)), .ref (u 3), va_rf so, .ref (u 4), .int (nI (S.2.2.1 11)), .int (nI (S.2.2.1 5)), .int (nI (S.2.2.1 6))])), ((u 1), .inl (g.2.1 3, 8, .inr (.inr (.inr (.inr rf))))), ((u 2), .inl (g.2.1 4, 24, .inr (.inr (.inr (.inr af))))), ((u 3), .inl (g.2.1 4, 2, .inr (.inr (.inr (.inr mf))))), ((u 4), .inl (g.2.1 0, 16, .inl (nF (S.1 10)))), ((u 5), .inr (4, [.ref (u 6), .int (nI (S.2.2.1 4)), .int (nI ks), .int (nI ke), .int (nI kt), .int (nI kv), .int (nI kf)])), ((u 6), .inl (g.2.1 1, 400, .inl (sgF (S.1 3)))), ((u 10), .inr (3, [.ref s0, .int (nI (D0 0 0)), .ref (u 11), .ref (u 12), .ref (u 13)])), ((u 11), .inl (g.2.1 0, 5, .inl (nF (D0 1)))), ((u 12), .inl (g.2.1 0, 6, .inl (nF (D0 2)))), ((u 13), .inl (g.2.1 0, 6, .inl (nF (D0 3)))), ((u 14), .inr (3, [.ref s0, .int (nI (zE_2 0 0)), .ref (u 15), .ref (u 16), .ref (u 17)])), ((u 15), .inl (g.2.1 0, 5, .inl (nF (zE_2 1)))), ((u 16), .inl (g.2.1 0, 6, .inl (nF (zE_2 2)))), ((u 17), .inl (g.2.1 0, 6, .inl (nF (zE_2 3)))), ((u 18), .inr (3, [.ref s0, .int (nI (zF_2 0 0)), .ref (u 19), .ref (u 20), .ref (u 21)])), ((u 19), .inl (g.2.1 0, 5, .inl (nF (zF_2 1)))), ((u 20), .inl (g.2.1 0, 6, .inl (nF (zF_2 2)))), ((u 21), .inl (g.2.1 0, 6, .inl (nF (zF_2 3)))), (s0, .inr (0, [.int (nI ((pL zi) 0 0)), .int (nI ((pL zi) 0 1)), .int (nI ((pL zi) 0 2)), .ref p1, .ref p2, .ref p3, .ref p4, .ref p5, .ref p6])), (p1, .inl (g.2.1 0, 5, .inl (nF ((pL zi) 1)))), (p2, .inl (g.2.1 0, 5, .inl (nF ((pL zi) 2)))), (p3, .inl (g.2.1 0, 5, .inl (nF ((pL zi) 3)))), (p4, .inl (g.2.1 0, 5, .inl (nF ((pL zi) 4)))), (p5, .inl (g.2.1 0, 8, .inl (nF ((pL zi) 5)))), (p6, .inl (g.2.1 0, 8, .inl (nF ((pL zi) 6))))] ++ (tlW R4 A4 I4 np (va_up Pl zi []) Sr))) rfl rfl (by simp only [gPut, List.cons_append, List.nil_append, List.set_cons_zero, List.set_cons_succ, List.append_nil]) ?_
        refine j_goto 38 dX5_round_34 rfl ?_
        have ze : ∀ z9 : Int32, (rM_round (nI zb) what S) z9 → z9 = (nI t) := by
          intro z9 h9
          rw [rM_round, if_neg hnb, cl_nI (a := zb) (by omega)] at h9
          obtain ⟨t9, n9, g1, g2, g3, g4, g5⟩ := h9
          obtain ⟨e1, e2⟩ := rnd_un (A := aS (S.1 0) zb (numA (S.1 0) (S.1 0 40) (uM (S.1 0) 0))) ⟨g1, g4, g3⟩ hrd
          subst e1
          subst e2
          rw [g5, show cl what = 0 by rw [h25]; decide, if_pos rfl]
        refine j_iretI dX5_round_38 rfl ⟨gLe rfl, gLe rfl, (nI t), rfl, ze, ?_⟩
        exact ⟨so, xi, (S.2.2.1 2), (S.2.2.1 11), (S.2.2.1 5), (S.2.2.1 6), rf, af, mf, (S.1 10), (S.2.2.1 4), ks, ke, kt, kv, kf, (S.1 3), s0, s0, s0, D0, zE_2, zF_2, R4, A4, I4, np, Pl, pL, Sr, hA, ⟨rfl, rfl, rfl, rfl, rfl, rfl, rfl⟩, hR, hW0, hAc, hM, hS, hzZ_2, hzZ2_2, (cls (E := (mnW g u so xi (S.2.2.1 2) (S.2.2.1 11) (S.2.2.1 5) (S.2.2.1 6) rf af mf (S.1 10) (S.2.2.1 4) ks ke kt kv kf (S.1 3) s0 s0 s0 D0 zE_2 zF_2)) (X := (plW g s0 p1 p2 p3 p4 p5 p6 (pL zi))) (T' := (tlW R4 A4 I4 np (va_up Pl zi []) Sr)) (T := (tlW R4 A4 I4 np Pl Sr)) (by rw [← hpe]; exact (tl_pl hzi).symm))⟩
    ·
      refine j_ldc (v := (-1000001 : Int32)) 17 dX5_round_15 rfl wd_1_212 ?_
      have ze : ∀ z9 : Int32, (rM_round b what S) z9 → z9 = (-1000001 : Int32) := by
        intro z9 h9
        rw [rM_round, if_pos (by first | exact Or.inl h5 | exact Or.inr h12)] at h9
        exact h9
      refine j_iretI dX5_round_17 rfl ⟨gLe rfl, gLe rfl, (-1000001 : Int32), rfl, ze, ?_⟩
      exact ⟨so, xi, (S.2.2.1 2), (S.2.2.1 11), (S.2.2.1 5), (S.2.2.1 6), rf, af, mf, (S.1 10), (S.2.2.1 4), ks, ke, kt, kv, kf, (S.1 3), s0, s1, s2, D0, D1, D2, R4, A4, I4, np, Pl, pL, Sr, hA, ⟨rfl, rfl, rfl, rfl, rfl, rfl, rfl⟩, hR, hW0, hAc, hM, hS, hZ1, hZ2, (cls (E := (mnW g u so xi (S.2.2.1 2) (S.2.2.1 11) (S.2.2.1 5) (S.2.2.1 6) rf af mf (S.1 10) (S.2.2.1 4) ks ke kt kv kf (S.1 3) s0 s1 s2 D0 D1 D2)) (X := (plW g s0 p1 p2 p3 p4 p5 p6 (pL zi))) (T' := (tlW R4 A4 I4 np (va_up Pl zi []) Sr)) (T := (tlW R4 A4 I4 np Pl Sr)) (by rw [← hpe]; exact (tl_pl hzi).symm))⟩
