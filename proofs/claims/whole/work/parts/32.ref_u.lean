set_option maxRecDepth 20000 in
theorem c_X6_layFars (g : gG) (q : Nat → Nat) (Na : Nat → Nat → Nat) (Ia : Nat → Nat → Int32) (Ns : Nat → Nat) (Is : Nat → Int32)   (hst : Is 12 = skI 99) (hokp : okP (Na 0)) (hs40 : Na 0 40 < 2 ^ Na 0 2) (hum : ∀ k, uM (Na 0) 0 k ≤ 9999) : gCon g mX6_layFars 5 0 0 [.ref (q 26)] (wM g q Na Ia Ns Is) (fun rv ws' => ∃ (Z1 : Nat → Nat) (ZK : Nat), (eqB Z1 (Na 0)) ∧ (runQ (Na 0) (q0 (Na 0) (Ia 21) (Na 22)) ZK) ∧ ((outQ (Na 0) (q0 (Na 0) (Ia 21) (Na 22)) ZK).2.2 = ZK) ∧ rv = none ∧ ws' = (wM g q (va_up (va_up Na 0 Z1) 22 ((outQ (Na 0) (q0 (Na 0) (Ia 21) (Na 22)) ZK).2.1)) (va_up Ia 21 ((outQ (Na 0) (q0 (Na 0) (Ia 21) (Na 22)) ZK).1)) (va_up Ns 23 ((outQ (Na 0) (q0 (Na 0) (Ia 21) (Na 22)) ZK).2.2)) Is)) := by
  refine gCon.of (lv := [(0, .ref (q 26))]) (by decide) (gLe rfl) rfl ?_
  have hp3 := hokp.2.2.1
  have hp8 := hokp.2.2.2.1
  have hq := q0_ok hokp hs40 (F0 := Ia 21) (Q0 := Na 22)
  refine j_iconst (v := (0 : Int32)) 1 dX6_layFars_0 rfl (by decide) ?_
  refine j_istore_n 2 [(1, .int (0 : Int32)), (0, .ref (q 26))] dX6_layFars_1 rfl (by decide) rfl ?_
  have hL2 : ∀ (zm2 : Nat) (zi : Nat), 7776 - zi < zm2 → (zi ≤ 7776) → gJ g mX6_layFars 5 0 0 (fun k' j' rv ws' => k' ≤ 0 ∧ j' ≤ 0 ∧ (∃ (Z1 : Nat → Nat) (ZK : Nat), (eqB Z1 (Na 0)) ∧ (runQ (Na 0) (q0 (Na 0) (Ia 21) (Na 22)) ZK) ∧ ((outQ (Na 0) (q0 (Na 0) (Ia 21) (Na 22)) ZK).2.2 = ZK) ∧ rv = none ∧ ws' = (wM g q (va_up (va_up Na 0 Z1) 22 ((outQ (Na 0) (q0 (Na 0) (Ia 21) (Na 22)) ZK).2.1)) (va_up Ia 21 ((outQ (Na 0) (q0 (Na 0) (Ia 21) (Na 22)) ZK).1)) (va_up Ns 23 ((outQ (Na 0) (q0 (Na 0) (Ia 21) (Na 22)) ZK).2.2)) Is))) 0 0 2 [(1, .int (nI zi)), (0, .ref (q 26))] [] (wM g q Na (va_up Ia 21 (va_cpy (fun _ => -1000000) (Ia 21) 0 0 zi)) Ns Is) := by
    intro zm2
    induction zm2 with
    | zero => intro zi zmh; exact absurd zmh (Nat.not_lt_zero _)
    | succ zm2 zih2 =>
      intro zi zmh2 hz
      refine j_iload_n 3 dX6_layFars_2 rfl 0 rfl ?_
      refine j_sipush (v := (7776 : Int32)) 6 dX6_layFars_3 rfl (by decide) ?_
      refine j_icmp_geN zi 7776 9 23 dX6_layFars_6 rfl rfl (by omega) (by decide) (fun h6 => ?_) (fun h6 => ?_)
      ·
        have ye : zi = 7776 := by omega
        subst ye
        refine j_aload_n 24 dX6_layFars_23 rfl 1 rfl ?_
        refine j_iconst (v := (0 : Int32)) 25 dX6_layFars_24 rfl (by decide) ?_
        refine j_putf 28 0 (wM g q Na (va_up Ia 21 (va_cpy (fun _ => -1000000) (Ia 21) 0 0 7776)) (va_up Ns 23 0) Is) dX6_layFars_25 rfl fd_X6_233 rfl rfl rfl (gLe rfl) rfl ?_
        refine j_aload_n 29 dX6_layFars_28 rfl 1 rfl ?_
        refine j_iconst (v := (0 : Int32)) 30 dX6_layFars_29 rfl (by decide) ?_
        refine j_sipush (v := (174 : Int32)) 33 dX6_layFars_30 rfl (by decide) ?_
        refine j_callVW (rest := []) 36 (c_X6_copyRow g q Na (va_up Ia 21 (va_cpy (fun _ => -1000000) (Ia 21) 0 0 7776)) (va_up Ns 23 0) Is 0 174  (by decide) (by decide) (by decide)) [] dX6_layFars_33 rfl cv_X6_224 rfl rfl 0 rfl rfl (gLe rfl) (gLe rfl) (gLe rfl) (gLe rfl) (wM_len _ _ _ _ _ _ _ _ _ _) rfl ?_
        refine j_aload_n 37 dX6_layFars_36 rfl 1 rfl ?_
        refine j_aload_n 38 dX6_layFars_37 rfl 1 rfl ?_
        refine j_callVW (rest := [.ref (q 26)]) 41 (c_X6_number_ g q (va_up Na 0 (va_cpy (Na 0) (Na 0) 0 174 58)) (va_up Ia 21 (va_cpy (fun _ => -1000000) (Ia 21) 0 0 7776)) (va_up Ns 23 0) Is   (by show (va_cpy (Na 0) (Na 0) 0 174 58) 2 ≤ 5; rw [cpy_out (by omega)]; exact hp3) (fun j hj => by have hj : j < (va_cpy (Na 0) (Na 0) 0 174 58) 2 := hj; rw [cpy_out (by omega)] at hj; show (va_cpy (Na 0) (Na 0) 0 174 58) (4 + 4 * j + 3) < _; rw [cpy_out (by omega)]; have := (hokp.2.2.2.2.1 j hj).2.2.2; omega) (fun k => by show uM (va_cpy (Na 0) (Na 0) 0 174 58) 174 k ≤ _; rw [cp0_uM]; have := hum k; omega)) [.int (nI (numA (va_cpy (Na 0) (Na 0) 0 174 58) ((va_cpy (Na 0) (Na 0) 0 174 58) 214) (uM (va_cpy (Na 0) (Na 0) 0 174 58) 174))), .ref (q 26)] dX6_layFars_38 rfl cv_X6_236 rfl rfl 0 rfl rfl (gLe rfl) (gLe rfl) (gLe rfl) (gLe rfl) (wM_len _ _ _ _ _ _ _ _ _ _) rfl ?_
        refine j_topN (numA (va_cpy (Na 0) (Na 0) 0 174 58) ((va_cpy (Na 0) (Na 0) 0 174 58) 214) (uM (va_cpy (Na 0) (Na 0) 0 174 58) 174)) (numA (Na 0) (Na 0 40) (uM (Na 0) 0)) (by show numA (va_cpy (Na 0) (Na 0) 0 174 58) ((va_cpy (Na 0) (Na 0) 0 174 58) 214) (uM (va_cpy (Na 0) (Na 0) 0 174 58) 174) = _; rw [cp0_214, cp0_uM, numA_eq (eqB_P eqB_cpy)]) ?_
        refine j_iconst (v := (0 : Int32)) 42 dX6_layFars_41 rfl (by decide) ?_
        refine j_callVW (rest := []) 45 (c_X6_put g q (va_up Na 0 (va_cpy (Na 0) (Na 0) 0 174 58)) (va_up Ia 21 (va_cpy (fun _ => -1000000) (Ia 21) 0 0 7776)) (va_up Ns 23 0) Is (numA (Na 0) (Na 0 40) (uM (Na 0) 0)) (0 : Int32)  (numA_lt (p32 hokp hs40)) (fun _ => by show 0 < 7776; decide)) [] dX6_layFars_42 rfl cv_X6_238 rfl rfl 0 rfl rfl (gLe rfl) (gLe rfl) (gLe rfl) (gLe rfl) (wM_len _ _ _ _ _ _ _ _ _ _) rfl ?_
        refine j_ws (wM g q (va_up (va_up Na 0 (va_cpy (Na 0) (Na 0) 0 174 58)) 22 ((outQ (Na 0) (q0 (Na 0) (Ia 21) (Na 22)) 0).2.1)) (va_up Ia 21 ((outQ (Na 0) (q0 (Na 0) (Ia 21) (Na 22)) 0).1)) (va_up Ns 23 ((outQ (Na 0) (q0 (Na 0) (Ia 21) (Na 22)) 0).2.2)) Is) rfl ?_
        refine j_iconst (v := (0 : Int32)) 46 dX6_layFars_45 rfl (by decide) ?_
        refine j_istore_n 47 [(1, .int (0 : Int32)), (0, .ref (q 26))] dX6_layFars_46 rfl (by decide) rfl ?_
        have hL47 : ∀ (zm47 : Nat) (zk : Nat) (ZR : Nat → Nat), 7777 - zk < zm47 → (eqB ZR (Na 0)) → (runQ (Na 0) (q0 (Na 0) (Ia 21) (Na 22)) zk) → (zk ≤ (outQ (Na 0) (q0 (Na 0) (Ia 21) (Na 22)) zk).2.2) → gJ g mX6_layFars 5 0 0 (fun k' j' rv ws' => k' ≤ 0 ∧ j' ≤ 0 ∧ (∃ (Z1 : Nat → Nat) (ZK : Nat), (eqB Z1 (Na 0)) ∧ (runQ (Na 0) (q0 (Na 0) (Ia 21) (Na 22)) ZK) ∧ ((outQ (Na 0) (q0 (Na 0) (Ia 21) (Na 22)) ZK).2.2 = ZK) ∧ rv = none ∧ ws' = (wM g q (va_up (va_up Na 0 Z1) 22 ((outQ (Na 0) (q0 (Na 0) (Ia 21) (Na 22)) ZK).2.1)) (va_up Ia 21 ((outQ (Na 0) (q0 (Na 0) (Ia 21) (Na 22)) ZK).1)) (va_up Ns 23 ((outQ (Na 0) (q0 (Na 0) (Ia 21) (Na 22)) ZK).2.2)) Is))) 0 0 47 [(1, .int (nI zk)), (0, .ref (q 26))] [] (wM g q (va_up (va_up Na 0 ZR) 22 ((outQ (Na 0) (q0 (Na 0) (Ia 21) (Na 22)) zk).2.1)) (va_up Ia 21 ((outQ (Na 0) (q0 (Na 0) (Ia 21) (Na 22)) zk).1)) (va_up Ns 23 ((outQ (Na 0) (q0 (Na 0) (Ia 21) (Na 22)) zk).2.2)) Is) := by
          intro zm47
          induction zm47 with
          | zero => intro zk ZR zmh; exact absurd zmh (Nat.not_lt_zero _)
          | succ zm47 zih47 =>
            intro zk ZR zmh47 hzE hzr hzk
            refine j_iload_n 48 dX6_layFars_47 rfl 0 rfl ?_
            have hok := outQ_ok hokp hq zk hzr
            refine j_aload_n 49 dX6_layFars_48 rfl 1 rfl ?_
            refine j_getf 52 0 dX6_layFars_49 rfl fd_X6_233 rfl rfl ?_
            refine j_icmp_geN zk ((outQ (Na 0) (q0 (Na 0) (Ia 21) (Na 22)) zk).2.2) 55 107 dX6_layFars_52 rfl rfl (by have z0 := hok.1; have z1 := hzk; omega) (by have z0 := hok.1; omega) (fun h52 => ?_) (fun h52 => ?_)
            ·
              refine j_vret dX6_layFars_107 rfl ⟨gLe rfl, gLe rfl, ?_⟩
              exact ⟨ZR, zk, hzE, hzr, by omega, rfl, rfl⟩
            ·
              have hlt : zk < (outQ (Na 0) (q0 (Na 0) (Ia 21) (Na 22)) zk).2.2 := Nat.not_le.mp h52
              refine j_ws (wM g q (va_up (va_up Na 0 ZR) 22 ((inQ (Na 0) zk (outQ (Na 0) (q0 (Na 0) (Ia 21) (Na 22)) zk) 0).2.1)) (va_up Ia 21 ((inQ (Na 0) zk (outQ (Na 0) (q0 (Na 0) (Ia 21) (Na 22)) zk) 0).1)) (va_up Ns 23 ((inQ (Na 0) zk (outQ (Na 0) (q0 (Na 0) (Ia 21) (Na 22)) zk) 0).2.2)) Is) rfl ?_
              refine j_iconst (v := (0 : Int32)) 56 dX6_layFars_55 rfl (by decide) ?_
              refine j_istore_n 57 [(2, .int (0 : Int32)), (1, .int (nI zk)), (0, .ref (q 26))] dX6_layFars_56 rfl (by decide) rfl ?_
              have hL57 : ∀ (zm57 : Nat) (zb : Nat) (ZS : Nat → Nat), Na 0 3 - zb < zm57 → (eqB ZS (Na 0)) → (zb ≤ Na 0 3) → gJ g mX6_layFars 5 0 0 (fun k' j' rv ws' => k' ≤ 0 ∧ j' ≤ 0 ∧ (∃ (Z1 : Nat → Nat) (ZK : Nat), (eqB Z1 (Na 0)) ∧ (runQ (Na 0) (q0 (Na 0) (Ia 21) (Na 22)) ZK) ∧ ((outQ (Na 0) (q0 (Na 0) (Ia 21) (Na 22)) ZK).2.2 = ZK) ∧ rv = none ∧ ws' = (wM g q (va_up (va_up Na 0 Z1) 22 ((outQ (Na 0) (q0 (Na 0) (Ia 21) (Na 22)) ZK).2.1)) (va_up Ia 21 ((outQ (Na 0) (q0 (Na 0) (Ia 21) (Na 22)) ZK).1)) (va_up Ns 23 ((outQ (Na 0) (q0 (Na 0) (Ia 21) (Na 22)) ZK).2.2)) Is))) 0 0 57 [(2, .int (nI zb)), (1, .int (nI zk)), (0, .ref (q 26))] [] (wM g q (va_up (va_up Na 0 ZS) 22 ((inQ (Na 0) zk (outQ (Na 0) (q0 (Na 0) (Ia 21) (Na 22)) zk) zb).2.1)) (va_up Ia 21 ((inQ (Na 0) zk (outQ (Na 0) (q0 (Na 0) (Ia 21) (Na 22)) zk) zb).1)) (va_up Ns 23 ((inQ (Na 0) zk (outQ (Na 0) (q0 (Na 0) (Ia 21) (Na 22)) zk) zb).2.2)) Is) := by
                intro zm57
                induction zm57 with
                | zero => intro zb ZS zmh; exact absurd zmh (Nat.not_lt_zero _)
                | succ zm57 zih57 =>
                  intro zb ZS zmh57 hyE hyb
                  refine j_iload_n 58 dX6_layFars_57 rfl 0 rfl ?_
                  refine j_aload_n 59 dX6_layFars_58 rfl 2 rfl ?_
                  refine j_getf 62 0 dX6_layFars_59 rfl fd_X6_7 rfl rfl ?_
                  refine j_iconst (v := (3 : Int32)) 63 dX6_layFars_62 rfl (by decide) ?_
                  refine j_ialdN 3 64 1 dX6_layFars_63 rfl rfl (by decide) (by decide) ?_
                  refine j_topN (ZS 3) (Na 0 3) (hyE 3 (by decide)) ?_
                  refine j_icmp_geN zb (Na 0 3) 67 101 dX6_layFars_64 rfl rfl (by omega) (by have z0 := hp8; omega) (fun h64 => ?_) (fun h64 => ?_)
                  ·
                    have yb : zb = Na 0 3 := by omega
                    refine j_ws (wM g q (va_up (va_up Na 0 ZS) 22 ((outQ (Na 0) (q0 (Na 0) (Ia 21) (Na 22)) (zk + 1)).2.1)) (va_up Ia 21 ((outQ (Na 0) (q0 (Na 0) (Ia 21) (Na 22)) (zk + 1)).1)) (va_up Ns 23 ((outQ (Na 0) (q0 (Na 0) (Ia 21) (Na 22)) (zk + 1)).2.2)) Is) (by rw [yb]; rfl) ?_
                    refine j_iincN zk 1 104 [(1, .int (nI (zk + 1))), (2, .int (nI zb)), (0, .ref (q 26))] dX6_layFars_101 rfl 1 rfl (by decide) rfl ?_
                    refine j_goto 47 dX6_layFars_104 rfl ?_
                    refine j_lv [0, 2] rfl ?_
                    exact zih47 (zk + 1) ZS (by have := hok.1; omega) hyE (fun k hk => by rcases (show k < zk ∨ k = zk by omega) with y | y; exact hzr k y; rw [y]; exact hlt) (Nat.le_trans hlt (inQ_ok hokp hok hlt (Na 0 3)).2.2.2)
                  ·
                    obtain ⟨hi1, hi2, hi3, hi4⟩ := inQ_ok hokp hok hlt zb
                    have hob := hok.1
                    obtain ⟨hj1, hj2, zd, hj3, hj4⟩ := hi1.2.1 zk (by omega)
                    refine j_aload_n 68 dX6_layFars_67 rfl 2 rfl ?_
                    refine j_aload_n 69 dX6_layFars_68 rfl 2 rfl ?_
                    refine j_aload_n 70 dX6_layFars_69 rfl 2 rfl ?_
                    refine j_getf 73 0 dX6_layFars_70 rfl fd_X6_45 rfl rfl ?_
                    refine j_iload_n 74 dX6_layFars_73 rfl 1 rfl ?_
                    refine j_ialdN zk 75 11 dX6_layFars_74 rfl rfl (by omega) (by decide) ?_
                    refine j_iload_n 76 dX6_layFars_75 rfl 0 rfl ?_
                    refine j_callVX (rest := [.ref (q 26)]) 79 (c_X6_after g q (va_up (va_up Na 0 ZS) 22 ((inQ (Na 0) zk (outQ (Na 0) (q0 (Na 0) (Ia 21) (Na 22)) zk) zb).2.1)) (va_up Ia 21 ((inQ (Na 0) zk (outQ (Na 0) (q0 (Na 0) (Ia 21) (Na 22)) zk) zb).1)) (va_up Ns 23 ((inQ (Na 0) zk (outQ (Na 0) (q0 (Na 0) (Ia 21) (Na 22)) zk) zb).2.2)) Is (((inQ (Na 0) zk (outQ (Na 0) (q0 (Na 0) (Ia 21) (Na 22)) zk) zb).2.1) zk) zb  hst (okP_eq (eqB_P hyE) hokp) hj1 (by show _ < 2 ^ ZS 2; rw [hyE 2 (by decide)]; exact hj2) (by show zb < ZS 3; rw [hyE 3 (by decide)]; omega)) dX6_layFars_76 rfl cv_X6_241 rfl rfl 0 rfl rfl (gLe rfl) (gLe rfl) (gLe rfl) (gLe rfl) (fun rv w1 hp => ?_)
                    obtain ⟨Z1_1, hZ1_1, rfl, rfl⟩ := hp
                    refine ⟨(wM_len _ _ _ _ _ _ _ _ _ _), ?_⟩
                    refine j_eq (lv2 := [(2, .int (nI zb)), (1, .int (nI zk)), (0, .ref (q 26))]) (st2 := [.int (nI (nxN ZS (((inQ (Na 0) zk (outQ (Na 0) (q0 (Na 0) (Ia 21) (Na 22)) zk) zb).2.1) zk) zb)), .ref (q 26)]) (ws2 := (wM g q (va_up (va_up Na 0 Z1_1) 22 ((inQ (Na 0) zk (outQ (Na 0) (q0 (Na 0) (Ia 21) (Na 22)) zk) zb).2.1)) (va_up Ia 21 ((inQ (Na 0) zk (outQ (Na 0) (q0 (Na 0) (Ia 21) (Na 22)) zk) zb).1)) (va_up Ns 23 ((inQ (Na 0) zk (outQ (Na 0) (q0 (Na 0) (Ia 21) (Na 22)) zk) zb).2.2)) Is)) rfl rfl rfl ?_
                    refine j_topN (nxN ZS (((inQ (Na 0) zk (outQ (Na 0) (q0 (Na 0) (Ia 21) (Na 22)) zk) zb).2.1) zk) zb) (nxN (Na 0) ((inQ (Na 0) zk (outQ (Na 0) (q0 (Na 0) (Ia 21) (Na 22)) zk) zb).2.1 zk) zb) (nxN_eq hokp hyE (by omega)) ?_
                    refine j_aload_n 80 dX6_layFars_79 rfl 2 rfl ?_
                    refine j_getf 83 0 dX6_layFars_80 rfl fd_X6_42 rfl rfl ?_
                    refine j_aload_n 84 dX6_layFars_83 rfl 2 rfl ?_
                    refine j_getf 87 0 dX6_layFars_84 rfl fd_X6_45 rfl rfl ?_
                    refine j_iload_n 88 dX6_layFars_87 rfl 1 rfl ?_
                    refine j_ialdN zk 89 11 dX6_layFars_88 rfl rfl (by omega) (by decide) ?_
                    refine j_ialdR (((inQ (Na 0) zk (outQ (Na 0) (q0 (Na 0) (Ia 21) (Na 22)) zk) zb).2.1) zk) 90 10 dX6_layFars_89 rfl rfl hj1 (by decide) ?_
                    refine j_iconst (v := (1 : Int32)) 91 dX6_layFars_90 rfl (by decide) ?_
                    refine j_iadd 92 dX6_layFars_91 rfl ?_
                    refine j_callVW (rest := []) 95 (c_X6_put g q (va_up (va_up Na 0 Z1_1) 22 ((inQ (Na 0) zk (outQ (Na 0) (q0 (Na 0) (Ia 21) (Na 22)) zk) zb).2.1)) (va_up Ia 21 ((inQ (Na 0) zk (outQ (Na 0) (q0 (Na 0) (Ia 21) (Na 22)) zk) zb).1)) (va_up Ns 23 ((inQ (Na 0) zk (outQ (Na 0) (q0 (Na 0) (Ia 21) (Na 22)) zk) zb).2.2)) Is (nxN (Na 0) ((inQ (Na 0) zk (outQ (Na 0) (q0 (Na 0) (Ia 21) (Na 22)) zk) zb).2.1 zk) zb) ((((inQ (Na 0) zk (outQ (Na 0) (q0 (Na 0) (Ia 21) (Na 22)) zk) zb).1) (((inQ (Na 0) zk (outQ (Na 0) (q0 (Na 0) (Ia 21) (Na 22)) zk) zb).2.1) zk)) + (1 : Int32))  (nxN_ok hokp hj2).1 (fun y => okQ_room hi1 (nxN_ok hokp hj2).1 y)) [] dX6_layFars_92 rfl cv_X6_238 rfl rfl 0 rfl rfl (gLe rfl) (gLe rfl) (gLe rfl) (gLe rfl) (wM_len _ _ _ _ _ _ _ _ _ _) rfl ?_
                    refine j_ws (wM g q (va_up (va_up Na 0 Z1_1) 22 ((inQ (Na 0) zk (outQ (Na 0) (q0 (Na 0) (Ia 21) (Na 22)) zk) (zb + 1)).2.1)) (va_up Ia 21 ((inQ (Na 0) zk (outQ (Na 0) (q0 (Na 0) (Ia 21) (Na 22)) zk) (zb + 1)).1)) (va_up Ns 23 ((inQ (Na 0) zk (outQ (Na 0) (q0 (Na 0) (Ia 21) (Na 22)) zk) (zb + 1)).2.2)) Is) rfl ?_
                    refine j_iincN zb 1 98 [(2, .int (nI (zb + 1))), (1, .int (nI zk)), (0, .ref (q 26))] dX6_layFars_95 rfl 0 rfl (by decide) rfl ?_
                    refine j_goto 57 dX6_layFars_98 rfl ?_
                    refine j_lv [0, 1, 2] rfl ?_
                    exact zih57 (zb + 1) Z1_1 (by omega) (eqB_trans hZ1_1 hyE) (by omega)
              refine j_lv [0, 1, 2] rfl ?_
              exact hL57 _ 0 ZR (Nat.lt_succ_self _) hzE (Nat.zero_le _)
        refine j_lv [0, 1] rfl ?_
        exact hL47 _ 0 (va_cpy (Na 0) (Na 0) 0 174 58) (Nat.lt_succ_self _) eqB_cpy (fun k hk => absurd hk (Nat.not_lt_zero k)) (Nat.zero_le _)
      ·
        refine j_aload_n 10 dX6_layFars_9 rfl 1 rfl ?_
        refine j_getf 13 0 dX6_layFars_10 rfl fd_X6_42 rfl rfl ?_
        refine j_iload_n 14 dX6_layFars_13 rfl 0 rfl ?_
        refine j_ldc (v := (-1000000 : Int32)) 16 dX6_layFars_14 rfl wd_4_47 ?_
        refine j_iastR zi 17 10 (wM g q Na (va_up Ia 21 (upd (va_cpy (fun _ => -1000000) (Ia 21) 0 0 zi) zi (-1000000 : Int32))) Ns Is) dX6_layFars_16 rfl rfl (by omega) (by decide) rfl ?_
        refine j_ws (wM g q Na (va_up Ia 21 (va_cpy (fun _ => -1000000) (Ia 21) 0 0 (zi + 1))) Ns Is) (congrArg (fun z => wM g q Na (va_up Ia 21 z) Ns Is) (cpy_s0 (fun _ => (-1000000 : Int32)) _ 0 zi)) ?_
        refine j_iincN zi 1 20 [(1, .int (nI (zi + 1))), (0, .ref (q 26))] dX6_layFars_17 rfl 0 rfl (by decide) rfl ?_
        refine j_goto 2 dX6_layFars_20 rfl ?_
        refine j_lv [0, 1] rfl ?_
        exact zih2 (zi + 1) (by omega) (by omega)
  refine j_ws (wM g q Na (va_up Ia 21 (va_cpy (fun _ => -1000000) (Ia 21) 0 0 0)) Ns Is) (by rw [cpy_0]; rfl) ?_
  refine j_lv [0, 1] rfl ?_
  exact hL2 _ 0 (Nat.lt_succ_self _) (by omega)
