set_option maxRecDepth 20000 in
theorem c_X6_mixed (g : gG) (q : Nat → Nat) (Na : Nat → Nat → Nat) (Ia : Nat → Nat → Int32) (Ns : Nat → Nat) (Is : Nat → Int32) (r : Int32) (i : Int32) (n : Int32) (hI : RI (Na, Ia, Ns, Is)) : gCon g mX6_mixed 5 0 0 [.ref (q 26), .int r, .int i, .int n] (wS g q (Na, Ia, Ns, Is)) (fun rv ws' => ∃ S9 : RS, Gq S9 (pM_mixed r i n (Na, Ia, Ns, Is)).2 ∧ rv = some (.int (pM_mixed r i n (Na, Ia, Ns, Is)).1) ∧ ws' = wS g q S9) := by
  refine gCon.of (lv := [(0, .ref (q 26)), (1, .int r), (2, .int i), (3, .int n)]) (by decide) (gLe rfl) rfl ?_
  refine j_ws (wM g q Na Ia Ns Is) rfl ?_
  have h8 : Na 0 1 ≤ 6 ∧ Na 0 2 ≤ 5 ∧ Na 0 3 ≤ 8 ∧ Na 0 0 ≤ 1 := RI_3 hI
  have h40 : Na 0 40 < 32 ∧ (∀ j, j < 5 → Na 0 (41 + j) ≤ 9999) ∧ (∀ p, p < 6 → Na 0 (46 + p) ≤ 9999 ∧ Na 0 (52 + p) ≤ 989901) ∧ inP (Na 0) ≤ 9999 := RI_40 hI
  have hpm : Ns 2 ≤ 24 := hI.2.1
  have hsz : ∀ r, r < 8 → Na 8 r ≤ 40 := hI.2.2.2.2.2.2.2.1
  have htr : Ns 11 ≤ 16 := hI.2.2.2.2.2.2.2.2.1
  have hst : Is 12 = -1000000 := hI.2.2.2.2.2.2.2.2.2.1
  have htp : Ns 4 ≤ 400 := hI.2.2.2.2.1
  refine j_aload_n 1 dX6_mixed_0 rfl 0 rfl ?_
  refine j_getf 4 0 dX6_mixed_1 rfl fd_X6_7 rfl rfl ?_
  refine j_iconst (v := (0 : Int32)) 5 dX6_mixed_4 rfl (by decide) ?_
  refine j_ialdN 0 6 1 dX6_mixed_5 rfl rfl (by decide) (by decide) ?_
  refine j_if_neN ((Na 0) 0) 9 12 dX6_mixed_6 rfl rfl (by have z0 := h8.2.2.2; omega) (fun h6 => ?_) (fun h6 => ?_)
  ·
    refine j_iload_n 13 dX6_mixed_12 rfl 1 rfl ?_
    refine j_callSE (rest := []) 16 (c_isR g r) [.int (gB (inR r 8))] dX6_mixed_13 rfl cs_X6_65 rfl rfl (gLe rfl) (gLe rfl) (gLe rfl) (gLe rfl) rfl ?_
    refine j_if_eqB 19 31 dX6_mixed_16 rfl rfl (fun h16 => ?_) (fun h16 => ?_)
    ·
      refine j_ldc (v := (-1000001 : Int32)) 33 dX6_mixed_31 rfl wd_4_140 ?_
      refine j_iretI dX6_mixed_33 rfl ⟨gLe rfl, gLe rfl, ?_⟩
      have ze : (pM_mixed r i n (Na, Ia, Ns, Is)) = ((-1000001 : Int32), (Na, Ia, Ns, Is)) := by
        rw [pM_mixed, if_neg h6, if_pos (by first | exact Or.inl h16 | exact Or.inr h28)]
      exact ⟨(Na, Ia, Ns, Is), by rw [ze]; exact ⟨(fun k _ => rfl), ⟨rfl, rfl, rfl, rfl⟩, ⟨rfl, rfl⟩, ⟨rfl, rfl, rfl, rfl, rfl⟩, rfl⟩, congrArg (fun z : Int32 × RS => some (Value.int z.1)) ze.symm, rfl⟩
    ·
      refine j_iload_n 20 dX6_mixed_19 rfl 3 rfl ?_
      refine j_i2l 21 dX6_mixed_20 rfl ?_
      refine j_lconst (v := 0) 22 dX6_mixed_21 rfl (by decide) ?_
      refine j_ldc2 (v := (24 : Int64)) 25 dX6_mixed_22 rfl wd_5_48 ?_
      refine j_callSE (rest := []) 28 (c_inR g n 25 (24 : Int64) (24 : Int32) ⟨by decide, by decide⟩) [.int (gB (inR n 25))] dX6_mixed_25 rfl cs_X6_61 rfl rfl (gLe rfl) (gLe rfl) (gLe rfl) (gLe rfl) rfl ?_
      refine j_if_neB 31 34 dX6_mixed_28 rfl rfl (fun h28 => ?_) (fun h28 => ?_)
      ·
        obtain ⟨zr, hzr, rfl⟩ := inR_of h16
        obtain ⟨zn, hzn, rfl⟩ := inR_of h28
        have hq1 := RI_P hI (Or.inr (Or.inr (Or.inr h6)))
        have hokp : okP (Na 0) := hq1.2.1
        have hs40 : Na 0 40 < 2 ^ Na 0 2 := hq1.2.2.1
        have hum : ∀ k, uM (Na 0) 0 k ≤ 9999 := by
          intro k
          by_cases hk : k < 5
          · rw [uM_at hk, show 0 + 41 + k = 41 + k by omega]; exact h40.2.1 k hk
          · rw [Z5_uM _ _ k (by omega)]; exact Nat.zero_le _
        refine j_aload_n 35 dX6_mixed_34 rfl 0 rfl ?_
        refine j_iload_n 36 dX6_mixed_35 rfl 1 rfl ?_
        refine j_iload_n 37 dX6_mixed_36 rfl 2 rfl ?_
        refine j_iload_n 38 dX6_mixed_37 rfl 3 rfl ?_
        refine j_callVW (rest := []) 41 (c_X6_refused g q Na Ia Ns Is zr i (nI zn)  (by omega) (by have := hsz zr hzr; omega)) [.int (fndA (rfK ((Ia 7) zr) ((Na 8) zr) i (nI zn)))] dX6_mixed_38 rfl cv_X6_205 rfl rfl 0 rfl rfl (gLe rfl) (gLe rfl) (gLe rfl) (gLe rfl) (wM_len _ _ _ _ _ _ _ _ _ _) rfl ?_
        refine j_istore 43 [(4, .int (fndA (rfK ((Ia 7) zr) ((Na 8) zr) i (nI zn)))), (0, .ref (q 26)), (1, .int (nI zr)), (2, .int i), (3, .int (nI zn))] dX6_mixed_41 rfl (by decide) rfl ?_
        refine j_iload 45 dX6_mixed_43 rfl 0 rfl ?_
        refine j_if_eq 48 51 dX6_mixed_45 rfl rfl (fun h45 => ?_) (fun h45 => ?_)
        ·
          have hrf := (fndA_0 rfK_le).mp h45
          have hsp := (rfK_0 hrf).2
          have hszr := hsz zr hzr
          refine j_ws (wM g q Na Ia Ns Is) (by rw [hrf]; rfl) ?_
          obtain ⟨zj, hzj, rfl⟩ := spn_of (by omega) hsp
          refine j_aload_n 52 dX6_mixed_51 rfl 1 rfl ?_
          refine j_bipush (v := (40 : Int32)) 54 dX6_mixed_52 rfl (by decide) ?_
          refine j_iload_n 55 dX6_mixed_54 rfl 2 rfl ?_
          refine j_imulN 40 zr 56 dX6_mixed_55 rfl ?_
          refine j_iload_n 57 dX6_mixed_56 rfl 3 rfl ?_
          refine j_iaddN (40 * zr) zj 58 dX6_mixed_57 rfl ?_
          refine j_iload_n 59 dX6_mixed_58 rfl 4 rfl ?_
          refine j_callVW (rest := []) 62 (c_X6_areBeasts g q Na Ia Ns Is ((40 * zr) + zj) zn  (by omega) (by omega)) [.int (gB (areB (Ia 9) ((40 * zr) + zj) zn ((Na 0) 3)))] dX6_mixed_59 rfl cv_X6_208 rfl rfl 0 rfl rfl (gLe rfl) (gLe rfl) (gLe rfl) (gLe rfl) (wM_len _ _ _ _ _ _ _ _ _ _) rfl ?_
          refine j_if_neB 65 68 dX6_mixed_62 rfl rfl (fun h62 => ?_) (fun h62 => ?_)
          ·
            have hAr : areB (Ia 9) (40 * zr + zj) zn (Na 0 3) := h62
            refine j_aload_n 69 dX6_mixed_68 rfl 1 rfl ?_
            refine j_iconst (v := (0 : Int32)) 70 dX6_mixed_69 rfl (by decide) ?_
            refine j_sipush (v := (174 : Int32)) 73 dX6_mixed_70 rfl (by decide) ?_
            refine j_callVW (rest := []) 76 (c_X6_copyRow g q Na Ia Ns Is 0 174  (by decide) (by decide) (by decide)) [] dX6_mixed_73 rfl cv_X6_224 rfl rfl 0 rfl rfl (gLe rfl) (gLe rfl) (gLe rfl) (gLe rfl) (wM_len _ _ _ _ _ _ _ _ _ _) rfl ?_
            refine j_aload_n 77 dX6_mixed_76 rfl 1 rfl ?_
            refine j_bipush (v := (40 : Int32)) 79 dX6_mixed_77 rfl (by decide) ?_
            refine j_iload_n 80 dX6_mixed_79 rfl 2 rfl ?_
            refine j_imulN 40 zr 81 dX6_mixed_80 rfl ?_
            refine j_iload_n 82 dX6_mixed_81 rfl 3 rfl ?_
            refine j_iaddN (40 * zr) zj 83 dX6_mixed_82 rfl ?_
            refine j_iload_n 84 dX6_mixed_83 rfl 4 rfl ?_
            refine j_callVX (rest := []) 87 (c_X6_layPens g q (va_up Na 0 (va_cpy (Na 0) (Na 0) 0 174 58)) Ia Ns Is ((40 * zr) + zj) zn  hst (okP_eq (eqB_P eqB_cpy) hokp) (by show va_cpy (Na 0) (Na 0) 0 174 58 214 < 2 ^ va_cpy (Na 0) (Na 0) 0 174 58 2; rw [cp0_214, cpy_out (by omega)]; exact hs40) (by show ∀ k, uM (va_cpy (Na 0) (Na 0) 0 174 58) 174 k ≤ 100000; rw [cp0_uM]; exact fun k => Nat.le_trans (hum k) (by decide)) (by omega) (by omega) (by show areB (Ia 9) _ _ (va_cpy (Na 0) (Na 0) 0 174 58 3); rw [cpy_out (by omega)]; exact hAr)) dX6_mixed_84 rfl cv_X6_260 rfl rfl 0 rfl rfl (gLe rfl) (gLe rfl) (gLe rfl) (gLe rfl) (fun rv w1 hp => ?_)
            obtain ⟨Z1_1, hZ1_1, rfl, rfl⟩ := hp
            refine ⟨(wM_len _ _ _ _ _ _ _ _ _ _), ?_⟩
            refine j_eq (lv2 := [(4, .int (fndA (rfK ((Ia 7) zr) ((Na 8) zr) (nI zj) (nI zn)))), (0, .ref (q 26)), (1, .int (nI zr)), (2, .int (nI zj)), (3, .int (nI zn))]) (st2 := []) (ws2 := (wM g q (va_up (va_up Na 0 Z1_1) 25 (va_cpy (pnA (va_cpy (Na 0) (Na 0) 0 174 58) (Ia 9) ((40 * zr) + zj) ((va_cpy (Na 0) (Na 0) 0 174 58) 214) (uM (va_cpy (Na 0) (Na 0) 0 174 58) 174)) (Na 25) 0 0 zn)) Ia Ns Is)) rfl rfl rfl ?_
            have hz1E : eqB Z1_1 (Na 0) := eqB_trans hZ1_1 eqB_cpy
            refine j_ws (wM g q (va_up (va_up Na 0 Z1_1) 25 (va_cpy (pnA (Na 0) (Ia 9) (40 * zr + zj) (Na 0 40) (uM (Na 0) 0)) (Na 25) 0 0 zn)) Ia Ns Is) (congrArg (fun z => wM g q (va_up (va_up Na 0 Z1_1) 25 z) Ia Ns Is) (cpy_ext (fun j hj => by show pnA (va_cpy (Na 0) (Na 0) 0 174 58) (Ia 9) (40 * zr + zj) (va_cpy (Na 0) (Na 0) 0 174 58 214) (uM (va_cpy (Na 0) (Na 0) 0 174 58) 174) j = _; rw [cp0_214, cp0_uM]; exact pnA_eq hokp eqB_cpy (fun k hk => areB_cl hAr (by omega) k (by omega))))) ?_
            have hpn : ∀ k, (pnA (Na 0) (Ia 9) (40 * zr + zj) (Na 0 40) (uM (Na 0) 0)) k < Na 0 1 := pnA_lt hokp (it := Ia 9) (base := 40 * zr + zj) hs40 (Z5_uM (Na 0) 0) hum
            refine j_iconst (v := (0 : Int32)) 88 dX6_mixed_87 rfl (by decide) ?_
            refine j_istore 90 [(5, .int (0 : Int32)), (4, .int (fndA (rfK ((Ia 7) zr) ((Na 8) zr) (nI zj) (nI zn)))), (0, .ref (q 26)), (1, .int (nI zr)), (2, .int (nI zj)), (3, .int (nI zn))] dX6_mixed_88 rfl (by decide) rfl ?_
            refine j_iconst (v := (0 : Int32)) 91 dX6_mixed_90 rfl (by decide) ?_
            refine j_istore 93 [(6, .int (0 : Int32)), (5, .int (0 : Int32)), (4, .int (fndA (rfK ((Ia 7) zr) ((Na 8) zr) (nI zj) (nI zn)))), (0, .ref (q 26)), (1, .int (nI zr)), (2, .int (nI zj)), (3, .int (nI zn))] dX6_mixed_91 rfl (by decide) rfl ?_
            have hL93 : ∀ (zm93 : Nat) (zi : Nat), zn - zi < zm93 → (zi ≤ zn) → gJ g mX6_mixed 5 0 0 (fun k' j' rv ws' => k' ≤ 0 ∧ j' ≤ 0 ∧ (∃ S9 : RS, Gq S9 (pM_mixed (nI zr) (nI zj) (nI zn) (Na, Ia, Ns, Is)).2 ∧ rv = some (.int (pM_mixed (nI zr) (nI zj) (nI zn) (Na, Ia, Ns, Is)).1) ∧ ws' = wS g q S9)) 0 0 93 [(6, .int (nI zi)), (5, .int (nI (mxK (kdA (Na 0) (Ia 9) (40 * zr + zj)) (pnA (Na 0) (Ia 9) (40 * zr + zj) (Na 0 40) (uM (Na 0) 0)) zi))), (0, .ref (q 26)), (1, .int (nI zr)), (2, .int (nI zj)), (3, .int (nI zn))] [] (wM g q (va_up (va_up Na 0 Z1_1) 25 (va_cpy (pnA (Na 0) (Ia 9) (40 * zr + zj) (Na 0 40) (uM (Na 0) 0)) (Na 25) 0 0 zn)) Ia Ns Is) := by
              intro zm93
              induction zm93 with
              | zero => intro zi zmh; exact absurd zmh (Nat.not_lt_zero _)
              | succ zm93 zih93 =>
                intro zi zmh93 hz
                refine j_iload 95 dX6_mixed_93 rfl 0 rfl ?_
                refine j_iload_n 96 dX6_mixed_95 rfl 5 rfl ?_
                refine j_icmp_geN zi zn 99 219 dX6_mixed_96 rfl rfl (by omega) (by omega) (fun h96 => ?_) (fun h96 => ?_)
                ·
                  refine j_aload_n 220 dX6_mixed_219 rfl 2 rfl ?_
                  refine j_iload 222 dX6_mixed_220 rfl 1 rfl ?_
                  refine j_callVW (rest := []) 225 (c_X6_give g q (va_up (va_up Na 0 Z1_1) 25 (va_cpy (pnA (Na 0) (Ia 9) (40 * zr + zj) (Na 0 40) (uM (Na 0) 0)) (Na 25) 0 0 zn)) Ia Ns Is (nI (mxK (kdA (Na 0) (Ia 9) (40 * zr + zj)) (pnA (Na 0) (Ia 9) (40 * zr + zj) (Na 0 40) (uM (Na 0) 0)) zi))  ) [.int (nI (mxK (kdA (Na 0) (Ia 9) (40 * zr + zj)) (pnA (Na 0) (Ia 9) (40 * zr + zj) (Na 0 40) (uM (Na 0) 0)) zi))] dX6_mixed_222 rfl cv_X6_76 rfl rfl 0 rfl rfl (gLe rfl) (gLe rfl) (gLe rfl) (gLe rfl) (wM_len _ _ _ _ _ _ _ _ _ _) rfl ?_
                  refine j_iretI dX6_mixed_225 rfl ⟨gLe rfl, gLe rfl, ?_⟩
                  have ze : (pM_mixed (nI zr) (nI zj) (nI zn) (Na, Ia, Ns, Is)) = ((nI (mxK (kdA (Na 0) (Ia 9) (40 * zr + zj)) (pnA (Na 0) (Ia 9) (40 * zr + zj) (Na 0 40) (uM (Na 0) 0)) zi)), (Na, Ia, va_up Ns 6 0, Is)) := by
                    have ye : zi = zn := by omega
                    subst ye
                    have yr : rfW (nI zr) (nI zj) (nI zi) (Na, Ia, Ns, Is) = 0 := by
                      rw [rfW, cl_nI (by omega)]; exact hrf
                    rw [pM_mixed, if_neg h6, if_neg (fun z => z.elim (fun z => z h16) (fun z => z h28)), yr, if_neg (fun z => z rfl), cl_nI (by omega), cl_nI (by omega), cl_nI (by omega), if_neg (fun z => z h62)]
                    rfl
                  exact ⟨((va_up (va_up Na 0 Z1_1) 25 (va_cpy (pnA (Na 0) (Ia 9) (40 * zr + zj) (Na 0 40) (uM (Na 0) 0)) (Na 25) 0 0 zn)), Ia, (va_up Ns 6 0), Is), by rw [ze]; exact ⟨hz1E, ⟨rfl, rfl, rfl, rfl⟩, ⟨rfl, rfl⟩, ⟨rfl, rfl, rfl, rfl, rfl⟩, rfl⟩, congrArg (fun z : Int32 × RS => some (Value.int z.1)) ze.symm, rfl⟩
                ·
                  refine j_iconst (v := (0 : Int32)) 100 dX6_mixed_99 rfl (by decide) ?_
                  refine j_istore 102 [(7, .int (0 : Int32)), (6, .int (nI zi)), (5, .int (nI (mxK (kdA (Na 0) (Ia 9) (40 * zr + zj)) (pnA (Na 0) (Ia 9) (40 * zr + zj) (Na 0 40) (uM (Na 0) 0)) zi))), (0, .ref (q 26)), (1, .int (nI zr)), (2, .int (nI zj)), (3, .int (nI zn))] dX6_mixed_100 rfl (by decide) rfl ?_
                  have hL102 : ∀ (zm102 : Nat) (zo : Nat), zi - zo < zm102 → (zo ≤ zi) → gJ g mX6_mixed 5 0 0 (fun k' j' rv ws' => k' ≤ 0 ∧ j' ≤ 0 ∧ (∃ S9 : RS, Gq S9 (pM_mixed (nI zr) (nI zj) (nI zn) (Na, Ia, Ns, Is)).2 ∧ rv = some (.int (pM_mixed (nI zr) (nI zj) (nI zn) (Na, Ia, Ns, Is)).1) ∧ ws' = wS g q S9)) 0 0 102 [(7, .int (nI zo)), (6, .int (nI zi)), (5, .int (nI (mxO (kdA (Na 0) (Ia 9) (40 * zr + zj)) (pnA (Na 0) (Ia 9) (40 * zr + zj) (Na 0 40) (uM (Na 0) 0)) zi zo (mxK (kdA (Na 0) (Ia 9) (40 * zr + zj)) (pnA (Na 0) (Ia 9) (40 * zr + zj) (Na 0 40) (uM (Na 0) 0)) zi)))), (0, .ref (q 26)), (1, .int (nI zr)), (2, .int (nI zj)), (3, .int (nI zn))] [] (wM g q (va_up (va_up Na 0 Z1_1) 25 (va_cpy (pnA (Na 0) (Ia 9) (40 * zr + zj) (Na 0 40) (uM (Na 0) 0)) (Na 25) 0 0 zn)) Ia Ns Is) := by
                    intro zm102
                    induction zm102 with
                    | zero => intro zo zmh; exact absurd zmh (Nat.not_lt_zero _)
                    | succ zm102 zih102 =>
                      intro zo zmh102 hzo
                      refine j_iload 104 dX6_mixed_102 rfl 0 rfl ?_
                      refine j_iload 106 dX6_mixed_104 rfl 1 rfl ?_
                      refine j_icmp_geN zo zi 109 213 dX6_mixed_106 rfl rfl (by omega) (by omega) (fun h106 => ?_) (fun h106 => ?_)
                      ·
                        have yo : zo = zi := by omega
                        refine j_lvs [(7, .int (nI zo)), (6, .int (nI zi)), (5, .int (nI (mxK (kdA (Na 0) (Ia 9) (40 * zr + zj)) (pnA (Na 0) (Ia 9) (40 * zr + zj) (Na 0 40) (uM (Na 0) 0)) (zi + 1)))), (0, .ref (q 26)), (1, .int (nI zr)), (2, .int (nI zj)), (3, .int (nI zn))] (by rw [yo]; rfl) ?_
                        refine j_iincN zi 1 216 [(6, .int (nI (zi + 1))), (7, .int (nI zo)), (5, .int (nI (mxK (kdA (Na 0) (Ia 9) (40 * zr + zj)) (pnA (Na 0) (Ia 9) (40 * zr + zj) (Na 0 40) (uM (Na 0) 0)) (zi + 1)))), (0, .ref (q 26)), (1, .int (nI zr)), (2, .int (nI zj)), (3, .int (nI zn))] dX6_mixed_213 rfl 1 rfl (by decide) rfl ?_
                        refine j_goto 93 dX6_mixed_216 rfl ?_
                        refine j_lv [0, 2, 3, 4, 5, 6] rfl ?_
                        exact zih93 (zi + 1) (by omega) (by omega)
                      ·
                        have hbt_zi : Ia 9 (40 * zr + zj + zi) = nI (cl (Ia 9 (40 * zr + zj + zi))) ∧ cl (Ia 9 (40 * zr + zj + zi)) < Na 0 3 := inR_cl (h62 zi (by omega)) (by omega)
                        have hbt_zo : Ia 9 (40 * zr + zj + zo) = nI (cl (Ia 9 (40 * zr + zj + zo))) ∧ cl (Ia 9 (40 * zr + zj + zo)) < Na 0 3 := inR_cl (h62 zo (by omega)) (by omega)
                        refine j_aload_n 110 dX6_mixed_109 rfl 3 rfl ?_
                        refine j_getf 113 0 dX6_mixed_110 rfl fd_X6_7 rfl rfl ?_
                        refine j_bipush (v := (24 : Int32)) 115 dX6_mixed_113 rfl (by decide) ?_
                        refine j_iconst (v := (2 : Int32)) 116 dX6_mixed_115 rfl (by decide) ?_
                        refine j_aload_n 117 dX6_mixed_116 rfl 3 rfl ?_
                        refine j_getf 120 0 dX6_mixed_117 rfl fd_X6_26 rfl rfl ?_
                        refine j_bipush (v := (40 : Int32)) 122 dX6_mixed_120 rfl (by decide) ?_
                        refine j_iload_n 123 dX6_mixed_122 rfl 4 rfl ?_
                        refine j_imulN 40 zr 124 dX6_mixed_123 rfl ?_
                        refine j_iload_n 125 dX6_mixed_124 rfl 5 rfl ?_
                        refine j_iaddN (40 * zr) zj 126 dX6_mixed_125 rfl ?_
                        refine j_iload 128 dX6_mixed_126 rfl 1 rfl ?_
                        refine j_iaddN ((40 * zr) + zj) zi 129 dX6_mixed_128 rfl ?_
                        refine j_ialdR (((40 * zr) + zj) + zi) 130 6 dX6_mixed_129 rfl rfl (by omega) (by decide) ?_
                        refine j_topI ((Ia 9) (((40 * zr) + zj) + zi)) (nI (cl (Ia 9 (40 * zr + zj + zi)))) hbt_zi.1 ?_
                        refine j_imulN 2 (cl (Ia 9 (40 * zr + zj + zi))) 131 dX6_mixed_130 rfl ?_
                        refine j_iaddN 24 (2 * (cl (Ia 9 (40 * zr + zj + zi)))) 132 dX6_mixed_131 rfl ?_
                        refine j_ialdN (24 + (2 * (cl (Ia 9 (40 * zr + zj + zi))))) 133 1 dX6_mixed_132 rfl rfl (by have z0 := hbt_zi.2; omega) (by decide) ?_
                        refine j_topN (Z1_1 (24 + (2 * (cl (Ia 9 (40 * zr + zj + zi)))))) ((kdA (Na 0) (Ia 9) (40 * zr + zj)) zi) (hz1E _ (by have := hbt_zi.2; omega)) ?_
                        refine j_aload_n 134 dX6_mixed_133 rfl 3 rfl ?_
                        refine j_getf 137 0 dX6_mixed_134 rfl fd_X6_7 rfl rfl ?_
                        refine j_bipush (v := (24 : Int32)) 139 dX6_mixed_137 rfl (by decide) ?_
                        refine j_iconst (v := (2 : Int32)) 140 dX6_mixed_139 rfl (by decide) ?_
                        refine j_aload_n 141 dX6_mixed_140 rfl 3 rfl ?_
                        refine j_getf 144 0 dX6_mixed_141 rfl fd_X6_26 rfl rfl ?_
                        refine j_bipush (v := (40 : Int32)) 146 dX6_mixed_144 rfl (by decide) ?_
                        refine j_iload_n 147 dX6_mixed_146 rfl 4 rfl ?_
                        refine j_imulN 40 zr 148 dX6_mixed_147 rfl ?_
                        refine j_iload_n 149 dX6_mixed_148 rfl 5 rfl ?_
                        refine j_iaddN (40 * zr) zj 150 dX6_mixed_149 rfl ?_
                        refine j_iload 152 dX6_mixed_150 rfl 0 rfl ?_
                        refine j_iaddN ((40 * zr) + zj) zo 153 dX6_mixed_152 rfl ?_
                        refine j_ialdR (((40 * zr) + zj) + zo) 154 6 dX6_mixed_153 rfl rfl (by omega) (by decide) ?_
                        refine j_topI ((Ia 9) (((40 * zr) + zj) + zo)) (nI (cl (Ia 9 (40 * zr + zj + zo)))) hbt_zo.1 ?_
                        refine j_imulN 2 (cl (Ia 9 (40 * zr + zj + zo))) 155 dX6_mixed_154 rfl ?_
                        refine j_iaddN 24 (2 * (cl (Ia 9 (40 * zr + zj + zo)))) 156 dX6_mixed_155 rfl ?_
                        refine j_ialdN (24 + (2 * (cl (Ia 9 (40 * zr + zj + zo))))) 157 1 dX6_mixed_156 rfl rfl (by have z0 := hbt_zo.2; omega) (by decide) ?_
                        refine j_topN (Z1_1 (24 + (2 * (cl (Ia 9 (40 * zr + zj + zo)))))) ((kdA (Na 0) (Ia 9) (40 * zr + zj)) zo) (hz1E _ (by have := hbt_zo.2; omega)) ?_
                        refine j_icmp_eqN ((kdA (Na 0) (Ia 9) (40 * zr + zj)) zi) ((kdA (Na 0) (Ia 9) (40 * zr + zj)) zo) 160 164 dX6_mixed_157 rfl rfl (by have z0 := (show (kdA (Na 0) (Ia 9) (40 * zr + zj)) zi ≤ 5 from (okP_k hokp hbt_zi.2).2); omega) (by have z0 := (show (kdA (Na 0) (Ia 9) (40 * zr + zj)) zo ≤ 5 from (okP_k hokp hbt_zo.2).2); omega) (fun h157 => ?_) (fun h157 => ?_)
                        ·
                          refine j_iconst (v := (0 : Int32)) 165 dX6_mixed_164 rfl (by decide) ?_
                          refine j_istore 167 [(8, .int (0 : Int32)), (7, .int (nI zo)), (6, .int (nI zi)), (5, .int (nI (mxO (kdA (Na 0) (Ia 9) (40 * zr + zj)) (pnA (Na 0) (Ia 9) (40 * zr + zj) (Na 0 40) (uM (Na 0) 0)) zi zo (mxK (kdA (Na 0) (Ia 9) (40 * zr + zj)) (pnA (Na 0) (Ia 9) (40 * zr + zj) (Na 0 40) (uM (Na 0) 0)) zi)))), (0, .ref (q 26)), (1, .int (nI zr)), (2, .int (nI zj)), (3, .int (nI zn))] dX6_mixed_165 rfl (by decide) rfl ?_
                          refine j_iload 169 dX6_mixed_167 rfl 3 rfl ?_
                          refine j_iload 171 dX6_mixed_169 rfl 0 rfl ?_
                          refine j_if_eqN 0 174 203 dX6_mixed_171 rfl rfl (by decide) (fun h171 => ?_) (fun h171 => absurd h171 (by decide))
                          refine j_iconst (v := (0 : Int32)) 204 dX6_mixed_203 rfl (by decide) ?_
                          refine j_iorN (mxO (kdA (Na 0) (Ia 9) (40 * zr + zj)) (pnA (Na 0) (Ia 9) (40 * zr + zj) (Na 0 40) (uM (Na 0) 0)) zi zo (mxK (kdA (Na 0) (Ia 9) (40 * zr + zj)) (pnA (Na 0) (Ia 9) (40 * zr + zj) (Na 0 40) (uM (Na 0) 0)) zi)) 0 205 dX6_mixed_204 rfl ?_
                          refine j_topN ((mxO (kdA (Na 0) (Ia 9) (40 * zr + zj)) (pnA (Na 0) (Ia 9) (40 * zr + zj) (Na 0 40) (uM (Na 0) 0)) zi zo (mxK (kdA (Na 0) (Ia 9) (40 * zr + zj)) (pnA (Na 0) (Ia 9) (40 * zr + zj) (Na 0 40) (uM (Na 0) 0)) zi)) ||| 0) (mxO (kdA (Na 0) (Ia 9) (40 * zr + zj)) (pnA (Na 0) (Ia 9) (40 * zr + zj) (Na 0 40) (uM (Na 0) 0)) zi (zo + 1) (mxK (kdA (Na 0) (Ia 9) (40 * zr + zj)) (pnA (Na 0) (Ia 9) (40 * zr + zj) (Na 0 40) (uM (Na 0) 0)) zi)) (congrArg (fun z => mxO (kdA (Na 0) (Ia 9) (40 * zr + zj)) (pnA (Na 0) (Ia 9) (40 * zr + zj) (Na 0 40) (uM (Na 0) 0)) zi zo (mxK (kdA (Na 0) (Ia 9) (40 * zr + zj)) (pnA (Na 0) (Ia 9) (40 * zr + zj) (Na 0 40) (uM (Na 0) 0)) zi) ||| z) (if_neg (by first | exact fun z => z.1 h157 | exact fun z => h188 z.2)).symm) ?_
                          refine j_istore 207 [(5, .int (nI (mxO (kdA (Na 0) (Ia 9) (40 * zr + zj)) (pnA (Na 0) (Ia 9) (40 * zr + zj) (Na 0 40) (uM (Na 0) 0)) zi (zo + 1) (mxK (kdA (Na 0) (Ia 9) (40 * zr + zj)) (pnA (Na 0) (Ia 9) (40 * zr + zj) (Na 0 40) (uM (Na 0) 0)) zi)))), (8, .int (0 : Int32)), (7, .int (nI zo)), (6, .int (nI zi)), (0, .ref (q 26)), (1, .int (nI zr)), (2, .int (nI zj)), (3, .int (nI zn))] dX6_mixed_205 rfl (by decide) rfl ?_
                          refine j_iincN zo 1 210 [(7, .int (nI (zo + 1))), (5, .int (nI (mxO (kdA (Na 0) (Ia 9) (40 * zr + zj)) (pnA (Na 0) (Ia 9) (40 * zr + zj) (Na 0 40) (uM (Na 0) 0)) zi (zo + 1) (mxK (kdA (Na 0) (Ia 9) (40 * zr + zj)) (pnA (Na 0) (Ia 9) (40 * zr + zj) (Na 0 40) (uM (Na 0) 0)) zi)))), (8, .int (0 : Int32)), (6, .int (nI zi)), (0, .ref (q 26)), (1, .int (nI zr)), (2, .int (nI zj)), (3, .int (nI zn))] dX6_mixed_207 rfl 2 rfl (by decide) rfl ?_
                          refine j_goto 102 dX6_mixed_210 rfl ?_
                          refine j_lv [0, 3, 1, 4, 5, 6, 7] rfl ?_
                          exact zih102 (zo + 1) (by omega) (by omega)
                        ·
                          refine j_iconst (v := (1 : Int32)) 161 dX6_mixed_160 rfl (by decide) ?_
                          refine j_goto 165 dX6_mixed_161 rfl ?_
                          refine j_istore 167 [(8, .int (1 : Int32)), (7, .int (nI zo)), (6, .int (nI zi)), (5, .int (nI (mxO (kdA (Na 0) (Ia 9) (40 * zr + zj)) (pnA (Na 0) (Ia 9) (40 * zr + zj) (Na 0 40) (uM (Na 0) 0)) zi zo (mxK (kdA (Na 0) (Ia 9) (40 * zr + zj)) (pnA (Na 0) (Ia 9) (40 * zr + zj) (Na 0 40) (uM (Na 0) 0)) zi)))), (0, .ref (q 26)), (1, .int (nI zr)), (2, .int (nI zj)), (3, .int (nI zn))] dX6_mixed_165 rfl (by decide) rfl ?_
                          refine j_iload 169 dX6_mixed_167 rfl 3 rfl ?_
                          refine j_iload 171 dX6_mixed_169 rfl 0 rfl ?_
                          refine j_if_eqN 1 174 203 dX6_mixed_171 rfl rfl (by decide) (fun h171 => absurd h171 (by decide)) (fun h171 => ?_)
                          refine j_aload_n 175 dX6_mixed_174 rfl 4 rfl ?_
                          refine j_getf 178 0 dX6_mixed_175 rfl fd_X6_52 rfl rfl ?_
                          refine j_iload 180 dX6_mixed_178 rfl 2 rfl ?_
                          refine j_ialdN zi 181 13 dX6_mixed_180 rfl rfl (by omega) (by decide) ?_
                          refine j_topN ((va_cpy (pnA (Na 0) (Ia 9) (40 * zr + zj) (Na 0 40) (uM (Na 0) 0)) (Na 25) 0 0 zn) zi) ((pnA (Na 0) (Ia 9) (40 * zr + zj) (Na 0 40) (uM (Na 0) 0)) zi) (by rw [cpy_in (by omega) (by omega), Nat.zero_add, Nat.sub_zero]) ?_
                          refine j_aload_n 182 dX6_mixed_181 rfl 4 rfl ?_
                          refine j_getf 185 0 dX6_mixed_182 rfl fd_X6_52 rfl rfl ?_
                          refine j_iload 187 dX6_mixed_185 rfl 1 rfl ?_
                          refine j_ialdN zo 188 13 dX6_mixed_187 rfl rfl (by omega) (by decide) ?_
                          refine j_topN ((va_cpy (pnA (Na 0) (Ia 9) (40 * zr + zj) (Na 0 40) (uM (Na 0) 0)) (Na 25) 0 0 zn) zo) ((pnA (Na 0) (Ia 9) (40 * zr + zj) (Na 0 40) (uM (Na 0) 0)) zo) (by rw [cpy_in (by omega) (by omega), Nat.zero_add, Nat.sub_zero]) ?_
                          refine j_icmp_neN ((pnA (Na 0) (Ia 9) (40 * zr + zj) (Na 0 40) (uM (Na 0) 0)) zi) ((pnA (Na 0) (Ia 9) (40 * zr + zj) (Na 0 40) (uM (Na 0) 0)) zo) 191 203 dX6_mixed_188 rfl rfl (by have z0 := hpn zi; omega) (by have z0 := hpn zo; omega) (fun h188 => ?_) (fun h188 => ?_)
                          ·
                            refine j_iconst (v := (0 : Int32)) 204 dX6_mixed_203 rfl (by decide) ?_
                            refine j_iorN (mxO (kdA (Na 0) (Ia 9) (40 * zr + zj)) (pnA (Na 0) (Ia 9) (40 * zr + zj) (Na 0 40) (uM (Na 0) 0)) zi zo (mxK (kdA (Na 0) (Ia 9) (40 * zr + zj)) (pnA (Na 0) (Ia 9) (40 * zr + zj) (Na 0 40) (uM (Na 0) 0)) zi)) 0 205 dX6_mixed_204 rfl ?_
                            refine j_topN ((mxO (kdA (Na 0) (Ia 9) (40 * zr + zj)) (pnA (Na 0) (Ia 9) (40 * zr + zj) (Na 0 40) (uM (Na 0) 0)) zi zo (mxK (kdA (Na 0) (Ia 9) (40 * zr + zj)) (pnA (Na 0) (Ia 9) (40 * zr + zj) (Na 0 40) (uM (Na 0) 0)) zi)) ||| 0) (mxO (kdA (Na 0) (Ia 9) (40 * zr + zj)) (pnA (Na 0) (Ia 9) (40 * zr + zj) (Na 0 40) (uM (Na 0) 0)) zi (zo + 1) (mxK (kdA (Na 0) (Ia 9) (40 * zr + zj)) (pnA (Na 0) (Ia 9) (40 * zr + zj) (Na 0 40) (uM (Na 0) 0)) zi)) (congrArg (fun z => mxO (kdA (Na 0) (Ia 9) (40 * zr + zj)) (pnA (Na 0) (Ia 9) (40 * zr + zj) (Na 0 40) (uM (Na 0) 0)) zi zo (mxK (kdA (Na 0) (Ia 9) (40 * zr + zj)) (pnA (Na 0) (Ia 9) (40 * zr + zj) (Na 0 40) (uM (Na 0) 0)) zi) ||| z) (if_neg (by first | exact fun z => z.1 h157 | exact fun z => h188 z.2)).symm) ?_
                            refine j_istore 207 [(5, .int (nI (mxO (kdA (Na 0) (Ia 9) (40 * zr + zj)) (pnA (Na 0) (Ia 9) (40 * zr + zj) (Na 0 40) (uM (Na 0) 0)) zi (zo + 1) (mxK (kdA (Na 0) (Ia 9) (40 * zr + zj)) (pnA (Na 0) (Ia 9) (40 * zr + zj) (Na 0 40) (uM (Na 0) 0)) zi)))), (8, .int (1 : Int32)), (7, .int (nI zo)), (6, .int (nI zi)), (0, .ref (q 26)), (1, .int (nI zr)), (2, .int (nI zj)), (3, .int (nI zn))] dX6_mixed_205 rfl (by decide) rfl ?_
                            refine j_iincN zo 1 210 [(7, .int (nI (zo + 1))), (5, .int (nI (mxO (kdA (Na 0) (Ia 9) (40 * zr + zj)) (pnA (Na 0) (Ia 9) (40 * zr + zj) (Na 0 40) (uM (Na 0) 0)) zi (zo + 1) (mxK (kdA (Na 0) (Ia 9) (40 * zr + zj)) (pnA (Na 0) (Ia 9) (40 * zr + zj) (Na 0 40) (uM (Na 0) 0)) zi)))), (8, .int (1 : Int32)), (6, .int (nI zi)), (0, .ref (q 26)), (1, .int (nI zr)), (2, .int (nI zj)), (3, .int (nI zn))] dX6_mixed_207 rfl 2 rfl (by decide) rfl ?_
                            refine j_goto 102 dX6_mixed_210 rfl ?_
                            refine j_lv [0, 3, 1, 4, 5, 6, 7] rfl ?_
                            exact zih102 (zo + 1) (by omega) (by omega)
                          ·
                            refine j_iconst (v := (1 : Int32)) 192 dX6_mixed_191 rfl (by decide) ?_
                            refine j_aload_n 193 dX6_mixed_192 rfl 4 rfl ?_
                            refine j_getf 196 0 dX6_mixed_193 rfl fd_X6_52 rfl rfl ?_
                            refine j_iload 198 dX6_mixed_196 rfl 2 rfl ?_
                            refine j_ialdN zi 199 13 dX6_mixed_198 rfl rfl (by omega) (by decide) ?_
                            refine j_topN ((va_cpy (pnA (Na 0) (Ia 9) (40 * zr + zj) (Na 0 40) (uM (Na 0) 0)) (Na 25) 0 0 zn) zi) ((pnA (Na 0) (Ia 9) (40 * zr + zj) (Na 0 40) (uM (Na 0) 0)) zi) (by rw [cpy_in (by omega) (by omega), Nat.zero_add, Nat.sub_zero]) ?_
                            refine j_ishlN 1 ((pnA (Na 0) (Ia 9) (40 * zr + zj) (Na 0 40) (uM (Na 0) 0)) zi) 200 dX6_mixed_199 rfl (by have := hpn zi; omega) (by rw [Nat.one_mul]; exact Nat.lt_of_lt_of_le (Nat.pow_lt_pow_right (by decide) (show _ < 6 by have := hpn zi; omega)) (by decide)) ?_
                            refine j_goto 204 dX6_mixed_200 rfl ?_
                            refine j_iorN (mxO (kdA (Na 0) (Ia 9) (40 * zr + zj)) (pnA (Na 0) (Ia 9) (40 * zr + zj) (Na 0 40) (uM (Na 0) 0)) zi zo (mxK (kdA (Na 0) (Ia 9) (40 * zr + zj)) (pnA (Na 0) (Ia 9) (40 * zr + zj) (Na 0 40) (uM (Na 0) 0)) zi)) (1 * 2 ^ ((pnA (Na 0) (Ia 9) (40 * zr + zj) (Na 0 40) (uM (Na 0) 0)) zi)) 205 dX6_mixed_204 rfl ?_
                            refine j_topN ((mxO (kdA (Na 0) (Ia 9) (40 * zr + zj)) (pnA (Na 0) (Ia 9) (40 * zr + zj) (Na 0 40) (uM (Na 0) 0)) zi zo (mxK (kdA (Na 0) (Ia 9) (40 * zr + zj)) (pnA (Na 0) (Ia 9) (40 * zr + zj) (Na 0 40) (uM (Na 0) 0)) zi)) ||| (1 * 2 ^ ((pnA (Na 0) (Ia 9) (40 * zr + zj) (Na 0 40) (uM (Na 0) 0)) zi))) (mxO (kdA (Na 0) (Ia 9) (40 * zr + zj)) (pnA (Na 0) (Ia 9) (40 * zr + zj) (Na 0 40) (uM (Na 0) 0)) zi (zo + 1) (mxK (kdA (Na 0) (Ia 9) (40 * zr + zj)) (pnA (Na 0) (Ia 9) (40 * zr + zj) (Na 0 40) (uM (Na 0) 0)) zi)) (congrArg (fun z => mxO (kdA (Na 0) (Ia 9) (40 * zr + zj)) (pnA (Na 0) (Ia 9) (40 * zr + zj) (Na 0 40) (uM (Na 0) 0)) zi zo (mxK (kdA (Na 0) (Ia 9) (40 * zr + zj)) (pnA (Na 0) (Ia 9) (40 * zr + zj) (Na 0 40) (uM (Na 0) 0)) zi) ||| z) (if_pos ⟨h157, h188⟩).symm) ?_
                            refine j_istore 207 [(5, .int (nI (mxO (kdA (Na 0) (Ia 9) (40 * zr + zj)) (pnA (Na 0) (Ia 9) (40 * zr + zj) (Na 0 40) (uM (Na 0) 0)) zi (zo + 1) (mxK (kdA (Na 0) (Ia 9) (40 * zr + zj)) (pnA (Na 0) (Ia 9) (40 * zr + zj) (Na 0 40) (uM (Na 0) 0)) zi)))), (8, .int (1 : Int32)), (7, .int (nI zo)), (6, .int (nI zi)), (0, .ref (q 26)), (1, .int (nI zr)), (2, .int (nI zj)), (3, .int (nI zn))] dX6_mixed_205 rfl (by decide) rfl ?_
                            refine j_iincN zo 1 210 [(7, .int (nI (zo + 1))), (5, .int (nI (mxO (kdA (Na 0) (Ia 9) (40 * zr + zj)) (pnA (Na 0) (Ia 9) (40 * zr + zj) (Na 0 40) (uM (Na 0) 0)) zi (zo + 1) (mxK (kdA (Na 0) (Ia 9) (40 * zr + zj)) (pnA (Na 0) (Ia 9) (40 * zr + zj) (Na 0 40) (uM (Na 0) 0)) zi)))), (8, .int (1 : Int32)), (6, .int (nI zi)), (0, .ref (q 26)), (1, .int (nI zr)), (2, .int (nI zj)), (3, .int (nI zn))] dX6_mixed_207 rfl 2 rfl (by decide) rfl ?_
                            refine j_goto 102 dX6_mixed_210 rfl ?_
                            refine j_lv [0, 3, 1, 4, 5, 6, 7] rfl ?_
                            exact zih102 (zo + 1) (by omega) (by omega)
                  refine j_lv [0, 1, 2, 3, 4, 5, 6] rfl ?_
                  exact hL102 _ 0 (Nat.lt_succ_self _) (by omega)
            refine j_lv [0, 1, 3, 4, 5, 6] rfl ?_
            exact hL93 _ 0 (Nat.lt_succ_self _) (by omega)
          ·
            refine j_ldc (v := (-1000001 : Int32)) 67 dX6_mixed_65 rfl wd_4_140 ?_
            refine j_iretI dX6_mixed_67 rfl ⟨gLe rfl, gLe rfl, ?_⟩
            have ze : (pM_mixed (nI zr) (nI zj) (nI zn) (Na, Ia, Ns, Is)) = ((-1000001 : Int32), (Na, Ia, Ns, Is)) := by
              have yr : rfW (nI zr) (nI zj) (nI zn) (Na, Ia, Ns, Is) = 0 := by
                rw [rfW, cl_nI (by omega)]; exact hrf
              rw [pM_mixed, if_neg h6, if_neg (fun z => z.elim (fun z => z h16) (fun z => z h28)), yr, if_neg (fun z => z rfl), cl_nI (by omega), cl_nI (by omega), cl_nI (by omega), if_pos h62]
            exact ⟨(Na, Ia, Ns, Is), by rw [ze]; exact ⟨(fun k _ => rfl), ⟨rfl, rfl, rfl, rfl⟩, ⟨rfl, rfl⟩, ⟨rfl, rfl, rfl, rfl, rfl⟩, rfl⟩, congrArg (fun z : Int32 × RS => some (Value.int z.1)) ze.symm, rfl⟩
        ·
          refine j_iload 50 dX6_mixed_48 rfl 0 rfl ?_
          refine j_iretI dX6_mixed_50 rfl ⟨gLe rfl, gLe rfl, ?_⟩
          have ze : (pM_mixed (nI zr) i (nI zn) (Na, Ia, Ns, Is)) = ((fndA (rfK ((Ia 7) zr) ((Na 8) zr) i (nI zn))), (Na, Ia, (va_up Ns 6 (stsA (Ns 6) (rfK ((Ia 7) zr) ((Na 8) zr) i (nI zn)))), Is)) := by
            have yr : rfW (nI zr) i (nI zn) (Na, Ia, Ns, Is) = rfK (Ia 7 zr) (Na 8 zr) i (nI zn) := by
              rw [rfW, cl_nI (by omega)]
            have yne : rfK (Ia 7 zr) (Na 8 zr) i (nI zn) ≠ 0 := fun z => h45 ((fndA_0 rfK_le).mpr z)
            rw [pM_mixed, if_neg h6, if_neg (fun z => z.elim (fun z => z h16) (fun z => z h28)), yr, if_pos yne, stsA, if_neg yne]
            rfl
          exact ⟨(Na, Ia, (va_up Ns 6 (stsA (Ns 6) (rfK ((Ia 7) zr) ((Na 8) zr) i (nI zn)))), Is), by rw [ze]; exact ⟨(fun k _ => rfl), ⟨rfl, rfl, rfl, rfl⟩, ⟨rfl, rfl⟩, ⟨rfl, rfl, rfl, rfl, rfl⟩, rfl⟩, congrArg (fun z : Int32 × RS => some (Value.int z.1)) ze.symm, rfl⟩
      ·
        refine j_ldc (v := (-1000001 : Int32)) 33 dX6_mixed_31 rfl wd_4_140 ?_
        refine j_iretI dX6_mixed_33 rfl ⟨gLe rfl, gLe rfl, ?_⟩
        have ze : (pM_mixed r i n (Na, Ia, Ns, Is)) = ((-1000001 : Int32), (Na, Ia, Ns, Is)) := by
          rw [pM_mixed, if_neg h6, if_pos (by first | exact Or.inl h16 | exact Or.inr h28)]
        exact ⟨(Na, Ia, Ns, Is), by rw [ze]; exact ⟨(fun k _ => rfl), ⟨rfl, rfl, rfl, rfl⟩, ⟨rfl, rfl⟩, ⟨rfl, rfl, rfl, rfl, rfl⟩, rfl⟩, congrArg (fun z : Int32 × RS => some (Value.int z.1)) ze.symm, rfl⟩
  ·
    refine j_ldc (v := (-1000002 : Int32)) 11 dX6_mixed_9 rfl wd_5_47 ?_
    refine j_iretI dX6_mixed_11 rfl ⟨gLe rfl, gLe rfl, ?_⟩
    have ze : (pM_mixed r i n (Na, Ia, Ns, Is)) = ((-1000002 : Int32), (Na, Ia, Ns, Is)) := by
      exact if_pos h6
    exact ⟨(Na, Ia, Ns, Is), by rw [ze]; exact ⟨(fun k _ => rfl), ⟨rfl, rfl, rfl, rfl⟩, ⟨rfl, rfl⟩, ⟨rfl, rfl, rfl, rfl, rfl⟩, rfl⟩, congrArg (fun z : Int32 × RS => some (Value.int z.1)) ze.symm, rfl⟩
set_option maxRecDepth 20000 in
theorem c_X6_sticks (g : gG) (q : Nat → Nat) (Na : Nat → Nat → Nat) (Ia : Nat → Nat → Int32) (Ns : Nat → Nat) (Is : Nat → Int32) (r : Int32) (i : Int32) (n : Int32) (hI : RI (Na, Ia, Ns, Is)) : gCon g mX6_sticks 5 0 0 [.ref (q 26), .int r, .int i, .int n] (wS g q (Na, Ia, Ns, Is)) (fun rv ws' => ∃ S9 : RS, Gq S9 (pM_sticks r i n (Na, Ia, Ns, Is)).2 ∧ rv = some (.int (pM_sticks r i n (Na, Ia, Ns, Is)).1) ∧ ws' = wS g q S9) := by
  refine gCon.of (lv := [(0, .ref (q 26)), (1, .int r), (2, .int i), (3, .int n)]) (by decide) (gLe rfl) rfl ?_
  refine j_ws (wM g q Na Ia Ns Is) rfl ?_
  have h8 : Na 0 1 ≤ 6 ∧ Na 0 2 ≤ 5 ∧ Na 0 3 ≤ 8 ∧ Na 0 0 ≤ 1 := RI_3 hI
  have h40 : Na 0 40 < 32 ∧ (∀ j, j < 5 → Na 0 (41 + j) ≤ 9999) ∧ (∀ p, p < 6 → Na 0 (46 + p) ≤ 9999 ∧ Na 0 (52 + p) ≤ 989901) ∧ inP (Na 0) ≤ 9999 := RI_40 hI
  have hpm : Ns 2 ≤ 24 := hI.2.1
  have hsz : ∀ r, r < 8 → Na 8 r ≤ 40 := hI.2.2.2.2.2.2.2.1
  have htr : Ns 11 ≤ 16 := hI.2.2.2.2.2.2.2.2.1
  have hst : Is 12 = -1000000 := hI.2.2.2.2.2.2.2.2.2.1
  have htp : Ns 4 ≤ 400 := hI.2.2.2.2.1
  refine j_aload_n 1 dX6_sticks_0 rfl 0 rfl ?_
  refine j_getf 4 0 dX6_sticks_1 rfl fd_X6_7 rfl rfl ?_
  refine j_iconst (v := (0 : Int32)) 5 dX6_sticks_4 rfl (by decide) ?_
  refine j_ialdN 0 6 1 dX6_sticks_5 rfl rfl (by decide) (by decide) ?_
  refine j_if_neN ((Na 0) 0) 9 12 dX6_sticks_6 rfl rfl (by have z0 := h8.2.2.2; omega) (fun h6 => ?_) (fun h6 => ?_)
  ·
    refine j_iload_n 13 dX6_sticks_12 rfl 1 rfl ?_
    refine j_callSE (rest := []) 16 (c_isR g r) [.int (gB (inR r 8))] dX6_sticks_13 rfl cs_X6_65 rfl rfl (gLe rfl) (gLe rfl) (gLe rfl) (gLe rfl) rfl ?_
    refine j_if_eqB 19 31 dX6_sticks_16 rfl rfl (fun h16 => ?_) (fun h16 => ?_)
    ·
      refine j_ldc (v := (-1000001 : Int32)) 33 dX6_sticks_31 rfl wd_4_140 ?_
      refine j_iretI dX6_sticks_33 rfl ⟨gLe rfl, gLe rfl, ?_⟩
      have ze : (pM_sticks r i n (Na, Ia, Ns, Is)) = ((-1000001 : Int32), (Na, Ia, Ns, Is)) := by
        rw [pM_sticks, if_neg h6, if_pos (by first | exact Or.inl h16 | exact Or.inr h28)]
      exact ⟨(Na, Ia, Ns, Is), by rw [ze]; exact ⟨(fun k _ => rfl), ⟨rfl, rfl, rfl, rfl⟩, ⟨rfl, rfl⟩, ⟨rfl, rfl, rfl, rfl, rfl⟩, rfl⟩, congrArg (fun z : Int32 × RS => some (Value.int z.1)) ze.symm, rfl⟩
    ·
      refine j_iload_n 20 dX6_sticks_19 rfl 3 rfl ?_
      refine j_i2l 21 dX6_sticks_20 rfl ?_
      refine j_lconst (v := 0) 22 dX6_sticks_21 rfl (by decide) ?_
      refine j_ldc2 (v := (12 : Int64)) 25 dX6_sticks_22 rfl wd_5_90 ?_
      refine j_callSE (rest := []) 28 (c_inR g n 13 (12 : Int64) (12 : Int32) ⟨by decide, by decide⟩) [.int (gB (inR n 13))] dX6_sticks_25 rfl cs_X6_61 rfl rfl (gLe rfl) (gLe rfl) (gLe rfl) (gLe rfl) rfl ?_
      refine j_if_neB 31 34 dX6_sticks_28 rfl rfl (fun h28 => ?_) (fun h28 => ?_)
      ·
        obtain ⟨zr, hzr, rfl⟩ := inR_of h16
        obtain ⟨zn, hzn, rfl⟩ := inR_of h28
        have hq1 := RI_P hI (Or.inr (Or.inr (Or.inr h6)))
        have hokp : okP (Na 0) := hq1.2.1
        have hs40 : Na 0 40 < 2 ^ Na 0 2 := hq1.2.2.1
        have hum : ∀ k, uM (Na 0) 0 k ≤ 9999 := by
          intro k
          by_cases hk : k < 5
          · rw [uM_at hk, show 0 + 41 + k = 41 + k by omega]; exact h40.2.1 k hk
          · rw [Z5_uM _ _ k (by omega)]; exact Nat.zero_le _
        refine j_aload_n 35 dX6_sticks_34 rfl 0 rfl ?_
        refine j_iload_n 36 dX6_sticks_35 rfl 1 rfl ?_
        refine j_iload_n 37 dX6_sticks_36 rfl 2 rfl ?_
        refine j_iload_n 38 dX6_sticks_37 rfl 3 rfl ?_
        refine j_callVW (rest := []) 41 (c_X6_refusedPairs g q Na Ia Ns Is zr i zn  (by omega) (hsz zr hzr) (by omega) (by omega) (by omega)) [.int (rpA (rfK ((Ia 7) zr) ((Na 8) zr) i (nI (2 * zn))) (areP (Ia 9) (40 * zr + cl i) zn ((Na 0) 3) ((Na 0) 1)))] dX6_sticks_38 rfl cv_X6_221 rfl rfl 0 rfl rfl (gLe rfl) (gLe rfl) (gLe rfl) (gLe rfl) (wM_len _ _ _ _ _ _ _ _ _ _) rfl ?_
        refine j_istore 43 [(4, .int (rpA (rfK ((Ia 7) zr) ((Na 8) zr) i (nI (2 * zn))) (areP (Ia 9) (40 * zr + cl i) zn ((Na 0) 3) ((Na 0) 1)))), (0, .ref (q 26)), (1, .int (nI zr)), (2, .int i), (3, .int (nI zn))] dX6_sticks_41 rfl (by decide) rfl ?_
        refine j_iload 45 dX6_sticks_43 rfl 0 rfl ?_
        refine j_if_eq 48 51 dX6_sticks_45 rfl rfl (fun h45 => ?_) (fun h45 => ?_)
        ·
          have hrp := (rpA_0 rfK_le).mp h45
          have hrf := hrp.1
          have hsp := (rfK_0 hrf).2
          have hszr := hsz zr hzr
          have hAr0 := hrp.2
          refine j_ws (wM g q Na Ia Ns Is) (by rw [hrf]; rfl) ?_
          obtain ⟨zj, hzj, rfl⟩ := spn_of (by omega) hsp
          rw [cl_nI (by omega)] at hAr0
          have hAr : areP (Ia 9) (40 * zr + zj) zn (Na 0 3) (Na 0 1) := hAr0
          refine j_iconst (v := (0 : Int32)) 52 dX6_sticks_51 rfl (by decide) ?_
          refine j_istore 54 [(5, .int (0 : Int32)), (4, .int (rpA (rfK ((Ia 7) zr) ((Na 8) zr) (nI zj) (nI (2 * zn))) (areP (Ia 9) (40 * zr + cl (nI zj)) zn ((Na 0) 3) ((Na 0) 1)))), (0, .ref (q 26)), (1, .int (nI zr)), (2, .int (nI zj)), (3, .int (nI zn))] dX6_sticks_52 rfl (by decide) rfl ?_
          refine j_iconst (v := (0 : Int32)) 55 dX6_sticks_54 rfl (by decide) ?_
          refine j_istore 57 [(6, .int (0 : Int32)), (5, .int (0 : Int32)), (4, .int (rpA (rfK ((Ia 7) zr) ((Na 8) zr) (nI zj) (nI (2 * zn))) (areP (Ia 9) (40 * zr + cl (nI zj)) zn ((Na 0) 3) ((Na 0) 1)))), (0, .ref (q 26)), (1, .int (nI zr)), (2, .int (nI zj)), (3, .int (nI zn))] dX6_sticks_55 rfl (by decide) rfl ?_
          have hL57 : ∀ (zm57 : Nat) (zi : Nat) (ZR : Nat → Nat) (ZI : Int32), 6 - zi < zm57 → (zi ≤ Na 0 2) → (eqB ZR (Na 0)) → gJ g mX6_sticks 5 0 0 (fun k' j' rv ws' => k' ≤ 0 ∧ j' ≤ 0 ∧ (∃ S9 : RS, Gq S9 (pM_sticks (nI zr) (nI zj) (nI zn) (Na, Ia, Ns, Is)).2 ∧ rv = some (.int (pM_sticks (nI zr) (nI zj) (nI zn) (Na, Ia, Ns, Is)).1) ∧ ws' = wS g q S9)) 0 0 57 [(6, .int (nI zi)), (5, .int (nI (skA (fun h => cmA (Na 0) h (Ia 9) (40 * zr + zj) zn 0 (Na 0 40) (uM (Na 0) 0)) zi))), (0, .ref (q 26)), (1, .int (nI zr)), (2, .int (nI zj)), (3, .int (nI zn))] [] (wM g q (va_up Na 0 ZR) Ia Ns (va_up Is 12 ZI)) := by
            intro zm57
            induction zm57 with
            | zero => intro zi ZR ZI zmh; exact absurd zmh (Nat.not_lt_zero _)
            | succ zm57 zih57 =>
              intro zi ZR ZI zmh57 hz hzE
              refine j_iload 59 dX6_sticks_57 rfl 0 rfl ?_
              refine j_aload_n 60 dX6_sticks_59 rfl 2 rfl ?_
              refine j_getf 63 0 dX6_sticks_60 rfl fd_X6_7 rfl rfl ?_
              refine j_iconst (v := (2 : Int32)) 64 dX6_sticks_63 rfl (by decide) ?_
              refine j_ialdN 2 65 1 dX6_sticks_64 rfl rfl (by decide) (by decide) ?_
              refine j_topN (ZR 2) (Na 0 2) (hzE 2 (by decide)) ?_
              refine j_icmp_geN zi (Na 0 2) 68 115 dX6_sticks_65 rfl rfl (by omega) (by have z0 := h8.2.1; omega) (fun h65 => ?_) (fun h65 => ?_)
              ·
                refine j_aload_n 116 dX6_sticks_115 rfl 2 rfl ?_
                refine j_ldc (v := (-1000000 : Int32)) 118 dX6_sticks_116 rfl wd_4_47 ?_
                refine j_putf 121 0 (wM g q (va_up Na 0 ZR) Ia Ns (va_up Is 12 (-1000000 : Int32))) dX6_sticks_118 rfl fd_X6_32 rfl rfl rfl (gLe rfl) rfl ?_
                refine j_aload_n 122 dX6_sticks_121 rfl 2 rfl ?_
                refine j_iload 124 dX6_sticks_122 rfl 1 rfl ?_
                refine j_callVW (rest := []) 127 (c_X6_give g q (va_up Na 0 ZR) Ia Ns (va_up Is 12 (-1000000 : Int32)) (nI (skA (fun h => cmA (Na 0) h (Ia 9) (40 * zr + zj) zn 0 (Na 0 40) (uM (Na 0) 0)) zi))  ) [.int (nI (skA (fun h => cmA (Na 0) h (Ia 9) (40 * zr + zj) zn 0 (Na 0 40) (uM (Na 0) 0)) zi))] dX6_sticks_124 rfl cv_X6_76 rfl rfl 0 rfl rfl (gLe rfl) (gLe rfl) (gLe rfl) (gLe rfl) (wM_len _ _ _ _ _ _ _ _ _ _) rfl ?_
                refine j_iretI dX6_sticks_127 rfl ⟨gLe rfl, gLe rfl, ?_⟩
                have ze : (pM_sticks (nI zr) (nI zj) (nI zn) (Na, Ia, Ns, Is)) = ((nI (skA (fun h => cmA (Na 0) h (Ia 9) (40 * zr + zj) zn 0 (Na 0 40) (uM (Na 0) 0)) zi)), (Na, Ia, va_up Ns 6 0, Is)) := by
                  have ye : zi = Na 0 2 := by omega
                  have yw : rpW (nI zr) (nI zj) (nI zn) (Na, Ia, Ns, Is) = 0 := by
                    rw [rpW, cl_nI (by omega), cl_nI (by omega), cl_nI (by omega)]
                    exact (rpA_0 rfK_le).mpr ⟨hrf, hAr⟩
                  rw [pM_sticks, if_neg h6, if_neg (fun z => z.elim (fun z => z h16) (fun z => z h28)), yw, if_neg (fun z => z rfl), cl_nI (by omega), cl_nI (by omega), cl_nI (by omega), ye]
                  rfl
                exact ⟨((va_up Na 0 ZR), Ia, (va_up Ns 6 0), (va_up Is 12 (-1000000 : Int32))), by rw [ze]; exact ⟨hzE, ⟨rfl, rfl, rfl, rfl⟩, ⟨rfl, rfl⟩, ⟨rfl, rfl, rfl, rfl, rfl⟩, hst.symm⟩, congrArg (fun z : Int32 × RS => some (Value.int z.1)) ze.symm, rfl⟩
              ·
                refine j_aload_n 69 dX6_sticks_68 rfl 2 rfl ?_
                refine j_iconst (v := (0 : Int32)) 70 dX6_sticks_69 rfl (by decide) ?_
                refine j_sipush (v := (174 : Int32)) 73 dX6_sticks_70 rfl (by decide) ?_
                refine j_callVW (rest := []) 76 (c_X6_copyRow g q (va_up Na 0 ZR) Ia Ns (va_up Is 12 ZI) 0 174  (by decide) (by decide) (by decide)) [] dX6_sticks_73 rfl cv_X6_224 rfl rfl 0 rfl rfl (gLe rfl) (gLe rfl) (gLe rfl) (gLe rfl) (wM_len _ _ _ _ _ _ _ _ _ _) rfl ?_
                refine j_aload_n 77 dX6_sticks_76 rfl 2 rfl ?_
                refine j_iload 79 dX6_sticks_77 rfl 0 rfl ?_
                refine j_putf 82 0 (wM g q (va_up Na 0 (va_cpy ZR ZR 0 174 58)) Ia Ns (va_up Is 12 (nI zi))) dX6_sticks_79 rfl fd_X6_32 rfl rfl rfl (gLe rfl) rfl ?_
                have hxE := cpZ_E hzE
                have hx4 := cpZ_214 hzE
                have hxu := cpZ_uM hzE
                refine j_iload 84 dX6_sticks_82 rfl 1 rfl ?_
                refine j_aload_n 85 dX6_sticks_84 rfl 2 rfl ?_
                refine j_bipush (v := (40 : Int32)) 87 dX6_sticks_85 rfl (by decide) ?_
                refine j_iload_n 88 dX6_sticks_87 rfl 3 rfl ?_
                refine j_imulN 40 zr 89 dX6_sticks_88 rfl ?_
                refine j_iload_n 90 dX6_sticks_89 rfl 4 rfl ?_
                refine j_iaddN (40 * zr) zj 91 dX6_sticks_90 rfl ?_
                refine j_iload_n 92 dX6_sticks_91 rfl 5 rfl ?_
                refine j_callVX (rest := [.int (nI (skA (fun h => cmA (Na 0) h (Ia 9) (40 * zr + zj) zn 0 (Na 0 40) (uM (Na 0) 0)) zi))]) 95 (c_X6_comeSo g q (va_up Na 0 (va_cpy ZR ZR 0 174 58)) Ia Ns (va_up Is 12 (nI zi)) ((40 * zr) + zj) zn zi (by show nI zi = skI zi; rw [skI, if_pos (by omega)]) (okP_eq (eqB_P hxE) hokp) (by show (va_cpy ZR ZR 0 174 58) 214 < 2 ^ (va_cpy ZR ZR 0 174 58) 2; rw [hx4, hxE 2 (by decide)]; exact hs40) (by show ∀ k, uM (va_cpy ZR ZR 0 174 58) 174 k ≤ _; rw [hxu]; exact fun k => Nat.le_trans (hum k) (by decide)) (by omega) (by show areP (Ia 9) _ _ ((va_cpy ZR ZR 0 174 58) 3) ((va_cpy ZR ZR 0 174 58) 1); rw [hxE 3 (by decide), hxE 1 (by decide)]; exact hAr)) dX6_sticks_92 rfl cv_X6_227 rfl rfl 0 rfl rfl (gLe rfl) (gLe rfl) (gLe rfl) (gLe rfl) (fun rv w1 hp => ?_)
                obtain ⟨Z1_1, hZ1_1, rfl, rfl⟩ := hp
                refine ⟨(wM_len _ _ _ _ _ _ _ _ _ _), ?_⟩
                refine j_eq (lv2 := [(6, .int (nI zi)), (5, .int (nI (skA (fun h => cmA (Na 0) h (Ia 9) (40 * zr + zj) zn 0 (Na 0 40) (uM (Na 0) 0)) zi))), (0, .ref (q 26)), (1, .int (nI zr)), (2, .int (nI zj)), (3, .int (nI zn))]) (st2 := [.int (gB (cmA (va_cpy ZR ZR 0 174 58) zi (Ia 9) ((40 * zr) + zj) zn 0 ((va_cpy ZR ZR 0 174 58) 214) (uM (va_cpy ZR ZR 0 174 58) 174) = true)), .int (nI (skA (fun h => cmA (Na 0) h (Ia 9) (40 * zr + zj) zn 0 (Na 0 40) (uM (Na 0) 0)) zi))]) (ws2 := (wM g q (va_up Na 0 Z1_1) Ia Ns (va_up Is 12 (nI zi)))) rfl rfl rfl ?_
                refine j_topI _ (gB ((fun h => cmA (Na 0) h (Ia 9) (40 * zr + zj) zn 0 (Na 0 40) (uM (Na 0) 0)) zi = true)) (gB_iff (by show cmA (va_cpy ZR ZR 0 174 58) zi (Ia 9) _ _ 0 ((va_cpy ZR ZR 0 174 58) 214) (uM (va_cpy ZR ZR 0 174 58) 174) = true ↔ _; rw [hx4, hxu, cmA_eq hokp hxE zn 0 _ _ (areP_cl hAr (by omega))])) ?_
                refine j_if_eqB 98 105 dX6_sticks_95 rfl rfl (fun h95 => ?_) (fun h95 => ?_)
                ·
                  refine j_iconst (v := (0 : Int32)) 106 dX6_sticks_105 rfl (by decide) ?_
                  refine j_iorN (skA (fun h => cmA (Na 0) h (Ia 9) (40 * zr + zj) zn 0 (Na 0 40) (uM (Na 0) 0)) zi) 0 107 dX6_sticks_106 rfl ?_
                  refine j_topN ((skA (fun h => cmA (Na 0) h (Ia 9) (40 * zr + zj) zn 0 (Na 0 40) (uM (Na 0) 0)) zi) ||| 0) (skA (fun h => cmA (Na 0) h (Ia 9) (40 * zr + zj) zn 0 (Na 0 40) (uM (Na 0) 0)) (zi + 1)) (congrArg (fun z => skA (fun h => cmA (Na 0) h (Ia 9) (40 * zr + zj) zn 0 (Na 0 40) (uM (Na 0) 0)) zi ||| z) (if_neg h95).symm) ?_
                  refine j_istore 109 [(5, .int (nI (skA (fun h => cmA (Na 0) h (Ia 9) (40 * zr + zj) zn 0 (Na 0 40) (uM (Na 0) 0)) (zi + 1)))), (6, .int (nI zi)), (0, .ref (q 26)), (1, .int (nI zr)), (2, .int (nI zj)), (3, .int (nI zn))] dX6_sticks_107 rfl (by decide) rfl ?_
                  refine j_iincN zi 1 112 [(6, .int (nI (zi + 1))), (5, .int (nI (skA (fun h => cmA (Na 0) h (Ia 9) (40 * zr + zj) zn 0 (Na 0 40) (uM (Na 0) 0)) (zi + 1)))), (0, .ref (q 26)), (1, .int (nI zr)), (2, .int (nI zj)), (3, .int (nI zn))] dX6_sticks_109 rfl 1 rfl (by decide) rfl ?_
                  refine j_goto 57 dX6_sticks_112 rfl ?_
                  refine j_lv [0, 1, 2, 3, 4, 5] rfl ?_
                  exact zih57 (zi + 1) Z1_1 (nI zi) (by omega) (by omega) (eqB_trans hZ1_1 hxE)
                ·
                  refine j_iconst (v := (1 : Int32)) 99 dX6_sticks_98 rfl (by decide) ?_
                  refine j_iload 101 dX6_sticks_99 rfl 0 rfl ?_
                  refine j_ishlN 1 zi 102 dX6_sticks_101 rfl (by omega) (by rw [Nat.one_mul]; exact Nat.lt_trans (pow_lt32 (by omega)) (by decide)) ?_
                  refine j_goto 106 dX6_sticks_102 rfl ?_
                  refine j_iorN (skA (fun h => cmA (Na 0) h (Ia 9) (40 * zr + zj) zn 0 (Na 0 40) (uM (Na 0) 0)) zi) (1 * 2 ^ zi) 107 dX6_sticks_106 rfl ?_
                  refine j_topN ((skA (fun h => cmA (Na 0) h (Ia 9) (40 * zr + zj) zn 0 (Na 0 40) (uM (Na 0) 0)) zi) ||| (1 * 2 ^ zi)) (skA (fun h => cmA (Na 0) h (Ia 9) (40 * zr + zj) zn 0 (Na 0 40) (uM (Na 0) 0)) (zi + 1)) (congrArg (fun z => skA (fun h => cmA (Na 0) h (Ia 9) (40 * zr + zj) zn 0 (Na 0 40) (uM (Na 0) 0)) zi ||| z) (if_pos h95).symm) ?_
                  refine j_istore 109 [(5, .int (nI (skA (fun h => cmA (Na 0) h (Ia 9) (40 * zr + zj) zn 0 (Na 0 40) (uM (Na 0) 0)) (zi + 1)))), (6, .int (nI zi)), (0, .ref (q 26)), (1, .int (nI zr)), (2, .int (nI zj)), (3, .int (nI zn))] dX6_sticks_107 rfl (by decide) rfl ?_
                  refine j_iincN zi 1 112 [(6, .int (nI (zi + 1))), (5, .int (nI (skA (fun h => cmA (Na 0) h (Ia 9) (40 * zr + zj) zn 0 (Na 0 40) (uM (Na 0) 0)) (zi + 1)))), (0, .ref (q 26)), (1, .int (nI zr)), (2, .int (nI zj)), (3, .int (nI zn))] dX6_sticks_109 rfl 1 rfl (by decide) rfl ?_
                  refine j_goto 57 dX6_sticks_112 rfl ?_
                  refine j_lv [0, 1, 2, 3, 4, 5] rfl ?_
                  exact zih57 (zi + 1) Z1_1 (nI zi) (by omega) (by omega) (eqB_trans hZ1_1 hxE)
          refine j_lv [0, 1, 3, 4, 5, 6] rfl ?_
          exact hL57 _ 0 (Na 0) (Is 12) (Nat.lt_succ_self _) (Nat.zero_le _) (fun k _ => rfl)
        ·
          refine j_iload 50 dX6_sticks_48 rfl 0 rfl ?_
          refine j_iretI dX6_sticks_50 rfl ⟨gLe rfl, gLe rfl, ?_⟩
          have ze : (pM_sticks (nI zr) i (nI zn) (Na, Ia, Ns, Is)) = ((rpA (rfK ((Ia 7) zr) ((Na 8) zr) i (nI (2 * zn))) (areP (Ia 9) (40 * zr + cl i) zn ((Na 0) 3) ((Na 0) 1))), (Na, Ia, (va_up Ns 6 (stsA (Ns 6) (rfK ((Ia 7) zr) ((Na 8) zr) i (nI (2 * zn))))), Is)) := by
            have yw : rpW (nI zr) i (nI zn) (Na, Ia, Ns, Is) = rpA (rfK (Ia 7 zr) (Na 8 zr) i (nI (2 * zn))) (areP (Ia 9) (40 * zr + cl i) zn (Na 0 3) (Na 0 1)) := by
              rw [rpW, cl_nI (by omega), cl_nI (by omega)]
            have yn : rpN (nI zr) i (nI zn) (Na, Ia, Ns, Is) = stsA (Ns 6) (rfK (Ia 7 zr) (Na 8 zr) i (nI (2 * zn))) := by
              rw [rpN, cl_nI (by omega), cl_nI (by omega)]
            rw [pM_sticks, if_neg h6, if_neg (fun z => z.elim (fun z => z h16) (fun z => z h28)), yw, yn, if_pos h45]
            rfl
          exact ⟨(Na, Ia, (va_up Ns 6 (stsA (Ns 6) (rfK ((Ia 7) zr) ((Na 8) zr) i (nI (2 * zn))))), Is), by rw [ze]; exact ⟨(fun k _ => rfl), ⟨rfl, rfl, rfl, rfl⟩, ⟨rfl, rfl⟩, ⟨rfl, rfl, rfl, rfl, rfl⟩, rfl⟩, congrArg (fun z : Int32 × RS => some (Value.int z.1)) ze.symm, rfl⟩
      ·
        refine j_ldc (v := (-1000001 : Int32)) 33 dX6_sticks_31 rfl wd_4_140 ?_
        refine j_iretI dX6_sticks_33 rfl ⟨gLe rfl, gLe rfl, ?_⟩
        have ze : (pM_sticks r i n (Na, Ia, Ns, Is)) = ((-1000001 : Int32), (Na, Ia, Ns, Is)) := by
          rw [pM_sticks, if_neg h6, if_pos (by first | exact Or.inl h16 | exact Or.inr h28)]
        exact ⟨(Na, Ia, Ns, Is), by rw [ze]; exact ⟨(fun k _ => rfl), ⟨rfl, rfl, rfl, rfl⟩, ⟨rfl, rfl⟩, ⟨rfl, rfl, rfl, rfl, rfl⟩, rfl⟩, congrArg (fun z : Int32 × RS => some (Value.int z.1)) ze.symm, rfl⟩
  ·
    refine j_ldc (v := (-1000002 : Int32)) 11 dX6_sticks_9 rfl wd_5_47 ?_
    refine j_iretI dX6_sticks_11 rfl ⟨gLe rfl, gLe rfl, ?_⟩
    have ze : (pM_sticks r i n (Na, Ia, Ns, Is)) = ((-1000002 : Int32), (Na, Ia, Ns, Is)) := by
      exact if_pos h6
    exact ⟨(Na, Ia, Ns, Is), by rw [ze]; exact ⟨(fun k _ => rfl), ⟨rfl, rfl, rfl, rfl⟩, ⟨rfl, rfl⟩, ⟨rfl, rfl, rfl, rfl, rfl⟩, rfl⟩, congrArg (fun z : Int32 × RS => some (Value.int z.1)) ze.symm, rfl⟩
