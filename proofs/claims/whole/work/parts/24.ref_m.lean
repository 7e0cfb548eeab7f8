theorem cpy_ext {f f' g : Nat → Nat} {n : Nat} (h : ∀ j, j < n → f j = f' j) : va_cpy f g 0 0 n = va_cpy f' g 0 0 n := by
  funext k
  simp only [va_cpy]
  split
  · rename_i c
    rw [Nat.zero_add, Nat.sub_zero]
    exact h k (by omega)
  · rfl
set_option maxRecDepth 20000 in
theorem c_X6_theft (g : gG) (q : Nat → Nat) (Na : Nat → Nat → Nat) (Ia : Nat → Nat → Int32) (Ns : Nat → Nat) (Is : Nat → Int32) (b : Int32) (r : Int32) (i : Int32) (n : Int32) (hI : RI (Na, Ia, Ns, Is)) : gCon g mX6_theft 5 0 0 [.ref (q 26), .int b, .int r, .int i, .int n] (wS g q (Na, Ia, Ns, Is)) (fun rv ws' => ∃ S9 : RS, Gq S9 (pM_theft b r i n (Na, Ia, Ns, Is)).2 ∧ rv = some (.int (pM_theft b r i n (Na, Ia, Ns, Is)).1) ∧ ws' = wS g q S9) := by
  refine gCon.of (lv := [(0, .ref (q 26)), (1, .int b), (2, .int r), (3, .int i), (4, .int n)]) (by decide) (gLe rfl) rfl ?_
  refine j_ws (wM g q Na Ia Ns Is) rfl ?_
  have h8 : Na 0 1 ≤ 6 ∧ Na 0 2 ≤ 5 ∧ Na 0 3 ≤ 8 ∧ Na 0 0 ≤ 1 := RI_3 hI
  have h40 : Na 0 40 < 32 ∧ (∀ j, j < 5 → Na 0 (41 + j) ≤ 9999) ∧ (∀ p, p < 6 → Na 0 (46 + p) ≤ 9999 ∧ Na 0 (52 + p) ≤ 989901) ∧ inP (Na 0) ≤ 9999 := RI_40 hI
  have hpm : Ns 2 ≤ 24 := hI.2.1
  have hsz : ∀ r, r < 8 → Na 8 r ≤ 40 := hI.2.2.2.2.2.2.2.1
  have htr : Ns 11 ≤ 16 := hI.2.2.2.2.2.2.2.2.1
  have hst : Is 12 = -1000000 := hI.2.2.2.2.2.2.2.2.2.1
  have htp : Ns 4 ≤ 400 := hI.2.2.2.2.1
  refine j_aload_n 1 dX6_theft_0 rfl 0 rfl ?_
  refine j_getf 4 0 dX6_theft_1 rfl fd_X6_7 rfl rfl ?_
  refine j_iconst (v := (0 : Int32)) 5 dX6_theft_4 rfl (by decide) ?_
  refine j_ialdN 0 6 1 dX6_theft_5 rfl rfl (by decide) (by decide) ?_
  refine j_if_neN ((Na 0) 0) 9 12 dX6_theft_6 rfl rfl (by have z0 := h8.2.2.2; omega) (fun h6 => ?_) (fun h6 => ?_)
  ·
    refine j_aload_n 13 dX6_theft_12 rfl 0 rfl ?_
    refine j_iload_n 14 dX6_theft_13 rfl 1 rfl ?_
    refine j_callVW (rest := []) 17 (c_X6_isBeast g q Na Ia Ns Is b  (by omega)) [.int (gB (inR b ((Na 0) 3)))] dX6_theft_14 rfl cv_X6_190 rfl rfl 0 rfl rfl (gLe rfl) (gLe rfl) (gLe rfl) (gLe rfl) (wM_len _ _ _ _ _ _ _ _ _ _) rfl ?_
    refine j_if_eqB 20 40 dX6_theft_17 rfl rfl (fun h17 => ?_) (fun h17 => ?_)
    ·
      refine j_ldc (v := (-1000001 : Int32)) 42 dX6_theft_40 rfl wd_4_140 ?_
      refine j_iretI dX6_theft_42 rfl ⟨gLe rfl, gLe rfl, ?_⟩
      have ze : (pM_theft b r i n (Na, Ia, Ns, Is)) = ((-1000001 : Int32), (Na, Ia, Ns, Is)) := by
        rw [pM_theft, if_neg h6, if_pos (by first | exact Or.inl h17 | exact Or.inr (Or.inl h24) | exact Or.inr (Or.inr h37))]
      exact ⟨(Na, Ia, Ns, Is), by rw [ze]; exact ⟨(fun k _ => rfl), ⟨rfl, rfl, rfl, rfl⟩, ⟨rfl, rfl⟩, ⟨rfl, rfl, rfl, rfl, rfl⟩, rfl⟩, congrArg (fun z : Int32 × RS => some (Value.int z.1)) ze.symm, rfl⟩
    ·
      refine j_iload_n 21 dX6_theft_20 rfl 2 rfl ?_
      refine j_callSE (rest := []) 24 (c_isR g r) [.int (gB (inR r 8))] dX6_theft_21 rfl cs_X6_65 rfl rfl (gLe rfl) (gLe rfl) (gLe rfl) (gLe rfl) rfl ?_
      refine j_if_eqB 27 40 dX6_theft_24 rfl rfl (fun h24 => ?_) (fun h24 => ?_)
      ·
        refine j_ldc (v := (-1000001 : Int32)) 42 dX6_theft_40 rfl wd_4_140 ?_
        refine j_iretI dX6_theft_42 rfl ⟨gLe rfl, gLe rfl, ?_⟩
        have ze : (pM_theft b r i n (Na, Ia, Ns, Is)) = ((-1000001 : Int32), (Na, Ia, Ns, Is)) := by
          rw [pM_theft, if_neg h6, if_pos (by first | exact Or.inl h17 | exact Or.inr (Or.inl h24) | exact Or.inr (Or.inr h37))]
        exact ⟨(Na, Ia, Ns, Is), by rw [ze]; exact ⟨(fun k _ => rfl), ⟨rfl, rfl, rfl, rfl⟩, ⟨rfl, rfl⟩, ⟨rfl, rfl, rfl, rfl, rfl⟩, rfl⟩, congrArg (fun z : Int32 × RS => some (Value.int z.1)) ze.symm, rfl⟩
      ·
        refine j_iload 29 dX6_theft_27 rfl 4 rfl ?_
        refine j_i2l 30 dX6_theft_29 rfl ?_
        refine j_lconst (v := 0) 31 dX6_theft_30 rfl (by decide) ?_
        refine j_ldc2 (v := (24 : Int64)) 34 dX6_theft_31 rfl wd_5_48 ?_
        refine j_callSE (rest := []) 37 (c_inR g n 25 (24 : Int64) (24 : Int32) ⟨by decide, by decide⟩) [.int (gB (inR n 25))] dX6_theft_34 rfl cs_X6_61 rfl rfl (gLe rfl) (gLe rfl) (gLe rfl) (gLe rfl) rfl ?_
        refine j_if_neB 40 43 dX6_theft_37 rfl rfl (fun h37 => ?_) (fun h37 => ?_)
        ·
          obtain ⟨zb, hzb, rfl⟩ := inR_of h17
          obtain ⟨zr, hzr, rfl⟩ := inR_of h24
          obtain ⟨zn, hzn, rfl⟩ := inR_of h37
          have hq1 := RI_P hI (Or.inr (Or.inr (Or.inr h6)))
          have hokp : okP (Na 0) := hq1.2.1
          have hs40 : Na 0 40 < 2 ^ Na 0 2 := hq1.2.2.1
          have hum : ∀ k, uM (Na 0) 0 k ≤ 9999 := by
            intro k
            by_cases hk : k < 5
            · rw [uM_at hk, show 0 + 41 + k = 41 + k by omega]; exact h40.2.1 k hk
            · rw [Z5_uM _ _ k (by omega)]; exact Nat.zero_le _
          refine j_aload_n 44 dX6_theft_43 rfl 0 rfl ?_
          refine j_iload_n 45 dX6_theft_44 rfl 2 rfl ?_
          refine j_iload_n 46 dX6_theft_45 rfl 3 rfl ?_
          refine j_iload 48 dX6_theft_46 rfl 4 rfl ?_
          refine j_callVW (rest := []) 51 (c_X6_refused g q Na Ia Ns Is zr i (nI zn)  (by omega) (by have := hsz zr hzr; omega)) [.int (fndA (rfK ((Ia 7) zr) ((Na 8) zr) i (nI zn)))] dX6_theft_48 rfl cv_X6_205 rfl rfl 0 rfl rfl (gLe rfl) (gLe rfl) (gLe rfl) (gLe rfl) (wM_len _ _ _ _ _ _ _ _ _ _) rfl ?_
          refine j_istore 53 [(5, .int (fndA (rfK ((Ia 7) zr) ((Na 8) zr) i (nI zn)))), (0, .ref (q 26)), (1, .int (nI zb)), (2, .int (nI zr)), (3, .int i), (4, .int (nI zn))] dX6_theft_51 rfl (by decide) rfl ?_
          refine j_iload 55 dX6_theft_53 rfl 0 rfl ?_
          refine j_if_eq 58 61 dX6_theft_55 rfl rfl (fun h55 => ?_) (fun h55 => ?_)
          ·
            have hrf := (fndA_0 rfK_le).mp h55
            have hsp := (rfK_0 hrf).2
            have hszr := hsz zr hzr
            refine j_ws (wM g q Na Ia Ns Is) (by rw [hrf]; rfl) ?_
            obtain ⟨zj, hzj, rfl⟩ := spn_of (by omega) hsp
            refine j_aload_n 62 dX6_theft_61 rfl 1 rfl ?_
            refine j_bipush (v := (40 : Int32)) 64 dX6_theft_62 rfl (by decide) ?_
            refine j_iload_n 65 dX6_theft_64 rfl 3 rfl ?_
            refine j_imulN 40 zr 66 dX6_theft_65 rfl ?_
            refine j_iload_n 67 dX6_theft_66 rfl 4 rfl ?_
            refine j_iaddN (40 * zr) zj 68 dX6_theft_67 rfl ?_
            refine j_iload 70 dX6_theft_68 rfl 5 rfl ?_
            refine j_callVW (rest := []) 73 (c_X6_areBeasts g q Na Ia Ns Is ((40 * zr) + zj) zn  (by omega) (by omega)) [.int (gB (areB (Ia 9) ((40 * zr) + zj) zn ((Na 0) 3)))] dX6_theft_70 rfl cv_X6_208 rfl rfl 0 rfl rfl (gLe rfl) (gLe rfl) (gLe rfl) (gLe rfl) (wM_len _ _ _ _ _ _ _ _ _ _) rfl ?_
            refine j_if_neB 76 79 dX6_theft_73 rfl rfl (fun h73 => ?_) (fun h73 => ?_)
            ·
              have hAr : areB (Ia 9) (40 * zr + zj) zn (Na 0 3) := h73
              refine j_aload_n 80 dX6_theft_79 rfl 1 rfl ?_
              refine j_iconst (v := (0 : Int32)) 81 dX6_theft_80 rfl (by decide) ?_
              refine j_sipush (v := (174 : Int32)) 84 dX6_theft_81 rfl (by decide) ?_
              refine j_callVW (rest := []) 87 (c_X6_copyRow g q Na Ia Ns Is 0 174  (by decide) (by decide) (by decide)) [] dX6_theft_84 rfl cv_X6_224 rfl rfl 0 rfl rfl (gLe rfl) (gLe rfl) (gLe rfl) (gLe rfl) (wM_len _ _ _ _ _ _ _ _ _ _) rfl ?_
              refine j_aload_n 88 dX6_theft_87 rfl 1 rfl ?_
              refine j_bipush (v := (40 : Int32)) 90 dX6_theft_88 rfl (by decide) ?_
              refine j_iload_n 91 dX6_theft_90 rfl 3 rfl ?_
              refine j_imulN 40 zr 92 dX6_theft_91 rfl ?_
              refine j_iload_n 93 dX6_theft_92 rfl 4 rfl ?_
              refine j_iaddN (40 * zr) zj 94 dX6_theft_93 rfl ?_
              refine j_iload 96 dX6_theft_94 rfl 5 rfl ?_
              refine j_callVX (rest := []) 99 (c_X6_layPens g q (va_up Na 0 (va_cpy (Na 0) (Na 0) 0 174 58)) Ia Ns Is ((40 * zr) + zj) zn  hst (okP_eq (eqB_P eqB_cpy) hokp) (by show va_cpy (Na 0) (Na 0) 0 174 58 214 < 2 ^ va_cpy (Na 0) (Na 0) 0 174 58 2; rw [cp0_214, cpy_out (by omega)]; exact hs40) (by show ∀ k, uM (va_cpy (Na 0) (Na 0) 0 174 58) 174 k ≤ 100000; rw [cp0_uM]; exact fun k => Nat.le_trans (hum k) (by decide)) (by omega) (by omega) (by show areB (Ia 9) _ _ (va_cpy (Na 0) (Na 0) 0 174 58 3); rw [cpy_out (by omega)]; exact hAr)) dX6_theft_96 rfl cv_X6_260 rfl rfl 0 rfl rfl (gLe rfl) (gLe rfl) (gLe rfl) (gLe rfl) (fun rv w1 hp => ?_)
              obtain ⟨Z1_1, hZ1_1, rfl, rfl⟩ := hp
              refine ⟨(wM_len _ _ _ _ _ _ _ _ _ _), ?_⟩
              refine j_eq (lv2 := [(5, .int (fndA (rfK ((Ia 7) zr) ((Na 8) zr) (nI zj) (nI zn)))), (0, .ref (q 26)), (1, .int (nI zb)), (2, .int (nI zr)), (3, .int (nI zj)), (4, .int (nI zn))]) (st2 := []) (ws2 := (wM g q (va_up (va_up Na 0 Z1_1) 25 (va_cpy (pnA (va_cpy (Na 0) (Na 0) 0 174 58) (Ia 9) ((40 * zr) + zj) ((va_cpy (Na 0) (Na 0) 0 174 58) 214) (uM (va_cpy (Na 0) (Na 0) 0 174 58) 174)) (Na 25) 0 0 zn)) Ia Ns Is)) rfl rfl rfl ?_
              have hz1E : eqB Z1_1 (Na 0) := eqB_trans hZ1_1 eqB_cpy
              refine j_ws (wM g q (va_up (va_up Na 0 Z1_1) 25 (va_cpy (pnA (Na 0) (Ia 9) (40 * zr + zj) (Na 0 40) (uM (Na 0) 0)) (Na 25) 0 0 zn)) Ia Ns Is) (congrArg (fun z => wM g q (va_up (va_up Na 0 Z1_1) 25 z) Ia Ns Is) (cpy_ext (fun j hj => by show pnA (va_cpy (Na 0) (Na 0) 0 174 58) (Ia 9) (40 * zr + zj) (va_cpy (Na 0) (Na 0) 0 174 58 214) (uM (va_cpy (Na 0) (Na 0) 0 174 58) 174) j = _; rw [cp0_214, cp0_uM]; exact pnA_eq hokp eqB_cpy (fun k hk => areB_cl hAr (by omega) k (by omega))))) ?_
              refine j_aload_n 100 dX6_theft_99 rfl 1 rfl ?_
              refine j_iconst (v := (0 : Int32)) 101 dX6_theft_100 rfl (by decide) ?_
              refine j_sipush (v := (174 : Int32)) 104 dX6_theft_101 rfl (by decide) ?_
              refine j_callVW (rest := []) 107 (c_X6_copyRow g q (va_up (va_up Na 0 Z1_1) 25 (va_cpy (pnA (Na 0) (Ia 9) (40 * zr + zj) (Na 0 40) (uM (Na 0) 0)) (Na 25) 0 0 zn)) Ia Ns Is 0 174  (by decide) (by decide) (by decide)) [] dX6_theft_104 rfl cv_X6_224 rfl rfl 0 rfl rfl (gLe rfl) (gLe rfl) (gLe rfl) (gLe rfl) (wM_len _ _ _ _ _ _ _ _ _ _) rfl ?_
              have hcE := cpZ_E hz1E
              have hc4 := cpZ_214 hz1E
              have hcu := cpZ_uM hz1E
              have hgz0 := gOA_eq hokp hcE (sk := 99) (s := Na 0 40) (u := uM (Na 0) 0) hzb
              have hgk0 := gOA_ok hokp (sk := 99) (b := zb) hs40 (Z5_uM (Na 0) 0)
              refine j_aload_n 108 dX6_theft_107 rfl 1 rfl ?_
              refine j_sipush (v := (174 : Int32)) 111 dX6_theft_108 rfl (by decide) ?_
              refine j_iload_n 112 dX6_theft_111 rfl 2 rfl ?_
              refine j_callVW (rest := []) 115 (c_X6_go g q (va_up (va_up Na 0 (va_cpy Z1_1 Z1_1 0 174 58)) 25 (va_cpy (pnA (Na 0) (Ia 9) (40 * zr + zj) (Na 0 40) (uM (Na 0) 0)) (Na 25) 0 0 zn)) Ia Ns Is 174 zb 99 hst (okP_eq (eqB_P hcE) hokp) (Or.inr rfl) (by show (va_cpy Z1_1 Z1_1 0 174 58) 214 < 32; rw [hc4]; exact h40.1) (fun k => by show uM (va_cpy Z1_1 Z1_1 0 174 58) 174 k ≤ _; rw [hcu]; have := hum k; omega) (by show zb < (va_cpy Z1_1 Z1_1 0 174 58) 3; rw [hcE 3 (by decide)]; exact hzb)) [.int (nI ((goA (va_cpy Z1_1 Z1_1 0 174 58) 99 ((va_cpy Z1_1 Z1_1 0 174 58) (24 + 2 * zb)) 5 ((va_cpy Z1_1 Z1_1 0 174 58) 2 - 1) ((va_cpy Z1_1 Z1_1 0 174 58) (174 + 40)) (uM (va_cpy Z1_1 Z1_1 0 174 58) 174)).1))] dX6_theft_112 rfl cv_X6_187 rfl rfl 0 rfl rfl (gLe rfl) (gLe rfl) (gLe rfl) (gLe rfl) (wM_len _ _ _ _ _ _ _ _ _ _) rfl ?_
              refine j_ws (wM g q (va_up (va_up Na 0 (putM (va_cpy Z1_1 Z1_1 0 174 58) 174 (gOA (Na 0) 99 zb (Na 0 40) (uM (Na 0) 0)).2.1 (gOA (Na 0) 99 zb (Na 0 40) (uM (Na 0) 0)).2.2)) 25 (va_cpy (pnA (Na 0) (Ia 9) (40 * zr + zj) (Na 0 40) (uM (Na 0) 0)) (Na 25) 0 0 zn)) Ia Ns Is) (congrArg (fun z => wM g q (va_up (va_up Na 0 z) 25 (va_cpy (pnA (Na 0) (Ia 9) (40 * zr + zj) (Na 0 40) (uM (Na 0) 0)) (Na 25) 0 0 zn)) Ia Ns Is) (by show putM (va_cpy Z1_1 Z1_1 0 174 58) 174 (goA (va_cpy Z1_1 Z1_1 0 174 58) 99 _ 5 _ ((va_cpy Z1_1 Z1_1 0 174 58) 214) (uM (va_cpy Z1_1 Z1_1 0 174 58) 174)).2.1 (goA (va_cpy Z1_1 Z1_1 0 174 58) 99 _ 5 _ ((va_cpy Z1_1 Z1_1 0 174 58) 214) (uM (va_cpy Z1_1 Z1_1 0 174 58) 174)).2.2 = _; rw [hc4, hcu]; exact congrArg (fun z : Nat × Nat × (Nat → Nat) => putM (va_cpy Z1_1 Z1_1 0 174 58) 174 z.2.1 z.2.2) hgz0)) ?_
              refine j_pop 116 dX6_theft_115 rfl rfl ?_
              refine j_iconst (v := (0 : Int32)) 117 dX6_theft_116 rfl (by decide) ?_
              refine j_istore 119 [(6, .int (0 : Int32)), (5, .int (fndA (rfK ((Ia 7) zr) ((Na 8) zr) (nI zj) (nI zn)))), (0, .ref (q 26)), (1, .int (nI zb)), (2, .int (nI zr)), (3, .int (nI zj)), (4, .int (nI zn))] dX6_theft_117 rfl (by decide) rfl ?_
              refine j_iconst (v := (0 : Int32)) 120 dX6_theft_119 rfl (by decide) ?_
              refine j_istore 122 [(7, .int (0 : Int32)), (6, .int (0 : Int32)), (5, .int (fndA (rfK ((Ia 7) zr) ((Na 8) zr) (nI zj) (nI zn)))), (0, .ref (q 26)), (1, .int (nI zb)), (2, .int (nI zr)), (3, .int (nI zj)), (4, .int (nI zn))] dX6_theft_120 rfl (by decide) rfl ?_
              have hL122 : ∀ (zm122 : Nat) (zi : Nat) (ZR : Nat → Nat), zn - zi < zm122 → (zi ≤ zn) → (eqB ZR (Na 0)) → (ZR 214 < 2 ^ Na 0 2) → (∀ k, uM ZR 174 k ≤ 10000 + zi) → ((ZR 214, uM ZR 174) = sqA (Na 0) (Ia 9) (40 * zr + zj) (gOA (Na 0) 99 zb (Na 0 40) (uM (Na 0) 0)).2.1 (gOA (Na 0) 99 zb (Na 0 40) (uM (Na 0) 0)).2.2 zi) → gJ g mX6_theft 5 0 0 (fun k' j' rv ws' => k' ≤ 0 ∧ j' ≤ 0 ∧ (∃ S9 : RS, Gq S9 (pM_theft (nI zb) (nI zr) (nI zj) (nI zn) (Na, Ia, Ns, Is)).2 ∧ rv = some (.int (pM_theft (nI zb) (nI zr) (nI zj) (nI zn) (Na, Ia, Ns, Is)).1) ∧ ws' = wS g q S9)) 0 0 122 [(7, .int (nI zi)), (6, .int (nI (dfN (pnA (Na 0) (Ia 9) (40 * zr + zj) (Na 0 40) (uM (Na 0) 0)) (pnA (Na 0) (Ia 9) (40 * zr + zj) (gOA (Na 0) 99 zb (Na 0 40) (uM (Na 0) 0)).2.1 (gOA (Na 0) 99 zb (Na 0 40) (uM (Na 0) 0)).2.2) zi))), (0, .ref (q 26)), (2, .int (nI zr)), (3, .int (nI zj)), (4, .int (nI zn))] [] (wM g q (va_up (va_up Na 0 ZR) 25 (va_cpy (pnA (Na 0) (Ia 9) (40 * zr + zj) (Na 0 40) (uM (Na 0) 0)) (Na 25) 0 0 zn)) Ia Ns Is) := by
                intro zm122
                induction zm122 with
                | zero => intro zi ZR zmh; exact absurd zmh (Nat.not_lt_zero _)
                | succ zm122 zih122 =>
                  intro zi ZR zmh122 hz hzE hzS hzU hzQ
                  refine j_iload 124 dX6_theft_122 rfl 0 rfl ?_
                  refine j_iload 126 dX6_theft_124 rfl 5 rfl ?_
                  refine j_icmp_geN zi zn 129 176 dX6_theft_126 rfl rfl (by omega) (by omega) (fun h126 => ?_) (fun h126 => ?_)
                  ·
                    refine j_aload_n 177 dX6_theft_176 rfl 2 rfl ?_
                    refine j_iload 179 dX6_theft_177 rfl 1 rfl ?_
                    refine j_callVW (rest := []) 182 (c_X6_give g q (va_up (va_up Na 0 ZR) 25 (va_cpy (pnA (Na 0) (Ia 9) (40 * zr + zj) (Na 0 40) (uM (Na 0) 0)) (Na 25) 0 0 zn)) Ia Ns Is (nI (dfN (pnA (Na 0) (Ia 9) (40 * zr + zj) (Na 0 40) (uM (Na 0) 0)) (pnA (Na 0) (Ia 9) (40 * zr + zj) (gOA (Na 0) 99 zb (Na 0 40) (uM (Na 0) 0)).2.1 (gOA (Na 0) 99 zb (Na 0 40) (uM (Na 0) 0)).2.2) zi))  ) [.int (nI (dfN (pnA (Na 0) (Ia 9) (40 * zr + zj) (Na 0 40) (uM (Na 0) 0)) (pnA (Na 0) (Ia 9) (40 * zr + zj) (gOA (Na 0) 99 zb (Na 0 40) (uM (Na 0) 0)).2.1 (gOA (Na 0) 99 zb (Na 0 40) (uM (Na 0) 0)).2.2) zi))] dX6_theft_179 rfl cv_X6_76 rfl rfl 0 rfl rfl (gLe rfl) (gLe rfl) (gLe rfl) (gLe rfl) (wM_len _ _ _ _ _ _ _ _ _ _) rfl ?_
                    refine j_iretI dX6_theft_182 rfl ⟨gLe rfl, gLe rfl, ?_⟩
                    have ze : (pM_theft (nI zb) (nI zr) (nI zj) (nI zn) (Na, Ia, Ns, Is)) = ((nI (dfN (pnA (Na 0) (Ia 9) (40 * zr + zj) (Na 0 40) (uM (Na 0) 0)) (pnA (Na 0) (Ia 9) (40 * zr + zj) (gOA (Na 0) 99 zb (Na 0 40) (uM (Na 0) 0)).2.1 (gOA (Na 0) 99 zb (Na 0 40) (uM (Na 0) 0)).2.2) zi)), (Na, Ia, va_up Ns 6 0, Is)) := by
                      have ye : zi = zn := by omega
                      subst ye
                      have yr : rfW (nI zr) (nI zj) (nI zi) (Na, Ia, Ns, Is) = 0 := by
                        rw [rfW, cl_nI (by omega)]; exact hrf
                      rw [pM_theft, if_neg h6, if_neg (fun z => z.elim (fun z => z h17) (fun z => z.elim (fun z => z h24) (fun z => z h37))), yr, if_neg (fun z => z rfl), cl_nI (by omega), cl_nI (by omega), cl_nI (by omega), cl_nI (by omega), if_neg (fun z => z h73)]
                      rfl
                    exact ⟨((va_up (va_up Na 0 ZR) 25 (va_cpy (pnA (Na 0) (Ia 9) (40 * zr + zj) (Na 0 40) (uM (Na 0) 0)) (Na 25) 0 0 zn)), Ia, (va_up Ns 6 0), Is), by rw [ze]; exact ⟨hzE, ⟨rfl, rfl, rfl, rfl⟩, ⟨rfl, rfl⟩, ⟨rfl, rfl, rfl, rfl, rfl⟩, rfl⟩, congrArg (fun z : Int32 × RS => some (Value.int z.1)) ze.symm, rfl⟩
                  ·
                    refine j_iload 131 dX6_theft_129 rfl 1 rfl ?_
                    refine j_aload_n 132 dX6_theft_131 rfl 2 rfl ?_
                    refine j_sipush (v := (174 : Int32)) 135 dX6_theft_132 rfl (by decide) ?_
                    refine j_aload_n 136 dX6_theft_135 rfl 2 rfl ?_
                    refine j_getf 139 0 dX6_theft_136 rfl fd_X6_26 rfl rfl ?_
                    refine j_bipush (v := (40 : Int32)) 141 dX6_theft_139 rfl (by decide) ?_
                    refine j_iload_n 142 dX6_theft_141 rfl 3 rfl ?_
                    refine j_imulN 40 zr 143 dX6_theft_142 rfl ?_
                    refine j_iload_n 144 dX6_theft_143 rfl 4 rfl ?_
                    refine j_iaddN (40 * zr) zj 145 dX6_theft_144 rfl ?_
                    refine j_iload 147 dX6_theft_145 rfl 0 rfl ?_
                    refine j_iaddN ((40 * zr) + zj) zi 148 dX6_theft_147 rfl ?_
                    refine j_ialdR (((40 * zr) + zj) + zi) 149 6 dX6_theft_148 rfl rfl (by omega) (by decide) ?_
                    have hbt : Ia 9 (40 * zr + zj + zi) = nI (cl (Ia 9 (40 * zr + zj + zi))) ∧ cl (Ia 9 (40 * zr + zj + zi)) < Na 0 3 := inR_cl (h73 zi (by omega)) (by omega)
                    have hgk := gOA_ok hokp (sk := 99) (b := cl (Ia 9 (40 * zr + zj + zi))) hzS (Z5_uM ZR 174)
                    have hgz := gOA_eq hokp hzE (sk := 99) (s := ZR 214) (u := uM ZR 174) hbt.2
                    refine j_topI ((Ia 9) (((40 * zr) + zj) + zi)) (nI (cl (Ia 9 (40 * zr + zj + zi)))) hbt.1 ?_
                    refine j_callVW (rest := [.int (nI (dfN (pnA (Na 0) (Ia 9) (40 * zr + zj) (Na 0 40) (uM (Na 0) 0)) (pnA (Na 0) (Ia 9) (40 * zr + zj) (gOA (Na 0) 99 zb (Na 0 40) (uM (Na 0) 0)).2.1 (gOA (Na 0) 99 zb (Na 0 40) (uM (Na 0) 0)).2.2) zi))]) 152 (c_X6_go g q (va_up (va_up Na 0 ZR) 25 (va_cpy (pnA (Na 0) (Ia 9) (40 * zr + zj) (Na 0 40) (uM (Na 0) 0)) (Na 25) 0 0 zn)) Ia Ns Is 174 (cl (Ia 9 (40 * zr + zj + zi))) 99 hst (okP_eq (eqB_P hzE) hokp) (Or.inr rfl) (p32 hokp hzS) (fun k => by have := hzU k; show uM ZR 174 k ≤ _; omega) (by show cl (Ia 9 (40 * zr + zj + zi)) < ZR 3; rw [hzE 3 (by decide)]; exact hbt.2)) [.int (nI ((goA ZR 99 (ZR (24 + 2 * (cl (Ia 9 (40 * zr + zj + zi))))) 5 (ZR 2 - 1) (ZR (174 + 40)) (uM ZR 174)).1)), .int (nI (dfN (pnA (Na 0) (Ia 9) (40 * zr + zj) (Na 0 40) (uM (Na 0) 0)) (pnA (Na 0) (Ia 9) (40 * zr + zj) (gOA (Na 0) 99 zb (Na 0 40) (uM (Na 0) 0)).2.1 (gOA (Na 0) 99 zb (Na 0 40) (uM (Na 0) 0)).2.2) zi))] dX6_theft_149 rfl cv_X6_187 rfl rfl 0 rfl rfl (gLe rfl) (gLe rfl) (gLe rfl) (gLe rfl) (wM_len _ _ _ _ _ _ _ _ _ _) rfl ?_
                    refine j_topN ((goA ZR 99 (ZR (24 + 2 * (cl (Ia 9 (40 * zr + zj + zi))))) 5 (ZR 2 - 1) (ZR (174 + 40)) (uM ZR 174)).1) ((gOA (Na 0) 99 (cl (Ia 9 (40 * zr + zj + zi))) (ZR 214) (uM ZR 174)).1) (congrArg Prod.fst hgz) ?_
                    refine j_ws (wM g q (va_up (va_up Na 0 (putM ZR 174 (gOA (Na 0) 99 (cl (Ia 9 (40 * zr + zj + zi))) (ZR 214) (uM ZR 174)).2.1 (gOA (Na 0) 99 (cl (Ia 9 (40 * zr + zj + zi))) (ZR 214) (uM ZR 174)).2.2)) 25 (va_cpy (pnA (Na 0) (Ia 9) (40 * zr + zj) (Na 0 40) (uM (Na 0) 0)) (Na 25) 0 0 zn)) Ia Ns Is) (congrArg (fun z : Nat × Nat × (Nat → Nat) => wM g q (va_up (va_up Na 0 (putM ZR 174 z.2.1 z.2.2)) 25 (va_cpy (pnA (Na 0) (Ia 9) (40 * zr + zj) (Na 0 40) (uM (Na 0) 0)) (Na 25) 0 0 zn)) Ia Ns Is) hgz) ?_
                    refine j_aload_n 153 dX6_theft_152 rfl 2 rfl ?_
                    refine j_getf 156 0 dX6_theft_153 rfl fd_X6_52 rfl rfl ?_
                    refine j_iload 158 dX6_theft_156 rfl 0 rfl ?_
                    refine j_ialdN zi 159 13 dX6_theft_158 rfl rfl (by omega) (by decide) ?_
                    refine j_topN ((va_cpy (pnA (Na 0) (Ia 9) (40 * zr + zj) (Na 0 40) (uM (Na 0) 0)) (Na 25) 0 0 zn) zi) ((pnA (Na 0) (Ia 9) (40 * zr + zj) (Na 0 40) (uM (Na 0) 0)) zi) (by rw [cpy_in (by omega) (by omega), Nat.zero_add, Nat.sub_zero]) ?_
                    refine j_icmp_neN ((gOA (Na 0) 99 (cl (Ia 9 (40 * zr + zj + zi))) (ZR 214) (uM ZR 174)).1) ((pnA (Na 0) (Ia 9) (40 * zr + zj) (Na 0 40) (uM (Na 0) 0)) zi) 162 166 dX6_theft_159 rfl rfl (by have z0 := hgk.1; omega) (by have z0 := pnA_lt hokp (it := Ia 9) (base := 40 * zr + zj) hs40 (Z5_uM (Na 0) 0) hum zi; omega) (fun h159 => ?_) (fun h159 => ?_)
                    ·
                      refine j_iconst (v := (1 : Int32)) 167 dX6_theft_166 rfl (by decide) ?_
                      refine j_topN 1 (if (pnA (Na 0) (Ia 9) (40 * zr + zj) (gOA (Na 0) 99 zb (Na 0 40) (uM (Na 0) 0)).2.1 (gOA (Na 0) 99 zb (Na 0 40) (uM (Na 0) 0)).2.2) zi = (pnA (Na 0) (Ia 9) (40 * zr + zj) (Na 0 40) (uM (Na 0) 0)) zi then 0 else 1) (by have hv : (gOA (Na 0) 99 (cl (Ia 9 (40 * zr + zj + zi))) (ZR 214) (uM ZR 174)).1 = (pnA (Na 0) (Ia 9) (40 * zr + zj) (gOA (Na 0) 99 zb (Na 0 40) (uM (Na 0) 0)).2.1 (gOA (Na 0) 99 zb (Na 0 40) (uM (Na 0) 0)).2.2) zi := (by rw [pnA, ← hzQ]); rw [hv] at h159; rw [if_neg h159]) ?_
                      refine j_iaddN (dfN (pnA (Na 0) (Ia 9) (40 * zr + zj) (Na 0 40) (uM (Na 0) 0)) (pnA (Na 0) (Ia 9) (40 * zr + zj) (gOA (Na 0) 99 zb (Na 0 40) (uM (Na 0) 0)).2.1 (gOA (Na 0) 99 zb (Na 0 40) (uM (Na 0) 0)).2.2) zi) (if (pnA (Na 0) (Ia 9) (40 * zr + zj) (gOA (Na 0) 99 zb (Na 0 40) (uM (Na 0) 0)).2.1 (gOA (Na 0) 99 zb (Na 0 40) (uM (Na 0) 0)).2.2) zi = (pnA (Na 0) (Ia 9) (40 * zr + zj) (Na 0 40) (uM (Na 0) 0)) zi then 0 else 1) 168 dX6_theft_167 rfl ?_
                      refine j_topN ((dfN (pnA (Na 0) (Ia 9) (40 * zr + zj) (Na 0 40) (uM (Na 0) 0)) (pnA (Na 0) (Ia 9) (40 * zr + zj) (gOA (Na 0) 99 zb (Na 0 40) (uM (Na 0) 0)).2.1 (gOA (Na 0) 99 zb (Na 0 40) (uM (Na 0) 0)).2.2) zi) + (if (pnA (Na 0) (Ia 9) (40 * zr + zj) (gOA (Na 0) 99 zb (Na 0 40) (uM (Na 0) 0)).2.1 (gOA (Na 0) 99 zb (Na 0 40) (uM (Na 0) 0)).2.2) zi = (pnA (Na 0) (Ia 9) (40 * zr + zj) (Na 0 40) (uM (Na 0) 0)) zi then 0 else 1)) (dfN (pnA (Na 0) (Ia 9) (40 * zr + zj) (Na 0 40) (uM (Na 0) 0)) (pnA (Na 0) (Ia 9) (40 * zr + zj) (gOA (Na 0) 99 zb (Na 0 40) (uM (Na 0) 0)).2.1 (gOA (Na 0) 99 zb (Na 0 40) (uM (Na 0) 0)).2.2) (zi + 1)) rfl ?_
                      refine j_istore 170 [(6, .int (nI (dfN (pnA (Na 0) (Ia 9) (40 * zr + zj) (Na 0 40) (uM (Na 0) 0)) (pnA (Na 0) (Ia 9) (40 * zr + zj) (gOA (Na 0) 99 zb (Na 0 40) (uM (Na 0) 0)).2.1 (gOA (Na 0) 99 zb (Na 0 40) (uM (Na 0) 0)).2.2) (zi + 1)))), (7, .int (nI zi)), (0, .ref (q 26)), (2, .int (nI zr)), (3, .int (nI zj)), (4, .int (nI zn))] dX6_theft_168 rfl (by decide) rfl ?_
                      refine j_iincN zi 1 173 [(7, .int (nI (zi + 1))), (6, .int (nI (dfN (pnA (Na 0) (Ia 9) (40 * zr + zj) (Na 0 40) (uM (Na 0) 0)) (pnA (Na 0) (Ia 9) (40 * zr + zj) (gOA (Na 0) 99 zb (Na 0 40) (uM (Na 0) 0)).2.1 (gOA (Na 0) 99 zb (Na 0 40) (uM (Na 0) 0)).2.2) (zi + 1)))), (0, .ref (q 26)), (2, .int (nI zr)), (3, .int (nI zj)), (4, .int (nI zn))] dX6_theft_170 rfl 1 rfl (by decide) rfl ?_
                      refine j_goto 122 dX6_theft_173 rfl ?_
                      refine j_lv [0, 1, 2, 3, 4, 5] rfl ?_
                      exact zih122 (zi + 1) (putM ZR 174 (gOA (Na 0) 99 (cl (Ia 9 (40 * zr + zj + zi))) (ZR 214) (uM ZR 174)).2.1 (gOA (Na 0) 99 (cl (Ia 9 (40 * zr + zj + zi))) (ZR 214) (uM ZR 174)).2.2) (by omega) (by omega) (eqB_put hzE) (by rw [putM_at]; exact hgk.2.1) (fun k => by rw [uM_put hgk.2.2.1]; have z1 := hgk.2.2.2 k; have z2 := hzU k; omega) (by rw [putM_at, uM_put hgk.2.2.1, sqA, ← hzQ])
                    ·
                      refine j_iconst (v := (0 : Int32)) 163 dX6_theft_162 rfl (by decide) ?_
                      refine j_goto 167 dX6_theft_163 rfl ?_
                      refine j_topN 0 (if (pnA (Na 0) (Ia 9) (40 * zr + zj) (gOA (Na 0) 99 zb (Na 0 40) (uM (Na 0) 0)).2.1 (gOA (Na 0) 99 zb (Na 0 40) (uM (Na 0) 0)).2.2) zi = (pnA (Na 0) (Ia 9) (40 * zr + zj) (Na 0 40) (uM (Na 0) 0)) zi then 0 else 1) (by have hv : (gOA (Na 0) 99 (cl (Ia 9 (40 * zr + zj + zi))) (ZR 214) (uM ZR 174)).1 = (pnA (Na 0) (Ia 9) (40 * zr + zj) (gOA (Na 0) 99 zb (Na 0 40) (uM (Na 0) 0)).2.1 (gOA (Na 0) 99 zb (Na 0 40) (uM (Na 0) 0)).2.2) zi := (by rw [pnA, ← hzQ]); rw [hv] at h159; rw [if_pos h159]) ?_
                      refine j_iaddN (dfN (pnA (Na 0) (Ia 9) (40 * zr + zj) (Na 0 40) (uM (Na 0) 0)) (pnA (Na 0) (Ia 9) (40 * zr + zj) (gOA (Na 0) 99 zb (Na 0 40) (uM (Na 0) 0)).2.1 (gOA (Na 0) 99 zb (Na 0 40) (uM (Na 0) 0)).2.2) zi) (if (pnA (Na 0) (Ia 9) (40 * zr + zj) (gOA (Na 0) 99 zb (Na 0 40) (uM (Na 0) 0)).2.1 (gOA (Na 0) 99 zb (Na 0 40) (uM (Na 0) 0)).2.2) zi = (pnA (Na 0) (Ia 9) (40 * zr + zj) (Na 0 40) (uM (Na 0) 0)) zi then 0 else 1) 168 dX6_theft_167 rfl ?_
                      refine j_topN ((dfN (pnA (Na 0) (Ia 9) (40 * zr + zj) (Na 0 40) (uM (Na 0) 0)) (pnA (Na 0) (Ia 9) (40 * zr + zj) (gOA (Na 0) 99 zb (Na 0 40) (uM (Na 0) 0)).2.1 (gOA (Na 0) 99 zb (Na 0 40) (uM (Na 0) 0)).2.2) zi) + (if (pnA (Na 0) (Ia 9) (40 * zr + zj) (gOA (Na 0) 99 zb (Na 0 40) (uM (Na 0) 0)).2.1 (gOA (Na 0) 99 zb (Na 0 40) (uM (Na 0) 0)).2.2) zi = (pnA (Na 0) (Ia 9) (40 * zr + zj) (Na 0 40) (uM (Na 0) 0)) zi then 0 else 1)) (dfN (pnA (Na 0) (Ia 9) (40 * zr + zj) (Na 0 40) (uM (Na 0) 0)) (pnA (Na 0) (Ia 9) (40 * zr + zj) (gOA (Na 0) 99 zb (Na 0 40) (uM (Na 0) 0)).2.1 (gOA (Na 0) 99 zb (Na 0 40) (uM (Na 0) 0)).2.2) (zi + 1)) rfl ?_
                      refine j_istore 170 [(6, .int (nI (dfN (pnA (Na 0) (Ia 9) (40 * zr + zj) (Na 0 40) (uM (Na 0) 0)) (pnA (Na 0) (Ia 9) (40 * zr + zj) (gOA (Na 0) 99 zb (Na 0 40) (uM (Na 0) 0)).2.1 (gOA (Na 0) 99 zb (Na 0 40) (uM (Na 0) 0)).2.2) (zi + 1)))), (7, .int (nI zi)), (0, .ref (q 26)), (2, .int (nI zr)), (3, .int (nI zj)), (4, .int (nI zn))] dX6_theft_168 rfl (by decide) rfl ?_
                      refine j_iincN zi 1 173 [(7, .int (nI (zi + 1))), (6, .int (nI (dfN (pnA (Na 0) (Ia 9) (40 * zr + zj) (Na 0 40) (uM (Na 0) 0)) (pnA (Na 0) (Ia 9) (40 * zr + zj) (gOA (Na 0) 99 zb (Na 0 40) (uM (Na 0) 0)).2.1 (gOA (Na 0) 99 zb (Na 0 40) (uM (Na 0) 0)).2.2) (zi + 1)))), (0, .ref (q 26)), (2, .int (nI zr)), (3, .int (nI zj)), (4, .int (nI zn))] dX6_theft_170 rfl 1 rfl (by decide) rfl ?_
                      refine j_goto 122 dX6_theft_173 rfl ?_
                      refine j_lv [0, 1, 2, 3, 4, 5] rfl ?_
                      exact zih122 (zi + 1) (putM ZR 174 (gOA (Na 0) 99 (cl (Ia 9 (40 * zr + zj + zi))) (ZR 214) (uM ZR 174)).2.1 (gOA (Na 0) 99 (cl (Ia 9 (40 * zr + zj + zi))) (ZR 214) (uM ZR 174)).2.2) (by omega) (by omega) (eqB_put hzE) (by rw [putM_at]; exact hgk.2.1) (fun k => by rw [uM_put hgk.2.2.1]; have z1 := hgk.2.2.2 k; have z2 := hzU k; omega) (by rw [putM_at, uM_put hgk.2.2.1, sqA, ← hzQ])
              refine j_lv [0, 1, 3, 5, 6, 7] rfl ?_
              exact hL122 _ 0 (putM (va_cpy Z1_1 Z1_1 0 174 58) 174 (gOA (Na 0) 99 zb (Na 0 40) (uM (Na 0) 0)).2.1 (gOA (Na 0) 99 zb (Na 0 40) (uM (Na 0) 0)).2.2) (Nat.lt_succ_self _) (by omega) (eqB_put hcE) (by rw [putM_at]; exact hgk0.2.1) (fun k => by rw [uM_put hgk0.2.2.1]; have z1 := hgk0.2.2.2 k; have z2 := hum k; omega) (by rw [putM_at, uM_put hgk0.2.2.1]; rfl)
            ·
              refine j_ldc (v := (-1000001 : Int32)) 78 dX6_theft_76 rfl wd_4_140 ?_
              refine j_iretI dX6_theft_78 rfl ⟨gLe rfl, gLe rfl, ?_⟩
              have ze : (pM_theft (nI zb) (nI zr) (nI zj) (nI zn) (Na, Ia, Ns, Is)) = ((-1000001 : Int32), (Na, Ia, Ns, Is)) := by
                have yr : rfW (nI zr) (nI zj) (nI zn) (Na, Ia, Ns, Is) = 0 := by
                  rw [rfW, cl_nI (by omega)]; exact hrf
                rw [pM_theft, if_neg h6, if_neg (fun z => z.elim (fun z => z h17) (fun z => z.elim (fun z => z h24) (fun z => z h37))), yr, if_neg (fun z => z rfl), cl_nI (by omega), cl_nI (by omega), cl_nI (by omega), if_pos h73]
              exact ⟨(Na, Ia, Ns, Is), by rw [ze]; exact ⟨(fun k _ => rfl), ⟨rfl, rfl, rfl, rfl⟩, ⟨rfl, rfl⟩, ⟨rfl, rfl, rfl, rfl, rfl⟩, rfl⟩, congrArg (fun z : Int32 × RS => some (Value.int z.1)) ze.symm, rfl⟩
          ·
            refine j_iload 60 dX6_theft_58 rfl 0 rfl ?_
            refine j_iretI dX6_theft_60 rfl ⟨gLe rfl, gLe rfl, ?_⟩
            have ze : (pM_theft (nI zb) (nI zr) i (nI zn) (Na, Ia, Ns, Is)) = ((fndA (rfK ((Ia 7) zr) ((Na 8) zr) i (nI zn))), (Na, Ia, (va_up Ns 6 (stsA (Ns 6) (rfK ((Ia 7) zr) ((Na 8) zr) i (nI zn)))), Is)) := by
              have yr : rfW (nI zr) i (nI zn) (Na, Ia, Ns, Is) = rfK (Ia 7 zr) (Na 8 zr) i (nI zn) := by
                rw [rfW, cl_nI (by omega)]
              have yne : rfK (Ia 7 zr) (Na 8 zr) i (nI zn) ≠ 0 := fun z => h55 ((fndA_0 rfK_le).mpr z)
              rw [pM_theft, if_neg h6, if_neg (fun z => z.elim (fun z => z h17) (fun z => z.elim (fun z => z h24) (fun z => z h37))), yr, if_pos yne, stsA, if_neg yne]
              rfl
            exact ⟨(Na, Ia, (va_up Ns 6 (stsA (Ns 6) (rfK ((Ia 7) zr) ((Na 8) zr) i (nI zn)))), Is), by rw [ze]; exact ⟨(fun k _ => rfl), ⟨rfl, rfl, rfl, rfl⟩, ⟨rfl, rfl⟩, ⟨rfl, rfl, rfl, rfl, rfl⟩, rfl⟩, congrArg (fun z : Int32 × RS => some (Value.int z.1)) ze.symm, rfl⟩
        ·
          refine j_ldc (v := (-1000001 : Int32)) 42 dX6_theft_40 rfl wd_4_140 ?_
          refine j_iretI dX6_theft_42 rfl ⟨gLe rfl, gLe rfl, ?_⟩
          have ze : (pM_theft b r i n (Na, Ia, Ns, Is)) = ((-1000001 : Int32), (Na, Ia, Ns, Is)) := by
            rw [pM_theft, if_neg h6, if_pos (by first | exact Or.inl h17 | exact Or.inr (Or.inl h24) | exact Or.inr (Or.inr h37))]
          exact ⟨(Na, Ia, Ns, Is), by rw [ze]; exact ⟨(fun k _ => rfl), ⟨rfl, rfl, rfl, rfl⟩, ⟨rfl, rfl⟩, ⟨rfl, rfl, rfl, rfl, rfl⟩, rfl⟩, congrArg (fun z : Int32 × RS => some (Value.int z.1)) ze.symm, rfl⟩
  ·
    refine j_ldc (v := (-1000002 : Int32)) 11 dX6_theft_9 rfl wd_5_47 ?_
    refine j_iretI dX6_theft_11 rfl ⟨gLe rfl, gLe rfl, ?_⟩
    have ze : (pM_theft b r i n (Na, Ia, Ns, Is)) = ((-1000002 : Int32), (Na, Ia, Ns, Is)) := by
      exact if_pos h6
    exact ⟨(Na, Ia, Ns, Is), by rw [ze]; exact ⟨(fun k _ => rfl), ⟨rfl, rfl, rfl, rfl⟩, ⟨rfl, rfl⟩, ⟨rfl, rfl, rfl, rfl, rfl⟩, rfl⟩, congrArg (fun z : Int32 × RS => some (Value.int z.1)) ze.symm, rfl⟩
