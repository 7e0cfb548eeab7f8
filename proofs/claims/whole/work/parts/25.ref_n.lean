theorem sd_E {Z R : Nat → Nat} (h : eqB Z R) (s : Nat) : eqB (va_up (va_up (va_up (va_up (va_up (va_up (va_cpy Z Z 0 174 58) 215 0) 216 0) 217 0) 218 0) 219 0) 214 s) R := fun k hk => by
  rw [va_up_n (by omega), va_up_n (by omega), va_up_n (by omega), va_up_n (by omega), va_up_n (by omega), va_up_n (by omega), cpy_out (Or.inl hk)]
  exact h k hk
theorem sd_u {Z : Nat → Nat} (s : Nat) : uM (va_up (va_up (va_up (va_up (va_up (va_up (va_cpy Z Z 0 174 58) 215 0) 216 0) 217 0) 218 0) 219 0) 214 s) 174 = fun _ => 0 := by
  funext k
  by_cases hk : k < 5
  · rw [uM_at hk, va_up_n (by omega)]
    match k, hk with
    | 0, _ => rfl
    | 1, _ => rfl
    | 2, _ => rfl
    | 3, _ => rfl
    | 4, _ => rfl
  · exact Z5_uM _ _ k (by omega)
theorem stC_t {f : Nat → Bool} {n : Nat} (h : f n = true) : stC f (n + 1) = ((stC f n).1 + 1, if (stC f n).1 = 0 then nI n else (stC f n).2) := if_pos h
theorem stC_f {f : Nat → Bool} {n : Nat} (h : ¬ f n = true) : stC f (n + 1) = stC f n := if_neg h
set_option maxRecDepth 20000 in
theorem c_X6_stood (g : gG) (q : Nat → Nat) (Na : Nat → Nat → Nat) (Ia : Nat → Nat → Int32) (Ns : Nat → Nat) (Is : Nat → Int32) (r : Int32) (i : Int32) (n : Int32) (what : Int32) (hI : RI (Na, Ia, Ns, Is)) : gCon g mX6_stood 5 0 0 [.ref (q 26), .int r, .int i, .int n, .int what] (wS g q (Na, Ia, Ns, Is)) (fun rv ws' => ∃ S9 : RS, Gq S9 (pM_stood r i n what (Na, Ia, Ns, Is)).2 ∧ rv = some (.int (pM_stood r i n what (Na, Ia, Ns, Is)).1) ∧ ws' = wS g q S9) := by
  refine gCon.of (lv := [(0, .ref (q 26)), (1, .int r), (2, .int i), (3, .int n), (4, .int what)]) (by decide) (gLe rfl) rfl ?_
  refine j_ws (wM g q Na Ia Ns Is) rfl ?_
  have h8 : Na 0 1 ≤ 6 ∧ Na 0 2 ≤ 5 ∧ Na 0 3 ≤ 8 ∧ Na 0 0 ≤ 1 := RI_3 hI
  have h40 : Na 0 40 < 32 ∧ (∀ j, j < 5 → Na 0 (41 + j) ≤ 9999) ∧ (∀ p, p < 6 → Na 0 (46 + p) ≤ 9999 ∧ Na 0 (52 + p) ≤ 989901) ∧ inP (Na 0) ≤ 9999 := RI_40 hI
  have hpm : Ns 2 ≤ 24 := hI.2.1
  have hsz : ∀ r, r < 8 → Na 8 r ≤ 40 := hI.2.2.2.2.2.2.2.1
  have htr : Ns 11 ≤ 16 := hI.2.2.2.2.2.2.2.2.1
  have hst : Is 12 = -1000000 := hI.2.2.2.2.2.2.2.2.2.1
  have htp : Ns 4 ≤ 400 := hI.2.2.2.2.1
  refine j_aload_n 1 dX6_stood_0 rfl 0 rfl ?_
  refine j_getf 4 0 dX6_stood_1 rfl fd_X6_7 rfl rfl ?_
  refine j_iconst (v := (0 : Int32)) 5 dX6_stood_4 rfl (by decide) ?_
  refine j_ialdN 0 6 1 dX6_stood_5 rfl rfl (by decide) (by decide) ?_
  refine j_if_neN ((Na 0) 0) 9 12 dX6_stood_6 rfl rfl (by have z0 := h8.2.2.2; omega) (fun h6 => ?_) (fun h6 => ?_)
  ·
    refine j_iload_n 13 dX6_stood_12 rfl 1 rfl ?_
    refine j_callSE (rest := []) 16 (c_isR g r) [.int (gB (inR r 8))] dX6_stood_13 rfl cs_X6_65 rfl rfl (gLe rfl) (gLe rfl) (gLe rfl) (gLe rfl) rfl ?_
    refine j_if_eqB 19 42 dX6_stood_16 rfl rfl (fun h16 => ?_) (fun h16 => ?_)
    ·
      refine j_ldc (v := (-1000001 : Int32)) 44 dX6_stood_42 rfl wd_4_140 ?_
      refine j_iretI dX6_stood_44 rfl ⟨gLe rfl, gLe rfl, ?_⟩
      have ze : (pM_stood r i n what (Na, Ia, Ns, Is)) = ((-1000001 : Int32), (Na, Ia, Ns, Is)) := by
        rw [pM_stood, if_neg h6, if_pos (by first | exact Or.inl h16 | exact Or.inr (Or.inl h28) | exact Or.inr (Or.inr h39))]
      exact ⟨(Na, Ia, Ns, Is), by rw [ze]; exact ⟨(fun k _ => rfl), ⟨rfl, rfl, rfl, rfl⟩, ⟨rfl, rfl⟩, ⟨rfl, rfl, rfl, rfl, rfl⟩, rfl⟩, congrArg (fun z : Int32 × RS => some (Value.int z.1)) ze.symm, rfl⟩
    ·
      refine j_iload_n 20 dX6_stood_19 rfl 3 rfl ?_
      refine j_i2l 21 dX6_stood_20 rfl ?_
      refine j_lconst (v := 0) 22 dX6_stood_21 rfl (by decide) ?_
      refine j_ldc2 (v := (12 : Int64)) 25 dX6_stood_22 rfl wd_5_90 ?_
      refine j_callSE (rest := []) 28 (c_inR g n 13 (12 : Int64) (12 : Int32) ⟨by decide, by decide⟩) [.int (gB (inR n 13))] dX6_stood_25 rfl cs_X6_61 rfl rfl (gLe rfl) (gLe rfl) (gLe rfl) (gLe rfl) rfl ?_
      refine j_if_eqB 31 42 dX6_stood_28 rfl rfl (fun h28 => ?_) (fun h28 => ?_)
      ·
        refine j_ldc (v := (-1000001 : Int32)) 44 dX6_stood_42 rfl wd_4_140 ?_
        refine j_iretI dX6_stood_44 rfl ⟨gLe rfl, gLe rfl, ?_⟩
        have ze : (pM_stood r i n what (Na, Ia, Ns, Is)) = ((-1000001 : Int32), (Na, Ia, Ns, Is)) := by
          rw [pM_stood, if_neg h6, if_pos (by first | exact Or.inl h16 | exact Or.inr (Or.inl h28) | exact Or.inr (Or.inr h39))]
        exact ⟨(Na, Ia, Ns, Is), by rw [ze]; exact ⟨(fun k _ => rfl), ⟨rfl, rfl, rfl, rfl⟩, ⟨rfl, rfl⟩, ⟨rfl, rfl, rfl, rfl, rfl⟩, rfl⟩, congrArg (fun z : Int32 × RS => some (Value.int z.1)) ze.symm, rfl⟩
      ·
        refine j_iload 33 dX6_stood_31 rfl 4 rfl ?_
        refine j_i2l 34 dX6_stood_33 rfl ?_
        refine j_lconst (v := 0) 35 dX6_stood_34 rfl (by decide) ?_
        refine j_lconst (v := 1) 36 dX6_stood_35 rfl (by decide) ?_
        refine j_callSE (rest := []) 39 (c_inR g what 2 (1 : Int64) (1 : Int32) ⟨by decide, by decide⟩) [.int (gB (inR what 2))] dX6_stood_36 rfl cs_X6_61 rfl rfl (gLe rfl) (gLe rfl) (gLe rfl) (gLe rfl) rfl ?_
        refine j_if_neB 42 45 dX6_stood_39 rfl rfl (fun h39 => ?_) (fun h39 => ?_)
        ·
          obtain ⟨zr, hzr, rfl⟩ := inR_of h16
          obtain ⟨zn, hzn, rfl⟩ := inR_of h28
          have hq1 := RI_P hI (Or.inr (Or.inr (Or.inr h6)))
          have hokp : okP (Na 0) := hq1.2.1
          have hs40 : Na 0 40 < 2 ^ Na 0 2 := hq1.2.2.1
          have hum : ∀ k, uM (Na 0) 0 k ≤ 9999 := by
            intro k
            by_cases hk : k < 5
            · rw [uM_at hk, show 0 + 41 + k = 41 + k by omega]; exact h40.2.1 k hk
            · rw [Z5_uM _ _ k (by omega)]; exact Nat.zero_le _
          refine j_aload_n 46 dX6_stood_45 rfl 0 rfl ?_
          refine j_iload_n 47 dX6_stood_46 rfl 1 rfl ?_
          refine j_iload_n 48 dX6_stood_47 rfl 2 rfl ?_
          refine j_iload_n 49 dX6_stood_48 rfl 3 rfl ?_
          refine j_callVW (rest := []) 52 (c_X6_refusedPairs g q Na Ia Ns Is zr i zn  (by omega) (hsz zr hzr) (by omega) (by omega) (by omega)) [.int (rpA (rfK ((Ia 7) zr) ((Na 8) zr) i (nI (2 * zn))) (areP (Ia 9) (40 * zr + cl i) zn ((Na 0) 3) ((Na 0) 1)))] dX6_stood_49 rfl cv_X6_221 rfl rfl 0 rfl rfl (gLe rfl) (gLe rfl) (gLe rfl) (gLe rfl) (wM_len _ _ _ _ _ _ _ _ _ _) rfl ?_
          refine j_istore 54 [(5, .int (rpA (rfK ((Ia 7) zr) ((Na 8) zr) i (nI (2 * zn))) (areP (Ia 9) (40 * zr + cl i) zn ((Na 0) 3) ((Na 0) 1)))), (0, .ref (q 26)), (1, .int (nI zr)), (2, .int i), (3, .int (nI zn)), (4, .int what)] dX6_stood_52 rfl (by decide) rfl ?_
          refine j_iload 56 dX6_stood_54 rfl 0 rfl ?_
          refine j_if_eq 59 62 dX6_stood_56 rfl rfl (fun h56 => ?_) (fun h56 => ?_)
          ·
            have hrp := (rpA_0 rfK_le).mp h56
            have hrf := hrp.1
            have hsp := (rfK_0 hrf).2
            have hszr := hsz zr hzr
            have hAr0 := hrp.2
            refine j_ws (wM g q Na Ia Ns Is) (by rw [hrf]; rfl) ?_
            obtain ⟨zj, hzj, rfl⟩ := spn_of (by omega) hsp
            rw [cl_nI (by omega)] at hAr0
            have hAr : areP (Ia 9) (40 * zr + zj) zn (Na 0 3) (Na 0 1) := hAr0
            refine j_iconst (v := (0 : Int32)) 63 dX6_stood_62 rfl (by decide) ?_
            refine j_istore 65 [(6, .int (0 : Int32)), (5, .int (rpA (rfK ((Ia 7) zr) ((Na 8) zr) (nI zj) (nI (2 * zn))) (areP (Ia 9) (40 * zr + cl (nI zj)) zn ((Na 0) 3) ((Na 0) 1)))), (0, .ref (q 26)), (1, .int (nI zr)), (2, .int (nI zj)), (3, .int (nI zn)), (4, .int what)] dX6_stood_63 rfl (by decide) rfl ?_
            refine j_ldc (v := (-1000000 : Int32)) 67 dX6_stood_65 rfl wd_4_47 ?_
            refine j_istore 69 [(7, .int (-1000000 : Int32)), (6, .int (0 : Int32)), (5, .int (rpA (rfK ((Ia 7) zr) ((Na 8) zr) (nI zj) (nI (2 * zn))) (areP (Ia 9) (40 * zr + cl (nI zj)) zn ((Na 0) 3) ((Na 0) 1)))), (0, .ref (q 26)), (1, .int (nI zr)), (2, .int (nI zj)), (3, .int (nI zn)), (4, .int what)] dX6_stood_67 rfl (by decide) rfl ?_
            refine j_iconst (v := (0 : Int32)) 70 dX6_stood_69 rfl (by decide) ?_
            refine j_istore 72 [(8, .int (0 : Int32)), (7, .int (-1000000 : Int32)), (6, .int (0 : Int32)), (5, .int (rpA (rfK ((Ia 7) zr) ((Na 8) zr) (nI zj) (nI (2 * zn))) (areP (Ia 9) (40 * zr + cl (nI zj)) zn ((Na 0) 3) ((Na 0) 1)))), (0, .ref (q 26)), (1, .int (nI zr)), (2, .int (nI zj)), (3, .int (nI zn)), (4, .int what)] dX6_stood_70 rfl (by decide) rfl ?_
            have hL72 : ∀ (zm72 : Nat) (zi : Nat) (ZR : Nat → Nat), 33 - zi < zm72 → (zi ≤ 2 ^ Na 0 2) → (eqB ZR (Na 0)) → gJ g mX6_stood 5 0 0 (fun k' j' rv ws' => k' ≤ 0 ∧ j' ≤ 0 ∧ (∃ S9 : RS, Gq S9 (pM_stood (nI zr) (nI zj) (nI zn) what (Na, Ia, Ns, Is)).2 ∧ rv = some (.int (pM_stood (nI zr) (nI zj) (nI zn) what (Na, Ia, Ns, Is)).1) ∧ ws' = wS g q S9)) 0 0 72 [(8, .int (nI zi)), (6, .int (nI ((stC (fun z => cmA (Na 0) 99 (Ia 9) (40 * zr + zj) zn 0 z (fun _ => 0)) zi).1))), (7, .int ((stC (fun z => cmA (Na 0) 99 (Ia 9) (40 * zr + zj) zn 0 z (fun _ => 0)) zi).2)), (0, .ref (q 26)), (1, .int (nI zr)), (2, .int (nI zj)), (3, .int (nI zn)), (4, .int what)] [] (wM g q (va_up Na 0 ZR) Ia Ns Is) := by
              intro zm72
              induction zm72 with
              | zero => intro zi ZR zmh; exact absurd zmh (Nat.not_lt_zero _)
              | succ zm72 zih72 =>
                intro zi ZR zmh72 hz hzE
                refine j_aload_n 73 dX6_stood_72 rfl 3 rfl ?_
                refine j_iload 75 dX6_stood_73 rfl 0 rfl ?_
                have hp32 : 2 ^ Na 0 2 ≤ 2 ^ 5 := Nat.pow_le_pow_right (by decide) h8.2.1
                refine j_callVW (rest := []) 78 (c_X6_areStands g q (va_up Na 0 ZR) Ia Ns Is (nI zi)  (by show ZR 2 ≤ 5; rw [hzE 2 (by decide)]; exact h8.2.1)) [.int (gB (inR (nI zi) (2 ^ ZR 2)))] dX6_stood_75 rfl cv_X6_211 rfl rfl 0 rfl rfl (gLe rfl) (gLe rfl) (gLe rfl) (gLe rfl) (wM_len _ _ _ _ _ _ _ _ _ _) rfl ?_
                refine j_topI _ (gB (zi < 2 ^ Na 0 2)) (gB_iff (by show inR (nI zi) (2 ^ ZR 2) ↔ _; rw [hzE 2 (by decide)]; exact inR_nI (by omega))) ?_
                refine j_if_eqB 81 163 dX6_stood_78 rfl rfl (fun h78 => ?_) (fun h78 => ?_)
                ·
                  refine j_aload_n 164 dX6_stood_163 rfl 3 rfl ?_
                  refine j_iload 166 dX6_stood_164 rfl 7 rfl ?_
                  refine j_if_ne 169 174 dX6_stood_166 rfl rfl (fun h166 => ?_) (fun h166 => ?_)
                  ·
                    refine j_iload 176 dX6_stood_174 rfl 2 rfl ?_
                    refine j_callVW (rest := []) 179 (c_X6_give g q (va_up Na 0 ZR) Ia Ns Is ((stC (fun z => cmA (Na 0) 99 (Ia 9) (40 * zr + zj) zn 0 z (fun _ => 0)) zi).2)  ) [.int ((stC (fun z => cmA (Na 0) 99 (Ia 9) (40 * zr + zj) zn 0 z (fun _ => 0)) zi).2)] dX6_stood_176 rfl cv_X6_76 rfl rfl 0 rfl rfl (gLe rfl) (gLe rfl) (gLe rfl) (gLe rfl) (wM_len _ _ _ _ _ _ _ _ _ _) rfl ?_
                    refine j_iretI dX6_stood_179 rfl ⟨gLe rfl, gLe rfl, ?_⟩
                    have ze : (pM_stood (nI zr) (nI zj) (nI zn) what (Na, Ia, Ns, Is)) = (((stC (fun z => cmA (Na 0) 99 (Ia 9) (40 * zr + zj) zn 0 z (fun _ => 0)) zi).2), (Na, Ia, va_up Ns 6 0, Is)) := by
                      have ye : zi = 2 ^ Na 0 2 := by omega
                      have yw : rpW (nI zr) (nI zj) (nI zn) (Na, Ia, Ns, Is) = 0 := by
                        rw [rpW, cl_nI (by omega), cl_nI (by omega), cl_nI (by omega)]
                        exact (rpA_0 rfK_le).mpr ⟨hrf, hAr⟩
                      rw [pM_stood, if_neg h6, if_neg (fun z => z.elim (fun z => z h16) (fun z => z.elim (fun z => z h28) (fun z => z h39))), yw, if_neg (fun z => z rfl), cl_nI (by omega), cl_nI (by omega), cl_nI (by omega), if_neg h166, ye]
                      rfl
                    exact ⟨((va_up Na 0 ZR), Ia, (va_up Ns 6 0), Is), by rw [ze]; exact ⟨hzE, ⟨rfl, rfl, rfl, rfl⟩, ⟨rfl, rfl⟩, ⟨rfl, rfl, rfl, rfl, rfl⟩, rfl⟩, congrArg (fun z : Int32 × RS => some (Value.int z.1)) ze.symm, rfl⟩
                  ·
                    refine j_iload 171 dX6_stood_169 rfl 1 rfl ?_
                    refine j_goto 176 dX6_stood_171 rfl ?_
                    refine j_callVW (rest := []) 179 (c_X6_give g q (va_up Na 0 ZR) Ia Ns Is (nI ((stC (fun z => cmA (Na 0) 99 (Ia 9) (40 * zr + zj) zn 0 z (fun _ => 0)) zi).1))  ) [.int (nI ((stC (fun z => cmA (Na 0) 99 (Ia 9) (40 * zr + zj) zn 0 z (fun _ => 0)) zi).1))] dX6_stood_176 rfl cv_X6_76 rfl rfl 0 rfl rfl (gLe rfl) (gLe rfl) (gLe rfl) (gLe rfl) (wM_len _ _ _ _ _ _ _ _ _ _) rfl ?_
                    refine j_iretI dX6_stood_179 rfl ⟨gLe rfl, gLe rfl, ?_⟩
                    have ze : (pM_stood (nI zr) (nI zj) (nI zn) what (Na, Ia, Ns, Is)) = ((nI ((stC (fun z => cmA (Na 0) 99 (Ia 9) (40 * zr + zj) zn 0 z (fun _ => 0)) zi).1)), (Na, Ia, va_up Ns 6 0, Is)) := by
                      have ye : zi = 2 ^ Na 0 2 := by omega
                      have yw : rpW (nI zr) (nI zj) (nI zn) (Na, Ia, Ns, Is) = 0 := by
                        rw [rpW, cl_nI (by omega), cl_nI (by omega), cl_nI (by omega)]
                        exact (rpA_0 rfK_le).mpr ⟨hrf, hAr⟩
                      rw [pM_stood, if_neg h6, if_neg (fun z => z.elim (fun z => z h16) (fun z => z.elim (fun z => z h28) (fun z => z h39))), yw, if_neg (fun z => z rfl), cl_nI (by omega), cl_nI (by omega), cl_nI (by omega), if_pos h166, ye]
                      rfl
                    exact ⟨((va_up Na 0 ZR), Ia, (va_up Ns 6 0), Is), by rw [ze]; exact ⟨hzE, ⟨rfl, rfl, rfl, rfl⟩, ⟨rfl, rfl⟩, ⟨rfl, rfl, rfl, rfl, rfl⟩, rfl⟩, congrArg (fun z : Int32 × RS => some (Value.int z.1)) ze.symm, rfl⟩
                ·
                  refine j_aload_n 82 dX6_stood_81 rfl 3 rfl ?_
                  refine j_iconst (v := (0 : Int32)) 83 dX6_stood_82 rfl (by decide) ?_
                  refine j_sipush (v := (174 : Int32)) 86 dX6_stood_83 rfl (by decide) ?_
                  refine j_callVW (rest := []) 89 (c_X6_copyRow g q (va_up Na 0 ZR) Ia Ns Is 0 174  (by decide) (by decide) (by decide)) [] dX6_stood_86 rfl cv_X6_224 rfl rfl 0 rfl rfl (gLe rfl) (gLe rfl) (gLe rfl) (gLe rfl) (wM_len _ _ _ _ _ _ _ _ _ _) rfl ?_
                  refine j_iconst (v := (0 : Int32)) 90 dX6_stood_89 rfl (by decide) ?_
                  refine j_istore 92 [(9, .int (0 : Int32)), (8, .int (nI zi)), (6, .int (nI ((stC (fun z => cmA (Na 0) 99 (Ia 9) (40 * zr + zj) zn 0 z (fun _ => 0)) zi).1))), (7, .int ((stC (fun z => cmA (Na 0) 99 (Ia 9) (40 * zr + zj) zn 0 z (fun _ => 0)) zi).2)), (0, .ref (q 26)), (1, .int (nI zr)), (2, .int (nI zj)), (3, .int (nI zn)), (4, .int what)] dX6_stood_90 rfl (by decide) rfl ?_
                  refine j_iload 94 dX6_stood_92 rfl 0 rfl ?_
                  refine j_iconst (v := (5 : Int32)) 95 dX6_stood_94 rfl (by decide) ?_
                  refine j_icmp_geN 0 5 98 116 dX6_stood_95 rfl rfl (by decide) (by decide) (fun h95 => absurd h95 (by decide)) (fun h95 => ?_)
                  refine j_aload_n 99 dX6_stood_98 rfl 4 rfl ?_
                  refine j_getf 102 0 dX6_stood_99 rfl fd_X6_7 rfl rfl ?_
                  refine j_sipush (v := (215 : Int32)) 105 dX6_stood_102 rfl (by decide) ?_
                  refine j_iload 107 dX6_stood_105 rfl 0 rfl ?_
                  refine j_iaddN 215 0 108 dX6_stood_107 rfl ?_
                  refine j_iconst (v := (0 : Int32)) 109 dX6_stood_108 rfl (by decide) ?_
                  refine j_iastN 0 215 110 1 (wM g q (va_up Na 0 (va_up (va_cpy ZR ZR 0 174 58) 215 0)) Ia Ns Is) dX6_stood_109 rfl rfl (by decide) (by decide) rfl ?_
                  refine j_iincN 0 1 113 [(9, .int (nI 1)), (8, .int (nI zi)), (6, .int (nI ((stC (fun z => cmA (Na 0) 99 (Ia 9) (40 * zr + zj) zn 0 z (fun _ => 0)) zi).1))), (7, .int ((stC (fun z => cmA (Na 0) 99 (Ia 9) (40 * zr + zj) zn 0 z (fun _ => 0)) zi).2)), (0, .ref (q 26)), (1, .int (nI zr)), (2, .int (nI zj)), (3, .int (nI zn)), (4, .int what)] dX6_stood_110 rfl 0 rfl (by decide) rfl ?_
                  refine j_goto 92 dX6_stood_113 rfl ?_
                  refine j_iload 94 dX6_stood_92 rfl 0 rfl ?_
                  refine j_iconst (v := (5 : Int32)) 95 dX6_stood_94 rfl (by decide) ?_
                  refine j_icmp_geN 1 5 98 116 dX6_stood_95 rfl rfl (by decide) (by decide) (fun h95 => absurd h95 (by decide)) (fun h95 => ?_)
                  refine j_aload_n 99 dX6_stood_98 rfl 4 rfl ?_
                  refine j_getf 102 0 dX6_stood_99 rfl fd_X6_7 rfl rfl ?_
                  refine j_sipush (v := (215 : Int32)) 105 dX6_stood_102 rfl (by decide) ?_
                  refine j_iload 107 dX6_stood_105 rfl 0 rfl ?_
                  refine j_iaddN 215 1 108 dX6_stood_107 rfl ?_
                  refine j_iconst (v := (0 : Int32)) 109 dX6_stood_108 rfl (by decide) ?_
                  refine j_iastN 0 216 110 1 (wM g q (va_up Na 0 (va_up (va_up (va_cpy ZR ZR 0 174 58) 215 0) 216 0)) Ia Ns Is) dX6_stood_109 rfl rfl (by decide) (by decide) rfl ?_
                  refine j_iincN 1 1 113 [(9, .int (nI 2)), (8, .int (nI zi)), (6, .int (nI ((stC (fun z => cmA (Na 0) 99 (Ia 9) (40 * zr + zj) zn 0 z (fun _ => 0)) zi).1))), (7, .int ((stC (fun z => cmA (Na 0) 99 (Ia 9) (40 * zr + zj) zn 0 z (fun _ => 0)) zi).2)), (0, .ref (q 26)), (1, .int (nI zr)), (2, .int (nI zj)), (3, .int (nI zn)), (4, .int what)] dX6_stood_110 rfl 0 rfl (by decide) rfl ?_
                  refine j_goto 92 dX6_stood_113 rfl ?_
                  refine j_iload 94 dX6_stood_92 rfl 0 rfl ?_
                  refine j_iconst (v := (5 : Int32)) 95 dX6_stood_94 rfl (by decide) ?_
                  refine j_icmp_geN 2 5 98 116 dX6_stood_95 rfl rfl (by decide) (by decide) (fun h95 => absurd h95 (by decide)) (fun h95 => ?_)
                  refine j_aload_n 99 dX6_stood_98 rfl 4 rfl ?_
                  refine j_getf 102 0 dX6_stood_99 rfl fd_X6_7 rfl rfl ?_
                  refine j_sipush (v := (215 : Int32)) 105 dX6_stood_102 rfl (by decide) ?_
                  refine j_iload 107 dX6_stood_105 rfl 0 rfl ?_
                  refine j_iaddN 215 2 108 dX6_stood_107 rfl ?_
                  refine j_iconst (v := (0 : Int32)) 109 dX6_stood_108 rfl (by decide) ?_
                  refine j_iastN 0 217 110 1 (wM g q (va_up Na 0 (va_up (va_up (va_up (va_cpy ZR ZR 0 174 58) 215 0) 216 0) 217 0)) Ia Ns Is) dX6_stood_109 rfl rfl (by decide) (by decide) rfl ?_
                  refine j_iincN 2 1 113 [(9, .int (nI 3)), (8, .int (nI zi)), (6, .int (nI ((stC (fun z => cmA (Na 0) 99 (Ia 9) (40 * zr + zj) zn 0 z (fun _ => 0)) zi).1))), (7, .int ((stC (fun z => cmA (Na 0) 99 (Ia 9) (40 * zr + zj) zn 0 z (fun _ => 0)) zi).2)), (0, .ref (q 26)), (1, .int (nI zr)), (2, .int (nI zj)), (3, .int (nI zn)), (4, .int what)] dX6_stood_110 rfl 0 rfl (by decide) rfl ?_
                  refine j_goto 92 dX6_stood_113 rfl ?_
                  refine j_iload 94 dX6_stood_92 rfl 0 rfl ?_
                  refine j_iconst (v := (5 : Int32)) 95 dX6_stood_94 rfl (by decide) ?_
                  refine j_icmp_geN 3 5 98 116 dX6_stood_95 rfl rfl (by decide) (by decide) (fun h95 => absurd h95 (by decide)) (fun h95 => ?_)
                  refine j_aload_n 99 dX6_stood_98 rfl 4 rfl ?_
                  refine j_getf 102 0 dX6_stood_99 rfl fd_X6_7 rfl rfl ?_
                  refine j_sipush (v := (215 : Int32)) 105 dX6_stood_102 rfl (by decide) ?_
                  refine j_iload 107 dX6_stood_105 rfl 0 rfl ?_
                  refine j_iaddN 215 3 108 dX6_stood_107 rfl ?_
                  refine j_iconst (v := (0 : Int32)) 109 dX6_stood_108 rfl (by decide) ?_
                  refine j_iastN 0 218 110 1 (wM g q (va_up Na 0 (va_up (va_up (va_up (va_up (va_cpy ZR ZR 0 174 58) 215 0) 216 0) 217 0) 218 0)) Ia Ns Is) dX6_stood_109 rfl rfl (by decide) (by decide) rfl ?_
                  refine j_iincN 3 1 113 [(9, .int (nI 4)), (8, .int (nI zi)), (6, .int (nI ((stC (fun z => cmA (Na 0) 99 (Ia 9) (40 * zr + zj) zn 0 z (fun _ => 0)) zi).1))), (7, .int ((stC (fun z => cmA (Na 0) 99 (Ia 9) (40 * zr + zj) zn 0 z (fun _ => 0)) zi).2)), (0, .ref (q 26)), (1, .int (nI zr)), (2, .int (nI zj)), (3, .int (nI zn)), (4, .int what)] dX6_stood_110 rfl 0 rfl (by decide) rfl ?_
                  refine j_goto 92 dX6_stood_113 rfl ?_
                  refine j_iload 94 dX6_stood_92 rfl 0 rfl ?_
                  refine j_iconst (v := (5 : Int32)) 95 dX6_stood_94 rfl (by decide) ?_
                  refine j_icmp_geN 4 5 98 116 dX6_stood_95 rfl rfl (by decide) (by decide) (fun h95 => absurd h95 (by decide)) (fun h95 => ?_)
                  refine j_aload_n 99 dX6_stood_98 rfl 4 rfl ?_
                  refine j_getf 102 0 dX6_stood_99 rfl fd_X6_7 rfl rfl ?_
                  refine j_sipush (v := (215 : Int32)) 105 dX6_stood_102 rfl (by decide) ?_
                  refine j_iload 107 dX6_stood_105 rfl 0 rfl ?_
                  refine j_iaddN 215 4 108 dX6_stood_107 rfl ?_
                  refine j_iconst (v := (0 : Int32)) 109 dX6_stood_108 rfl (by decide) ?_
                  refine j_iastN 0 219 110 1 (wM g q (va_up Na 0 (va_up (va_up (va_up (va_up (va_up (va_cpy ZR ZR 0 174 58) 215 0) 216 0) 217 0) 218 0) 219 0)) Ia Ns Is) dX6_stood_109 rfl rfl (by decide) (by decide) rfl ?_
                  refine j_iincN 4 1 113 [(9, .int (nI 5)), (8, .int (nI zi)), (6, .int (nI ((stC (fun z => cmA (Na 0) 99 (Ia 9) (40 * zr + zj) zn 0 z (fun _ => 0)) zi).1))), (7, .int ((stC (fun z => cmA (Na 0) 99 (Ia 9) (40 * zr + zj) zn 0 z (fun _ => 0)) zi).2)), (0, .ref (q 26)), (1, .int (nI zr)), (2, .int (nI zj)), (3, .int (nI zn)), (4, .int what)] dX6_stood_110 rfl 0 rfl (by decide) rfl ?_
                  refine j_goto 92 dX6_stood_113 rfl ?_
                  refine j_iload 94 dX6_stood_92 rfl 0 rfl ?_
                  refine j_iconst (v := (5 : Int32)) 95 dX6_stood_94 rfl (by decide) ?_
                  refine j_icmp_geN 5 5 98 116 dX6_stood_95 rfl rfl (by decide) (by decide) (fun h95 => ?_) (fun h95 => absurd h95 (by decide))
                  refine j_aload_n 117 dX6_stood_116 rfl 4 rfl ?_
                  refine j_getf 120 0 dX6_stood_117 rfl fd_X6_7 rfl rfl ?_
                  refine j_sipush (v := (214 : Int32)) 123 dX6_stood_120 rfl (by decide) ?_
                  refine j_iload 125 dX6_stood_123 rfl 1 rfl ?_
                  refine j_iastN zi 214 126 1 (wM g q (va_up Na 0 (va_up (va_up (va_up (va_up (va_up (va_up (va_cpy ZR ZR 0 174 58) 215 0) 216 0) 217 0) 218 0) 219 0) 214 zi)) Ia Ns Is) dX6_stood_125 rfl rfl (by decide) (by decide) rfl ?_
                  have hxE := sd_E hzE zi
                  have hxu := sd_u (Z := ZR) zi
                  refine j_aload_n 127 dX6_stood_126 rfl 4 rfl ?_
                  refine j_bipush (v := (40 : Int32)) 129 dX6_stood_127 rfl (by decide) ?_
                  refine j_iload_n 130 dX6_stood_129 rfl 5 rfl ?_
                  refine j_imulN 40 zr 131 dX6_stood_130 rfl ?_
                  refine j_iload_n 132 dX6_stood_131 rfl 6 rfl ?_
                  refine j_iaddN (40 * zr) zj 133 dX6_stood_132 rfl ?_
                  refine j_iload_n 134 dX6_stood_133 rfl 7 rfl ?_
                  refine j_callVX (rest := []) 137 (c_X6_comeSo g q (va_up Na 0 (va_up (va_up (va_up (va_up (va_up (va_up (va_cpy ZR ZR 0 174 58) 215 0) 216 0) 217 0) 218 0) 219 0) 214 zi)) Ia Ns Is ((40 * zr) + zj) zn 99 hst (okP_eq (eqB_P hxE) hokp) (by show zi < 2 ^ (va_up (va_up (va_up (va_up (va_up (va_up (va_cpy ZR ZR 0 174 58) 215 0) 216 0) 217 0) 218 0) 219 0) 214 zi) 2; rw [hxE 2 (by decide)]; exact h78) (by show ∀ k, uM (va_up (va_up (va_up (va_up (va_up (va_up (va_cpy ZR ZR 0 174 58) 215 0) 216 0) 217 0) 218 0) 219 0) 214 zi) 174 k ≤ _; rw [hxu]; exact fun _ => Nat.zero_le _) (by omega) (by show areP (Ia 9) _ _ ((va_up (va_up (va_up (va_up (va_up (va_up (va_cpy ZR ZR 0 174 58) 215 0) 216 0) 217 0) 218 0) 219 0) 214 zi) 3) ((va_up (va_up (va_up (va_up (va_up (va_up (va_cpy ZR ZR 0 174 58) 215 0) 216 0) 217 0) 218 0) 219 0) 214 zi) 1); rw [hxE 3 (by decide), hxE 1 (by decide)]; exact hAr)) dX6_stood_134 rfl cv_X6_227 rfl rfl 0 rfl rfl (gLe rfl) (gLe rfl) (gLe rfl) (gLe rfl) (fun rv w1 hp => ?_)
                  obtain ⟨Z1_1, hZ1_1, rfl, rfl⟩ := hp
                  refine ⟨(wM_len _ _ _ _ _ _ _ _ _ _), ?_⟩
                  refine j_eq (lv2 := [(9, .int (nI 5)), (8, .int (nI zi)), (6, .int (nI ((stC (fun z => cmA (Na 0) 99 (Ia 9) (40 * zr + zj) zn 0 z (fun _ => 0)) zi).1))), (7, .int ((stC (fun z => cmA (Na 0) 99 (Ia 9) (40 * zr + zj) zn 0 z (fun _ => 0)) zi).2)), (0, .ref (q 26)), (1, .int (nI zr)), (2, .int (nI zj)), (3, .int (nI zn)), (4, .int what)]) (st2 := [.int (gB (cmA (va_up (va_up (va_up (va_up (va_up (va_up (va_cpy ZR ZR 0 174 58) 215 0) 216 0) 217 0) 218 0) 219 0) 214 zi) 99 (Ia 9) ((40 * zr) + zj) zn 0 ((va_up (va_up (va_up (va_up (va_up (va_up (va_cpy ZR ZR 0 174 58) 215 0) 216 0) 217 0) 218 0) 219 0) 214 zi) 214) (uM (va_up (va_up (va_up (va_up (va_up (va_up (va_cpy ZR ZR 0 174 58) 215 0) 216 0) 217 0) 218 0) 219 0) 214 zi) 174) = true))]) (ws2 := (wM g q (va_up Na 0 Z1_1) Ia Ns Is)) rfl rfl rfl ?_
                  refine j_topI _ (gB ((fun z => cmA (Na 0) 99 (Ia 9) (40 * zr + zj) zn 0 z (fun _ => 0)) zi = true)) (gB_iff (by show cmA (va_up (va_up (va_up (va_up (va_up (va_up (va_cpy ZR ZR 0 174 58) 215 0) 216 0) 217 0) 218 0) 219 0) 214 zi) 99 (Ia 9) _ _ 0 zi (uM (va_up (va_up (va_up (va_up (va_up (va_up (va_cpy ZR ZR 0 174 58) 215 0) 216 0) 217 0) 218 0) 219 0) 214 zi) 174) = true ↔ _; rw [hxu, cmA_eq hokp hxE zn 0 _ _ (areP_cl hAr (by omega))])) ?_
                  refine j_if_eqB 140 157 dX6_stood_137 rfl rfl (fun h137 => ?_) (fun h137 => ?_)
                  ·
                    refine j_iincN zi 1 160 [(8, .int (nI (zi + 1))), (9, .int (nI 5)), (6, .int (nI ((stC (fun z => cmA (Na 0) 99 (Ia 9) (40 * zr + zj) zn 0 z (fun _ => 0)) zi).1))), (7, .int ((stC (fun z => cmA (Na 0) 99 (Ia 9) (40 * zr + zj) zn 0 z (fun _ => 0)) zi).2)), (0, .ref (q 26)), (1, .int (nI zr)), (2, .int (nI zj)), (3, .int (nI zn)), (4, .int what)] dX6_stood_157 rfl 1 rfl (by decide) rfl ?_
                    refine j_goto 72 dX6_stood_160 rfl ?_
                    refine j_lv [0, 2, 3, 4, 5, 6, 7, 8] rfl ?_
                    refine j_lvs [(8, .int (nI (zi + 1))), (6, .int (nI ((stC (fun z => cmA (Na 0) 99 (Ia 9) (40 * zr + zj) zn 0 z (fun _ => 0)) (zi + 1)).1))), (7, .int ((stC (fun z => cmA (Na 0) 99 (Ia 9) (40 * zr + zj) zn 0 z (fun _ => 0)) (zi + 1)).2)), (0, .ref (q 26)), (1, .int (nI zr)), (2, .int (nI zj)), (3, .int (nI zn)), (4, .int what)] (by rw [stC_f h137]; rfl) ?_
                    exact zih72 (zi + 1) Z1_1 (by omega) (by omega) (eqB_trans hZ1_1 hxE)
                  ·
                    have hmn := stC_le (fun z => cmA (Na 0) 99 (Ia 9) (40 * zr + zj) zn 0 z (fun _ => 0)) zi
                    refine j_iload 142 dX6_stood_140 rfl 2 rfl ?_
                    refine j_if_neN ((stC (fun z => cmA (Na 0) 99 (Ia 9) (40 * zr + zj) zn 0 z (fun _ => 0)) zi).1) 145 150 dX6_stood_142 rfl rfl (by have z0 := hmn; omega) (fun h142 => ?_) (fun h142 => ?_)
                    ·
                      refine j_iload 152 dX6_stood_150 rfl 3 rfl ?_
                      refine j_istore 154 [(7, .int ((stC (fun z => cmA (Na 0) 99 (Ia 9) (40 * zr + zj) zn 0 z (fun _ => 0)) zi).2)), (9, .int (nI 5)), (8, .int (nI zi)), (6, .int (nI ((stC (fun z => cmA (Na 0) 99 (Ia 9) (40 * zr + zj) zn 0 z (fun _ => 0)) zi).1))), (0, .ref (q 26)), (1, .int (nI zr)), (2, .int (nI zj)), (3, .int (nI zn)), (4, .int what)] dX6_stood_152 rfl (by decide) rfl ?_
                      refine j_iincN ((stC (fun z => cmA (Na 0) 99 (Ia 9) (40 * zr + zj) zn 0 z (fun _ => 0)) zi).1) 1 157 [(6, .int (nI ((stC (fun z => cmA (Na 0) 99 (Ia 9) (40 * zr + zj) zn 0 z (fun _ => 0)) zi).1 + 1))), (7, .int ((stC (fun z => cmA (Na 0) 99 (Ia 9) (40 * zr + zj) zn 0 z (fun _ => 0)) zi).2)), (9, .int (nI 5)), (8, .int (nI zi)), (0, .ref (q 26)), (1, .int (nI zr)), (2, .int (nI zj)), (3, .int (nI zn)), (4, .int what)] dX6_stood_154 rfl 3 rfl (by decide) rfl ?_
                      refine j_iincN zi 1 160 [(8, .int (nI (zi + 1))), (6, .int (nI ((stC (fun z => cmA (Na 0) 99 (Ia 9) (40 * zr + zj) zn 0 z (fun _ => 0)) zi).1 + 1))), (7, .int ((stC (fun z => cmA (Na 0) 99 (Ia 9) (40 * zr + zj) zn 0 z (fun _ => 0)) zi).2)), (9, .int (nI 5)), (0, .ref (q 26)), (1, .int (nI zr)), (2, .int (nI zj)), (3, .int (nI zn)), (4, .int what)] dX6_stood_157 rfl 3 rfl (by decide) rfl ?_
                      refine j_goto 72 dX6_stood_160 rfl ?_
                      refine j_lv [0, 1, 2, 4, 5, 6, 7, 8] rfl ?_
                      refine j_lvs [(8, .int (nI (zi + 1))), (6, .int (nI ((stC (fun z => cmA (Na 0) 99 (Ia 9) (40 * zr + zj) zn 0 z (fun _ => 0)) (zi + 1)).1))), (7, .int ((stC (fun z => cmA (Na 0) 99 (Ia 9) (40 * zr + zj) zn 0 z (fun _ => 0)) (zi + 1)).2)), (0, .ref (q 26)), (1, .int (nI zr)), (2, .int (nI zj)), (3, .int (nI zn)), (4, .int what)] (by rw [stC_t h137, if_neg h142]; rfl) ?_
                      exact zih72 (zi + 1) Z1_1 (by omega) (by omega) (eqB_trans hZ1_1 hxE)
                    ·
                      refine j_iload 147 dX6_stood_145 rfl 1 rfl ?_
                      refine j_goto 152 dX6_stood_147 rfl ?_
                      refine j_istore 154 [(7, .int (nI zi)), (9, .int (nI 5)), (8, .int (nI zi)), (6, .int (nI ((stC (fun z => cmA (Na 0) 99 (Ia 9) (40 * zr + zj) zn 0 z (fun _ => 0)) zi).1))), (0, .ref (q 26)), (1, .int (nI zr)), (2, .int (nI zj)), (3, .int (nI zn)), (4, .int what)] dX6_stood_152 rfl (by decide) rfl ?_
                      refine j_iincN ((stC (fun z => cmA (Na 0) 99 (Ia 9) (40 * zr + zj) zn 0 z (fun _ => 0)) zi).1) 1 157 [(6, .int (nI ((stC (fun z => cmA (Na 0) 99 (Ia 9) (40 * zr + zj) zn 0 z (fun _ => 0)) zi).1 + 1))), (7, .int (nI zi)), (9, .int (nI 5)), (8, .int (nI zi)), (0, .ref (q 26)), (1, .int (nI zr)), (2, .int (nI zj)), (3, .int (nI zn)), (4, .int what)] dX6_stood_154 rfl 3 rfl (by decide) rfl ?_
                      refine j_iincN zi 1 160 [(8, .int (nI (zi + 1))), (6, .int (nI ((stC (fun z => cmA (Na 0) 99 (Ia 9) (40 * zr + zj) zn 0 z (fun _ => 0)) zi).1 + 1))), (7, .int (nI zi)), (9, .int (nI 5)), (0, .ref (q 26)), (1, .int (nI zr)), (2, .int (nI zj)), (3, .int (nI zn)), (4, .int what)] dX6_stood_157 rfl 3 rfl (by decide) rfl ?_
                      refine j_goto 72 dX6_stood_160 rfl ?_
                      refine j_lv [0, 1, 2, 4, 5, 6, 7, 8] rfl ?_
                      refine j_lvs [(8, .int (nI (zi + 1))), (6, .int (nI ((stC (fun z => cmA (Na 0) 99 (Ia 9) (40 * zr + zj) zn 0 z (fun _ => 0)) (zi + 1)).1))), (7, .int ((stC (fun z => cmA (Na 0) 99 (Ia 9) (40 * zr + zj) zn 0 z (fun _ => 0)) (zi + 1)).2)), (0, .ref (q 26)), (1, .int (nI zr)), (2, .int (nI zj)), (3, .int (nI zn)), (4, .int what)] (by rw [stC_t h137, if_pos h142]; rfl) ?_
                      exact zih72 (zi + 1) Z1_1 (by omega) (by omega) (eqB_trans hZ1_1 hxE)
            refine j_lv [0, 2, 1, 4, 5, 6, 7, 8] rfl ?_
            exact hL72 _ 0 (Na 0) (Nat.lt_succ_self _) (Nat.zero_le _) (fun k _ => rfl)
          ·
            refine j_iload 61 dX6_stood_59 rfl 0 rfl ?_
            refine j_iretI dX6_stood_61 rfl ⟨gLe rfl, gLe rfl, ?_⟩
            have ze : (pM_stood (nI zr) i (nI zn) what (Na, Ia, Ns, Is)) = ((rpA (rfK ((Ia 7) zr) ((Na 8) zr) i (nI (2 * zn))) (areP (Ia 9) (40 * zr + cl i) zn ((Na 0) 3) ((Na 0) 1))), (Na, Ia, (va_up Ns 6 (stsA (Ns 6) (rfK ((Ia 7) zr) ((Na 8) zr) i (nI (2 * zn))))), Is)) := by
              have yw : rpW (nI zr) i (nI zn) (Na, Ia, Ns, Is) = rpA (rfK (Ia 7 zr) (Na 8 zr) i (nI (2 * zn))) (areP (Ia 9) (40 * zr + cl i) zn (Na 0 3) (Na 0 1)) := by
                rw [rpW, cl_nI (by omega), cl_nI (by omega)]
              have yn : rpN (nI zr) i (nI zn) (Na, Ia, Ns, Is) = stsA (Ns 6) (rfK (Ia 7 zr) (Na 8 zr) i (nI (2 * zn))) := by
                rw [rpN, cl_nI (by omega), cl_nI (by omega)]
              rw [pM_stood, if_neg h6, if_neg (fun z => z.elim (fun z => z h16) (fun z => z.elim (fun z => z h28) (fun z => z h39))), yw, yn, if_pos h56]
              rfl
            exact ⟨(Na, Ia, (va_up Ns 6 (stsA (Ns 6) (rfK ((Ia 7) zr) ((Na 8) zr) i (nI (2 * zn))))), Is), by rw [ze]; exact ⟨(fun k _ => rfl), ⟨rfl, rfl, rfl, rfl⟩, ⟨rfl, rfl⟩, ⟨rfl, rfl, rfl, rfl, rfl⟩, rfl⟩, congrArg (fun z : Int32 × RS => some (Value.int z.1)) ze.symm, rfl⟩
        ·
          refine j_ldc (v := (-1000001 : Int32)) 44 dX6_stood_42 rfl wd_4_140 ?_
          refine j_iretI dX6_stood_44 rfl ⟨gLe rfl, gLe rfl, ?_⟩
          have ze : (pM_stood r i n what (Na, Ia, Ns, Is)) = ((-1000001 : Int32), (Na, Ia, Ns, Is)) := by
            rw [pM_stood, if_neg h6, if_pos (by first | exact Or.inl h16 | exact Or.inr (Or.inl h28) | exact Or.inr (Or.inr h39))]
          exact ⟨(Na, Ia, Ns, Is), by rw [ze]; exact ⟨(fun k _ => rfl), ⟨rfl, rfl, rfl, rfl⟩, ⟨rfl, rfl⟩, ⟨rfl, rfl, rfl, rfl, rfl⟩, rfl⟩, congrArg (fun z : Int32 × RS => some (Value.int z.1)) ze.symm, rfl⟩
  ·
    refine j_ldc (v := (-1000002 : Int32)) 11 dX6_stood_9 rfl wd_5_47 ?_
    refine j_iretI dX6_stood_11 rfl ⟨gLe rfl, gLe rfl, ?_⟩
    have ze : (pM_stood r i n what (Na, Ia, Ns, Is)) = ((-1000002 : Int32), (Na, Ia, Ns, Is)) := by
      exact if_pos h6
    exact ⟨(Na, Ia, Ns, Is), by rw [ze]; exact ⟨(fun k _ => rfl), ⟨rfl, rfl, rfl, rfl⟩, ⟨rfl, rfl⟩, ⟨rfl, rfl, rfl, rfl, rfl⟩, rfl⟩, congrArg (fun z : Int32 × RS => some (Value.int z.1)) ze.symm, rfl⟩
