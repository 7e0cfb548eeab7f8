def cpD (it : Nat → Int32) (sp dp n i : Nat) (c : Prop) [Decidable c] : Nat → Int32 := if c then va_cpy it it (sp + (n - i)) (dp + (n - i)) i else va_cpy it it sp dp i
theorem cpD_0 {it : Nat → Int32} {sp dp n : Nat} {c : Prop} [Decidable c] : cpD it sp dp n 0 c = it := by
  unfold cpD
  split <;> exact cpy_0 _ _ _ _
theorem cpD_n {it : Nat → Int32} {sp dp n : Nat} {c : Prop} [Decidable c] : cpD it sp dp n n c = va_cpy it it sp dp n := by
  unfold cpD
  split
  · rw [Nat.sub_self]; rfl
  · rfl
theorem upd_cpF (it : Nat → Int32) (sp dp i : Nat) : upd (va_cpy it it sp dp i) (dp + i) (it (sp + i)) = va_cpy it it sp dp (i + 1) := cpy_s it it sp dp i
theorem upd_cpB (it : Nat → Int32) (sp dp n i : Nat) (h : i < n) : upd (va_cpy it it (sp + (n - i)) (dp + (n - i)) i) (dp + (n - 1 - i)) (it (sp + (n - 1 - i))) = va_cpy it it (sp + (n - (i + 1))) (dp + (n - (i + 1))) (i + 1) := by
  funext k
  simp only [va_cpy, upd]
  by_cases h1 : k = dp + (n - 1 - i)
  · rw [if_pos h1, if_pos (by omega)]
    exact congrArg it (by omega)
  · rw [if_neg h1]
    by_cases h2 : dp + (n - i) ≤ k ∧ k < dp + (n - i) + i
    · rw [if_pos h2, if_pos (by omega)]
      exact congrArg it (by omega)
    · rw [if_neg h2, if_neg (by omega)]
set_option maxRecDepth 20000 in
theorem c_X6_set (g : gG) (q : Nat → Nat) (Na : Nat → Nat → Nat) (Ia : Nat → Nat → Int32) (Ns : Nat → Nat) (Is : Nat → Int32) (r : Int32) (i : Int32) (v : Int32) (hI : RI (Na, Ia, Ns, Is)) : gCon g mX6_set 2 0 0 [.ref (q 26), .int r, .int i, .int v] (wS g q (Na, Ia, Ns, Is)) (fun rv ws' => rv = some (.int (pM_set r i v (Na, Ia, Ns, Is)).1) ∧ ws' = wS g q (pM_set r i v (Na, Ia, Ns, Is)).2) := by
  refine gCon.of (lv := [(0, .ref (q 26)), (1, .int r), (2, .int i), (3, .int v)]) (by decide) (gLe rfl) rfl ?_
  refine j_ws (wM g q Na Ia Ns Is) rfl ?_
  have h8 : Na 0 1 ≤ 6 ∧ Na 0 2 ≤ 5 ∧ Na 0 3 ≤ 8 ∧ Na 0 0 ≤ 1 := RI_3 hI
  have h40 : Na 0 40 < 32 ∧ (∀ j, j < 5 → Na 0 (41 + j) ≤ 9999) ∧ (∀ p, p < 6 → Na 0 (46 + p) ≤ 9999 ∧ Na 0 (52 + p) ≤ 989901) ∧ inP (Na 0) ≤ 9999 := RI_40 hI
  have hpm : Ns 2 ≤ 24 := hI.2.1
  have hsz : ∀ r, r < 8 → Na 8 r ≤ 40 := hI.2.2.2.2.2.2.2.1
  have htr : Ns 11 ≤ 16 := hI.2.2.2.2.2.2.2.2.1
  have hst : Is 12 = -1000000 := hI.2.2.2.2.2.2.2.2.2.1
  have htp : Ns 4 ≤ 400 := hI.2.2.2.2.1
  refine j_iload_n 1 dX6_set_0 rfl 1 rfl ?_
  refine j_callSE (rest := []) 4 (c_isR g r) [.int (gB (inR r 8))] dX6_set_1 rfl cs_X6_65 rfl rfl (gLe rfl) (gLe rfl) (gLe rfl) (gLe rfl) rfl ?_
  refine j_if_neB 7 10 dX6_set_4 rfl rfl (fun h4 => ?_) (fun h4 => ?_)
  ·
    obtain ⟨zr, hzr, rfl⟩ := inR_of h4
    have hszr := hsz zr hzr
    refine j_aload_n 11 dX6_set_10 rfl 0 rfl ?_
    refine j_getf 14 0 dX6_set_11 rfl fd_X6_20 rfl rfl ?_
    refine j_iload_n 15 dX6_set_14 rfl 1 rfl ?_
    refine j_ialdR zr 16 4 dX6_set_15 rfl rfl (by omega) (by decide) ?_
    refine j_ldc (v := (-1000000 : Int32)) 18 dX6_set_16 rfl wd_4_47 ?_
    refine j_icmp_ne 21 27 dX6_set_18 rfl rfl (fun h18 => ?_) (fun h18 => ?_)
    ·
      refine j_iload_n 28 dX6_set_27 rfl 2 rfl ?_
      refine j_i2l 29 dX6_set_28 rfl ?_
      refine j_lconst (v := 0) 30 dX6_set_29 rfl (by decide) ?_
      refine j_aload_n 31 dX6_set_30 rfl 0 rfl ?_
      refine j_getf 34 0 dX6_set_31 rfl fd_X6_23 rfl rfl ?_
      refine j_iload_n 35 dX6_set_34 rfl 1 rfl ?_
      refine j_ialdN zr 36 5 dX6_set_35 rfl rfl (by omega) (by decide) ?_
      refine j_iconst (v := (1 : Int32)) 37 dX6_set_36 rfl (by decide) ?_
      refine j_isub 38 dX6_set_37 rfl ?_
      refine j_i2l 39 dX6_set_38 rfl ?_
      refine j_callSE (rest := []) 42 (c_inR g i (Na 8 zr) (((nI ((Na 8) zr)) - (1 : Int32)).toInt64) (nI (Na 8 zr) - 1) ⟨rfl, nI_pred_toInt (by omega)⟩) [.int (gB (inR i (Na 8 zr)))] dX6_set_39 rfl cs_X6_61 rfl rfl (gLe rfl) (gLe rfl) (gLe rfl) (gLe rfl) rfl ?_
      refine j_if_neB 45 51 dX6_set_42 rfl rfl (fun h42 => ?_) (fun h42 => ?_)
      ·
        obtain ⟨zj, hzj, rfl⟩ := inR_of h42
        refine j_aload_n 52 dX6_set_51 rfl 0 rfl ?_
        refine j_getf 55 0 dX6_set_52 rfl fd_X6_26 rfl rfl ?_
        refine j_bipush (v := (40 : Int32)) 57 dX6_set_55 rfl (by decide) ?_
        refine j_iload_n 58 dX6_set_57 rfl 1 rfl ?_
        refine j_imulN 40 zr 59 dX6_set_58 rfl ?_
        refine j_iload_n 60 dX6_set_59 rfl 2 rfl ?_
        refine j_iaddN (40 * zr) zj 61 dX6_set_60 rfl ?_
        refine j_aload_n 62 dX6_set_61 rfl 0 rfl ?_
        refine j_getf 65 0 dX6_set_62 rfl fd_X6_20 rfl rfl ?_
        refine j_iload_n 66 dX6_set_65 rfl 1 rfl ?_
        refine j_ialdR zr 67 4 dX6_set_66 rfl rfl (by omega) (by decide) ?_
        refine j_if_ne 70 75 dX6_set_67 rfl rfl (fun h67 => ?_) (fun h67 => ?_)
        ·
          refine j_aload_n 76 dX6_set_75 rfl 0 rfl ?_
          refine j_getf 79 0 dX6_set_76 rfl fd_X6_20 rfl rfl ?_
          refine j_iload_n 80 dX6_set_79 rfl 1 rfl ?_
          refine j_ialdR zr 81 4 dX6_set_80 rfl rfl (by omega) (by decide) ?_
          refine j_iconst (v := (1 : Int32)) 82 dX6_set_81 rfl (by decide) ?_
          refine j_icmp_ne 85 90 dX6_set_82 rfl rfl (fun h82 => ?_) (fun h82 => ?_)
          ·
            refine j_iload_n 91 dX6_set_90 rfl 3 rfl ?_
            refine j_topI v (nrw (Ia 7 zr) v) (by rw [nrw, if_neg h67, if_neg h82]) ?_
            refine j_iastR ((40 * zr) + zj) 92 6 (wM g q Na (va_up Ia 9 (upd (Ia 9) ((40 * zr) + zj) (nrw (Ia 7 zr) v))) Ns Is) dX6_set_91 rfl rfl (by omega) (by decide) rfl ?_
            refine j_aload_n 93 dX6_set_92 rfl 0 rfl ?_
            refine j_aload_n 94 dX6_set_93 rfl 0 rfl ?_
            refine j_getf 97 0 dX6_set_94 rfl fd_X6_26 rfl rfl ?_
            refine j_bipush (v := (40 : Int32)) 99 dX6_set_97 rfl (by decide) ?_
            refine j_iload_n 100 dX6_set_99 rfl 1 rfl ?_
            refine j_imulN 40 zr 101 dX6_set_100 rfl ?_
            refine j_iload_n 102 dX6_set_101 rfl 2 rfl ?_
            refine j_iaddN (40 * zr) zj 103 dX6_set_102 rfl ?_
            refine j_ialdR ((40 * zr) + zj) 104 6 dX6_set_103 rfl rfl (by omega) (by decide) ?_
            refine j_topI ((upd (Ia 9) ((40 * zr) + zj) (nrw (Ia 7 zr) v)) ((40 * zr) + zj)) (nrw (Ia 7 zr) v) (if_pos rfl) ?_
            refine j_callVW (rest := []) 107 (c_X6_give g q Na (va_up Ia 9 (upd (Ia 9) ((40 * zr) + zj) (nrw (Ia 7 zr) v))) Ns Is (nrw (Ia 7 zr) v)  ) [.int (nrw (Ia 7 zr) v)] dX6_set_104 rfl cv_X6_76 rfl rfl 0 rfl rfl (gLe rfl) (gLe rfl) (gLe rfl) (gLe rfl) (wM_len _ _ _ _ _ _ _ _ _ _) rfl ?_
            refine j_iretI dX6_set_107 rfl ⟨gLe rfl, gLe rfl, ?_⟩
            have ze : (pM_set (nI zr) (nI zj) v (Na, Ia, Ns, Is)) = ((nrw (Ia 7 zr) v), (Na, (va_up Ia 9 (upd (Ia 9) ((40 * zr) + zj) (nrw (Ia 7 zr) v))), (va_up Ns 6 0), Is)) := by
              rw [pM_set, if_neg (fun z => z h4), cl_nI (by omega), if_neg h18, if_neg (fun z => z h42), cl_nI (by omega)]
            exact ⟨congrArg (fun z : Int32 × RS => some (Value.int z.1)) ze.symm, congrArg (fun z : Int32 × RS => wS g q z.2) ze.symm⟩
          ·
            refine j_iload_n 86 dX6_set_85 rfl 3 rfl ?_
            refine j_i2s 87 dX6_set_86 rfl ?_
            refine j_goto 91 dX6_set_87 rfl ?_
            refine j_topI v.toInt16.toInt32 (nrw (Ia 7 zr) v) (by rw [nrw, if_neg h67, if_pos h82]) ?_
            refine j_iastR ((40 * zr) + zj) 92 6 (wM g q Na (va_up Ia 9 (upd (Ia 9) ((40 * zr) + zj) (nrw (Ia 7 zr) v))) Ns Is) dX6_set_91 rfl rfl (by omega) (by decide) rfl ?_
            refine j_aload_n 93 dX6_set_92 rfl 0 rfl ?_
            refine j_aload_n 94 dX6_set_93 rfl 0 rfl ?_
            refine j_getf 97 0 dX6_set_94 rfl fd_X6_26 rfl rfl ?_
            refine j_bipush (v := (40 : Int32)) 99 dX6_set_97 rfl (by decide) ?_
            refine j_iload_n 100 dX6_set_99 rfl 1 rfl ?_
            refine j_imulN 40 zr 101 dX6_set_100 rfl ?_
            refine j_iload_n 102 dX6_set_101 rfl 2 rfl ?_
            refine j_iaddN (40 * zr) zj 103 dX6_set_102 rfl ?_
            refine j_ialdR ((40 * zr) + zj) 104 6 dX6_set_103 rfl rfl (by omega) (by decide) ?_
            refine j_topI ((upd (Ia 9) ((40 * zr) + zj) (nrw (Ia 7 zr) v)) ((40 * zr) + zj)) (nrw (Ia 7 zr) v) (if_pos rfl) ?_
            refine j_callVW (rest := []) 107 (c_X6_give g q Na (va_up Ia 9 (upd (Ia 9) ((40 * zr) + zj) (nrw (Ia 7 zr) v))) Ns Is (nrw (Ia 7 zr) v)  ) [.int (nrw (Ia 7 zr) v)] dX6_set_104 rfl cv_X6_76 rfl rfl 0 rfl rfl (gLe rfl) (gLe rfl) (gLe rfl) (gLe rfl) (wM_len _ _ _ _ _ _ _ _ _ _) rfl ?_
            refine j_iretI dX6_set_107 rfl ⟨gLe rfl, gLe rfl, ?_⟩
            have ze : (pM_set (nI zr) (nI zj) v (Na, Ia, Ns, Is)) = ((nrw (Ia 7 zr) v), (Na, (va_up Ia 9 (upd (Ia 9) ((40 * zr) + zj) (nrw (Ia 7 zr) v))), (va_up Ns 6 0), Is)) := by
              rw [pM_set, if_neg (fun z => z h4), cl_nI (by omega), if_neg h18, if_neg (fun z => z h42), cl_nI (by omega)]
            exact ⟨congrArg (fun z : Int32 × RS => some (Value.int z.1)) ze.symm, congrArg (fun z : Int32 × RS => wS g q z.2) ze.symm⟩
        ·
          refine j_iload_n 71 dX6_set_70 rfl 3 rfl ?_
          refine j_i2b 72 dX6_set_71 rfl ?_
          refine j_goto 91 dX6_set_72 rfl ?_
          refine j_topI v.toInt8.toInt32 (nrw (Ia 7 zr) v) (by rw [nrw, if_pos h67]) ?_
          refine j_iastR ((40 * zr) + zj) 92 6 (wM g q Na (va_up Ia 9 (upd (Ia 9) ((40 * zr) + zj) (nrw (Ia 7 zr) v))) Ns Is) dX6_set_91 rfl rfl (by omega) (by decide) rfl ?_
          refine j_aload_n 93 dX6_set_92 rfl 0 rfl ?_
          refine j_aload_n 94 dX6_set_93 rfl 0 rfl ?_
          refine j_getf 97 0 dX6_set_94 rfl fd_X6_26 rfl rfl ?_
          refine j_bipush (v := (40 : Int32)) 99 dX6_set_97 rfl (by decide) ?_
          refine j_iload_n 100 dX6_set_99 rfl 1 rfl ?_
          refine j_imulN 40 zr 101 dX6_set_100 rfl ?_
          refine j_iload_n 102 dX6_set_101 rfl 2 rfl ?_
          refine j_iaddN (40 * zr) zj 103 dX6_set_102 rfl ?_
          refine j_ialdR ((40 * zr) + zj) 104 6 dX6_set_103 rfl rfl (by omega) (by decide) ?_
          refine j_topI ((upd (Ia 9) ((40 * zr) + zj) (nrw (Ia 7 zr) v)) ((40 * zr) + zj)) (nrw (Ia 7 zr) v) (if_pos rfl) ?_
          refine j_callVW (rest := []) 107 (c_X6_give g q Na (va_up Ia 9 (upd (Ia 9) ((40 * zr) + zj) (nrw (Ia 7 zr) v))) Ns Is (nrw (Ia 7 zr) v)  ) [.int (nrw (Ia 7 zr) v)] dX6_set_104 rfl cv_X6_76 rfl rfl 0 rfl rfl (gLe rfl) (gLe rfl) (gLe rfl) (gLe rfl) (wM_len _ _ _ _ _ _ _ _ _ _) rfl ?_
          refine j_iretI dX6_set_107 rfl ⟨gLe rfl, gLe rfl, ?_⟩
          have ze : (pM_set (nI zr) (nI zj) v (Na, Ia, Ns, Is)) = ((nrw (Ia 7 zr) v), (Na, (va_up Ia 9 (upd (Ia 9) ((40 * zr) + zj) (nrw (Ia 7 zr) v))), (va_up Ns 6 0), Is)) := by
            rw [pM_set, if_neg (fun z => z h4), cl_nI (by omega), if_neg h18, if_neg (fun z => z h42), cl_nI (by omega)]
          exact ⟨congrArg (fun z : Int32 × RS => some (Value.int z.1)) ze.symm, congrArg (fun z : Int32 × RS => wS g q z.2) ze.symm⟩
      ·
        refine j_aload_n 46 dX6_set_45 rfl 0 rfl ?_
        refine j_iconst (v := (2 : Int32)) 47 dX6_set_46 rfl (by decide) ?_
        refine j_callVW (rest := []) 50 (c_X6_find g q Na Ia Ns Is 2  ) [.int ((-1000010 : Int32) - nI 2)] dX6_set_47 rfl cv_X6_72 rfl rfl 0 rfl rfl (gLe rfl) (gLe rfl) (gLe rfl) (gLe rfl) (wM_len _ _ _ _ _ _ _ _ _ _) rfl ?_
        refine j_iretI dX6_set_50 rfl ⟨gLe rfl, gLe rfl, ?_⟩
        have ze : (pM_set (nI zr) i v (Na, Ia, Ns, Is)) = (((-1000010 : Int32) - nI 2), (Na, Ia, (va_up Ns 6 2), Is)) := by
          rw [pM_set, if_neg (fun z => z h4), cl_nI (by omega), if_neg h18, if_pos h42]
          rfl
        exact ⟨congrArg (fun z : Int32 × RS => some (Value.int z.1)) ze.symm, congrArg (fun z : Int32 × RS => wS g q z.2) ze.symm⟩
    ·
      refine j_aload_n 22 dX6_set_21 rfl 0 rfl ?_
      refine j_iconst (v := (1 : Int32)) 23 dX6_set_22 rfl (by decide) ?_
      refine j_callVW (rest := []) 26 (c_X6_find g q Na Ia Ns Is 1  ) [.int ((-1000010 : Int32) - nI 1)] dX6_set_23 rfl cv_X6_72 rfl rfl 0 rfl rfl (gLe rfl) (gLe rfl) (gLe rfl) (gLe rfl) (wM_len _ _ _ _ _ _ _ _ _ _) rfl ?_
      refine j_iretI dX6_set_26 rfl ⟨gLe rfl, gLe rfl, ?_⟩
      have ze : (pM_set (nI zr) i v (Na, Ia, Ns, Is)) = (((-1000010 : Int32) - nI 1), (Na, Ia, (va_up Ns 6 1), Is)) := by
        rw [pM_set, if_neg (fun z => z h4), cl_nI (by omega), if_pos h18]
        rfl
      exact ⟨congrArg (fun z : Int32 × RS => some (Value.int z.1)) ze.symm, congrArg (fun z : Int32 × RS => wS g q z.2) ze.symm⟩
  ·
    refine j_ldc (v := (-1000001 : Int32)) 9 dX6_set_7 rfl wd_4_140 ?_
    refine j_iretI dX6_set_9 rfl ⟨gLe rfl, gLe rfl, ?_⟩
    have ze : (pM_set r i v (Na, Ia, Ns, Is)) = ((-1000001 : Int32), (Na, Ia, Ns, Is)) := by
      exact if_pos h4
    exact ⟨congrArg (fun z : Int32 × RS => some (Value.int z.1)) ze.symm, congrArg (fun z : Int32 × RS => wS g q z.2) ze.symm⟩
set_option maxRecDepth 20000 in
theorem c_X6_copy (g : gG) (q : Nat → Nat) (Na : Nat → Nat → Nat) (Ia : Nat → Nat → Int32) (Ns : Nat → Nat) (Is : Nat → Int32) (a : Int32) (i : Int32) (b : Int32) (j : Int32) (n : Int32) (hI : RI (Na, Ia, Ns, Is)) : gCon g mX6_copy 2 0 0 [.ref (q 26), .int a, .int i, .int b, .int j, .int n] (wS g q (Na, Ia, Ns, Is)) (fun rv ws' => rv = some (.int (pM_copy a i b j n (Na, Ia, Ns, Is)).1) ∧ ws' = wS g q (pM_copy a i b j n (Na, Ia, Ns, Is)).2) := by
  refine gCon.of (lv := [(0, .ref (q 26)), (1, .int a), (2, .int i), (3, .int b), (4, .int j), (5, .int n)]) (by decide) (gLe rfl) rfl ?_
  refine j_ws (wM g q Na Ia Ns Is) rfl ?_
  have h8 : Na 0 1 ≤ 6 ∧ Na 0 2 ≤ 5 ∧ Na 0 3 ≤ 8 ∧ Na 0 0 ≤ 1 := RI_3 hI
  have h40 : Na 0 40 < 32 ∧ (∀ j, j < 5 → Na 0 (41 + j) ≤ 9999) ∧ (∀ p, p < 6 → Na 0 (46 + p) ≤ 9999 ∧ Na 0 (52 + p) ≤ 989901) ∧ inP (Na 0) ≤ 9999 := RI_40 hI
  have hpm : Ns 2 ≤ 24 := hI.2.1
  have hsz : ∀ r, r < 8 → Na 8 r ≤ 40 := hI.2.2.2.2.2.2.2.1
  have htr : Ns 11 ≤ 16 := hI.2.2.2.2.2.2.2.2.1
  have hst : Is 12 = -1000000 := hI.2.2.2.2.2.2.2.2.2.1
  have htp : Ns 4 ≤ 400 := hI.2.2.2.2.1
  refine j_iload_n 1 dX6_copy_0 rfl 1 rfl ?_
  refine j_callSE (rest := []) 4 (c_isR g a) [.int (gB (inR a 8))] dX6_copy_1 rfl cs_X6_65 rfl rfl (gLe rfl) (gLe rfl) (gLe rfl) (gLe rfl) rfl ?_
  refine j_if_eqB 7 14 dX6_copy_4 rfl rfl (fun h4 => ?_) (fun h4 => ?_)
  ·
    refine j_ldc (v := (-1000001 : Int32)) 16 dX6_copy_14 rfl wd_4_140 ?_
    refine j_iretI dX6_copy_16 rfl ⟨gLe rfl, gLe rfl, ?_⟩
    have ze : (pM_copy a i b j n (Na, Ia, Ns, Is)) = ((-1000001 : Int32), (Na, Ia, Ns, Is)) := by
      exact if_pos (by first | exact Or.inl h4 | exact Or.inr h11)
    exact ⟨congrArg (fun z : Int32 × RS => some (Value.int z.1)) ze.symm, congrArg (fun z : Int32 × RS => wS g q z.2) ze.symm⟩
  ·
    refine j_iload_n 8 dX6_copy_7 rfl 3 rfl ?_
    refine j_callSE (rest := []) 11 (c_isR g b) [.int (gB (inR b 8))] dX6_copy_8 rfl cs_X6_65 rfl rfl (gLe rfl) (gLe rfl) (gLe rfl) (gLe rfl) rfl ?_
    refine j_if_neB 14 17 dX6_copy_11 rfl rfl (fun h11 => ?_) (fun h11 => ?_)
    ·
      obtain ⟨za, hza, rfl⟩ := inR_of h4
      obtain ⟨zb, hzb, rfl⟩ := inR_of h11
      have hsza := hsz za hza
      have hszb := hsz zb hzb
      refine j_aload_n 18 dX6_copy_17 rfl 0 rfl ?_
      refine j_getf 21 0 dX6_copy_18 rfl fd_X6_20 rfl rfl ?_
      refine j_iload_n 22 dX6_copy_21 rfl 1 rfl ?_
      refine j_ialdR za 23 4 dX6_copy_22 rfl rfl (by omega) (by decide) ?_
      refine j_ldc (v := (-1000000 : Int32)) 25 dX6_copy_23 rfl wd_4_47 ?_
      refine j_icmp_eq 28 39 dX6_copy_25 rfl rfl (fun h25 => ?_) (fun h25 => ?_)
      ·
        refine j_aload_n 40 dX6_copy_39 rfl 0 rfl ?_
        refine j_iconst (v := (1 : Int32)) 41 dX6_copy_40 rfl (by decide) ?_
        refine j_callVW (rest := []) 44 (c_X6_find g q Na Ia Ns Is 1  ) [.int ((-1000010 : Int32) - nI 1)] dX6_copy_41 rfl cv_X6_72 rfl rfl 0 rfl rfl (gLe rfl) (gLe rfl) (gLe rfl) (gLe rfl) (wM_len _ _ _ _ _ _ _ _ _ _) rfl ?_
        refine j_iretI dX6_copy_44 rfl ⟨gLe rfl, gLe rfl, ?_⟩
        have ze : (pM_copy (nI za) i (nI zb) j n (Na, Ia, Ns, Is)) = (((-1000010 : Int32) - nI 1), (Na, Ia, (va_up Ns 6 1), Is)) := by
          rw [pM_copy, if_neg (fun z => z.elim (fun z => z h4) (fun z => z h11)), cl_nI (by omega), cl_nI (by omega), if_pos (by first | exact Or.inl h25 | exact Or.inr h36)]
          rfl
        exact ⟨congrArg (fun z : Int32 × RS => some (Value.int z.1)) ze.symm, congrArg (fun z : Int32 × RS => wS g q z.2) ze.symm⟩
      ·
        refine j_aload_n 29 dX6_copy_28 rfl 0 rfl ?_
        refine j_getf 32 0 dX6_copy_29 rfl fd_X6_20 rfl rfl ?_
        refine j_iload_n 33 dX6_copy_32 rfl 3 rfl ?_
        refine j_ialdR zb 34 4 dX6_copy_33 rfl rfl (by omega) (by decide) ?_
        refine j_ldc (v := (-1000000 : Int32)) 36 dX6_copy_34 rfl wd_4_47 ?_
        refine j_icmp_ne 39 45 dX6_copy_36 rfl rfl (fun h36 => ?_) (fun h36 => ?_)
        ·
          refine j_aload_n 46 dX6_copy_45 rfl 0 rfl ?_
          refine j_getf 49 0 dX6_copy_46 rfl fd_X6_20 rfl rfl ?_
          refine j_iload_n 50 dX6_copy_49 rfl 1 rfl ?_
          refine j_ialdR za 51 4 dX6_copy_50 rfl rfl (by omega) (by decide) ?_
          refine j_aload_n 52 dX6_copy_51 rfl 0 rfl ?_
          refine j_getf 55 0 dX6_copy_52 rfl fd_X6_20 rfl rfl ?_
          refine j_iload_n 56 dX6_copy_55 rfl 3 rfl ?_
          refine j_ialdR zb 57 4 dX6_copy_56 rfl rfl (by omega) (by decide) ?_
          refine j_icmp_eq 60 66 dX6_copy_57 rfl rfl (fun h57 => ?_) (fun h57 => ?_)
          ·
            refine j_aload_n 67 dX6_copy_66 rfl 0 rfl ?_
            refine j_iload_n 68 dX6_copy_67 rfl 1 rfl ?_
            refine j_iload_n 69 dX6_copy_68 rfl 2 rfl ?_
            refine j_iload 71 dX6_copy_69 rfl 5 rfl ?_
            refine j_callVW (rest := []) 74 (c_X6_isSpan g q Na Ia Ns Is za i n  hza (by omega)) [.int (gB (spn ((Na 8) za) i n))] dX6_copy_71 rfl cv_X6_79 rfl rfl 0 rfl rfl (gLe rfl) (gLe rfl) (gLe rfl) (gLe rfl) (wM_len _ _ _ _ _ _ _ _ _ _) rfl ?_
            refine j_if_eqB 77 89 dX6_copy_74 rfl rfl (fun h74 => ?_) (fun h74 => ?_)
            ·
              refine j_aload_n 90 dX6_copy_89 rfl 0 rfl ?_
              refine j_iconst (v := (2 : Int32)) 91 dX6_copy_90 rfl (by decide) ?_
              refine j_callVW (rest := []) 94 (c_X6_find g q Na Ia Ns Is 2  ) [.int ((-1000010 : Int32) - nI 2)] dX6_copy_91 rfl cv_X6_72 rfl rfl 0 rfl rfl (gLe rfl) (gLe rfl) (gLe rfl) (gLe rfl) (wM_len _ _ _ _ _ _ _ _ _ _) rfl ?_
              refine j_iretI dX6_copy_94 rfl ⟨gLe rfl, gLe rfl, ?_⟩
              have ze : (pM_copy (nI za) i (nI zb) j n (Na, Ia, Ns, Is)) = (((-1000010 : Int32) - nI 2), (Na, Ia, (va_up Ns 6 2), Is)) := by
                rw [pM_copy, if_neg (fun z => z.elim (fun z => z h4) (fun z => z h11)), cl_nI (by omega), cl_nI (by omega), if_neg (fun z => z.elim h25 h36), if_neg (fun z => z h57), if_pos (by first | exact Or.inl h74 | exact Or.inr h86)]
                rfl
              exact ⟨congrArg (fun z : Int32 × RS => some (Value.int z.1)) ze.symm, congrArg (fun z : Int32 × RS => wS g q z.2) ze.symm⟩
            ·
              refine j_aload_n 78 dX6_copy_77 rfl 0 rfl ?_
              refine j_iload_n 79 dX6_copy_78 rfl 3 rfl ?_
              refine j_iload 81 dX6_copy_79 rfl 4 rfl ?_
              refine j_iload 83 dX6_copy_81 rfl 5 rfl ?_
              refine j_callVW (rest := []) 86 (c_X6_isSpan g q Na Ia Ns Is zb j n  hzb (by omega)) [.int (gB (spn ((Na 8) zb) j n))] dX6_copy_83 rfl cv_X6_79 rfl rfl 0 rfl rfl (gLe rfl) (gLe rfl) (gLe rfl) (gLe rfl) (wM_len _ _ _ _ _ _ _ _ _ _) rfl ?_
              refine j_if_neB 89 95 dX6_copy_86 rfl rfl (fun h86 => ?_) (fun h86 => ?_)
              ·
                have hn0 := h74.2.1
                obtain ⟨zn, hzn, rfl⟩ := inR_of (n := 2147483648) ⟨hn0, Int32.toInt_lt n⟩
                obtain ⟨zi, hzi, rfl⟩ := spn_of hzn h74
                obtain ⟨zj, hzj, rfl⟩ := spn_of hzn h86
                refine j_iconst (v := (0 : Int32)) 96 dX6_copy_95 rfl (by decide) ?_
                refine j_istore 98 [(6, .int (0 : Int32)), (0, .ref (q 26)), (1, .int (nI za)), (2, .int (nI zi)), (3, .int (nI zb)), (4, .int (nI zj)), (5, .int (nI zn))] dX6_copy_96 rfl (by decide) rfl ?_
                have hL98 : ∀ (zm98 : Nat) (zk : Nat), zn - zk < zm98 → (zk ≤ zn) → gJ g mX6_copy 2 0 0 (fun k' j' rv ws' => k' ≤ 0 ∧ j' ≤ 0 ∧ (rv = some (.int (pM_copy (nI za) (nI zi) (nI zb) (nI zj) (nI zn) (Na, Ia, Ns, Is)).1) ∧ ws' = wS g q (pM_copy (nI za) (nI zi) (nI zb) (nI zj) (nI zn) (Na, Ia, Ns, Is)).2)) 0 0 98 [(6, .int (nI zk)), (0, .ref (q 26)), (1, .int (nI za)), (2, .int (nI zi)), (3, .int (nI zb)), (4, .int (nI zj)), (5, .int (nI zn))] [] (wM g q Na (va_up Ia 9 (cpD (Ia 9) (40 * za + zi) (40 * zb + zj) zn zk (za = zb ∧ zi < zj))) Ns Is) := by
                  intro zm98
                  induction zm98 with
                  | zero => intro zk zmh; exact absurd zmh (Nat.not_lt_zero _)
                  | succ zm98 zih98 =>
                    intro zk zmh98 hz
                    refine j_iload 100 dX6_copy_98 rfl 0 rfl ?_
                    refine j_iload 102 dX6_copy_100 rfl 6 rfl ?_
                    refine j_icmp_geN zk zn 105 165 dX6_copy_102 rfl rfl (by omega) (by omega) (fun h102 => ?_) (fun h102 => ?_)
                    ·
                      refine j_aload_n 166 dX6_copy_165 rfl 1 rfl ?_
                      refine j_iload 168 dX6_copy_166 rfl 6 rfl ?_
                      refine j_callVW (rest := []) 171 (c_X6_give g q Na (va_up Ia 9 (cpD (Ia 9) (40 * za + zi) (40 * zb + zj) zn zk (za = zb ∧ zi < zj))) Ns Is (nI zn)  ) [.int (nI zn)] dX6_copy_168 rfl cv_X6_76 rfl rfl 0 rfl rfl (gLe rfl) (gLe rfl) (gLe rfl) (gLe rfl) (wM_len _ _ _ _ _ _ _ _ _ _) rfl ?_
                      refine j_iretI dX6_copy_171 rfl ⟨gLe rfl, gLe rfl, ?_⟩
                      have ze : (pM_copy (nI za) (nI zi) (nI zb) (nI zj) (nI zn) (Na, Ia, Ns, Is)) = ((nI zn), (Na, (va_up Ia 9 (cpD (Ia 9) (40 * za + zi) (40 * zb + zj) zn zk (za = zb ∧ zi < zj))), (va_up Ns 6 0), Is)) := by
                        have ye : zk = zn := by omega
                        subst ye
                        rw [pM_copy, if_neg (fun z => z.elim (fun z => z h4) (fun z => z h11)), cl_nI (by omega), cl_nI (by omega), if_neg (fun z => z.elim h25 h36), if_neg (fun z => z h57), if_neg (fun z => z.elim (fun z => z h74) (fun z => z h86)), cl_nI (by omega), cl_nI (by omega), cl_nI (by omega), cpD_n]
                      exact ⟨congrArg (fun z : Int32 × RS => some (Value.int z.1)) ze.symm, congrArg (fun z : Int32 × RS => wS g q z.2) ze.symm⟩
                    ·
                      refine j_iload_n 106 dX6_copy_105 rfl 2 rfl ?_
                      refine j_iload_n 107 dX6_copy_106 rfl 4 rfl ?_
                      refine j_icmp_neN za zb 110 126 dX6_copy_107 rfl rfl (by omega) (by omega) (fun h107 => ?_) (fun h107 => ?_)
                      ·
                        have yc : ¬ (za = zb ∧ zi < zj) := by first | exact fun z => h107 z.1 | exact fun z => absurd z.2 (Nat.not_lt.mpr h113)
                        refine j_iload 128 dX6_copy_126 rfl 0 rfl ?_
                        refine j_istore 130 [(7, .int (nI zk)), (6, .int (nI zk)), (0, .ref (q 26)), (1, .int (nI za)), (2, .int (nI zi)), (3, .int (nI zb)), (4, .int (nI zj)), (5, .int (nI zn))] dX6_copy_128 rfl (by decide) rfl ?_
                        refine j_aload_n 131 dX6_copy_130 rfl 2 rfl ?_
                        refine j_getf 134 0 dX6_copy_131 rfl fd_X6_26 rfl rfl ?_
                        refine j_bipush (v := (40 : Int32)) 136 dX6_copy_134 rfl (by decide) ?_
                        refine j_iload_n 137 dX6_copy_136 rfl 5 rfl ?_
                        refine j_imulN 40 zb 138 dX6_copy_137 rfl ?_
                        refine j_iload 140 dX6_copy_138 rfl 6 rfl ?_
                        refine j_iaddN (40 * zb) zj 141 dX6_copy_140 rfl ?_
                        refine j_iload 143 dX6_copy_141 rfl 0 rfl ?_
                        refine j_iaddN ((40 * zb) + zj) zk 144 dX6_copy_143 rfl ?_
                        refine j_aload_n 145 dX6_copy_144 rfl 2 rfl ?_
                        refine j_getf 148 0 dX6_copy_145 rfl fd_X6_26 rfl rfl ?_
                        refine j_bipush (v := (40 : Int32)) 150 dX6_copy_148 rfl (by decide) ?_
                        refine j_iload_n 151 dX6_copy_150 rfl 3 rfl ?_
                        refine j_imulN 40 za 152 dX6_copy_151 rfl ?_
                        refine j_iload_n 153 dX6_copy_152 rfl 4 rfl ?_
                        refine j_iaddN (40 * za) zi 154 dX6_copy_153 rfl ?_
                        refine j_iload 156 dX6_copy_154 rfl 0 rfl ?_
                        refine j_iaddN ((40 * za) + zi) zk 157 dX6_copy_156 rfl ?_
                        refine j_ialdR (((40 * za) + zi) + zk) 158 6 dX6_copy_157 rfl rfl (by omega) (by decide) ?_
                        refine j_topI ((cpD (Ia 9) (40 * za + zi) (40 * zb + zj) zn zk (za = zb ∧ zi < zj)) (((40 * za) + zi) + zk)) (Ia 9 (40 * za + zi + zk)) (by rw [cpD, if_neg yc]; exact cpy_out (by omega)) ?_
                        refine j_iastR (((40 * zb) + zj) + zk) 159 6 (wM g q Na (va_up Ia 9 (upd (cpD (Ia 9) (40 * za + zi) (40 * zb + zj) zn zk (za = zb ∧ zi < zj)) (((40 * zb) + zj) + zk) (Ia 9 (40 * za + zi + zk)))) Ns Is) dX6_copy_158 rfl rfl (by omega) (by decide) rfl ?_
                        refine j_ws (wM g q Na (va_up Ia 9 (cpD (Ia 9) (40 * za + zi) (40 * zb + zj) zn (zk + 1) (za = zb ∧ zi < zj))) Ns Is) (congrArg (fun z => wM g q Na (va_up Ia 9 z) Ns Is) (by rw [cpD, if_neg yc, cpD, if_neg yc]; exact upd_cpF _ _ _ _)) ?_
                        refine j_iincN zk 1 162 [(6, .int (nI (zk + 1))), (7, .int (nI zk)), (0, .ref (q 26)), (1, .int (nI za)), (2, .int (nI zi)), (3, .int (nI zb)), (4, .int (nI zj)), (5, .int (nI zn))] dX6_copy_159 rfl 1 rfl (by decide) rfl ?_
                        refine j_goto 98 dX6_copy_162 rfl ?_
                        refine j_lv [0, 2, 3, 4, 5, 6, 7] rfl ?_
                        exact zih98 (zk + 1) (by omega) (by omega)
                      ·
                        refine j_iload_n 111 dX6_copy_110 rfl 3 rfl ?_
                        refine j_iload 113 dX6_copy_111 rfl 5 rfl ?_
                        refine j_icmp_geN zi zj 116 126 dX6_copy_113 rfl rfl (by omega) (by omega) (fun h113 => ?_) (fun h113 => ?_)
                        ·
                          have yc : ¬ (za = zb ∧ zi < zj) := by first | exact fun z => h107 z.1 | exact fun z => absurd z.2 (Nat.not_lt.mpr h113)
                          refine j_iload 128 dX6_copy_126 rfl 0 rfl ?_
                          refine j_istore 130 [(7, .int (nI zk)), (6, .int (nI zk)), (0, .ref (q 26)), (1, .int (nI za)), (2, .int (nI zi)), (3, .int (nI zb)), (4, .int (nI zj)), (5, .int (nI zn))] dX6_copy_128 rfl (by decide) rfl ?_
                          refine j_aload_n 131 dX6_copy_130 rfl 2 rfl ?_
                          refine j_getf 134 0 dX6_copy_131 rfl fd_X6_26 rfl rfl ?_
                          refine j_bipush (v := (40 : Int32)) 136 dX6_copy_134 rfl (by decide) ?_
                          refine j_iload_n 137 dX6_copy_136 rfl 5 rfl ?_
                          refine j_imulN 40 zb 138 dX6_copy_137 rfl ?_
                          refine j_iload 140 dX6_copy_138 rfl 6 rfl ?_
                          refine j_iaddN (40 * zb) zj 141 dX6_copy_140 rfl ?_
                          refine j_iload 143 dX6_copy_141 rfl 0 rfl ?_
                          refine j_iaddN ((40 * zb) + zj) zk 144 dX6_copy_143 rfl ?_
                          refine j_aload_n 145 dX6_copy_144 rfl 2 rfl ?_
                          refine j_getf 148 0 dX6_copy_145 rfl fd_X6_26 rfl rfl ?_
                          refine j_bipush (v := (40 : Int32)) 150 dX6_copy_148 rfl (by decide) ?_
                          refine j_iload_n 151 dX6_copy_150 rfl 3 rfl ?_
                          refine j_imulN 40 za 152 dX6_copy_151 rfl ?_
                          refine j_iload_n 153 dX6_copy_152 rfl 4 rfl ?_
                          refine j_iaddN (40 * za) zi 154 dX6_copy_153 rfl ?_
                          refine j_iload 156 dX6_copy_154 rfl 0 rfl ?_
                          refine j_iaddN ((40 * za) + zi) zk 157 dX6_copy_156 rfl ?_
                          refine j_ialdR (((40 * za) + zi) + zk) 158 6 dX6_copy_157 rfl rfl (by omega) (by decide) ?_
                          refine j_topI ((cpD (Ia 9) (40 * za + zi) (40 * zb + zj) zn zk (za = zb ∧ zi < zj)) (((40 * za) + zi) + zk)) (Ia 9 (40 * za + zi + zk)) (by rw [cpD, if_neg yc]; exact cpy_out (by omega)) ?_
                          refine j_iastR (((40 * zb) + zj) + zk) 159 6 (wM g q Na (va_up Ia 9 (upd (cpD (Ia 9) (40 * za + zi) (40 * zb + zj) zn zk (za = zb ∧ zi < zj)) (((40 * zb) + zj) + zk) (Ia 9 (40 * za + zi + zk)))) Ns Is) dX6_copy_158 rfl rfl (by omega) (by decide) rfl ?_
                          refine j_ws (wM g q Na (va_up Ia 9 (cpD (Ia 9) (40 * za + zi) (40 * zb + zj) zn (zk + 1) (za = zb ∧ zi < zj))) Ns Is) (congrArg (fun z => wM g q Na (va_up Ia 9 z) Ns Is) (by rw [cpD, if_neg yc, cpD, if_neg yc]; exact upd_cpF _ _ _ _)) ?_
                          refine j_iincN zk 1 162 [(6, .int (nI (zk + 1))), (7, .int (nI zk)), (0, .ref (q 26)), (1, .int (nI za)), (2, .int (nI zi)), (3, .int (nI zb)), (4, .int (nI zj)), (5, .int (nI zn))] dX6_copy_159 rfl 1 rfl (by decide) rfl ?_
                          refine j_goto 98 dX6_copy_162 rfl ?_
                          refine j_lv [0, 2, 3, 4, 5, 6, 7] rfl ?_
                          exact zih98 (zk + 1) (by omega) (by omega)
                        ·
                          refine j_iload 118 dX6_copy_116 rfl 6 rfl ?_
                          refine j_iconst (v := (1 : Int32)) 119 dX6_copy_118 rfl (by decide) ?_
                          refine j_isubN zn 1 120 dX6_copy_119 rfl (by omega) ?_
                          refine j_iload 122 dX6_copy_120 rfl 0 rfl ?_
                          refine j_isubN (zn - 1) zk 123 dX6_copy_122 rfl (by omega) ?_
                          refine j_goto 128 dX6_copy_123 rfl ?_
                          refine j_istore 130 [(7, .int (nI ((zn - 1) - zk))), (6, .int (nI zk)), (0, .ref (q 26)), (1, .int (nI za)), (2, .int (nI zi)), (3, .int (nI zb)), (4, .int (nI zj)), (5, .int (nI zn))] dX6_copy_128 rfl (by decide) rfl ?_
                          refine j_aload_n 131 dX6_copy_130 rfl 2 rfl ?_
                          refine j_getf 134 0 dX6_copy_131 rfl fd_X6_26 rfl rfl ?_
                          refine j_bipush (v := (40 : Int32)) 136 dX6_copy_134 rfl (by decide) ?_
                          refine j_iload_n 137 dX6_copy_136 rfl 5 rfl ?_
                          refine j_imulN 40 zb 138 dX6_copy_137 rfl ?_
                          refine j_iload 140 dX6_copy_138 rfl 6 rfl ?_
                          refine j_iaddN (40 * zb) zj 141 dX6_copy_140 rfl ?_
                          refine j_iload 143 dX6_copy_141 rfl 0 rfl ?_
                          refine j_iaddN ((40 * zb) + zj) ((zn - 1) - zk) 144 dX6_copy_143 rfl ?_
                          refine j_aload_n 145 dX6_copy_144 rfl 2 rfl ?_
                          refine j_getf 148 0 dX6_copy_145 rfl fd_X6_26 rfl rfl ?_
                          refine j_bipush (v := (40 : Int32)) 150 dX6_copy_148 rfl (by decide) ?_
                          refine j_iload_n 151 dX6_copy_150 rfl 3 rfl ?_
                          refine j_imulN 40 za 152 dX6_copy_151 rfl ?_
                          refine j_iload_n 153 dX6_copy_152 rfl 4 rfl ?_
                          refine j_iaddN (40 * za) zi 154 dX6_copy_153 rfl ?_
                          refine j_iload 156 dX6_copy_154 rfl 0 rfl ?_
                          refine j_iaddN ((40 * za) + zi) ((zn - 1) - zk) 157 dX6_copy_156 rfl ?_
                          refine j_ialdR (((40 * za) + zi) + ((zn - 1) - zk)) 158 6 dX6_copy_157 rfl rfl (by omega) (by decide) ?_
                          refine j_topI ((cpD (Ia 9) (40 * za + zi) (40 * zb + zj) zn zk (za = zb ∧ zi < zj)) (((40 * za) + zi) + ((zn - 1) - zk))) (Ia 9 (40 * za + zi + ((zn - 1) - zk))) (by rw [cpD, if_pos ⟨h107, Nat.not_le.mp h113⟩]; exact cpy_out (by omega)) ?_
                          refine j_iastR (((40 * zb) + zj) + ((zn - 1) - zk)) 159 6 (wM g q Na (va_up Ia 9 (upd (cpD (Ia 9) (40 * za + zi) (40 * zb + zj) zn zk (za = zb ∧ zi < zj)) (((40 * zb) + zj) + ((zn - 1) - zk)) (Ia 9 (40 * za + zi + ((zn - 1) - zk))))) Ns Is) dX6_copy_158 rfl rfl (by omega) (by decide) rfl ?_
                          refine j_ws (wM g q Na (va_up Ia 9 (cpD (Ia 9) (40 * za + zi) (40 * zb + zj) zn (zk + 1) (za = zb ∧ zi < zj))) Ns Is) (congrArg (fun z => wM g q Na (va_up Ia 9 z) Ns Is) (by rw [cpD, if_pos ⟨h107, Nat.not_le.mp h113⟩, cpD, if_pos ⟨h107, Nat.not_le.mp h113⟩]; exact upd_cpB _ _ _ _ _ (by omega))) ?_
                          refine j_iincN zk 1 162 [(6, .int (nI (zk + 1))), (7, .int (nI ((zn - 1) - zk))), (0, .ref (q 26)), (1, .int (nI za)), (2, .int (nI zi)), (3, .int (nI zb)), (4, .int (nI zj)), (5, .int (nI zn))] dX6_copy_159 rfl 1 rfl (by decide) rfl ?_
                          refine j_goto 98 dX6_copy_162 rfl ?_
                          refine j_lv [0, 2, 3, 4, 5, 6, 7] rfl ?_
                          exact zih98 (zk + 1) (by omega) (by omega)
                refine j_ws (wM g q Na (va_up Ia 9 (cpD (Ia 9) (40 * za + zi) (40 * zb + zj) zn 0 (za = zb ∧ zi < zj))) Ns Is) (by rw [cpD_0]; rfl) ?_
                refine j_lv [0, 1, 2, 3, 4, 5, 6] rfl ?_
                exact hL98 _ 0 (Nat.lt_succ_self _) (by omega)
              ·
                refine j_aload_n 90 dX6_copy_89 rfl 0 rfl ?_
                refine j_iconst (v := (2 : Int32)) 91 dX6_copy_90 rfl (by decide) ?_
                refine j_callVW (rest := []) 94 (c_X6_find g q Na Ia Ns Is 2  ) [.int ((-1000010 : Int32) - nI 2)] dX6_copy_91 rfl cv_X6_72 rfl rfl 0 rfl rfl (gLe rfl) (gLe rfl) (gLe rfl) (gLe rfl) (wM_len _ _ _ _ _ _ _ _ _ _) rfl ?_
                refine j_iretI dX6_copy_94 rfl ⟨gLe rfl, gLe rfl, ?_⟩
                have ze : (pM_copy (nI za) i (nI zb) j n (Na, Ia, Ns, Is)) = (((-1000010 : Int32) - nI 2), (Na, Ia, (va_up Ns 6 2), Is)) := by
                  rw [pM_copy, if_neg (fun z => z.elim (fun z => z h4) (fun z => z h11)), cl_nI (by omega), cl_nI (by omega), if_neg (fun z => z.elim h25 h36), if_neg (fun z => z h57), if_pos (by first | exact Or.inl h74 | exact Or.inr h86)]
                  rfl
                exact ⟨congrArg (fun z : Int32 × RS => some (Value.int z.1)) ze.symm, congrArg (fun z : Int32 × RS => wS g q z.2) ze.symm⟩
          ·
            refine j_aload_n 61 dX6_copy_60 rfl 0 rfl ?_
            refine j_iconst (v := (5 : Int32)) 62 dX6_copy_61 rfl (by decide) ?_
            refine j_callVW (rest := []) 65 (c_X6_find g q Na Ia Ns Is 5  ) [.int ((-1000010 : Int32) - nI 5)] dX6_copy_62 rfl cv_X6_72 rfl rfl 0 rfl rfl (gLe rfl) (gLe rfl) (gLe rfl) (gLe rfl) (wM_len _ _ _ _ _ _ _ _ _ _) rfl ?_
            refine j_iretI dX6_copy_65 rfl ⟨gLe rfl, gLe rfl, ?_⟩
            have ze : (pM_copy (nI za) i (nI zb) j n (Na, Ia, Ns, Is)) = (((-1000010 : Int32) - nI 5), (Na, Ia, (va_up Ns 6 5), Is)) := by
              rw [pM_copy, if_neg (fun z => z.elim (fun z => z h4) (fun z => z h11)), cl_nI (by omega), cl_nI (by omega), if_neg (fun z => z.elim h25 h36), if_pos h57]
              rfl
            exact ⟨congrArg (fun z : Int32 × RS => some (Value.int z.1)) ze.symm, congrArg (fun z : Int32 × RS => wS g q z.2) ze.symm⟩
        ·
          refine j_aload_n 40 dX6_copy_39 rfl 0 rfl ?_
          refine j_iconst (v := (1 : Int32)) 41 dX6_copy_40 rfl (by decide) ?_
          refine j_callVW (rest := []) 44 (c_X6_find g q Na Ia Ns Is 1  ) [.int ((-1000010 : Int32) - nI 1)] dX6_copy_41 rfl cv_X6_72 rfl rfl 0 rfl rfl (gLe rfl) (gLe rfl) (gLe rfl) (gLe rfl) (wM_len _ _ _ _ _ _ _ _ _ _) rfl ?_
          refine j_iretI dX6_copy_44 rfl ⟨gLe rfl, gLe rfl, ?_⟩
          have ze : (pM_copy (nI za) i (nI zb) j n (Na, Ia, Ns, Is)) = (((-1000010 : Int32) - nI 1), (Na, Ia, (va_up Ns 6 1), Is)) := by
            rw [pM_copy, if_neg (fun z => z.elim (fun z => z h4) (fun z => z h11)), cl_nI (by omega), cl_nI (by omega), if_pos (by first | exact Or.inl h25 | exact Or.inr h36)]
            rfl
          exact ⟨congrArg (fun z : Int32 × RS => some (Value.int z.1)) ze.symm, congrArg (fun z : Int32 × RS => wS g q z.2) ze.symm⟩
    ·
      refine j_ldc (v := (-1000001 : Int32)) 16 dX6_copy_14 rfl wd_4_140 ?_
      refine j_iretI dX6_copy_16 rfl ⟨gLe rfl, gLe rfl, ?_⟩
      have ze : (pM_copy a i b j n (Na, Ia, Ns, Is)) = ((-1000001 : Int32), (Na, Ia, Ns, Is)) := by
        exact if_pos (by first | exact Or.inl h4 | exact Or.inr h11)
      exact ⟨congrArg (fun z : Int32 × RS => some (Value.int z.1)) ze.symm, congrArg (fun z : Int32 × RS => wS g q z.2) ze.symm⟩
