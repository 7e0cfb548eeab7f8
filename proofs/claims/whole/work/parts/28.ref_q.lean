theorem zf_0 (it : Nat → Int32) (r : Nat) : zf it r 0 = it := by
  funext k
  simp only [zf]
  rw [if_neg (by omega)]
theorem zf_s (it : Nat → Int32) (r i : Nat) : upd (zf it r i) (40 * r + i) 0 = zf it r (i + 1) := by
  funext k
  simp only [zf, upd]
  by_cases h : k = 40 * r + i
  · rw [if_pos h, if_pos (by omega)]
  · rw [if_neg h]
    by_cases h2 : 40 * r ≤ k ∧ k < 40 * r + i
    · rw [if_pos h2, if_pos (by omega)]
    · rw [if_neg h2, if_neg (by omega)]
set_option maxRecDepth 20000 in
theorem c_X6_ask (g : gG) (q : Nat → Nat) (Na : Nat → Nat → Nat) (Ia : Nat → Nat → Int32) (Ns : Nat → Nat) (Is : Nat → Int32) (b : Int32) (what : Int32) (hI : RI (Na, Ia, Ns, Is)) : gCon g mX6_ask 8 0 0 [.ref (q 26), .int b, .int what] (wS g q (Na, Ia, Ns, Is)) (fun rv ws' => ∃ S9 : RS, Gq S9 (pM_ask b what (Na, Ia, Ns, Is)).2 ∧ rv = some (.int (pM_ask b what (Na, Ia, Ns, Is)).1) ∧ ws' = wS g q S9) := by
  refine gCon.of (lv := [(0, .ref (q 26)), (1, .int b), (2, .int what)]) (by decide) (gLe rfl) rfl ?_
  refine j_ws (wM g q Na Ia Ns Is) rfl ?_
  have h8 : Na 0 1 ≤ 6 ∧ Na 0 2 ≤ 5 ∧ Na 0 3 ≤ 8 ∧ Na 0 0 ≤ 1 := RI_3 hI
  have h40 : Na 0 40 < 32 ∧ (∀ j, j < 5 → Na 0 (41 + j) ≤ 9999) ∧ (∀ p, p < 6 → Na 0 (46 + p) ≤ 9999 ∧ Na 0 (52 + p) ≤ 989901) ∧ inP (Na 0) ≤ 9999 := RI_40 hI
  have hpm : Ns 2 ≤ 24 := hI.2.1
  have hsz : ∀ r, r < 8 → Na 8 r ≤ 40 := hI.2.2.2.2.2.2.2.1
  have htr : Ns 11 ≤ 16 := hI.2.2.2.2.2.2.2.2.1
  have hst : Is 12 = -1000000 := hI.2.2.2.2.2.2.2.2.2.1
  have htp : Ns 4 ≤ 400 := hI.2.2.2.2.1
  refine j_aload_n 1 dX6_ask_0 rfl 0 rfl ?_
  refine j_iload_n 2 dX6_ask_1 rfl 1 rfl ?_
  refine j_callVW (rest := []) 5 (c_X6_isBeast g q Na Ia Ns Is b  (by omega)) [.int (gB (inR b ((Na 0) 3)))] dX6_ask_2 rfl cv_X6_190 rfl rfl 0 rfl rfl (gLe rfl) (gLe rfl) (gLe rfl) (gLe rfl) (wM_len _ _ _ _ _ _ _ _ _ _) rfl ?_
  refine j_if_eqB 8 18 dX6_ask_5 rfl rfl (fun h5 => ?_) (fun h5 => ?_)
  ·
    refine j_ldc (v := (-1000001 : Int32)) 20 dX6_ask_18 rfl wd_4_140 ?_
    refine j_iretI dX6_ask_20 rfl ⟨gLe rfl, gLe rfl, ?_⟩
    have ze : (pM_ask b what (Na, Ia, Ns, Is)) = ((-1000001 : Int32), (Na, Ia, Ns, Is)) := by
      exact if_pos (by first | exact Or.inl h5 | exact Or.inr h15)
    exact ⟨(Na, Ia, Ns, Is), by rw [ze]; exact ⟨(fun k _ => rfl), ⟨rfl, rfl, rfl, rfl⟩, ⟨rfl, rfl⟩, ⟨rfl, rfl, rfl, rfl, rfl⟩, rfl⟩, congrArg (fun z : Int32 × RS => some (Value.int z.1)) ze.symm, rfl⟩
  ·
    refine j_iload_n 9 dX6_ask_8 rfl 2 rfl ?_
    refine j_i2l 10 dX6_ask_9 rfl ?_
    refine j_lconst (v := 0) 11 dX6_ask_10 rfl (by decide) ?_
    refine j_lconst (v := 1) 12 dX6_ask_11 rfl (by decide) ?_
    refine j_callSE (rest := []) 15 (c_inR g what 2 (1 : Int64) (1 : Int32) ⟨by decide, by decide⟩) [.int (gB (inR what 2))] dX6_ask_12 rfl cs_X6_61 rfl rfl (gLe rfl) (gLe rfl) (gLe rfl) (gLe rfl) rfl ?_
    refine j_if_neB 18 21 dX6_ask_15 rfl rfl (fun h15 => ?_) (fun h15 => ?_)
    ·
      obtain ⟨zb, hzb, rfl⟩ := inR_of h5
      obtain ⟨zv, hzv, rfl⟩ := inR_of h15
      have hq1 := RI_P hI (Or.inr (Or.inl (by show 0 < Na 0 3; omega)))
      have hokp : okP (Na 0) := hq1.2.1
      have hs40 : Na 0 40 < 2 ^ Na 0 2 := hq1.2.2.1
      have hum : ∀ k, uM (Na 0) 0 k ≤ 9999 := by
        intro k
        by_cases hk : k < 5
        · rw [uM_at hk, show 0 + 41 + k = 41 + k by omega]; exact h40.2.1 k hk
        · rw [Z5_uM _ _ k (by omega)]; exact Nat.zero_le _
      have hkd := okP_k hokp hzb
      refine j_aload_n 22 dX6_ask_21 rfl 0 rfl ?_
      refine j_iconst (v := (0 : Int32)) 23 dX6_ask_22 rfl (by decide) ?_
      refine j_putf 26 0 (wM g q Na Ia (va_up Ns 11 0) Is) dX6_ask_23 rfl fd_X6_268 rfl rfl rfl (gLe rfl) rfl ?_
      refine j_aload_n 27 dX6_ask_26 rfl 0 rfl ?_
      refine j_getf 30 0 dX6_ask_27 rfl fd_X6_7 rfl rfl ?_
      refine j_bipush (v := (24 : Int32)) 32 dX6_ask_30 rfl (by decide) ?_
      refine j_iconst (v := (2 : Int32)) 33 dX6_ask_32 rfl (by decide) ?_
      refine j_iload_n 34 dX6_ask_33 rfl 1 rfl ?_
      refine j_imulN 2 zb 35 dX6_ask_34 rfl ?_
      refine j_iaddN 24 (2 * zb) 36 dX6_ask_35 rfl ?_
      refine j_ialdN (24 + (2 * zb)) 37 1 dX6_ask_36 rfl rfl (by omega) (by decide) ?_
      refine j_iconst (v := (1 : Int32)) 38 dX6_ask_37 rfl (by decide) ?_
      refine j_callSE (rest := []) 41 (c_X6_isKind g ((Na 0) (24 + (2 * zb))) 1 hkd.2 (by decide)) [.int (gB (isK ((Na 0) (24 + (2 * zb))) 1))] dX6_ask_38 rfl cs_X6_265 rfl rfl (gLe rfl) (gLe rfl) (gLe rfl) (gLe rfl) rfl ?_
      refine j_istore_n 42 [(3, .int (gB (isK ((Na 0) (24 + (2 * zb))) 1))), (0, .ref (q 26)), (1, .int (nI zb)), (2, .int (nI zv))] dX6_ask_41 rfl (by decide) rfl ?_
      refine j_iload_n 43 dX6_ask_42 rfl 3 rfl ?_
      refine j_if_neN zv 46 66 dX6_ask_43 rfl rfl (by omega) (fun h43 => ?_) (fun h43 => ?_)
      ·
        refine j_iload_n 67 dX6_ask_66 rfl 0 rfl ?_
        refine j_if_eqB 70 78 dX6_ask_67 rfl rfl (fun h67 => ?_) (fun h67 => ?_)
        ·
          refine j_aload_n 79 dX6_ask_78 rfl 1 rfl ?_
          refine j_iload_n 80 dX6_ask_79 rfl 2 rfl ?_
          refine j_callVW (rest := []) 83 (c_X6_markOfBlind g q Na Ia (va_up Ns 11 0) Is zb  (by show 0 < 11; decide) (by omega) hkd.2) [.int (nI zb - blE ((Na 0) (24 + 2 * zb)) ((Na 0) (24 + 2 * zb + 1)))] dX6_ask_80 rfl cv_X6_298 rfl rfl 0 rfl rfl (gLe rfl) (gLe rfl) (gLe rfl) (gLe rfl) (wM_len _ _ _ _ _ _ _ _ _ _) rfl ?_
          refine j_iretI dX6_ask_83 rfl ⟨gLe rfl, gLe rfl, ?_⟩
          have ze : (pM_ask (nI zb) (nI zv) (Na, Ia, Ns, Is)) = ((nI zb - blE ((Na 0) (24 + 2 * zb)) ((Na 0) (24 + 2 * zb + 1))), (va_up Na 10 (trA (Na 10) 0 (askL (Na 0 (24 + 2 * zb)) zv)), Ia, va_up Ns 11 (askL (Na 0 (24 + 2 * zb)) zv).length, Is)) := by
            rw [pM_ask, if_neg (fun z => z.elim (fun z => z h5) (fun z => z h15)), cl_nI (by omega), cl_nI (by omega), askE, if_neg h43, if_neg h67]
          exact ⟨((va_up Na 10 (trA (Na 10) (0) ([23, 20] ++ blL ((Na 0) (24 + 2 * zb))))), Ia, (va_up Ns 11 (0 + ([23, 20] ++ blL ((Na 0) (24 + 2 * zb))).length)), Is), by rw [ze]; exact ⟨(fun k _ => rfl), ⟨rfl, rfl, rfl, (by show trA (Na 10) 0 ([23, 20] ++ blL (Na 0 (24 + 2 * zb))) = trA (Na 10) 0 (askL (Na 0 (24 + 2 * zb)) zv); rw [askL, if_neg h43, if_neg h67])⟩, ⟨rfl, rfl⟩, ⟨rfl, rfl, rfl, rfl, (by show 0 + ([23, 20] ++ blL (Na 0 (24 + 2 * zb))).length = (askL (Na 0 (24 + 2 * zb)) zv).length; rw [Nat.zero_add, askL, if_neg h43, if_neg h67])⟩, rfl⟩, congrArg (fun z : Int32 × RS => some (Value.int z.1)) ze.symm, rfl⟩
        ·
          refine j_aload_n 71 dX6_ask_70 rfl 1 rfl ?_
          refine j_iload_n 72 dX6_ask_71 rfl 2 rfl ?_
          refine j_callVX (rest := []) 75 (c_X6_markOfEwe g q Na Ia (va_up Ns 11 0) Is zb  (by show 0 < 13; decide) hst hokp hs40 hum hzb) dX6_ask_72 rfl cv_X6_283 rfl rfl 0 rfl rfl (gLe rfl) (gLe rfl) (gLe rfl) (gLe rfl) (fun rv w1 hp => ?_)
          obtain ⟨Z1_1, hZ1_1, rfl, rfl⟩ := hp
          refine ⟨(wM_len _ _ _ _ _ _ _ _ _ _), ?_⟩
          refine j_eq (lv2 := [(3, .int (gB (isK ((Na 0) (24 + (2 * zb))) 1))), (0, .ref (q 26)), (1, .int (nI zb)), (2, .int (nI zv))]) (st2 := [.int (mkE ((Na 0) (24 + 2 * zb)) (zb + (goR (Na 0) 99 zb).1))]) (ws2 := (wM g q (va_up (va_up Na 0 Z1_1) 10 (trA (Na 10) (0) (mkL ((Na 0) (24 + 2 * zb))))) Ia (va_up Ns 11 (0 + (mkL ((Na 0) (24 + 2 * zb))).length)) Is)) rfl rfl rfl ?_
          refine j_goto 83 dX6_ask_75 rfl ?_
          refine j_iretI dX6_ask_83 rfl ⟨gLe rfl, gLe rfl, ?_⟩
          have ze : (pM_ask (nI zb) (nI zv) (Na, Ia, Ns, Is)) = ((mkE ((Na 0) (24 + 2 * zb)) (zb + (goR (Na 0) 99 zb).1)), (va_up Na 10 (trA (Na 10) 0 (askL (Na 0 (24 + 2 * zb)) zv)), Ia, va_up Ns 11 (askL (Na 0 (24 + 2 * zb)) zv).length, Is)) := by
            rw [pM_ask, if_neg (fun z => z.elim (fun z => z h5) (fun z => z h15)), cl_nI (by omega), cl_nI (by omega), askE, if_neg h43, if_pos h67]
          exact ⟨((va_up (va_up Na 0 Z1_1) 10 (trA (Na 10) (0) (mkL ((Na 0) (24 + 2 * zb))))), Ia, (va_up Ns 11 (0 + (mkL ((Na 0) (24 + 2 * zb))).length)), Is), by rw [ze]; exact ⟨hZ1_1, ⟨rfl, rfl, rfl, (by show trA (Na 10) 0 (mkL (Na 0 (24 + 2 * zb))) = trA (Na 10) 0 (askL (Na 0 (24 + 2 * zb)) zv); rw [askL, if_neg h43, if_pos h67])⟩, ⟨rfl, rfl⟩, ⟨rfl, rfl, rfl, rfl, (by show 0 + (mkL (Na 0 (24 + 2 * zb))).length = (askL (Na 0 (24 + 2 * zb)) zv).length; rw [Nat.zero_add, askL, if_neg h43, if_pos h67])⟩, rfl⟩, congrArg (fun z : Int32 × RS => some (Value.int z.1)) ze.symm, rfl⟩
      ·
        refine j_iload_n 47 dX6_ask_46 rfl 0 rfl ?_
        refine j_if_eqB 50 58 dX6_ask_47 rfl rfl (fun h47 => ?_) (fun h47 => ?_)
        ·
          refine j_aload_n 59 dX6_ask_58 rfl 1 rfl ?_
          refine j_iload_n 60 dX6_ask_59 rfl 2 rfl ?_
          refine j_callVW (rest := []) 63 (c_X6_sizeOfBlind g q Na Ia (va_up Ns 11 0) Is zb  (by show 0 < 13; decide) (by omega) hkd.2) [.int (blE ((Na 0) (24 + 2 * zb)) ((Na 0) (24 + 2 * zb + 1)))] dX6_ask_60 rfl cv_X6_292 rfl rfl 0 rfl rfl (gLe rfl) (gLe rfl) (gLe rfl) (gLe rfl) (wM_len _ _ _ _ _ _ _ _ _ _) rfl ?_
          refine j_goto 83 dX6_ask_63 rfl ?_
          refine j_iretI dX6_ask_83 rfl ⟨gLe rfl, gLe rfl, ?_⟩
          have ze : (pM_ask (nI zb) (nI zv) (Na, Ia, Ns, Is)) = ((blE ((Na 0) (24 + 2 * zb)) ((Na 0) (24 + 2 * zb + 1))), (va_up Na 10 (trA (Na 10) 0 (askL (Na 0 (24 + 2 * zb)) zv)), Ia, va_up Ns 11 (askL (Na 0 (24 + 2 * zb)) zv).length, Is)) := by
            rw [pM_ask, if_neg (fun z => z.elim (fun z => z h5) (fun z => z h15)), cl_nI (by omega), cl_nI (by omega), askE, if_pos h43, if_neg h47]
          exact ⟨((va_up Na 10 (trA (Na 10) (0) (blL ((Na 0) (24 + 2 * zb))))), Ia, (va_up Ns 11 (0 + (blL ((Na 0) (24 + 2 * zb))).length)), Is), by rw [ze]; exact ⟨(fun k _ => rfl), ⟨rfl, rfl, rfl, (by show trA (Na 10) 0 (blL (Na 0 (24 + 2 * zb))) = trA (Na 10) 0 (askL (Na 0 (24 + 2 * zb)) zv); rw [askL, if_pos h43, if_neg h47])⟩, ⟨rfl, rfl⟩, ⟨rfl, rfl, rfl, rfl, (by show 0 + (blL (Na 0 (24 + 2 * zb))).length = (askL (Na 0 (24 + 2 * zb)) zv).length; rw [Nat.zero_add, askL, if_pos h43, if_neg h47])⟩, rfl⟩, congrArg (fun z : Int32 × RS => some (Value.int z.1)) ze.symm, rfl⟩
        ·
          refine j_aload_n 51 dX6_ask_50 rfl 1 rfl ?_
          refine j_iload_n 52 dX6_ask_51 rfl 2 rfl ?_
          refine j_callVX (rest := []) 55 (c_X6_sizeOfEwe g q Na Ia (va_up Ns 11 0) Is zb  (by show 0 < 10; decide) hst hokp hs40 hum hzb) dX6_ask_52 rfl cv_X6_295 rfl rfl 0 rfl rfl (gLe rfl) (gLe rfl) (gLe rfl) (gLe rfl) (fun rv w1 hp => ?_)
          obtain ⟨Z1_2, hZ1_2, rfl, rfl⟩ := hp
          refine ⟨(wM_len _ _ _ _ _ _ _ _ _ _), ?_⟩
          refine j_eq (lv2 := [(3, .int (gB (isK ((Na 0) (24 + (2 * zb))) 1))), (0, .ref (q 26)), (1, .int (nI zb)), (2, .int (nI zv))]) (st2 := [.int (szE ((Na 0) (24 + 2 * zb)) ((Na 0) (24 + 2 * zb + 1)) (zb + (goR (Na 0) 99 zb).1))]) (ws2 := (wM g q (va_up (va_up Na 0 Z1_2) 10 (trA (Na 10) (0) (szL ((Na 0) (24 + 2 * zb))))) Ia (va_up Ns 11 (0 + (szL ((Na 0) (24 + 2 * zb))).length)) Is)) rfl rfl rfl ?_
          refine j_goto 83 dX6_ask_55 rfl ?_
          refine j_iretI dX6_ask_83 rfl ⟨gLe rfl, gLe rfl, ?_⟩
          have ze : (pM_ask (nI zb) (nI zv) (Na, Ia, Ns, Is)) = ((szE ((Na 0) (24 + 2 * zb)) ((Na 0) (24 + 2 * zb + 1)) (zb + (goR (Na 0) 99 zb).1)), (va_up Na 10 (trA (Na 10) 0 (askL (Na 0 (24 + 2 * zb)) zv)), Ia, va_up Ns 11 (askL (Na 0 (24 + 2 * zb)) zv).length, Is)) := by
            rw [pM_ask, if_neg (fun z => z.elim (fun z => z h5) (fun z => z h15)), cl_nI (by omega), cl_nI (by omega), askE, if_pos h43, if_pos h47]
          exact ⟨((va_up (va_up Na 0 Z1_2) 10 (trA (Na 10) (0) (szL ((Na 0) (24 + 2 * zb))))), Ia, (va_up Ns 11 (0 + (szL ((Na 0) (24 + 2 * zb))).length)), Is), by rw [ze]; exact ⟨hZ1_2, ⟨rfl, rfl, rfl, (by show trA (Na 10) 0 (szL (Na 0 (24 + 2 * zb))) = trA (Na 10) 0 (askL (Na 0 (24 + 2 * zb)) zv); rw [askL, if_pos h43, if_pos h47])⟩, ⟨rfl, rfl⟩, ⟨rfl, rfl, rfl, rfl, (by show 0 + (szL (Na 0 (24 + 2 * zb))).length = (askL (Na 0 (24 + 2 * zb)) zv).length; rw [Nat.zero_add, askL, if_pos h43, if_pos h47])⟩, rfl⟩, congrArg (fun z : Int32 × RS => some (Value.int z.1)) ze.symm, rfl⟩
    ·
      refine j_ldc (v := (-1000001 : Int32)) 20 dX6_ask_18 rfl wd_4_140 ?_
      refine j_iretI dX6_ask_20 rfl ⟨gLe rfl, gLe rfl, ?_⟩
      have ze : (pM_ask b what (Na, Ia, Ns, Is)) = ((-1000001 : Int32), (Na, Ia, Ns, Is)) := by
        exact if_pos (by first | exact Or.inl h5 | exact Or.inr h15)
      exact ⟨(Na, Ia, Ns, Is), by rw [ze]; exact ⟨(fun k _ => rfl), ⟨rfl, rfl, rfl, rfl⟩, ⟨rfl, rfl⟩, ⟨rfl, rfl, rfl, rfl, rfl⟩, rfl⟩, congrArg (fun z : Int32 × RS => some (Value.int z.1)) ze.symm, rfl⟩
set_option maxRecDepth 20000 in
theorem c_X6_row (g : gG) (q : Nat → Nat) (Na : Nat → Nat → Nat) (Ia : Nat → Nat → Int32) (Ns : Nat → Nat) (Is : Nat → Int32) (r : Int32) (lane : Int32) (n : Int32) (hI : RI (Na, Ia, Ns, Is)) : gCon g mX6_row 2 0 0 [.ref (q 26), .int r, .int lane, .int n] (wS g q (Na, Ia, Ns, Is)) (fun rv ws' => rv = some (.int (pM_row r lane n (Na, Ia, Ns, Is)).1) ∧ ws' = wS g q (pM_row r lane n (Na, Ia, Ns, Is)).2) := by
  refine gCon.of (lv := [(0, .ref (q 26)), (1, .int r), (2, .int lane), (3, .int n)]) (by decide) (gLe rfl) rfl ?_
  refine j_ws (wM g q Na Ia Ns Is) rfl ?_
  have h8 : Na 0 1 ≤ 6 ∧ Na 0 2 ≤ 5 ∧ Na 0 3 ≤ 8 ∧ Na 0 0 ≤ 1 := RI_3 hI
  have h40 : Na 0 40 < 32 ∧ (∀ j, j < 5 → Na 0 (41 + j) ≤ 9999) ∧ (∀ p, p < 6 → Na 0 (46 + p) ≤ 9999 ∧ Na 0 (52 + p) ≤ 989901) ∧ inP (Na 0) ≤ 9999 := RI_40 hI
  have hpm : Ns 2 ≤ 24 := hI.2.1
  have hsz : ∀ r, r < 8 → Na 8 r ≤ 40 := hI.2.2.2.2.2.2.2.1
  have htr : Ns 11 ≤ 16 := hI.2.2.2.2.2.2.2.2.1
  have hst : Is 12 = -1000000 := hI.2.2.2.2.2.2.2.2.2.1
  have htp : Ns 4 ≤ 400 := hI.2.2.2.2.1
  refine j_iload_n 1 dX6_row_0 rfl 1 rfl ?_
  refine j_callSE (rest := []) 4 (c_isR g r) [.int (gB (inR r 8))] dX6_row_1 rfl cs_X6_65 rfl rfl (gLe rfl) (gLe rfl) (gLe rfl) (gLe rfl) rfl ?_
  refine j_if_eqB 7 25 dX6_row_4 rfl rfl (fun h4 => ?_) (fun h4 => ?_)
  ·
    refine j_ldc (v := (-1000001 : Int32)) 27 dX6_row_25 rfl wd_4_140 ?_
    refine j_iretI dX6_row_27 rfl ⟨gLe rfl, gLe rfl, ?_⟩
    have ze : (pM_row r lane n (Na, Ia, Ns, Is)) = ((-1000001 : Int32), (Na, Ia, Ns, Is)) := by
      exact if_pos (by first | exact Or.inl h4 | exact Or.inr (Or.inl h16) | exact Or.inr (Or.inr (Int32.not_le.mp h22)))
    exact ⟨congrArg (fun z : Int32 × RS => some (Value.int z.1)) ze.symm, congrArg (fun z : Int32 × RS => wS g q z.2) ze.symm⟩
  ·
    refine j_iload_n 8 dX6_row_7 rfl 2 rfl ?_
    refine j_i2l 9 dX6_row_8 rfl ?_
    refine j_lconst (v := 0) 10 dX6_row_9 rfl (by decide) ?_
    refine j_ldc2 (v := (2 : Int64)) 13 dX6_row_10 rfl wd_4_139 ?_
    refine j_callSE (rest := []) 16 (c_inR g lane 3 (2 : Int64) (2 : Int32) ⟨by decide, by decide⟩) [.int (gB (inR lane 3))] dX6_row_13 rfl cs_X6_61 rfl rfl (gLe rfl) (gLe rfl) (gLe rfl) (gLe rfl) rfl ?_
    refine j_if_eqB 19 25 dX6_row_16 rfl rfl (fun h16 => ?_) (fun h16 => ?_)
    ·
      refine j_ldc (v := (-1000001 : Int32)) 27 dX6_row_25 rfl wd_4_140 ?_
      refine j_iretI dX6_row_27 rfl ⟨gLe rfl, gLe rfl, ?_⟩
      have ze : (pM_row r lane n (Na, Ia, Ns, Is)) = ((-1000001 : Int32), (Na, Ia, Ns, Is)) := by
        exact if_pos (by first | exact Or.inl h4 | exact Or.inr (Or.inl h16) | exact Or.inr (Or.inr (Int32.not_le.mp h22)))
      exact ⟨congrArg (fun z : Int32 × RS => some (Value.int z.1)) ze.symm, congrArg (fun z : Int32 × RS => wS g q z.2) ze.symm⟩
    ·
      refine j_iload_n 20 dX6_row_19 rfl 3 rfl ?_
      refine j_bipush (v := (40 : Int32)) 22 dX6_row_20 rfl (by decide) ?_
      refine j_icmp_le 25 28 dX6_row_22 rfl rfl (fun h22 => ?_) (fun h22 => ?_)
      ·
        refine j_iload_n 29 dX6_row_28 rfl 3 rfl ?_
        refine j_if_ge 32 38 dX6_row_29 rfl rfl (fun h29 => ?_) (fun h29 => ?_)
        ·
          obtain ⟨zr, hzr, rfl⟩ := inR_of h4
          obtain ⟨zn, hzn, rfl⟩ := rng_of (m := 0) (n := 40) (by decide) (by decide) ⟨h29, h22⟩
          refine j_aload_n 39 dX6_row_38 rfl 0 rfl ?_
          refine j_getf 42 0 dX6_row_39 rfl fd_X6_20 rfl rfl ?_
          refine j_iload_n 43 dX6_row_42 rfl 1 rfl ?_
          refine j_iload_n 44 dX6_row_43 rfl 2 rfl ?_
          refine j_iastR zr 45 4 (wM g q Na (va_up Ia 7 (upd (Ia 7) zr lane)) Ns Is) dX6_row_44 rfl rfl (by omega) (by decide) rfl ?_
          refine j_aload_n 46 dX6_row_45 rfl 0 rfl ?_
          refine j_getf 49 0 dX6_row_46 rfl fd_X6_23 rfl rfl ?_
          refine j_iload_n 50 dX6_row_49 rfl 1 rfl ?_
          refine j_iload_n 51 dX6_row_50 rfl 3 rfl ?_
          refine j_iastN zn zr 52 5 (wM g q (va_up Na 8 (va_up (Na 8) zr zn)) (va_up Ia 7 (upd (Ia 7) zr lane)) Ns Is) dX6_row_51 rfl rfl (by omega) (by decide) rfl ?_
          refine j_iconst (v := (0 : Int32)) 53 dX6_row_52 rfl (by decide) ?_
          refine j_istore 55 [(4, .int (0 : Int32)), (0, .ref (q 26)), (1, .int (nI zr)), (2, .int lane), (3, .int (nI zn))] dX6_row_53 rfl (by decide) rfl ?_
          have hL55 : ∀ (zm55 : Nat) (zi : Nat), zn - zi < zm55 → (zi ≤ zn) → gJ g mX6_row 2 0 0 (fun k' j' rv ws' => k' ≤ 0 ∧ j' ≤ 0 ∧ (rv = some (.int (pM_row (nI zr) lane (nI zn) (Na, Ia, Ns, Is)).1) ∧ ws' = wS g q (pM_row (nI zr) lane (nI zn) (Na, Ia, Ns, Is)).2)) 0 0 55 [(4, .int (nI zi)), (0, .ref (q 26)), (1, .int (nI zr)), (2, .int lane), (3, .int (nI zn))] [] (wM g q (va_up Na 8 (va_up (Na 8) zr zn)) (va_up (va_up Ia 7 (upd (Ia 7) zr lane)) 9 (zf (Ia 9) zr zi)) Ns Is) := by
            intro zm55
            induction zm55 with
            | zero => intro zi zmh; exact absurd zmh (Nat.not_lt_zero _)
            | succ zm55 zih55 =>
              intro zi zmh55 hz
              refine j_iload 57 dX6_row_55 rfl 0 rfl ?_
              refine j_iload_n 58 dX6_row_57 rfl 4 rfl ?_
              refine j_icmp_geN zi zn 61 80 dX6_row_58 rfl rfl (by omega) (by omega) (fun h58 => ?_) (fun h58 => ?_)
              ·
                refine j_aload_n 81 dX6_row_80 rfl 1 rfl ?_
                refine j_iload_n 82 dX6_row_81 rfl 4 rfl ?_
                refine j_callVW (rest := []) 85 (c_X6_give g q (va_up Na 8 (va_up (Na 8) zr zn)) (va_up (va_up Ia 7 (upd (Ia 7) zr lane)) 9 (zf (Ia 9) zr zi)) Ns Is (nI zn)  ) [.int (nI zn)] dX6_row_82 rfl cv_X6_76 rfl rfl 0 rfl rfl (gLe rfl) (gLe rfl) (gLe rfl) (gLe rfl) (wM_len _ _ _ _ _ _ _ _ _ _) rfl ?_
                refine j_iretI dX6_row_85 rfl ⟨gLe rfl, gLe rfl, ?_⟩
                have ze : (pM_row (nI zr) lane (nI zn) (Na, Ia, Ns, Is)) = ((nI zn), ((va_up Na 8 (va_up (Na 8) zr zn)), (va_up (va_up Ia 7 (upd (Ia 7) zr lane)) 9 (zf (Ia 9) zr zi)), (va_up Ns 6 0), Is)) := by
                  have ye : zi = zn := by omega
                  subst ye
                  rw [pM_row, if_neg (fun z => z.elim (fun z => z h4) (fun z => z.elim (fun z => z h16) (fun z => absurd h22 (Int32.not_le.mpr z)))), if_neg (fun z => absurd h29 (Int32.not_le.mpr z)), cl_nI (by omega), cl_nI (by omega)]
                exact ⟨congrArg (fun z : Int32 × RS => some (Value.int z.1)) ze.symm, congrArg (fun z : Int32 × RS => wS g q z.2) ze.symm⟩
              ·
                refine j_aload_n 62 dX6_row_61 rfl 1 rfl ?_
                refine j_getf 65 0 dX6_row_62 rfl fd_X6_26 rfl rfl ?_
                refine j_bipush (v := (40 : Int32)) 67 dX6_row_65 rfl (by decide) ?_
                refine j_iload_n 68 dX6_row_67 rfl 2 rfl ?_
                refine j_imulN 40 zr 69 dX6_row_68 rfl ?_
                refine j_iload 71 dX6_row_69 rfl 0 rfl ?_
                refine j_iaddN (40 * zr) zi 72 dX6_row_71 rfl ?_
                refine j_iconst (v := (0 : Int32)) 73 dX6_row_72 rfl (by decide) ?_
                refine j_iastR ((40 * zr) + zi) 74 6 (wM g q (va_up Na 8 (va_up (Na 8) zr zn)) (va_up (va_up Ia 7 (upd (Ia 7) zr lane)) 9 (upd (zf (Ia 9) zr zi) ((40 * zr) + zi) (0 : Int32))) Ns Is) dX6_row_73 rfl rfl (by omega) (by decide) rfl ?_
                refine j_ws (wM g q (va_up Na 8 (va_up (Na 8) zr zn)) (va_up (va_up Ia 7 (upd (Ia 7) zr lane)) 9 (zf (Ia 9) zr (zi + 1))) Ns Is) (congrArg (fun z => wM g q (va_up Na 8 (va_up (Na 8) zr zn)) (va_up (va_up Ia 7 (upd (Ia 7) zr lane)) 9 z) Ns Is) (zf_s _ _ _)) ?_
                refine j_iincN zi 1 77 [(4, .int (nI (zi + 1))), (0, .ref (q 26)), (1, .int (nI zr)), (2, .int lane), (3, .int (nI zn))] dX6_row_74 rfl 0 rfl (by decide) rfl ?_
                refine j_goto 55 dX6_row_77 rfl ?_
                refine j_lv [0, 1, 2, 3, 4] rfl ?_
                exact zih55 (zi + 1) (by omega) (by omega)
          refine j_ws (wM g q (va_up Na 8 (va_up (Na 8) zr zn)) (va_up (va_up Ia 7 (upd (Ia 7) zr lane)) 9 (zf (Ia 9) zr 0)) Ns Is) (congrArg (fun z => wM g q (va_up Na 8 (va_up (Na 8) zr zn)) (va_up (va_up Ia 7 (upd (Ia 7) zr lane)) 9 z) Ns Is) (zf_0 _ _).symm) ?_
          refine j_lv [0, 1, 2, 3, 4] rfl ?_
          exact hL55 _ 0 (Nat.lt_succ_self _) (by omega)
        ·
          refine j_aload_n 33 dX6_row_32 rfl 0 rfl ?_
          refine j_iconst (v := (4 : Int32)) 34 dX6_row_33 rfl (by decide) ?_
          refine j_callVW (rest := []) 37 (c_X6_find g q Na Ia Ns Is 4  ) [.int ((-1000010 : Int32) - nI 4)] dX6_row_34 rfl cv_X6_72 rfl rfl 0 rfl rfl (gLe rfl) (gLe rfl) (gLe rfl) (gLe rfl) (wM_len _ _ _ _ _ _ _ _ _ _) rfl ?_
          refine j_iretI dX6_row_37 rfl ⟨gLe rfl, gLe rfl, ?_⟩
          have ze : (pM_row r lane n (Na, Ia, Ns, Is)) = (((-1000010 : Int32) - nI 4), (Na, Ia, (va_up Ns 6 4), Is)) := by
            rw [pM_row, if_neg (fun z => z.elim (fun z => z h4) (fun z => z.elim (fun z => z h16) (fun z => absurd h22 (Int32.not_le.mpr z)))), if_pos (Int32.not_le.mp h29)]
            rfl
          exact ⟨congrArg (fun z : Int32 × RS => some (Value.int z.1)) ze.symm, congrArg (fun z : Int32 × RS => wS g q z.2) ze.symm⟩
      ·
        refine j_ldc (v := (-1000001 : Int32)) 27 dX6_row_25 rfl wd_4_140 ?_
        refine j_iretI dX6_row_27 rfl ⟨gLe rfl, gLe rfl, ?_⟩
        have ze : (pM_row r lane n (Na, Ia, Ns, Is)) = ((-1000001 : Int32), (Na, Ia, Ns, Is)) := by
          exact if_pos (by first | exact Or.inl h4 | exact Or.inr (Or.inl h16) | exact Or.inr (Or.inr (Int32.not_le.mp h22)))
        exact ⟨congrArg (fun z : Int32 × RS => some (Value.int z.1)) ze.symm, congrArg (fun z : Int32 × RS => wS g q z.2) ze.symm⟩
set_option maxRecDepth 20000 in
theorem c_X6_drop (g : gG) (q : Nat → Nat) (Na : Nat → Nat → Nat) (Ia : Nat → Nat → Int32) (Ns : Nat → Nat) (Is : Nat → Int32) (r : Int32) (hI : RI (Na, Ia, Ns, Is)) : gCon g mX6_drop 2 0 0 [.ref (q 26), .int r] (wS g q (Na, Ia, Ns, Is)) (fun rv ws' => rv = some (.int (pM_drop r (Na, Ia, Ns, Is)).1) ∧ ws' = wS g q (pM_drop r (Na, Ia, Ns, Is)).2) := by
  refine gCon.of (lv := [(0, .ref (q 26)), (1, .int r)]) (by decide) (gLe rfl) rfl ?_
  refine j_ws (wM g q Na Ia Ns Is) rfl ?_
  have h8 : Na 0 1 ≤ 6 ∧ Na 0 2 ≤ 5 ∧ Na 0 3 ≤ 8 ∧ Na 0 0 ≤ 1 := RI_3 hI
  have h40 : Na 0 40 < 32 ∧ (∀ j, j < 5 → Na 0 (41 + j) ≤ 9999) ∧ (∀ p, p < 6 → Na 0 (46 + p) ≤ 9999 ∧ Na 0 (52 + p) ≤ 989901) ∧ inP (Na 0) ≤ 9999 := RI_40 hI
  have hpm : Ns 2 ≤ 24 := hI.2.1
  have hsz : ∀ r, r < 8 → Na 8 r ≤ 40 := hI.2.2.2.2.2.2.2.1
  have htr : Ns 11 ≤ 16 := hI.2.2.2.2.2.2.2.2.1
  have hst : Is 12 = -1000000 := hI.2.2.2.2.2.2.2.2.2.1
  have htp : Ns 4 ≤ 400 := hI.2.2.2.2.1
  refine j_iload_n 1 dX6_drop_0 rfl 1 rfl ?_
  refine j_callSE (rest := []) 4 (c_isR g r) [.int (gB (inR r 8))] dX6_drop_1 rfl cs_X6_65 rfl rfl (gLe rfl) (gLe rfl) (gLe rfl) (gLe rfl) rfl ?_
  refine j_if_neB 7 10 dX6_drop_4 rfl rfl (fun h4 => ?_) (fun h4 => ?_)
  ·
    obtain ⟨zr, hzr, rfl⟩ := inR_of h4
    refine j_aload_n 11 dX6_drop_10 rfl 0 rfl ?_
    refine j_getf 14 0 dX6_drop_11 rfl fd_X6_20 rfl rfl ?_
    refine j_iload_n 15 dX6_drop_14 rfl 1 rfl ?_
    refine j_ialdR zr 16 4 dX6_drop_15 rfl rfl (by omega) (by decide) ?_
    refine j_ldc (v := (-1000000 : Int32)) 18 dX6_drop_16 rfl wd_4_47 ?_
    refine j_icmp_ne 21 27 dX6_drop_18 rfl rfl (fun h18 => ?_) (fun h18 => ?_)
    ·
      refine j_aload_n 28 dX6_drop_27 rfl 0 rfl ?_
      refine j_getf 31 0 dX6_drop_28 rfl fd_X6_20 rfl rfl ?_
      refine j_iload_n 32 dX6_drop_31 rfl 1 rfl ?_
      refine j_ldc (v := (-1000000 : Int32)) 34 dX6_drop_32 rfl wd_4_47 ?_
      refine j_iastR zr 35 4 (wM g q Na (va_up Ia 7 (upd (Ia 7) zr (-1000000 : Int32))) Ns Is) dX6_drop_34 rfl rfl (by omega) (by decide) rfl ?_
      refine j_aload_n 36 dX6_drop_35 rfl 0 rfl ?_
      refine j_aload_n 37 dX6_drop_36 rfl 0 rfl ?_
      refine j_getf 40 0 dX6_drop_37 rfl fd_X6_23 rfl rfl ?_
      refine j_iload_n 41 dX6_drop_40 rfl 1 rfl ?_
      refine j_ialdN zr 42 5 dX6_drop_41 rfl rfl (by omega) (by decide) ?_
      refine j_callVW (rest := []) 45 (c_X6_give g q Na (va_up Ia 7 (upd (Ia 7) zr (-1000000 : Int32))) Ns Is (nI ((Na 8) zr))  ) [.int (nI ((Na 8) zr))] dX6_drop_42 rfl cv_X6_76 rfl rfl 0 rfl rfl (gLe rfl) (gLe rfl) (gLe rfl) (gLe rfl) (wM_len _ _ _ _ _ _ _ _ _ _) rfl ?_
      refine j_iretI dX6_drop_45 rfl ⟨gLe rfl, gLe rfl, ?_⟩
      have ze : (pM_drop (nI zr) (Na, Ia, Ns, Is)) = ((nI ((Na 8) zr)), (Na, (va_up Ia 7 (upd (Ia 7) zr (-1000000 : Int32))), (va_up Ns 6 0), Is)) := by
        rw [pM_drop, if_neg (fun z => z h4), cl_nI (by omega), if_neg h18]
      exact ⟨congrArg (fun z : Int32 × RS => some (Value.int z.1)) ze.symm, congrArg (fun z : Int32 × RS => wS g q z.2) ze.symm⟩
    ·
      refine j_aload_n 22 dX6_drop_21 rfl 0 rfl ?_
      refine j_iconst (v := (1 : Int32)) 23 dX6_drop_22 rfl (by decide) ?_
      refine j_callVW (rest := []) 26 (c_X6_find g q Na Ia Ns Is 1  ) [.int ((-1000010 : Int32) - nI 1)] dX6_drop_23 rfl cv_X6_72 rfl rfl 0 rfl rfl (gLe rfl) (gLe rfl) (gLe rfl) (gLe rfl) (wM_len _ _ _ _ _ _ _ _ _ _) rfl ?_
      refine j_iretI dX6_drop_26 rfl ⟨gLe rfl, gLe rfl, ?_⟩
      have ze : (pM_drop (nI zr) (Na, Ia, Ns, Is)) = (((-1000010 : Int32) - nI 1), (Na, Ia, (va_up Ns 6 1), Is)) := by
        rw [pM_drop, if_neg (fun z => z h4), cl_nI (by omega), if_pos h18]
        rfl
      exact ⟨congrArg (fun z : Int32 × RS => some (Value.int z.1)) ze.symm, congrArg (fun z : Int32 × RS => wS g q z.2) ze.symm⟩
  ·
    refine j_ldc (v := (-1000001 : Int32)) 9 dX6_drop_7 rfl wd_4_140 ?_
    refine j_iretI dX6_drop_9 rfl ⟨gLe rfl, gLe rfl, ?_⟩
    have ze : (pM_drop r (Na, Ia, Ns, Is)) = ((-1000001 : Int32), (Na, Ia, Ns, Is)) := by
      exact if_pos h4
    exact ⟨congrArg (fun z : Int32 × RS => some (Value.int z.1)) ze.symm, congrArg (fun z : Int32 × RS => wS g q z.2) ze.symm⟩
