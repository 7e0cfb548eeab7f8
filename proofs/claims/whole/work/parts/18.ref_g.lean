set_option maxRecDepth 20000 in
theorem c_X6_hurdle (g : gG) (q : Nat → Nat) (Na : Nat → Nat → Nat) (Ia : Nat → Nat → Int32) (Ns : Nat → Nat) (Is : Nat → Int32) (h : Int32) (what : Int32) (hI : RI (Na, Ia, Ns, Is)) : gCon g mX6_hurdle 1 0 0 [.ref (q 26), .int h, .int what] (wS g q (Na, Ia, Ns, Is)) (fun rv ws' => rv = some (.int (pM_hurdle h what (Na, Ia, Ns, Is)).1) ∧ ws' = wS g q (pM_hurdle h what (Na, Ia, Ns, Is)).2) := by
  refine gCon.of (lv := [(0, .ref (q 26)), (1, .int h), (2, .int what)]) (by decide) (gLe rfl) rfl ?_
  refine j_ws (wM g q Na Ia Ns Is) rfl ?_
  have h8 : Na 0 1 ≤ 6 ∧ Na 0 2 ≤ 5 ∧ Na 0 3 ≤ 8 ∧ Na 0 0 ≤ 1 := RI_3 hI
  have h40 : Na 0 40 < 32 ∧ (∀ j, j < 5 → Na 0 (41 + j) ≤ 9999) ∧ (∀ p, p < 6 → Na 0 (46 + p) ≤ 9999 ∧ Na 0 (52 + p) ≤ 989901) ∧ inP (Na 0) ≤ 9999 := RI_40 hI
  have hpm : Ns 2 ≤ 24 := hI.2.1
  have hsz : ∀ r, r < 8 → Na 8 r ≤ 40 := hI.2.2.2.2.2.2.2.1
  have htr : Ns 11 ≤ 16 := hI.2.2.2.2.2.2.2.2.1
  have hst : Is 12 = -1000000 := hI.2.2.2.2.2.2.2.2.2.1
  have htp : Ns 4 ≤ 400 := hI.2.2.2.2.1
  refine j_iload_n 1 dX6_hurdle_0 rfl 1 rfl ?_
  refine j_i2l 2 dX6_hurdle_1 rfl ?_
  refine j_lconst (v := 0) 3 dX6_hurdle_2 rfl (by decide) ?_
  refine j_aload_n 4 dX6_hurdle_3 rfl 0 rfl ?_
  refine j_getf 7 0 dX6_hurdle_4 rfl fd_X6_7 rfl rfl ?_
  refine j_iconst (v := (2 : Int32)) 8 dX6_hurdle_7 rfl (by decide) ?_
  refine j_ialdN 2 9 1 dX6_hurdle_8 rfl rfl (by decide) (by decide) ?_
  refine j_iconst (v := (1 : Int32)) 10 dX6_hurdle_9 rfl (by decide) ?_
  refine j_isub 11 dX6_hurdle_10 rfl ?_
  refine j_i2l 12 dX6_hurdle_11 rfl ?_
  refine j_callSE (rest := []) 15 (c_inR g h (Na 0 2) (((nI ((Na 0) 2)) - (1 : Int32)).toInt64) (nI (Na 0 2) - 1) ⟨rfl, nI_pred_toInt (by omega)⟩) [.int (gB (inR h (Na 0 2)))] dX6_hurdle_12 rfl cs_X6_61 rfl rfl (gLe rfl) (gLe rfl) (gLe rfl) (gLe rfl) rfl ?_
  refine j_if_neB 18 21 dX6_hurdle_15 rfl rfl (fun h15 => ?_) (fun h15 => ?_)
  ·
    obtain ⟨zh, hzh, rfl⟩ := inR_of h15
    refine j_iload_n 22 dX6_hurdle_21 rfl 2 rfl ?_
    refine j_i2l 23 dX6_hurdle_22 rfl ?_
    refine j_lconst (v := 0) 24 dX6_hurdle_23 rfl (by decide) ?_
    refine j_ldc2 (v := (3 : Int64)) 27 dX6_hurdle_24 rfl wd_5_73 ?_
    refine j_callSE (rest := []) 30 (c_inR g what 4 (3 : Int64) (3 : Int32) ⟨by decide, by decide⟩) [.int (gB (inR what 4))] dX6_hurdle_27 rfl cs_X6_61 rfl rfl (gLe rfl) (gLe rfl) (gLe rfl) (gLe rfl) rfl ?_
    refine j_if_eqB 33 48 dX6_hurdle_30 rfl rfl (fun h30 => ?_) (fun h30 => ?_)
    ·
      refine j_iload_n 49 dX6_hurdle_48 rfl 2 rfl ?_
      refine j_iconst (v := (4 : Int32)) 50 dX6_hurdle_49 rfl (by decide) ?_
      refine j_icmp_ne 53 67 dX6_hurdle_50 rfl rfl (fun h50 => ?_) (fun h50 => ?_)
      ·
        refine j_iload_n 68 dX6_hurdle_67 rfl 2 rfl ?_
        refine j_iconst (v := (5 : Int32)) 69 dX6_hurdle_68 rfl (by decide) ?_
        refine j_icmp_ne 72 84 dX6_hurdle_69 rfl rfl (fun h69 => ?_) (fun h69 => ?_)
        ·
          refine j_ldc (v := (-1000001 : Int32)) 86 dX6_hurdle_84 rfl wd_4_140 ?_
          refine j_iretI dX6_hurdle_86 rfl ⟨gLe rfl, gLe rfl, ?_⟩
          have ze : (pM_hurdle (nI zh) what (Na, Ia, Ns, Is)) = ((-1000001 : Int32), (Na, Ia, Ns, Is)) := by
            rw [pM_hurdle, if_neg (fun z => z h15), if_neg h30, if_neg h50, if_neg h69]
          exact ⟨congrArg (fun z : Int32 × RS => some (Value.int z.1)) ze.symm, congrArg (fun z : Int32 × RS => wS g q z.2) ze.symm⟩
        ·
          refine j_aload_n 73 dX6_hurdle_72 rfl 0 rfl ?_
          refine j_getf 76 0 dX6_hurdle_73 rfl fd_X6_7 rfl rfl ?_
          refine j_bipush (v := (41 : Int32)) 78 dX6_hurdle_76 rfl (by decide) ?_
          refine j_iload_n 79 dX6_hurdle_78 rfl 1 rfl ?_
          refine j_iaddN 41 zh 80 dX6_hurdle_79 rfl ?_
          refine j_ialdN (41 + zh) 81 1 dX6_hurdle_80 rfl rfl (by omega) (by decide) ?_
          refine j_goto 86 dX6_hurdle_81 rfl ?_
          refine j_iretI dX6_hurdle_86 rfl ⟨gLe rfl, gLe rfl, ?_⟩
          have ze : (pM_hurdle (nI zh) what (Na, Ia, Ns, Is)) = ((nI ((Na 0) (41 + zh))), (Na, Ia, Ns, Is)) := by
            rw [pM_hurdle, if_neg (fun z => z h15), if_neg h30, if_neg h50, if_pos h69, cl_nI (by omega)]
          exact ⟨congrArg (fun z : Int32 × RS => some (Value.int z.1)) ze.symm, congrArg (fun z : Int32 × RS => wS g q z.2) ze.symm⟩
      ·
        refine j_aload_n 54 dX6_hurdle_53 rfl 0 rfl ?_
        refine j_getf 57 0 dX6_hurdle_54 rfl fd_X6_7 rfl rfl ?_
        refine j_bipush (v := (40 : Int32)) 59 dX6_hurdle_57 rfl (by decide) ?_
        refine j_ialdN 40 60 1 dX6_hurdle_59 rfl rfl (by decide) (by decide) ?_
        refine j_iload_n 61 dX6_hurdle_60 rfl 1 rfl ?_
        refine j_ishrN ((Na 0) 40) zh 62 dX6_hurdle_61 rfl (by omega) (by omega) ?_
        refine j_iconst (v := (1 : Int32)) 63 dX6_hurdle_62 rfl (by decide) ?_
        refine j_iandN (((Na 0) 40) / 2 ^ zh) 1 64 dX6_hurdle_63 rfl ?_
        refine j_topN ((((Na 0) 40) / 2 ^ zh) &&& 1) (Na 0 40 / 2 ^ zh % 2) (by rw [Nat.and_one_is_mod]) ?_
        refine j_goto 86 dX6_hurdle_64 rfl ?_
        refine j_iretI dX6_hurdle_86 rfl ⟨gLe rfl, gLe rfl, ?_⟩
        have ze : (pM_hurdle (nI zh) what (Na, Ia, Ns, Is)) = ((nI (Na 0 40 / 2 ^ zh % 2)), (Na, Ia, Ns, Is)) := by
          rw [pM_hurdle, if_neg (fun z => z h15), if_neg h30, if_pos h50, cl_nI (by omega)]
        exact ⟨congrArg (fun z : Int32 × RS => some (Value.int z.1)) ze.symm, congrArg (fun z : Int32 × RS => wS g q z.2) ze.symm⟩
    ·
      obtain ⟨zv, hzv, rfl⟩ := inR_of h30
      refine j_aload_n 34 dX6_hurdle_33 rfl 0 rfl ?_
      refine j_getf 37 0 dX6_hurdle_34 rfl fd_X6_7 rfl rfl ?_
      refine j_iconst (v := (4 : Int32)) 38 dX6_hurdle_37 rfl (by decide) ?_
      refine j_iconst (v := (4 : Int32)) 39 dX6_hurdle_38 rfl (by decide) ?_
      refine j_iload_n 40 dX6_hurdle_39 rfl 1 rfl ?_
      refine j_imulN 4 zh 41 dX6_hurdle_40 rfl ?_
      refine j_iaddN 4 (4 * zh) 42 dX6_hurdle_41 rfl ?_
      refine j_iload_n 43 dX6_hurdle_42 rfl 2 rfl ?_
      refine j_iaddN (4 + (4 * zh)) zv 44 dX6_hurdle_43 rfl ?_
      refine j_ialdN ((4 + (4 * zh)) + zv) 45 1 dX6_hurdle_44 rfl rfl (by omega) (by decide) ?_
      refine j_goto 86 dX6_hurdle_45 rfl ?_
      refine j_iretI dX6_hurdle_86 rfl ⟨gLe rfl, gLe rfl, ?_⟩
      have ze : (pM_hurdle (nI zh) (nI zv) (Na, Ia, Ns, Is)) = ((nI ((Na 0) ((4 + (4 * zh)) + zv))), (Na, Ia, Ns, Is)) := by
        rw [pM_hurdle, if_neg (fun z => z h15), if_pos h30, cl_nI (by omega), cl_nI (by omega)]
      exact ⟨congrArg (fun z : Int32 × RS => some (Value.int z.1)) ze.symm, congrArg (fun z : Int32 × RS => wS g q z.2) ze.symm⟩
  ·
    refine j_ldc (v := (-1000001 : Int32)) 20 dX6_hurdle_18 rfl wd_4_140 ?_
    refine j_iretI dX6_hurdle_20 rfl ⟨gLe rfl, gLe rfl, ?_⟩
    have ze : (pM_hurdle h what (Na, Ia, Ns, Is)) = ((-1000001 : Int32), (Na, Ia, Ns, Is)) := by
      exact if_pos h15
    exact ⟨congrArg (fun z : Int32 × RS => some (Value.int z.1)) ze.symm, congrArg (fun z : Int32 × RS => wS g q z.2) ze.symm⟩
set_option maxRecDepth 20000 in
theorem c_X6_pen (g : gG) (q : Nat → Nat) (Na : Nat → Nat → Nat) (Ia : Nat → Nat → Int32) (Ns : Nat → Nat) (Is : Nat → Int32) (p : Int32) (what : Int32) (hI : RI (Na, Ia, Ns, Is)) : gCon g mX6_pen 2 0 0 [.ref (q 26), .int p, .int what] (wS g q (Na, Ia, Ns, Is)) (fun rv ws' => rv = some (.int (pM_pen p what (Na, Ia, Ns, Is)).1) ∧ ws' = wS g q (pM_pen p what (Na, Ia, Ns, Is)).2) := by
  refine gCon.of (lv := [(0, .ref (q 26)), (1, .int p), (2, .int what)]) (by decide) (gLe rfl) rfl ?_
  refine j_ws (wM g q Na Ia Ns Is) rfl ?_
  have h8 : Na 0 1 ≤ 6 ∧ Na 0 2 ≤ 5 ∧ Na 0 3 ≤ 8 ∧ Na 0 0 ≤ 1 := RI_3 hI
  have h40 : Na 0 40 < 32 ∧ (∀ j, j < 5 → Na 0 (41 + j) ≤ 9999) ∧ (∀ p, p < 6 → Na 0 (46 + p) ≤ 9999 ∧ Na 0 (52 + p) ≤ 989901) ∧ inP (Na 0) ≤ 9999 := RI_40 hI
  have hpm : Ns 2 ≤ 24 := hI.2.1
  have hsz : ∀ r, r < 8 → Na 8 r ≤ 40 := hI.2.2.2.2.2.2.2.1
  have htr : Ns 11 ≤ 16 := hI.2.2.2.2.2.2.2.2.1
  have hst : Is 12 = -1000000 := hI.2.2.2.2.2.2.2.2.2.1
  have htp : Ns 4 ≤ 400 := hI.2.2.2.2.1
  refine j_aload_n 1 dX6_pen_0 rfl 0 rfl ?_
  refine j_iload_n 2 dX6_pen_1 rfl 1 rfl ?_
  refine j_callVW (rest := []) 5 (c_X6_isPen g q Na Ia Ns Is p  (by omega)) [.int (gB (inR p ((Na 0) 1)))] dX6_pen_2 rfl cv_X6_199 rfl rfl 0 rfl rfl (gLe rfl) (gLe rfl) (gLe rfl) (gLe rfl) (wM_len _ _ _ _ _ _ _ _ _ _) rfl ?_
  refine j_if_neB 8 13 dX6_pen_5 rfl rfl (fun h5 => ?_) (fun h5 => ?_)
  ·
    obtain ⟨zp, hzp, rfl⟩ := inR_of h5
    refine j_iload_n 14 dX6_pen_13 rfl 2 rfl ?_
    refine j_if_ne 17 29 dX6_pen_14 rfl rfl (fun h14 => ?_) (fun h14 => ?_)
    ·
      refine j_iload_n 30 dX6_pen_29 rfl 2 rfl ?_
      refine j_iconst (v := (1 : Int32)) 31 dX6_pen_30 rfl (by decide) ?_
      refine j_icmp_ne 34 46 dX6_pen_31 rfl rfl (fun h31 => ?_) (fun h31 => ?_)
      ·
        refine j_ldc (v := (-1000001 : Int32)) 48 dX6_pen_46 rfl wd_4_140 ?_
        refine j_iretI dX6_pen_48 rfl ⟨gLe rfl, gLe rfl, ?_⟩
        have ze : (pM_pen (nI zp) what (Na, Ia, Ns, Is)) = ((-1000001 : Int32), (Na, Ia, Ns, Is)) := by
          rw [pM_pen, if_neg (fun z => z h5), if_neg h14, if_neg h31]
        exact ⟨congrArg (fun z : Int32 × RS => some (Value.int z.1)) ze.symm, congrArg (fun z : Int32 × RS => wS g q z.2) ze.symm⟩
      ·
        refine j_aload_n 35 dX6_pen_34 rfl 0 rfl ?_
        refine j_getf 38 0 dX6_pen_35 rfl fd_X6_7 rfl rfl ?_
        refine j_bipush (v := (52 : Int32)) 40 dX6_pen_38 rfl (by decide) ?_
        refine j_iload_n 41 dX6_pen_40 rfl 1 rfl ?_
        refine j_iaddN 52 zp 42 dX6_pen_41 rfl ?_
        refine j_ialdN (52 + zp) 43 1 dX6_pen_42 rfl rfl (by omega) (by decide) ?_
        refine j_goto 48 dX6_pen_43 rfl ?_
        refine j_iretI dX6_pen_48 rfl ⟨gLe rfl, gLe rfl, ?_⟩
        have ze : (pM_pen (nI zp) what (Na, Ia, Ns, Is)) = ((nI ((Na 0) (52 + zp))), (Na, Ia, Ns, Is)) := by
          rw [pM_pen, if_neg (fun z => z h5), if_neg h14, if_pos h31, cl_nI (by omega)]
        exact ⟨congrArg (fun z : Int32 × RS => some (Value.int z.1)) ze.symm, congrArg (fun z : Int32 × RS => wS g q z.2) ze.symm⟩
    ·
      refine j_aload_n 18 dX6_pen_17 rfl 0 rfl ?_
      refine j_getf 21 0 dX6_pen_18 rfl fd_X6_7 rfl rfl ?_
      refine j_bipush (v := (46 : Int32)) 23 dX6_pen_21 rfl (by decide) ?_
      refine j_iload_n 24 dX6_pen_23 rfl 1 rfl ?_
      refine j_iaddN 46 zp 25 dX6_pen_24 rfl ?_
      refine j_ialdN (46 + zp) 26 1 dX6_pen_25 rfl rfl (by omega) (by decide) ?_
      refine j_goto 48 dX6_pen_26 rfl ?_
      refine j_iretI dX6_pen_48 rfl ⟨gLe rfl, gLe rfl, ?_⟩
      have ze : (pM_pen (nI zp) what (Na, Ia, Ns, Is)) = ((nI ((Na 0) (46 + zp))), (Na, Ia, Ns, Is)) := by
        rw [pM_pen, if_neg (fun z => z h5), if_pos h14, cl_nI (by omega)]
      exact ⟨congrArg (fun z : Int32 × RS => some (Value.int z.1)) ze.symm, congrArg (fun z : Int32 × RS => wS g q z.2) ze.symm⟩
  ·
    refine j_ldc (v := (-1000001 : Int32)) 10 dX6_pen_8 rfl wd_4_140 ?_
    refine j_goto 48 dX6_pen_10 rfl ?_
    refine j_iretI dX6_pen_48 rfl ⟨gLe rfl, gLe rfl, ?_⟩
    have ze : (pM_pen p what (Na, Ia, Ns, Is)) = ((-1000001 : Int32), (Na, Ia, Ns, Is)) := by
      exact if_pos h5
    exact ⟨congrArg (fun z : Int32 × RS => some (Value.int z.1)) ze.symm, congrArg (fun z : Int32 × RS => wS g q z.2) ze.symm⟩
set_option maxRecDepth 20000 in
theorem c_X6_trace (g : gG) (q : Nat → Nat) (Na : Nat → Nat → Nat) (Ia : Nat → Nat → Int32) (Ns : Nat → Nat) (Is : Nat → Int32) (i : Int32) (hI : RI (Na, Ia, Ns, Is)) : gCon g mX6_trace 1 0 0 [.ref (q 26), .int i] (wS g q (Na, Ia, Ns, Is)) (fun rv ws' => rv = some (.int (pM_trace i (Na, Ia, Ns, Is)).1) ∧ ws' = wS g q (pM_trace i (Na, Ia, Ns, Is)).2) := by
  refine gCon.of (lv := [(0, .ref (q 26)), (1, .int i)]) (by decide) (gLe rfl) rfl ?_
  refine j_ws (wM g q Na Ia Ns Is) rfl ?_
  have h8 : Na 0 1 ≤ 6 ∧ Na 0 2 ≤ 5 ∧ Na 0 3 ≤ 8 ∧ Na 0 0 ≤ 1 := RI_3 hI
  have h40 : Na 0 40 < 32 ∧ (∀ j, j < 5 → Na 0 (41 + j) ≤ 9999) ∧ (∀ p, p < 6 → Na 0 (46 + p) ≤ 9999 ∧ Na 0 (52 + p) ≤ 989901) ∧ inP (Na 0) ≤ 9999 := RI_40 hI
  have hpm : Ns 2 ≤ 24 := hI.2.1
  have hsz : ∀ r, r < 8 → Na 8 r ≤ 40 := hI.2.2.2.2.2.2.2.1
  have htr : Ns 11 ≤ 16 := hI.2.2.2.2.2.2.2.2.1
  have hst : Is 12 = -1000000 := hI.2.2.2.2.2.2.2.2.2.1
  have htp : Ns 4 ≤ 400 := hI.2.2.2.2.1
  refine j_iload_n 1 dX6_trace_0 rfl 1 rfl ?_
  refine j_i2l 2 dX6_trace_1 rfl ?_
  refine j_lconst (v := 0) 3 dX6_trace_2 rfl (by decide) ?_
  refine j_aload_n 4 dX6_trace_3 rfl 0 rfl ?_
  refine j_getf 7 0 dX6_trace_4 rfl fd_X6_268 rfl rfl ?_
  refine j_iconst (v := (1 : Int32)) 8 dX6_trace_7 rfl (by decide) ?_
  refine j_isub 9 dX6_trace_8 rfl ?_
  refine j_i2l 10 dX6_trace_9 rfl ?_
  refine j_callSE (rest := []) 13 (c_inR g i (Ns 11) (((nI (Ns 11)) - (1 : Int32)).toInt64) (nI (Ns 11) - 1) ⟨rfl, nI_pred_toInt (by omega)⟩) [.int (gB (inR i (Ns 11)))] dX6_trace_10 rfl cs_X6_61 rfl rfl (gLe rfl) (gLe rfl) (gLe rfl) (gLe rfl) rfl ?_
  refine j_if_eqB 16 25 dX6_trace_13 rfl rfl (fun h13 => ?_) (fun h13 => ?_)
  ·
    refine j_ldc (v := (-1000000 : Int32)) 27 dX6_trace_25 rfl wd_4_47 ?_
    refine j_iretI dX6_trace_27 rfl ⟨gLe rfl, gLe rfl, ?_⟩
    have ze : (pM_trace i (Na, Ia, Ns, Is)) = ((-1000000 : Int32), (Na, Ia, Ns, Is)) := by
      exact if_neg h13
    exact ⟨congrArg (fun z : Int32 × RS => some (Value.int z.1)) ze.symm, congrArg (fun z : Int32 × RS => wS g q z.2) ze.symm⟩
  ·
    obtain ⟨zi, hzi, rfl⟩ := inR_of h13
    refine j_aload_n 17 dX6_trace_16 rfl 0 rfl ?_
    refine j_getf 20 0 dX6_trace_17 rfl fd_X6_29 rfl rfl ?_
    refine j_iload_n 21 dX6_trace_20 rfl 1 rfl ?_
    refine j_ialdN zi 22 7 dX6_trace_21 rfl rfl (by omega) (by decide) ?_
    refine j_goto 27 dX6_trace_22 rfl ?_
    refine j_iretI dX6_trace_27 rfl ⟨gLe rfl, gLe rfl, ?_⟩
    have ze : (pM_trace (nI zi) (Na, Ia, Ns, Is)) = ((nI ((Na 10) zi)), (Na, Ia, Ns, Is)) := by
      rw [pM_trace, if_pos h13, cl_nI (by omega)]
    exact ⟨congrArg (fun z : Int32 × RS => some (Value.int z.1)) ze.symm, congrArg (fun z : Int32 × RS => wS g q z.2) ze.symm⟩
set_option maxRecDepth 20000 in
theorem c_X6_undo (g : gG) (q : Nat → Nat) (Na : Nat → Nat → Nat) (Ia : Nat → Nat → Int32) (Ns : Nat → Nat) (Is : Nat → Int32)  (hI : RI (Na, Ia, Ns, Is)) : gCon g mX6_undo 0 0 0 [.ref (q 26)] (wS g q (Na, Ia, Ns, Is)) (fun rv ws' => rv = some (.int (pM_undo  (Na, Ia, Ns, Is)).1) ∧ ws' = wS g q (pM_undo  (Na, Ia, Ns, Is)).2) := by
  refine gCon.of (lv := [(0, .ref (q 26))]) (by decide) (gLe rfl) rfl ?_
  refine j_ws (wM g q Na Ia Ns Is) rfl ?_
  have h8 : Na 0 1 ≤ 6 ∧ Na 0 2 ≤ 5 ∧ Na 0 3 ≤ 8 ∧ Na 0 0 ≤ 1 := RI_3 hI
  have h40 : Na 0 40 < 32 ∧ (∀ j, j < 5 → Na 0 (41 + j) ≤ 9999) ∧ (∀ p, p < 6 → Na 0 (46 + p) ≤ 9999 ∧ Na 0 (52 + p) ≤ 989901) ∧ inP (Na 0) ≤ 9999 := RI_40 hI
  have hpm : Ns 2 ≤ 24 := hI.2.1
  have hsz : ∀ r, r < 8 → Na 8 r ≤ 40 := hI.2.2.2.2.2.2.2.1
  have htr : Ns 11 ≤ 16 := hI.2.2.2.2.2.2.2.2.1
  have hst : Is 12 = -1000000 := hI.2.2.2.2.2.2.2.2.2.1
  have htp : Ns 4 ≤ 400 := hI.2.2.2.2.1
  refine j_aload_n 1 dX6_undo_0 rfl 0 rfl ?_
  refine j_getf 4 0 dX6_undo_1 rfl fd_X6_167 rfl rfl ?_
  refine j_if_neN (Ns 2) 7 10 dX6_undo_4 rfl rfl (by have z0 := hpm; omega) (fun h4 => ?_) (fun h4 => ?_)
  ·
    refine j_aload_n 11 dX6_undo_10 rfl 0 rfl ?_
    refine j_dup 12 dX6_undo_11 rfl rfl ?_
    refine j_getf 15 0 dX6_undo_12 rfl fd_X6_167 rfl rfl ?_
    refine j_iconst (v := (1 : Int32)) 16 dX6_undo_15 rfl (by decide) ?_
    refine j_isubN (Ns 2) 1 17 dX6_undo_16 rfl (by omega) ?_
    refine j_putf 20 0 (wM g q Na Ia (va_up Ns 2 ((Ns 2) - 1)) Is) dX6_undo_17 rfl fd_X6_167 rfl rfl rfl (gLe rfl) rfl ?_
    refine j_iconst (v := (0 : Int32)) 21 dX6_undo_20 rfl (by decide) ?_
    refine j_istore_n 22 [(1, .int (0 : Int32)), (0, .ref (q 26))] dX6_undo_21 rfl (by decide) rfl ?_
    have hL22 : ∀ (zm22 : Nat) (zi : Nat), 18 - zi < zm22 → (zi ≤ 18) → gJ g mX6_undo 0 0 0 (fun k' j' rv ws' => k' ≤ 0 ∧ j' ≤ 0 ∧ (rv = some (.int (pM_undo  (Na, Ia, Ns, Is)).1) ∧ ws' = wS g q (pM_undo  (Na, Ia, Ns, Is)).2)) 0 0 22 [(1, .int (nI zi)), (0, .ref (q 26))] [] (wM g q (va_up Na 0 (va_cpy (Na 1) (Na 0) (18 * (Ns 2 - 1)) 40 zi)) Ia (va_up Ns 2 (Ns 2 - 1)) Is) := by
      intro zm22
      induction zm22 with
      | zero => intro zi zmh; exact absurd zmh (Nat.not_lt_zero _)
      | succ zm22 zih22 =>
        intro zi zmh22 hz
        refine j_iload_n 23 dX6_undo_22 rfl 0 rfl ?_
        refine j_bipush (v := (18 : Int32)) 25 dX6_undo_23 rfl (by decide) ?_
        refine j_icmp_geN zi 18 28 57 dX6_undo_25 rfl rfl (by omega) (by decide) (fun h25 => ?_) (fun h25 => ?_)
        ·
          refine j_aload_n 58 dX6_undo_57 rfl 1 rfl ?_
          refine j_getf 61 0 dX6_undo_58 rfl fd_X6_167 rfl rfl ?_
          refine j_iretI dX6_undo_61 rfl ⟨gLe rfl, gLe rfl, ?_⟩
          have ze : (pM_undo  (Na, Ia, Ns, Is)) = ((nI (Ns 2 - 1)), ((va_up Na 0 (va_cpy (Na 1) (Na 0) (18 * (Ns 2 - 1)) 40 zi)), Ia, (va_up Ns 2 (Ns 2 - 1)), Is)) := by
            have ye : zi = 18 := by omega
            subst ye
            rw [pM_undo, if_neg h4]
          exact ⟨congrArg (fun z : Int32 × RS => some (Value.int z.1)) ze.symm, congrArg (fun z : Int32 × RS => wS g q z.2) ze.symm⟩
        ·
          refine j_aload_n 29 dX6_undo_28 rfl 1 rfl ?_
          refine j_getf 32 0 dX6_undo_29 rfl fd_X6_7 rfl rfl ?_
          refine j_bipush (v := (40 : Int32)) 34 dX6_undo_32 rfl (by decide) ?_
          refine j_iload_n 35 dX6_undo_34 rfl 0 rfl ?_
          refine j_iaddN 40 zi 36 dX6_undo_35 rfl ?_
          refine j_aload_n 37 dX6_undo_36 rfl 1 rfl ?_
          refine j_getf 40 0 dX6_undo_37 rfl fd_X6_13 rfl rfl ?_
          refine j_bipush (v := (18 : Int32)) 42 dX6_undo_40 rfl (by decide) ?_
          refine j_aload_n 43 dX6_undo_42 rfl 1 rfl ?_
          refine j_getf 46 0 dX6_undo_43 rfl fd_X6_167 rfl rfl ?_
          refine j_imulN 18 (Ns 2 - 1) 47 dX6_undo_46 rfl ?_
          refine j_iload_n 48 dX6_undo_47 rfl 0 rfl ?_
          refine j_iaddN (18 * (Ns 2 - 1)) zi 49 dX6_undo_48 rfl ?_
          refine j_ialdN ((18 * (Ns 2 - 1)) + zi) 50 2 dX6_undo_49 rfl rfl (by have z0 := hpm; omega) (by decide) ?_
          refine j_iastN ((Na 1) ((18 * (Ns 2 - 1)) + zi)) (40 + zi) 51 1 (wM g q (va_up Na 0 (va_up (va_cpy (Na 1) (Na 0) (18 * (Ns 2 - 1)) 40 zi) (40 + zi) ((Na 1) ((18 * (Ns 2 - 1)) + zi)))) Ia (va_up Ns 2 (Ns 2 - 1)) Is) dX6_undo_50 rfl rfl (by omega) (by decide) rfl ?_
          refine j_ws (wM g q (va_up Na 0 (va_cpy (Na 1) (Na 0) (18 * (Ns 2 - 1)) 40 (zi + 1))) Ia (va_up Ns 2 (Ns 2 - 1)) Is) (congrArg (fun z => wM g q (va_up Na 0 z) Ia (va_up Ns 2 (Ns 2 - 1)) Is) (cpy_s _ _ _ _ _)) ?_
          refine j_iincN zi 1 54 [(1, .int (nI (zi + 1))), (0, .ref (q 26))] dX6_undo_51 rfl 0 rfl (by decide) rfl ?_
          refine j_goto 22 dX6_undo_54 rfl ?_
          refine j_lv [0, 1] rfl ?_
          exact zih22 (zi + 1) (by omega) (by omega)
    refine j_ws (wM g q (va_up Na 0 (va_cpy (Na 1) (Na 0) (18 * (Ns 2 - 1)) 40 0)) Ia (va_up Ns 2 (Ns 2 - 1)) Is) (by rw [cpy_0]; rfl) ?_
    refine j_lv [0, 1] rfl ?_
    exact hL22 _ 0 (Nat.lt_succ_self _) (by omega)
  ·
    refine j_ldc (v := (-1000002 : Int32)) 9 dX6_undo_7 rfl wd_5_47 ?_
    refine j_iretI dX6_undo_9 rfl ⟨gLe rfl, gLe rfl, ?_⟩
    have ze : (pM_undo  (Na, Ia, Ns, Is)) = ((-1000002 : Int32), (Na, Ia, Ns, Is)) := by
      exact if_pos h4
    exact ⟨congrArg (fun z : Int32 × RS => some (Value.int z.1)) ze.symm, congrArg (fun z : Int32 × RS => wS g q z.2) ze.symm⟩
set_option maxRecDepth 20000 in
theorem c_X6_dawn (g : gG) (q : Nat → Nat) (Na : Nat → Nat → Nat) (Ia : Nat → Nat → Int32) (Ns : Nat → Nat) (Is : Nat → Int32) (s : Int32) (hI : RI (Na, Ia, Ns, Is)) : gCon g mX6_dawn 2 0 0 [.ref (q 26), .int s] (wS g q (Na, Ia, Ns, Is)) (fun rv ws' => rv = some (.int (pM_dawn s (Na, Ia, Ns, Is)).1) ∧ ws' = wS g q (pM_dawn s (Na, Ia, Ns, Is)).2) := by
  refine gCon.of (lv := [(0, .ref (q 26)), (1, .int s)]) (by decide) (gLe rfl) rfl ?_
  refine j_ws (wM g q Na Ia Ns Is) rfl ?_
  have h8 : Na 0 1 ≤ 6 ∧ Na 0 2 ≤ 5 ∧ Na 0 3 ≤ 8 ∧ Na 0 0 ≤ 1 := RI_3 hI
  have h40 : Na 0 40 < 32 ∧ (∀ j, j < 5 → Na 0 (41 + j) ≤ 9999) ∧ (∀ p, p < 6 → Na 0 (46 + p) ≤ 9999 ∧ Na 0 (52 + p) ≤ 989901) ∧ inP (Na 0) ≤ 9999 := RI_40 hI
  have hpm : Ns 2 ≤ 24 := hI.2.1
  have hsz : ∀ r, r < 8 → Na 8 r ≤ 40 := hI.2.2.2.2.2.2.2.1
  have htr : Ns 11 ≤ 16 := hI.2.2.2.2.2.2.2.2.1
  have hst : Is 12 = -1000000 := hI.2.2.2.2.2.2.2.2.2.1
  have htp : Ns 4 ≤ 400 := hI.2.2.2.2.1
  refine j_aload_n 1 dX6_dawn_0 rfl 0 rfl ?_
  refine j_getf 4 0 dX6_dawn_1 rfl fd_X6_7 rfl rfl ?_
  refine j_iconst (v := (0 : Int32)) 5 dX6_dawn_4 rfl (by decide) ?_
  refine j_ialdN 0 6 1 dX6_dawn_5 rfl rfl (by decide) (by decide) ?_
  refine j_if_neN ((Na 0) 0) 9 12 dX6_dawn_6 rfl rfl (by have z0 := h8.2.2.2; omega) (fun h6 => ?_) (fun h6 => ?_)
  ·
    refine j_aload_n 13 dX6_dawn_12 rfl 0 rfl ?_
    refine j_iload_n 14 dX6_dawn_13 rfl 1 rfl ?_
    refine j_callVW (rest := []) 17 (c_X6_areStands g q Na Ia Ns Is s  h8.2.1) [.int (gB (inR s (2 ^ (Na 0) 2)))] dX6_dawn_14 rfl cv_X6_211 rfl rfl 0 rfl rfl (gLe rfl) (gLe rfl) (gLe rfl) (gLe rfl) (wM_len _ _ _ _ _ _ _ _ _ _) rfl ?_
    refine j_if_neB 20 23 dX6_dawn_17 rfl rfl (fun h17 => ?_) (fun h17 => ?_)
    ·
      obtain ⟨zs, hzs, rfl⟩ := inR_of h17
      refine j_aload_n 24 dX6_dawn_23 rfl 0 rfl ?_
      refine j_callVW (rest := []) 27 (c_X6_keepPast g q Na Ia Ns Is   hpm) [] dX6_dawn_24 rfl cv_X6_184 rfl rfl 0 rfl rfl (gLe rfl) (gLe rfl) (gLe rfl) (gLe rfl) (wM_len _ _ _ _ _ _ _ _ _ _) rfl ?_
      refine j_aload_n 28 dX6_dawn_27 rfl 0 rfl ?_
      refine j_getf 31 0 dX6_dawn_28 rfl fd_X6_7 rfl rfl ?_
      refine j_bipush (v := (40 : Int32)) 33 dX6_dawn_31 rfl (by decide) ?_
      refine j_ialdN 40 34 1 dX6_dawn_33 rfl rfl (by decide) (by decide) ?_
      refine j_istore_n 35 [(2, .int (nI ((Na 0) 40))), (0, .ref (q 26)), (1, .int (nI zs))] dX6_dawn_34 rfl (by decide) rfl ?_
      refine j_iconst (v := (0 : Int32)) 36 dX6_dawn_35 rfl (by decide) ?_
      refine j_istore_n 37 [(3, .int (0 : Int32)), (2, .int (nI ((Na 0) 40))), (0, .ref (q 26)), (1, .int (nI zs))] dX6_dawn_36 rfl (by decide) rfl ?_
      have hL37 : ∀ (zm37 : Nat) (zi : Nat), 18 - zi < zm37 → (zi ≤ 18) → gJ g mX6_dawn 2 0 0 (fun k' j' rv ws' => k' ≤ 0 ∧ j' ≤ 0 ∧ (rv = some (.int (pM_dawn (nI zs) (Na, Ia, Ns, Is)).1) ∧ ws' = wS g q (pM_dawn (nI zs) (Na, Ia, Ns, Is)).2)) 0 0 37 [(3, .int (nI zi)), (2, .int (nI (Na 0 40))), (0, .ref (q 26)), (1, .int (nI zs))] [] (wM g q (va_up (va_up Na 0 (va_cpy (fun _ => 0) (Na 0) 0 40 zi)) 1 (kpP (Na 1) (Na 0) (Ns 2))) Ia (va_up Ns 2 (kpN (Ns 2))) Is) := by
        intro zm37
        induction zm37 with
        | zero => intro zi zmh; exact absurd zmh (Nat.not_lt_zero _)
        | succ zm37 zih37 =>
          intro zi zmh37 hz
          refine j_iload_n 38 dX6_dawn_37 rfl 0 rfl ?_
          refine j_bipush (v := (18 : Int32)) 40 dX6_dawn_38 rfl (by decide) ?_
          refine j_icmp_geN zi 18 43 59 dX6_dawn_40 rfl rfl (by omega) (by decide) (fun h40 => ?_) (fun h40 => ?_)
          ·
            refine j_aload_n 60 dX6_dawn_59 rfl 2 rfl ?_
            refine j_getf 63 0 dX6_dawn_60 rfl fd_X6_7 rfl rfl ?_
            refine j_bipush (v := (40 : Int32)) 65 dX6_dawn_63 rfl (by decide) ?_
            refine j_iload_n 66 dX6_dawn_65 rfl 3 rfl ?_
            refine j_iastN zs 40 67 1 (wM g q (va_up (va_up Na 0 (va_up (va_cpy (fun _ => 0) (Na 0) 0 40 zi) 40 zs)) 1 (kpP (Na 1) (Na 0) (Ns 2))) Ia (va_up Ns 2 (kpN (Ns 2))) Is) dX6_dawn_66 rfl rfl (by decide) (by decide) rfl ?_
            refine j_iload_n 68 dX6_dawn_67 rfl 1 rfl ?_
            refine j_iretI dX6_dawn_68 rfl ⟨gLe rfl, gLe rfl, ?_⟩
            have ze : (pM_dawn (nI zs) (Na, Ia, Ns, Is)) = ((nI (Na 0 40)), ((va_up (va_up Na 0 (va_up (va_cpy (fun _ => 0) (Na 0) 0 40 zi) 40 zs)) 1 (kpP (Na 1) (Na 0) (Ns 2))), Ia, (va_up Ns 2 (kpN (Ns 2))), Is)) := by
              have ye : zi = 18 := by omega
              subst ye
              rw [pM_dawn, if_neg h6, if_neg (fun z => z h17), cl_nI (by have : 2 ^ Na 0 2 ≤ 2 ^ 5 := Nat.pow_le_pow_right (by decide) h8.2.1; omega)]
              rfl
            exact ⟨congrArg (fun z : Int32 × RS => some (Value.int z.1)) ze.symm, congrArg (fun z : Int32 × RS => wS g q z.2) ze.symm⟩
          ·
            refine j_aload_n 44 dX6_dawn_43 rfl 2 rfl ?_
            refine j_getf 47 0 dX6_dawn_44 rfl fd_X6_7 rfl rfl ?_
            refine j_bipush (v := (40 : Int32)) 49 dX6_dawn_47 rfl (by decide) ?_
            refine j_iload_n 50 dX6_dawn_49 rfl 0 rfl ?_
            refine j_iaddN 40 zi 51 dX6_dawn_50 rfl ?_
            refine j_iconst (v := (0 : Int32)) 52 dX6_dawn_51 rfl (by decide) ?_
            refine j_iastN 0 (40 + zi) 53 1 (wM g q (va_up (va_up Na 0 (va_up (va_cpy (fun _ => 0) (Na 0) 0 40 zi) (40 + zi) 0)) 1 (kpP (Na 1) (Na 0) (Ns 2))) Ia (va_up Ns 2 (kpN (Ns 2))) Is) dX6_dawn_52 rfl rfl (by omega) (by decide) rfl ?_
            refine j_ws (wM g q (va_up (va_up Na 0 (va_cpy (fun _ => 0) (Na 0) 0 40 (zi + 1))) 1 (kpP (Na 1) (Na 0) (Ns 2))) Ia (va_up Ns 2 (kpN (Ns 2))) Is) (congrArg (fun z => wM g q (va_up (va_up Na 1 (kpP (Na 1) (Na 0) (Ns 2))) 0 z) Ia (va_up Ns 2 (kpN (Ns 2))) Is) (cpy_s (fun _ => 0) _ 0 _ _)) ?_
            refine j_iincN zi 1 56 [(3, .int (nI (zi + 1))), (2, .int (nI (Na 0 40))), (0, .ref (q 26)), (1, .int (nI zs))] dX6_dawn_53 rfl 0 rfl (by decide) rfl ?_
            refine j_goto 37 dX6_dawn_56 rfl ?_
            refine j_lv [0, 1, 2, 3] rfl ?_
            exact zih37 (zi + 1) (by omega) (by omega)
      refine j_ws (wM g q (va_up (va_up Na 0 (va_cpy (fun _ => 0) (Na 0) 0 40 0)) 1 (kpP (Na 1) (Na 0) (Ns 2))) Ia (va_up Ns 2 (kpN (Ns 2))) Is) (by rw [cpy_0]; rfl) ?_
      refine j_lv [0, 1, 2, 3] rfl ?_
      exact hL37 _ 0 (Nat.lt_succ_self _) (by omega)
    ·
      refine j_ldc (v := (-1000001 : Int32)) 22 dX6_dawn_20 rfl wd_4_140 ?_
      refine j_iretI dX6_dawn_22 rfl ⟨gLe rfl, gLe rfl, ?_⟩
      have ze : (pM_dawn s (Na, Ia, Ns, Is)) = ((-1000001 : Int32), (Na, Ia, Ns, Is)) := by
        rw [pM_dawn, if_neg h6, if_pos h17]
      exact ⟨congrArg (fun z : Int32 × RS => some (Value.int z.1)) ze.symm, congrArg (fun z : Int32 × RS => wS g q z.2) ze.symm⟩
  ·
    refine j_ldc (v := (-1000002 : Int32)) 11 dX6_dawn_9 rfl wd_5_47 ?_
    refine j_iretI dX6_dawn_11 rfl ⟨gLe rfl, gLe rfl, ?_⟩
    have ze : (pM_dawn s (Na, Ia, Ns, Is)) = ((-1000002 : Int32), (Na, Ia, Ns, Is)) := by
      exact if_pos h6
    exact ⟨congrArg (fun z : Int32 × RS => some (Value.int z.1)) ze.symm, congrArg (fun z : Int32 × RS => wS g q z.2) ze.symm⟩
set_option maxRecDepth 20000 in
theorem c_X6_image (g : gG) (q : Nat → Nat) (Na : Nat → Nat → Nat) (Ia : Nat → Nat → Int32) (Ns : Nat → Nat) (Is : Nat → Int32) (k : Int32) (hI : RI (Na, Ia, Ns, Is)) : gCon g mX6_image 1 0 0 [.ref (q 26), .int k] (wS g q (Na, Ia, Ns, Is)) (fun rv ws' => rv = some (.int (pM_image k (Na, Ia, Ns, Is)).1) ∧ ws' = wS g q (pM_image k (Na, Ia, Ns, Is)).2) := by
  refine gCon.of (lv := [(0, .ref (q 26)), (1, .int k)]) (by decide) (gLe rfl) rfl ?_
  refine j_ws (wM g q Na Ia Ns Is) rfl ?_
  have h8 : Na 0 1 ≤ 6 ∧ Na 0 2 ≤ 5 ∧ Na 0 3 ≤ 8 ∧ Na 0 0 ≤ 1 := RI_3 hI
  have h40 : Na 0 40 < 32 ∧ (∀ j, j < 5 → Na 0 (41 + j) ≤ 9999) ∧ (∀ p, p < 6 → Na 0 (46 + p) ≤ 9999 ∧ Na 0 (52 + p) ≤ 989901) ∧ inP (Na 0) ≤ 9999 := RI_40 hI
  have hpm : Ns 2 ≤ 24 := hI.2.1
  have hsz : ∀ r, r < 8 → Na 8 r ≤ 40 := hI.2.2.2.2.2.2.2.1
  have htr : Ns 11 ≤ 16 := hI.2.2.2.2.2.2.2.2.1
  have hst : Is 12 = -1000000 := hI.2.2.2.2.2.2.2.2.2.1
  have htp : Ns 4 ≤ 400 := hI.2.2.2.2.1
  refine j_iload_n 1 dX6_image_0 rfl 1 rfl ?_
  refine j_i2l 2 dX6_image_1 rfl ?_
  refine j_lconst (v := 0) 3 dX6_image_2 rfl (by decide) ?_
  refine j_lconst (v := 1) 4 dX6_image_3 rfl (by decide) ?_
  refine j_callSE (rest := []) 7 (c_inR g k 2 (1 : Int64) (1 : Int32) ⟨by decide, by decide⟩) [.int (gB (inR k 2))] dX6_image_4 rfl cs_X6_61 rfl rfl (gLe rfl) (gLe rfl) (gLe rfl) (gLe rfl) rfl ?_
  refine j_if_neB 10 13 dX6_image_7 rfl rfl (fun h7 => ?_) (fun h7 => ?_)
  ·
    obtain ⟨zk, hzk, rfl⟩ := inR_of h7
    refine j_aload_n 14 dX6_image_13 rfl 0 rfl ?_
    refine j_getf 17 0 dX6_image_14 rfl fd_X6_7 rfl rfl ?_
    refine j_iconst (v := (0 : Int32)) 18 dX6_image_17 rfl (by decide) ?_
    refine j_ialdN 0 19 1 dX6_image_18 rfl rfl (by decide) (by decide) ?_
    refine j_if_neN ((Na 0) 0) 22 25 dX6_image_19 rfl rfl (by have z0 := h8.2.2.2; omega) (fun h19 => ?_) (fun h19 => ?_)
    ·
      refine j_aload_n 26 dX6_image_25 rfl 0 rfl ?_
      refine j_iconst (v := (0 : Int32)) 27 dX6_image_26 rfl (by decide) ?_
      refine j_bipush (v := (58 : Int32)) 29 dX6_image_27 rfl (by decide) ?_
      refine j_iconst (v := (1 : Int32)) 30 dX6_image_29 rfl (by decide) ?_
      refine j_iload_n 31 dX6_image_30 rfl 1 rfl ?_
      refine j_iaddN 1 zk 32 dX6_image_31 rfl ?_
      refine j_imulN 58 (1 + zk) 33 dX6_image_32 rfl ?_
      refine j_callVW (rest := []) 36 (c_X6_copyRow g q Na Ia Ns Is 0 (58 * (1 + zk))  (by omega) (by omega) (by omega)) [] dX6_image_33 rfl cv_X6_224 rfl rfl 0 rfl rfl (gLe rfl) (gLe rfl) (gLe rfl) (gLe rfl) (wM_len _ _ _ _ _ _ _ _ _ _) rfl ?_
      refine j_iconst (v := (1 : Int32)) 37 dX6_image_36 rfl (by decide) ?_
      refine j_iretI dX6_image_37 rfl ⟨gLe rfl, gLe rfl, ?_⟩
      have ze : (pM_image (nI zk) (Na, Ia, Ns, Is)) = ((1 : Int32), ((va_up Na 0 (va_cpy (Na 0) (Na 0) 0 (58 * (1 + zk)) 58)), Ia, Ns, Is)) := by
        rw [pM_image, if_neg (fun z => z h7), if_neg h19, cl_nI (by omega)]
      exact ⟨congrArg (fun z : Int32 × RS => some (Value.int z.1)) ze.symm, congrArg (fun z : Int32 × RS => wS g q z.2) ze.symm⟩
    ·
      refine j_ldc (v := (-1000002 : Int32)) 24 dX6_image_22 rfl wd_5_47 ?_
      refine j_iretI dX6_image_24 rfl ⟨gLe rfl, gLe rfl, ?_⟩
      have ze : (pM_image (nI zk) (Na, Ia, Ns, Is)) = ((-1000002 : Int32), (Na, Ia, Ns, Is)) := by
        rw [pM_image, if_neg (fun z => z h7), if_pos h19]
      exact ⟨congrArg (fun z : Int32 × RS => some (Value.int z.1)) ze.symm, congrArg (fun z : Int32 × RS => wS g q z.2) ze.symm⟩
  ·
    refine j_ldc (v := (-1000001 : Int32)) 12 dX6_image_10 rfl wd_4_140 ?_
    refine j_iretI dX6_image_12 rfl ⟨gLe rfl, gLe rfl, ?_⟩
    have ze : (pM_image k (Na, Ia, Ns, Is)) = ((-1000001 : Int32), (Na, Ia, Ns, Is)) := by
      exact if_pos h7
    exact ⟨congrArg (fun z : Int32 × RS => some (Value.int z.1)) ze.symm, congrArg (fun z : Int32 × RS => wS g q z.2) ze.symm⟩
set_option maxRecDepth 20000 in
theorem c_X6_restore (g : gG) (q : Nat → Nat) (Na : Nat → Nat → Nat) (Ia : Nat → Nat → Int32) (Ns : Nat → Nat) (Is : Nat → Int32) (k : Int32) (hI : RI (Na, Ia, Ns, Is)) : gCon g mX6_restore 1 0 0 [.ref (q 26), .int k] (wS g q (Na, Ia, Ns, Is)) (fun rv ws' => rv = some (.int (pM_restore k (Na, Ia, Ns, Is)).1) ∧ ws' = wS g q (pM_restore k (Na, Ia, Ns, Is)).2) := by
  refine gCon.of (lv := [(0, .ref (q 26)), (1, .int k)]) (by decide) (gLe rfl) rfl ?_
  refine j_ws (wM g q Na Ia Ns Is) rfl ?_
  have h8 : Na 0 1 ≤ 6 ∧ Na 0 2 ≤ 5 ∧ Na 0 3 ≤ 8 ∧ Na 0 0 ≤ 1 := RI_3 hI
  have h40 : Na 0 40 < 32 ∧ (∀ j, j < 5 → Na 0 (41 + j) ≤ 9999) ∧ (∀ p, p < 6 → Na 0 (46 + p) ≤ 9999 ∧ Na 0 (52 + p) ≤ 989901) ∧ inP (Na 0) ≤ 9999 := RI_40 hI
  have hpm : Ns 2 ≤ 24 := hI.2.1
  have hsz : ∀ r, r < 8 → Na 8 r ≤ 40 := hI.2.2.2.2.2.2.2.1
  have htr : Ns 11 ≤ 16 := hI.2.2.2.2.2.2.2.2.1
  have hst : Is 12 = -1000000 := hI.2.2.2.2.2.2.2.2.2.1
  have htp : Ns 4 ≤ 400 := hI.2.2.2.2.1
  have hi0 : ∀ i, i < 2 → Na 0 (58 * (1 + i)) ≤ 1 := fun i hi => (hI.1.2 i hi).elim (fun z => Nat.le_of_eq z.1) (fun z => Nat.le_trans (Nat.le_of_eq z) (Nat.zero_le 1))
  refine j_iload_n 1 dX6_restore_0 rfl 1 rfl ?_
  refine j_i2l 2 dX6_restore_1 rfl ?_
  refine j_lconst (v := 0) 3 dX6_restore_2 rfl (by decide) ?_
  refine j_lconst (v := 1) 4 dX6_restore_3 rfl (by decide) ?_
  refine j_callSE (rest := []) 7 (c_inR g k 2 (1 : Int64) (1 : Int32) ⟨by decide, by decide⟩) [.int (gB (inR k 2))] dX6_restore_4 rfl cs_X6_61 rfl rfl (gLe rfl) (gLe rfl) (gLe rfl) (gLe rfl) rfl ?_
  refine j_if_neB 10 13 dX6_restore_7 rfl rfl (fun h7 => ?_) (fun h7 => ?_)
  ·
    obtain ⟨zk, hzk, rfl⟩ := inR_of h7
    refine j_aload_n 14 dX6_restore_13 rfl 0 rfl ?_
    refine j_getf 17 0 dX6_restore_14 rfl fd_X6_7 rfl rfl ?_
    refine j_bipush (v := (58 : Int32)) 19 dX6_restore_17 rfl (by decide) ?_
    refine j_iconst (v := (1 : Int32)) 20 dX6_restore_19 rfl (by decide) ?_
    refine j_iload_n 21 dX6_restore_20 rfl 1 rfl ?_
    refine j_iaddN 1 zk 22 dX6_restore_21 rfl ?_
    refine j_imulN 58 (1 + zk) 23 dX6_restore_22 rfl ?_
    refine j_iconst (v := (0 : Int32)) 24 dX6_restore_23 rfl (by decide) ?_
    refine j_iaddN (58 * (1 + zk)) 0 25 dX6_restore_24 rfl ?_
    refine j_ialdN ((58 * (1 + zk)) + 0) 26 1 dX6_restore_25 rfl rfl (by omega) (by decide) ?_
    refine j_topN ((Na 0) ((58 * (1 + zk)) + 0)) (Na 0 (58 * (1 + zk))) rfl ?_
    refine j_if_neN (Na 0 (58 * (1 + zk))) 29 32 dX6_restore_26 rfl rfl (by have z0 := hi0 zk hzk; omega) (fun h26 => ?_) (fun h26 => ?_)
    ·
      refine j_aload_n 33 dX6_restore_32 rfl 0 rfl ?_
      refine j_bipush (v := (58 : Int32)) 35 dX6_restore_33 rfl (by decide) ?_
      refine j_iconst (v := (1 : Int32)) 36 dX6_restore_35 rfl (by decide) ?_
      refine j_iload_n 37 dX6_restore_36 rfl 1 rfl ?_
      refine j_iaddN 1 zk 38 dX6_restore_37 rfl ?_
      refine j_imulN 58 (1 + zk) 39 dX6_restore_38 rfl ?_
      refine j_iconst (v := (0 : Int32)) 40 dX6_restore_39 rfl (by decide) ?_
      refine j_callVW (rest := []) 43 (c_X6_copyRow g q Na Ia Ns Is (58 * (1 + zk)) 0  (by omega) (by omega) (by omega)) [] dX6_restore_40 rfl cv_X6_224 rfl rfl 0 rfl rfl (gLe rfl) (gLe rfl) (gLe rfl) (gLe rfl) (wM_len _ _ _ _ _ _ _ _ _ _) rfl ?_
      refine j_aload_n 44 dX6_restore_43 rfl 0 rfl ?_
      refine j_iconst (v := (0 : Int32)) 45 dX6_restore_44 rfl (by decide) ?_
      refine j_putf 48 0 (wM g q (va_up Na 0 (va_cpy (Na 0) (Na 0) (58 * (1 + zk)) 0 58)) Ia (va_up Ns 2 0) Is) dX6_restore_45 rfl fd_X6_167 rfl rfl rfl (gLe rfl) rfl ?_
      refine j_iconst (v := (1 : Int32)) 49 dX6_restore_48 rfl (by decide) ?_
      refine j_iretI dX6_restore_49 rfl ⟨gLe rfl, gLe rfl, ?_⟩
      have ze : (pM_restore (nI zk) (Na, Ia, Ns, Is)) = ((1 : Int32), ((va_up Na 0 (va_cpy (Na 0) (Na 0) (58 * (1 + zk)) 0 58)), Ia, (va_up Ns 2 0), Is)) := by
        rw [pM_restore, if_neg (fun z => z h7), cl_nI (by omega), if_neg h26]
      exact ⟨congrArg (fun z : Int32 × RS => some (Value.int z.1)) ze.symm, congrArg (fun z : Int32 × RS => wS g q z.2) ze.symm⟩
    ·
      refine j_ldc (v := (-1000002 : Int32)) 31 dX6_restore_29 rfl wd_5_47 ?_
      refine j_iretI dX6_restore_31 rfl ⟨gLe rfl, gLe rfl, ?_⟩
      have ze : (pM_restore (nI zk) (Na, Ia, Ns, Is)) = ((-1000002 : Int32), (Na, Ia, Ns, Is)) := by
        rw [pM_restore, if_neg (fun z => z h7), cl_nI (by omega), if_pos h26]
      exact ⟨congrArg (fun z : Int32 × RS => some (Value.int z.1)) ze.symm, congrArg (fun z : Int32 × RS => wS g q z.2) ze.symm⟩
  ·
    refine j_ldc (v := (-1000001 : Int32)) 12 dX6_restore_10 rfl wd_4_140 ?_
    refine j_iretI dX6_restore_12 rfl ⟨gLe rfl, gLe rfl, ?_⟩
    have ze : (pM_restore k (Na, Ia, Ns, Is)) = ((-1000001 : Int32), (Na, Ia, Ns, Is)) := by
      exact if_pos h7
    exact ⟨congrArg (fun z : Int32 × RS => some (Value.int z.1)) ze.symm, congrArg (fun z : Int32 × RS => wS g q z.2) ze.symm⟩
