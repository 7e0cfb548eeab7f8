theorem by_s : ∀ k, k < 8 → (((nI (8 * k)).toInt64.toBitVec &&& Int64.toBitVec 63).smod 64).toNat = 8 * k := by decide
theorem by_255 (i : Nat) : (255 : Int64).toBitVec.getLsbD i = decide (i < 8) := by
  by_cases h : i < 8
  · have : ∀ i, i < 8 → (255 : Int64).toBitVec.getLsbD i = decide (i < 8) := by decide
    exact this i h
  · by_cases h2 : i < 64
    · have : ∀ i, i < 64 → ¬ i < 8 → (255 : Int64).toBitVec.getLsbD i = decide (i < 8) := by decide
      exact this i h2 h
    · rw [BitVec.getLsbD_of_ge _ _ (by omega)]
      simp [h]
theorem byteW_bit (w : Int64) (k i : Nat) : (byteW w k).testBit i = (decide (i < 8) && w.toBitVec.getLsbD (8 * k + i)) := by
  unfold byteW
  rw [show (256 : Nat) = 2 ^ 8 by decide, Nat.testBit_mod_two_pow, Nat.testBit_div_two_pow, Nat.add_comm i]
  rfl
theorem byte_eq (w : Int64) {k : Nat} (hk : k < 8) : ((w >>> ((nI (8 * k)).toInt64 &&& 63)) &&& 255).toInt32 = nI (byteW w k) := by
  apply Int32.toBitVec_inj.mp
  apply BitVec.eq_of_getLsbD_eq
  intro i hi
  have hR : (nI (byteW w k)).toBitVec = BitVec.ofNat 32 (byteW w k) := rfl
  rw [hR, BitVec.getLsbD_ofNat, byteW_bit]
  have e := by_s k hk
  simp only [Int64.toBitVec_toInt32, Int64.toBitVec_and, Int64.toBitVec_shiftRight, BitVec.getLsbD_signExtend, BitVec.getLsbD_and, BitVec.sshiftRight_eq', BitVec.getLsbD_sshiftRight, by_255]
  rw [e, if_pos (by omega : i < 64)]
  by_cases h8 : i < 8
  · rw [if_pos (by omega)]
    simp [h8, hi]
    intro h
    omega
  · simp [h8]
theorem fdT_0 (t : Nat → Nat) (len : Nat) (w : Int64) (n : Nat) : fdT t len w n 0 = t := by
  funext k
  simp only [fdT]
  rw [if_neg (by omega)]
theorem fdT_s (t : Nat → Nat) (len : Nat) (w : Int64) (n i : Nat) : va_up (fdT t len w n i) (len + i) (byteW w (n - 1 - i)) = fdT t len w n (i + 1) := by
  funext k
  simp only [fdT, va_up]
  by_cases h : k = len + i
  · rw [if_pos h, if_pos (by omega), show k - len = i by omega]
  · rw [if_neg h]
    by_cases h2 : len ≤ k ∧ k < len + i
    · rw [if_pos h2, if_pos (by omega)]
    · rw [if_neg h2, if_neg (by omega)]
set_option maxRecDepth 20000 in
theorem c_X6_feed (g : gG) (q : Nat → Nat) (Na : Nat → Nat → Nat) (Ia : Nat → Nat → Int32) (Ns : Nat → Nat) (Is : Nat → Int32) (w : Int64) (n : Int32) (hI : RI (Na, Ia, Ns, Is)) : gCon g mX6_feed 1 0 0 [.ref (q 26), .long w, .int n] (wS g q (Na, Ia, Ns, Is)) (fun rv ws' => rv = some (.int (pM_feed w n (Na, Ia, Ns, Is)).1) ∧ ws' = wS g q (pM_feed w n (Na, Ia, Ns, Is)).2) := by
  refine gCon.of (lv := [(0, .ref (q 26)), (1, .long w), (3, .int n)]) (by decide) (gLe rfl) rfl ?_
  refine j_ws (wM g q Na Ia Ns Is) rfl ?_
  have h8 : Na 0 1 ≤ 6 ∧ Na 0 2 ≤ 5 ∧ Na 0 3 ≤ 8 ∧ Na 0 0 ≤ 1 := RI_3 hI
  have h40 : Na 0 40 < 32 ∧ (∀ j, j < 5 → Na 0 (41 + j) ≤ 9999) ∧ (∀ p, p < 6 → Na 0 (46 + p) ≤ 9999 ∧ Na 0 (52 + p) ≤ 989901) ∧ inP (Na 0) ≤ 9999 := RI_40 hI
  have hpm : Ns 2 ≤ 24 := hI.2.1
  have hsz : ∀ r, r < 8 → Na 8 r ≤ 40 := hI.2.2.2.2.2.2.2.1
  have htr : Ns 11 ≤ 16 := hI.2.2.2.2.2.2.2.2.1
  have hst : Is 12 = -1000000 := hI.2.2.2.2.2.2.2.2.2.1
  have htp : Ns 4 ≤ 400 := hI.2.2.2.2.1
  refine j_iload_n 1 dX6_feed_0 rfl 2 rfl ?_
  refine j_i2l 2 dX6_feed_1 rfl ?_
  refine j_lconst (v := 1) 3 dX6_feed_2 rfl (by decide) ?_
  refine j_ldc2 (v := (8 : Int64)) 6 dX6_feed_3 rfl wd_4_170 ?_
  refine j_callSE (rest := []) 9 (c_in32 g n (1 : Int32) (8 : Int32) (1 : Int64) (8 : Int64) (by decide) (by decide)) [.int (gB ((1 : Int32) ≤ n ∧ n ≤ (8 : Int32)))] dX6_feed_6 rfl cs_X6_61 rfl rfl (gLe rfl) (gLe rfl) (gLe rfl) (gLe rfl) rfl ?_
  refine j_if_neB 12 15 dX6_feed_9 rfl rfl (fun h9 => ?_) (fun h9 => ?_)
  ·
    obtain ⟨zn, hzn, rfl⟩ := rng_of (m := 1) (n := 8) (by decide) (by decide) h9
    refine j_aload_n 16 dX6_feed_15 rfl 0 rfl ?_
    refine j_getf 19 0 dX6_feed_16 rfl fd_X6_85 rfl rfl ?_
    refine j_iload_n 20 dX6_feed_19 rfl 2 rfl ?_
    refine j_iaddN (Ns 4) zn 21 dX6_feed_20 rfl ?_
    refine j_sipush (v := (400 : Int32)) 24 dX6_feed_21 rfl (by decide) ?_
    refine j_icmp_leN ((Ns 4) + zn) 400 27 30 dX6_feed_24 rfl rfl (by have z0 := htp; omega) (by decide) (fun h24 => ?_) (fun h24 => ?_)
    ·
      refine j_iload_n 31 dX6_feed_30 rfl 2 rfl ?_
      refine j_iconst (v := (1 : Int32)) 32 dX6_feed_31 rfl (by decide) ?_
      refine j_isub 33 dX6_feed_32 rfl ?_
      refine j_istore 35 [(4, .int ((nI zn) - (1 : Int32))), (0, .ref (q 26)), (1, .long w), (3, .int (nI zn))] dX6_feed_33 rfl (by decide) rfl ?_
      have hL35 : ∀ (zm35 : Nat) (zk : Nat), zk < zm35 → (zk ≤ zn) → gJ g mX6_feed 1 0 0 (fun k' j' rv ws' => k' ≤ 0 ∧ j' ≤ 0 ∧ (rv = some (.int (pM_feed w (nI zn) (Na, Ia, Ns, Is)).1) ∧ ws' = wS g q (pM_feed w (nI zn) (Na, Ia, Ns, Is)).2)) 0 0 35 [(4, .int (nI zk - 1)), (0, .ref (q 26)), (1, .long w), (3, .int (nI zn))] [] (wM g q (va_up Na 3 (fdT (Na 3) (Ns 4) w zn (zn - zk))) Ia (va_up Ns 4 (Ns 4 + (zn - zk))) Is) := by
        intro zm35
        induction zm35 with
        | zero => intro zk zmh; exact absurd zmh (Nat.not_lt_zero _)
        | succ zm35 zih35 =>
          intro zk zmh35 hz
          refine j_iload 37 dX6_feed_35 rfl 0 rfl ?_
          refine j_if_lt 40 77 dX6_feed_37 rfl rfl (fun h37 => ?_) (fun h37 => ?_)
          ·
            refine j_aload_n 78 dX6_feed_77 rfl 1 rfl ?_
            refine j_getf 81 0 dX6_feed_78 rfl fd_X6_85 rfl rfl ?_
            refine j_iretI dX6_feed_81 rfl ⟨gLe rfl, gLe rfl, ?_⟩
            have ze : (pM_feed w (nI zn) (Na, Ia, Ns, Is)) = ((nI (Ns 4 + (zn - zk))), ((va_up Na 3 (fdT (Na 3) (Ns 4) w zn (zn - zk))), Ia, (va_up Ns 4 (Ns 4 + (zn - zk))), Is)) := by
              have ye : zk = 0 := (pred_neg (by omega)).mp h37
              subst ye
              rw [pM_feed, if_neg (fun z => z h9), cl_nI (by omega), if_neg (Nat.not_lt.mpr h24), Nat.sub_zero]
            exact ⟨congrArg (fun z : Int32 × RS => some (Value.int z.1)) ze.symm, congrArg (fun z : Int32 × RS => wS g q z.2) ze.symm⟩
          ·
            obtain ⟨zh, rfl⟩ : ∃ z, zk = z + 1 := ⟨zk - 1, by have := mt (pred_neg (by omega)).mpr h37; omega⟩
            refine j_lvs [(4, .int (nI zh)), (0, .ref (q 26)), (1, .long w), (3, .int (nI zn))] (by rw [nI_pred]) ?_
            have yk : zn - 1 - (zn - (zh + 1)) = zh := by omega
            have yk2 : zn - (zh + 1) + 1 = zn - zh := by omega
            refine j_aload_n 41 dX6_feed_40 rfl 1 rfl ?_
            refine j_getf 44 0 dX6_feed_41 rfl fd_X6_16 rfl rfl ?_
            refine j_aload_n 45 dX6_feed_44 rfl 1 rfl ?_
            refine j_getf 48 0 dX6_feed_45 rfl fd_X6_85 rfl rfl ?_
            refine j_lload_n 49 dX6_feed_48 rfl 2 rfl ?_
            refine j_bipush (v := (8 : Int32)) 51 dX6_feed_49 rfl (by decide) ?_
            refine j_iload 53 dX6_feed_51 rfl 0 rfl ?_
            refine j_imulN 8 zh 54 dX6_feed_53 rfl ?_
            refine j_lshr 55 dX6_feed_54 rfl ?_
            refine j_ldc2 (v := (255 : Int64)) 58 dX6_feed_55 rfl wd_4_172 ?_
            refine j_land 59 dX6_feed_58 rfl ?_
            refine j_l2i 60 dX6_feed_59 rfl ?_
            refine j_topI (((w >>> ((nI (8 * zh)).toInt64 &&& 63)) &&& (255 : Int64)).toInt32) (nI (byteW w zh)) (byte_eq w (by omega)) ?_
            refine j_iastN (byteW w zh) (Ns 4 + (zn - (zh + 1))) 61 3 (wM g q (va_up Na 3 (va_up (fdT (Na 3) (Ns 4) w zn (zn - (zh + 1))) (Ns 4 + (zn - (zh + 1))) (byteW w zh))) Ia (va_up Ns 4 (Ns 4 + (zn - (zh + 1)))) Is) dX6_feed_60 rfl rfl (by omega) (by decide) rfl ?_
            refine j_ws (wM g q (va_up Na 3 (fdT (Na 3) (Ns 4) w zn (zn - zh))) Ia (va_up Ns 4 (Ns 4 + (zn - (zh + 1)))) Is) (congrArg (fun z => wM g q (va_up Na 3 z) Ia (va_up Ns 4 (Ns 4 + (zn - (zh + 1)))) Is) (by have y := fdT_s (Na 3) (Ns 4) w zn (zn - (zh + 1)); rw [yk, yk2] at y; exact y)) ?_
            refine j_aload_n 62 dX6_feed_61 rfl 1 rfl ?_
            refine j_dup 63 dX6_feed_62 rfl rfl ?_
            refine j_getf 66 0 dX6_feed_63 rfl fd_X6_85 rfl rfl ?_
            refine j_iconst (v := (1 : Int32)) 67 dX6_feed_66 rfl (by decide) ?_
            refine j_iaddN (Ns 4 + (zn - (zh + 1))) 1 68 dX6_feed_67 rfl ?_
            refine j_topN ((Ns 4 + (zn - (zh + 1))) + 1) (Ns 4 + (zn - zh)) (by omega) ?_
            refine j_putf 71 0 (wM g q (va_up Na 3 (fdT (Na 3) (Ns 4) w zn (zn - zh))) Ia (va_up Ns 4 (Ns 4 + (zn - zh))) Is) dX6_feed_68 rfl fd_X6_85 rfl rfl rfl (gLe rfl) rfl ?_
            refine j_iinc (v := (nI zh - 1)) 74 [(4, .int (nI zh - 1)), (0, .ref (q 26)), (1, .long w), (3, .int (nI zn))] dX6_feed_71 rfl 0 rfl (madd1 _) (by decide) rfl ?_
            refine j_goto 35 dX6_feed_74 rfl ?_
            refine j_lv [0, 1, 2, 3] rfl ?_
            exact zih35 zh (by omega) (by omega)
      refine j_ws (wM g q (va_up Na 3 (fdT (Na 3) (Ns 4) w zn (zn - zn))) Ia (va_up Ns 4 (Ns 4 + (zn - zn))) Is) (by rw [Nat.sub_self, fdT_0]; rfl) ?_
      refine j_lv [0, 1, 2, 3] rfl ?_
      exact hL35 _ zn (Nat.lt_succ_self _) (by omega)
    ·
      refine j_ldc (v := (-1000003 : Int32)) 29 dX6_feed_27 rfl wd_4_171 ?_
      refine j_iretI dX6_feed_29 rfl ⟨gLe rfl, gLe rfl, ?_⟩
      have ze : (pM_feed w (nI zn) (Na, Ia, Ns, Is)) = ((-1000003 : Int32), (Na, Ia, Ns, Is)) := by
        rw [pM_feed, if_neg (fun z => z h9), cl_nI (by omega), if_pos (Nat.not_le.mp h24)]
      exact ⟨congrArg (fun z : Int32 × RS => some (Value.int z.1)) ze.symm, congrArg (fun z : Int32 × RS => wS g q z.2) ze.symm⟩
  ·
    refine j_ldc (v := (-1000001 : Int32)) 14 dX6_feed_12 rfl wd_4_140 ?_
    refine j_iretI dX6_feed_14 rfl ⟨gLe rfl, gLe rfl, ?_⟩
    have ze : (pM_feed w n (Na, Ia, Ns, Is)) = ((-1000001 : Int32), (Na, Ia, Ns, Is)) := by
      exact if_pos h9
    exact ⟨congrArg (fun z : Int32 × RS => some (Value.int z.1)) ze.symm, congrArg (fun z : Int32 × RS => wS g q z.2) ze.symm⟩
