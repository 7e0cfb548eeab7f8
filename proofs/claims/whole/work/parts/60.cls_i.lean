theorem sg_nar : ∀ x, x < 256 → vp_nar .byte (sg x) = sg x := by decide +kernel
theorem sgF_up (T : Nat → Nat) (i b : Nat) : upd (sgF T) i (sg b) = sgF (va_up T i b) := by
  funext k
  simp only [upd, sgF, va_up]
  split <;> rfl
section GBS
variable {g : gG} {y : gM} {d rc rs : Nat} {Post : Nat → Nat → Option Value → va_W → Prop} {k j pc : Nat} {lv : List (Nat × Value)} {st : List Value} {ws : va_W}
theorem j_bastS {a N : Nat} {f : Nat → Nat} (x i : Nat) (n q0 : Nat) (ws2 : va_W) (hd : decode y.2.1 pc = .ok (.bastore, 1)) (hn : pc + 1 = n) (he : ws[q0]? = some (a, .inl (g.2.1 1, N, .inl (sgF f)))) (hi : i < N) (hN : N < 2147483648) (hx : x < 256) (hw2 : ws.set q0 (a, .inl (g.2.1 1, N, .inl (sgF (va_up f i x)))) = ws2) (kk : gJ g y d rc rs Post k j n lv st ws2) : gJ g y d rc rs Post k j pc lv (.int (sg x) :: .int (nI i) :: .ref a :: st) ws :=
  j_bast n q0 ws2 hd hn he (vp_in_nI hi hN) (by rw [nI_clamp (by omega), sg_nar x hx, sgF_up]; exact hw2) kk
end GBS
theorem sg_i8 : ∀ x, x < 256 → sg x = (nI x).toInt8.toInt32 := by decide +kernel
theorem by_u : ∀ k, k < 8 → (((nI (8 * k)).toInt64.toUInt64 &&& Int64.toUInt64 63).toBitVec % 64).toNat = 8 * k := by decide +kernel
theorem byteW_lt (w : Int64) (k : Nat) : byteW w k < 256 := Nat.mod_lt _ (by decide)
theorem byteS (w : Int64) {k : Nat} (hk : k < 8) : ((w.toUInt64 >>> ((nI (8 * k)).toInt64.toUInt64 &&& Int64.toUInt64 63)).toInt64.toInt32).toInt8.toInt32 = sg (byteW w k) := by
  rw [sg_i8 _ (byteW_lt w k)]
  congr 1
  apply Int8.toBitVec_inj.mp
  apply BitVec.eq_of_getLsbD_eq
  intro i hi
  have hR : (nI (byteW w k)).toBitVec = BitVec.ofNat 32 (byteW w k) := rfl
  have e := by_u k hk
  simp only [Int32.toBitVec_toInt8, Int64.toBitVec_toInt32, BitVec.getLsbD_signExtend, hR, BitVec.getLsbD_ofNat, byteW_bit]
  have e3 : (w.toUInt64 >>> ((nI (8 * k)).toInt64.toUInt64 &&& Int64.toUInt64 63)).toInt64.toBitVec.getLsbD i = w.toBitVec.getLsbD (8 * k + i) := by
    show ((w.toUInt64 >>> ((nI (8 * k)).toInt64.toUInt64 &&& Int64.toUInt64 63)).toBitVec).getLsbD i = _
    rw [UInt64.toBitVec_shiftRight, BitVec.ushiftRight_eq', BitVec.getLsbD_ushiftRight, e]
    rfl
  rw [if_pos (by omega), if_pos (by omega), if_pos (by omega), e3]
  simp [hi, show i < 32 by omega]
set_option maxRecDepth 20000 in
theorem c_X4_next (g : gG) (ka : Nat) (kb : Nat) (kl : Nat) (ks : Nat) (ke : Nat) (kt : Nat) (kv : Nat) (kf : Nat) (yT : Nat → Nat)   (h4 : kl ≤ 400) (hT : ∀ x, yT x < 256) (hc : ke ≤ kl) : gCon g mX4_next 2 0 0 [.ref ka] [(ka, .inr (4, [.ref kb, .int (nI kl), .int (nI ks), .int (nI ke), .int (nI kt), .int (nI kv), .int (nI kf)])), (kb, .inl (g.2.1 1, 400, .inl (sgF yT)))] (fun rv ws' => ∃ (zv : Nat), (tkK yT kl ke = 2 → zv = nmV yT kl ke) ∧ rv = none ∧ ws' = [(ka, .inr (4, [.ref kb, .int (nI kl), .int (nI (tP yT kl ke)), .int (nI (tE yT kl ke)), .int (nI (tkK yT kl ke)), .int (nI zv), .int (nI kf)])), (kb, .inl (g.2.1 1, 400, .inl (sgF yT)))]) := by
  refine gCon.of (lv := [(0, .ref ka)]) (by decide) (gLe rfl) rfl ?_
  have hL0 : ∀ (zm0 : Nat) (zi : Nat), kl - zi < zm0 → (ke ≤ zi) → (zi ≤ kl) → (skB yT kl (kl - zi) zi = tP yT kl ke) → gJ g mX4_next 2 0 0 (fun k' j' rv ws' => k' ≤ 0 ∧ j' ≤ 0 ∧ (∃ (zv : Nat), (tkK yT kl ke = 2 → zv = nmV yT kl ke) ∧ rv = none ∧ ws' = [(ka, .inr (4, [.ref kb, .int (nI kl), .int (nI (tP yT kl ke)), .int (nI (tE yT kl ke)), .int (nI (tkK yT kl ke)), .int (nI zv), .int (nI kf)])), (kb, .inl (g.2.1 1, 400, .inl (sgF yT)))])) 0 0 0 [(0, .ref ka)] [] [(ka, .inr (4, [.ref kb, .int (nI kl), .int (nI ks), .int (nI zi), .int (nI kt), .int (nI kv), .int (nI kf)])), (kb, .inl (g.2.1 1, 400, .inl (sgF yT)))] := by
    intro zm0
    induction zm0 with
    | zero => intro zi zmh; exact absurd zmh (Nat.not_lt_zero _)
    | succ zm0 zih0 =>
      intro zi zmh0 hz1 hz2 hzr
      refine j_aload_n 1 dX4_next_0 rfl 0 rfl ?_
      refine j_getf 4 0 dX4_next_1 rfl fd_X4_22 rfl rfl ?_
      refine j_aload_n 5 dX4_next_4 rfl 0 rfl ?_
      refine j_getf 8 0 dX4_next_5 rfl fd_X4_15 rfl rfl ?_
      refine j_icmp_geN zi kl 11 38 dX4_next_8 rfl rfl (by have z0 := hz2; have z1 := h4; omega) (by have z0 := h4; omega) (fun h8 => ?_) (fun h8 => ?_)
      ·
        have hpz : tP yT kl ke = zi := by rw [← hzr]; exact skB_x (fun y => by first | exact hbl y.2 | omega)
        refine j_aload_n 39 dX4_next_38 rfl 0 rfl ?_
        refine j_aload_n 40 dX4_next_39 rfl 0 rfl ?_
        refine j_getf 43 0 dX4_next_40 rfl fd_X4_22 rfl rfl ?_
        refine j_putf 46 0 [(ka, .inr (4, [.ref kb, .int (nI kl), .int (nI zi), .int (nI zi), .int (nI kt), .int (nI kv), .int (nI kf)])), (kb, .inl (g.2.1 1, 400, .inl (sgF yT)))] dX4_next_43 rfl fd_X4_19 rfl rfl rfl (gLe rfl) rfl ?_
        refine j_aload_n 47 dX4_next_46 rfl 0 rfl ?_
        refine j_getf 50 0 dX4_next_47 rfl fd_X4_22 rfl rfl ?_
        refine j_aload_n 51 dX4_next_50 rfl 0 rfl ?_
        refine j_getf 54 0 dX4_next_51 rfl fd_X4_15 rfl rfl ?_
        refine j_icmp_ltN zi kl 57 65 dX4_next_54 rfl rfl (by have z0 := hz2; have z1 := h4; omega) (by have z0 := h4; omega) (fun hin => ?_) (fun hin => ?_)
        ·
          refine j_aload_n 66 dX4_next_65 rfl 0 rfl ?_
          refine j_aload_n 67 dX4_next_66 rfl 0 rfl ?_
          refine j_getf 70 0 dX4_next_67 rfl fd_X4_22 rfl rfl ?_
          refine j_callV0 (rest := []) 73 [0, 1] (c_X4_byteAt g ka kb kl zi zi kt kv kf yT zi h4 hin) [.int (sg (yT zi))] [(ka, .inr (4, [.ref kb, .int (nI kl), .int (nI zi), .int (nI zi), .int (nI kt), .int (nI kv), .int (nI kf)])), (kb, .inl (g.2.1 1, 400, .inl (sgF yT)))] dX4_next_70 rfl cv_X4_136 rfl rfl rfl rfl 0 rfl rfl (gLe rfl) (gLe rfl) (gLe rfl) (gLe rfl) (gLe rfl) rfl rfl ?_
          refine j_callSE (rest := []) 76 (c_X4_isLetter g (sg (yT zi)) ) [.int (gB (97 ≤ (sg (yT zi)) ∧ (sg (yT zi)) ≤ 122))] dX4_next_73 rfl cs_X4_147 rfl rfl (gLe rfl) (gLe rfl) (gLe rfl) (gLe rfl) rfl ?_
          refine j_topI _ (gB (srt (yT zi) = 1)) (gB_iff (sg_let _ (hT zi))) ?_
          refine j_if_eqB 79 122 dX4_next_76 rfl rfl (fun hl => ?_) (fun hl => ?_)
          ·
            refine j_aload_n 123 dX4_next_122 rfl 0 rfl ?_
            refine j_aload_n 124 dX4_next_123 rfl 0 rfl ?_
            refine j_getf 127 0 dX4_next_124 rfl fd_X4_22 rfl rfl ?_
            refine j_callV0 (rest := []) 130 [0, 1] (c_X4_byteAt g ka kb kl zi zi kt kv kf yT zi h4 hin) [.int (sg (yT zi))] [(ka, .inr (4, [.ref kb, .int (nI kl), .int (nI zi), .int (nI zi), .int (nI kt), .int (nI kv), .int (nI kf)])), (kb, .inl (g.2.1 1, 400, .inl (sgF yT)))] dX4_next_127 rfl cv_X4_136 rfl rfl rfl rfl 0 rfl rfl (gLe rfl) (gLe rfl) (gLe rfl) (gLe rfl) (gLe rfl) rfl rfl ?_
            refine j_callSE (rest := []) 133 (c_X4_isFigure g (sg (yT zi)) ) [.int (gB (48 ≤ (sg (yT zi)) ∧ (sg (yT zi)) ≤ 57))] dX4_next_130 rfl cs_X4_150 rfl rfl (gLe rfl) (gLe rfl) (gLe rfl) (gLe rfl) rfl ?_
            refine j_topI _ (gB (srt (yT zi) = 2)) (gB_iff (sg_fig _ (hT zi))) ?_
            refine j_if_eqB 136 143 dX4_next_133 rfl rfl (fun hf => ?_) (fun hf => ?_)
            ·
              refine j_aload_n 144 dX4_next_143 rfl 0 rfl ?_
              refine j_aload_n 145 dX4_next_144 rfl 0 rfl ?_
              refine j_aload_n 146 dX4_next_145 rfl 0 rfl ?_
              refine j_getf 149 0 dX4_next_146 rfl fd_X4_22 rfl rfl ?_
              refine j_callV0 (rest := [.ref ka]) 152 [0, 1] (c_X4_byteAt g ka kb kl zi zi kt kv kf yT zi h4 hin) [.int (sg (yT zi)), .ref ka] [(ka, .inr (4, [.ref kb, .int (nI kl), .int (nI zi), .int (nI zi), .int (nI kt), .int (nI kv), .int (nI kf)])), (kb, .inl (g.2.1 1, 400, .inl (sgF yT)))] dX4_next_149 rfl cv_X4_136 rfl rfl rfl rfl 0 rfl rfl (gLe rfl) (gLe rfl) (gLe rfl) (gLe rfl) (gLe rfl) rfl rfl ?_
              refine j_bipush (v := (59 : Int32)) 154 dX4_next_152 rfl (by decide) ?_
              refine j_icmp_ne 157 161 dX4_next_154 rfl rfl (fun hsg => ?_) (fun hsg => ?_)
              ·
                refine j_iconst (v := (4 : Int32)) 162 dX4_next_161 rfl (by decide) ?_
                refine j_putf 165 0 [(ka, .inr (4, [.ref kb, .int (nI kl), .int (nI zi), .int (nI zi), .int (4 : Int32), .int (nI kv), .int (nI kf)])), (kb, .inl (g.2.1 1, 400, .inl (sgF yT)))] dX4_next_162 rfl fd_X4_25 rfl rfl rfl (gLe rfl) rfl ?_
                refine j_aload_n 166 dX4_next_165 rfl 0 rfl ?_
                refine j_dup 167 dX4_next_166 rfl rfl ?_
                refine j_getf 170 0 dX4_next_167 rfl fd_X4_22 rfl rfl ?_
                refine j_iconst (v := (1 : Int32)) 171 dX4_next_170 rfl (by decide) ?_
                refine j_iaddN zi 1 172 dX4_next_171 rfl ?_
                refine j_putf 175 0 [(ka, .inr (4, [.ref kb, .int (nI kl), .int (nI zi), .int (nI (zi + 1)), .int (4 : Int32), .int (nI kv), .int (nI kf)])), (kb, .inl (g.2.1 1, 400, .inl (sgF yT)))] dX4_next_172 rfl fd_X4_22 rfl rfl rfl (gLe rfl) rfl ?_
                have hs0 : srt (yT zi) = 0 := by have y := srt_le (c := yT zi); omega
                have e2 : tE yT kl ke = zi + 1 := by rw [tE_0 (by rw [hpz]; exact hin) (by rw [hpz]; exact hs0), hpz]
                have e3 : tkK yT kl ke = 4 := by rw [tkK, hpz, if_neg (fun y => y hin), if_neg hl, if_neg hf, if_neg (fun y => hsg ((sg_59 _ (hT zi)).mpr y))]
                refine j_vret dX4_next_175 rfl ⟨gLe rfl, gLe rfl, ?_⟩
                exact ⟨kv, fun y => absurd (e3.symm.trans y) (by decide), rfl, by rw [hpz, e2, e3] <;> rfl⟩
              ·
                refine j_iconst (v := (3 : Int32)) 158 dX4_next_157 rfl (by decide) ?_
                refine j_goto 162 dX4_next_158 rfl ?_
                refine j_putf 165 0 [(ka, .inr (4, [.ref kb, .int (nI kl), .int (nI zi), .int (nI zi), .int (3 : Int32), .int (nI kv), .int (nI kf)])), (kb, .inl (g.2.1 1, 400, .inl (sgF yT)))] dX4_next_162 rfl fd_X4_25 rfl rfl rfl (gLe rfl) rfl ?_
                refine j_aload_n 166 dX4_next_165 rfl 0 rfl ?_
                refine j_dup 167 dX4_next_166 rfl rfl ?_
                refine j_getf 170 0 dX4_next_167 rfl fd_X4_22 rfl rfl ?_
                refine j_iconst (v := (1 : Int32)) 171 dX4_next_170 rfl (by decide) ?_
                refine j_iaddN zi 1 172 dX4_next_171 rfl ?_
                refine j_putf 175 0 [(ka, .inr (4, [.ref kb, .int (nI kl), .int (nI zi), .int (nI (zi + 1)), .int (3 : Int32), .int (nI kv), .int (nI kf)])), (kb, .inl (g.2.1 1, 400, .inl (sgF yT)))] dX4_next_172 rfl fd_X4_22 rfl rfl rfl (gLe rfl) rfl ?_
                have hs0 : srt (yT zi) = 0 := by have y := srt_le (c := yT zi); omega
                have e2 : tE yT kl ke = zi + 1 := by rw [tE_0 (by rw [hpz]; exact hin) (by rw [hpz]; exact hs0), hpz]
                have e3 : tkK yT kl ke = 3 := by rw [tkK, hpz, if_neg (fun y => y hin), if_neg hl, if_neg hf, if_pos ((sg_59 _ (hT zi)).mp hsg)]
                refine j_vret dX4_next_175 rfl ⟨gLe rfl, gLe rfl, ?_⟩
                exact ⟨kv, fun y => absurd (e3.symm.trans y) (by decide), rfl, by rw [hpz, e2, e3] <;> rfl⟩
            ·
              refine j_aload_n 137 dX4_next_136 rfl 0 rfl ?_
              refine j_callV0 (rest := []) 140 [0, 1] (c_X4_nextNumber g ka kb kl zi zi kt kv kf yT h4 hT rfl hin hf) [] [(ka, .inr (4, [.ref kb, .int (nI kl), .int (nI zi), .int (nI (rnS yT kl 2 (kl - zi) zi)), .int (nI (if rnS yT kl 2 (kl - zi) zi - zi ≤ 3 then 2 else 4)), .int (nI (decV yT (min (rnS yT kl 2 (kl - zi) zi - zi) 3) zi 0)), .int (nI kf)])), (kb, .inl (g.2.1 1, 400, .inl (sgF yT)))] dX4_next_137 rfl cv_X4_153 rfl rfl rfl rfl 0 rfl rfl (gLe rfl) (gLe rfl) (gLe rfl) (gLe rfl) (gLe rfl) rfl rfl ?_
              refine j_goto 175 dX4_next_140 rfl ?_
              have e2 : tE yT kl ke = rnS yT kl 2 (kl - zi) zi := by have y := tE_s (T := yT) (n := kl) (c := ke) (s := 2) (by rw [hpz]; exact hin) (by rw [hpz]; exact hf) (by decide); rwa [hpz] at y
              have e3 : tkK yT kl ke = if rnS yT kl 2 (kl - zi) zi - zi ≤ 3 then 2 else 4 := by rw [tkK, hpz, e2, if_neg (fun y => y hin), if_neg hl, if_pos hf]
              refine j_vret dX4_next_175 rfl ⟨gLe rfl, gLe rfl, ?_⟩
              refine ⟨(decV yT (min (rnS yT kl 2 (kl - zi) zi - zi) 3) zi 0), fun y => ?_, rfl, by rw [hpz, e2, e3] <;> rfl⟩
              have y2 := (tkK_2.mp y).2.2
              rw [hpz, e2] at y2
              rw [nmV, nuV, hpz, e2, Nat.min_eq_left y2]
          ·
            refine j_aload_n 80 dX4_next_79 rfl 0 rfl ?_
            refine j_iconst (v := (1 : Int32)) 81 dX4_next_80 rfl (by decide) ?_
            refine j_putf 84 0 [(ka, .inr (4, [.ref kb, .int (nI kl), .int (nI zi), .int (nI zi), .int (1 : Int32), .int (nI kv), .int (nI kf)])), (kb, .inl (g.2.1 1, 400, .inl (sgF yT)))] dX4_next_81 rfl fd_X4_25 rfl rfl rfl (gLe rfl) rfl ?_
            have hL84 : ∀ (zm84 : Nat) (ze : Nat), kl - ze < zm84 → (zi ≤ ze) → (ze ≤ kl) → (rnS yT kl 1 (kl - ze) ze = tE yT kl ke) → gJ g mX4_next 2 0 0 (fun k' j' rv ws' => k' ≤ 0 ∧ j' ≤ 0 ∧ (∃ (zv : Nat), (tkK yT kl ke = 2 → zv = nmV yT kl ke) ∧ rv = none ∧ ws' = [(ka, .inr (4, [.ref kb, .int (nI kl), .int (nI (tP yT kl ke)), .int (nI (tE yT kl ke)), .int (nI (tkK yT kl ke)), .int (nI zv), .int (nI kf)])), (kb, .inl (g.2.1 1, 400, .inl (sgF yT)))])) 0 0 84 [(0, .ref ka)] [] [(ka, .inr (4, [.ref kb, .int (nI kl), .int (nI zi), .int (nI ze), .int (1 : Int32), .int (nI kv), .int (nI kf)])), (kb, .inl (g.2.1 1, 400, .inl (sgF yT)))] := by
              intro zm84
              induction zm84 with
              | zero => intro ze zmh; exact absurd zmh (Nat.not_lt_zero _)
              | succ zm84 zih84 =>
                intro ze zmh84 hy1 hy2 hzr2
                refine j_aload_n 85 dX4_next_84 rfl 0 rfl ?_
                refine j_getf 88 0 dX4_next_85 rfl fd_X4_22 rfl rfl ?_
                refine j_aload_n 89 dX4_next_88 rfl 0 rfl ?_
                refine j_getf 92 0 dX4_next_89 rfl fd_X4_15 rfl rfl ?_
                refine j_icmp_geN ze kl 95 175 dX4_next_92 rfl rfl (by have z0 := hy2; have z1 := h4; omega) (by have z0 := h4; omega) (fun h92 => ?_) (fun h92 => ?_)
                ·
                  have e2 : tE yT kl ke = ze := by rw [← hzr2]; exact rnS_x (fun y => by first | exact hl2 y.2 | omega)
                  have e3 : tkK yT kl ke = 1 := tkK_1.mpr ⟨by rw [hpz]; exact hin, by rw [hpz]; exact hl⟩
                  refine j_vret dX4_next_175 rfl ⟨gLe rfl, gLe rfl, ?_⟩
                  exact ⟨kv, fun y => absurd (e3.symm.trans y) (by decide), rfl, by rw [hpz, e2, e3] <;> rfl⟩
                ·
                  refine j_aload_n 96 dX4_next_95 rfl 0 rfl ?_
                  refine j_aload_n 97 dX4_next_96 rfl 0 rfl ?_
                  refine j_getf 100 0 dX4_next_97 rfl fd_X4_22 rfl rfl ?_
                  refine j_callV0 (rest := []) 103 [0, 1] (c_X4_byteAt g ka kb kl zi ze 1 kv kf yT ze h4 (by omega)) [.int (sg (yT ze))] [(ka, .inr (4, [.ref kb, .int (nI kl), .int (nI zi), .int (nI ze), .int (1 : Int32), .int (nI kv), .int (nI kf)])), (kb, .inl (g.2.1 1, 400, .inl (sgF yT)))] dX4_next_100 rfl cv_X4_136 rfl rfl rfl rfl 0 rfl rfl (gLe rfl) (gLe rfl) (gLe rfl) (gLe rfl) (gLe rfl) rfl rfl ?_
                  refine j_callSE (rest := []) 106 (c_X4_isLetter g (sg (yT ze)) ) [.int (gB (97 ≤ (sg (yT ze)) ∧ (sg (yT ze)) ≤ 122))] dX4_next_103 rfl cs_X4_147 rfl rfl (gLe rfl) (gLe rfl) (gLe rfl) (gLe rfl) rfl ?_
                  refine j_topI _ (gB (srt (yT ze) = 1)) (gB_iff (sg_let _ (hT ze))) ?_
                  refine j_if_eqB 109 175 dX4_next_106 rfl rfl (fun hl2 => ?_) (fun hl2 => ?_)
                  ·
                    have e2 : tE yT kl ke = ze := by rw [← hzr2]; exact rnS_x (fun y => by first | exact hl2 y.2 | omega)
                    have e3 : tkK yT kl ke = 1 := tkK_1.mpr ⟨by rw [hpz]; exact hin, by rw [hpz]; exact hl⟩
                    refine j_vret dX4_next_175 rfl ⟨gLe rfl, gLe rfl, ?_⟩
                    exact ⟨kv, fun y => absurd (e3.symm.trans y) (by decide), rfl, by rw [hpz, e2, e3] <;> rfl⟩
                  ·
                    refine j_aload_n 110 dX4_next_109 rfl 0 rfl ?_
                    refine j_dup 111 dX4_next_110 rfl rfl ?_
                    refine j_getf 114 0 dX4_next_111 rfl fd_X4_22 rfl rfl ?_
                    refine j_iconst (v := (1 : Int32)) 115 dX4_next_114 rfl (by decide) ?_
                    refine j_iaddN ze 1 116 dX4_next_115 rfl ?_
                    refine j_putf 119 0 [(ka, .inr (4, [.ref kb, .int (nI kl), .int (nI zi), .int (nI (ze + 1)), .int (1 : Int32), .int (nI kv), .int (nI kf)])), (kb, .inl (g.2.1 1, 400, .inl (sgF yT)))] dX4_next_116 rfl fd_X4_22 rfl rfl rfl (gLe rfl) rfl ?_
                    refine j_goto 84 dX4_next_119 rfl ?_
                    refine j_lv [0] rfl ?_
                    exact zih84 (ze + 1) (by omega) (by omega) (by omega) (by rw [← hzr2, rnS_f (by omega) (by decide) hl2])
            refine j_lv [0] rfl ?_
            exact hL84 _ zi (Nat.lt_succ_self _) (Nat.le_refl _) hz2 (by have y := tE_s (T := yT) (n := kl) (c := ke) (s := 1) (by rw [hpz]; exact hin) (by rw [hpz]; exact hl) (by decide); rw [hpz] at y; exact y.symm)
        ·
          refine j_aload_n 58 dX4_next_57 rfl 0 rfl ?_
          refine j_iconst (v := (0 : Int32)) 59 dX4_next_58 rfl (by decide) ?_
          refine j_putf 62 0 [(ka, .inr (4, [.ref kb, .int (nI kl), .int (nI zi), .int (nI zi), .int (0 : Int32), .int (nI kv), .int (nI kf)])), (kb, .inl (g.2.1 1, 400, .inl (sgF yT)))] dX4_next_59 rfl fd_X4_25 rfl rfl rfl (gLe rfl) rfl ?_
          refine j_goto 175 dX4_next_62 rfl ?_
          have e2 : tE yT kl ke = zi := by rw [tE_n (by rw [hpz]; exact hin), hpz]
          have e3 : tkK yT kl ke = 0 := tkK_0.mpr (by rw [hpz]; exact hin)
          refine j_vret dX4_next_175 rfl ⟨gLe rfl, gLe rfl, ?_⟩
          exact ⟨kv, fun y => absurd (e3.symm.trans y) (by decide), rfl, by rw [hpz, e2, e3] <;> rfl⟩
      ·
        refine j_aload_n 12 dX4_next_11 rfl 0 rfl ?_
        refine j_aload_n 13 dX4_next_12 rfl 0 rfl ?_
        refine j_getf 16 0 dX4_next_13 rfl fd_X4_22 rfl rfl ?_
        refine j_callV0 (rest := []) 19 [0, 1] (c_X4_byteAt g ka kb kl ks zi kt kv kf yT zi h4 (by omega)) [.int (sg (yT zi))] [(ka, .inr (4, [.ref kb, .int (nI kl), .int (nI ks), .int (nI zi), .int (nI kt), .int (nI kv), .int (nI kf)])), (kb, .inl (g.2.1 1, 400, .inl (sgF yT)))] dX4_next_16 rfl cv_X4_136 rfl rfl rfl rfl 0 rfl rfl (gLe rfl) (gLe rfl) (gLe rfl) (gLe rfl) (gLe rfl) rfl rfl ?_
        refine j_callSE (rest := []) 22 (c_X4_isBlank g (sg (yT zi)) ) [.int (gB ((sg (yT zi)) = 32 ∨ (sg (yT zi)) = 10))] dX4_next_19 rfl cs_X4_144 rfl rfl (gLe rfl) (gLe rfl) (gLe rfl) (gLe rfl) rfl ?_
        refine j_topI _ (gB (yT zi = 32 ∨ yT zi = 10)) (gB_iff (sg_blank _ (hT zi))) ?_
        refine j_if_eqB 25 38 dX4_next_22 rfl rfl (fun hbl => ?_) (fun hbl => ?_)
        ·
          have hpz : tP yT kl ke = zi := by rw [← hzr]; exact skB_x (fun y => by first | exact hbl y.2 | omega)
          refine j_aload_n 39 dX4_next_38 rfl 0 rfl ?_
          refine j_aload_n 40 dX4_next_39 rfl 0 rfl ?_
          refine j_getf 43 0 dX4_next_40 rfl fd_X4_22 rfl rfl ?_
          refine j_putf 46 0 [(ka, .inr (4, [.ref kb, .int (nI kl), .int (nI zi), .int (nI zi), .int (nI kt), .int (nI kv), .int (nI kf)])), (kb, .inl (g.2.1 1, 400, .inl (sgF yT)))] dX4_next_43 rfl fd_X4_19 rfl rfl rfl (gLe rfl) rfl ?_
          refine j_aload_n 47 dX4_next_46 rfl 0 rfl ?_
          refine j_getf 50 0 dX4_next_47 rfl fd_X4_22 rfl rfl ?_
          refine j_aload_n 51 dX4_next_50 rfl 0 rfl ?_
          refine j_getf 54 0 dX4_next_51 rfl fd_X4_15 rfl rfl ?_
          refine j_icmp_ltN zi kl 57 65 dX4_next_54 rfl rfl (by have z0 := hz2; have z1 := h4; omega) (by have z0 := h4; omega) (fun hin => ?_) (fun hin => ?_)
          ·
            refine j_aload_n 66 dX4_next_65 rfl 0 rfl ?_
            refine j_aload_n 67 dX4_next_66 rfl 0 rfl ?_
            refine j_getf 70 0 dX4_next_67 rfl fd_X4_22 rfl rfl ?_
            refine j_callV0 (rest := []) 73 [0, 1] (c_X4_byteAt g ka kb kl zi zi kt kv kf yT zi h4 hin) [.int (sg (yT zi))] [(ka, .inr (4, [.ref kb, .int (nI kl), .int (nI zi), .int (nI zi), .int (nI kt), .int (nI kv), .int (nI kf)])), (kb, .inl (g.2.1 1, 400, .inl (sgF yT)))] dX4_next_70 rfl cv_X4_136 rfl rfl rfl rfl 0 rfl rfl (gLe rfl) (gLe rfl) (gLe rfl) (gLe rfl) (gLe rfl) rfl rfl ?_
            refine j_callSE (rest := []) 76 (c_X4_isLetter g (sg (yT zi)) ) [.int (gB (97 ≤ (sg (yT zi)) ∧ (sg (yT zi)) ≤ 122))] dX4_next_73 rfl cs_X4_147 rfl rfl (gLe rfl) (gLe rfl) (gLe rfl) (gLe rfl) rfl ?_
            refine j_topI _ (gB (srt (yT zi) = 1)) (gB_iff (sg_let _ (hT zi))) ?_
            refine j_if_eqB 79 122 dX4_next_76 rfl rfl (fun hl => ?_) (fun hl => ?_)
            ·
              refine j_aload_n 123 dX4_next_122 rfl 0 rfl ?_
              refine j_aload_n 124 dX4_next_123 rfl 0 rfl ?_
              refine j_getf 127 0 dX4_next_124 rfl fd_X4_22 rfl rfl ?_
              refine j_callV0 (rest := []) 130 [0, 1] (c_X4_byteAt g ka kb kl zi zi kt kv kf yT zi h4 hin) [.int (sg (yT zi))] [(ka, .inr (4, [.ref kb, .int (nI kl), .int (nI zi), .int (nI zi), .int (nI kt), .int (nI kv), .int (nI kf)])), (kb, .inl (g.2.1 1, 400, .inl (sgF yT)))] dX4_next_127 rfl cv_X4_136 rfl rfl rfl rfl 0 rfl rfl (gLe rfl) (gLe rfl) (gLe rfl) (gLe rfl) (gLe rfl) rfl rfl ?_
              refine j_callSE (rest := []) 133 (c_X4_isFigure g (sg (yT zi)) ) [.int (gB (48 ≤ (sg (yT zi)) ∧ (sg (yT zi)) ≤ 57))] dX4_next_130 rfl cs_X4_150 rfl rfl (gLe rfl) (gLe rfl) (gLe rfl) (gLe rfl) rfl ?_
              refine j_topI _ (gB (srt (yT zi) = 2)) (gB_iff (sg_fig _ (hT zi))) ?_
              refine j_if_eqB 136 143 dX4_next_133 rfl rfl (fun hf => ?_) (fun hf => ?_)
              ·
                refine j_aload_n 144 dX4_next_143 rfl 0 rfl ?_
                refine j_aload_n 145 dX4_next_144 rfl 0 rfl ?_
                refine j_aload_n 146 dX4_next_145 rfl 0 rfl ?_
                refine j_getf 149 0 dX4_next_146 rfl fd_X4_22 rfl rfl ?_
                refine j_callV0 (rest := [.ref ka]) 152 [0, 1] (c_X4_byteAt g ka kb kl zi zi kt kv kf yT zi h4 hin) [.int (sg (yT zi)), .ref ka] [(ka, .inr (4, [.ref kb, .int (nI kl), .int (nI zi), .int (nI zi), .int (nI kt), .int (nI kv), .int (nI kf)])), (kb, .inl (g.2.1 1, 400, .inl (sgF yT)))] dX4_next_149 rfl cv_X4_136 rfl rfl rfl rfl 0 rfl rfl (gLe rfl) (gLe rfl) (gLe rfl) (gLe rfl) (gLe rfl) rfl rfl ?_
                refine j_bipush (v := (59 : Int32)) 154 dX4_next_152 rfl (by decide) ?_
                refine j_icmp_ne 157 161 dX4_next_154 rfl rfl (fun hsg => ?_) (fun hsg => ?_)
                ·
                  refine j_iconst (v := (4 : Int32)) 162 dX4_next_161 rfl (by decide) ?_
                  refine j_putf 165 0 [(ka, .inr (4, [.ref kb, .int (nI kl), .int (nI zi), .int (nI zi), .int (4 : Int32), .int (nI kv), .int (nI kf)])), (kb, .inl (g.2.1 1, 400, .inl (sgF yT)))] dX4_next_162 rfl fd_X4_25 rfl rfl rfl (gLe rfl) rfl ?_
                  refine j_aload_n 166 dX4_next_165 rfl 0 rfl ?_
                  refine j_dup 167 dX4_next_166 rfl rfl ?_
                  refine j_getf 170 0 dX4_next_167 rfl fd_X4_22 rfl rfl ?_
                  refine j_iconst (v := (1 : Int32)) 171 dX4_next_170 rfl (by decide) ?_
                  refine j_iaddN zi 1 172 dX4_next_171 rfl ?_
                  refine j_putf 175 0 [(ka, .inr (4, [.ref kb, .int (nI kl), .int (nI zi), .int (nI (zi + 1)), .int (4 : Int32), .int (nI kv), .int (nI kf)])), (kb, .inl (g.2.1 1, 400, .inl (sgF yT)))] dX4_next_172 rfl fd_X4_22 rfl rfl rfl (gLe rfl) rfl ?_
                  have hs0 : srt (yT zi) = 0 := by have y := srt_le (c := yT zi); omega
                  have e2 : tE yT kl ke = zi + 1 := by rw [tE_0 (by rw [hpz]; exact hin) (by rw [hpz]; exact hs0), hpz]
                  have e3 : tkK yT kl ke = 4 := by rw [tkK, hpz, if_neg (fun y => y hin), if_neg hl, if_neg hf, if_neg (fun y => hsg ((sg_59 _ (hT zi)).mpr y))]
                  refine j_vret dX4_next_175 rfl ⟨gLe rfl, gLe rfl, ?_⟩
                  exact ⟨kv, fun y => absurd (e3.symm.trans y) (by decide), rfl, by rw [hpz, e2, e3] <;> rfl⟩
                ·
                  refine j_iconst (v := (3 : Int32)) 158 dX4_next_157 rfl (by decide) ?_
                  refine j_goto 162 dX4_next_158 rfl ?_
                  refine j_putf 165 0 [(ka, .inr (4, [.ref kb, .int (nI kl), .int (nI zi), .int (nI zi), .int (3 : Int32), .int (nI kv), .int (nI kf)])), (kb, .inl (g.2.1 1, 400, .inl (sgF yT)))] dX4_next_162 rfl fd_X4_25 rfl rfl rfl (gLe rfl) rfl ?_
                  refine j_aload_n 166 dX4_next_165 rfl 0 rfl ?_
                  refine j_dup 167 dX4_next_166 rfl rfl ?_
                  refine j_getf 170 0 dX4_next_167 rfl fd_X4_22 rfl rfl ?_
                  refine j_iconst (v := (1 : Int32)) 171 dX4_next_170 rfl (by decide) ?_
                  refine j_iaddN zi 1 172 dX4_next_171 rfl ?_
                  refine j_putf 175 0 [(ka, .inr (4, [.ref kb, .int (nI kl), .int (nI zi), .int (nI (zi + 1)), .int (3 : Int32), .int (nI kv), .int (nI kf)])), (kb, .inl (g.2.1 1, 400, .inl (sgF yT)))] dX4_next_172 rfl fd_X4_22 rfl rfl rfl (gLe rfl) rfl ?_
                  have hs0 : srt (yT zi) = 0 := by have y := srt_le (c := yT zi); omega
                  have e2 : tE yT kl ke = zi + 1 := by rw [tE_0 (by rw [hpz]; exact hin) (by rw [hpz]; exact hs0), hpz]
                  have e3 : tkK yT kl ke = 3 := by rw [tkK, hpz, if_neg (fun y => y hin), if_neg hl, if_neg hf, if_pos ((sg_59 _ (hT zi)).mp hsg)]
                  refine j_vret dX4_next_175 rfl ⟨gLe rfl, gLe rfl, ?_⟩
                  exact ⟨kv, fun y => absurd (e3.symm.trans y) (by decide), rfl, by rw [hpz, e2, e3] <;> rfl⟩
              ·
                refine j_aload_n 137 dX4_next_136 rfl 0 rfl ?_
                refine j_callV0 (rest := []) 140 [0, 1] (c_X4_nextNumber g ka kb kl zi zi kt kv kf yT h4 hT rfl hin hf) [] [(ka, .inr (4, [.ref kb, .int (nI kl), .int (nI zi), .int (nI (rnS yT kl 2 (kl - zi) zi)), .int (nI (if rnS yT kl 2 (kl - zi) zi - zi ≤ 3 then 2 else 4)), .int (nI (decV yT (min (rnS yT kl 2 (kl - zi) zi - zi) 3) zi 0)), .int (nI kf)])), (kb, .inl (g.2.1 1, 400, .inl (sgF yT)))] dX4_next_137 rfl cv_X4_153 rfl rfl rfl rfl 0 rfl rfl (gLe rfl) (gLe rfl) (gLe rfl) (gLe rfl) (gLe rfl) rfl rfl ?_
                refine j_goto 175 dX4_next_140 rfl ?_
                have e2 : tE yT kl ke = rnS yT kl 2 (kl - zi) zi := by have y := tE_s (T := yT) (n := kl) (c := ke) (s := 2) (by rw [hpz]; exact hin) (by rw [hpz]; exact hf) (by decide); rwa [hpz] at y
                have e3 : tkK yT kl ke = if rnS yT kl 2 (kl - zi) zi - zi ≤ 3 then 2 else 4 := by rw [tkK, hpz, e2, if_neg (fun y => y hin), if_neg hl, if_pos hf]
                refine j_vret dX4_next_175 rfl ⟨gLe rfl, gLe rfl, ?_⟩
                refine ⟨(decV yT (min (rnS yT kl 2 (kl - zi) zi - zi) 3) zi 0), fun y => ?_, rfl, by rw [hpz, e2, e3] <;> rfl⟩
                have y2 := (tkK_2.mp y).2.2
                rw [hpz, e2] at y2
                rw [nmV, nuV, hpz, e2, Nat.min_eq_left y2]
            ·
              refine j_aload_n 80 dX4_next_79 rfl 0 rfl ?_
              refine j_iconst (v := (1 : Int32)) 81 dX4_next_80 rfl (by decide) ?_
              refine j_putf 84 0 [(ka, .inr (4, [.ref kb, .int (nI kl), .int (nI zi), .int (nI zi), .int (1 : Int32), .int (nI kv), .int (nI kf)])), (kb, .inl (g.2.1 1, 400, .inl (sgF yT)))] dX4_next_81 rfl fd_X4_25 rfl rfl rfl (gLe rfl) rfl ?_
              have hL84 : ∀ (zm84 : Nat) (ze : Nat), kl - ze < zm84 → (zi ≤ ze) → (ze ≤ kl) → (rnS yT kl 1 (kl - ze) ze = tE yT kl ke) → gJ g mX4_next 2 0 0 (fun k' j' rv ws' => k' ≤ 0 ∧ j' ≤ 0 ∧ (∃ (zv : Nat), (tkK yT kl ke = 2 → zv = nmV yT kl ke) ∧ rv = none ∧ ws' = [(ka, .inr (4, [.ref kb, .int (nI kl), .int (nI (tP yT kl ke)), .int (nI (tE yT kl ke)), .int (nI (tkK yT kl ke)), .int (nI zv), .int (nI kf)])), (kb, .inl (g.2.1 1, 400, .inl (sgF yT)))])) 0 0 84 [(0, .ref ka)] [] [(ka, .inr (4, [.ref kb, .int (nI kl), .int (nI zi), .int (nI ze), .int (1 : Int32), .int (nI kv), .int (nI kf)])), (kb, .inl (g.2.1 1, 400, .inl (sgF yT)))] := by
                intro zm84
                induction zm84 with
                | zero => intro ze zmh; exact absurd zmh (Nat.not_lt_zero _)
                | succ zm84 zih84 =>
                  intro ze zmh84 hy1 hy2 hzr2
                  refine j_aload_n 85 dX4_next_84 rfl 0 rfl ?_
                  refine j_getf 88 0 dX4_next_85 rfl fd_X4_22 rfl rfl ?_
                  refine j_aload_n 89 dX4_next_88 rfl 0 rfl ?_
                  refine j_getf 92 0 dX4_next_89 rfl fd_X4_15 rfl rfl ?_
                  refine j_icmp_geN ze kl 95 175 dX4_next_92 rfl rfl (by have z0 := hy2; have z1 := h4; omega) (by have z0 := h4; omega) (fun h92 => ?_) (fun h92 => ?_)
                  ·
                    have e2 : tE yT kl ke = ze := by rw [← hzr2]; exact rnS_x (fun y => by first | exact hl2 y.2 | omega)
                    have e3 : tkK yT kl ke = 1 := tkK_1.mpr ⟨by rw [hpz]; exact hin, by rw [hpz]; exact hl⟩
                    refine j_vret dX4_next_175 rfl ⟨gLe rfl, gLe rfl, ?_⟩
                    exact ⟨kv, fun y => absurd (e3.symm.trans y) (by decide), rfl, by rw [hpz, e2, e3] <;> rfl⟩
                  ·
                    refine j_aload_n 96 dX4_next_95 rfl 0 rfl ?_
                    refine j_aload_n 97 dX4_next_96 rfl 0 rfl ?_
                    refine j_getf 100 0 dX4_next_97 rfl fd_X4_22 rfl rfl ?_
                    refine j_callV0 (rest := []) 103 [0, 1] (c_X4_byteAt g ka kb kl zi ze 1 kv kf yT ze h4 (by omega)) [.int (sg (yT ze))] [(ka, .inr (4, [.ref kb, .int (nI kl), .int (nI zi), .int (nI ze), .int (1 : Int32), .int (nI kv), .int (nI kf)])), (kb, .inl (g.2.1 1, 400, .inl (sgF yT)))] dX4_next_100 rfl cv_X4_136 rfl rfl rfl rfl 0 rfl rfl (gLe rfl) (gLe rfl) (gLe rfl) (gLe rfl) (gLe rfl) rfl rfl ?_
                    refine j_callSE (rest := []) 106 (c_X4_isLetter g (sg (yT ze)) ) [.int (gB (97 ≤ (sg (yT ze)) ∧ (sg (yT ze)) ≤ 122))] dX4_next_103 rfl cs_X4_147 rfl rfl (gLe rfl) (gLe rfl) (gLe rfl) (gLe rfl) rfl ?_
                    refine j_topI _ (gB (srt (yT ze) = 1)) (gB_iff (sg_let _ (hT ze))) ?_
                    refine j_if_eqB 109 175 dX4_next_106 rfl rfl (fun hl2 => ?_) (fun hl2 => ?_)
                    ·
                      have e2 : tE yT kl ke = ze := by rw [← hzr2]; exact rnS_x (fun y => by first | exact hl2 y.2 | omega)
                      have e3 : tkK yT kl ke = 1 := tkK_1.mpr ⟨by rw [hpz]; exact hin, by rw [hpz]; exact hl⟩
                      refine j_vret dX4_next_175 rfl ⟨gLe rfl, gLe rfl, ?_⟩
                      exact ⟨kv, fun y => absurd (e3.symm.trans y) (by decide), rfl, by rw [hpz, e2, e3] <;> rfl⟩
                    ·
                      refine j_aload_n 110 dX4_next_109 rfl 0 rfl ?_
                      refine j_dup 111 dX4_next_110 rfl rfl ?_
                      refine j_getf 114 0 dX4_next_111 rfl fd_X4_22 rfl rfl ?_
                      refine j_iconst (v := (1 : Int32)) 115 dX4_next_114 rfl (by decide) ?_
                      refine j_iaddN ze 1 116 dX4_next_115 rfl ?_
                      refine j_putf 119 0 [(ka, .inr (4, [.ref kb, .int (nI kl), .int (nI zi), .int (nI (ze + 1)), .int (1 : Int32), .int (nI kv), .int (nI kf)])), (kb, .inl (g.2.1 1, 400, .inl (sgF yT)))] dX4_next_116 rfl fd_X4_22 rfl rfl rfl (gLe rfl) rfl ?_
                      refine j_goto 84 dX4_next_119 rfl ?_
                      refine j_lv [0] rfl ?_
                      exact zih84 (ze + 1) (by omega) (by omega) (by omega) (by rw [← hzr2, rnS_f (by omega) (by decide) hl2])
              refine j_lv [0] rfl ?_
              exact hL84 _ zi (Nat.lt_succ_self _) (Nat.le_refl _) hz2 (by have y := tE_s (T := yT) (n := kl) (c := ke) (s := 1) (by rw [hpz]; exact hin) (by rw [hpz]; exact hl) (by decide); rw [hpz] at y; exact y.symm)
          ·
            refine j_aload_n 58 dX4_next_57 rfl 0 rfl ?_
            refine j_iconst (v := (0 : Int32)) 59 dX4_next_58 rfl (by decide) ?_
            refine j_putf 62 0 [(ka, .inr (4, [.ref kb, .int (nI kl), .int (nI zi), .int (nI zi), .int (0 : Int32), .int (nI kv), .int (nI kf)])), (kb, .inl (g.2.1 1, 400, .inl (sgF yT)))] dX4_next_59 rfl fd_X4_25 rfl rfl rfl (gLe rfl) rfl ?_
            refine j_goto 175 dX4_next_62 rfl ?_
            have e2 : tE yT kl ke = zi := by rw [tE_n (by rw [hpz]; exact hin), hpz]
            have e3 : tkK yT kl ke = 0 := tkK_0.mpr (by rw [hpz]; exact hin)
            refine j_vret dX4_next_175 rfl ⟨gLe rfl, gLe rfl, ?_⟩
            exact ⟨kv, fun y => absurd (e3.symm.trans y) (by decide), rfl, by rw [hpz, e2, e3] <;> rfl⟩
        ·
          refine j_aload_n 26 dX4_next_25 rfl 0 rfl ?_
          refine j_dup 27 dX4_next_26 rfl rfl ?_
          refine j_getf 30 0 dX4_next_27 rfl fd_X4_22 rfl rfl ?_
          refine j_iconst (v := (1 : Int32)) 31 dX4_next_30 rfl (by decide) ?_
          refine j_iaddN zi 1 32 dX4_next_31 rfl ?_
          refine j_putf 35 0 [(ka, .inr (4, [.ref kb, .int (nI kl), .int (nI ks), .int (nI (zi + 1)), .int (nI kt), .int (nI kv), .int (nI kf)])), (kb, .inl (g.2.1 1, 400, .inl (sgF yT)))] dX4_next_32 rfl fd_X4_22 rfl rfl rfl (gLe rfl) rfl ?_
          refine j_goto 0 dX4_next_35 rfl ?_
          refine j_lv [0] rfl ?_
          exact zih0 (zi + 1) (by omega) (by omega) (by omega) (by rw [← hzr, skB_f (by omega) hbl])
  refine j_lv [0] rfl ?_
  exact hL0 _ ke (Nat.lt_succ_self _) (Nat.le_refl _) hc rfl
def gKw : List Nat := [143846, 180505256, 21595298, 7808755, 6497939, 675312, 5861, 13362, 78892, 4662658, 139839533]
theorem gKb_w : ∀ i, i < 11 → ∀ x, x < 6 → x < gKl.getD i 0 → (gKb.getD i []).getD x 0 = nI (96 + gKw.getD i 0 / 2 ^ (5 * x) % 32) ∧ 97 ≤ 96 + gKw.getD i 0 / 2 ^ (5 * x) % 32 ∧ 96 + gKw.getD i 0 / 2 ^ (5 * x) % 32 ≤ 122 := by decide
theorem wd_tk {T : Nat → Nat} {n c i : Nat} (hc : c ≤ n) (hi : i < 11) (h : isWd T (tP T n c) (tE T n c) (gKw.getD i 0) (gKl.getD i 0)) : tkK T n c = 1 := by
  have h6 := gKl_6 i hi
  have he := tE_le (T := T) hc
  have h0 := h.2 0 (by omega)
  have hw := gKb_w i hi 0 (by decide) (by omega)
  have hp : tP T n c < n := by have := h.1; omega
  refine tkK_1.mpr ⟨hp, ?_⟩
  rw [Nat.add_zero] at h0
  rw [h0, srt, if_pos ⟨hw.2.1, hw.2.2⟩]
set_option maxRecDepth 20000 in
theorem c_X4_isWord (g : gG) (ka : Nat) (kb : Nat) (kl : Nat) (kv : Nat) (kf : Nat) (yT : Nat → Nat) (wd : Nat) (yc : Nat) (i : Nat) (h4 : kl ≤ 400) (hT : ∀ x, yT x < 256) (hc : yc ≤ kl) (hi : i < 11) (hw : wd = gK g i) : gCon g mX4_isWord 4 0 0 [.ref ka, .ref wd] [(ka, .inr (4, [.ref kb, .int (nI kl), .int (nI (tP yT kl yc)), .int (nI (tE yT kl yc)), .int (nI (tkK yT kl yc)), .int (nI kv), .int (nI kf)])), (kb, .inl (g.2.1 1, 400, .inl (sgF yT)))] (fun rv ws' => rv = some (.int (gB (isWd yT (tP yT kl yc) (tE yT kl yc) (gKw.getD i 0) (gKl.getD i 0)))) ∧ ws' = [(ka, .inr (4, [.ref kb, .int (nI kl), .int (nI (tP yT kl yc)), .int (nI (tE yT kl yc)), .int (nI (tkK yT kl yc)), .int (nI kv), .int (nI kf)])), (kb, .inl (g.2.1 1, 400, .inl (sgF yT)))]) := by
  refine gCon.of (lv := [(0, .ref ka), (1, .ref wd)]) (by decide) (gLe rfl) rfl ?_
  subst hw
  have hte := tE_le (T := yT) hc
  have htk : tkK yT kl yc ≤ 4 := tkK_le
  have h6 := (gKl_6 i hi).1
  refine j_aload_n 1 dX4_isWord_0 rfl 0 rfl ?_
  refine j_getf 4 0 dX4_isWord_1 rfl fd_X4_25 rfl rfl ?_
  refine j_iconst (v := (1 : Int32)) 5 dX4_isWord_4 rfl (by decide) ?_
  refine j_icmp_neN (tkK yT kl yc) 1 8 24 dX4_isWord_5 rfl rfl (by have z0 := htk; omega) (by decide) (fun h5 => ?_) (fun h5 => ?_)
  ·
    refine j_iconst (v := (0 : Int32)) 25 dX4_isWord_24 rfl (by decide) ?_
    refine j_iret0 (c := isWd yT (tP yT kl yc) (tE yT kl yc) (gKw.getD i 0) (gKl.getD i 0)) dX4_isWord_25 rfl ?_ ⟨gLe rfl, gLe rfl, rfl, rfl⟩
    first
      | exact fun y => h21 y.1
      | exact fun y => h5 (wd_tk hc hi y)
  ·
    refine j_aload_n 9 dX4_isWord_8 rfl 0 rfl ?_
    refine j_getf 12 0 dX4_isWord_9 rfl fd_X4_22 rfl rfl ?_
    refine j_aload_n 13 dX4_isWord_12 rfl 0 rfl ?_
    refine j_getf 16 0 dX4_isWord_13 rfl fd_X4_19 rfl rfl ?_
    refine j_isubN (tE yT kl yc) (tP yT kl yc) 17 dX4_isWord_16 rfl hte.1 ?_
    refine j_aload_n 18 dX4_isWord_17 rfl 1 rfl ?_
    refine j_callVs (As := []) (rest := [.int (nI ((tE yT kl yc) - (tP yT kl yc)))]) i 21 hi (c_slen g i hi) [.int (nI (gKl.getD i 0)), .int (nI ((tE yT kl yc) - (tP yT kl yc)))] dX4_isWord_18 rfl cv_X4_132 rfl rfl rfl (gLe rfl) (gLe rfl) (gLe rfl) (gLe rfl) rfl ?_
    refine j_icmp_eqN ((tE yT kl yc) - (tP yT kl yc)) (gKl.getD i 0) 24 26 dX4_isWord_21 rfl rfl (by have z0 := hte.2.1; have z1 := h4; omega) (by have z0 := (gKl_6 i hi).1; omega) (fun h21 => ?_) (fun h21 => ?_)
    ·
      refine j_iconst (v := (0 : Int32)) 27 dX4_isWord_26 rfl (by decide) ?_
      refine j_istore_n 28 [(2, .int (0 : Int32)), (0, .ref ka), (1, .ref (gK g i))] dX4_isWord_27 rfl (by decide) rfl ?_
      have hL28 : ∀ (zm28 : Nat) (zk : Nat), gKl.getD i 0 - zk < zm28 → (zk ≤ gKl.getD i 0) → (∀ x, x < zk → yT (tP yT kl yc + x) = 96 + gKw.getD i 0 / 2 ^ (5 * x) % 32) → gJ g mX4_isWord 4 0 0 (fun k' j' rv ws' => k' ≤ 0 ∧ j' ≤ 0 ∧ (rv = some (.int (gB (isWd yT (tP yT kl yc) (tE yT kl yc) (gKw.getD i 0) (gKl.getD i 0)))) ∧ ws' = [(ka, .inr (4, [.ref kb, .int (nI kl), .int (nI (tP yT kl yc)), .int (nI (tE yT kl yc)), .int (nI (tkK yT kl yc)), .int (nI kv), .int (nI kf)])), (kb, .inl (g.2.1 1, 400, .inl (sgF yT)))])) 0 0 28 [(2, .int (nI zk)), (0, .ref ka), (1, .ref (gK g i))] [] [(ka, .inr (4, [.ref kb, .int (nI kl), .int (nI (tP yT kl yc)), .int (nI (tE yT kl yc)), .int (nI (tkK yT kl yc)), .int (nI kv), .int (nI kf)])), (kb, .inl (g.2.1 1, 400, .inl (sgF yT)))] := by
        intro zm28
        induction zm28 with
        | zero => intro zk zmh; exact absurd zmh (Nat.not_lt_zero _)
        | succ zm28 zih28 =>
          intro zk zmh28 hzk hza
          refine j_iload_n 29 dX4_isWord_28 rfl 0 rfl ?_
          refine j_aload_n 30 dX4_isWord_29 rfl 2 rfl ?_
          refine j_callVs (As := []) (rest := [.int (nI zk)]) i 33 hi (c_slen g i hi) [.int (nI (gKl.getD i 0)), .int (nI zk)] dX4_isWord_30 rfl cv_X4_132 rfl rfl rfl (gLe rfl) (gLe rfl) (gLe rfl) (gLe rfl) rfl ?_
          refine j_icmp_geN zk (gKl.getD i 0) 36 62 dX4_isWord_33 rfl rfl (by omega) (by have z0 := (gKl_6 i hi).1; omega) (fun h33 => ?_) (fun h33 => ?_)
          ·
            refine j_iconst (v := (1 : Int32)) 63 dX4_isWord_62 rfl (by decide) ?_
            refine j_iret1 (c := isWd yT (tP yT kl yc) (tE yT kl yc) (gKw.getD i 0) (gKl.getD i 0)) dX4_isWord_63 rfl ?_ ⟨gLe rfl, gLe rfl, rfl, rfl⟩
            exact ⟨h21, fun x hx => hza x (by omega)⟩
          ·
            refine j_aload_n 37 dX4_isWord_36 rfl 1 rfl ?_
            refine j_aload_n 38 dX4_isWord_37 rfl 1 rfl ?_
            refine j_getf 41 0 dX4_isWord_38 rfl fd_X4_19 rfl rfl ?_
            refine j_iload_n 42 dX4_isWord_41 rfl 0 rfl ?_
            refine j_iaddN (tP yT kl yc) zk 43 dX4_isWord_42 rfl ?_
            refine j_callV0 (rest := []) 46 [0, 1] (c_X4_byteAt g ka kb kl (tP yT kl yc) (tE yT kl yc) (tkK yT kl yc) kv kf yT ((tP yT kl yc) + zk) h4 (by omega)) [.int (sg (yT ((tP yT kl yc) + zk)))] [(ka, .inr (4, [.ref kb, .int (nI kl), .int (nI (tP yT kl yc)), .int (nI (tE yT kl yc)), .int (nI (tkK yT kl yc)), .int (nI kv), .int (nI kf)])), (kb, .inl (g.2.1 1, 400, .inl (sgF yT)))] dX4_isWord_43 rfl cv_X4_136 rfl rfl rfl rfl 0 rfl rfl (gLe rfl) (gLe rfl) (gLe rfl) (gLe rfl) (gLe rfl) rfl rfl ?_
            refine j_aload_n 47 dX4_isWord_46 rfl 2 rfl ?_
            refine j_iload_n 48 dX4_isWord_47 rfl 0 rfl ?_
            refine j_callVs (As := [.int (nI zk)]) (rest := [.int (sg (yT ((tP yT kl yc) + zk)))]) i 51 hi (c_chAt g i zk hi (by omega)) [.int ((gKb.getD i []).getD zk 0), .int (sg (yT ((tP yT kl yc) + zk)))] dX4_isWord_48 rfl cv_X4_140 rfl rfl rfl (gLe rfl) (gLe rfl) (gLe rfl) (gLe rfl) rfl ?_
            have hkb := gKb_w i hi zk (by omega) (by omega)
            have hkw : sg (yT (tP yT kl yc + zk)) = (gKb.getD i []).getD zk 0 ↔ yT (tP yT kl yc + zk) = 96 + gKw.getD i 0 / 2 ^ (5 * zk) % 32 := by rw [hkb.1]; exact sg_eq (hT _) (by omega)
            refine j_icmp_eq 54 56 dX4_isWord_51 rfl rfl (fun h51 => ?_) (fun h51 => ?_)
            ·
              refine j_iincN zk 1 59 [(2, .int (nI (zk + 1))), (0, .ref ka), (1, .ref (gK g i))] dX4_isWord_56 rfl 0 rfl (by decide) rfl ?_
              refine j_goto 28 dX4_isWord_59 rfl ?_
              refine j_lv [0, 1, 2] rfl ?_
              exact zih28 (zk + 1) (by omega) (by omega) (fun x hx => by by_cases e : x = zk; (rw [e]; exact hkw.mp h51); exact hza x (by omega))
            ·
              refine j_iconst (v := (0 : Int32)) 55 dX4_isWord_54 rfl (by decide) ?_
              refine j_iret0 (c := isWd yT (tP yT kl yc) (tE yT kl yc) (gKw.getD i 0) (gKl.getD i 0)) dX4_isWord_55 rfl ?_ ⟨gLe rfl, gLe rfl, rfl, rfl⟩
              exact fun y => h51 (hkw.mpr (y.2 zk (by omega)))
      refine j_lv [0, 1, 2] rfl ?_
      exact hL28 _ 0 (Nat.lt_succ_self _) (Nat.zero_le _) (fun x hx => absurd hx (Nat.not_lt_zero _))
    ·
      refine j_iconst (v := (0 : Int32)) 25 dX4_isWord_24 rfl (by decide) ?_
      refine j_iret0 (c := isWd yT (tP yT kl yc) (tE yT kl yc) (gKw.getD i 0) (gKl.getD i 0)) dX4_isWord_25 rfl ?_ ⟨gLe rfl, gLe rfl, rfl, rfl⟩
      first
        | exact fun y => h21 y.1
        | exact fun y => h5 (wd_tk hc hi y)
theorem nmK_1 {T : Nat → Nat} {n c lo hi : Nat} (h : ¬ tkK T n c = 2) : nmK T n c lo hi = 1 := if_pos (fun y => h (tkK_2.mpr y))
theorem nmK_0 {T : Nat → Nat} {n c lo hi v : Nat} (h : tkK T n c = 2) (hv : v = nmV T n c) (h2 : lo ≤ v ∧ v ≤ hi) : nmK T n c lo hi = 0 := by
  subst hv
  exact (if_neg (fun y => y (tkK_2.mp h))).trans (if_pos h2)
theorem nmK_2 {T : Nat → Nat} {n c lo hi v : Nat} (h : tkK T n c = 2) (hv : v = nmV T n c) (h2 : ¬ (lo ≤ v ∧ v ≤ hi)) : nmK T n c lo hi = 2 := by
  subst hv
  exact (if_neg (fun y => y (tkK_2.mp h))).trans (if_neg h2)
theorem nmV_tk {T : Nat → Nat} {n c : Nat} (hc : c ≤ n) (h : tkK T n c = 2) : nmV T n c < 1000 := by
  have h2 := tkK_2.mp h
  have he := tE_le (T := T) hc
  exact nuV_lt (fun k h3 h4 => (he.2.2.2 k h3 h4).trans h2.2.1) h2.2.2 he.1
theorem wyK_1 {T : Nat → Nat} {n c P H : Nat} (h : ¬ tkK T n c = 2) : wyK T n c P H = 1 := by
  rw [wyK, nmK_1 h, if_pos (by decide)]
theorem wyK_0 {T : Nat → Nat} {n c P H v : Nat} (hc : c ≤ n) (h : tkK T n c = 2) (hv : v = nmV T n c) (h2 : v < P ∨ (10 ≤ v ∧ v ≤ 9 + H)) : wyK T n c P H = 0 := by
  have h3 := nmV_tk hc h
  subst hv
  rw [wyK, nmK_0 h rfl ⟨Nat.zero_le _, by omega⟩, if_neg (by decide), if_pos h2]
theorem wyK_2 {T : Nat → Nat} {n c P H v : Nat} (hc : c ≤ n) (h : tkK T n c = 2) (hv : v = nmV T n c) (h2 : ¬ (v < P ∨ (10 ≤ v ∧ v ≤ 9 + H))) : wyK T n c P H = 2 := by
  have h3 := nmV_tk hc h
  subst hv
  rw [wyK, nmK_0 h rfl ⟨Nat.zero_le _, by omega⟩, if_neg (by decide), if_neg h2]
theorem sgK_1 {T : Nat → Nat} {n c : Nat} (h : ¬ tkK T n c = 3) : sgK T n c = 1 := if_neg (fun y => h (tkK_3.mpr (if_pos y)))
def mN (k m : Nat) : Int32 := if k = m then -1 else nI k
set_option maxRecDepth 20000 in
theorem c_X4_isSign (g : gG) (ka : Nat) (kb : Nat) (kl : Nat) (kv : Nat) (kf : Nat) (yT : Nat → Nat)  (yc : Nat) (hc : yc ≤ kl) (h4 : kl ≤ 400) : gCon g mX4_isSign 1 0 0 [.ref ka] [(ka, .inr (4, [.ref kb, .int (nI kl), .int (nI (tP yT kl yc)), .int (nI (tE yT kl yc)), .int (nI (tkK yT kl yc)), .int (nI kv), .int (nI kf)])), (kb, .inl (g.2.1 1, 400, .inl (sgF yT)))] (fun rv ws' => rv = some (.int (gB (sgK yT kl yc = 0))) ∧ ws' = [(ka, .inr (4, [.ref kb, .int (nI kl), .int (nI (tP yT kl yc)), .int (nI (tE yT kl yc)), .int (nI (tkK yT kl yc)), .int (nI kv), .int (nI (stsA kf (sgK yT kl yc)))])), (kb, .inl (g.2.1 1, 400, .inl (sgF yT)))]) := by
  refine gCon.of (lv := [(0, .ref ka)]) (by decide) (gLe rfl) rfl ?_
  have hte := tE_le (T := yT) hc
  have htk : tkK yT kl yc ≤ 4 := tkK_le
  refine j_aload_n 1 dX4_isSign_0 rfl 0 rfl ?_
  refine j_getf 4 0 dX4_isSign_1 rfl fd_X4_25 rfl rfl ?_
  refine j_iconst (v := (3 : Int32)) 5 dX4_isSign_4 rfl (by decide) ?_
  refine j_icmp_eqN (tkK yT kl yc) 3 8 16 dX4_isSign_5 rfl rfl (by have z0 := htk; omega) (by decide) (fun h5 => ?_) (fun h5 => ?_)
  ·
    refine j_iconst (v := (1 : Int32)) 17 dX4_isSign_16 rfl (by decide) ?_
    refine j_goto 21 dX4_isSign_17 rfl ?_
    have e1 : sgK yT kl yc = 0 := tkK_3.mp h5
    refine j_iret dX4_isSign_21 rfl (by decide) ⟨gLe rfl, gLe rfl, ?_⟩
    rw [e1]
    exact ⟨rfl, rfl⟩
  ·
    refine j_aload_n 9 dX4_isSign_8 rfl 0 rfl ?_
    refine j_iconst (v := (1 : Int32)) 10 dX4_isSign_9 rfl (by decide) ?_
    refine j_callV0 (rest := []) 13 [0, 1] (c_X4_faulty g ka kb kl (tP yT kl yc) (tE yT kl yc) (tkK yT kl yc) kv kf yT 1 ) [.int (gB (False))] [(ka, .inr (4, [.ref kb, .int (nI kl), .int (nI (tP yT kl yc)), .int (nI (tE yT kl yc)), .int (nI (tkK yT kl yc)), .int (nI kv), .int (nI 1)])), (kb, .inl (g.2.1 1, 400, .inl (sgF yT)))] dX4_isSign_10 rfl cv_X4_56 rfl rfl rfl rfl 0 rfl rfl (gLe rfl) (gLe rfl) (gLe rfl) (gLe rfl) (gLe rfl) rfl rfl ?_
    refine j_if_eqB 16 20 dX4_isSign_13 rfl rfl (fun h13 => ?_) (fun h13 => h13.elim)
    refine j_iconst (v := (0 : Int32)) 21 dX4_isSign_20 rfl (by decide) ?_
    have e1 : sgK yT kl yc = 1 := sgK_1 h5
    refine j_iret dX4_isSign_21 rfl (by decide) ⟨gLe rfl, gLe rfl, ?_⟩
    rw [e1]
    exact ⟨rfl, rfl⟩
set_option maxRecDepth 20000 in
theorem c_X4_isNumber (g : gG) (ka : Nat) (kb : Nat) (kl : Nat) (kv : Nat) (kf : Nat) (yT : Nat → Nat) (lo : Nat) (hi : Nat) (yc : Nat) (hc : yc ≤ kl) (h4 : kl ≤ 400) (hv : tkK yT kl yc = 2 → kv = nmV yT kl yc) (hlo : lo < 1000) (hhi : hi < 1000) : gCon g mX4_isNumber 1 0 0 [.ref ka, .int (nI lo), .int (nI hi)] [(ka, .inr (4, [.ref kb, .int (nI kl), .int (nI (tP yT kl yc)), .int (nI (tE yT kl yc)), .int (nI (tkK yT kl yc)), .int (nI kv), .int (nI kf)])), (kb, .inl (g.2.1 1, 400, .inl (sgF yT)))] (fun rv ws' => rv = some (.int (gB (nmK yT kl yc lo hi = 0))) ∧ ws' = [(ka, .inr (4, [.ref kb, .int (nI kl), .int (nI (tP yT kl yc)), .int (nI (tE yT kl yc)), .int (nI (tkK yT kl yc)), .int (nI kv), .int (nI (stsA kf (nmK yT kl yc lo hi)))])), (kb, .inl (g.2.1 1, 400, .inl (sgF yT)))]) := by
  refine gCon.of (lv := [(0, .ref ka), (1, .int (nI lo)), (2, .int (nI hi))]) (by decide) (gLe rfl) rfl ?_
  have hte := tE_le (T := yT) hc
  have htk : tkK yT kl yc ≤ 4 := tkK_le
  refine j_aload_n 1 dX4_isNumber_0 rfl 0 rfl ?_
  refine j_getf 4 0 dX4_isNumber_1 rfl fd_X4_25 rfl rfl ?_
  refine j_iconst (v := (2 : Int32)) 5 dX4_isNumber_4 rfl (by decide) ?_
  refine j_icmp_eqN (tkK yT kl yc) 2 8 14 dX4_isNumber_5 rfl rfl (by have z0 := htk; omega) (by decide) (fun h5 => ?_) (fun h5 => ?_)
  ·
    have hvv := hv h5
    have hvl := nmV_tk hc h5
    refine j_aload_n 15 dX4_isNumber_14 rfl 0 rfl ?_
    refine j_getf 18 0 dX4_isNumber_15 rfl fd_X4_28 rfl rfl ?_
    refine j_iload_n 19 dX4_isNumber_18 rfl 1 rfl ?_
    refine j_icmp_ltN kv lo 22 30 dX4_isNumber_19 rfl rfl (by have z0 := hvv; have z1 := hvl; omega) (by omega) (fun h19 => ?_) (fun h19 => ?_)
    ·
      refine j_aload_n 31 dX4_isNumber_30 rfl 0 rfl ?_
      refine j_iconst (v := (2 : Int32)) 32 dX4_isNumber_31 rfl (by decide) ?_
      refine j_callV0 (rest := []) 35 [0, 1] (c_X4_faulty g ka kb kl (tP yT kl yc) (tE yT kl yc) (tkK yT kl yc) kv kf yT 2 ) [.int (gB (False))] [(ka, .inr (4, [.ref kb, .int (nI kl), .int (nI (tP yT kl yc)), .int (nI (tE yT kl yc)), .int (nI (tkK yT kl yc)), .int (nI kv), .int (nI 2)])), (kb, .inl (g.2.1 1, 400, .inl (sgF yT)))] dX4_isNumber_32 rfl cv_X4_56 rfl rfl rfl rfl 0 rfl rfl (gLe rfl) (gLe rfl) (gLe rfl) (gLe rfl) (gLe rfl) rfl rfl ?_
      refine j_if_eqB 38 42 dX4_isNumber_35 rfl rfl (fun h35 => ?_) (fun h35 => h35.elim)
      refine j_iconst (v := (0 : Int32)) 43 dX4_isNumber_42 rfl (by decide) ?_
      have e1 : nmK yT kl yc lo hi = 2 := nmK_2 h5 hvv (by omega)
      refine j_iret dX4_isNumber_43 rfl (by decide) ⟨gLe rfl, gLe rfl, ?_⟩
      rw [e1]
      exact ⟨rfl, rfl⟩
    ·
      refine j_aload_n 23 dX4_isNumber_22 rfl 0 rfl ?_
      refine j_getf 26 0 dX4_isNumber_23 rfl fd_X4_28 rfl rfl ?_
      refine j_iload_n 27 dX4_isNumber_26 rfl 2 rfl ?_
      refine j_icmp_leN kv hi 30 38 dX4_isNumber_27 rfl rfl (by have z0 := hvv; have z1 := hvl; omega) (by omega) (fun h27 => ?_) (fun h27 => ?_)
      ·
        refine j_iconst (v := (1 : Int32)) 39 dX4_isNumber_38 rfl (by decide) ?_
        refine j_goto 43 dX4_isNumber_39 rfl ?_
        have e1 : nmK yT kl yc lo hi = 0 := nmK_0 h5 hvv (by omega)
        refine j_iret dX4_isNumber_43 rfl (by decide) ⟨gLe rfl, gLe rfl, ?_⟩
        rw [e1]
        exact ⟨rfl, rfl⟩
      ·
        refine j_aload_n 31 dX4_isNumber_30 rfl 0 rfl ?_
        refine j_iconst (v := (2 : Int32)) 32 dX4_isNumber_31 rfl (by decide) ?_
        refine j_callV0 (rest := []) 35 [0, 1] (c_X4_faulty g ka kb kl (tP yT kl yc) (tE yT kl yc) (tkK yT kl yc) kv kf yT 2 ) [.int (gB (False))] [(ka, .inr (4, [.ref kb, .int (nI kl), .int (nI (tP yT kl yc)), .int (nI (tE yT kl yc)), .int (nI (tkK yT kl yc)), .int (nI kv), .int (nI 2)])), (kb, .inl (g.2.1 1, 400, .inl (sgF yT)))] dX4_isNumber_32 rfl cv_X4_56 rfl rfl rfl rfl 0 rfl rfl (gLe rfl) (gLe rfl) (gLe rfl) (gLe rfl) (gLe rfl) rfl rfl ?_
        refine j_if_eqB 38 42 dX4_isNumber_35 rfl rfl (fun h35 => ?_) (fun h35 => h35.elim)
        refine j_iconst (v := (0 : Int32)) 43 dX4_isNumber_42 rfl (by decide) ?_
        have e1 : nmK yT kl yc lo hi = 2 := nmK_2 h5 hvv (by omega)
        refine j_iret dX4_isNumber_43 rfl (by decide) ⟨gLe rfl, gLe rfl, ?_⟩
        rw [e1]
        exact ⟨rfl, rfl⟩
  ·
    refine j_aload_n 9 dX4_isNumber_8 rfl 0 rfl ?_
    refine j_iconst (v := (1 : Int32)) 10 dX4_isNumber_9 rfl (by decide) ?_
    refine j_callV0 (rest := []) 13 [0, 1] (c_X4_faulty g ka kb kl (tP yT kl yc) (tE yT kl yc) (tkK yT kl yc) kv kf yT 1 ) [.int (gB (False))] [(ka, .inr (4, [.ref kb, .int (nI kl), .int (nI (tP yT kl yc)), .int (nI (tE yT kl yc)), .int (nI (tkK yT kl yc)), .int (nI kv), .int (nI 1)])), (kb, .inl (g.2.1 1, 400, .inl (sgF yT)))] dX4_isNumber_10 rfl cv_X4_56 rfl rfl rfl rfl 0 rfl rfl (gLe rfl) (gLe rfl) (gLe rfl) (gLe rfl) (gLe rfl) rfl rfl ?_
    have e1 : nmK yT kl yc lo hi = 1 := nmK_1 h5
    refine j_iret dX4_isNumber_13 rfl gB_nar ⟨gLe rfl, gLe rfl, ?_⟩
    rw [e1]
    exact ⟨rfl, rfl⟩
set_option maxRecDepth 20000 in
theorem c_X0_isWayO (g : gG) (p0 : Nat) (pp : Nat) (ph : Nat) (pb : Nat) (p1 : Nat) (p2 : Nat) (p3 : Nat) (p4 : Nat) (p5 : Nat) (p6 : Nat) (v : Nat)  (hv : v < 1000) (h6 : pp ≤ 6) (h5 : ph ≤ 5) : gCon g mX0_isWay 0 0 0 [.ref p0, .int (nI v)] [(p0, .inr (0, [.int (nI pp), .int (nI ph), .int (nI pb), .ref p1, .ref p2, .ref p3, .ref p4, .ref p5, .ref p6]))] (fun rv ws' => rv = some (.int (gB (v < pp ∨ (10 ≤ v ∧ v ≤ 9 + ph)))) ∧ ws' = [(p0, .inr (0, [.int (nI pp), .int (nI ph), .int (nI pb), .ref p1, .ref p2, .ref p3, .ref p4, .ref p5, .ref p6]))]) := by
  refine gCon.of (lv := [(0, .ref p0), (1, .int (nI v))]) (by decide) (gLe rfl) rfl ?_
  refine j_iload_n 1 dX0_isWay_0 rfl 1 rfl ?_
  refine j_if_ltN v 4 dX0_isWay_1 rfl (t := 12) rfl (by omega) ?_
  refine j_iload_n 5 dX0_isWay_4 rfl 1 rfl ?_
  refine j_aload_n 6 dX0_isWay_5 rfl 0 rfl ?_
  refine j_getf 9 0 dX0_isWay_6 rfl fd_X0_9 rfl rfl ?_
  refine j_icmp_ltN v pp 12 29 dX0_isWay_9 rfl rfl (by omega) (by have z0 := h6; omega) (fun h9 => ?_) (fun h9 => ?_)
  ·
    refine j_iconst (v := (1 : Int32)) 30 dX0_isWay_29 rfl (by decide) ?_
    refine j_goto 34 dX0_isWay_30 rfl ?_
    refine j_iret1 (c := v < pp ∨ (10 ≤ v ∧ v ≤ 9 + ph)) dX0_isWay_34 rfl ?_ ⟨gLe rfl, gLe rfl, rfl, rfl⟩
    omega
  ·
    refine j_iload_n 13 dX0_isWay_12 rfl 1 rfl ?_
    refine j_bipush (v := (10 : Int32)) 15 dX0_isWay_13 rfl (by decide) ?_
    refine j_icmp_ltN v 10 18 33 dX0_isWay_15 rfl rfl (by omega) (by decide) (fun h15 => ?_) (fun h15 => ?_)
    ·
      refine j_iconst (v := (0 : Int32)) 34 dX0_isWay_33 rfl (by decide) ?_
      refine j_iret0 (c := v < pp ∨ (10 ≤ v ∧ v ≤ 9 + ph)) dX0_isWay_34 rfl ?_ ⟨gLe rfl, gLe rfl, rfl, rfl⟩
      omega
    ·
      refine j_iload_n 19 dX0_isWay_18 rfl 1 rfl ?_
      refine j_bipush (v := (10 : Int32)) 21 dX0_isWay_19 rfl (by decide) ?_
      refine j_aload_n 22 dX0_isWay_21 rfl 0 rfl ?_
      refine j_getf 25 0 dX0_isWay_22 rfl fd_X0_15 rfl rfl ?_
      refine j_iaddN 10 ph 26 dX0_isWay_25 rfl ?_
      refine j_icmp_geN v (10 + ph) 29 33 dX0_isWay_26 rfl rfl (by omega) (by have z0 := h5; omega) (fun h26 => ?_) (fun h26 => ?_)
      ·
        refine j_iconst (v := (0 : Int32)) 34 dX0_isWay_33 rfl (by decide) ?_
        refine j_iret0 (c := v < pp ∨ (10 ≤ v ∧ v ≤ 9 + ph)) dX0_isWay_34 rfl ?_ ⟨gLe rfl, gLe rfl, rfl, rfl⟩
        omega
      ·
        refine j_iconst (v := (1 : Int32)) 30 dX0_isWay_29 rfl (by decide) ?_
        refine j_goto 34 dX0_isWay_30 rfl ?_
        refine j_iret1 (c := v < pp ∨ (10 ≤ v ∧ v ≤ 9 + ph)) dX0_isWay_34 rfl ?_ ⟨gLe rfl, gLe rfl, rfl, rfl⟩
        omega
set_option maxRecDepth 20000 in
theorem c_X4_isWay (g : gG) (ka : Nat) (kb : Nat) (kl : Nat) (kv : Nat) (kf : Nat) (yT : Nat → Nat) (p0 : Nat) (pp : Nat) (ph : Nat) (pb : Nat) (p1 : Nat) (p2 : Nat) (p3 : Nat) (p4 : Nat) (p5 : Nat) (p6 : Nat)  (yc : Nat) (hc : yc ≤ kl) (h4 : kl ≤ 400) (hv : tkK yT kl yc = 2 → kv = nmV yT kl yc) (h66 : pp ≤ 6) (h55 : ph ≤ 5) : gCon g mX4_isWay 1 0 0 [.ref ka, .ref p0] [(ka, .inr (4, [.ref kb, .int (nI kl), .int (nI (tP yT kl yc)), .int (nI (tE yT kl yc)), .int (nI (tkK yT kl yc)), .int (nI kv), .int (nI kf)])), (kb, .inl (g.2.1 1, 400, .inl (sgF yT))), (p0, .inr (0, [.int (nI pp), .int (nI ph), .int (nI pb), .ref p1, .ref p2, .ref p3, .ref p4, .ref p5, .ref p6]))] (fun rv ws' => rv = some (.int (gB (wyK yT kl yc pp ph = 0))) ∧ ws' = [(ka, .inr (4, [.ref kb, .int (nI kl), .int (nI (tP yT kl yc)), .int (nI (tE yT kl yc)), .int (nI (tkK yT kl yc)), .int (nI kv), .int (nI (stsA kf (wyK yT kl yc pp ph)))])), (kb, .inl (g.2.1 1, 400, .inl (sgF yT))), (p0, .inr (0, [.int (nI pp), .int (nI ph), .int (nI pb), .ref p1, .ref p2, .ref p3, .ref p4, .ref p5, .ref p6]))]) := by
  refine gCon.of (lv := [(0, .ref ka), (1, .ref p0)]) (by decide) (gLe rfl) rfl ?_
  have hte := tE_le (T := yT) hc
  have htk : tkK yT kl yc ≤ 4 := tkK_le
  refine j_aload_n 1 dX4_isWay_0 rfl 0 rfl ?_
  refine j_getf 4 0 dX4_isWay_1 rfl fd_X4_25 rfl rfl ?_
  refine j_iconst (v := (2 : Int32)) 5 dX4_isWay_4 rfl (by decide) ?_
  refine j_icmp_eqN (tkK yT kl yc) 2 8 14 dX4_isWay_5 rfl rfl (by have z0 := htk; omega) (by decide) (fun h5 => ?_) (fun h5 => ?_)
  ·
    have hvv := hv h5
    have hvl := nmV_tk hc h5
    refine j_aload_n 15 dX4_isWay_14 rfl 1 rfl ?_
    refine j_aload_n 16 dX4_isWay_15 rfl 0 rfl ?_
    refine j_getf 19 0 dX4_isWay_16 rfl fd_X4_28 rfl rfl ?_
    refine j_callV0 (rest := []) 22 [2] (c_X0_isWayO g p0 pp ph pb p1 p2 p3 p4 p5 p6 kv (by omega) h66 h55) [.int (gB (kv < pp ∨ (10 ≤ kv ∧ kv ≤ 9 + ph)))] [(ka, .inr (4, [.ref kb, .int (nI kl), .int (nI (tP yT kl yc)), .int (nI (tE yT kl yc)), .int (nI (tkK yT kl yc)), .int (nI kv), .int (nI kf)])), (kb, .inl (g.2.1 1, 400, .inl (sgF yT))), (p0, .inr (0, [.int (nI pp), .int (nI ph), .int (nI pb), .ref p1, .ref p2, .ref p3, .ref p4, .ref p5, .ref p6]))] dX4_isWay_19 rfl cv_X4_130 rfl rfl rfl rfl 0 rfl rfl (gLe rfl) (gLe rfl) (gLe rfl) (gLe rfl) (gLe rfl) rfl rfl ?_
    refine j_if_neB 25 33 dX4_isWay_22 rfl rfl (fun h22 => ?_) (fun h22 => ?_)
    ·
      refine j_iconst (v := (1 : Int32)) 34 dX4_isWay_33 rfl (by decide) ?_
      refine j_goto 38 dX4_isWay_34 rfl ?_
      have e1 : wyK yT kl yc pp ph = 0 := wyK_0 hc h5 hvv h22
      refine j_iret dX4_isWay_38 rfl (by decide) ⟨gLe rfl, gLe rfl, ?_⟩
      rw [e1]
      exact ⟨rfl, rfl⟩
    ·
      refine j_aload_n 26 dX4_isWay_25 rfl 0 rfl ?_
      refine j_iconst (v := (2 : Int32)) 27 dX4_isWay_26 rfl (by decide) ?_
      refine j_callV0 (rest := []) 30 [0, 1] (c_X4_faulty g ka kb kl (tP yT kl yc) (tE yT kl yc) (tkK yT kl yc) kv kf yT 2 ) [.int (gB (False))] [(ka, .inr (4, [.ref kb, .int (nI kl), .int (nI (tP yT kl yc)), .int (nI (tE yT kl yc)), .int (nI (tkK yT kl yc)), .int (nI kv), .int (nI 2)])), (kb, .inl (g.2.1 1, 400, .inl (sgF yT))), (p0, .inr (0, [.int (nI pp), .int (nI ph), .int (nI pb), .ref p1, .ref p2, .ref p3, .ref p4, .ref p5, .ref p6]))] dX4_isWay_27 rfl cv_X4_56 rfl rfl rfl rfl 0 rfl rfl (gLe rfl) (gLe rfl) (gLe rfl) (gLe rfl) (gLe rfl) rfl rfl ?_
      refine j_if_eqB 33 37 dX4_isWay_30 rfl rfl (fun h30 => ?_) (fun h30 => h30.elim)
      refine j_iconst (v := (0 : Int32)) 38 dX4_isWay_37 rfl (by decide) ?_
      have e1 : wyK yT kl yc pp ph = 2 := wyK_2 hc h5 hvv h22
      refine j_iret dX4_isWay_38 rfl (by decide) ⟨gLe rfl, gLe rfl, ?_⟩
      rw [e1]
      exact ⟨rfl, rfl⟩
  ·
    refine j_aload_n 9 dX4_isWay_8 rfl 0 rfl ?_
    refine j_iconst (v := (1 : Int32)) 10 dX4_isWay_9 rfl (by decide) ?_
    refine j_callV0 (rest := []) 13 [0, 1] (c_X4_faulty g ka kb kl (tP yT kl yc) (tE yT kl yc) (tkK yT kl yc) kv kf yT 1 ) [.int (gB (False))] [(ka, .inr (4, [.ref kb, .int (nI kl), .int (nI (tP yT kl yc)), .int (nI (tE yT kl yc)), .int (nI (tkK yT kl yc)), .int (nI kv), .int (nI 1)])), (kb, .inl (g.2.1 1, 400, .inl (sgF yT))), (p0, .inr (0, [.int (nI pp), .int (nI ph), .int (nI pb), .ref p1, .ref p2, .ref p3, .ref p4, .ref p5, .ref p6]))] dX4_isWay_10 rfl cv_X4_56 rfl rfl rfl rfl 0 rfl rfl (gLe rfl) (gLe rfl) (gLe rfl) (gLe rfl) (gLe rfl) rfl rfl ?_
    have e1 : wyK yT kl yc pp ph = 1 := wyK_1 h5
    refine j_iret dX4_isWay_13 rfl gB_nar ⟨gLe rfl, gLe rfl, ?_⟩
    rw [e1]
    exact ⟨rfl, rfl⟩
set_option maxRecDepth 20000 in
theorem c_X4_hurdleSort (g : gG) (ka : Nat) (kb : Nat) (kl : Nat) (kv : Nat) (kf : Nat) (yT : Nat → Nat)  (yc : Nat) (h4 : kl ≤ 400) (hT : ∀ x, yT x < 256) (hc : yc ≤ kl) : gCon g mX4_hurdleSort 5 0 0 [.ref ka] [(ka, .inr (4, [.ref kb, .int (nI kl), .int (nI (tP yT kl yc)), .int (nI (tE yT kl yc)), .int (nI (tkK yT kl yc)), .int (nI kv), .int (nI kf)])), (kb, .inl (g.2.1 1, 400, .inl (sgF yT)))] (fun rv ws' => rv = some (.int (mN (hwS yT (tP yT kl yc) (tE yT kl yc)) 3)) ∧ ws' = [(ka, .inr (4, [.ref kb, .int (nI kl), .int (nI (tP yT kl yc)), .int (nI (tE yT kl yc)), .int (nI (tkK yT kl yc)), .int (nI kv), .int (nI kf)])), (kb, .inl (g.2.1 1, 400, .inl (sgF yT)))]) := by
  refine gCon.of (lv := [(0, .ref ka)]) (by decide) (gLe rfl) rfl ?_
  refine j_aload_n 1 dX4_hurdleSort_0 rfl 0 rfl ?_
  refine j_ldcS 3 3 dX4_hurdleSort_1 rfl (by decide) rfl rfl ?_
  refine j_callV0 (rest := []) 6 [0, 1] (c_X4_isWord g ka kb kl kv kf yT (gK g 3) yc 3 h4 hT hc (by decide) rfl) [.int (gB (isWd yT (tP yT kl yc) (tE yT kl yc) 7808755 5))] [(ka, .inr (4, [.ref kb, .int (nI kl), .int (nI (tP yT kl yc)), .int (nI (tE yT kl yc)), .int (nI (tkK yT kl yc)), .int (nI kv), .int (nI kf)])), (kb, .inl (g.2.1 1, 400, .inl (sgF yT)))] dX4_hurdleSort_3 rfl cv_X4_52 rfl rfl rfl rfl 0 rfl rfl (gLe rfl) (gLe rfl) (gLe rfl) (gLe rfl) (gLe rfl) rfl rfl ?_
  refine j_if_eqB 9 11 dX4_hurdleSort_6 rfl rfl (fun h6 => ?_) (fun h6 => ?_)
  ·
    refine j_aload_n 12 dX4_hurdleSort_11 rfl 0 rfl ?_
    refine j_ldcS 14 4 dX4_hurdleSort_12 rfl (by decide) rfl rfl ?_
    refine j_callV0 (rest := []) 17 [0, 1] (c_X4_isWord g ka kb kl kv kf yT (gK g 4) yc 4 h4 hT hc (by decide) rfl) [.int (gB (isWd yT (tP yT kl yc) (tE yT kl yc) 6497939 5))] [(ka, .inr (4, [.ref kb, .int (nI kl), .int (nI (tP yT kl yc)), .int (nI (tE yT kl yc)), .int (nI (tkK yT kl yc)), .int (nI kv), .int (nI kf)])), (kb, .inl (g.2.1 1, 400, .inl (sgF yT)))] dX4_hurdleSort_14 rfl cv_X4_52 rfl rfl rfl rfl 0 rfl rfl (gLe rfl) (gLe rfl) (gLe rfl) (gLe rfl) (gLe rfl) rfl rfl ?_
    refine j_if_eqB 20 22 dX4_hurdleSort_17 rfl rfl (fun h17 => ?_) (fun h17 => ?_)
    ·
      refine j_aload_n 23 dX4_hurdleSort_22 rfl 0 rfl ?_
      refine j_ldcS 25 5 dX4_hurdleSort_23 rfl (by decide) rfl rfl ?_
      refine j_callV0 (rest := []) 28 [0, 1] (c_X4_isWord g ka kb kl kv kf yT (gK g 5) yc 5 h4 hT hc (by decide) rfl) [.int (gB (isWd yT (tP yT kl yc) (tE yT kl yc) 675312 4))] [(ka, .inr (4, [.ref kb, .int (nI kl), .int (nI (tP yT kl yc)), .int (nI (tE yT kl yc)), .int (nI (tkK yT kl yc)), .int (nI kv), .int (nI kf)])), (kb, .inl (g.2.1 1, 400, .inl (sgF yT)))] dX4_hurdleSort_25 rfl cv_X4_52 rfl rfl rfl rfl 0 rfl rfl (gLe rfl) (gLe rfl) (gLe rfl) (gLe rfl) (gLe rfl) rfl rfl ?_
      refine j_if_eqB 31 35 dX4_hurdleSort_28 rfl rfl (fun h28 => ?_) (fun h28 => ?_)
      ·
        refine j_iconst (v := (-1 : Int32)) 36 dX4_hurdleSort_35 rfl (by decide) ?_
        have e1 : hwS yT (tP yT kl yc) (tE yT kl yc) = 3 := by rw [hwS, if_neg h6, if_neg h17, if_neg h28]
        refine j_iret dX4_hurdleSort_36 rfl rfl ⟨gLe rfl, gLe rfl, ?_⟩
        rw [e1]
        exact ⟨rfl, rfl⟩
      ·
        refine j_iconst (v := (2 : Int32)) 32 dX4_hurdleSort_31 rfl (by decide) ?_
        refine j_goto 36 dX4_hurdleSort_32 rfl ?_
        have e1 : hwS yT (tP yT kl yc) (tE yT kl yc) = 2 := by rw [hwS, if_neg h6, if_neg h17, if_pos h28]
        refine j_iret dX4_hurdleSort_36 rfl rfl ⟨gLe rfl, gLe rfl, ?_⟩
        rw [e1]
        exact ⟨rfl, rfl⟩
    ·
      refine j_iconst (v := (1 : Int32)) 21 dX4_hurdleSort_20 rfl (by decide) ?_
      have e1 : hwS yT (tP yT kl yc) (tE yT kl yc) = 1 := by rw [hwS, if_neg h6, if_pos h17]
      refine j_iret dX4_hurdleSort_21 rfl rfl ⟨gLe rfl, gLe rfl, ?_⟩
      rw [e1]
      exact ⟨rfl, rfl⟩
  ·
    refine j_iconst (v := (0 : Int32)) 10 dX4_hurdleSort_9 rfl (by decide) ?_
    have e1 : hwS yT (tP yT kl yc) (tE yT kl yc) = 0 := by rw [hwS, if_pos h6]
    refine j_iret dX4_hurdleSort_10 rfl rfl ⟨gLe rfl, gLe rfl, ?_⟩
    rw [e1]
    exact ⟨rfl, rfl⟩
set_option maxRecDepth 20000 in
theorem c_X4_beastKind (g : gG) (ka : Nat) (kb : Nat) (kl : Nat) (kv : Nat) (kf : Nat) (yT : Nat → Nat)  (yc : Nat) (h4 : kl ≤ 400) (hT : ∀ x, yT x < 256) (hc : yc ≤ kl) : gCon g mX4_beastKind 5 0 0 [.ref ka] [(ka, .inr (4, [.ref kb, .int (nI kl), .int (nI (tP yT kl yc)), .int (nI (tE yT kl yc)), .int (nI (tkK yT kl yc)), .int (nI kv), .int (nI kf)])), (kb, .inl (g.2.1 1, 400, .inl (sgF yT)))] (fun rv ws' => rv = some (.int (mN (bwS yT (tP yT kl yc) (tE yT kl yc)) 0)) ∧ ws' = [(ka, .inr (4, [.ref kb, .int (nI kl), .int (nI (tP yT kl yc)), .int (nI (tE yT kl yc)), .int (nI (tkK yT kl yc)), .int (nI kv), .int (nI kf)])), (kb, .inl (g.2.1 1, 400, .inl (sgF yT)))]) := by
  refine gCon.of (lv := [(0, .ref ka)]) (by decide) (gLe rfl) rfl ?_
  refine j_aload_n 1 dX4_beastKind_0 rfl 0 rfl ?_
  refine j_ldcS 3 6 dX4_beastKind_1 rfl (by decide) rfl rfl ?_
  refine j_callV0 (rest := []) 6 [0, 1] (c_X4_isWord g ka kb kl kv kf yT (gK g 6) yc 6 h4 hT hc (by decide) rfl) [.int (gB (isWd yT (tP yT kl yc) (tE yT kl yc) 5861 3))] [(ka, .inr (4, [.ref kb, .int (nI kl), .int (nI (tP yT kl yc)), .int (nI (tE yT kl yc)), .int (nI (tkK yT kl yc)), .int (nI kv), .int (nI kf)])), (kb, .inl (g.2.1 1, 400, .inl (sgF yT)))] dX4_beastKind_3 rfl cv_X4_52 rfl rfl rfl rfl 0 rfl rfl (gLe rfl) (gLe rfl) (gLe rfl) (gLe rfl) (gLe rfl) rfl rfl ?_
  refine j_if_eqB 9 11 dX4_beastKind_6 rfl rfl (fun h6 => ?_) (fun h6 => ?_)
  ·
    refine j_aload_n 12 dX4_beastKind_11 rfl 0 rfl ?_
    refine j_ldcS 14 7 dX4_beastKind_12 rfl (by decide) rfl rfl ?_
    refine j_callV0 (rest := []) 17 [0, 1] (c_X4_isWord g ka kb kl kv kf yT (gK g 7) yc 7 h4 hT hc (by decide) rfl) [.int (gB (isWd yT (tP yT kl yc) (tE yT kl yc) 13362 3))] [(ka, .inr (4, [.ref kb, .int (nI kl), .int (nI (tP yT kl yc)), .int (nI (tE yT kl yc)), .int (nI (tkK yT kl yc)), .int (nI kv), .int (nI kf)])), (kb, .inl (g.2.1 1, 400, .inl (sgF yT)))] dX4_beastKind_14 rfl cv_X4_52 rfl rfl rfl rfl 0 rfl rfl (gLe rfl) (gLe rfl) (gLe rfl) (gLe rfl) (gLe rfl) rfl rfl ?_
    refine j_if_eqB 20 22 dX4_beastKind_17 rfl rfl (fun h17 => ?_) (fun h17 => ?_)
    ·
      refine j_aload_n 23 dX4_beastKind_22 rfl 0 rfl ?_
      refine j_ldcS 25 8 dX4_beastKind_23 rfl (by decide) rfl rfl ?_
      refine j_callV0 (rest := []) 28 [0, 1] (c_X4_isWord g ka kb kl kv kf yT (gK g 8) yc 8 h4 hT hc (by decide) rfl) [.int (gB (isWd yT (tP yT kl yc) (tE yT kl yc) 78892 4))] [(ka, .inr (4, [.ref kb, .int (nI kl), .int (nI (tP yT kl yc)), .int (nI (tE yT kl yc)), .int (nI (tkK yT kl yc)), .int (nI kv), .int (nI kf)])), (kb, .inl (g.2.1 1, 400, .inl (sgF yT)))] dX4_beastKind_25 rfl cv_X4_52 rfl rfl rfl rfl 0 rfl rfl (gLe rfl) (gLe rfl) (gLe rfl) (gLe rfl) (gLe rfl) rfl rfl ?_
      refine j_if_eqB 31 33 dX4_beastKind_28 rfl rfl (fun h28 => ?_) (fun h28 => ?_)
      ·
        refine j_aload_n 34 dX4_beastKind_33 rfl 0 rfl ?_
        refine j_ldcS 36 9 dX4_beastKind_34 rfl (by decide) rfl rfl ?_
        refine j_callV0 (rest := []) 39 [0, 1] (c_X4_isWord g ka kb kl kv kf yT (gK g 9) yc 9 h4 hT hc (by decide) rfl) [.int (gB (isWd yT (tP yT kl yc) (tE yT kl yc) 4662658 5))] [(ka, .inr (4, [.ref kb, .int (nI kl), .int (nI (tP yT kl yc)), .int (nI (tE yT kl yc)), .int (nI (tkK yT kl yc)), .int (nI kv), .int (nI kf)])), (kb, .inl (g.2.1 1, 400, .inl (sgF yT)))] dX4_beastKind_36 rfl cv_X4_52 rfl rfl rfl rfl 0 rfl rfl (gLe rfl) (gLe rfl) (gLe rfl) (gLe rfl) (gLe rfl) rfl rfl ?_
        refine j_if_eqB 42 44 dX4_beastKind_39 rfl rfl (fun h39 => ?_) (fun h39 => ?_)
        ·
          refine j_aload_n 45 dX4_beastKind_44 rfl 0 rfl ?_
          refine j_ldcS 47 10 dX4_beastKind_45 rfl (by decide) rfl rfl ?_
          refine j_callV0 (rest := []) 50 [0, 1] (c_X4_isWord g ka kb kl kv kf yT (gK g 10) yc 10 h4 hT hc (by decide) rfl) [.int (gB (isWd yT (tP yT kl yc) (tE yT kl yc) 139839533 6))] [(ka, .inr (4, [.ref kb, .int (nI kl), .int (nI (tP yT kl yc)), .int (nI (tE yT kl yc)), .int (nI (tkK yT kl yc)), .int (nI kv), .int (nI kf)])), (kb, .inl (g.2.1 1, 400, .inl (sgF yT)))] dX4_beastKind_47 rfl cv_X4_52 rfl rfl rfl rfl 0 rfl rfl (gLe rfl) (gLe rfl) (gLe rfl) (gLe rfl) (gLe rfl) rfl rfl ?_
          refine j_if_eqB 53 57 dX4_beastKind_50 rfl rfl (fun h50 => ?_) (fun h50 => ?_)
          ·
            refine j_iconst (v := (-1 : Int32)) 58 dX4_beastKind_57 rfl (by decide) ?_
            have e1 : bwS yT (tP yT kl yc) (tE yT kl yc) = 0 := by rw [bwS, if_neg h6, if_neg h17, if_neg h28, if_neg h39, if_neg h50]
            refine j_iret dX4_beastKind_58 rfl rfl ⟨gLe rfl, gLe rfl, ?_⟩
            rw [e1]
            exact ⟨rfl, rfl⟩
          ·
            refine j_iconst (v := (5 : Int32)) 54 dX4_beastKind_53 rfl (by decide) ?_
            refine j_goto 58 dX4_beastKind_54 rfl ?_
            have e1 : bwS yT (tP yT kl yc) (tE yT kl yc) = 5 := by rw [bwS, if_neg h6, if_neg h17, if_neg h28, if_neg h39, if_pos h50]
            refine j_iret dX4_beastKind_58 rfl rfl ⟨gLe rfl, gLe rfl, ?_⟩
            rw [e1]
            exact ⟨rfl, rfl⟩
        ·
          refine j_iconst (v := (4 : Int32)) 43 dX4_beastKind_42 rfl (by decide) ?_
          have e1 : bwS yT (tP yT kl yc) (tE yT kl yc) = 4 := by rw [bwS, if_neg h6, if_neg h17, if_neg h28, if_pos h39]
          refine j_iret dX4_beastKind_43 rfl rfl ⟨gLe rfl, gLe rfl, ?_⟩
          rw [e1]
          exact ⟨rfl, rfl⟩
      ·
        refine j_iconst (v := (3 : Int32)) 32 dX4_beastKind_31 rfl (by decide) ?_
        have e1 : bwS yT (tP yT kl yc) (tE yT kl yc) = 3 := by rw [bwS, if_neg h6, if_neg h17, if_pos h28]
        refine j_iret dX4_beastKind_32 rfl rfl ⟨gLe rfl, gLe rfl, ?_⟩
        rw [e1]
        exact ⟨rfl, rfl⟩
    ·
      refine j_iconst (v := (2 : Int32)) 21 dX4_beastKind_20 rfl (by decide) ?_
      have e1 : bwS yT (tP yT kl yc) (tE yT kl yc) = 2 := by rw [bwS, if_neg h6, if_pos h17]
      refine j_iret dX4_beastKind_21 rfl rfl ⟨gLe rfl, gLe rfl, ?_⟩
      rw [e1]
      exact ⟨rfl, rfl⟩
  ·
    refine j_iconst (v := (1 : Int32)) 10 dX4_beastKind_9 rfl (by decide) ?_
    have e1 : bwS yT (tP yT kl yc) (tE yT kl yc) = 1 := by rw [bwS, if_pos h6]
    refine j_iret dX4_beastKind_10 rfl rfl ⟨gLe rfl, gLe rfl, ?_⟩
    rw [e1]
    exact ⟨rfl, rfl⟩
set_option maxRecDepth 20000 in
theorem c_X4_add (g : gG) (ka : Nat) (kb : Nat) (kl : Nat) (ks : Nat) (ke : Nat) (kt : Nat) (kv : Nat) (kf : Nat) (yT : Nat → Nat) (w : Int64) (n : Nat)  (hn : n ≤ 8) (h4 : kl + n ≤ 400) : gCon g mX4_add 0 0 0 [.ref ka, .long w, .int (nI n)] [(ka, .inr (4, [.ref kb, .int (nI kl), .int (nI ks), .int (nI ke), .int (nI kt), .int (nI kv), .int (nI kf)])), (kb, .inl (g.2.1 1, 400, .inl (sgF yT)))] (fun rv ws' => rv = none ∧ ws' = [(ka, .inr (4, [.ref kb, .int (nI (kl + n)), .int (nI ks), .int (nI ke), .int (nI kt), .int (nI kv), .int (nI kf)])), (kb, .inl (g.2.1 1, 400, .inl (sgF (fdT yT kl w n n))))]) := by
  refine gCon.of (lv := [(0, .ref ka), (1, .long w), (3, .int (nI n))]) (by decide) (gLe rfl) rfl ?_
  refine j_iload_n 1 dX4_add_0 rfl 2 rfl ?_
  refine j_iconst (v := (1 : Int32)) 2 dX4_add_1 rfl (by decide) ?_
  refine j_isub 3 dX4_add_2 rfl ?_
  refine j_istore 5 [(4, .int ((nI n) - (1 : Int32))), (0, .ref ka), (1, .long w), (3, .int (nI n))] dX4_add_3 rfl (by decide) rfl ?_
  have hL5 : ∀ (zm5 : Nat) (zc : Nat), zc < zm5 → (zc ≤ n) → gJ g mX4_add 0 0 0 (fun k' j' rv ws' => k' ≤ 0 ∧ j' ≤ 0 ∧ (rv = none ∧ ws' = [(ka, .inr (4, [.ref kb, .int (nI (kl + n)), .int (nI ks), .int (nI ke), .int (nI kt), .int (nI kv), .int (nI kf)])), (kb, .inl (g.2.1 1, 400, .inl (sgF (fdT yT kl w n n))))])) 0 0 5 [(4, .int ((nI zc) - (1 : Int32))), (0, .ref ka), (1, .long w), (3, .int (nI n))] [] [(ka, .inr (4, [.ref kb, .int (nI (kl + (n - zc))), .int (nI ks), .int (nI ke), .int (nI kt), .int (nI kv), .int (nI kf)])), (kb, .inl (g.2.1 1, 400, .inl (sgF (fdT yT kl w n (n - zc)))))] := by
    intro zm5
    induction zm5 with
    | zero => intro zc zmh; exact absurd zmh (Nat.not_lt_zero _)
    | succ zm5 zih5 =>
      intro zc zmh5 hzc
      refine j_iload 7 dX4_add_5 rfl 0 rfl ?_
      refine j_if_lt 10 54 dX4_add_7 rfl rfl (fun h7 => ?_) (fun h7 => ?_)
      ·
        refine j_vret dX4_add_54 rfl ⟨gLe rfl, gLe rfl, ?_⟩
        have hz0 : zc = 0 := (pred_neg (by omega)).mp h7
        rw [hz0, Nat.sub_zero]
        exact ⟨rfl, rfl⟩
      ·
        have hz0 : ¬ zc = 0 := fun y => h7 ((pred_neg (by omega)).mpr y)
        refine j_lvs [(4, .int (nI (zc - 1))), (0, .ref ka), (1, .long w), (3, .int (nI n))] (by rw [nI_p (by omega)]) ?_
        refine j_aload_n 11 dX4_add_10 rfl 1 rfl ?_
        refine j_getf 14 0 dX4_add_11 rfl fd_X4_15 rfl rfl ?_
        refine j_sipush (v := (400 : Int32)) 17 dX4_add_14 rfl (by decide) ?_
        refine j_icmp_geN (kl + (n - zc)) 400 20 54 dX4_add_17 rfl rfl (by omega) (by decide) (fun h17 => absurd h17 (by omega)) (fun h17 => ?_)
        refine j_aload_n 21 dX4_add_20 rfl 1 rfl ?_
        refine j_getf 24 0 dX4_add_21 rfl fd_X4_9 rfl rfl ?_
        refine j_aload_n 25 dX4_add_24 rfl 1 rfl ?_
        refine j_getf 28 0 dX4_add_25 rfl fd_X4_15 rfl rfl ?_
        refine j_lload_n 29 dX4_add_28 rfl 2 rfl ?_
        refine j_bipush (v := (8 : Int32)) 31 dX4_add_29 rfl (by decide) ?_
        refine j_iload 33 dX4_add_31 rfl 0 rfl ?_
        refine j_imulN 8 (zc - 1) 34 dX4_add_33 rfl ?_
        refine j_lushr 35 dX4_add_34 rfl ?_
        refine j_l2i 36 dX4_add_35 rfl ?_
        refine j_i2b 37 dX4_add_36 rfl ?_
        refine j_topI ((((w.toUInt64 >>> ((nI (8 * (zc - 1))).toInt64.toUInt64 &&& Int64.toUInt64 63)).toInt64).toInt32).toInt8.toInt32) (sg (byteW w (zc - 1))) (byteS w (show zc - 1 < 8 by omega)) ?_
        refine j_bastS (byteW w (zc - 1)) (kl + (n - zc)) 38 1 [(ka, .inr (4, [.ref kb, .int (nI (kl + (n - zc))), .int (nI ks), .int (nI ke), .int (nI kt), .int (nI kv), .int (nI kf)])), (kb, .inl (g.2.1 1, 400, .inl (sgF (va_up (fdT yT kl w n (n - zc)) (kl + (n - zc)) (byteW w (zc - 1))))))] dX4_add_37 rfl rfl (by omega) (by decide) (byteW_lt w _) rfl ?_
        refine j_aload_n 39 dX4_add_38 rfl 1 rfl ?_
        refine j_dup 40 dX4_add_39 rfl rfl ?_
        refine j_getf 43 0 dX4_add_40 rfl fd_X4_15 rfl rfl ?_
        refine j_iconst (v := (1 : Int32)) 44 dX4_add_43 rfl (by decide) ?_
        refine j_iaddN (kl + (n - zc)) 1 45 dX4_add_44 rfl ?_
        refine j_putf 48 0 [(ka, .inr (4, [.ref kb, .int (nI ((kl + (n - zc)) + 1)), .int (nI ks), .int (nI ke), .int (nI kt), .int (nI kv), .int (nI kf)])), (kb, .inl (g.2.1 1, 400, .inl (sgF (va_up (fdT yT kl w n (n - zc)) (kl + (n - zc)) (byteW w (zc - 1))))))] dX4_add_45 rfl fd_X4_15 rfl rfl rfl (gLe rfl) rfl ?_
        refine j_iinc (v := ((nI (zc - 1)) - (1 : Int32))) 51 [(4, .int ((nI (zc - 1)) - (1 : Int32))), (0, .ref ka), (1, .long w), (3, .int (nI n))] dX4_add_48 rfl 0 rfl (madd1 _) (by decide) rfl ?_
        refine j_goto 5 dX4_add_51 rfl ?_
        refine j_lv [0, 1, 2, 3] rfl ?_
        refine j_ws [(ka, .inr (4, [.ref kb, .int (nI (kl + (n - (zc - 1)))), .int (nI ks), .int (nI ke), .int (nI kt), .int (nI kv), .int (nI kf)])), (kb, .inl (g.2.1 1, 400, .inl (sgF (fdT yT kl w n (n - (zc - 1))))))] (by rw [show n - (zc - 1) = n - zc + 1 by omega, ← fdT_s, show n - 1 - (n - zc) = zc - 1 by omega]; rfl) ?_
        exact zih5 (zc - 1) (by omega) (by omega)
  refine j_ws [(ka, .inr (4, [.ref kb, .int (nI (kl + (n - n))), .int (nI ks), .int (nI ke), .int (nI kt), .int (nI kv), .int (nI kf)])), (kb, .inl (g.2.1 1, 400, .inl (sgF (fdT yT kl w n (n - n)))))] (by rw [Nat.sub_self, fdT_0]; rfl) ?_
  refine j_lv [0, 1, 2, 3] rfl ?_
  exact hL5 _ n (Nat.lt_succ_self _) (Nat.le_refl _)
