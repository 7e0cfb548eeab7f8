set_option maxRecDepth 20000 in
theorem c_X6_sort (g : gG) (c : Nat)  (hc : c < 1000) : gCon g mX6_sort 0 0 0 [.int (nI c)] [] (fun rv ws' => rv = some (.int (nI (srt c))) ∧ ws' = []) := by
  refine gCon.of (lv := [(0, .int (nI c))]) (by decide) (gLe rfl) rfl ?_
  refine j_iload_n 1 dX6_sort_0 rfl 0 rfl ?_
  refine j_bipush (v := (97 : Int32)) 3 dX6_sort_1 rfl (by decide) ?_
  refine j_icmp_ltN c 97 6 16 dX6_sort_3 rfl rfl (by omega) (by decide) (fun h3 => ?_) (fun h3 => ?_)
  ·
    refine j_iload_n 17 dX6_sort_16 rfl 0 rfl ?_
    refine j_bipush (v := (48 : Int32)) 19 dX6_sort_17 rfl (by decide) ?_
    refine j_icmp_ltN c 48 22 32 dX6_sort_19 rfl rfl (by omega) (by decide) (fun h19 => ?_) (fun h19 => ?_)
    ·
      refine j_iconst (v := (0 : Int32)) 33 dX6_sort_32 rfl (by decide) ?_
      refine j_iretI dX6_sort_33 rfl ⟨gLe rfl, gLe rfl, ?_⟩
      refine ⟨congrArg (fun z => some (Value.int (nI z))) ?_, rfl⟩
      unfold srt
      repeat' split
      all_goals omega
    ·
      refine j_iload_n 23 dX6_sort_22 rfl 0 rfl ?_
      refine j_bipush (v := (57 : Int32)) 25 dX6_sort_23 rfl (by decide) ?_
      refine j_icmp_gtN c 57 28 32 dX6_sort_25 rfl rfl (by omega) (by decide) (fun h25 => ?_) (fun h25 => ?_)
      ·
        refine j_iconst (v := (0 : Int32)) 33 dX6_sort_32 rfl (by decide) ?_
        refine j_iretI dX6_sort_33 rfl ⟨gLe rfl, gLe rfl, ?_⟩
        refine ⟨congrArg (fun z => some (Value.int (nI z))) ?_, rfl⟩
        unfold srt
        repeat' split
        all_goals omega
      ·
        refine j_iconst (v := (2 : Int32)) 29 dX6_sort_28 rfl (by decide) ?_
        refine j_goto 33 dX6_sort_29 rfl ?_
        refine j_iretI dX6_sort_33 rfl ⟨gLe rfl, gLe rfl, ?_⟩
        refine ⟨congrArg (fun z => some (Value.int (nI z))) ?_, rfl⟩
        unfold srt
        repeat' split
        all_goals omega
  ·
    refine j_iload_n 7 dX6_sort_6 rfl 0 rfl ?_
    refine j_bipush (v := (122 : Int32)) 9 dX6_sort_7 rfl (by decide) ?_
    refine j_icmp_gtN c 122 12 16 dX6_sort_9 rfl rfl (by omega) (by decide) (fun h9 => ?_) (fun h9 => ?_)
    ·
      refine j_iload_n 17 dX6_sort_16 rfl 0 rfl ?_
      refine j_bipush (v := (48 : Int32)) 19 dX6_sort_17 rfl (by decide) ?_
      refine j_icmp_ltN c 48 22 32 dX6_sort_19 rfl rfl (by omega) (by decide) (fun h19 => ?_) (fun h19 => ?_)
      ·
        refine j_iconst (v := (0 : Int32)) 33 dX6_sort_32 rfl (by decide) ?_
        refine j_iretI dX6_sort_33 rfl ⟨gLe rfl, gLe rfl, ?_⟩
        refine ⟨congrArg (fun z => some (Value.int (nI z))) ?_, rfl⟩
        unfold srt
        repeat' split
        all_goals omega
      ·
        refine j_iload_n 23 dX6_sort_22 rfl 0 rfl ?_
        refine j_bipush (v := (57 : Int32)) 25 dX6_sort_23 rfl (by decide) ?_
        refine j_icmp_gtN c 57 28 32 dX6_sort_25 rfl rfl (by omega) (by decide) (fun h25 => ?_) (fun h25 => ?_)
        ·
          refine j_iconst (v := (0 : Int32)) 33 dX6_sort_32 rfl (by decide) ?_
          refine j_iretI dX6_sort_33 rfl ⟨gLe rfl, gLe rfl, ?_⟩
          refine ⟨congrArg (fun z => some (Value.int (nI z))) ?_, rfl⟩
          unfold srt
          repeat' split
          all_goals omega
        ·
          refine j_iconst (v := (2 : Int32)) 29 dX6_sort_28 rfl (by decide) ?_
          refine j_goto 33 dX6_sort_29 rfl ?_
          refine j_iretI dX6_sort_33 rfl ⟨gLe rfl, gLe rfl, ?_⟩
          refine ⟨congrArg (fun z => some (Value.int (nI z))) ?_, rfl⟩
          unfold srt
          repeat' split
          all_goals omega
    ·
      refine j_iconst (v := (1 : Int32)) 13 dX6_sort_12 rfl (by decide) ?_
      refine j_goto 33 dX6_sort_13 rfl ?_
      refine j_iretI dX6_sort_33 rfl ⟨gLe rfl, gLe rfl, ?_⟩
      refine ⟨congrArg (fun z => some (Value.int (nI z))) ?_, rfl⟩
      unfold srt
      repeat' split
      all_goals omega
set_option maxRecDepth 20000 in
theorem c_X6_token (g : gG) (q : Nat → Nat) (Na : Nat → Nat → Nat) (Ia : Nat → Nat → Int32) (Ns : Nat → Nat) (Is : Nat → Int32)   (hT : ∀ k, Na 3 k < 256) (h4 : Ns 4 ≤ 400) (h13 : Ns 13 ≤ Ns 4) : gCon g mX6_token 1 0 0 [.ref (q 26)] (wM g q Na Ia Ns Is) (fun rv ws' => rv = none ∧ ws' = (wM g q Na Ia (va_up (va_up (va_up Ns 13 (tE (Na 3) (Ns 4) (Ns 13))) 14 (tP (Na 3) (Ns 4) (Ns 13))) 15 (tE (Na 3) (Ns 4) (Ns 13))) Is)) := by
  refine gCon.of (lv := [(0, .ref (q 26))]) (by decide) (gLe rfl) rfl ?_
  have hpp := tP_le (T := Na 3) h13
  have hpe := tE_le (T := Na 3) h13
  have hL0 : ∀ (zm0 : Nat) (zi : Nat), Ns 4 - zi < zm0 → (zi ≤ Ns 4) → (skB (Na 3) (Ns 4) (Ns 4 - zi) zi = (tP (Na 3) (Ns 4) (Ns 13))) → gJ g mX6_token 1 0 0 (fun k' j' rv ws' => k' ≤ 0 ∧ j' ≤ 0 ∧ (rv = none ∧ ws' = (wM g q Na Ia (va_up (va_up (va_up Ns 13 (tE (Na 3) (Ns 4) (Ns 13))) 14 (tP (Na 3) (Ns 4) (Ns 13))) 15 (tE (Na 3) (Ns 4) (Ns 13))) Is))) 0 0 0 [(0, .ref (q 26))] [] (wM g q Na Ia (va_up Ns 13 zi) Is) := by
    intro zm0
    induction zm0 with
    | zero => intro zi zmh; exact absurd zmh (Nat.not_lt_zero _)
    | succ zm0 zih0 =>
      intro zi zmh0 hz hzs
      refine j_aload_n 1 dX6_token_0 rfl 0 rfl ?_
      refine j_getf 4 0 dX6_token_1 rfl fd_X6_91 rfl rfl ?_
      refine j_aload_n 5 dX6_token_4 rfl 0 rfl ?_
      refine j_getf 8 0 dX6_token_5 rfl fd_X6_85 rfl rfl ?_
      refine j_icmp_geN zi (Ns 4) 11 52 dX6_token_8 rfl rfl (by have z0 := hz; have z1 := h4; omega) (by have z0 := h4; omega) (fun h8 => ?_) (fun h8 => ?_)
      ·
        have hzp : zi = (tP (Na 3) (Ns 4) (Ns 13)) := by
          rw [← hzs]
          by_cases yc : zi < Ns 4
          · rw [show Ns 4 - zi = Ns 4 - zi - 1 + 1 by omega, skB, if_neg (by first | exact absurd yc (Nat.not_lt.mpr h8) | exact fun y => y.2.elim h22 h36)]
          · rw [show Ns 4 - zi = 0 by omega, skB]
        subst hzp
        refine j_aload_n 53 dX6_token_52 rfl 0 rfl ?_
        refine j_aload_n 54 dX6_token_53 rfl 0 rfl ?_
        refine j_getf 57 0 dX6_token_54 rfl fd_X6_91 rfl rfl ?_
        refine j_putf 60 0 (wM g q Na Ia (va_up (va_up Ns 13 (tP (Na 3) (Ns 4) (Ns 13))) 14 (tP (Na 3) (Ns 4) (Ns 13))) Is) dX6_token_57 rfl fd_X6_94 rfl rfl rfl (gLe rfl) rfl ?_
        refine j_aload_n 61 dX6_token_60 rfl 0 rfl ?_
        refine j_dup 62 dX6_token_61 rfl rfl ?_
        refine j_getf 65 0 dX6_token_62 rfl fd_X6_91 rfl rfl ?_
        refine j_aload_n 66 dX6_token_65 rfl 0 rfl ?_
        refine j_getf 69 0 dX6_token_66 rfl fd_X6_91 rfl rfl ?_
        refine j_aload_n 70 dX6_token_69 rfl 0 rfl ?_
        refine j_getf 73 0 dX6_token_70 rfl fd_X6_85 rfl rfl ?_
        refine j_icmp_geN (tP (Na 3) (Ns 4) (Ns 13)) (Ns 4) 76 80 dX6_token_73 rfl rfl (by have z0 := hpp; have z1 := h4; omega) (by have z0 := h4; omega) (fun h73 => ?_) (fun h73 => ?_)
        ·
          refine j_iconst (v := (0 : Int32)) 81 dX6_token_80 rfl (by decide) ?_
          refine j_iaddN (tP (Na 3) (Ns 4) (Ns 13)) 0 82 dX6_token_81 rfl ?_
          refine j_topN ((tP (Na 3) (Ns 4) (Ns 13)) + 0) (tP (Na 3) (Ns 4) (Ns 13)) (Nat.add_zero _) ?_
          refine j_putf 85 0 (wM g q Na Ia (va_up (va_up Ns 13 (tP (Na 3) (Ns 4) (Ns 13))) 14 (tP (Na 3) (Ns 4) (Ns 13))) Is) dX6_token_82 rfl fd_X6_91 rfl rfl rfl (gLe rfl) rfl ?_
          have hL85 : ∀ (zm85 : Nat) (zj : Nat), Ns 4 - zj < zm85 → (zj ≤ Ns 4) → (zj < Ns 4 → (tP (Na 3) (Ns 4) (Ns 13)) < Ns 4) → (rnS (Na 3) (Ns 4) (srt (Na 3 (tP (Na 3) (Ns 4) (Ns 13)))) (Ns 4 - zj) zj = (tE (Na 3) (Ns 4) (Ns 13))) → gJ g mX6_token 1 0 0 (fun k' j' rv ws' => k' ≤ 0 ∧ j' ≤ 0 ∧ (rv = none ∧ ws' = (wM g q Na Ia (va_up (va_up (va_up Ns 13 (tE (Na 3) (Ns 4) (Ns 13))) 14 (tP (Na 3) (Ns 4) (Ns 13))) 15 (tE (Na 3) (Ns 4) (Ns 13))) Is))) 0 0 85 [(0, .ref (q 26))] [] (wM g q Na Ia (va_up (va_up Ns 13 zj) 14 (tP (Na 3) (Ns 4) (Ns 13))) Is) := by
            intro zm85
            induction zm85 with
            | zero => intro zj zmh; exact absurd zmh (Nat.not_lt_zero _)
            | succ zm85 zih85 =>
              intro zj zmh85 hyz hyp hys
              refine j_aload_n 86 dX6_token_85 rfl 0 rfl ?_
              refine j_getf 89 0 dX6_token_86 rfl fd_X6_91 rfl rfl ?_
              refine j_aload_n 90 dX6_token_89 rfl 0 rfl ?_
              refine j_getf 93 0 dX6_token_90 rfl fd_X6_85 rfl rfl ?_
              refine j_icmp_geN zj (Ns 4) 96 151 dX6_token_93 rfl rfl (by have z0 := hyz; have z1 := h4; omega) (by have z0 := h4; omega) (fun h93 => ?_) (fun h93 => ?_)
              ·
                have hzf : zj = (tE (Na 3) (Ns 4) (Ns 13)) := by
                  rw [← hys]
                  by_cases yc : zj < Ns 4
                  · rw [show Ns 4 - zj = Ns 4 - zj - 1 + 1 by omega, rnS, if_neg (by first | exact absurd yc (Nat.not_lt.mpr h93) | exact fun y => absurd y.2.1 (by omega) | exact fun y => h135 y.2.2)]
                  · rw [show Ns 4 - zj = 0 by omega, rnS]
                subst hzf
                refine j_aload_n 152 dX6_token_151 rfl 0 rfl ?_
                refine j_aload_n 153 dX6_token_152 rfl 0 rfl ?_
                refine j_getf 156 0 dX6_token_153 rfl fd_X6_91 rfl rfl ?_
                refine j_putf 159 0 (wM g q Na Ia (va_up (va_up (va_up Ns 13 (tE (Na 3) (Ns 4) (Ns 13))) 14 (tP (Na 3) (Ns 4) (Ns 13))) 15 (tE (Na 3) (Ns 4) (Ns 13))) Is) dX6_token_156 rfl fd_X6_100 rfl rfl rfl (gLe rfl) rfl ?_
                refine j_vret dX6_token_159 rfl ⟨gLe rfl, gLe rfl, ?_⟩
                exact ⟨rfl, rfl⟩
              ·
                have yp := hyp (by omega)
                refine j_aload_n 97 dX6_token_96 rfl 0 rfl ?_
                refine j_getf 100 0 dX6_token_97 rfl fd_X6_16 rfl rfl ?_
                refine j_aload_n 101 dX6_token_100 rfl 0 rfl ?_
                refine j_getf 104 0 dX6_token_101 rfl fd_X6_94 rfl rfl ?_
                refine j_ialdN (tP (Na 3) (Ns 4) (Ns 13)) 105 3 dX6_token_104 rfl rfl (by omega) (by decide) ?_
                refine j_callSE (rest := []) 108 (c_X6_sort g ((Na 3) (tP (Na 3) (Ns 4) (Ns 13))) (by have := hT (tP (Na 3) (Ns 4) (Ns 13)); omega)) [.int (nI (srt ((Na 3) (tP (Na 3) (Ns 4) (Ns 13)))))] dX6_token_105 rfl cs_X6_97 rfl rfl (gLe rfl) (gLe rfl) (gLe rfl) (gLe rfl) rfl ?_
                refine j_if_leN (srt ((Na 3) (tP (Na 3) (Ns 4) (Ns 13)))) 111 151 dX6_token_108 rfl rfl (by have z0 := (srt_le (c := ((Na 3) (tP (Na 3) (Ns 4) (Ns 13))))); omega) (fun h108 => ?_) (fun h108 => ?_)
                ·
                  have hzf : zj = (tE (Na 3) (Ns 4) (Ns 13)) := by
                    rw [← hys]
                    by_cases yc : zj < Ns 4
                    · rw [show Ns 4 - zj = Ns 4 - zj - 1 + 1 by omega, rnS, if_neg (by first | exact absurd yc (Nat.not_lt.mpr h93) | exact fun y => absurd y.2.1 (by omega) | exact fun y => h135 y.2.2)]
                    · rw [show Ns 4 - zj = 0 by omega, rnS]
                  subst hzf
                  refine j_aload_n 152 dX6_token_151 rfl 0 rfl ?_
                  refine j_aload_n 153 dX6_token_152 rfl 0 rfl ?_
                  refine j_getf 156 0 dX6_token_153 rfl fd_X6_91 rfl rfl ?_
                  refine j_putf 159 0 (wM g q Na Ia (va_up (va_up (va_up Ns 13 (tE (Na 3) (Ns 4) (Ns 13))) 14 (tP (Na 3) (Ns 4) (Ns 13))) 15 (tE (Na 3) (Ns 4) (Ns 13))) Is) dX6_token_156 rfl fd_X6_100 rfl rfl rfl (gLe rfl) rfl ?_
                  refine j_vret dX6_token_159 rfl ⟨gLe rfl, gLe rfl, ?_⟩
                  exact ⟨rfl, rfl⟩
                ·
                  refine j_aload_n 112 dX6_token_111 rfl 0 rfl ?_
                  refine j_getf 115 0 dX6_token_112 rfl fd_X6_16 rfl rfl ?_
                  refine j_aload_n 116 dX6_token_115 rfl 0 rfl ?_
                  refine j_getf 119 0 dX6_token_116 rfl fd_X6_91 rfl rfl ?_
                  refine j_ialdN zj 120 3 dX6_token_119 rfl rfl (by omega) (by decide) ?_
                  refine j_callSE (rest := []) 123 (c_X6_sort g ((Na 3) zj) (by have := hT zj; omega)) [.int (nI (srt ((Na 3) zj)))] dX6_token_120 rfl cs_X6_97 rfl rfl (gLe rfl) (gLe rfl) (gLe rfl) (gLe rfl) rfl ?_
                  refine j_aload_n 124 dX6_token_123 rfl 0 rfl ?_
                  refine j_getf 127 0 dX6_token_124 rfl fd_X6_16 rfl rfl ?_
                  refine j_aload_n 128 dX6_token_127 rfl 0 rfl ?_
                  refine j_getf 131 0 dX6_token_128 rfl fd_X6_94 rfl rfl ?_
                  refine j_ialdN (tP (Na 3) (Ns 4) (Ns 13)) 132 3 dX6_token_131 rfl rfl (by omega) (by decide) ?_
                  refine j_callSE (rest := [.int (nI (srt ((Na 3) zj)))]) 135 (c_X6_sort g ((Na 3) (tP (Na 3) (Ns 4) (Ns 13))) (by have := hT (tP (Na 3) (Ns 4) (Ns 13)); omega)) [.int (nI (srt ((Na 3) (tP (Na 3) (Ns 4) (Ns 13))))), .int (nI (srt ((Na 3) zj)))] dX6_token_132 rfl cs_X6_97 rfl rfl (gLe rfl) (gLe rfl) (gLe rfl) (gLe rfl) rfl ?_
                  refine j_icmp_neN (srt ((Na 3) zj)) (srt ((Na 3) (tP (Na 3) (Ns 4) (Ns 13)))) 138 151 dX6_token_135 rfl rfl (by have z0 := (srt_le (c := ((Na 3) zj))); omega) (by have z0 := (srt_le (c := ((Na 3) (tP (Na 3) (Ns 4) (Ns 13))))); omega) (fun h135 => ?_) (fun h135 => ?_)
                  ·
                    have hzf : zj = (tE (Na 3) (Ns 4) (Ns 13)) := by
                      rw [← hys]
                      by_cases yc : zj < Ns 4
                      · rw [show Ns 4 - zj = Ns 4 - zj - 1 + 1 by omega, rnS, if_neg (by first | exact absurd yc (Nat.not_lt.mpr h93) | exact fun y => absurd y.2.1 (by omega) | exact fun y => h135 y.2.2)]
                      · rw [show Ns 4 - zj = 0 by omega, rnS]
                    subst hzf
                    refine j_aload_n 152 dX6_token_151 rfl 0 rfl ?_
                    refine j_aload_n 153 dX6_token_152 rfl 0 rfl ?_
                    refine j_getf 156 0 dX6_token_153 rfl fd_X6_91 rfl rfl ?_
                    refine j_putf 159 0 (wM g q Na Ia (va_up (va_up (va_up Ns 13 (tE (Na 3) (Ns 4) (Ns 13))) 14 (tP (Na 3) (Ns 4) (Ns 13))) 15 (tE (Na 3) (Ns 4) (Ns 13))) Is) dX6_token_156 rfl fd_X6_100 rfl rfl rfl (gLe rfl) rfl ?_
                    refine j_vret dX6_token_159 rfl ⟨gLe rfl, gLe rfl, ?_⟩
                    exact ⟨rfl, rfl⟩
                  ·
                    refine j_aload_n 139 dX6_token_138 rfl 0 rfl ?_
                    refine j_dup 140 dX6_token_139 rfl rfl ?_
                    refine j_getf 143 0 dX6_token_140 rfl fd_X6_91 rfl rfl ?_
                    refine j_iconst (v := (1 : Int32)) 144 dX6_token_143 rfl (by decide) ?_
                    refine j_iaddN zj 1 145 dX6_token_144 rfl ?_
                    refine j_putf 148 0 (wM g q Na Ia (va_up (va_up Ns 13 (zj + 1)) 14 (tP (Na 3) (Ns 4) (Ns 13))) Is) dX6_token_145 rfl fd_X6_91 rfl rfl rfl (gLe rfl) rfl ?_
                    refine j_goto 85 dX6_token_148 rfl ?_
                    refine j_lv [0] rfl ?_
                    exact zih85 (zj + 1) (by omega) (by omega) (fun _ => by omega) (by rw [← hys, show Ns 4 - zj = Ns 4 - (zj + 1) + 1 by omega, rnS, if_pos ⟨by omega, by omega, h135⟩])
          refine j_lv [0] rfl ?_
          exact hL85 _ (tP (Na 3) (Ns 4) (Ns 13)) (Nat.lt_succ_self _) (by omega) (fun z => z) (by rw [tE, if_neg (by omega), show Ns 4 - (tP (Na 3) (Ns 4) (Ns 13)) = 0 by omega, rnS])
        ·
          refine j_iconst (v := (1 : Int32)) 77 dX6_token_76 rfl (by decide) ?_
          refine j_goto 81 dX6_token_77 rfl ?_
          refine j_iaddN (tP (Na 3) (Ns 4) (Ns 13)) 1 82 dX6_token_81 rfl ?_
          refine j_putf 85 0 (wM g q Na Ia (va_up (va_up Ns 13 ((tP (Na 3) (Ns 4) (Ns 13)) + 1)) 14 (tP (Na 3) (Ns 4) (Ns 13))) Is) dX6_token_82 rfl fd_X6_91 rfl rfl rfl (gLe rfl) rfl ?_
          have hL85 : ∀ (zm85 : Nat) (zj : Nat), Ns 4 - zj < zm85 → (zj ≤ Ns 4) → (zj < Ns 4 → (tP (Na 3) (Ns 4) (Ns 13)) < Ns 4) → (rnS (Na 3) (Ns 4) (srt (Na 3 (tP (Na 3) (Ns 4) (Ns 13)))) (Ns 4 - zj) zj = (tE (Na 3) (Ns 4) (Ns 13))) → gJ g mX6_token 1 0 0 (fun k' j' rv ws' => k' ≤ 0 ∧ j' ≤ 0 ∧ (rv = none ∧ ws' = (wM g q Na Ia (va_up (va_up (va_up Ns 13 (tE (Na 3) (Ns 4) (Ns 13))) 14 (tP (Na 3) (Ns 4) (Ns 13))) 15 (tE (Na 3) (Ns 4) (Ns 13))) Is))) 0 0 85 [(0, .ref (q 26))] [] (wM g q Na Ia (va_up (va_up Ns 13 zj) 14 (tP (Na 3) (Ns 4) (Ns 13))) Is) := by
            intro zm85
            induction zm85 with
            | zero => intro zj zmh; exact absurd zmh (Nat.not_lt_zero _)
            | succ zm85 zih85 =>
              intro zj zmh85 hyz hyp hys
              refine j_aload_n 86 dX6_token_85 rfl 0 rfl ?_
              refine j_getf 89 0 dX6_token_86 rfl fd_X6_91 rfl rfl ?_
              refine j_aload_n 90 dX6_token_89 rfl 0 rfl ?_
              refine j_getf 93 0 dX6_token_90 rfl fd_X6_85 rfl rfl ?_
              refine j_icmp_geN zj (Ns 4) 96 151 dX6_token_93 rfl rfl (by have z0 := hyz; have z1 := h4; omega) (by have z0 := h4; omega) (fun h93 => ?_) (fun h93 => ?_)
              ·
                have hzf : zj = (tE (Na 3) (Ns 4) (Ns 13)) := by
                  rw [← hys]
                  by_cases yc : zj < Ns 4
                  · rw [show Ns 4 - zj = Ns 4 - zj - 1 + 1 by omega, rnS, if_neg (by first | exact absurd yc (Nat.not_lt.mpr h93) | exact fun y => absurd y.2.1 (by omega) | exact fun y => h135 y.2.2)]
                  · rw [show Ns 4 - zj = 0 by omega, rnS]
                subst hzf
                refine j_aload_n 152 dX6_token_151 rfl 0 rfl ?_
                refine j_aload_n 153 dX6_token_152 rfl 0 rfl ?_
                refine j_getf 156 0 dX6_token_153 rfl fd_X6_91 rfl rfl ?_
                refine j_putf 159 0 (wM g q Na Ia (va_up (va_up (va_up Ns 13 (tE (Na 3) (Ns 4) (Ns 13))) 14 (tP (Na 3) (Ns 4) (Ns 13))) 15 (tE (Na 3) (Ns 4) (Ns 13))) Is) dX6_token_156 rfl fd_X6_100 rfl rfl rfl (gLe rfl) rfl ?_
                refine j_vret dX6_token_159 rfl ⟨gLe rfl, gLe rfl, ?_⟩
                exact ⟨rfl, rfl⟩
              ·
                have yp := hyp (by omega)
                refine j_aload_n 97 dX6_token_96 rfl 0 rfl ?_
                refine j_getf 100 0 dX6_token_97 rfl fd_X6_16 rfl rfl ?_
                refine j_aload_n 101 dX6_token_100 rfl 0 rfl ?_
                refine j_getf 104 0 dX6_token_101 rfl fd_X6_94 rfl rfl ?_
                refine j_ialdN (tP (Na 3) (Ns 4) (Ns 13)) 105 3 dX6_token_104 rfl rfl (by omega) (by decide) ?_
                refine j_callSE (rest := []) 108 (c_X6_sort g ((Na 3) (tP (Na 3) (Ns 4) (Ns 13))) (by have := hT (tP (Na 3) (Ns 4) (Ns 13)); omega)) [.int (nI (srt ((Na 3) (tP (Na 3) (Ns 4) (Ns 13)))))] dX6_token_105 rfl cs_X6_97 rfl rfl (gLe rfl) (gLe rfl) (gLe rfl) (gLe rfl) rfl ?_
                refine j_if_leN (srt ((Na 3) (tP (Na 3) (Ns 4) (Ns 13)))) 111 151 dX6_token_108 rfl rfl (by have z0 := (srt_le (c := ((Na 3) (tP (Na 3) (Ns 4) (Ns 13))))); omega) (fun h108 => ?_) (fun h108 => ?_)
                ·
                  have hzf : zj = (tE (Na 3) (Ns 4) (Ns 13)) := by
                    rw [← hys]
                    by_cases yc : zj < Ns 4
                    · rw [show Ns 4 - zj = Ns 4 - zj - 1 + 1 by omega, rnS, if_neg (by first | exact absurd yc (Nat.not_lt.mpr h93) | exact fun y => absurd y.2.1 (by omega) | exact fun y => h135 y.2.2)]
                    · rw [show Ns 4 - zj = 0 by omega, rnS]
                  subst hzf
                  refine j_aload_n 152 dX6_token_151 rfl 0 rfl ?_
                  refine j_aload_n 153 dX6_token_152 rfl 0 rfl ?_
                  refine j_getf 156 0 dX6_token_153 rfl fd_X6_91 rfl rfl ?_
                  refine j_putf 159 0 (wM g q Na Ia (va_up (va_up (va_up Ns 13 (tE (Na 3) (Ns 4) (Ns 13))) 14 (tP (Na 3) (Ns 4) (Ns 13))) 15 (tE (Na 3) (Ns 4) (Ns 13))) Is) dX6_token_156 rfl fd_X6_100 rfl rfl rfl (gLe rfl) rfl ?_
                  refine j_vret dX6_token_159 rfl ⟨gLe rfl, gLe rfl, ?_⟩
                  exact ⟨rfl, rfl⟩
                ·
                  refine j_aload_n 112 dX6_token_111 rfl 0 rfl ?_
                  refine j_getf 115 0 dX6_token_112 rfl fd_X6_16 rfl rfl ?_
                  refine j_aload_n 116 dX6_token_115 rfl 0 rfl ?_
                  refine j_getf 119 0 dX6_token_116 rfl fd_X6_91 rfl rfl ?_
                  refine j_ialdN zj 120 3 dX6_token_119 rfl rfl (by omega) (by decide) ?_
                  refine j_callSE (rest := []) 123 (c_X6_sort g ((Na 3) zj) (by have := hT zj; omega)) [.int (nI (srt ((Na 3) zj)))] dX6_token_120 rfl cs_X6_97 rfl rfl (gLe rfl) (gLe rfl) (gLe rfl) (gLe rfl) rfl ?_
                  refine j_aload_n 124 dX6_token_123 rfl 0 rfl ?_
                  refine j_getf 127 0 dX6_token_124 rfl fd_X6_16 rfl rfl ?_
                  refine j_aload_n 128 dX6_token_127 rfl 0 rfl ?_
                  refine j_getf 131 0 dX6_token_128 rfl fd_X6_94 rfl rfl ?_
                  refine j_ialdN (tP (Na 3) (Ns 4) (Ns 13)) 132 3 dX6_token_131 rfl rfl (by omega) (by decide) ?_
                  refine j_callSE (rest := [.int (nI (srt ((Na 3) zj)))]) 135 (c_X6_sort g ((Na 3) (tP (Na 3) (Ns 4) (Ns 13))) (by have := hT (tP (Na 3) (Ns 4) (Ns 13)); omega)) [.int (nI (srt ((Na 3) (tP (Na 3) (Ns 4) (Ns 13))))), .int (nI (srt ((Na 3) zj)))] dX6_token_132 rfl cs_X6_97 rfl rfl (gLe rfl) (gLe rfl) (gLe rfl) (gLe rfl) rfl ?_
                  refine j_icmp_neN (srt ((Na 3) zj)) (srt ((Na 3) (tP (Na 3) (Ns 4) (Ns 13)))) 138 151 dX6_token_135 rfl rfl (by have z0 := (srt_le (c := ((Na 3) zj))); omega) (by have z0 := (srt_le (c := ((Na 3) (tP (Na 3) (Ns 4) (Ns 13))))); omega) (fun h135 => ?_) (fun h135 => ?_)
                  ·
                    have hzf : zj = (tE (Na 3) (Ns 4) (Ns 13)) := by
                      rw [← hys]
                      by_cases yc : zj < Ns 4
                      · rw [show Ns 4 - zj = Ns 4 - zj - 1 + 1 by omega, rnS, if_neg (by first | exact absurd yc (Nat.not_lt.mpr h93) | exact fun y => absurd y.2.1 (by omega) | exact fun y => h135 y.2.2)]
                      · rw [show Ns 4 - zj = 0 by omega, rnS]
                    subst hzf
                    refine j_aload_n 152 dX6_token_151 rfl 0 rfl ?_
                    refine j_aload_n 153 dX6_token_152 rfl 0 rfl ?_
                    refine j_getf 156 0 dX6_token_153 rfl fd_X6_91 rfl rfl ?_
                    refine j_putf 159 0 (wM g q Na Ia (va_up (va_up (va_up Ns 13 (tE (Na 3) (Ns 4) (Ns 13))) 14 (tP (Na 3) (Ns 4) (Ns 13))) 15 (tE (Na 3) (Ns 4) (Ns 13))) Is) dX6_token_156 rfl fd_X6_100 rfl rfl rfl (gLe rfl) rfl ?_
                    refine j_vret dX6_token_159 rfl ⟨gLe rfl, gLe rfl, ?_⟩
                    exact ⟨rfl, rfl⟩
                  ·
                    refine j_aload_n 139 dX6_token_138 rfl 0 rfl ?_
                    refine j_dup 140 dX6_token_139 rfl rfl ?_
                    refine j_getf 143 0 dX6_token_140 rfl fd_X6_91 rfl rfl ?_
                    refine j_iconst (v := (1 : Int32)) 144 dX6_token_143 rfl (by decide) ?_
                    refine j_iaddN zj 1 145 dX6_token_144 rfl ?_
                    refine j_putf 148 0 (wM g q Na Ia (va_up (va_up Ns 13 (zj + 1)) 14 (tP (Na 3) (Ns 4) (Ns 13))) Is) dX6_token_145 rfl fd_X6_91 rfl rfl rfl (gLe rfl) rfl ?_
                    refine j_goto 85 dX6_token_148 rfl ?_
                    refine j_lv [0] rfl ?_
                    exact zih85 (zj + 1) (by omega) (by omega) (fun _ => by omega) (by rw [← hys, show Ns 4 - zj = Ns 4 - (zj + 1) + 1 by omega, rnS, if_pos ⟨by omega, by omega, h135⟩])
          refine j_lv [0] rfl ?_
          exact hL85 _ ((tP (Na 3) (Ns 4) (Ns 13)) + 1) (Nat.lt_succ_self _) (by omega) (fun _ => by omega) (by rw [tE, if_pos (by omega)])
      ·
        refine j_aload_n 12 dX6_token_11 rfl 0 rfl ?_
        refine j_getf 15 0 dX6_token_12 rfl fd_X6_16 rfl rfl ?_
        refine j_aload_n 16 dX6_token_15 rfl 0 rfl ?_
        refine j_getf 19 0 dX6_token_16 rfl fd_X6_91 rfl rfl ?_
        refine j_ialdN zi 20 3 dX6_token_19 rfl rfl (by omega) (by decide) ?_
        refine j_bipush (v := (32 : Int32)) 22 dX6_token_20 rfl (by decide) ?_
        refine j_icmp_eqN ((Na 3) zi) 32 25 39 dX6_token_22 rfl rfl (by have z0 := hT zi; omega) (by decide) (fun h22 => ?_) (fun h22 => ?_)
        ·
          refine j_aload_n 40 dX6_token_39 rfl 0 rfl ?_
          refine j_dup 41 dX6_token_40 rfl rfl ?_
          refine j_getf 44 0 dX6_token_41 rfl fd_X6_91 rfl rfl ?_
          refine j_iconst (v := (1 : Int32)) 45 dX6_token_44 rfl (by decide) ?_
          refine j_iaddN zi 1 46 dX6_token_45 rfl ?_
          refine j_putf 49 0 (wM g q Na Ia (va_up Ns 13 (zi + 1)) Is) dX6_token_46 rfl fd_X6_91 rfl rfl rfl (gLe rfl) rfl ?_
          refine j_goto 0 dX6_token_49 rfl ?_
          refine j_lv [0] rfl ?_
          exact zih0 (zi + 1) (by omega) (by omega) (by rw [← hzs, show Ns 4 - zi = Ns 4 - (zi + 1) + 1 by omega, skB, if_pos ⟨by omega, by first | exact Or.inl h22 | exact Or.inr h36⟩])
        ·
          refine j_aload_n 26 dX6_token_25 rfl 0 rfl ?_
          refine j_getf 29 0 dX6_token_26 rfl fd_X6_16 rfl rfl ?_
          refine j_aload_n 30 dX6_token_29 rfl 0 rfl ?_
          refine j_getf 33 0 dX6_token_30 rfl fd_X6_91 rfl rfl ?_
          refine j_ialdN zi 34 3 dX6_token_33 rfl rfl (by omega) (by decide) ?_
          refine j_bipush (v := (10 : Int32)) 36 dX6_token_34 rfl (by decide) ?_
          refine j_icmp_neN ((Na 3) zi) 10 39 52 dX6_token_36 rfl rfl (by have z0 := hT zi; omega) (by decide) (fun h36 => ?_) (fun h36 => ?_)
          ·
            have hzp : zi = (tP (Na 3) (Ns 4) (Ns 13)) := by
              rw [← hzs]
              by_cases yc : zi < Ns 4
              · rw [show Ns 4 - zi = Ns 4 - zi - 1 + 1 by omega, skB, if_neg (by first | exact absurd yc (Nat.not_lt.mpr h8) | exact fun y => y.2.elim h22 h36)]
              · rw [show Ns 4 - zi = 0 by omega, skB]
            subst hzp
            refine j_aload_n 53 dX6_token_52 rfl 0 rfl ?_
            refine j_aload_n 54 dX6_token_53 rfl 0 rfl ?_
            refine j_getf 57 0 dX6_token_54 rfl fd_X6_91 rfl rfl ?_
            refine j_putf 60 0 (wM g q Na Ia (va_up (va_up Ns 13 (tP (Na 3) (Ns 4) (Ns 13))) 14 (tP (Na 3) (Ns 4) (Ns 13))) Is) dX6_token_57 rfl fd_X6_94 rfl rfl rfl (gLe rfl) rfl ?_
            refine j_aload_n 61 dX6_token_60 rfl 0 rfl ?_
            refine j_dup 62 dX6_token_61 rfl rfl ?_
            refine j_getf 65 0 dX6_token_62 rfl fd_X6_91 rfl rfl ?_
            refine j_aload_n 66 dX6_token_65 rfl 0 rfl ?_
            refine j_getf 69 0 dX6_token_66 rfl fd_X6_91 rfl rfl ?_
            refine j_aload_n 70 dX6_token_69 rfl 0 rfl ?_
            refine j_getf 73 0 dX6_token_70 rfl fd_X6_85 rfl rfl ?_
            refine j_icmp_geN (tP (Na 3) (Ns 4) (Ns 13)) (Ns 4) 76 80 dX6_token_73 rfl rfl (by have z0 := hpp; have z1 := h4; omega) (by have z0 := h4; omega) (fun h73 => ?_) (fun h73 => ?_)
            ·
              refine j_iconst (v := (0 : Int32)) 81 dX6_token_80 rfl (by decide) ?_
              refine j_iaddN (tP (Na 3) (Ns 4) (Ns 13)) 0 82 dX6_token_81 rfl ?_
              refine j_topN ((tP (Na 3) (Ns 4) (Ns 13)) + 0) (tP (Na 3) (Ns 4) (Ns 13)) (Nat.add_zero _) ?_
              refine j_putf 85 0 (wM g q Na Ia (va_up (va_up Ns 13 (tP (Na 3) (Ns 4) (Ns 13))) 14 (tP (Na 3) (Ns 4) (Ns 13))) Is) dX6_token_82 rfl fd_X6_91 rfl rfl rfl (gLe rfl) rfl ?_
              have hL85 : ∀ (zm85 : Nat) (zj : Nat), Ns 4 - zj < zm85 → (zj ≤ Ns 4) → (zj < Ns 4 → (tP (Na 3) (Ns 4) (Ns 13)) < Ns 4) → (rnS (Na 3) (Ns 4) (srt (Na 3 (tP (Na 3) (Ns 4) (Ns 13)))) (Ns 4 - zj) zj = (tE (Na 3) (Ns 4) (Ns 13))) → gJ g mX6_token 1 0 0 (fun k' j' rv ws' => k' ≤ 0 ∧ j' ≤ 0 ∧ (rv = none ∧ ws' = (wM g q Na Ia (va_up (va_up (va_up Ns 13 (tE (Na 3) (Ns 4) (Ns 13))) 14 (tP (Na 3) (Ns 4) (Ns 13))) 15 (tE (Na 3) (Ns 4) (Ns 13))) Is))) 0 0 85 [(0, .ref (q 26))] [] (wM g q Na Ia (va_up (va_up Ns 13 zj) 14 (tP (Na 3) (Ns 4) (Ns 13))) Is) := by
                intro zm85
                induction zm85 with
                | zero => intro zj zmh; exact absurd zmh (Nat.not_lt_zero _)
                | succ zm85 zih85 =>
                  intro zj zmh85 hyz hyp hys
                  refine j_aload_n 86 dX6_token_85 rfl 0 rfl ?_
                  refine j_getf 89 0 dX6_token_86 rfl fd_X6_91 rfl rfl ?_
                  refine j_aload_n 90 dX6_token_89 rfl 0 rfl ?_
                  refine j_getf 93 0 dX6_token_90 rfl fd_X6_85 rfl rfl ?_
                  refine j_icmp_geN zj (Ns 4) 96 151 dX6_token_93 rfl rfl (by have z0 := hyz; have z1 := h4; omega) (by have z0 := h4; omega) (fun h93 => ?_) (fun h93 => ?_)
                  ·
                    have hzf : zj = (tE (Na 3) (Ns 4) (Ns 13)) := by
                      rw [← hys]
                      by_cases yc : zj < Ns 4
                      · rw [show Ns 4 - zj = Ns 4 - zj - 1 + 1 by omega, rnS, if_neg (by first | exact absurd yc (Nat.not_lt.mpr h93) | exact fun y => absurd y.2.1 (by omega) | exact fun y => h135 y.2.2)]
                      · rw [show Ns 4 - zj = 0 by omega, rnS]
                    subst hzf
                    refine j_aload_n 152 dX6_token_151 rfl 0 rfl ?_
                    refine j_aload_n 153 dX6_token_152 rfl 0 rfl ?_
                    refine j_getf 156 0 dX6_token_153 rfl fd_X6_91 rfl rfl ?_
                    refine j_putf 159 0 (wM g q Na Ia (va_up (va_up (va_up Ns 13 (tE (Na 3) (Ns 4) (Ns 13))) 14 (tP (Na 3) (Ns 4) (Ns 13))) 15 (tE (Na 3) (Ns 4) (Ns 13))) Is) dX6_token_156 rfl fd_X6_100 rfl rfl rfl (gLe rfl) rfl ?_
                    refine j_vret dX6_token_159 rfl ⟨gLe rfl, gLe rfl, ?_⟩
                    exact ⟨rfl, rfl⟩
                  ·
                    have yp := hyp (by omega)
                    refine j_aload_n 97 dX6_token_96 rfl 0 rfl ?_
                    refine j_getf 100 0 dX6_token_97 rfl fd_X6_16 rfl rfl ?_
                    refine j_aload_n 101 dX6_token_100 rfl 0 rfl ?_
                    refine j_getf 104 0 dX6_token_101 rfl fd_X6_94 rfl rfl ?_
                    refine j_ialdN (tP (Na 3) (Ns 4) (Ns 13)) 105 3 dX6_token_104 rfl rfl (by omega) (by decide) ?_
                    refine j_callSE (rest := []) 108 (c_X6_sort g ((Na 3) (tP (Na 3) (Ns 4) (Ns 13))) (by have := hT (tP (Na 3) (Ns 4) (Ns 13)); omega)) [.int (nI (srt ((Na 3) (tP (Na 3) (Ns 4) (Ns 13)))))] dX6_token_105 rfl cs_X6_97 rfl rfl (gLe rfl) (gLe rfl) (gLe rfl) (gLe rfl) rfl ?_
                    refine j_if_leN (srt ((Na 3) (tP (Na 3) (Ns 4) (Ns 13)))) 111 151 dX6_token_108 rfl rfl (by have z0 := (srt_le (c := ((Na 3) (tP (Na 3) (Ns 4) (Ns 13))))); omega) (fun h108 => ?_) (fun h108 => ?_)
                    ·
                      have hzf : zj = (tE (Na 3) (Ns 4) (Ns 13)) := by
                        rw [← hys]
                        by_cases yc : zj < Ns 4
                        · rw [show Ns 4 - zj = Ns 4 - zj - 1 + 1 by omega, rnS, if_neg (by first | exact absurd yc (Nat.not_lt.mpr h93) | exact fun y => absurd y.2.1 (by omega) | exact fun y => h135 y.2.2)]
                        · rw [show Ns 4 - zj = 0 by omega, rnS]
                      subst hzf
                      refine j_aload_n 152 dX6_token_151 rfl 0 rfl ?_
                      refine j_aload_n 153 dX6_token_152 rfl 0 rfl ?_
                      refine j_getf 156 0 dX6_token_153 rfl fd_X6_91 rfl rfl ?_
                      refine j_putf 159 0 (wM g q Na Ia (va_up (va_up (va_up Ns 13 (tE (Na 3) (Ns 4) (Ns 13))) 14 (tP (Na 3) (Ns 4) (Ns 13))) 15 (tE (Na 3) (Ns 4) (Ns 13))) Is) dX6_token_156 rfl fd_X6_100 rfl rfl rfl (gLe rfl) rfl ?_
                      refine j_vret dX6_token_159 rfl ⟨gLe rfl, gLe rfl, ?_⟩
                      exact ⟨rfl, rfl⟩
                    ·
                      refine j_aload_n 112 dX6_token_111 rfl 0 rfl ?_
                      refine j_getf 115 0 dX6_token_112 rfl fd_X6_16 rfl rfl ?_
                      refine j_aload_n 116 dX6_token_115 rfl 0 rfl ?_
                      refine j_getf 119 0 dX6_token_116 rfl fd_X6_91 rfl rfl ?_
                      refine j_ialdN zj 120 3 dX6_token_119 rfl rfl (by omega) (by decide) ?_
                      refine j_callSE (rest := []) 123 (c_X6_sort g ((Na 3) zj) (by have := hT zj; omega)) [.int (nI (srt ((Na 3) zj)))] dX6_token_120 rfl cs_X6_97 rfl rfl (gLe rfl) (gLe rfl) (gLe rfl) (gLe rfl) rfl ?_
                      refine j_aload_n 124 dX6_token_123 rfl 0 rfl ?_
                      refine j_getf 127 0 dX6_token_124 rfl fd_X6_16 rfl rfl ?_
                      refine j_aload_n 128 dX6_token_127 rfl 0 rfl ?_
                      refine j_getf 131 0 dX6_token_128 rfl fd_X6_94 rfl rfl ?_
                      refine j_ialdN (tP (Na 3) (Ns 4) (Ns 13)) 132 3 dX6_token_131 rfl rfl (by omega) (by decide) ?_
                      refine j_callSE (rest := [.int (nI (srt ((Na 3) zj)))]) 135 (c_X6_sort g ((Na 3) (tP (Na 3) (Ns 4) (Ns 13))) (by have := hT (tP (Na 3) (Ns 4) (Ns 13)); omega)) [.int (nI (srt ((Na 3) (tP (Na 3) (Ns 4) (Ns 13))))), .int (nI (srt ((Na 3) zj)))] dX6_token_132 rfl cs_X6_97 rfl rfl (gLe rfl) (gLe rfl) (gLe rfl) (gLe rfl) rfl ?_
                      refine j_icmp_neN (srt ((Na 3) zj)) (srt ((Na 3) (tP (Na 3) (Ns 4) (Ns 13)))) 138 151 dX6_token_135 rfl rfl (by have z0 := (srt_le (c := ((Na 3) zj))); omega) (by have z0 := (srt_le (c := ((Na 3) (tP (Na 3) (Ns 4) (Ns 13))))); omega) (fun h135 => ?_) (fun h135 => ?_)
                      ·
                        have hzf : zj = (tE (Na 3) (Ns 4) (Ns 13)) := by
                          rw [← hys]
                          by_cases yc : zj < Ns 4
                          · rw [show Ns 4 - zj = Ns 4 - zj - 1 + 1 by omega, rnS, if_neg (by first | exact absurd yc (Nat.not_lt.mpr h93) | exact fun y => absurd y.2.1 (by omega) | exact fun y => h135 y.2.2)]
                          · rw [show Ns 4 - zj = 0 by omega, rnS]
                        subst hzf
                        refine j_aload_n 152 dX6_token_151 rfl 0 rfl ?_
                        refine j_aload_n 153 dX6_token_152 rfl 0 rfl ?_
                        refine j_getf 156 0 dX6_token_153 rfl fd_X6_91 rfl rfl ?_
                        refine j_putf 159 0 (wM g q Na Ia (va_up (va_up (va_up Ns 13 (tE (Na 3) (Ns 4) (Ns 13))) 14 (tP (Na 3) (Ns 4) (Ns 13))) 15 (tE (Na 3) (Ns 4) (Ns 13))) Is) dX6_token_156 rfl fd_X6_100 rfl rfl rfl (gLe rfl) rfl ?_
                        refine j_vret dX6_token_159 rfl ⟨gLe rfl, gLe rfl, ?_⟩
                        exact ⟨rfl, rfl⟩
                      ·
                        refine j_aload_n 139 dX6_token_138 rfl 0 rfl ?_
                        refine j_dup 140 dX6_token_139 rfl rfl ?_
                        refine j_getf 143 0 dX6_token_140 rfl fd_X6_91 rfl rfl ?_
                        refine j_iconst (v := (1 : Int32)) 144 dX6_token_143 rfl (by decide) ?_
                        refine j_iaddN zj 1 145 dX6_token_144 rfl ?_
                        refine j_putf 148 0 (wM g q Na Ia (va_up (va_up Ns 13 (zj + 1)) 14 (tP (Na 3) (Ns 4) (Ns 13))) Is) dX6_token_145 rfl fd_X6_91 rfl rfl rfl (gLe rfl) rfl ?_
                        refine j_goto 85 dX6_token_148 rfl ?_
                        refine j_lv [0] rfl ?_
                        exact zih85 (zj + 1) (by omega) (by omega) (fun _ => by omega) (by rw [← hys, show Ns 4 - zj = Ns 4 - (zj + 1) + 1 by omega, rnS, if_pos ⟨by omega, by omega, h135⟩])
              refine j_lv [0] rfl ?_
              exact hL85 _ (tP (Na 3) (Ns 4) (Ns 13)) (Nat.lt_succ_self _) (by omega) (fun z => z) (by rw [tE, if_neg (by omega), show Ns 4 - (tP (Na 3) (Ns 4) (Ns 13)) = 0 by omega, rnS])
            ·
              refine j_iconst (v := (1 : Int32)) 77 dX6_token_76 rfl (by decide) ?_
              refine j_goto 81 dX6_token_77 rfl ?_
              refine j_iaddN (tP (Na 3) (Ns 4) (Ns 13)) 1 82 dX6_token_81 rfl ?_
              refine j_putf 85 0 (wM g q Na Ia (va_up (va_up Ns 13 ((tP (Na 3) (Ns 4) (Ns 13)) + 1)) 14 (tP (Na 3) (Ns 4) (Ns 13))) Is) dX6_token_82 rfl fd_X6_91 rfl rfl rfl (gLe rfl) rfl ?_
              have hL85 : ∀ (zm85 : Nat) (zj : Nat), Ns 4 - zj < zm85 → (zj ≤ Ns 4) → (zj < Ns 4 → (tP (Na 3) (Ns 4) (Ns 13)) < Ns 4) → (rnS (Na 3) (Ns 4) (srt (Na 3 (tP (Na 3) (Ns 4) (Ns 13)))) (Ns 4 - zj) zj = (tE (Na 3) (Ns 4) (Ns 13))) → gJ g mX6_token 1 0 0 (fun k' j' rv ws' => k' ≤ 0 ∧ j' ≤ 0 ∧ (rv = none ∧ ws' = (wM g q Na Ia (va_up (va_up (va_up Ns 13 (tE (Na 3) (Ns 4) (Ns 13))) 14 (tP (Na 3) (Ns 4) (Ns 13))) 15 (tE (Na 3) (Ns 4) (Ns 13))) Is))) 0 0 85 [(0, .ref (q 26))] [] (wM g q Na Ia (va_up (va_up Ns 13 zj) 14 (tP (Na 3) (Ns 4) (Ns 13))) Is) := by
                intro zm85
                induction zm85 with
                | zero => intro zj zmh; exact absurd zmh (Nat.not_lt_zero _)
                | succ zm85 zih85 =>
                  intro zj zmh85 hyz hyp hys
                  refine j_aload_n 86 dX6_token_85 rfl 0 rfl ?_
                  refine j_getf 89 0 dX6_token_86 rfl fd_X6_91 rfl rfl ?_
                  refine j_aload_n 90 dX6_token_89 rfl 0 rfl ?_
                  refine j_getf 93 0 dX6_token_90 rfl fd_X6_85 rfl rfl ?_
                  refine j_icmp_geN zj (Ns 4) 96 151 dX6_token_93 rfl rfl (by have z0 := hyz; have z1 := h4; omega) (by have z0 := h4; omega) (fun h93 => ?_) (fun h93 => ?_)
                  ·
                    have hzf : zj = (tE (Na 3) (Ns 4) (Ns 13)) := by
                      rw [← hys]
                      by_cases yc : zj < Ns 4
                      · rw [show Ns 4 - zj = Ns 4 - zj - 1 + 1 by omega, rnS, if_neg (by first | exact absurd yc (Nat.not_lt.mpr h93) | exact fun y => absurd y.2.1 (by omega) | exact fun y => h135 y.2.2)]
                      · rw [show Ns 4 - zj = 0 by omega, rnS]
                    subst hzf
                    refine j_aload_n 152 dX6_token_151 rfl 0 rfl ?_
                    refine j_aload_n 153 dX6_token_152 rfl 0 rfl ?_
                    refine j_getf 156 0 dX6_token_153 rfl fd_X6_91 rfl rfl ?_
                    refine j_putf 159 0 (wM g q Na Ia (va_up (va_up (va_up Ns 13 (tE (Na 3) (Ns 4) (Ns 13))) 14 (tP (Na 3) (Ns 4) (Ns 13))) 15 (tE (Na 3) (Ns 4) (Ns 13))) Is) dX6_token_156 rfl fd_X6_100 rfl rfl rfl (gLe rfl) rfl ?_
                    refine j_vret dX6_token_159 rfl ⟨gLe rfl, gLe rfl, ?_⟩
                    exact ⟨rfl, rfl⟩
                  ·
                    have yp := hyp (by omega)
                    refine j_aload_n 97 dX6_token_96 rfl 0 rfl ?_
                    refine j_getf 100 0 dX6_token_97 rfl fd_X6_16 rfl rfl ?_
                    refine j_aload_n 101 dX6_token_100 rfl 0 rfl ?_
                    refine j_getf 104 0 dX6_token_101 rfl fd_X6_94 rfl rfl ?_
                    refine j_ialdN (tP (Na 3) (Ns 4) (Ns 13)) 105 3 dX6_token_104 rfl rfl (by omega) (by decide) ?_
                    refine j_callSE (rest := []) 108 (c_X6_sort g ((Na 3) (tP (Na 3) (Ns 4) (Ns 13))) (by have := hT (tP (Na 3) (Ns 4) (Ns 13)); omega)) [.int (nI (srt ((Na 3) (tP (Na 3) (Ns 4) (Ns 13)))))] dX6_token_105 rfl cs_X6_97 rfl rfl (gLe rfl) (gLe rfl) (gLe rfl) (gLe rfl) rfl ?_
                    refine j_if_leN (srt ((Na 3) (tP (Na 3) (Ns 4) (Ns 13)))) 111 151 dX6_token_108 rfl rfl (by have z0 := (srt_le (c := ((Na 3) (tP (Na 3) (Ns 4) (Ns 13))))); omega) (fun h108 => ?_) (fun h108 => ?_)
                    ·
                      have hzf : zj = (tE (Na 3) (Ns 4) (Ns 13)) := by
                        rw [← hys]
                        by_cases yc : zj < Ns 4
                        · rw [show Ns 4 - zj = Ns 4 - zj - 1 + 1 by omega, rnS, if_neg (by first | exact absurd yc (Nat.not_lt.mpr h93) | exact fun y => absurd y.2.1 (by omega) | exact fun y => h135 y.2.2)]
                        · rw [show Ns 4 - zj = 0 by omega, rnS]
                      subst hzf
                      refine j_aload_n 152 dX6_token_151 rfl 0 rfl ?_
                      refine j_aload_n 153 dX6_token_152 rfl 0 rfl ?_
                      refine j_getf 156 0 dX6_token_153 rfl fd_X6_91 rfl rfl ?_
                      refine j_putf 159 0 (wM g q Na Ia (va_up (va_up (va_up Ns 13 (tE (Na 3) (Ns 4) (Ns 13))) 14 (tP (Na 3) (Ns 4) (Ns 13))) 15 (tE (Na 3) (Ns 4) (Ns 13))) Is) dX6_token_156 rfl fd_X6_100 rfl rfl rfl (gLe rfl) rfl ?_
                      refine j_vret dX6_token_159 rfl ⟨gLe rfl, gLe rfl, ?_⟩
                      exact ⟨rfl, rfl⟩
                    ·
                      refine j_aload_n 112 dX6_token_111 rfl 0 rfl ?_
                      refine j_getf 115 0 dX6_token_112 rfl fd_X6_16 rfl rfl ?_
                      refine j_aload_n 116 dX6_token_115 rfl 0 rfl ?_
                      refine j_getf 119 0 dX6_token_116 rfl fd_X6_91 rfl rfl ?_
                      refine j_ialdN zj 120 3 dX6_token_119 rfl rfl (by omega) (by decide) ?_
                      refine j_callSE (rest := []) 123 (c_X6_sort g ((Na 3) zj) (by have := hT zj; omega)) [.int (nI (srt ((Na 3) zj)))] dX6_token_120 rfl cs_X6_97 rfl rfl (gLe rfl) (gLe rfl) (gLe rfl) (gLe rfl) rfl ?_
                      refine j_aload_n 124 dX6_token_123 rfl 0 rfl ?_
                      refine j_getf 127 0 dX6_token_124 rfl fd_X6_16 rfl rfl ?_
                      refine j_aload_n 128 dX6_token_127 rfl 0 rfl ?_
                      refine j_getf 131 0 dX6_token_128 rfl fd_X6_94 rfl rfl ?_
                      refine j_ialdN (tP (Na 3) (Ns 4) (Ns 13)) 132 3 dX6_token_131 rfl rfl (by omega) (by decide) ?_
                      refine j_callSE (rest := [.int (nI (srt ((Na 3) zj)))]) 135 (c_X6_sort g ((Na 3) (tP (Na 3) (Ns 4) (Ns 13))) (by have := hT (tP (Na 3) (Ns 4) (Ns 13)); omega)) [.int (nI (srt ((Na 3) (tP (Na 3) (Ns 4) (Ns 13))))), .int (nI (srt ((Na 3) zj)))] dX6_token_132 rfl cs_X6_97 rfl rfl (gLe rfl) (gLe rfl) (gLe rfl) (gLe rfl) rfl ?_
                      refine j_icmp_neN (srt ((Na 3) zj)) (srt ((Na 3) (tP (Na 3) (Ns 4) (Ns 13)))) 138 151 dX6_token_135 rfl rfl (by have z0 := (srt_le (c := ((Na 3) zj))); omega) (by have z0 := (srt_le (c := ((Na 3) (tP (Na 3) (Ns 4) (Ns 13))))); omega) (fun h135 => ?_) (fun h135 => ?_)
                      ·
                        have hzf : zj = (tE (Na 3) (Ns 4) (Ns 13)) := by
                          rw [← hys]
                          by_cases yc : zj < Ns 4
                          · rw [show Ns 4 - zj = Ns 4 - zj - 1 + 1 by omega, rnS, if_neg (by first | exact absurd yc (Nat.not_lt.mpr h93) | exact fun y => absurd y.2.1 (by omega) | exact fun y => h135 y.2.2)]
                          · rw [show Ns 4 - zj = 0 by omega, rnS]
                        subst hzf
                        refine j_aload_n 152 dX6_token_151 rfl 0 rfl ?_
                        refine j_aload_n 153 dX6_token_152 rfl 0 rfl ?_
                        refine j_getf 156 0 dX6_token_153 rfl fd_X6_91 rfl rfl ?_
                        refine j_putf 159 0 (wM g q Na Ia (va_up (va_up (va_up Ns 13 (tE (Na 3) (Ns 4) (Ns 13))) 14 (tP (Na 3) (Ns 4) (Ns 13))) 15 (tE (Na 3) (Ns 4) (Ns 13))) Is) dX6_token_156 rfl fd_X6_100 rfl rfl rfl (gLe rfl) rfl ?_
                        refine j_vret dX6_token_159 rfl ⟨gLe rfl, gLe rfl, ?_⟩
                        exact ⟨rfl, rfl⟩
                      ·
                        refine j_aload_n 139 dX6_token_138 rfl 0 rfl ?_
                        refine j_dup 140 dX6_token_139 rfl rfl ?_
                        refine j_getf 143 0 dX6_token_140 rfl fd_X6_91 rfl rfl ?_
                        refine j_iconst (v := (1 : Int32)) 144 dX6_token_143 rfl (by decide) ?_
                        refine j_iaddN zj 1 145 dX6_token_144 rfl ?_
                        refine j_putf 148 0 (wM g q Na Ia (va_up (va_up Ns 13 (zj + 1)) 14 (tP (Na 3) (Ns 4) (Ns 13))) Is) dX6_token_145 rfl fd_X6_91 rfl rfl rfl (gLe rfl) rfl ?_
                        refine j_goto 85 dX6_token_148 rfl ?_
                        refine j_lv [0] rfl ?_
                        exact zih85 (zj + 1) (by omega) (by omega) (fun _ => by omega) (by rw [← hys, show Ns 4 - zj = Ns 4 - (zj + 1) + 1 by omega, rnS, if_pos ⟨by omega, by omega, h135⟩])
              refine j_lv [0] rfl ?_
              exact hL85 _ ((tP (Na 3) (Ns 4) (Ns 13)) + 1) (Nat.lt_succ_self _) (by omega) (fun _ => by omega) (by rw [tE, if_pos (by omega)])
          ·
            refine j_aload_n 40 dX6_token_39 rfl 0 rfl ?_
            refine j_dup 41 dX6_token_40 rfl rfl ?_
            refine j_getf 44 0 dX6_token_41 rfl fd_X6_91 rfl rfl ?_
            refine j_iconst (v := (1 : Int32)) 45 dX6_token_44 rfl (by decide) ?_
            refine j_iaddN zi 1 46 dX6_token_45 rfl ?_
            refine j_putf 49 0 (wM g q Na Ia (va_up Ns 13 (zi + 1)) Is) dX6_token_46 rfl fd_X6_91 rfl rfl rfl (gLe rfl) rfl ?_
            refine j_goto 0 dX6_token_49 rfl ?_
            refine j_lv [0] rfl ?_
            exact zih0 (zi + 1) (by omega) (by omega) (by rw [← hzs, show Ns 4 - zi = Ns 4 - (zi + 1) + 1 by omega, skB, if_pos ⟨by omega, by first | exact Or.inl h22 | exact Or.inr h36⟩])
  refine j_ws (wM g q Na Ia (va_up Ns 13 (Ns 13)) Is) (by rw [up_same]) ?_
  refine j_lv [0] rfl ?_
  exact hL0 _ (Ns 13) (Nat.lt_succ_self _) h13 rfl
set_option maxRecDepth 20000 in
theorem c_X6_isWord (g : gG) (q : Nat → Nat) (Na : Nat → Nat → Nat) (Ia : Nat → Nat → Int32) (Ns : Nat → Nat) (Is : Nat → Int32) (wd : Nat) (lt : Nat)  (hT : ∀ k, Na 3 k < 256) (h4 : Ns 4 ≤ 400) (hw : wd < 2147483648) (hl : lt ≤ 6) (hpe : Ns 14 ≤ Ns 15 ∧ Ns 15 ≤ Ns 4) : gCon g mX6_isWord 0 0 0 [.ref (q 26), .int (nI wd), .int (nI lt)] (wM g q Na Ia Ns Is) (fun rv ws' => rv = some (.int (gB (isWd (Na 3) (Ns 14) (Ns 15) wd lt))) ∧ ws' = (wM g q Na Ia Ns Is)) := by
  refine gCon.of (lv := [(0, .ref (q 26)), (1, .int (nI wd)), (2, .int (nI lt))]) (by decide) (gLe rfl) rfl ?_
  have hpa := hpe.1
  have hpb := hpe.2
  refine j_aload_n 1 dX6_isWord_0 rfl 0 rfl ?_
  refine j_getf 4 0 dX6_isWord_1 rfl fd_X6_100 rfl rfl ?_
  refine j_aload_n 5 dX6_isWord_4 rfl 0 rfl ?_
  refine j_getf 8 0 dX6_isWord_5 rfl fd_X6_94 rfl rfl ?_
  refine j_isubN (Ns 15) (Ns 14) 9 dX6_isWord_8 rfl hpe.1 ?_
  refine j_iload_n 10 dX6_isWord_9 rfl 2 rfl ?_
  refine j_icmp_neN ((Ns 15) - (Ns 14)) lt 13 17 dX6_isWord_10 rfl rfl (by have z0 := hpa; have z1 := hpb; have z2 := h4; omega) (by omega) (fun h10 => ?_) (fun h10 => ?_)
  ·
    refine j_iconst (v := (0 : Int32)) 18 dX6_isWord_17 rfl (by decide) ?_
    refine j_istore_n 19 [(3, .int (0 : Int32)), (0, .ref (q 26)), (1, .int (nI wd)), (2, .int (nI lt))] dX6_isWord_18 rfl (by decide) rfl ?_
    refine j_iconst (v := (0 : Int32)) 20 dX6_isWord_19 rfl (by decide) ?_
    refine j_istore 22 [(4, .int (0 : Int32)), (3, .int (0 : Int32)), (0, .ref (q 26)), (1, .int (nI wd)), (2, .int (nI lt))] dX6_isWord_20 rfl (by decide) rfl ?_
    have hL22 : ∀ (zm22 : Nat) (zi : Nat) (zb : Nat), lt - zi < zm22 → (zi ≤ lt) → (zb ≤ 1 ∧ (zb ≠ 0 ↔ (Ns 15 - Ns 14 = lt ∧ ∀ i, i < zi → Na 3 (Ns 14 + i) = 96 + wd / 2 ^ (5 * i) % 32))) → gJ g mX6_isWord 0 0 0 (fun k' j' rv ws' => k' ≤ 0 ∧ j' ≤ 0 ∧ (rv = some (.int (gB (isWd (Na 3) (Ns 14) (Ns 15) wd lt))) ∧ ws' = (wM g q Na Ia Ns Is))) 0 0 22 [(4, .int (nI zi)), (3, .int (nI zb)), (0, .ref (q 26)), (1, .int (nI wd)), (2, .int (nI lt))] [] (wM g q Na Ia Ns Is) := by
      intro zm22
      induction zm22 with
      | zero => intro zi zb zmh; exact absurd zmh (Nat.not_lt_zero _)
      | succ zm22 zih22 =>
        intro zi zb zmh22 hz hzb
        refine j_iload_n 23 dX6_isWord_22 rfl 1 rfl ?_
        refine j_if_eqN zb 26 71 dX6_isWord_23 rfl rfl (by have z0 := hzb.1; omega) (fun h23 => ?_) (fun h23 => ?_)
        ·
          refine j_iload_n 72 dX6_isWord_71 rfl 1 rfl ?_
          have hzv : nI zb = gB (isWd (Na 3) (Ns 14) (Ns 15) wd lt) := by
            by_cases y : zb = 0
            · rw [gB_f, y]
              · rfl
              · intro y2
                exact absurd y (hzb.2.mpr ⟨y2.1, fun i hi => y2.2 i (by omega)⟩)
            · have y2 := hzb.2.mp y
              have ye : zi = lt := by omega
              rw [ye] at y2
              rw [gB_t y2, show zb = 1 by omega]; rfl
          refine j_topI _ _ hzv ?_
          exact j_iretB dX6_isWord_72 rfl ⟨gLe rfl, gLe rfl, rfl, rfl⟩
        ·
          refine j_iload 28 dX6_isWord_26 rfl 0 rfl ?_
          refine j_iload_n 29 dX6_isWord_28 rfl 4 rfl ?_
          refine j_icmp_geN zi lt 32 71 dX6_isWord_29 rfl rfl (by omega) (by omega) (fun h29 => ?_) (fun h29 => ?_)
          ·
            refine j_iload_n 72 dX6_isWord_71 rfl 1 rfl ?_
            have hzv : nI zb = gB (isWd (Na 3) (Ns 14) (Ns 15) wd lt) := by
              by_cases y : zb = 0
              · rw [gB_f, y]
                · rfl
                · intro y2
                  exact absurd y (hzb.2.mpr ⟨y2.1, fun i hi => y2.2 i (by omega)⟩)
              · have y2 := hzb.2.mp y
                have ye : zi = lt := by omega
                rw [ye] at y2
                rw [gB_t y2, show zb = 1 by omega]; rfl
            refine j_topI _ _ hzv ?_
            exact j_iretB dX6_isWord_72 rfl ⟨gLe rfl, gLe rfl, rfl, rfl⟩
          ·
            have hyb := hzb.2.mp h23
            refine j_aload_n 33 dX6_isWord_32 rfl 2 rfl ?_
            refine j_getf 36 0 dX6_isWord_33 rfl fd_X6_16 rfl rfl ?_
            refine j_aload_n 37 dX6_isWord_36 rfl 2 rfl ?_
            refine j_getf 40 0 dX6_isWord_37 rfl fd_X6_94 rfl rfl ?_
            refine j_iload 42 dX6_isWord_40 rfl 0 rfl ?_
            refine j_iaddN (Ns 14) zi 43 dX6_isWord_42 rfl ?_
            refine j_ialdN ((Ns 14) + zi) 44 3 dX6_isWord_43 rfl rfl (by omega) (by decide) ?_
            refine j_bipush (v := (96 : Int32)) 46 dX6_isWord_44 rfl (by decide) ?_
            refine j_iload_n 47 dX6_isWord_46 rfl 3 rfl ?_
            refine j_iconst (v := (5 : Int32)) 48 dX6_isWord_47 rfl (by decide) ?_
            refine j_iload 50 dX6_isWord_48 rfl 0 rfl ?_
            refine j_imulN 5 zi 51 dX6_isWord_50 rfl ?_
            refine j_ishrN wd (5 * zi) 52 dX6_isWord_51 rfl (by omega) hw ?_
            refine j_bipush (v := (31 : Int32)) 54 dX6_isWord_52 rfl (by decide) ?_
            refine j_iandN (wd / 2 ^ (5 * zi)) 31 55 dX6_isWord_54 rfl ?_
            refine j_topN ((wd / 2 ^ (5 * zi)) &&& 31) (wd / 2 ^ (5 * zi) % 32) (Nat.and_two_pow_sub_one_eq_mod _ 5) ?_
            refine j_iaddN 96 (wd / 2 ^ (5 * zi) % 32) 56 dX6_isWord_55 rfl ?_
            have hy3 := hT (Ns 14 + zi)
            have hy4 := Nat.mod_lt (wd / 2 ^ (5 * zi)) (show 0 < 32 by decide)
            refine j_icmp_neN ((Na 3) ((Ns 14) + zi)) (96 + (wd / 2 ^ (5 * zi) % 32)) 59 63 dX6_isWord_56 rfl rfl (by have z0 := hy3; omega) (by have z0 := hy4; omega) (fun h56 => ?_) (fun h56 => ?_)
            ·
              refine j_iconst (v := (0 : Int32)) 64 dX6_isWord_63 rfl (by decide) ?_
              refine j_istore_n 65 [(3, .int (0 : Int32)), (4, .int (nI zi)), (0, .ref (q 26)), (1, .int (nI wd)), (2, .int (nI lt))] dX6_isWord_64 rfl (by decide) rfl ?_
              refine j_iincN zi 1 68 [(4, .int (nI (zi + 1))), (3, .int (0 : Int32)), (0, .ref (q 26)), (1, .int (nI wd)), (2, .int (nI lt))] dX6_isWord_65 rfl 1 rfl (by decide) rfl ?_
              refine j_goto 22 dX6_isWord_68 rfl ?_
              refine j_lv [0, 1, 2, 3, 4] rfl ?_
              exact zih22 (zi + 1) 0 (by omega) (by omega) ⟨by decide, ⟨fun y => absurd rfl y, fun y => absurd (y.2 zi (by omega)) h56⟩⟩
            ·
              refine j_iconst (v := (1 : Int32)) 60 dX6_isWord_59 rfl (by decide) ?_
              refine j_goto 64 dX6_isWord_60 rfl ?_
              refine j_istore_n 65 [(3, .int (1 : Int32)), (4, .int (nI zi)), (0, .ref (q 26)), (1, .int (nI wd)), (2, .int (nI lt))] dX6_isWord_64 rfl (by decide) rfl ?_
              refine j_iincN zi 1 68 [(4, .int (nI (zi + 1))), (3, .int (1 : Int32)), (0, .ref (q 26)), (1, .int (nI wd)), (2, .int (nI lt))] dX6_isWord_65 rfl 1 rfl (by decide) rfl ?_
              refine j_goto 22 dX6_isWord_68 rfl ?_
              refine j_lv [0, 1, 2, 3, 4] rfl ?_
              exact zih22 (zi + 1) 1 (by omega) (by omega) ⟨by decide, ⟨fun _ => ⟨hyb.1, fun i hi => by rcases (show i < zi ∨ i = zi by omega) with y | y; exact hyb.2 i y; rw [y]; exact h56⟩, fun _ => by decide⟩⟩
    refine j_lv [0, 1, 2, 3, 4] rfl ?_
    exact hL22 _ 0 0 (Nat.lt_succ_self _) (Nat.zero_le _) ⟨by decide, ⟨fun y => absurd rfl y, fun y => absurd y.1 h10⟩⟩
  ·
    refine j_iconst (v := (1 : Int32)) 14 dX6_isWord_13 rfl (by decide) ?_
    refine j_goto 18 dX6_isWord_14 rfl ?_
    refine j_istore_n 19 [(3, .int (1 : Int32)), (0, .ref (q 26)), (1, .int (nI wd)), (2, .int (nI lt))] dX6_isWord_18 rfl (by decide) rfl ?_
    refine j_iconst (v := (0 : Int32)) 20 dX6_isWord_19 rfl (by decide) ?_
    refine j_istore 22 [(4, .int (0 : Int32)), (3, .int (1 : Int32)), (0, .ref (q 26)), (1, .int (nI wd)), (2, .int (nI lt))] dX6_isWord_20 rfl (by decide) rfl ?_
    have hL22 : ∀ (zm22 : Nat) (zi : Nat) (zb : Nat), lt - zi < zm22 → (zi ≤ lt) → (zb ≤ 1 ∧ (zb ≠ 0 ↔ (Ns 15 - Ns 14 = lt ∧ ∀ i, i < zi → Na 3 (Ns 14 + i) = 96 + wd / 2 ^ (5 * i) % 32))) → gJ g mX6_isWord 0 0 0 (fun k' j' rv ws' => k' ≤ 0 ∧ j' ≤ 0 ∧ (rv = some (.int (gB (isWd (Na 3) (Ns 14) (Ns 15) wd lt))) ∧ ws' = (wM g q Na Ia Ns Is))) 0 0 22 [(4, .int (nI zi)), (3, .int (nI zb)), (0, .ref (q 26)), (1, .int (nI wd)), (2, .int (nI lt))] [] (wM g q Na Ia Ns Is) := by
      intro zm22
      induction zm22 with
      | zero => intro zi zb zmh; exact absurd zmh (Nat.not_lt_zero _)
      | succ zm22 zih22 =>
        intro zi zb zmh22 hz hzb
        refine j_iload_n 23 dX6_isWord_22 rfl 1 rfl ?_
        refine j_if_eqN zb 26 71 dX6_isWord_23 rfl rfl (by have z0 := hzb.1; omega) (fun h23 => ?_) (fun h23 => ?_)
        ·
          refine j_iload_n 72 dX6_isWord_71 rfl 1 rfl ?_
          have hzv : nI zb = gB (isWd (Na 3) (Ns 14) (Ns 15) wd lt) := by
            by_cases y : zb = 0
            · rw [gB_f, y]
              · rfl
              · intro y2
                exact absurd y (hzb.2.mpr ⟨y2.1, fun i hi => y2.2 i (by omega)⟩)
            · have y2 := hzb.2.mp y
              have ye : zi = lt := by omega
              rw [ye] at y2
              rw [gB_t y2, show zb = 1 by omega]; rfl
          refine j_topI _ _ hzv ?_
          exact j_iretB dX6_isWord_72 rfl ⟨gLe rfl, gLe rfl, rfl, rfl⟩
        ·
          refine j_iload 28 dX6_isWord_26 rfl 0 rfl ?_
          refine j_iload_n 29 dX6_isWord_28 rfl 4 rfl ?_
          refine j_icmp_geN zi lt 32 71 dX6_isWord_29 rfl rfl (by omega) (by omega) (fun h29 => ?_) (fun h29 => ?_)
          ·
            refine j_iload_n 72 dX6_isWord_71 rfl 1 rfl ?_
            have hzv : nI zb = gB (isWd (Na 3) (Ns 14) (Ns 15) wd lt) := by
              by_cases y : zb = 0
              · rw [gB_f, y]
                · rfl
                · intro y2
                  exact absurd y (hzb.2.mpr ⟨y2.1, fun i hi => y2.2 i (by omega)⟩)
              · have y2 := hzb.2.mp y
                have ye : zi = lt := by omega
                rw [ye] at y2
                rw [gB_t y2, show zb = 1 by omega]; rfl
            refine j_topI _ _ hzv ?_
            exact j_iretB dX6_isWord_72 rfl ⟨gLe rfl, gLe rfl, rfl, rfl⟩
          ·
            have hyb := hzb.2.mp h23
            refine j_aload_n 33 dX6_isWord_32 rfl 2 rfl ?_
            refine j_getf 36 0 dX6_isWord_33 rfl fd_X6_16 rfl rfl ?_
            refine j_aload_n 37 dX6_isWord_36 rfl 2 rfl ?_
            refine j_getf 40 0 dX6_isWord_37 rfl fd_X6_94 rfl rfl ?_
            refine j_iload 42 dX6_isWord_40 rfl 0 rfl ?_
            refine j_iaddN (Ns 14) zi 43 dX6_isWord_42 rfl ?_
            refine j_ialdN ((Ns 14) + zi) 44 3 dX6_isWord_43 rfl rfl (by omega) (by decide) ?_
            refine j_bipush (v := (96 : Int32)) 46 dX6_isWord_44 rfl (by decide) ?_
            refine j_iload_n 47 dX6_isWord_46 rfl 3 rfl ?_
            refine j_iconst (v := (5 : Int32)) 48 dX6_isWord_47 rfl (by decide) ?_
            refine j_iload 50 dX6_isWord_48 rfl 0 rfl ?_
            refine j_imulN 5 zi 51 dX6_isWord_50 rfl ?_
            refine j_ishrN wd (5 * zi) 52 dX6_isWord_51 rfl (by omega) hw ?_
            refine j_bipush (v := (31 : Int32)) 54 dX6_isWord_52 rfl (by decide) ?_
            refine j_iandN (wd / 2 ^ (5 * zi)) 31 55 dX6_isWord_54 rfl ?_
            refine j_topN ((wd / 2 ^ (5 * zi)) &&& 31) (wd / 2 ^ (5 * zi) % 32) (Nat.and_two_pow_sub_one_eq_mod _ 5) ?_
            refine j_iaddN 96 (wd / 2 ^ (5 * zi) % 32) 56 dX6_isWord_55 rfl ?_
            have hy3 := hT (Ns 14 + zi)
            have hy4 := Nat.mod_lt (wd / 2 ^ (5 * zi)) (show 0 < 32 by decide)
            refine j_icmp_neN ((Na 3) ((Ns 14) + zi)) (96 + (wd / 2 ^ (5 * zi) % 32)) 59 63 dX6_isWord_56 rfl rfl (by have z0 := hy3; omega) (by have z0 := hy4; omega) (fun h56 => ?_) (fun h56 => ?_)
            ·
              refine j_iconst (v := (0 : Int32)) 64 dX6_isWord_63 rfl (by decide) ?_
              refine j_istore_n 65 [(3, .int (0 : Int32)), (4, .int (nI zi)), (0, .ref (q 26)), (1, .int (nI wd)), (2, .int (nI lt))] dX6_isWord_64 rfl (by decide) rfl ?_
              refine j_iincN zi 1 68 [(4, .int (nI (zi + 1))), (3, .int (0 : Int32)), (0, .ref (q 26)), (1, .int (nI wd)), (2, .int (nI lt))] dX6_isWord_65 rfl 1 rfl (by decide) rfl ?_
              refine j_goto 22 dX6_isWord_68 rfl ?_
              refine j_lv [0, 1, 2, 3, 4] rfl ?_
              exact zih22 (zi + 1) 0 (by omega) (by omega) ⟨by decide, ⟨fun y => absurd rfl y, fun y => absurd (y.2 zi (by omega)) h56⟩⟩
            ·
              refine j_iconst (v := (1 : Int32)) 60 dX6_isWord_59 rfl (by decide) ?_
              refine j_goto 64 dX6_isWord_60 rfl ?_
              refine j_istore_n 65 [(3, .int (1 : Int32)), (4, .int (nI zi)), (0, .ref (q 26)), (1, .int (nI wd)), (2, .int (nI lt))] dX6_isWord_64 rfl (by decide) rfl ?_
              refine j_iincN zi 1 68 [(4, .int (nI (zi + 1))), (3, .int (1 : Int32)), (0, .ref (q 26)), (1, .int (nI wd)), (2, .int (nI lt))] dX6_isWord_65 rfl 1 rfl (by decide) rfl ?_
              refine j_goto 22 dX6_isWord_68 rfl ?_
              refine j_lv [0, 1, 2, 3, 4] rfl ?_
              exact zih22 (zi + 1) 1 (by omega) (by omega) ⟨by decide, ⟨fun _ => ⟨hyb.1, fun i hi => by rcases (show i < zi ∨ i = zi by omega) with y | y; exact hyb.2 i y; rw [y]; exact h56⟩, fun _ => by decide⟩⟩
    refine j_lv [0, 1, 2, 3, 4] rfl ?_
    exact hL22 _ 0 1 (Nat.lt_succ_self _) (Nat.zero_le _) ⟨by decide, ⟨fun _ => ⟨h10, fun i hi => absurd hi (Nat.not_lt_zero i)⟩, fun _ => by decide⟩⟩
set_option maxRecDepth 20000 in
theorem c_X6_hurdleWord (g : gG) (q : Nat → Nat) (Na : Nat → Nat → Nat) (Ia : Nat → Nat → Int32) (Ns : Nat → Nat) (Is : Nat → Int32)   (hT : ∀ k, Na 3 k < 256) (h4 : Ns 4 ≤ 400) (hpe : Ns 14 ≤ Ns 15 ∧ Ns 15 ≤ Ns 4) : gCon g mX6_hurdleWord 1 0 0 [.ref (q 26)] (wM g q Na Ia Ns Is) (fun rv ws' => rv = some (.int (sN (hwS (Na 3) (Ns 14) (Ns 15)) 3)) ∧ ws' = (wM g q Na Ia Ns Is)) := by
  refine gCon.of (lv := [(0, .ref (q 26))]) (by decide) (gLe rfl) rfl ?_
  refine j_aload_n 1 dX6_hurdleWord_0 rfl 0 rfl ?_
  refine j_ldc (v := (7808755 : Int32)) 3 dX6_hurdleWord_1 rfl wd_4_218 ?_
  refine j_iconst (v := (5 : Int32)) 4 dX6_hurdleWord_3 rfl (by decide) ?_
  refine j_callVW (rest := []) 7 (c_X6_isWord g q Na Ia Ns Is 7808755 5  hT h4 (by decide) (by decide) hpe) [.int (gB (isWd (Na 3) (Ns 14) (Ns 15) 7808755 5))] dX6_hurdleWord_4 rfl cv_X6_104 rfl rfl 0 rfl rfl (gLe rfl) (gLe rfl) (gLe rfl) (gLe rfl) (wM_len _ _ _ _ _ _ _ _ _ _) rfl ?_
  refine j_if_eqB 10 14 dX6_hurdleWord_7 rfl rfl (fun h7 => ?_) (fun h7 => ?_)
  ·
    refine j_aload_n 15 dX6_hurdleWord_14 rfl 0 rfl ?_
    refine j_ldc (v := (6497939 : Int32)) 17 dX6_hurdleWord_15 rfl wd_4_219 ?_
    refine j_iconst (v := (5 : Int32)) 18 dX6_hurdleWord_17 rfl (by decide) ?_
    refine j_callVW (rest := []) 21 (c_X6_isWord g q Na Ia Ns Is 6497939 5  hT h4 (by decide) (by decide) hpe) [.int (gB (isWd (Na 3) (Ns 14) (Ns 15) 6497939 5))] dX6_hurdleWord_18 rfl cv_X6_104 rfl rfl 0 rfl rfl (gLe rfl) (gLe rfl) (gLe rfl) (gLe rfl) (wM_len _ _ _ _ _ _ _ _ _ _) rfl ?_
    refine j_if_eqB 24 28 dX6_hurdleWord_21 rfl rfl (fun h21 => ?_) (fun h21 => ?_)
    ·
      refine j_aload_n 29 dX6_hurdleWord_28 rfl 0 rfl ?_
      refine j_ldc (v := (675312 : Int32)) 31 dX6_hurdleWord_29 rfl wd_4_220 ?_
      refine j_iconst (v := (4 : Int32)) 32 dX6_hurdleWord_31 rfl (by decide) ?_
      refine j_callVW (rest := []) 35 (c_X6_isWord g q Na Ia Ns Is 675312 4  hT h4 (by decide) (by decide) hpe) [.int (gB (isWd (Na 3) (Ns 14) (Ns 15) 675312 4))] dX6_hurdleWord_32 rfl cv_X6_104 rfl rfl 0 rfl rfl (gLe rfl) (gLe rfl) (gLe rfl) (gLe rfl) (wM_len _ _ _ _ _ _ _ _ _ _) rfl ?_
      refine j_if_eqB 38 42 dX6_hurdleWord_35 rfl rfl (fun h35 => ?_) (fun h35 => ?_)
      ·
        refine j_ldc (v := (-1000000 : Int32)) 44 dX6_hurdleWord_42 rfl wd_4_47 ?_
        refine j_iretI dX6_hurdleWord_44 rfl ⟨gLe rfl, gLe rfl, ?_⟩
        refine ⟨congrArg (fun z => some (Value.int z)) ?_, rfl⟩
        unfold hwS
        first
          | (rw [if_pos h7]; rfl)
          | (rw [if_neg h7, if_pos h21]; rfl)
          | (rw [if_neg h7, if_neg h21, if_pos h35]; rfl)
          | (rw [if_neg h7, if_neg h21, if_neg h35]; rfl)
      ·
        refine j_iconst (v := (2 : Int32)) 39 dX6_hurdleWord_38 rfl (by decide) ?_
        refine j_goto 44 dX6_hurdleWord_39 rfl ?_
        refine j_iretI dX6_hurdleWord_44 rfl ⟨gLe rfl, gLe rfl, ?_⟩
        refine ⟨congrArg (fun z => some (Value.int z)) ?_, rfl⟩
        unfold hwS
        first
          | (rw [if_pos h7]; rfl)
          | (rw [if_neg h7, if_pos h21]; rfl)
          | (rw [if_neg h7, if_neg h21, if_pos h35]; rfl)
          | (rw [if_neg h7, if_neg h21, if_neg h35]; rfl)
    ·
      refine j_iconst (v := (1 : Int32)) 25 dX6_hurdleWord_24 rfl (by decide) ?_
      refine j_goto 44 dX6_hurdleWord_25 rfl ?_
      refine j_iretI dX6_hurdleWord_44 rfl ⟨gLe rfl, gLe rfl, ?_⟩
      refine ⟨congrArg (fun z => some (Value.int z)) ?_, rfl⟩
      unfold hwS
      first
        | (rw [if_pos h7]; rfl)
        | (rw [if_neg h7, if_pos h21]; rfl)
        | (rw [if_neg h7, if_neg h21, if_pos h35]; rfl)
        | (rw [if_neg h7, if_neg h21, if_neg h35]; rfl)
  ·
    refine j_iconst (v := (0 : Int32)) 11 dX6_hurdleWord_10 rfl (by decide) ?_
    refine j_goto 44 dX6_hurdleWord_11 rfl ?_
    refine j_iretI dX6_hurdleWord_44 rfl ⟨gLe rfl, gLe rfl, ?_⟩
    refine ⟨congrArg (fun z => some (Value.int z)) ?_, rfl⟩
    unfold hwS
    first
      | (rw [if_pos h7]; rfl)
      | (rw [if_neg h7, if_pos h21]; rfl)
      | (rw [if_neg h7, if_neg h21, if_pos h35]; rfl)
      | (rw [if_neg h7, if_neg h21, if_neg h35]; rfl)
set_option maxRecDepth 20000 in
theorem c_X6_beastWord (g : gG) (q : Nat → Nat) (Na : Nat → Nat → Nat) (Ia : Nat → Nat → Int32) (Ns : Nat → Nat) (Is : Nat → Int32)   (hT : ∀ k, Na 3 k < 256) (h4 : Ns 4 ≤ 400) (hpe : Ns 14 ≤ Ns 15 ∧ Ns 15 ≤ Ns 4) : gCon g mX6_beastWord 1 0 0 [.ref (q 26)] (wM g q Na Ia Ns Is) (fun rv ws' => rv = some (.int (sN (bwS (Na 3) (Ns 14) (Ns 15)) 0)) ∧ ws' = (wM g q Na Ia Ns Is)) := by
  refine gCon.of (lv := [(0, .ref (q 26))]) (by decide) (gLe rfl) rfl ?_
  refine j_aload_n 1 dX6_beastWord_0 rfl 0 rfl ?_
  refine j_sipush (v := (5861 : Int32)) 4 dX6_beastWord_1 rfl (by decide) ?_
  refine j_iconst (v := (3 : Int32)) 5 dX6_beastWord_4 rfl (by decide) ?_
  refine j_callVW (rest := []) 8 (c_X6_isWord g q Na Ia Ns Is 5861 3  hT h4 (by decide) (by decide) hpe) [.int (gB (isWd (Na 3) (Ns 14) (Ns 15) 5861 3))] dX6_beastWord_5 rfl cv_X6_104 rfl rfl 0 rfl rfl (gLe rfl) (gLe rfl) (gLe rfl) (gLe rfl) (wM_len _ _ _ _ _ _ _ _ _ _) rfl ?_
  refine j_if_eqB 11 15 dX6_beastWord_8 rfl rfl (fun h8 => ?_) (fun h8 => ?_)
  ·
    refine j_aload_n 16 dX6_beastWord_15 rfl 0 rfl ?_
    refine j_sipush (v := (13362 : Int32)) 19 dX6_beastWord_16 rfl (by decide) ?_
    refine j_iconst (v := (3 : Int32)) 20 dX6_beastWord_19 rfl (by decide) ?_
    refine j_callVW (rest := []) 23 (c_X6_isWord g q Na Ia Ns Is 13362 3  hT h4 (by decide) (by decide) hpe) [.int (gB (isWd (Na 3) (Ns 14) (Ns 15) 13362 3))] dX6_beastWord_20 rfl cv_X6_104 rfl rfl 0 rfl rfl (gLe rfl) (gLe rfl) (gLe rfl) (gLe rfl) (wM_len _ _ _ _ _ _ _ _ _ _) rfl ?_
    refine j_if_eqB 26 30 dX6_beastWord_23 rfl rfl (fun h23 => ?_) (fun h23 => ?_)
    ·
      refine j_aload_n 31 dX6_beastWord_30 rfl 0 rfl ?_
      refine j_ldc (v := (78892 : Int32)) 33 dX6_beastWord_31 rfl wd_4_235 ?_
      refine j_iconst (v := (4 : Int32)) 34 dX6_beastWord_33 rfl (by decide) ?_
      refine j_callVW (rest := []) 37 (c_X6_isWord g q Na Ia Ns Is 78892 4  hT h4 (by decide) (by decide) hpe) [.int (gB (isWd (Na 3) (Ns 14) (Ns 15) 78892 4))] dX6_beastWord_34 rfl cv_X6_104 rfl rfl 0 rfl rfl (gLe rfl) (gLe rfl) (gLe rfl) (gLe rfl) (wM_len _ _ _ _ _ _ _ _ _ _) rfl ?_
      refine j_if_eqB 40 44 dX6_beastWord_37 rfl rfl (fun h37 => ?_) (fun h37 => ?_)
      ·
        refine j_aload_n 45 dX6_beastWord_44 rfl 0 rfl ?_
        refine j_ldc (v := (4662658 : Int32)) 47 dX6_beastWord_45 rfl wd_4_236 ?_
        refine j_iconst (v := (5 : Int32)) 48 dX6_beastWord_47 rfl (by decide) ?_
        refine j_callVW (rest := []) 51 (c_X6_isWord g q Na Ia Ns Is 4662658 5  hT h4 (by decide) (by decide) hpe) [.int (gB (isWd (Na 3) (Ns 14) (Ns 15) 4662658 5))] dX6_beastWord_48 rfl cv_X6_104 rfl rfl 0 rfl rfl (gLe rfl) (gLe rfl) (gLe rfl) (gLe rfl) (wM_len _ _ _ _ _ _ _ _ _ _) rfl ?_
        refine j_if_eqB 54 58 dX6_beastWord_51 rfl rfl (fun h51 => ?_) (fun h51 => ?_)
        ·
          refine j_aload_n 59 dX6_beastWord_58 rfl 0 rfl ?_
          refine j_ldc (v := (139839533 : Int32)) 61 dX6_beastWord_59 rfl wd_4_237 ?_
          refine j_bipush (v := (6 : Int32)) 63 dX6_beastWord_61 rfl (by decide) ?_
          refine j_callVW (rest := []) 66 (c_X6_isWord g q Na Ia Ns Is 139839533 6  hT h4 (by decide) (by decide) hpe) [.int (gB (isWd (Na 3) (Ns 14) (Ns 15) 139839533 6))] dX6_beastWord_63 rfl cv_X6_104 rfl rfl 0 rfl rfl (gLe rfl) (gLe rfl) (gLe rfl) (gLe rfl) (wM_len _ _ _ _ _ _ _ _ _ _) rfl ?_
          refine j_if_eqB 69 73 dX6_beastWord_66 rfl rfl (fun h66 => ?_) (fun h66 => ?_)
          ·
            refine j_ldc (v := (-1000000 : Int32)) 75 dX6_beastWord_73 rfl wd_4_47 ?_
            refine j_iretI dX6_beastWord_75 rfl ⟨gLe rfl, gLe rfl, ?_⟩
            refine ⟨congrArg (fun z => some (Value.int z)) ?_, rfl⟩
            unfold bwS
            first
              | (rw [if_pos h8]; rfl)
              | (rw [if_neg h8, if_pos h23]; rfl)
              | (rw [if_neg h8, if_neg h23, if_pos h37]; rfl)
              | (rw [if_neg h8, if_neg h23, if_neg h37, if_pos h51]; rfl)
              | (rw [if_neg h8, if_neg h23, if_neg h37, if_neg h51, if_pos h66]; rfl)
              | (rw [if_neg h8, if_neg h23, if_neg h37, if_neg h51, if_neg h66]; rfl)
          ·
            refine j_iconst (v := (5 : Int32)) 70 dX6_beastWord_69 rfl (by decide) ?_
            refine j_goto 75 dX6_beastWord_70 rfl ?_
            refine j_iretI dX6_beastWord_75 rfl ⟨gLe rfl, gLe rfl, ?_⟩
            refine ⟨congrArg (fun z => some (Value.int z)) ?_, rfl⟩
            unfold bwS
            first
              | (rw [if_pos h8]; rfl)
              | (rw [if_neg h8, if_pos h23]; rfl)
              | (rw [if_neg h8, if_neg h23, if_pos h37]; rfl)
              | (rw [if_neg h8, if_neg h23, if_neg h37, if_pos h51]; rfl)
              | (rw [if_neg h8, if_neg h23, if_neg h37, if_neg h51, if_pos h66]; rfl)
              | (rw [if_neg h8, if_neg h23, if_neg h37, if_neg h51, if_neg h66]; rfl)
        ·
          refine j_iconst (v := (4 : Int32)) 55 dX6_beastWord_54 rfl (by decide) ?_
          refine j_goto 75 dX6_beastWord_55 rfl ?_
          refine j_iretI dX6_beastWord_75 rfl ⟨gLe rfl, gLe rfl, ?_⟩
          refine ⟨congrArg (fun z => some (Value.int z)) ?_, rfl⟩
          unfold bwS
          first
            | (rw [if_pos h8]; rfl)
            | (rw [if_neg h8, if_pos h23]; rfl)
            | (rw [if_neg h8, if_neg h23, if_pos h37]; rfl)
            | (rw [if_neg h8, if_neg h23, if_neg h37, if_pos h51]; rfl)
            | (rw [if_neg h8, if_neg h23, if_neg h37, if_neg h51, if_pos h66]; rfl)
            | (rw [if_neg h8, if_neg h23, if_neg h37, if_neg h51, if_neg h66]; rfl)
      ·
        refine j_iconst (v := (3 : Int32)) 41 dX6_beastWord_40 rfl (by decide) ?_
        refine j_goto 75 dX6_beastWord_41 rfl ?_
        refine j_iretI dX6_beastWord_75 rfl ⟨gLe rfl, gLe rfl, ?_⟩
        refine ⟨congrArg (fun z => some (Value.int z)) ?_, rfl⟩
        unfold bwS
        first
          | (rw [if_pos h8]; rfl)
          | (rw [if_neg h8, if_pos h23]; rfl)
          | (rw [if_neg h8, if_neg h23, if_pos h37]; rfl)
          | (rw [if_neg h8, if_neg h23, if_neg h37, if_pos h51]; rfl)
          | (rw [if_neg h8, if_neg h23, if_neg h37, if_neg h51, if_pos h66]; rfl)
          | (rw [if_neg h8, if_neg h23, if_neg h37, if_neg h51, if_neg h66]; rfl)
    ·
      refine j_iconst (v := (2 : Int32)) 27 dX6_beastWord_26 rfl (by decide) ?_
      refine j_goto 75 dX6_beastWord_27 rfl ?_
      refine j_iretI dX6_beastWord_75 rfl ⟨gLe rfl, gLe rfl, ?_⟩
      refine ⟨congrArg (fun z => some (Value.int z)) ?_, rfl⟩
      unfold bwS
      first
        | (rw [if_pos h8]; rfl)
        | (rw [if_neg h8, if_pos h23]; rfl)
        | (rw [if_neg h8, if_neg h23, if_pos h37]; rfl)
        | (rw [if_neg h8, if_neg h23, if_neg h37, if_pos h51]; rfl)
        | (rw [if_neg h8, if_neg h23, if_neg h37, if_neg h51, if_pos h66]; rfl)
        | (rw [if_neg h8, if_neg h23, if_neg h37, if_neg h51, if_neg h66]; rfl)
  ·
    refine j_iconst (v := (1 : Int32)) 12 dX6_beastWord_11 rfl (by decide) ?_
    refine j_goto 75 dX6_beastWord_12 rfl ?_
    refine j_iretI dX6_beastWord_75 rfl ⟨gLe rfl, gLe rfl, ?_⟩
    refine ⟨congrArg (fun z => some (Value.int z)) ?_, rfl⟩
    unfold bwS
    first
      | (rw [if_pos h8]; rfl)
      | (rw [if_neg h8, if_pos h23]; rfl)
      | (rw [if_neg h8, if_neg h23, if_pos h37]; rfl)
      | (rw [if_neg h8, if_neg h23, if_neg h37, if_pos h51]; rfl)
      | (rw [if_neg h8, if_neg h23, if_neg h37, if_neg h51, if_pos h66]; rfl)
      | (rw [if_neg h8, if_neg h23, if_neg h37, if_neg h51, if_neg h66]; rfl)
