theorem kV_n {k v : Nat} (hv : v < 100000) : kV k v = -1000000 ↔ k ≠ 0 := by
  unfold kV
  split
  · rename_i h
    exact ⟨fun q => absurd q (nI_nN (by omega)), fun q => absurd h q⟩
  · rename_i h
    exact ⟨fun _ => h, fun _ => rfl⟩
theorem nuK_v {T : Nat → Nat} {n p e lo hi : Nat} (h : nuK T n p e lo hi = 0) : (p < n ∧ srt (T p) = 2 ∧ e - p ≤ 3) ∧ lo ≤ nuV T p e ∧ nuV T p e ≤ hi := by
  unfold nuK at h
  split at h
  · exact absurd h (by decide)
  · rename_i c
    split at h
    · rename_i c2; exact ⟨Classical.not_not.mp c, c2⟩
    · exact absurd h (by decide)
theorem nuK_le {T : Nat → Nat} {n p e lo hi : Nat} : nuK T n p e lo hi ≤ 2 := by
  unfold nuK
  repeat' split
  all_goals decide
theorem i32_rng {a b c : Nat} (ha : a < 100000) (hb : b < 100000) (hc : c < 100000) : ((nI a ≤ nI b) ∧ (nI b ≤ nI c)) ↔ (a ≤ b ∧ b ≤ c) := by
  rw [Int32.le_iff_toInt_le, Int32.le_iff_toInt_le, nI_toInt (by omega), nI_toInt (by omega), nI_toInt (by omega)]
  omega
theorem kV_0 {k v : Nat} (h : k = 0) : kV k v = nI v := if_pos h
theorem stsA_0 {a k : Nat} (h : k = 0) : stsA a k = a := if_pos h
theorem stsA_n {a k : Nat} (h : k ≠ 0) : stsA a k = k := if_neg h
theorem adv_0 {T : Nat → Nat} {n c k : Nat} (h : k = 0) : adv T n c k = tE T n c := if_pos h
theorem adv_n {T : Nat → Nat} {n c k : Nat} (h : k ≠ 0) : adv T n c k = c := if_neg h
theorem nmV_lt {T : Nat → Nat} {n c lo hi : Nat} (hc : c ≤ n) (h : nmK T n c lo hi = 0) : nmV T n c < 1000 := by
  have h1 := nuK_v h
  have h2 := tE_le (T := T) hc
  exact nuV_lt (fun k a b => by rw [h2.2.2.2 k a b]; exact h1.1.2.1) h1.1.2.2 h2.1
theorem kV_ne {k v : Nat} (h : kV k v ≠ -1000000) : k = 0 := by
  unfold kV at h
  split at h
  · assumption
  · exact absurd rfl h
theorem wyK_v {T : Nat → Nat} {n c P H : Nat} (h : wyK T n c P H = 0) : nmK T n c 0 999 = 0 ∧ (nmV T n c < P ∨ (10 ≤ nmV T n c ∧ nmV T n c ≤ 9 + H)) := by
  unfold wyK at h
  split at h
  · rename_i c1; exact absurd h c1
  · rename_i c1
    split at h
    · rename_i c2; exact ⟨Classical.not_not.mp c1, c2⟩
    · exact absurd h (by decide)
theorem cur_5 {Ns : Nat → Nat} {a b c : Nat} : va_up (va_up (va_up (va_up Ns 5 (Ns 5)) 13 a) 14 b) 15 c = va_up (va_up (va_up Ns 13 a) 14 b) 15 c := by rw [up_same]
set_option maxRecDepth 20000 in
theorem c_X6_numberHere (g : gG) (q : Nat → Nat) (Na : Nat → Nat → Nat) (Ia : Nat → Nat → Int32) (Ns : Nat → Nat) (Is : Nat → Int32) (lo : Nat) (hi : Nat)  (hT : ∀ k, Na 3 k < 256) (h4 : Ns 4 ≤ 400) (hpe : Ns 14 ≤ Ns 15 ∧ Ns 15 ≤ Ns 4) (hdg : ∀ k, Ns 14 ≤ k → k < Ns 15 → srt (Na 3 k) = srt (Na 3 (Ns 14))) (hlo : lo < 1000) (hhi : hi < 1000) : gCon g mX6_numberHere 1 0 0 [.ref (q 26), .int (nI lo), .int (nI hi)] (wM g q Na Ia Ns Is) (fun rv ws' => rv = some (.int (kV (nuK (Na 3) (Ns 4) (Ns 14) (Ns 15) lo hi) (nuV (Na 3) (Ns 14) (Ns 15)))) ∧ ws' = (wM g q Na Ia (va_up Ns 5 (stsA (Ns 5) (nuK (Na 3) (Ns 4) (Ns 14) (Ns 15) lo hi))) Is)) := by
  refine gCon.of (lv := [(0, .ref (q 26)), (1, .int (nI lo)), (2, .int (nI hi))]) (by decide) (gLe rfl) rfl ?_
  have hp14 : Ns 14 ≤ 400 := by omega
  have hp15 : Ns 15 ≤ 400 := by omega
  have hpa := hpe.1
  refine j_aload_n 1 dX6_numberHere_0 rfl 0 rfl ?_
  refine j_getf 4 0 dX6_numberHere_1 rfl fd_X6_94 rfl rfl ?_
  refine j_aload_n 5 dX6_numberHere_4 rfl 0 rfl ?_
  refine j_getf 8 0 dX6_numberHere_5 rfl fd_X6_85 rfl rfl ?_
  refine j_icmp_eqN (Ns 14) (Ns 4) 11 40 dX6_numberHere_8 rfl rfl (by have z0 := hp14; omega) (by have z0 := h4; omega) (fun h8 => ?_) (fun h8 => ?_)
  ·
    refine j_aload_n 41 dX6_numberHere_40 rfl 0 rfl ?_
    refine j_iconst (v := (1 : Int32)) 42 dX6_numberHere_41 rfl (by decide) ?_
    have hk1 : (nuK (Na 3) (Ns 4) (Ns 14) (Ns 15) lo hi) = 1 := if_pos (by first | exact fun y => absurd y.1 (by omega) | exact fun y => h24 y.2.1 | exact fun y => absurd y.2.2 (by omega))
    refine j_topN 1 (stsA (Ns 5) (nuK (Na 3) (Ns 4) (Ns 14) (Ns 15) lo hi)) (by rw [hk1]; rfl) ?_
    refine j_putf 45 0 (wM g q Na Ia (va_up Ns 5 (stsA (Ns 5) (nuK (Na 3) (Ns 4) (Ns 14) (Ns 15) lo hi))) Is) dX6_numberHere_42 rfl fd_X6_113 rfl rfl rfl (gLe rfl) rfl ?_
    refine j_ldc (v := (-1000000 : Int32)) 47 dX6_numberHere_45 rfl wd_4_47 ?_
    refine j_iretI dX6_numberHere_47 rfl ⟨gLe rfl, gLe rfl, ?_⟩
    rw [hk1]
    exact ⟨rfl, rfl⟩
  ·
    refine j_aload_n 12 dX6_numberHere_11 rfl 0 rfl ?_
    refine j_getf 15 0 dX6_numberHere_12 rfl fd_X6_16 rfl rfl ?_
    refine j_aload_n 16 dX6_numberHere_15 rfl 0 rfl ?_
    refine j_getf 19 0 dX6_numberHere_16 rfl fd_X6_94 rfl rfl ?_
    refine j_ialdN (Ns 14) 20 3 dX6_numberHere_19 rfl rfl (by omega) (by decide) ?_
    refine j_callSE (rest := []) 23 (c_X6_sort g ((Na 3) (Ns 14)) (by have := hT (Ns 14); omega)) [.int (nI (srt ((Na 3) (Ns 14))))] dX6_numberHere_20 rfl cs_X6_97 rfl rfl (gLe rfl) (gLe rfl) (gLe rfl) (gLe rfl) rfl ?_
    refine j_iconst (v := (2 : Int32)) 24 dX6_numberHere_23 rfl (by decide) ?_
    refine j_icmp_neN (srt ((Na 3) (Ns 14))) 2 27 40 dX6_numberHere_24 rfl rfl (by have z0 := (srt_le (c := ((Na 3) (Ns 14)))); omega) (by decide) (fun h24 => ?_) (fun h24 => ?_)
    ·
      refine j_aload_n 41 dX6_numberHere_40 rfl 0 rfl ?_
      refine j_iconst (v := (1 : Int32)) 42 dX6_numberHere_41 rfl (by decide) ?_
      have hk1 : (nuK (Na 3) (Ns 4) (Ns 14) (Ns 15) lo hi) = 1 := if_pos (by first | exact fun y => absurd y.1 (by omega) | exact fun y => h24 y.2.1 | exact fun y => absurd y.2.2 (by omega))
      refine j_topN 1 (stsA (Ns 5) (nuK (Na 3) (Ns 4) (Ns 14) (Ns 15) lo hi)) (by rw [hk1]; rfl) ?_
      refine j_putf 45 0 (wM g q Na Ia (va_up Ns 5 (stsA (Ns 5) (nuK (Na 3) (Ns 4) (Ns 14) (Ns 15) lo hi))) Is) dX6_numberHere_42 rfl fd_X6_113 rfl rfl rfl (gLe rfl) rfl ?_
      refine j_ldc (v := (-1000000 : Int32)) 47 dX6_numberHere_45 rfl wd_4_47 ?_
      refine j_iretI dX6_numberHere_47 rfl ⟨gLe rfl, gLe rfl, ?_⟩
      rw [hk1]
      exact ⟨rfl, rfl⟩
    ·
      refine j_aload_n 28 dX6_numberHere_27 rfl 0 rfl ?_
      refine j_getf 31 0 dX6_numberHere_28 rfl fd_X6_100 rfl rfl ?_
      refine j_aload_n 32 dX6_numberHere_31 rfl 0 rfl ?_
      refine j_getf 35 0 dX6_numberHere_32 rfl fd_X6_94 rfl rfl ?_
      refine j_isubN (Ns 15) (Ns 14) 36 dX6_numberHere_35 rfl hpa ?_
      refine j_iconst (v := (3 : Int32)) 37 dX6_numberHere_36 rfl (by decide) ?_
      refine j_icmp_leN ((Ns 15) - (Ns 14)) 3 40 48 dX6_numberHere_37 rfl rfl (by have z0 := hp14; have z1 := hp15; omega) (by decide) (fun h37 => ?_) (fun h37 => ?_)
      ·
        have hcn : Ns 14 < Ns 4 ∧ srt (Na 3 (Ns 14)) = 2 ∧ Ns 15 - Ns 14 ≤ 3 := ⟨by omega, h24, by omega⟩
        have hds : ∀ k, Ns 14 ≤ k → k < Ns 15 → srt (Na 3 k) = 2 := fun k h1 h2 => (hdg k h1 h2).trans h24
        have hvl := nuV_lt hds hcn.2.2 hpa
        refine j_iconst (v := (0 : Int32)) 49 dX6_numberHere_48 rfl (by decide) ?_
        refine j_istore_n 50 [(3, .int (0 : Int32)), (0, .ref (q 26)), (1, .int (nI lo)), (2, .int (nI hi))] dX6_numberHere_49 rfl (by decide) rfl ?_
        refine j_aload_n 51 dX6_numberHere_50 rfl 1 rfl ?_
        refine j_getf 54 0 dX6_numberHere_51 rfl fd_X6_94 rfl rfl ?_
        refine j_istore 56 [(4, .int (nI (Ns 14))), (3, .int (0 : Int32)), (0, .ref (q 26)), (1, .int (nI lo)), (2, .int (nI hi))] dX6_numberHere_54 rfl (by decide) rfl ?_
        have hL56 : ∀ (zm56 : Nat) (zi : Nat) (zv : Nat), Ns 15 - zi < zm56 → (Ns 14 ≤ zi ∧ zi ≤ Ns 15) → (decV (Na 3) (Ns 15 - zi) zi zv = (nuV (Na 3) (Ns 14) (Ns 15))) → gJ g mX6_numberHere 1 0 0 (fun k' j' rv ws' => k' ≤ 0 ∧ j' ≤ 0 ∧ (rv = some (.int (kV (nuK (Na 3) (Ns 4) (Ns 14) (Ns 15) lo hi) (nuV (Na 3) (Ns 14) (Ns 15)))) ∧ ws' = (wM g q Na Ia (va_up Ns 5 (stsA (Ns 5) (nuK (Na 3) (Ns 4) (Ns 14) (Ns 15) lo hi))) Is))) 0 0 56 [(4, .int (nI zi)), (3, .int (nI zv)), (0, .ref (q 26)), (1, .int (nI lo)), (2, .int (nI hi))] [] (wM g q Na Ia Ns Is) := by
          intro zm56
          induction zm56 with
          | zero => intro zi zv zmh; exact absurd zmh (Nat.not_lt_zero _)
          | succ zm56 zih56 =>
            intro zi zv zmh56 hz hzv
            refine j_iload 58 dX6_numberHere_56 rfl 0 rfl ?_
            refine j_aload_n 59 dX6_numberHere_58 rfl 2 rfl ?_
            refine j_getf 62 0 dX6_numberHere_59 rfl fd_X6_100 rfl rfl ?_
            refine j_icmp_geN zi (Ns 15) 65 87 dX6_numberHere_62 rfl rfl (by have z0 := hz.2; have z1 := hp15; omega) (by have z0 := hp15; omega) (fun h62 => ?_) (fun h62 => ?_)
            ·
              have ye : zi = Ns 15 := by omega
              have hzv2 : zv = (nuV (Na 3) (Ns 14) (Ns 15)) := by rw [← hzv, ye, Nat.sub_self]; rfl
              subst hzv2
              refine j_aload_n 88 dX6_numberHere_87 rfl 2 rfl ?_
              refine j_iload_n 89 dX6_numberHere_88 rfl 1 rfl ?_
              refine j_i2l 90 dX6_numberHere_89 rfl ?_
              refine j_iload_n 91 dX6_numberHere_90 rfl 3 rfl ?_
              refine j_i2l 92 dX6_numberHere_91 rfl ?_
              refine j_iload_n 93 dX6_numberHere_92 rfl 4 rfl ?_
              refine j_i2l 94 dX6_numberHere_93 rfl ?_
              refine j_callSE (rest := [.ref (q 26)]) 97 (c_in32 g (nI (nuV (Na 3) (Ns 14) (Ns 15))) (nI lo) (nI hi) ((nI lo).toInt64) ((nI hi).toInt64) rfl rfl) [.int (gB ((nI lo) ≤ (nI (nuV (Na 3) (Ns 14) (Ns 15))) ∧ (nI (nuV (Na 3) (Ns 14) (Ns 15))) ≤ (nI hi))), .ref (q 26)] dX6_numberHere_94 rfl cs_X6_61 rfl rfl (gLe rfl) (gLe rfl) (gLe rfl) (gLe rfl) rfl ?_
              refine j_topI _ (gB (lo ≤ (nuV (Na 3) (Ns 14) (Ns 15)) ∧ (nuV (Na 3) (Ns 14) (Ns 15)) ≤ hi)) (gB_iff (i32_rng (by omega) (by omega) (by omega))) ?_
              refine j_if_eqB 100 107 dX6_numberHere_97 rfl rfl (fun h97 => ?_) (fun h97 => ?_)
              ·
                refine j_iconst (v := (2 : Int32)) 108 dX6_numberHere_107 rfl (by decide) ?_
                refine j_topN 2 (stsA (Ns 5) (nuK (Na 3) (Ns 4) (Ns 14) (Ns 15) lo hi)) (by rw [nuK, if_neg (fun y => y hcn), if_neg h97]; rfl) ?_
                refine j_putf 111 0 (wM g q Na Ia (va_up Ns 5 (stsA (Ns 5) (nuK (Na 3) (Ns 4) (Ns 14) (Ns 15) lo hi))) Is) dX6_numberHere_108 rfl fd_X6_113 rfl rfl rfl (gLe rfl) rfl ?_
                refine j_iload_n 112 dX6_numberHere_111 rfl 1 rfl ?_
                refine j_i2l 113 dX6_numberHere_112 rfl ?_
                refine j_iload_n 114 dX6_numberHere_113 rfl 3 rfl ?_
                refine j_i2l 115 dX6_numberHere_114 rfl ?_
                refine j_iload_n 116 dX6_numberHere_115 rfl 4 rfl ?_
                refine j_i2l 117 dX6_numberHere_116 rfl ?_
                refine j_callSE (rest := []) 120 (c_in32 g (nI (nuV (Na 3) (Ns 14) (Ns 15))) (nI lo) (nI hi) ((nI lo).toInt64) ((nI hi).toInt64) rfl rfl) [.int (gB ((nI lo) ≤ (nI (nuV (Na 3) (Ns 14) (Ns 15))) ∧ (nI (nuV (Na 3) (Ns 14) (Ns 15))) ≤ (nI hi)))] dX6_numberHere_117 rfl cs_X6_61 rfl rfl (gLe rfl) (gLe rfl) (gLe rfl) (gLe rfl) rfl ?_
                refine j_topI _ (gB (lo ≤ (nuV (Na 3) (Ns 14) (Ns 15)) ∧ (nuV (Na 3) (Ns 14) (Ns 15)) ≤ hi)) (gB_iff (i32_rng (by omega) (by omega) (by omega))) ?_
                refine j_if_eqB 123 127 dX6_numberHere_120 rfl rfl (fun h120 => ?_) (fun h120 => ?_)
                ·
                  refine j_ldc (v := (-1000000 : Int32)) 129 dX6_numberHere_127 rfl wd_4_47 ?_
                  refine j_iretI dX6_numberHere_129 rfl ⟨gLe rfl, gLe rfl, ?_⟩
                  first
                    | exact absurd h97 h120
                    | exact absurd h120 h97
                    | (have hk0 : (nuK (Na 3) (Ns 4) (Ns 14) (Ns 15) lo hi) = 0 := by rw [nuK, if_neg (fun y => y hcn), if_pos h97]
                       exact ⟨congrArg (fun z => some (Value.int z)) (kV_0 hk0).symm, rfl⟩)
                    | (have hk0 : (nuK (Na 3) (Ns 4) (Ns 14) (Ns 15) lo hi) = 2 := by rw [nuK, if_neg (fun y => y hcn), if_neg h97]
                       exact ⟨congrArg (fun z => some (Value.int z)) (by rw [hk0]; rfl), rfl⟩)
                ·
                  refine j_iload_n 124 dX6_numberHere_123 rfl 1 rfl ?_
                  refine j_goto 129 dX6_numberHere_124 rfl ?_
                  refine j_iretI dX6_numberHere_129 rfl ⟨gLe rfl, gLe rfl, ?_⟩
                  first
                    | exact absurd h97 h120
                    | exact absurd h120 h97
                    | (have hk0 : (nuK (Na 3) (Ns 4) (Ns 14) (Ns 15) lo hi) = 0 := by rw [nuK, if_neg (fun y => y hcn), if_pos h97]
                       exact ⟨congrArg (fun z => some (Value.int z)) (kV_0 hk0).symm, rfl⟩)
                    | (have hk0 : (nuK (Na 3) (Ns 4) (Ns 14) (Ns 15) lo hi) = 2 := by rw [nuK, if_neg (fun y => y hcn), if_neg h97]
                       exact ⟨congrArg (fun z => some (Value.int z)) (by rw [hk0]; rfl), rfl⟩)
              ·
                refine j_aload_n 101 dX6_numberHere_100 rfl 2 rfl ?_
                refine j_getf 104 0 dX6_numberHere_101 rfl fd_X6_113 rfl rfl ?_
                refine j_goto 108 dX6_numberHere_104 rfl ?_
                refine j_topN (Ns 5) (stsA (Ns 5) (nuK (Na 3) (Ns 4) (Ns 14) (Ns 15) lo hi)) (by rw [nuK, if_neg (fun y => y hcn), if_pos h97]; rfl) ?_
                refine j_putf 111 0 (wM g q Na Ia (va_up Ns 5 (stsA (Ns 5) (nuK (Na 3) (Ns 4) (Ns 14) (Ns 15) lo hi))) Is) dX6_numberHere_108 rfl fd_X6_113 rfl rfl rfl (gLe rfl) rfl ?_
                refine j_iload_n 112 dX6_numberHere_111 rfl 1 rfl ?_
                refine j_i2l 113 dX6_numberHere_112 rfl ?_
                refine j_iload_n 114 dX6_numberHere_113 rfl 3 rfl ?_
                refine j_i2l 115 dX6_numberHere_114 rfl ?_
                refine j_iload_n 116 dX6_numberHere_115 rfl 4 rfl ?_
                refine j_i2l 117 dX6_numberHere_116 rfl ?_
                refine j_callSE (rest := []) 120 (c_in32 g (nI (nuV (Na 3) (Ns 14) (Ns 15))) (nI lo) (nI hi) ((nI lo).toInt64) ((nI hi).toInt64) rfl rfl) [.int (gB ((nI lo) ≤ (nI (nuV (Na 3) (Ns 14) (Ns 15))) ∧ (nI (nuV (Na 3) (Ns 14) (Ns 15))) ≤ (nI hi)))] dX6_numberHere_117 rfl cs_X6_61 rfl rfl (gLe rfl) (gLe rfl) (gLe rfl) (gLe rfl) rfl ?_
                refine j_topI _ (gB (lo ≤ (nuV (Na 3) (Ns 14) (Ns 15)) ∧ (nuV (Na 3) (Ns 14) (Ns 15)) ≤ hi)) (gB_iff (i32_rng (by omega) (by omega) (by omega))) ?_
                refine j_if_eqB 123 127 dX6_numberHere_120 rfl rfl (fun h120 => ?_) (fun h120 => ?_)
                ·
                  refine j_ldc (v := (-1000000 : Int32)) 129 dX6_numberHere_127 rfl wd_4_47 ?_
                  refine j_iretI dX6_numberHere_129 rfl ⟨gLe rfl, gLe rfl, ?_⟩
                  first
                    | exact absurd h97 h120
                    | exact absurd h120 h97
                    | (have hk0 : (nuK (Na 3) (Ns 4) (Ns 14) (Ns 15) lo hi) = 0 := by rw [nuK, if_neg (fun y => y hcn), if_pos h97]
                       exact ⟨congrArg (fun z => some (Value.int z)) (kV_0 hk0).symm, rfl⟩)
                    | (have hk0 : (nuK (Na 3) (Ns 4) (Ns 14) (Ns 15) lo hi) = 2 := by rw [nuK, if_neg (fun y => y hcn), if_neg h97]
                       exact ⟨congrArg (fun z => some (Value.int z)) (by rw [hk0]; rfl), rfl⟩)
                ·
                  refine j_iload_n 124 dX6_numberHere_123 rfl 1 rfl ?_
                  refine j_goto 129 dX6_numberHere_124 rfl ?_
                  refine j_iretI dX6_numberHere_129 rfl ⟨gLe rfl, gLe rfl, ?_⟩
                  first
                    | exact absurd h97 h120
                    | exact absurd h120 h97
                    | (have hk0 : (nuK (Na 3) (Ns 4) (Ns 14) (Ns 15) lo hi) = 0 := by rw [nuK, if_neg (fun y => y hcn), if_pos h97]
                       exact ⟨congrArg (fun z => some (Value.int z)) (kV_0 hk0).symm, rfl⟩)
                    | (have hk0 : (nuK (Na 3) (Ns 4) (Ns 14) (Ns 15) lo hi) = 2 := by rw [nuK, if_neg (fun y => y hcn), if_neg h97]
                       exact ⟨congrArg (fun z => some (Value.int z)) (by rw [hk0]; rfl), rfl⟩)
            ·
              refine j_bipush (v := (10 : Int32)) 67 dX6_numberHere_65 rfl (by decide) ?_
              refine j_iload_n 68 dX6_numberHere_67 rfl 1 rfl ?_
              refine j_imulN 10 zv 69 dX6_numberHere_68 rfl ?_
              refine j_aload_n 70 dX6_numberHere_69 rfl 2 rfl ?_
              refine j_getf 73 0 dX6_numberHere_70 rfl fd_X6_16 rfl rfl ?_
              refine j_iload 75 dX6_numberHere_73 rfl 0 rfl ?_
              refine j_ialdN zi 76 3 dX6_numberHere_75 rfl rfl (by omega) (by decide) ?_
              refine j_iaddN (10 * zv) ((Na 3) zi) 77 dX6_numberHere_76 rfl ?_
              refine j_bipush (v := (48 : Int32)) 79 dX6_numberHere_77 rfl (by decide) ?_
              refine j_isubN ((10 * zv) + ((Na 3) zi)) 48 80 dX6_numberHere_79 rfl (by have := srt_2 (hds zi hz.1 (by omega)); omega) ?_
              refine j_istore_n 81 [(3, .int (nI (((10 * zv) + ((Na 3) zi)) - 48))), (4, .int (nI zi)), (0, .ref (q 26)), (1, .int (nI lo)), (2, .int (nI hi))] dX6_numberHere_80 rfl (by decide) rfl ?_
              refine j_iincN zi 1 84 [(4, .int (nI (zi + 1))), (3, .int (nI (((10 * zv) + ((Na 3) zi)) - 48))), (0, .ref (q 26)), (1, .int (nI lo)), (2, .int (nI hi))] dX6_numberHere_81 rfl 1 rfl (by decide) rfl ?_
              refine j_goto 56 dX6_numberHere_84 rfl ?_
              refine j_lv [0, 1, 2, 3, 4] rfl ?_
              exact zih56 (zi + 1) (10 * zv + Na 3 zi - 48) (by omega) (by omega) (by rw [← hzv, show Ns 15 - zi = Ns 15 - (zi + 1) + 1 by omega]; rfl)
        refine j_lv [0, 1, 2, 3, 4] rfl ?_
        exact hL56 _ (Ns 14) 0 (Nat.lt_succ_self _) ⟨Nat.le_refl _, hpa⟩ rfl
      ·
        refine j_aload_n 41 dX6_numberHere_40 rfl 0 rfl ?_
        refine j_iconst (v := (1 : Int32)) 42 dX6_numberHere_41 rfl (by decide) ?_
        have hk1 : (nuK (Na 3) (Ns 4) (Ns 14) (Ns 15) lo hi) = 1 := if_pos (by first | exact fun y => absurd y.1 (by omega) | exact fun y => h24 y.2.1 | exact fun y => absurd y.2.2 (by omega))
        refine j_topN 1 (stsA (Ns 5) (nuK (Na 3) (Ns 4) (Ns 14) (Ns 15) lo hi)) (by rw [hk1]; rfl) ?_
        refine j_putf 45 0 (wM g q Na Ia (va_up Ns 5 (stsA (Ns 5) (nuK (Na 3) (Ns 4) (Ns 14) (Ns 15) lo hi))) Is) dX6_numberHere_42 rfl fd_X6_113 rfl rfl rfl (gLe rfl) rfl ?_
        refine j_ldc (v := (-1000000 : Int32)) 47 dX6_numberHere_45 rfl wd_4_47 ?_
        refine j_iretI dX6_numberHere_47 rfl ⟨gLe rfl, gLe rfl, ?_⟩
        rw [hk1]
        exact ⟨rfl, rfl⟩
set_option maxRecDepth 20000 in
theorem c_X6_number (g : gG) (q : Nat → Nat) (Na : Nat → Nat → Nat) (Ia : Nat → Nat → Int32) (Ns : Nat → Nat) (Is : Nat → Int32) (lo : Nat) (hi : Nat) (zc : Nat) (hT : ∀ k, Na 3 k < 256) (h4 : Ns 4 ≤ 400) (hc0 : zc ≤ Ns 4) (h13 : Ns 13 = tE (Na 3) (Ns 4) zc) (h14 : Ns 14 = tP (Na 3) (Ns 4) zc) (h15 : Ns 15 = tE (Na 3) (Ns 4) zc) (hlo : lo < 1000) (hhi : hi < 1000) : gCon g mX6_number 2 0 0 [.ref (q 26), .int (nI lo), .int (nI hi)] (wM g q Na Ia Ns Is) (fun rv ws' => rv = some (.int (kV (nmK (Na 3) (Ns 4) zc lo hi) (nmV (Na 3) (Ns 4) zc))) ∧ ws' = (wM g q Na Ia (va_up (va_up (va_up (va_up Ns 5 (stsA (Ns 5) (nmK (Na 3) (Ns 4) zc lo hi))) 13 (tE (Na 3) (Ns 4) (adv (Na 3) (Ns 4) zc (nmK (Na 3) (Ns 4) zc lo hi)))) 14 (tP (Na 3) (Ns 4) (adv (Na 3) (Ns 4) zc (nmK (Na 3) (Ns 4) zc lo hi)))) 15 (tE (Na 3) (Ns 4) (adv (Na 3) (Ns 4) zc (nmK (Na 3) (Ns 4) zc lo hi)))) Is)) := by
  refine gCon.of (lv := [(0, .ref (q 26)), (1, .int (nI lo)), (2, .int (nI hi))]) (by decide) (gLe rfl) rfl ?_
  have hE0 := tE_le (T := Na 3) hc0
  have hc1 := hE0.2.1
  have hE1 := tE_le (T := Na 3) hc1
  refine j_ws (wM g q Na Ia (va_up (va_up (va_up Ns 13 (tE (Na 3) (Ns 4) zc)) 14 (tP (Na 3) (Ns 4) zc)) 15 (tE (Na 3) (Ns 4) zc)) Is) (congrArg (fun z => wM g q Na Ia z Is) (ns_cur h13 h14 h15)) ?_
  refine j_aload_n 1 dX6_number_0 rfl 0 rfl ?_
  refine j_iload_n 2 dX6_number_1 rfl 1 rfl ?_
  refine j_iload_n 3 dX6_number_2 rfl 2 rfl ?_
  refine j_callVW (rest := []) 6 (c_X6_numberHere g q Na Ia (va_up (va_up (va_up Ns 13 (tE (Na 3) (Ns 4) zc)) 14 (tP (Na 3) (Ns 4) zc)) 15 (tE (Na 3) (Ns 4) zc)) Is lo hi  hT h4 ⟨hE0.1, hE0.2.1⟩ hE0.2.2.2 hlo hhi) [.int (kV (nuK (Na 3) (Ns 4) (tP (Na 3) (Ns 4) zc) (tE (Na 3) (Ns 4) zc) lo hi) (nuV (Na 3) (tP (Na 3) (Ns 4) zc) (tE (Na 3) (Ns 4) zc)))] dX6_number_3 rfl cv_X6_116 rfl rfl 0 rfl rfl (gLe rfl) (gLe rfl) (gLe rfl) (gLe rfl) (wM_len _ _ _ _ _ _ _ _ _ _) rfl ?_
  refine j_istore_n 7 [(3, .int (kV (nuK (Na 3) (Ns 4) (tP (Na 3) (Ns 4) zc) (tE (Na 3) (Ns 4) zc) lo hi) (nuV (Na 3) (tP (Na 3) (Ns 4) zc) (tE (Na 3) (Ns 4) zc)))), (0, .ref (q 26)), (1, .int (nI lo)), (2, .int (nI hi))] dX6_number_6 rfl (by decide) rfl ?_
  refine j_iload_n 8 dX6_number_7 rfl 0 rfl ?_
  refine j_ldc (v := (-1000000 : Int32)) 10 dX6_number_8 rfl wd_4_47 ?_
  refine j_icmp_eq 13 17 dX6_number_10 rfl rfl (fun h10 => ?_) (fun h10 => ?_)
  ·
    refine j_iload_n 18 dX6_number_17 rfl 0 rfl ?_
    refine j_iretI dX6_number_18 rfl ⟨gLe rfl, gLe rfl, rfl, ?_⟩
    have hk0 : (nmK (Na 3) (Ns 4) zc lo hi) ≠ 0 := fun y => nI_nN (d := nmV (Na 3) (Ns 4) zc) (by have := nmV_lt hc0 y; omega) ((kV_0 y).symm.trans h10)
    rw [adv_n hk0]
    rfl
  ·
    have hk0 : (nmK (Na 3) (Ns 4) zc lo hi) = 0 := kV_ne h10
    refine j_aload_n 14 dX6_number_13 rfl 1 rfl ?_
    refine j_callVW (rest := []) 17 (c_X6_token g q Na Ia (va_up (va_up (va_up (va_up Ns 5 (stsA (Ns 5) (nuK (Na 3) (Ns 4) (tP (Na 3) (Ns 4) zc) (tE (Na 3) (Ns 4) zc) lo hi))) 13 (tE (Na 3) (Ns 4) zc)) 14 (tP (Na 3) (Ns 4) zc)) 15 (tE (Na 3) (Ns 4) zc)) Is   hT h4 hc1) [] dX6_number_14 rfl cv_X6_120 rfl rfl 0 rfl rfl (gLe rfl) (gLe rfl) (gLe rfl) (gLe rfl) (wM_len _ _ _ _ _ _ _ _ _ _) rfl ?_
    refine j_iload_n 18 dX6_number_17 rfl 0 rfl ?_
    refine j_iretI dX6_number_18 rfl ⟨gLe rfl, gLe rfl, rfl, ?_⟩
    rw [adv_0 hk0]
    rfl
set_option maxRecDepth 20000 in
theorem c_X6_readsSign (g : gG) (q : Nat → Nat) (Na : Nat → Nat → Nat) (Ia : Nat → Nat → Int32) (Ns : Nat → Nat) (Is : Nat → Int32)  (zc : Nat) (hT : ∀ k, Na 3 k < 256) (h4 : Ns 4 ≤ 400) (hc0 : zc ≤ Ns 4) (h13 : Ns 13 = tE (Na 3) (Ns 4) zc) (h14 : Ns 14 = tP (Na 3) (Ns 4) zc) (h15 : Ns 15 = tE (Na 3) (Ns 4) zc) : gCon g mX6_readsSign 2 0 0 [.ref (q 26)] (wM g q Na Ia Ns Is) (fun rv ws' => rv = some (.int (gB (sgK (Na 3) (Ns 4) zc = 0))) ∧ ws' = (wM g q Na Ia (va_up (va_up (va_up (va_up Ns 5 (stsA (Ns 5) (sgK (Na 3) (Ns 4) zc))) 13 (tE (Na 3) (Ns 4) (adv (Na 3) (Ns 4) zc (sgK (Na 3) (Ns 4) zc)))) 14 (tP (Na 3) (Ns 4) (adv (Na 3) (Ns 4) zc (sgK (Na 3) (Ns 4) zc)))) 15 (tE (Na 3) (Ns 4) (adv (Na 3) (Ns 4) zc (sgK (Na 3) (Ns 4) zc)))) Is)) := by
  refine gCon.of (lv := [(0, .ref (q 26))]) (by decide) (gLe rfl) rfl ?_
  have hE0 := tE_le (T := Na 3) hc0
  have hc1 := hE0.2.1
  have hE1 := tE_le (T := Na 3) hc1
  refine j_ws (wM g q Na Ia (va_up (va_up (va_up Ns 13 (tE (Na 3) (Ns 4) zc)) 14 (tP (Na 3) (Ns 4) zc)) 15 (tE (Na 3) (Ns 4) zc)) Is) (congrArg (fun z => wM g q Na Ia z Is) (ns_cur h13 h14 h15)) ?_
  refine j_aload_n 1 dX6_readsSign_0 rfl 0 rfl ?_
  refine j_getf 4 0 dX6_readsSign_1 rfl fd_X6_94 rfl rfl ?_
  refine j_aload_n 5 dX6_readsSign_4 rfl 0 rfl ?_
  refine j_getf 8 0 dX6_readsSign_5 rfl fd_X6_85 rfl rfl ?_
  refine j_icmp_eqN (tP (Na 3) (Ns 4) zc) (Ns 4) 11 25 dX6_readsSign_8 rfl rfl (by have z0 := hE0.1; have z1 := hE0.2.1; have z2 := h4; omega) (by have z0 := h4; omega) (fun h8 => ?_) (fun h8 => ?_)
  ·
    refine j_aload_n 26 dX6_readsSign_25 rfl 0 rfl ?_
    refine j_iconst (v := (1 : Int32)) 27 dX6_readsSign_26 rfl (by decide) ?_
    have hk1 : (sgK (Na 3) (Ns 4) zc) = 1 := if_neg (by first | exact fun y => absurd y.1 (by omega) | exact fun y => h22 y.2)
    refine j_topN 1 (stsA (Ns 5) (sgK (Na 3) (Ns 4) zc)) (by rw [hk1]; rfl) ?_
    refine j_putf 30 0 (wM g q Na Ia (va_up (va_up (va_up (va_up Ns 5 (stsA (Ns 5) (sgK (Na 3) (Ns 4) zc))) 13 (tE (Na 3) (Ns 4) zc)) 14 (tP (Na 3) (Ns 4) zc)) 15 (tE (Na 3) (Ns 4) zc)) Is) dX6_readsSign_27 rfl fd_X6_113 rfl rfl rfl (gLe rfl) rfl ?_
    refine j_iconst (v := (0 : Int32)) 31 dX6_readsSign_30 rfl (by decide) ?_
    refine j_iret0 (c := (sgK (Na 3) (Ns 4) zc) = 0) dX6_readsSign_31 rfl (by rw [hk1]; decide) ⟨gLe rfl, gLe rfl, rfl, ?_⟩
    rw [adv_n (by rw [hk1]; decide)]
  ·
    refine j_aload_n 12 dX6_readsSign_11 rfl 0 rfl ?_
    refine j_getf 15 0 dX6_readsSign_12 rfl fd_X6_16 rfl rfl ?_
    refine j_aload_n 16 dX6_readsSign_15 rfl 0 rfl ?_
    refine j_getf 19 0 dX6_readsSign_16 rfl fd_X6_94 rfl rfl ?_
    refine j_ialdN (tP (Na 3) (Ns 4) zc) 20 3 dX6_readsSign_19 rfl rfl (by omega) (by decide) ?_
    refine j_bipush (v := (59 : Int32)) 22 dX6_readsSign_20 rfl (by decide) ?_
    refine j_icmp_eqN ((Na 3) (tP (Na 3) (Ns 4) zc)) 59 25 32 dX6_readsSign_22 rfl rfl (by have z0 := hT (tP (Na 3) (Ns 4) zc); omega) (by decide) (fun h22 => ?_) (fun h22 => ?_)
    ·
      have hk0 : (sgK (Na 3) (Ns 4) zc) = 0 := if_pos ⟨by omega, h22⟩
      refine j_aload_n 33 dX6_readsSign_32 rfl 0 rfl ?_
      refine j_callVW (rest := []) 36 (c_X6_token g q Na Ia (va_up (va_up (va_up Ns 13 (tE (Na 3) (Ns 4) zc)) 14 (tP (Na 3) (Ns 4) zc)) 15 (tE (Na 3) (Ns 4) zc)) Is   hT h4 hc1) [] dX6_readsSign_33 rfl cv_X6_120 rfl rfl 0 rfl rfl (gLe rfl) (gLe rfl) (gLe rfl) (gLe rfl) (wM_len _ _ _ _ _ _ _ _ _ _) rfl ?_
      refine j_iconst (v := (1 : Int32)) 37 dX6_readsSign_36 rfl (by decide) ?_
      refine j_iret1 (c := (sgK (Na 3) (Ns 4) zc) = 0) dX6_readsSign_37 rfl hk0 ⟨gLe rfl, gLe rfl, rfl, ?_⟩
      rw [adv_0 hk0, stsA_0 hk0]
      exact (congrArg (fun z => wM g q Na Ia z Is) (cur_5 (Ns := Ns))).symm
    ·
      refine j_aload_n 26 dX6_readsSign_25 rfl 0 rfl ?_
      refine j_iconst (v := (1 : Int32)) 27 dX6_readsSign_26 rfl (by decide) ?_
      have hk1 : (sgK (Na 3) (Ns 4) zc) = 1 := if_neg (by first | exact fun y => absurd y.1 (by omega) | exact fun y => h22 y.2)
      refine j_topN 1 (stsA (Ns 5) (sgK (Na 3) (Ns 4) zc)) (by rw [hk1]; rfl) ?_
      refine j_putf 30 0 (wM g q Na Ia (va_up (va_up (va_up (va_up Ns 5 (stsA (Ns 5) (sgK (Na 3) (Ns 4) zc))) 13 (tE (Na 3) (Ns 4) zc)) 14 (tP (Na 3) (Ns 4) zc)) 15 (tE (Na 3) (Ns 4) zc)) Is) dX6_readsSign_27 rfl fd_X6_113 rfl rfl rfl (gLe rfl) rfl ?_
      refine j_iconst (v := (0 : Int32)) 31 dX6_readsSign_30 rfl (by decide) ?_
      refine j_iret0 (c := (sgK (Na 3) (Ns 4) zc) = 0) dX6_readsSign_31 rfl (by rw [hk1]; decide) ⟨gLe rfl, gLe rfl, rfl, ?_⟩
      rw [adv_n (by rw [hk1]; decide)]
set_option maxRecDepth 20000 in
theorem c_X6_way (g : gG) (q : Nat → Nat) (Na : Nat → Nat → Nat) (Ia : Nat → Nat → Int32) (Ns : Nat → Nat) (Is : Nat → Int32)  (zc : Nat) (zP : Nat) (hT : ∀ k, Na 3 k < 256) (h4 : Ns 4 ≤ 400) (hc0 : zc ≤ Ns 4) (h13 : Ns 13 = tE (Na 3) (Ns 4) zc) (h14 : Ns 14 = tP (Na 3) (Ns 4) zc) (h15 : Ns 15 = tE (Na 3) (Ns 4) zc) (hP6 : zP ≤ 6) (hPI : Is 16 = nI zP) (hm : Ns 18 ≤ 5) : gCon g mX6_way 2 0 0 [.ref (q 26)] (wM g q Na Ia Ns Is) (fun rv ws' => rv = some (.int (kV (wyK (Na 3) (Ns 4) zc zP (Ns 18)) (nmV (Na 3) (Ns 4) zc))) ∧ ws' = (wM g q Na Ia (va_up (va_up (va_up (va_up Ns 5 (stsA (Ns 5) (wyK (Na 3) (Ns 4) zc zP (Ns 18)))) 13 (tE (Na 3) (Ns 4) (adv (Na 3) (Ns 4) zc (wyK (Na 3) (Ns 4) zc zP (Ns 18))))) 14 (tP (Na 3) (Ns 4) (adv (Na 3) (Ns 4) zc (wyK (Na 3) (Ns 4) zc zP (Ns 18))))) 15 (tE (Na 3) (Ns 4) (adv (Na 3) (Ns 4) zc (wyK (Na 3) (Ns 4) zc zP (Ns 18))))) Is)) := by
  refine gCon.of (lv := [(0, .ref (q 26))]) (by decide) (gLe rfl) rfl ?_
  have hE0 := tE_le (T := Na 3) hc0
  have hc1 := hE0.2.1
  have hE1 := tE_le (T := Na 3) hc1
  refine j_ws (wM g q Na Ia (va_up (va_up (va_up Ns 13 (tE (Na 3) (Ns 4) zc)) 14 (tP (Na 3) (Ns 4) zc)) 15 (tE (Na 3) (Ns 4) zc)) Is) (congrArg (fun z => wM g q Na Ia z Is) (ns_cur h13 h14 h15)) ?_
  refine j_aload_n 1 dX6_way_0 rfl 0 rfl ?_
  refine j_iconst (v := (0 : Int32)) 2 dX6_way_1 rfl (by decide) ?_
  refine j_sipush (v := (999 : Int32)) 5 dX6_way_2 rfl (by decide) ?_
  refine j_callVW (rest := []) 8 (c_X6_numberHere g q Na Ia (va_up (va_up (va_up Ns 13 (tE (Na 3) (Ns 4) zc)) 14 (tP (Na 3) (Ns 4) zc)) 15 (tE (Na 3) (Ns 4) zc)) Is 0 999  hT h4 ⟨hE0.1, hE0.2.1⟩ hE0.2.2.2 (by decide) (by decide)) [.int (kV (nuK (Na 3) (Ns 4) (tP (Na 3) (Ns 4) zc) (tE (Na 3) (Ns 4) zc) 0 999) (nuV (Na 3) (tP (Na 3) (Ns 4) zc) (tE (Na 3) (Ns 4) zc)))] dX6_way_5 rfl cv_X6_116 rfl rfl 0 rfl rfl (gLe rfl) (gLe rfl) (gLe rfl) (gLe rfl) (wM_len _ _ _ _ _ _ _ _ _ _) rfl ?_
  refine j_istore_n 9 [(1, .int (kV (nuK (Na 3) (Ns 4) (tP (Na 3) (Ns 4) zc) (tE (Na 3) (Ns 4) zc) 0 999) (nuV (Na 3) (tP (Na 3) (Ns 4) zc) (tE (Na 3) (Ns 4) zc)))), (0, .ref (q 26))] dX6_way_8 rfl (by decide) rfl ?_
  refine j_iload_n 10 dX6_way_9 rfl 0 rfl ?_
  refine j_ldc (v := (-1000000 : Int32)) 12 dX6_way_10 rfl wd_4_47 ?_
  refine j_icmp_ne 15 18 dX6_way_12 rfl rfl (fun h12 => ?_) (fun h12 => ?_)
  ·
    have hk0 : (nmK (Na 3) (Ns 4) zc 0 999) = 0 := kV_ne h12
    have hv := nmV_lt hc0 hk0
    refine j_lvs [(1, .int (nI (nmV (Na 3) (Ns 4) zc))), (0, .ref (q 26))] (by rw [show kV (nuK (Na 3) (Ns 4) (tP (Na 3) (Ns 4) zc) (tE (Na 3) (Ns 4) zc) 0 999) (nuV (Na 3) (tP (Na 3) (Ns 4) zc) (tE (Na 3) (Ns 4) zc)) = nI (nmV (Na 3) (Ns 4) zc) from kV_0 hk0]) ?_
    refine j_ws (wM g q Na Ia (va_up (va_up (va_up (va_up Ns 5 (stsA (Ns 5) (nuK (Na 3) (Ns 4) (tP (Na 3) (Ns 4) zc) (tE (Na 3) (Ns 4) zc) 0 999))) 13 (tE (Na 3) (Ns 4) zc)) 14 (tP (Na 3) (Ns 4) zc)) 15 (tE (Na 3) (Ns 4) zc)) Is) rfl ?_
    refine j_ws (wM g q Na Ia (va_up (va_up (va_up (va_up Ns 5 (Ns 5)) 13 (tE (Na 3) (Ns 4) zc)) 14 (tP (Na 3) (Ns 4) zc)) 15 (tE (Na 3) (Ns 4) zc)) Is) (by rw [show stsA (Ns 5) (nuK (Na 3) (Ns 4) (tP (Na 3) (Ns 4) zc) (tE (Na 3) (Ns 4) zc) 0 999) = Ns 5 from stsA_0 hk0]) ?_
    refine j_ws (wM g q Na Ia (va_up (va_up (va_up Ns 13 (tE (Na 3) (Ns 4) zc)) 14 (tP (Na 3) (Ns 4) zc)) 15 (tE (Na 3) (Ns 4) zc)) Is) (congrArg (fun z => wM g q Na Ia z Is) cur_5) ?_
    refine j_iload_n 19 dX6_way_18 rfl 0 rfl ?_
    refine j_aload_n 20 dX6_way_19 rfl 1 rfl ?_
    refine j_getf 23 0 dX6_way_20 rfl fd_X6_123 rfl rfl ?_
    refine j_topI (Is 16) (nI zP) hPI ?_
    refine j_icmp_ltN (nmV (Na 3) (Ns 4) zc) zP 26 53 dX6_way_23 rfl rfl (by have z0 := hv; omega) (by have z0 := hP6; omega) (fun h23 => ?_) (fun h23 => ?_)
    ·
      have hk2 : (wyK (Na 3) (Ns 4) zc zP (Ns 18)) = 0 := by rw [wyK, if_neg (fun y => y hk0), if_pos (by first | exact Or.inl h23 | exact Or.inr h42)]
      refine j_aload_n 54 dX6_way_53 rfl 1 rfl ?_
      refine j_callVW (rest := []) 57 (c_X6_token g q Na Ia (va_up (va_up (va_up Ns 13 (tE (Na 3) (Ns 4) zc)) 14 (tP (Na 3) (Ns 4) zc)) 15 (tE (Na 3) (Ns 4) zc)) Is   hT h4 hc1) [] dX6_way_54 rfl cv_X6_120 rfl rfl 0 rfl rfl (gLe rfl) (gLe rfl) (gLe rfl) (gLe rfl) (wM_len _ _ _ _ _ _ _ _ _ _) rfl ?_
      refine j_iload_n 58 dX6_way_57 rfl 0 rfl ?_
      refine j_iretI dX6_way_58 rfl ⟨gLe rfl, gLe rfl, ?_⟩
      refine ⟨congrArg (fun z => some (Value.int z)) (kV_0 hk2).symm, ?_⟩
      rw [adv_0 hk2, stsA_0 hk2]
      exact (congrArg (fun z => wM g q Na Ia z Is) (cur_5 (Ns := Ns))).symm
    ·
      refine j_iload_n 27 dX6_way_26 rfl 0 rfl ?_
      refine j_i2l 28 dX6_way_27 rfl ?_
      refine j_ldc2 (v := (10 : Int64)) 31 dX6_way_28 rfl wd_4_225 ?_
      refine j_bipush (v := (9 : Int32)) 33 dX6_way_31 rfl (by decide) ?_
      refine j_aload_n 34 dX6_way_33 rfl 1 rfl ?_
      refine j_getf 37 0 dX6_way_34 rfl fd_X6_128 rfl rfl ?_
      refine j_iaddN 9 (Ns 18) 38 dX6_way_37 rfl ?_
      refine j_i2l 39 dX6_way_38 rfl ?_
      refine j_callSE (rest := []) 42 (c_in32 g (nI (nmV (Na 3) (Ns 4) zc)) (10 : Int32) (nI (9 + (Ns 18))) (10 : Int64) ((nI (9 + (Ns 18))).toInt64) (by decide) rfl) [.int (gB ((10 : Int32) ≤ (nI (nmV (Na 3) (Ns 4) zc)) ∧ (nI (nmV (Na 3) (Ns 4) zc)) ≤ (nI (9 + (Ns 18)))))] dX6_way_39 rfl cs_X6_61 rfl rfl (gLe rfl) (gLe rfl) (gLe rfl) (gLe rfl) rfl ?_
      refine j_topI _ (gB (10 ≤ (nmV (Na 3) (Ns 4) zc) ∧ (nmV (Na 3) (Ns 4) zc) ≤ 9 + Ns 18)) (gB_iff (i32_rng (a := 10) (by decide) (by omega) (by omega))) ?_
      refine j_if_neB 45 53 dX6_way_42 rfl rfl (fun h42 => ?_) (fun h42 => ?_)
      ·
        have hk2 : (wyK (Na 3) (Ns 4) zc zP (Ns 18)) = 0 := by rw [wyK, if_neg (fun y => y hk0), if_pos (by first | exact Or.inl h23 | exact Or.inr h42)]
        refine j_aload_n 54 dX6_way_53 rfl 1 rfl ?_
        refine j_callVW (rest := []) 57 (c_X6_token g q Na Ia (va_up (va_up (va_up Ns 13 (tE (Na 3) (Ns 4) zc)) 14 (tP (Na 3) (Ns 4) zc)) 15 (tE (Na 3) (Ns 4) zc)) Is   hT h4 hc1) [] dX6_way_54 rfl cv_X6_120 rfl rfl 0 rfl rfl (gLe rfl) (gLe rfl) (gLe rfl) (gLe rfl) (wM_len _ _ _ _ _ _ _ _ _ _) rfl ?_
        refine j_iload_n 58 dX6_way_57 rfl 0 rfl ?_
        refine j_iretI dX6_way_58 rfl ⟨gLe rfl, gLe rfl, ?_⟩
        refine ⟨congrArg (fun z => some (Value.int z)) (kV_0 hk2).symm, ?_⟩
        rw [adv_0 hk2, stsA_0 hk2]
        exact (congrArg (fun z => wM g q Na Ia z Is) (cur_5 (Ns := Ns))).symm
      ·
        refine j_aload_n 46 dX6_way_45 rfl 1 rfl ?_
        refine j_iconst (v := (2 : Int32)) 47 dX6_way_46 rfl (by decide) ?_
        have hk2 : (wyK (Na 3) (Ns 4) zc zP (Ns 18)) = 2 := by rw [wyK, if_neg (fun y => y hk0), if_neg (fun y => y.elim (by omega) h42)]
        refine j_topN 2 (stsA (Ns 5) (wyK (Na 3) (Ns 4) zc zP (Ns 18))) (by rw [hk2]; rfl) ?_
        refine j_putf 50 0 (wM g q Na Ia (va_up (va_up (va_up (va_up Ns 5 (stsA (Ns 5) (wyK (Na 3) (Ns 4) zc zP (Ns 18)))) 13 (tE (Na 3) (Ns 4) zc)) 14 (tP (Na 3) (Ns 4) zc)) 15 (tE (Na 3) (Ns 4) zc)) Is) dX6_way_47 rfl fd_X6_113 rfl rfl rfl (gLe rfl) rfl ?_
        refine j_ldc (v := (-1000000 : Int32)) 52 dX6_way_50 rfl wd_4_47 ?_
        refine j_iretI dX6_way_52 rfl ⟨gLe rfl, gLe rfl, ?_⟩
        refine ⟨congrArg (fun z => some (Value.int z)) (by rw [hk2]; rfl), ?_⟩
        rw [adv_n (by rw [hk2]; decide)]
  ·
    refine j_ldc (v := (-1000000 : Int32)) 17 dX6_way_15 rfl wd_4_47 ?_
    have hk0 : (nmK (Na 3) (Ns 4) zc 0 999) ≠ 0 := fun y => nI_nN (d := (nmV (Na 3) (Ns 4) zc)) (by have := nmV_lt hc0 y; omega) ((kV_0 y).symm.trans h12)
    have hk : (wyK (Na 3) (Ns 4) zc zP (Ns 18)) = (nmK (Na 3) (Ns 4) zc 0 999) := if_pos hk0
    refine j_iretI dX6_way_17 rfl ⟨gLe rfl, gLe rfl, ?_, ?_⟩
    · rw [hk]; exact congrArg (fun z => some (Value.int z)) (if_neg hk0).symm
    · rw [hk, adv_n hk0]; rfl
