theorem nI_p {a : Nat} (h : 1 ≤ a) : nI a - (1 : Int32) = nI (a - 1) := (pk_sub h : nI a - nI 1 = nI (a - 1))
theorem sdB_le {P u : Nat → Nat} {h kd sx : Nat} (hs : sx ≤ 1) : sdB P u h kd sx ≤ 1 := by
  unfold sdB
  by_cases c : kd ≠ 1
  · rw [if_pos c]; exact hs
  · rw [if_neg c]
    by_cases c2 : P (4 + 4 * h + 3) = 0 ∨ u h % 3 = 0
    · rw [if_pos c2]; omega
    · rw [if_neg c2]; exact hs
theorem sdT_to {P : Nat → Nat} {sk kd h s : Nat} (hn : ¬ srtO P sk h = 2) : sdT kd (s / 2 ^ h % 2) = toA P sk kd h s := by
  unfold toA sdT
  rw [if_neg hn]
theorem sdB_iff {P : Nat → Nat} {sk kd h s : Nat} {u : Nat → Nat} (hn : ¬ srtO P sk h = 2) (hle : P (4 + 4 * h + 3) ≤ 2) : sdB P (pushA kd h u) h kd (toA P sk kd h s) = s / 2 ^ h % 2 ↔ ¬ turnsA P sk kd h s u := by
  have hx : s / 2 ^ h % 2 < 2 := Nat.mod_lt _ (by decide)
  have hsk : h ≠ sk := fun y => hn (if_pos y)
  have hs : srtO P sk h = P (4 + 4 * h + 3) := if_neg hsk
  unfold turnsA sdB
  by_cases hk : kd = 1
  · subst hk
    have ht : toA P sk 1 h s = s / 2 ^ h % 2 := by unfold toA; rw [if_neg hn, if_neg (by decide), if_neg (by decide), if_neg (by decide)]
    have hp : pushA 1 h u h = u h + 1 := by show va_up u h (u h + 1) h = _; exact va_up_s
    rw [ht, hp, hs, if_neg (fun y => y rfl)]
    rw [hs] at hn
    by_cases hc : P (4 + 4 * h + 3) = 0 ∨ (u h + 1) % 3 = 0
    · rw [if_pos hc]
      constructor
      · intro y; omega
      · intro y
        exfalso
        apply y
        refine Or.inl ⟨rfl, ?_⟩
        omega
    · rw [if_neg hc]
      refine ⟨fun _ y => ?_, fun _ => rfl⟩
      rcases y with ⟨_, y⟩ | ⟨y, _⟩
      · omega
      · exact y rfl
  · rw [if_pos hk]
    constructor
    · intro y z
      rcases z with ⟨z, _⟩ | ⟨_, z⟩
      · exact hk z
      · exact z y
    · intro y
      exact Classical.byContradiction fun z => y (Or.inr ⟨hk, z⟩)
set_option maxRecDepth 20000 in
theorem c_X3_pass (g : gG) (sa : Nat) (p0 : Nat) (sb : Nat) (sc : Nat) (sd : Nat) (yD : Nat → Nat → Nat) (p1 : Nat) (p2 : Nat) (p3 : Nat) (p4 : Nat) (p5 : Nat) (p6 : Nat) (yL : Nat → Nat → Nat) (h : Nat) (kd : Nat) (k : Int32) (sk : Nat) (hP : okP (plP yL)) (hk : k = skC sk) (hh : h < yL 0 1) (h3 : yD 0 0 < 32) (hk5 : kd ≤ 5) (hu : ∀ j, j < 5 → yD 1 j < 1000000000) : gCon g mX3_pass 1 0 0 [.ref sa, .int (nI h), .int (nI kd), .int k] [(sa, .inr (3, [.ref p0, .int (nI (yD 0 0)), .ref sb, .ref sc, .ref sd])), (sb, .inl (g.2.1 0, 5, .inl (nF (yD 1)))), (sc, .inl (g.2.1 0, 6, .inl (nF (yD 2)))), (sd, .inl (g.2.1 0, 6, .inl (nF (yD 3)))), (p0, .inr (0, [.int (nI (yL 0 0)), .int (nI (yL 0 1)), .int (nI (yL 0 2)), .ref p1, .ref p2, .ref p3, .ref p4, .ref p5, .ref p6])), (p1, .inl (g.2.1 0, 5, .inl (nF (yL 1)))), (p2, .inl (g.2.1 0, 5, .inl (nF (yL 2)))), (p3, .inl (g.2.1 0, 5, .inl (nF (yL 3)))), (p4, .inl (g.2.1 0, 5, .inl (nF (yL 4)))), (p5, .inl (g.2.1 0, 8, .inl (nF (yL 5)))), (p6, .inl (g.2.1 0, 8, .inl (nF (yL 6))))] (fun rv ws' => rv = some (.int (nI (toA (plP yL) sk kd h (yD 0 0)))) ∧ ws' = [(sa, .inr (3, [.ref p0, .int (nI ((putD yD (stA (plP yL) sk kd h (yD 0 0) (yD 1)) (pushA kd h (yD 1))) 0 0)), .ref sb, .ref sc, .ref sd])), (sb, .inl (g.2.1 0, 5, .inl (nF ((putD yD (stA (plP yL) sk kd h (yD 0 0) (yD 1)) (pushA kd h (yD 1))) 1)))), (sc, .inl (g.2.1 0, 6, .inl (nF ((putD yD (stA (plP yL) sk kd h (yD 0 0) (yD 1)) (pushA kd h (yD 1))) 2)))), (sd, .inl (g.2.1 0, 6, .inl (nF ((putD yD (stA (plP yL) sk kd h (yD 0 0) (yD 1)) (pushA kd h (yD 1))) 3)))), (p0, .inr (0, [.int (nI (yL 0 0)), .int (nI (yL 0 1)), .int (nI (yL 0 2)), .ref p1, .ref p2, .ref p3, .ref p4, .ref p5, .ref p6])), (p1, .inl (g.2.1 0, 5, .inl (nF (yL 1)))), (p2, .inl (g.2.1 0, 5, .inl (nF (yL 2)))), (p3, .inl (g.2.1 0, 5, .inl (nF (yL 3)))), (p4, .inl (g.2.1 0, 5, .inl (nF (yL 4)))), (p5, .inl (g.2.1 0, 8, .inl (nF (yL 5)))), (p6, .inl (g.2.1 0, 8, .inl (nF (yL 6))))]) := by
  refine gCon.of (lv := [(0, .ref sa), (1, .int (nI h)), (2, .int (nI kd)), (3, .int k)]) (by decide) (gLe rfl) rfl ?_
  have h5 : h < 5 := okP_5 hP hh
  have hs2 : plP yL (4 + 4 * h + 3) ≤ 2 := (hP.2.2.2.2.1 h hh).2.2.2
  have ht : yL 4 h ≤ h := by have y := okP_t hP hh; rwa [plP_t h5] at y
  have hx2 : yD 0 0 / 2 ^ h % 2 < 2 := Nat.mod_lt _ (by decide)
  have hpu : pushA kd h (yD 1) h < 2000000000 := by have y1 := pushA_1 (kd := kd) (h := h) (k := h) (u := yD 1); have y2 := hu h h5; omega
  refine j_aload_n 1 dX3_pass_0 rfl 0 rfl ?_
  refine j_iload_n 2 dX3_pass_1 rfl 1 rfl ?_
  refine j_callV0 (rest := []) 5 [0, 1, 2, 3] (c_X3_sideOf g sa p0 sb sc sd yD h (by omega) h3) [.int (nI (yD 0 0 / 2 ^ h % 2))] [(sa, .inr (3, [.ref p0, .int (nI (yD 0 0)), .ref sb, .ref sc, .ref sd])), (sb, .inl (g.2.1 0, 5, .inl (nF (yD 1)))), (sc, .inl (g.2.1 0, 6, .inl (nF (yD 2)))), (sd, .inl (g.2.1 0, 6, .inl (nF (yD 3)))), (p0, .inr (0, [.int (nI (yL 0 0)), .int (nI (yL 0 1)), .int (nI (yL 0 2)), .ref p1, .ref p2, .ref p3, .ref p4, .ref p5, .ref p6])), (p1, .inl (g.2.1 0, 5, .inl (nF (yL 1)))), (p2, .inl (g.2.1 0, 5, .inl (nF (yL 2)))), (p3, .inl (g.2.1 0, 5, .inl (nF (yL 3)))), (p4, .inl (g.2.1 0, 5, .inl (nF (yL 4)))), (p5, .inl (g.2.1 0, 8, .inl (nF (yL 5)))), (p6, .inl (g.2.1 0, 8, .inl (nF (yL 6))))] dX3_pass_2 rfl cv_X3_61 rfl rfl rfl rfl 0 rfl rfl (gLe rfl) (gLe rfl) (gLe rfl) (gLe rfl) (gLe rfl) rfl rfl ?_
  refine j_istore 7 [(4, .int (nI (yD 0 0 / 2 ^ h % 2))), (0, .ref sa), (1, .int (nI h)), (2, .int (nI kd)), (3, .int k)] dX3_pass_5 rfl (by decide) rfl ?_
  refine j_iload_n 8 dX3_pass_7 rfl 3 rfl ?_
  refine j_iconst (v := (1 : Int32)) 9 dX3_pass_8 rfl (by decide) ?_
  refine j_icmp_neN kd 1 12 22 dX3_pass_9 rfl rfl (by omega) (by decide) (fun h9 => ?_) (fun h9 => ?_)
  ·
    refine j_ws [(sa, .inr (3, [.ref p0, .int (nI (yD 0 0)), .ref sb, .ref sc, .ref sd])), (sb, .inl (g.2.1 0, 5, .inl (nF ((putD yD (yD 0 0) (pushA kd h (yD 1))) 1)))), (sc, .inl (g.2.1 0, 6, .inl (nF ((putD yD (yD 0 0) (pushA kd h (yD 1))) 2)))), (sd, .inl (g.2.1 0, 6, .inl (nF ((putD yD (yD 0 0) (pushA kd h (yD 1))) 3)))), (p0, .inr (0, [.int (nI (yL 0 0)), .int (nI (yL 0 1)), .int (nI (yL 0 2)), .ref p1, .ref p2, .ref p3, .ref p4, .ref p5, .ref p6])), (p1, .inl (g.2.1 0, 5, .inl (nF (yL 1)))), (p2, .inl (g.2.1 0, 5, .inl (nF (yL 2)))), (p3, .inl (g.2.1 0, 5, .inl (nF (yL 3)))), (p4, .inl (g.2.1 0, 5, .inl (nF (yL 4)))), (p5, .inl (g.2.1 0, 8, .inl (nF (yL 5)))), (p6, .inl (g.2.1 0, 8, .inl (nF (yL 6))))] (by rw [show pushA kd h (yD 1) = yD 1 from if_neg h9]; rfl) ?_
    refine j_aload_n 23 dX3_pass_22 rfl 1 rfl ?_
    refine j_iload_n 24 dX3_pass_23 rfl 2 rfl ?_
    refine j_iload_n 25 dX3_pass_24 rfl 4 rfl ?_
    refine j_callV0 (rest := []) 28 [0, 1, 2, 3, 4, 5, 6, 7, 8, 9, 10] (c_X3_isFixed g sa p0 sb sc sd (putD yD (yD 0 0) (pushA kd h (yD 1))) p1 p2 p3 p4 p5 p6 yL h k sk hP hk hh) [.int (gB (srtO (plP yL) sk h = 2))] [(sa, .inr (3, [.ref p0, .int (nI (yD 0 0)), .ref sb, .ref sc, .ref sd])), (sb, .inl (g.2.1 0, 5, .inl (nF ((putD yD (yD 0 0) (pushA kd h (yD 1))) 1)))), (sc, .inl (g.2.1 0, 6, .inl (nF ((putD yD (yD 0 0) (pushA kd h (yD 1))) 2)))), (sd, .inl (g.2.1 0, 6, .inl (nF ((putD yD (yD 0 0) (pushA kd h (yD 1))) 3)))), (p0, .inr (0, [.int (nI (yL 0 0)), .int (nI (yL 0 1)), .int (nI (yL 0 2)), .ref p1, .ref p2, .ref p3, .ref p4, .ref p5, .ref p6])), (p1, .inl (g.2.1 0, 5, .inl (nF (yL 1)))), (p2, .inl (g.2.1 0, 5, .inl (nF (yL 2)))), (p3, .inl (g.2.1 0, 5, .inl (nF (yL 3)))), (p4, .inl (g.2.1 0, 5, .inl (nF (yL 4)))), (p5, .inl (g.2.1 0, 8, .inl (nF (yL 5)))), (p6, .inl (g.2.1 0, 8, .inl (nF (yL 6))))] dX3_pass_25 rfl cv_X3_64 rfl rfl rfl rfl 0 rfl rfl (gLe rfl) (gLe rfl) (gLe rfl) (gLe rfl) (gLe rfl) rfl rfl ?_
    refine j_if_eqB 31 34 dX3_pass_28 rfl rfl (fun h28 => ?_) (fun h28 => ?_)
    ·
      refine j_iload_n 35 dX3_pass_34 rfl 3 rfl ?_
      refine j_iload 37 dX3_pass_35 rfl 0 rfl ?_
      refine j_callSE (rest := []) 40 (c_X3_sideTaken g kd (yD 0 0 / 2 ^ h % 2) hk5 (by omega)) [.int (nI (sdT kd (yD 0 0 / 2 ^ h % 2)))] dX3_pass_37 rfl cs_X3_68 rfl rfl (gLe rfl) (gLe rfl) (gLe rfl) (gLe rfl) rfl ?_
      refine j_topN (sdT kd (yD 0 0 / 2 ^ h % 2)) (toA (plP yL) sk kd h (yD 0 0)) (sdT_to h28) ?_
      refine j_istore 42 [(5, .int (nI (toA (plP yL) sk kd h (yD 0 0)))), (4, .int (nI (yD 0 0 / 2 ^ h % 2))), (0, .ref sa), (1, .int (nI h)), (2, .int (nI kd)), (3, .int k)] dX3_pass_40 rfl (by decide) rfl ?_
      refine j_aload_n 43 dX3_pass_42 rfl 2 rfl ?_
      refine j_iload_n 44 dX3_pass_43 rfl 3 rfl ?_
      refine j_iload_n 45 dX3_pass_44 rfl 4 rfl ?_
      refine j_iload 47 dX3_pass_45 rfl 0 rfl ?_
      refine j_callV0 (rest := []) 50 [0, 1, 2, 3, 4, 5, 6, 7, 8, 9, 10] (c_X3_sideLeftBehind g sa p0 sb sc sd (putD yD (yD 0 0) (pushA kd h (yD 1))) p1 p2 p3 p4 p5 p6 yL h kd (toA (plP yL) sk kd h (yD 0 0)) hP hh hk5 toA_le hpu) [.int (nI (sdB (plP yL) ((putD yD (yD 0 0) (pushA kd h (yD 1))) 1) h kd (toA (plP yL) sk kd h (yD 0 0))))] [(sa, .inr (3, [.ref p0, .int (nI (yD 0 0)), .ref sb, .ref sc, .ref sd])), (sb, .inl (g.2.1 0, 5, .inl (nF ((putD yD (yD 0 0) (pushA kd h (yD 1))) 1)))), (sc, .inl (g.2.1 0, 6, .inl (nF ((putD yD (yD 0 0) (pushA kd h (yD 1))) 2)))), (sd, .inl (g.2.1 0, 6, .inl (nF ((putD yD (yD 0 0) (pushA kd h (yD 1))) 3)))), (p0, .inr (0, [.int (nI (yL 0 0)), .int (nI (yL 0 1)), .int (nI (yL 0 2)), .ref p1, .ref p2, .ref p3, .ref p4, .ref p5, .ref p6])), (p1, .inl (g.2.1 0, 5, .inl (nF (yL 1)))), (p2, .inl (g.2.1 0, 5, .inl (nF (yL 2)))), (p3, .inl (g.2.1 0, 5, .inl (nF (yL 3)))), (p4, .inl (g.2.1 0, 5, .inl (nF (yL 4)))), (p5, .inl (g.2.1 0, 8, .inl (nF (yL 5)))), (p6, .inl (g.2.1 0, 8, .inl (nF (yL 6))))] dX3_pass_47 rfl cv_X3_72 rfl rfl rfl rfl 0 rfl rfl (gLe rfl) (gLe rfl) (gLe rfl) (gLe rfl) (gLe rfl) rfl rfl ?_
      refine j_topN (sdB (plP yL) ((putD yD (yD 0 0) (pushA kd h (yD 1))) 1) h kd (toA (plP yL) sk kd h (yD 0 0))) (sdB (plP yL) (pushA kd h (yD 1)) h kd (toA (plP yL) sk kd h (yD 0 0))) rfl ?_
      refine j_iload 52 dX3_pass_50 rfl 1 rfl ?_
      have hsb : sdB (plP yL) (pushA kd h (yD 1)) h kd (toA (plP yL) sk kd h (yD 0 0)) ≤ 1 := by exact sdB_le toA_le
      refine j_icmp_eqN (sdB (plP yL) (pushA kd h (yD 1)) h kd (toA (plP yL) sk kd h (yD 0 0))) (yD 0 0 / 2 ^ h % 2) 55 108 dX3_pass_52 rfl rfl (by have z0 := hsb; omega) (by have z0 := hx2; omega) (fun h52 => ?_) (fun h52 => ?_)
      ·
        refine j_iload 110 dX3_pass_108 rfl 0 rfl ?_
        have hst : stA (plP yL) sk kd h (yD 0 0) (yD 1) = yD 0 0 := if_neg ((sdB_iff h28 hs2).mp h52)
        refine j_iretI dX3_pass_110 rfl ⟨gLe rfl, gLe rfl, rfl, ?_⟩
        rw [hst]; rfl
      ·
        refine j_aload_n 56 dX3_pass_55 rfl 2 rfl ?_
        refine j_dup 57 dX3_pass_56 rfl rfl ?_
        refine j_getf 60 0 dX3_pass_57 rfl fd_X3_9 rfl rfl ?_
        refine j_iconst (v := (1 : Int32)) 61 dX3_pass_60 rfl (by decide) ?_
        refine j_iload_n 62 dX3_pass_61 rfl 3 rfl ?_
        refine j_ishlN 1 h 63 dX3_pass_62 rfl (by omega) (by have := pow_lt32 h5; omega) ?_
        refine j_topN (1 * 2 ^ h) (2 ^ h) (Nat.one_mul _) ?_
        refine j_ixorN (yD 0 0) (2 ^ h) 64 dX3_pass_63 rfl ?_
        refine j_putf 67 0 [(sa, .inr (3, [.ref p0, .int (nI ((yD 0 0) ^^^ (2 ^ h))), .ref sb, .ref sc, .ref sd])), (sb, .inl (g.2.1 0, 5, .inl (nF ((putD yD (yD 0 0) (pushA kd h (yD 1))) 1)))), (sc, .inl (g.2.1 0, 6, .inl (nF ((putD yD (yD 0 0) (pushA kd h (yD 1))) 2)))), (sd, .inl (g.2.1 0, 6, .inl (nF ((putD yD (yD 0 0) (pushA kd h (yD 1))) 3)))), (p0, .inr (0, [.int (nI (yL 0 0)), .int (nI (yL 0 1)), .int (nI (yL 0 2)), .ref p1, .ref p2, .ref p3, .ref p4, .ref p5, .ref p6])), (p1, .inl (g.2.1 0, 5, .inl (nF (yL 1)))), (p2, .inl (g.2.1 0, 5, .inl (nF (yL 2)))), (p3, .inl (g.2.1 0, 5, .inl (nF (yL 3)))), (p4, .inl (g.2.1 0, 5, .inl (nF (yL 4)))), (p5, .inl (g.2.1 0, 8, .inl (nF (yL 5)))), (p6, .inl (g.2.1 0, 8, .inl (nF (yL 6))))] dX3_pass_64 rfl fd_X3_9 rfl rfl rfl (gLe rfl) rfl ?_
        refine j_ws [(sa, .inr (3, [.ref p0, .int (nI (yD 0 0 ^^^ 2 ^ h)), .ref sb, .ref sc, .ref sd])), (sb, .inl (g.2.1 0, 5, .inl (nF ((putD yD (yD 0 0 ^^^ 2 ^ h) (pushA kd h (yD 1))) 1)))), (sc, .inl (g.2.1 0, 6, .inl (nF ((putD yD (yD 0 0 ^^^ 2 ^ h) (pushA kd h (yD 1))) 2)))), (sd, .inl (g.2.1 0, 6, .inl (nF ((putD yD (yD 0 0 ^^^ 2 ^ h) (pushA kd h (yD 1))) 3)))), (p0, .inr (0, [.int (nI (yL 0 0)), .int (nI (yL 0 1)), .int (nI (yL 0 2)), .ref p1, .ref p2, .ref p3, .ref p4, .ref p5, .ref p6])), (p1, .inl (g.2.1 0, 5, .inl (nF (yL 1)))), (p2, .inl (g.2.1 0, 5, .inl (nF (yL 2)))), (p3, .inl (g.2.1 0, 5, .inl (nF (yL 3)))), (p4, .inl (g.2.1 0, 5, .inl (nF (yL 4)))), (p5, .inl (g.2.1 0, 8, .inl (nF (yL 5)))), (p6, .inl (g.2.1 0, 8, .inl (nF (yL 6))))] rfl ?_
        refine j_aload_n 68 dX3_pass_67 rfl 2 rfl ?_
        refine j_getf 71 0 dX3_pass_68 rfl fd_X3_25 rfl rfl ?_
        refine j_getf 74 4 dX3_pass_71 rfl fd_X3_75 rfl rfl ?_
        refine j_iload_n 75 dX3_pass_74 rfl 3 rfl ?_
        refine j_ialdN h 76 8 dX3_pass_75 rfl rfl h5 (by decide) ?_
        refine j_iconst (v := (1 : Int32)) 77 dX3_pass_76 rfl (by decide) ?_
        refine j_isub 78 dX3_pass_77 rfl ?_
        refine j_istore 80 [(6, .int ((nI ((yL 4) h)) - (1 : Int32))), (5, .int (nI (toA (plP yL) sk kd h (yD 0 0)))), (4, .int (nI (yD 0 0 / 2 ^ h % 2))), (0, .ref sa), (1, .int (nI h)), (2, .int (nI kd)), (3, .int k)] dX3_pass_78 rfl (by decide) rfl ?_
        refine j_iload 82 dX3_pass_80 rfl 0 rfl ?_
        refine j_if_lt 85 108 dX3_pass_82 rfl rfl (fun h82 => ?_) (fun h82 => ?_)
        ·
          refine j_iload 110 dX3_pass_108 rfl 1 rfl ?_
          have hst : stA (plP yL) sk kd h (yD 0 0) (yD 1) = yD 0 0 ^^^ 2 ^ h := ((if_pos (Classical.byContradiction fun y => h52 ((sdB_iff h28 hs2).mpr y)) : stA (plP yL) sk kd h (yD 0 0) (yD 1) = turnA (plP yL) sk h (yD 0 0))).trans (by rw [turnA, if_neg (fun y => by have y1 := y.1; have y2 := (pred_neg (by omega)).mp h82; rw [plP_t h5] at y1; omega)])
          refine j_iretI dX3_pass_110 rfl ⟨gLe rfl, gLe rfl, rfl, ?_⟩
          rw [hst]; rfl
        ·
          have hty : ¬ yL 4 h = 0 := fun y => h82 ((pred_neg (by omega)).mpr y)
          refine j_lvs [(6, .int (nI (yL 4 h - 1))), (5, .int (nI (toA (plP yL) sk kd h (yD 0 0)))), (4, .int (nI (yD 0 0 / 2 ^ h % 2))), (0, .ref sa), (1, .int (nI h)), (2, .int (nI kd)), (3, .int k)] (by rw [nI_p (by omega)]) ?_
          refine j_aload_n 86 dX3_pass_85 rfl 3 rfl ?_
          refine j_iload 88 dX3_pass_86 rfl 0 rfl ?_
          refine j_iload_n 89 dX3_pass_88 rfl 6 rfl ?_
          refine j_callV0 (rest := []) 92 [0, 1, 2, 3, 4, 5, 6, 7, 8, 9, 10] (c_X3_isFixed g sa p0 sb sc sd (putD yD (yD 0 0 ^^^ 2 ^ h) (pushA kd h (yD 1))) p1 p2 p3 p4 p5 p6 yL (yL 4 h - 1) k sk hP hk (by omega)) [.int (gB (srtO (plP yL) sk (yL 4 h - 1) = 2))] [(sa, .inr (3, [.ref p0, .int (nI (yD 0 0 ^^^ 2 ^ h)), .ref sb, .ref sc, .ref sd])), (sb, .inl (g.2.1 0, 5, .inl (nF ((putD yD (yD 0 0 ^^^ 2 ^ h) (pushA kd h (yD 1))) 1)))), (sc, .inl (g.2.1 0, 6, .inl (nF ((putD yD (yD 0 0 ^^^ 2 ^ h) (pushA kd h (yD 1))) 2)))), (sd, .inl (g.2.1 0, 6, .inl (nF ((putD yD (yD 0 0 ^^^ 2 ^ h) (pushA kd h (yD 1))) 3)))), (p0, .inr (0, [.int (nI (yL 0 0)), .int (nI (yL 0 1)), .int (nI (yL 0 2)), .ref p1, .ref p2, .ref p3, .ref p4, .ref p5, .ref p6])), (p1, .inl (g.2.1 0, 5, .inl (nF (yL 1)))), (p2, .inl (g.2.1 0, 5, .inl (nF (yL 2)))), (p3, .inl (g.2.1 0, 5, .inl (nF (yL 3)))), (p4, .inl (g.2.1 0, 5, .inl (nF (yL 4)))), (p5, .inl (g.2.1 0, 8, .inl (nF (yL 5)))), (p6, .inl (g.2.1 0, 8, .inl (nF (yL 6))))] dX3_pass_89 rfl cv_X3_64 rfl rfl rfl rfl 0 rfl rfl (gLe rfl) (gLe rfl) (gLe rfl) (gLe rfl) (gLe rfl) rfl rfl ?_
          refine j_if_neB 95 108 dX3_pass_92 rfl rfl (fun h92 => ?_) (fun h92 => ?_)
          ·
            refine j_iload 110 dX3_pass_108 rfl 1 rfl ?_
            have hst : stA (plP yL) sk kd h (yD 0 0) (yD 1) = yD 0 0 ^^^ 2 ^ h := ((if_pos (Classical.byContradiction fun y => h52 ((sdB_iff h28 hs2).mpr y)) : stA (plP yL) sk kd h (yD 0 0) (yD 1) = turnA (plP yL) sk h (yD 0 0))).trans (by rw [turnA, if_neg (fun y => y.2 (by rw [plP_t h5]; exact h92))])
            refine j_iretI dX3_pass_110 rfl ⟨gLe rfl, gLe rfl, rfl, ?_⟩
            rw [hst]; rfl
          ·
            refine j_aload_n 96 dX3_pass_95 rfl 3 rfl ?_
            refine j_dup 97 dX3_pass_96 rfl rfl ?_
            refine j_getf 100 0 dX3_pass_97 rfl fd_X3_9 rfl rfl ?_
            refine j_iconst (v := (1 : Int32)) 101 dX3_pass_100 rfl (by decide) ?_
            refine j_iload 103 dX3_pass_101 rfl 0 rfl ?_
            refine j_ishlN 1 (yL 4 h - 1) 104 dX3_pass_103 rfl (by omega) (by have := pow_lt32 (show yL 4 h - 1 < 5 by omega); omega) ?_
            refine j_topN (1 * 2 ^ (yL 4 h - 1)) (2 ^ (yL 4 h - 1)) (Nat.one_mul _) ?_
            refine j_ixorN (yD 0 0 ^^^ 2 ^ h) (2 ^ (yL 4 h - 1)) 105 dX3_pass_104 rfl ?_
            refine j_putf 108 0 [(sa, .inr (3, [.ref p0, .int (nI ((yD 0 0 ^^^ 2 ^ h) ^^^ (2 ^ (yL 4 h - 1)))), .ref sb, .ref sc, .ref sd])), (sb, .inl (g.2.1 0, 5, .inl (nF ((putD yD (yD 0 0 ^^^ 2 ^ h) (pushA kd h (yD 1))) 1)))), (sc, .inl (g.2.1 0, 6, .inl (nF ((putD yD (yD 0 0 ^^^ 2 ^ h) (pushA kd h (yD 1))) 2)))), (sd, .inl (g.2.1 0, 6, .inl (nF ((putD yD (yD 0 0 ^^^ 2 ^ h) (pushA kd h (yD 1))) 3)))), (p0, .inr (0, [.int (nI (yL 0 0)), .int (nI (yL 0 1)), .int (nI (yL 0 2)), .ref p1, .ref p2, .ref p3, .ref p4, .ref p5, .ref p6])), (p1, .inl (g.2.1 0, 5, .inl (nF (yL 1)))), (p2, .inl (g.2.1 0, 5, .inl (nF (yL 2)))), (p3, .inl (g.2.1 0, 5, .inl (nF (yL 3)))), (p4, .inl (g.2.1 0, 5, .inl (nF (yL 4)))), (p5, .inl (g.2.1 0, 8, .inl (nF (yL 5)))), (p6, .inl (g.2.1 0, 8, .inl (nF (yL 6))))] dX3_pass_105 rfl fd_X3_9 rfl rfl rfl (gLe rfl) rfl ?_
            refine j_iload 110 dX3_pass_108 rfl 1 rfl ?_
            have hst : stA (plP yL) sk kd h (yD 0 0) (yD 1) = (yD 0 0 ^^^ 2 ^ h) ^^^ (2 ^ (yL 4 h - 1)) := ((if_pos (Classical.byContradiction fun y => h52 ((sdB_iff h28 hs2).mpr y)) : stA (plP yL) sk kd h (yD 0 0) (yD 1) = turnA (plP yL) sk h (yD 0 0))).trans (by rw [turnA, if_pos ⟨by rw [plP_t h5]; omega, by rw [plP_t h5]; exact h92⟩, plP_t h5])
            refine j_iretI dX3_pass_110 rfl ⟨gLe rfl, gLe rfl, rfl, ?_⟩
            rw [hst]; rfl
    ·
      refine j_iload 33 dX3_pass_31 rfl 0 rfl ?_
      have hst : stA (plP yL) sk kd h (yD 0 0) (yD 1) = yD 0 0 := if_neg (fun y => by rcases y with ⟨_, y | ⟨y, _⟩⟩ | ⟨_, y⟩; (rw [h28] at y; cases y); (rw [h28] at y; cases y); exact y (by rw [toA, if_pos h28]))
      refine j_iretI dX3_pass_33 rfl ⟨gLe rfl, gLe rfl, ?_, ?_⟩
      · rw [toA, if_pos h28]
      · rw [hst]; rfl
  ·
    refine j_aload_n 13 dX3_pass_12 rfl 1 rfl ?_
    refine j_getf 16 0 dX3_pass_13 rfl fd_X3_15 rfl rfl ?_
    refine j_iload_n 17 dX3_pass_16 rfl 2 rfl ?_
    refine j_dup2 18 dX3_pass_17 rfl rfl rfl ?_
    refine j_ialdN h 19 1 dX3_pass_18 rfl rfl h5 (by decide) ?_
    refine j_iconst (v := (1 : Int32)) 20 dX3_pass_19 rfl (by decide) ?_
    refine j_iaddN ((yD 1) h) 1 21 dX3_pass_20 rfl ?_
    refine j_iastN (((yD 1) h) + 1) h 22 1 [(sa, .inr (3, [.ref p0, .int (nI (yD 0 0)), .ref sb, .ref sc, .ref sd])), (sb, .inl (g.2.1 0, 5, .inl (nF (va_up (yD 1) h (((yD 1) h) + 1))))), (sc, .inl (g.2.1 0, 6, .inl (nF (yD 2)))), (sd, .inl (g.2.1 0, 6, .inl (nF (yD 3)))), (p0, .inr (0, [.int (nI (yL 0 0)), .int (nI (yL 0 1)), .int (nI (yL 0 2)), .ref p1, .ref p2, .ref p3, .ref p4, .ref p5, .ref p6])), (p1, .inl (g.2.1 0, 5, .inl (nF (yL 1)))), (p2, .inl (g.2.1 0, 5, .inl (nF (yL 2)))), (p3, .inl (g.2.1 0, 5, .inl (nF (yL 3)))), (p4, .inl (g.2.1 0, 5, .inl (nF (yL 4)))), (p5, .inl (g.2.1 0, 8, .inl (nF (yL 5)))), (p6, .inl (g.2.1 0, 8, .inl (nF (yL 6))))] dX3_pass_21 rfl rfl h5 (by decide) rfl ?_
    refine j_ws [(sa, .inr (3, [.ref p0, .int (nI (yD 0 0)), .ref sb, .ref sc, .ref sd])), (sb, .inl (g.2.1 0, 5, .inl (nF ((putD yD (yD 0 0) (pushA kd h (yD 1))) 1)))), (sc, .inl (g.2.1 0, 6, .inl (nF ((putD yD (yD 0 0) (pushA kd h (yD 1))) 2)))), (sd, .inl (g.2.1 0, 6, .inl (nF ((putD yD (yD 0 0) (pushA kd h (yD 1))) 3)))), (p0, .inr (0, [.int (nI (yL 0 0)), .int (nI (yL 0 1)), .int (nI (yL 0 2)), .ref p1, .ref p2, .ref p3, .ref p4, .ref p5, .ref p6])), (p1, .inl (g.2.1 0, 5, .inl (nF (yL 1)))), (p2, .inl (g.2.1 0, 5, .inl (nF (yL 2)))), (p3, .inl (g.2.1 0, 5, .inl (nF (yL 3)))), (p4, .inl (g.2.1 0, 5, .inl (nF (yL 4)))), (p5, .inl (g.2.1 0, 8, .inl (nF (yL 5)))), (p6, .inl (g.2.1 0, 8, .inl (nF (yL 6))))] (by rw [show pushA kd h (yD 1) = va_up (yD 1) h (yD 1 h + 1) from if_pos h9]; rfl) ?_
    refine j_aload_n 23 dX3_pass_22 rfl 1 rfl ?_
    refine j_iload_n 24 dX3_pass_23 rfl 2 rfl ?_
    refine j_iload_n 25 dX3_pass_24 rfl 4 rfl ?_
    refine j_callV0 (rest := []) 28 [0, 1, 2, 3, 4, 5, 6, 7, 8, 9, 10] (c_X3_isFixed g sa p0 sb sc sd (putD yD (yD 0 0) (pushA kd h (yD 1))) p1 p2 p3 p4 p5 p6 yL h k sk hP hk hh) [.int (gB (srtO (plP yL) sk h = 2))] [(sa, .inr (3, [.ref p0, .int (nI (yD 0 0)), .ref sb, .ref sc, .ref sd])), (sb, .inl (g.2.1 0, 5, .inl (nF ((putD yD (yD 0 0) (pushA kd h (yD 1))) 1)))), (sc, .inl (g.2.1 0, 6, .inl (nF ((putD yD (yD 0 0) (pushA kd h (yD 1))) 2)))), (sd, .inl (g.2.1 0, 6, .inl (nF ((putD yD (yD 0 0) (pushA kd h (yD 1))) 3)))), (p0, .inr (0, [.int (nI (yL 0 0)), .int (nI (yL 0 1)), .int (nI (yL 0 2)), .ref p1, .ref p2, .ref p3, .ref p4, .ref p5, .ref p6])), (p1, .inl (g.2.1 0, 5, .inl (nF (yL 1)))), (p2, .inl (g.2.1 0, 5, .inl (nF (yL 2)))), (p3, .inl (g.2.1 0, 5, .inl (nF (yL 3)))), (p4, .inl (g.2.1 0, 5, .inl (nF (yL 4)))), (p5, .inl (g.2.1 0, 8, .inl (nF (yL 5)))), (p6, .inl (g.2.1 0, 8, .inl (nF (yL 6))))] dX3_pass_25 rfl cv_X3_64 rfl rfl rfl rfl 0 rfl rfl (gLe rfl) (gLe rfl) (gLe rfl) (gLe rfl) (gLe rfl) rfl rfl ?_
    refine j_if_eqB 31 34 dX3_pass_28 rfl rfl (fun h28 => ?_) (fun h28 => ?_)
    ·
      refine j_iload_n 35 dX3_pass_34 rfl 3 rfl ?_
      refine j_iload 37 dX3_pass_35 rfl 0 rfl ?_
      refine j_callSE (rest := []) 40 (c_X3_sideTaken g kd (yD 0 0 / 2 ^ h % 2) hk5 (by omega)) [.int (nI (sdT kd (yD 0 0 / 2 ^ h % 2)))] dX3_pass_37 rfl cs_X3_68 rfl rfl (gLe rfl) (gLe rfl) (gLe rfl) (gLe rfl) rfl ?_
      refine j_topN (sdT kd (yD 0 0 / 2 ^ h % 2)) (toA (plP yL) sk kd h (yD 0 0)) (sdT_to h28) ?_
      refine j_istore 42 [(5, .int (nI (toA (plP yL) sk kd h (yD 0 0)))), (4, .int (nI (yD 0 0 / 2 ^ h % 2))), (0, .ref sa), (1, .int (nI h)), (2, .int (nI kd)), (3, .int k)] dX3_pass_40 rfl (by decide) rfl ?_
      refine j_aload_n 43 dX3_pass_42 rfl 2 rfl ?_
      refine j_iload_n 44 dX3_pass_43 rfl 3 rfl ?_
      refine j_iload_n 45 dX3_pass_44 rfl 4 rfl ?_
      refine j_iload 47 dX3_pass_45 rfl 0 rfl ?_
      refine j_callV0 (rest := []) 50 [0, 1, 2, 3, 4, 5, 6, 7, 8, 9, 10] (c_X3_sideLeftBehind g sa p0 sb sc sd (putD yD (yD 0 0) (pushA kd h (yD 1))) p1 p2 p3 p4 p5 p6 yL h kd (toA (plP yL) sk kd h (yD 0 0)) hP hh hk5 toA_le hpu) [.int (nI (sdB (plP yL) ((putD yD (yD 0 0) (pushA kd h (yD 1))) 1) h kd (toA (plP yL) sk kd h (yD 0 0))))] [(sa, .inr (3, [.ref p0, .int (nI (yD 0 0)), .ref sb, .ref sc, .ref sd])), (sb, .inl (g.2.1 0, 5, .inl (nF ((putD yD (yD 0 0) (pushA kd h (yD 1))) 1)))), (sc, .inl (g.2.1 0, 6, .inl (nF ((putD yD (yD 0 0) (pushA kd h (yD 1))) 2)))), (sd, .inl (g.2.1 0, 6, .inl (nF ((putD yD (yD 0 0) (pushA kd h (yD 1))) 3)))), (p0, .inr (0, [.int (nI (yL 0 0)), .int (nI (yL 0 1)), .int (nI (yL 0 2)), .ref p1, .ref p2, .ref p3, .ref p4, .ref p5, .ref p6])), (p1, .inl (g.2.1 0, 5, .inl (nF (yL 1)))), (p2, .inl (g.2.1 0, 5, .inl (nF (yL 2)))), (p3, .inl (g.2.1 0, 5, .inl (nF (yL 3)))), (p4, .inl (g.2.1 0, 5, .inl (nF (yL 4)))), (p5, .inl (g.2.1 0, 8, .inl (nF (yL 5)))), (p6, .inl (g.2.1 0, 8, .inl (nF (yL 6))))] dX3_pass_47 rfl cv_X3_72 rfl rfl rfl rfl 0 rfl rfl (gLe rfl) (gLe rfl) (gLe rfl) (gLe rfl) (gLe rfl) rfl rfl ?_
      refine j_topN (sdB (plP yL) ((putD yD (yD 0 0) (pushA kd h (yD 1))) 1) h kd (toA (plP yL) sk kd h (yD 0 0))) (sdB (plP yL) (pushA kd h (yD 1)) h kd (toA (plP yL) sk kd h (yD 0 0))) rfl ?_
      refine j_iload 52 dX3_pass_50 rfl 1 rfl ?_
      have hsb : sdB (plP yL) (pushA kd h (yD 1)) h kd (toA (plP yL) sk kd h (yD 0 0)) ≤ 1 := by exact sdB_le toA_le
      refine j_icmp_eqN (sdB (plP yL) (pushA kd h (yD 1)) h kd (toA (plP yL) sk kd h (yD 0 0))) (yD 0 0 / 2 ^ h % 2) 55 108 dX3_pass_52 rfl rfl (by have z0 := hsb; omega) (by have z0 := hx2; omega) (fun h52 => ?_) (fun h52 => ?_)
      ·
        refine j_iload 110 dX3_pass_108 rfl 0 rfl ?_
        have hst : stA (plP yL) sk kd h (yD 0 0) (yD 1) = yD 0 0 := if_neg ((sdB_iff h28 hs2).mp h52)
        refine j_iretI dX3_pass_110 rfl ⟨gLe rfl, gLe rfl, rfl, ?_⟩
        rw [hst]; rfl
      ·
        refine j_aload_n 56 dX3_pass_55 rfl 2 rfl ?_
        refine j_dup 57 dX3_pass_56 rfl rfl ?_
        refine j_getf 60 0 dX3_pass_57 rfl fd_X3_9 rfl rfl ?_
        refine j_iconst (v := (1 : Int32)) 61 dX3_pass_60 rfl (by decide) ?_
        refine j_iload_n 62 dX3_pass_61 rfl 3 rfl ?_
        refine j_ishlN 1 h 63 dX3_pass_62 rfl (by omega) (by have := pow_lt32 h5; omega) ?_
        refine j_topN (1 * 2 ^ h) (2 ^ h) (Nat.one_mul _) ?_
        refine j_ixorN (yD 0 0) (2 ^ h) 64 dX3_pass_63 rfl ?_
        refine j_putf 67 0 [(sa, .inr (3, [.ref p0, .int (nI ((yD 0 0) ^^^ (2 ^ h))), .ref sb, .ref sc, .ref sd])), (sb, .inl (g.2.1 0, 5, .inl (nF ((putD yD (yD 0 0) (pushA kd h (yD 1))) 1)))), (sc, .inl (g.2.1 0, 6, .inl (nF ((putD yD (yD 0 0) (pushA kd h (yD 1))) 2)))), (sd, .inl (g.2.1 0, 6, .inl (nF ((putD yD (yD 0 0) (pushA kd h (yD 1))) 3)))), (p0, .inr (0, [.int (nI (yL 0 0)), .int (nI (yL 0 1)), .int (nI (yL 0 2)), .ref p1, .ref p2, .ref p3, .ref p4, .ref p5, .ref p6])), (p1, .inl (g.2.1 0, 5, .inl (nF (yL 1)))), (p2, .inl (g.2.1 0, 5, .inl (nF (yL 2)))), (p3, .inl (g.2.1 0, 5, .inl (nF (yL 3)))), (p4, .inl (g.2.1 0, 5, .inl (nF (yL 4)))), (p5, .inl (g.2.1 0, 8, .inl (nF (yL 5)))), (p6, .inl (g.2.1 0, 8, .inl (nF (yL 6))))] dX3_pass_64 rfl fd_X3_9 rfl rfl rfl (gLe rfl) rfl ?_
        refine j_ws [(sa, .inr (3, [.ref p0, .int (nI (yD 0 0 ^^^ 2 ^ h)), .ref sb, .ref sc, .ref sd])), (sb, .inl (g.2.1 0, 5, .inl (nF ((putD yD (yD 0 0 ^^^ 2 ^ h) (pushA kd h (yD 1))) 1)))), (sc, .inl (g.2.1 0, 6, .inl (nF ((putD yD (yD 0 0 ^^^ 2 ^ h) (pushA kd h (yD 1))) 2)))), (sd, .inl (g.2.1 0, 6, .inl (nF ((putD yD (yD 0 0 ^^^ 2 ^ h) (pushA kd h (yD 1))) 3)))), (p0, .inr (0, [.int (nI (yL 0 0)), .int (nI (yL 0 1)), .int (nI (yL 0 2)), .ref p1, .ref p2, .ref p3, .ref p4, .ref p5, .ref p6])), (p1, .inl (g.2.1 0, 5, .inl (nF (yL 1)))), (p2, .inl (g.2.1 0, 5, .inl (nF (yL 2)))), (p3, .inl (g.2.1 0, 5, .inl (nF (yL 3)))), (p4, .inl (g.2.1 0, 5, .inl (nF (yL 4)))), (p5, .inl (g.2.1 0, 8, .inl (nF (yL 5)))), (p6, .inl (g.2.1 0, 8, .inl (nF (yL 6))))] rfl ?_
        refine j_aload_n 68 dX3_pass_67 rfl 2 rfl ?_
        refine j_getf 71 0 dX3_pass_68 rfl fd_X3_25 rfl rfl ?_
        refine j_getf 74 4 dX3_pass_71 rfl fd_X3_75 rfl rfl ?_
        refine j_iload_n 75 dX3_pass_74 rfl 3 rfl ?_
        refine j_ialdN h 76 8 dX3_pass_75 rfl rfl h5 (by decide) ?_
        refine j_iconst (v := (1 : Int32)) 77 dX3_pass_76 rfl (by decide) ?_
        refine j_isub 78 dX3_pass_77 rfl ?_
        refine j_istore 80 [(6, .int ((nI ((yL 4) h)) - (1 : Int32))), (5, .int (nI (toA (plP yL) sk kd h (yD 0 0)))), (4, .int (nI (yD 0 0 / 2 ^ h % 2))), (0, .ref sa), (1, .int (nI h)), (2, .int (nI kd)), (3, .int k)] dX3_pass_78 rfl (by decide) rfl ?_
        refine j_iload 82 dX3_pass_80 rfl 0 rfl ?_
        refine j_if_lt 85 108 dX3_pass_82 rfl rfl (fun h82 => ?_) (fun h82 => ?_)
        ·
          refine j_iload 110 dX3_pass_108 rfl 1 rfl ?_
          have hst : stA (plP yL) sk kd h (yD 0 0) (yD 1) = yD 0 0 ^^^ 2 ^ h := ((if_pos (Classical.byContradiction fun y => h52 ((sdB_iff h28 hs2).mpr y)) : stA (plP yL) sk kd h (yD 0 0) (yD 1) = turnA (plP yL) sk h (yD 0 0))).trans (by rw [turnA, if_neg (fun y => by have y1 := y.1; have y2 := (pred_neg (by omega)).mp h82; rw [plP_t h5] at y1; omega)])
          refine j_iretI dX3_pass_110 rfl ⟨gLe rfl, gLe rfl, rfl, ?_⟩
          rw [hst]; rfl
        ·
          have hty : ¬ yL 4 h = 0 := fun y => h82 ((pred_neg (by omega)).mpr y)
          refine j_lvs [(6, .int (nI (yL 4 h - 1))), (5, .int (nI (toA (plP yL) sk kd h (yD 0 0)))), (4, .int (nI (yD 0 0 / 2 ^ h % 2))), (0, .ref sa), (1, .int (nI h)), (2, .int (nI kd)), (3, .int k)] (by rw [nI_p (by omega)]) ?_
          refine j_aload_n 86 dX3_pass_85 rfl 3 rfl ?_
          refine j_iload 88 dX3_pass_86 rfl 0 rfl ?_
          refine j_iload_n 89 dX3_pass_88 rfl 6 rfl ?_
          refine j_callV0 (rest := []) 92 [0, 1, 2, 3, 4, 5, 6, 7, 8, 9, 10] (c_X3_isFixed g sa p0 sb sc sd (putD yD (yD 0 0 ^^^ 2 ^ h) (pushA kd h (yD 1))) p1 p2 p3 p4 p5 p6 yL (yL 4 h - 1) k sk hP hk (by omega)) [.int (gB (srtO (plP yL) sk (yL 4 h - 1) = 2))] [(sa, .inr (3, [.ref p0, .int (nI (yD 0 0 ^^^ 2 ^ h)), .ref sb, .ref sc, .ref sd])), (sb, .inl (g.2.1 0, 5, .inl (nF ((putD yD (yD 0 0 ^^^ 2 ^ h) (pushA kd h (yD 1))) 1)))), (sc, .inl (g.2.1 0, 6, .inl (nF ((putD yD (yD 0 0 ^^^ 2 ^ h) (pushA kd h (yD 1))) 2)))), (sd, .inl (g.2.1 0, 6, .inl (nF ((putD yD (yD 0 0 ^^^ 2 ^ h) (pushA kd h (yD 1))) 3)))), (p0, .inr (0, [.int (nI (yL 0 0)), .int (nI (yL 0 1)), .int (nI (yL 0 2)), .ref p1, .ref p2, .ref p3, .ref p4, .ref p5, .ref p6])), (p1, .inl (g.2.1 0, 5, .inl (nF (yL 1)))), (p2, .inl (g.2.1 0, 5, .inl (nF (yL 2)))), (p3, .inl (g.2.1 0, 5, .inl (nF (yL 3)))), (p4, .inl (g.2.1 0, 5, .inl (nF (yL 4)))), (p5, .inl (g.2.1 0, 8, .inl (nF (yL 5)))), (p6, .inl (g.2.1 0, 8, .inl (nF (yL 6))))] dX3_pass_89 rfl cv_X3_64 rfl rfl rfl rfl 0 rfl rfl (gLe rfl) (gLe rfl) (gLe rfl) (gLe rfl) (gLe rfl) rfl rfl ?_
          refine j_if_neB 95 108 dX3_pass_92 rfl rfl (fun h92 => ?_) (fun h92 => ?_)
          ·
            refine j_iload 110 dX3_pass_108 rfl 1 rfl ?_
            have hst : stA (plP yL) sk kd h (yD 0 0) (yD 1) = yD 0 0 ^^^ 2 ^ h := ((if_pos (Classical.byContradiction fun y => h52 ((sdB_iff h28 hs2).mpr y)) : stA (plP yL) sk kd h (yD 0 0) (yD 1) = turnA (plP yL) sk h (yD 0 0))).trans (by rw [turnA, if_neg (fun y => y.2 (by rw [plP_t h5]; exact h92))])
            refine j_iretI dX3_pass_110 rfl ⟨gLe rfl, gLe rfl, rfl, ?_⟩
            rw [hst]; rfl
          ·
            refine j_aload_n 96 dX3_pass_95 rfl 3 rfl ?_
            refine j_dup 97 dX3_pass_96 rfl rfl ?_
            refine j_getf 100 0 dX3_pass_97 rfl fd_X3_9 rfl rfl ?_
            refine j_iconst (v := (1 : Int32)) 101 dX3_pass_100 rfl (by decide) ?_
            refine j_iload 103 dX3_pass_101 rfl 0 rfl ?_
            refine j_ishlN 1 (yL 4 h - 1) 104 dX3_pass_103 rfl (by omega) (by have := pow_lt32 (show yL 4 h - 1 < 5 by omega); omega) ?_
            refine j_topN (1 * 2 ^ (yL 4 h - 1)) (2 ^ (yL 4 h - 1)) (Nat.one_mul _) ?_
            refine j_ixorN (yD 0 0 ^^^ 2 ^ h) (2 ^ (yL 4 h - 1)) 105 dX3_pass_104 rfl ?_
            refine j_putf 108 0 [(sa, .inr (3, [.ref p0, .int (nI ((yD 0 0 ^^^ 2 ^ h) ^^^ (2 ^ (yL 4 h - 1)))), .ref sb, .ref sc, .ref sd])), (sb, .inl (g.2.1 0, 5, .inl (nF ((putD yD (yD 0 0 ^^^ 2 ^ h) (pushA kd h (yD 1))) 1)))), (sc, .inl (g.2.1 0, 6, .inl (nF ((putD yD (yD 0 0 ^^^ 2 ^ h) (pushA kd h (yD 1))) 2)))), (sd, .inl (g.2.1 0, 6, .inl (nF ((putD yD (yD 0 0 ^^^ 2 ^ h) (pushA kd h (yD 1))) 3)))), (p0, .inr (0, [.int (nI (yL 0 0)), .int (nI (yL 0 1)), .int (nI (yL 0 2)), .ref p1, .ref p2, .ref p3, .ref p4, .ref p5, .ref p6])), (p1, .inl (g.2.1 0, 5, .inl (nF (yL 1)))), (p2, .inl (g.2.1 0, 5, .inl (nF (yL 2)))), (p3, .inl (g.2.1 0, 5, .inl (nF (yL 3)))), (p4, .inl (g.2.1 0, 5, .inl (nF (yL 4)))), (p5, .inl (g.2.1 0, 8, .inl (nF (yL 5)))), (p6, .inl (g.2.1 0, 8, .inl (nF (yL 6))))] dX3_pass_105 rfl fd_X3_9 rfl rfl rfl (gLe rfl) rfl ?_
            refine j_iload 110 dX3_pass_108 rfl 1 rfl ?_
            have hst : stA (plP yL) sk kd h (yD 0 0) (yD 1) = (yD 0 0 ^^^ 2 ^ h) ^^^ (2 ^ (yL 4 h - 1)) := ((if_pos (Classical.byContradiction fun y => h52 ((sdB_iff h28 hs2).mpr y)) : stA (plP yL) sk kd h (yD 0 0) (yD 1) = turnA (plP yL) sk h (yD 0 0))).trans (by rw [turnA, if_pos ⟨by rw [plP_t h5]; omega, by rw [plP_t h5]; exact h92⟩, plP_t h5])
            refine j_iretI dX3_pass_110 rfl ⟨gLe rfl, gLe rfl, rfl, ?_⟩
            rw [hst]; rfl
    ·
      refine j_iload 33 dX3_pass_31 rfl 0 rfl ?_
      have hst : stA (plP yL) sk kd h (yD 0 0) (yD 1) = yD 0 0 := if_neg (fun y => by rcases y with ⟨_, y | ⟨y, _⟩⟩ | ⟨_, y⟩; (rw [h28] at y; cases y); (rw [h28] at y; cases y); exact y (by rw [toA, if_pos h28]))
      refine j_iretI dX3_pass_33 rfl ⟨gLe rfl, gLe rfl, ?_, ?_⟩
      · rw [toA, if_pos h28]
      · rw [hst]; rfl
