theorem lcmp_lt {x z : Int64} : lg_cmp x z < 0 ↔ x < z := by
  unfold lg_cmp
  split
  · rename_i h; constructor
    · intro q; exact absurd q (by decide)
    · intro q; exact absurd (Int64.lt_trans q h) Int64.lt_irrefl
  · split
    · rename_i h h2; subst h2; constructor
      · intro q; exact absurd q (by decide)
      · intro q; exact absurd q Int64.lt_irrefl
    · rename_i h h2; constructor
      · intro _
        rcases Int64.lt_or_le x z with q | q
        · exact q
        · exact absurd (Int64.le_antisymm (Int64.not_lt.mp h) q) h2
      · intro _; decide
theorem lcmp_gt {x z : Int64} : 0 < lg_cmp x z ↔ z < x := by
  unfold lg_cmp
  split
  · rename_i h; constructor
    · intro _; exact h
    · intro _; decide
  · rename_i h; split
    · constructor
      · intro q; exact absurd q (by decide)
      · intro q; exact absurd q h
    · constructor
      · intro q; exact absurd q (by decide)
      · intro q; exact absurd q h
theorem w64_le (a b : Int32) : a.toInt64 ≤ b.toInt64 ↔ a ≤ b := by
  rw [Int64.le_iff_toInt_le, Int32.le_iff_toInt_le, Int32.toInt_toInt64, Int32.toInt_toInt64]
set_option maxRecDepth 20000 in
theorem c_X6_in (g : gG) (v : Int64) (a : Int64) (b : Int64)   : gCon g mX6_in 0 0 0 [.long v, .long a, .long b] [] (fun rv ws' => rv = some (.int (gB (a ≤ v ∧ v ≤ b))) ∧ ws' = []) := by
  refine gCon.of (lv := [(0, .long v), (2, .long a), (4, .long b)]) (by decide) (gLe rfl) rfl ?_
  refine j_lload_n 1 dX6_in_0 rfl 0 rfl ?_
  refine j_lload_n 2 dX6_in_1 rfl 1 rfl ?_
  refine j_lcmp 3 dX6_in_2 rfl ?_
  refine j_if_lt 6 17 dX6_in_3 rfl rfl (fun h3 => ?_) (fun h3 => ?_)
  ·
    refine j_iconst (v := (0 : Int32)) 18 dX6_in_17 rfl (by decide) ?_
    refine j_iret0 (c := a ≤ v ∧ v ≤ b) dX6_in_18 rfl ?_ ⟨gLe rfl, gLe rfl, rfl, rfl⟩
    first
      | exact ⟨Int64.not_lt.mp (fun q => h3 (lcmp_lt.mpr q)), Int64.not_lt.mp (fun q => h10 (lcmp_gt.mpr q))⟩
      | exact fun q => absurd (lcmp_lt.mp h3) (Int64.not_lt.mpr q.1)
      | exact fun q => absurd (lcmp_gt.mp h10) (Int64.not_lt.mpr q.2)
  ·
    refine j_lload_n 7 dX6_in_6 rfl 0 rfl ?_
    refine j_lload 9 dX6_in_7 rfl 2 rfl ?_
    refine j_lcmp 10 dX6_in_9 rfl ?_
    refine j_if_gt 13 17 dX6_in_10 rfl rfl (fun h10 => ?_) (fun h10 => ?_)
    ·
      refine j_iconst (v := (0 : Int32)) 18 dX6_in_17 rfl (by decide) ?_
      refine j_iret0 (c := a ≤ v ∧ v ≤ b) dX6_in_18 rfl ?_ ⟨gLe rfl, gLe rfl, rfl, rfl⟩
      first
        | exact ⟨Int64.not_lt.mp (fun q => h3 (lcmp_lt.mpr q)), Int64.not_lt.mp (fun q => h10 (lcmp_gt.mpr q))⟩
        | exact fun q => absurd (lcmp_lt.mp h3) (Int64.not_lt.mpr q.1)
        | exact fun q => absurd (lcmp_gt.mp h10) (Int64.not_lt.mpr q.2)
    ·
      refine j_iconst (v := (1 : Int32)) 14 dX6_in_13 rfl (by decide) ?_
      refine j_goto 18 dX6_in_14 rfl ?_
      refine j_iret1 (c := a ≤ v ∧ v ≤ b) dX6_in_18 rfl ?_ ⟨gLe rfl, gLe rfl, rfl, rfl⟩
      first
        | exact ⟨Int64.not_lt.mp (fun q => h3 (lcmp_lt.mpr q)), Int64.not_lt.mp (fun q => h10 (lcmp_gt.mpr q))⟩
        | exact fun q => absurd (lcmp_lt.mp h3) (Int64.not_lt.mpr q.1)
        | exact fun q => absurd (lcmp_gt.mp h10) (Int64.not_lt.mpr q.2)
theorem c_in32 (g : gG) (v a b : Int32) (A B : Int64) (hA : a.toInt64 = A) (hB : b.toInt64 = B) : gCon g mX6_in 0 0 0 [.long v.toInt64, .long A, .long B] [] (fun rv ws' => rv = some (.int (gB (a ≤ v ∧ v ≤ b))) ∧ ws' = []) := by
  subst hA; subst hB
  have h := c_X6_in g v.toInt64 a.toInt64 b.toInt64
  have e : gB (a.toInt64 ≤ v.toInt64 ∧ v.toInt64 ≤ b.toInt64) = gB (a ≤ v ∧ v ≤ b) := gB_iff (by rw [w64_le, w64_le])
  rw [e] at h
  exact h
set_option maxRecDepth 20000 in
theorem c_X6_isRow (g : gG) (r : Int32)   : gCon g mX6_isRow 1 0 0 [.int r] [] (fun rv ws' => rv = some (.int (gB ((0 : Int32) ≤ r ∧ r ≤ (7 : Int32)))) ∧ ws' = []) := by
  refine gCon.of (lv := [(0, .int r)]) (by decide) (gLe rfl) rfl ?_
  refine j_iload_n 1 dX6_isRow_0 rfl 0 rfl ?_
  refine j_i2l 2 dX6_isRow_1 rfl ?_
  refine j_lconst (v := 0) 3 dX6_isRow_2 rfl (by decide) ?_
  refine j_ldc2 (v := (7 : Int64)) 6 dX6_isRow_3 rfl wd_4_135 ?_
  refine j_callSE (rest := []) 9 (c_in32 g r (0 : Int32) (7 : Int32) (0 : Int64) (7 : Int64) (by decide) (by decide)) [.int (gB ((0 : Int32) ≤ r ∧ r ≤ (7 : Int32)))] dX6_isRow_6 rfl cs_X6_61 rfl rfl (gLe rfl) (gLe rfl) (gLe rfl) (gLe rfl) rfl ?_
  exact j_iretB dX6_isRow_9 rfl ⟨gLe rfl, gLe rfl, rfl, rfl⟩
set_option maxRecDepth 20000 in
theorem c_X6_find (g : gG) (q : Nat → Nat) (Na : Nat → Nat → Nat) (Ia : Nat → Nat → Int32) (Ns : Nat → Nat) (Is : Nat → Int32) (w : Nat)   : gCon g mX6_find 0 0 0 [.ref (q 26), .int (nI w)] (wM g q Na Ia Ns Is) (fun rv ws' => rv = some (.int ((-1000010 : Int32) - nI w)) ∧ ws' = (wM g q Na Ia (va_up Ns 6 w) Is)) := by
  refine gCon.of (lv := [(0, .ref (q 26)), (1, .int (nI w))]) (by decide) (gLe rfl) rfl ?_
  refine j_aload_n 1 dX6_find_0 rfl 0 rfl ?_
  refine j_iload_n 2 dX6_find_1 rfl 1 rfl ?_
  refine j_putf 5 0 (wM g q Na Ia (va_up Ns 6 w) Is) dX6_find_2 rfl fd_X6_55 rfl rfl rfl (gLe rfl) rfl ?_
  refine j_ldc (v := (-1000010 : Int32)) 7 dX6_find_5 rfl wd_4_145 ?_
  refine j_iload_n 8 dX6_find_7 rfl 1 rfl ?_
  refine j_isub 9 dX6_find_8 rfl ?_
  refine j_iretI dX6_find_9 rfl ⟨gLe rfl, gLe rfl, ?_⟩
  exact ⟨rfl, rfl⟩
set_option maxRecDepth 20000 in
theorem c_X6_give (g : gG) (q : Nat → Nat) (Na : Nat → Nat → Nat) (Ia : Nat → Nat → Int32) (Ns : Nat → Nat) (Is : Nat → Int32) (v : Int32)   : gCon g mX6_give 0 0 0 [.ref (q 26), .int v] (wM g q Na Ia Ns Is) (fun rv ws' => rv = some (.int v) ∧ ws' = (wM g q Na Ia (va_up Ns 6 0) Is)) := by
  refine gCon.of (lv := [(0, .ref (q 26)), (1, .int v)]) (by decide) (gLe rfl) rfl ?_
  refine j_aload_n 1 dX6_give_0 rfl 0 rfl ?_
  refine j_iconst (v := (0 : Int32)) 2 dX6_give_1 rfl (by decide) ?_
  refine j_putf 5 0 (wM g q Na Ia (va_up Ns 6 0) Is) dX6_give_2 rfl fd_X6_55 rfl rfl rfl (gLe rfl) rfl ?_
  refine j_iload_n 6 dX6_give_5 rfl 1 rfl ?_
  refine j_iretI dX6_give_6 rfl ⟨gLe rfl, gLe rfl, ?_⟩
  exact ⟨rfl, rfl⟩
