abbrev inR (x : Int32) (n : Nat) : Prop := 0 ≤ x.toInt ∧ x.toInt < (n : Int)
theorem inR_nI {a n : Nat} (ha : a < 2147483648) : inR (nI a) n ↔ a < n := by
  unfold inR
  rw [nI_toInt ha]
  omega
theorem inR_of {x : Int32} {n : Nat} (h : inR x n) : ∃ a : Nat, a < n ∧ x = nI a := by
  refine ⟨x.toInt.toNat, by have := h.1; have := h.2; omega, ?_⟩
  apply Int32.toInt_inj.mp
  rw [nI_toInt]
  · have := h.1; omega
  · have := Int32.toInt_lt x; omega
theorem inR_le {x c : Int32} {n : Nat} (hc : c.toInt = (n : Int) - 1) : (0 ≤ x ∧ x ≤ c) ↔ inR x n := by
  unfold inR
  rw [Int32.le_iff_toInt_le, Int32.le_iff_toInt_le, hc]
  have e0 : (0 : Int32).toInt = 0 := by decide
  rw [e0]
  omega
theorem nI_pred_toInt {n : Nat} (hn : n < 2147483648) : (nI n - 1).toInt = (n : Int) - 1 := by
  cases n with
  | zero => decide
  | succ n =>
    rw [nI_pred, nI_toInt (by omega)]
    omega
theorem c_inR (g : gG) (v : Int32) (n : Nat) (B : Int64) (c : Int32) (hc : c.toInt64 = B ∧ c.toInt = (n : Int) - 1) : gCon g mX6_in 0 0 0 [.long v.toInt64, .long 0, .long B] [] (fun rv ws' => rv = some (.int (gB (inR v n))) ∧ ws' = []) := by
  have h := c_in32 g v 0 c 0 B (by decide) hc.1
  have e : gB ((0 : Int32) ≤ v ∧ v ≤ c) = gB (inR v n) := gB_iff (inR_le hc.2)
  rw [e] at h
  exact h
abbrev spn (s : Nat) (i n : Int32) : Prop := 0 ≤ i.toInt ∧ 0 ≤ n.toInt ∧ i.toInt + n.toInt ≤ (s : Int)
theorem spn_gt {s : Nat} {i n : Int32} (hs : s < 1000) : (nI s).toInt64 < i.toInt64 + n.toInt64 ↔ (s : Int) < i.toInt + n.toInt := by
  have a1 := Int32.toInt_lt i
  have a2 := Int32.le_toInt i
  have b1 := Int32.toInt_lt n
  have b2 := Int32.le_toInt n
  rw [Int64.lt_iff_toInt_lt, Int64.toInt_add, Int32.toInt_toInt64, Int32.toInt_toInt64, Int32.toInt_toInt64, nI_toInt (by omega), Int.bmod_eq_of_le (by omega) (by omega)]
theorem i32_neg {x : Int32} : x < 0 ↔ x.toInt < 0 := by
  rw [Int32.lt_iff_toInt_lt]
  have e0 : (0 : Int32).toInt = 0 := by decide
  rw [e0]
def rfK (ln : Int32) (s : Nat) (i n : Int32) : Nat := if ln = -1000000 then 1 else if spn s i n then 0 else 2
def fndA (k : Nat) : Int32 := if k = 0 then 0 else -1000010 - nI k
def stsA (old k : Nat) : Nat := if k = 0 then old else k
def inP (R : Nat → Nat) : Nat := 0 + R 46 + R 47 + R 48 + R 49 + R 50 + R 51
theorem cpy_0 {α : Type} (f g : Nat → α) (sp dp : Nat) : va_cpy f g sp dp 0 = g := by
  funext k
  simp only [va_cpy]
  rw [if_neg (by omega)]
theorem cpy_s {α : Type} (f g : Nat → α) (sp dp i : Nat) : va_up (va_cpy f g sp dp i) (dp + i) (f (sp + i)) = va_cpy f g sp dp (i + 1) := by
  funext k
  simp only [va_cpy, va_up]
  by_cases h : k = dp + i
  · rw [if_pos h, if_pos (by omega)]
    congr 1; omega
  · rw [if_neg h]
    by_cases h2 : dp ≤ k ∧ k < dp + i
    · rw [if_pos h2, if_pos (by omega)]
    · rw [if_neg h2, if_neg (by omega)]
theorem cpy_s0 {α : Type} (f g : Nat → α) (sp i : Nat) : va_up (va_cpy f g sp 0 i) i (f (sp + i)) = va_cpy f g sp 0 (i + 1) := by
  have h := cpy_s f g sp 0 i
  rwa [Nat.zero_add] at h
theorem cpy_out {α : Type} {f g : Nat → α} {sp dp n k : Nat} (h : k < dp ∨ dp + n ≤ k) : va_cpy f g sp dp n k = g k := by
  simp only [va_cpy]
  rw [if_neg (by omega)]
theorem cpy_in {α : Type} {f g : Nat → α} {sp dp n k : Nat} (h : dp ≤ k) (h2 : k < dp + n) : va_cpy f g sp dp n k = f (sp + (k - dp)) := by
  simp only [va_cpy]
  rw [if_pos ⟨h, h2⟩]
/-- what is kept when a past is kept: 24 at most, the oldest goes -/
def kpP (pa : Nat → Nat) (R : Nat → Nat) (pm : Nat) : Nat → Nat := if pm = 24 then va_cpy R (va_cpy pa pa 18 0 414) 40 414 18 else va_cpy R pa 40 (18 * pm) 18
def kpN (pm : Nat) : Nat := if pm = 24 then 24 else pm + 1
set_option maxRecDepth 20000 in
theorem c_X6_isBeast (g : gG) (q : Nat → Nat) (Na : Nat → Nat → Nat) (Ia : Nat → Nat → Int32) (Ns : Nat → Nat) (Is : Nat → Int32) (b : Int32)  (hb3 : Na 0 3 < 1000000) : gCon g mX6_isBeast 1 0 0 [.ref (q 26), .int b] (wM g q Na Ia Ns Is) (fun rv ws' => rv = some (.int (gB (inR b ((Na 0) 3)))) ∧ ws' = (wM g q Na Ia Ns Is)) := by
  refine gCon.of (lv := [(0, .ref (q 26)), (1, .int b)]) (by decide) (gLe rfl) rfl ?_
  refine j_iload_n 1 dX6_isBeast_0 rfl 1 rfl ?_
  refine j_i2l 2 dX6_isBeast_1 rfl ?_
  refine j_lconst (v := 0) 3 dX6_isBeast_2 rfl (by decide) ?_
  refine j_aload_n 4 dX6_isBeast_3 rfl 0 rfl ?_
  refine j_getf 7 0 dX6_isBeast_4 rfl fd_X6_7 rfl rfl ?_
  refine j_iconst (v := (3 : Int32)) 8 dX6_isBeast_7 rfl (by decide) ?_
  refine j_ialdN 3 9 1 dX6_isBeast_8 rfl rfl (by decide) (by decide) ?_
  refine j_iconst (v := (1 : Int32)) 10 dX6_isBeast_9 rfl (by decide) ?_
  refine j_isub 11 dX6_isBeast_10 rfl ?_
  refine j_i2l 12 dX6_isBeast_11 rfl ?_
  refine j_callSE (rest := []) 15 (c_inR g b (Na 0 3) (((nI ((Na 0) 3)) - (1 : Int32)).toInt64) (nI (Na 0 3) - 1) ⟨rfl, nI_pred_toInt (by omega)⟩) [.int (gB (inR b (Na 0 3)))] dX6_isBeast_12 rfl cs_X6_61 rfl rfl (gLe rfl) (gLe rfl) (gLe rfl) (gLe rfl) rfl ?_
  refine j_iretB dX6_isBeast_15 rfl ⟨gLe rfl, gLe rfl, congrArg (fun z => some (Value.int z)) (gB_iff ?_), rfl⟩
  exact Iff.rfl
set_option maxRecDepth 20000 in
theorem c_X6_isPen (g : gG) (q : Nat → Nat) (Na : Nat → Nat → Nat) (Ia : Nat → Nat → Int32) (Ns : Nat → Nat) (Is : Nat → Int32) (b : Int32)  (hb3 : Na 0 1 < 1000000) : gCon g mX6_isPen 1 0 0 [.ref (q 26), .int b] (wM g q Na Ia Ns Is) (fun rv ws' => rv = some (.int (gB (inR b ((Na 0) 1)))) ∧ ws' = (wM g q Na Ia Ns Is)) := by
  refine gCon.of (lv := [(0, .ref (q 26)), (1, .int b)]) (by decide) (gLe rfl) rfl ?_
  refine j_iload_n 1 dX6_isPen_0 rfl 1 rfl ?_
  refine j_i2l 2 dX6_isPen_1 rfl ?_
  refine j_lconst (v := 0) 3 dX6_isPen_2 rfl (by decide) ?_
  refine j_aload_n 4 dX6_isPen_3 rfl 0 rfl ?_
  refine j_getf 7 0 dX6_isPen_4 rfl fd_X6_7 rfl rfl ?_
  refine j_iconst (v := (1 : Int32)) 8 dX6_isPen_7 rfl (by decide) ?_
  refine j_ialdN 1 9 1 dX6_isPen_8 rfl rfl (by decide) (by decide) ?_
  refine j_iconst (v := (1 : Int32)) 10 dX6_isPen_9 rfl (by decide) ?_
  refine j_isub 11 dX6_isPen_10 rfl ?_
  refine j_i2l 12 dX6_isPen_11 rfl ?_
  refine j_callSE (rest := []) 15 (c_inR g b (Na 0 1) (((nI ((Na 0) 1)) - (1 : Int32)).toInt64) (nI (Na 0 1) - 1) ⟨rfl, nI_pred_toInt (by omega)⟩) [.int (gB (inR b (Na 0 1)))] dX6_isPen_12 rfl cs_X6_61 rfl rfl (gLe rfl) (gLe rfl) (gLe rfl) (gLe rfl) rfl ?_
  refine j_iretB dX6_isPen_15 rfl ⟨gLe rfl, gLe rfl, congrArg (fun z => some (Value.int z)) (gB_iff ?_), rfl⟩
  exact Iff.rfl
set_option maxRecDepth 20000 in
theorem c_X6_areStands (g : gG) (q : Nat → Nat) (Na : Nat → Nat → Nat) (Ia : Nat → Nat → Int32) (Ns : Nat → Nat) (Is : Nat → Int32) (b : Int32)  (hb3 : Na 0 2 ≤ 5) : gCon g mX6_areStands 1 0 0 [.ref (q 26), .int b] (wM g q Na Ia Ns Is) (fun rv ws' => rv = some (.int (gB (inR b (2 ^ (Na 0) 2)))) ∧ ws' = (wM g q Na Ia Ns Is)) := by
  refine gCon.of (lv := [(0, .ref (q 26)), (1, .int b)]) (by decide) (gLe rfl) rfl ?_
  refine j_iload_n 1 dX6_areStands_0 rfl 1 rfl ?_
  refine j_i2l 2 dX6_areStands_1 rfl ?_
  refine j_lconst (v := 0) 3 dX6_areStands_2 rfl (by decide) ?_
  refine j_iconst (v := (1 : Int32)) 4 dX6_areStands_3 rfl (by decide) ?_
  refine j_aload_n 5 dX6_areStands_4 rfl 0 rfl ?_
  refine j_getf 8 0 dX6_areStands_5 rfl fd_X6_7 rfl rfl ?_
  refine j_iconst (v := (2 : Int32)) 9 dX6_areStands_8 rfl (by decide) ?_
  refine j_ialdN 2 10 1 dX6_areStands_9 rfl rfl (by decide) (by decide) ?_
  refine j_ishlN 1 ((Na 0) 2) 11 dX6_areStands_10 rfl (by omega) (by rw [Nat.one_mul]; exact Nat.lt_of_le_of_lt (Nat.pow_le_pow_right (by decide) hb3) (by decide)) ?_
  refine j_topN (1 * 2 ^ ((Na 0) 2)) (2 ^ Na 0 2) (Nat.one_mul _) ?_
  refine j_iconst (v := (1 : Int32)) 12 dX6_areStands_11 rfl (by decide) ?_
  refine j_isub 13 dX6_areStands_12 rfl ?_
  refine j_i2l 14 dX6_areStands_13 rfl ?_
  refine j_callSE (rest := []) 17 (c_inR g b (2 ^ Na 0 2) (((nI (2 ^ Na 0 2)) - (1 : Int32)).toInt64) (nI (2 ^ Na 0 2) - 1) ⟨rfl, nI_pred_toInt (Nat.lt_of_le_of_lt (Nat.pow_le_pow_right (by decide) hb3) (by decide))⟩) [.int (gB (inR b (2 ^ Na 0 2)))] dX6_areStands_14 rfl cs_X6_61 rfl rfl (gLe rfl) (gLe rfl) (gLe rfl) (gLe rfl) rfl ?_
  refine j_iretB dX6_areStands_17 rfl ⟨gLe rfl, gLe rfl, congrArg (fun z => some (Value.int z)) (gB_iff ?_), rfl⟩
  exact Iff.rfl
set_option maxRecDepth 20000 in
theorem c_X6_isSpan (g : gG) (q : Nat → Nat) (Na : Nat → Nat → Nat) (Ia : Nat → Nat → Int32) (Ns : Nat → Nat) (Is : Nat → Int32) (r : Nat) (i : Int32) (n : Int32)  (hr : r < 8) (hz : Na 8 r < 1000) : gCon g mX6_isSpan 0 0 0 [.ref (q 26), .int (nI r), .int i, .int n] (wM g q Na Ia Ns Is) (fun rv ws' => rv = some (.int (gB (spn ((Na 8) r) i n))) ∧ ws' = (wM g q Na Ia Ns Is)) := by
  refine gCon.of (lv := [(0, .ref (q 26)), (1, .int (nI r)), (2, .int i), (3, .int n)]) (by decide) (gLe rfl) rfl ?_
  refine j_iload_n 1 dX6_isSpan_0 rfl 2 rfl ?_
  refine j_if_lt 4 28 dX6_isSpan_1 rfl rfl (fun h1 => ?_) (fun h1 => ?_)
  ·
    refine j_iconst (v := (0 : Int32)) 29 dX6_isSpan_28 rfl (by decide) ?_
    refine j_iret0 (c := spn ((Na 8) r) i n) dX6_isSpan_29 rfl ?_ ⟨gLe rfl, gLe rfl, rfl, rfl⟩
    first
      | exact ⟨Int.not_lt.mp (fun q => h1 (i32_neg.mpr q)), Int.not_lt.mp (fun q => h5 (i32_neg.mpr q)), Int.not_lt.mp (fun q => h21 (lcmp_gt.mpr ((spn_gt hz).mpr q)))⟩
      | exact fun q => absurd (i32_neg.mp h1) (Int.not_lt.mpr q.1)
      | exact fun q => absurd (i32_neg.mp h5) (Int.not_lt.mpr q.2.1)
      | exact fun q => absurd ((spn_gt hz).mp (lcmp_gt.mp h21)) (Int.not_lt.mpr q.2.2)
  ·
    refine j_iload_n 5 dX6_isSpan_4 rfl 3 rfl ?_
    refine j_if_lt 8 28 dX6_isSpan_5 rfl rfl (fun h5 => ?_) (fun h5 => ?_)
    ·
      refine j_iconst (v := (0 : Int32)) 29 dX6_isSpan_28 rfl (by decide) ?_
      refine j_iret0 (c := spn ((Na 8) r) i n) dX6_isSpan_29 rfl ?_ ⟨gLe rfl, gLe rfl, rfl, rfl⟩
      first
        | exact ⟨Int.not_lt.mp (fun q => h1 (i32_neg.mpr q)), Int.not_lt.mp (fun q => h5 (i32_neg.mpr q)), Int.not_lt.mp (fun q => h21 (lcmp_gt.mpr ((spn_gt hz).mpr q)))⟩
        | exact fun q => absurd (i32_neg.mp h1) (Int.not_lt.mpr q.1)
        | exact fun q => absurd (i32_neg.mp h5) (Int.not_lt.mpr q.2.1)
        | exact fun q => absurd ((spn_gt hz).mp (lcmp_gt.mp h21)) (Int.not_lt.mpr q.2.2)
    ·
      refine j_iload_n 9 dX6_isSpan_8 rfl 2 rfl ?_
      refine j_i2l 10 dX6_isSpan_9 rfl ?_
      refine j_iload_n 11 dX6_isSpan_10 rfl 3 rfl ?_
      refine j_i2l 12 dX6_isSpan_11 rfl ?_
      refine j_ladd 13 dX6_isSpan_12 rfl ?_
      refine j_aload_n 14 dX6_isSpan_13 rfl 0 rfl ?_
      refine j_getf 17 0 dX6_isSpan_14 rfl fd_X6_23 rfl rfl ?_
      refine j_iload_n 18 dX6_isSpan_17 rfl 1 rfl ?_
      refine j_ialdN r 19 5 dX6_isSpan_18 rfl rfl (by omega) (by decide) ?_
      refine j_i2l 20 dX6_isSpan_19 rfl ?_
      refine j_lcmp 21 dX6_isSpan_20 rfl ?_
      refine j_if_gt 24 28 dX6_isSpan_21 rfl rfl (fun h21 => ?_) (fun h21 => ?_)
      ·
        refine j_iconst (v := (0 : Int32)) 29 dX6_isSpan_28 rfl (by decide) ?_
        refine j_iret0 (c := spn ((Na 8) r) i n) dX6_isSpan_29 rfl ?_ ⟨gLe rfl, gLe rfl, rfl, rfl⟩
        first
          | exact ⟨Int.not_lt.mp (fun q => h1 (i32_neg.mpr q)), Int.not_lt.mp (fun q => h5 (i32_neg.mpr q)), Int.not_lt.mp (fun q => h21 (lcmp_gt.mpr ((spn_gt hz).mpr q)))⟩
          | exact fun q => absurd (i32_neg.mp h1) (Int.not_lt.mpr q.1)
          | exact fun q => absurd (i32_neg.mp h5) (Int.not_lt.mpr q.2.1)
          | exact fun q => absurd ((spn_gt hz).mp (lcmp_gt.mp h21)) (Int.not_lt.mpr q.2.2)
      ·
        refine j_iconst (v := (1 : Int32)) 25 dX6_isSpan_24 rfl (by decide) ?_
        refine j_goto 29 dX6_isSpan_25 rfl ?_
        refine j_iret1 (c := spn ((Na 8) r) i n) dX6_isSpan_29 rfl ?_ ⟨gLe rfl, gLe rfl, rfl, rfl⟩
        first
          | exact ⟨Int.not_lt.mp (fun q => h1 (i32_neg.mpr q)), Int.not_lt.mp (fun q => h5 (i32_neg.mpr q)), Int.not_lt.mp (fun q => h21 (lcmp_gt.mpr ((spn_gt hz).mpr q)))⟩
          | exact fun q => absurd (i32_neg.mp h1) (Int.not_lt.mpr q.1)
          | exact fun q => absurd (i32_neg.mp h5) (Int.not_lt.mpr q.2.1)
          | exact fun q => absurd ((spn_gt hz).mp (lcmp_gt.mp h21)) (Int.not_lt.mpr q.2.2)
set_option maxRecDepth 20000 in
theorem c_X6_refused (g : gG) (q : Nat → Nat) (Na : Nat → Nat → Nat) (Ia : Nat → Nat → Int32) (Ns : Nat → Nat) (Is : Nat → Int32) (r : Nat) (i : Int32) (n : Int32)  (hr : r < 8) (hz : Na 8 r < 1000) : gCon g mX6_refused 1 0 0 [.ref (q 26), .int (nI r), .int i, .int n] (wM g q Na Ia Ns Is) (fun rv ws' => rv = some (.int (fndA (rfK ((Ia 7) r) ((Na 8) r) i n))) ∧ ws' = (wM g q Na Ia (va_up Ns 6 (stsA (Ns 6) (rfK ((Ia 7) r) ((Na 8) r) i n))) Is)) := by
  refine gCon.of (lv := [(0, .ref (q 26)), (1, .int (nI r)), (2, .int i), (3, .int n)]) (by decide) (gLe rfl) rfl ?_
  refine j_aload_n 1 dX6_refused_0 rfl 0 rfl ?_
  refine j_getf 4 0 dX6_refused_1 rfl fd_X6_20 rfl rfl ?_
  refine j_iload_n 5 dX6_refused_4 rfl 1 rfl ?_
  refine j_ialdR r 6 4 dX6_refused_5 rfl rfl (by omega) (by decide) ?_
  refine j_ldc (v := (-1000000 : Int32)) 8 dX6_refused_6 rfl wd_4_47 ?_
  refine j_icmp_ne 11 19 dX6_refused_8 rfl rfl (fun h8 => ?_) (fun h8 => ?_)
  ·
    refine j_aload_n 20 dX6_refused_19 rfl 0 rfl ?_
    refine j_iload_n 21 dX6_refused_20 rfl 1 rfl ?_
    refine j_iload_n 22 dX6_refused_21 rfl 2 rfl ?_
    refine j_iload_n 23 dX6_refused_22 rfl 3 rfl ?_
    refine j_callVW (rest := []) 26 (c_X6_isSpan g q Na Ia Ns Is r i n  (by first | assumption | omega) (by first | assumption | omega)) [.int (gB (spn ((Na 8) r) i n))] dX6_refused_23 rfl cv_X6_79 rfl rfl 0 rfl rfl (gLe rfl) (gLe rfl) (gLe rfl) (gLe rfl) (wM_len _ _ _ _ _ _ _ _ _ _) rfl ?_
    refine j_if_neB 29 37 dX6_refused_26 rfl rfl (fun h26 => ?_) (fun h26 => ?_)
    ·
      refine j_iconst (v := (0 : Int32)) 38 dX6_refused_37 rfl (by decide) ?_
      refine j_iretI dX6_refused_38 rfl ⟨gLe rfl, gLe rfl, ?_⟩
      first
        | (have e : rfK (Ia 7 r) (Na 8 r) i n = 1 := if_pos h8
           exact ⟨by rw [e]; rfl, by rw [e]; rfl⟩)
        | (have e : rfK (Ia 7 r) (Na 8 r) i n = 0 := by rw [rfK, if_neg h8, if_pos h26]
           exact ⟨by rw [e]; rfl, by rw [e]; rfl⟩)
        | (have e : rfK (Ia 7 r) (Na 8 r) i n = 2 := by rw [rfK, if_neg h8, if_neg h26]
           exact ⟨by rw [e]; rfl, by rw [e]; rfl⟩)
    ·
      refine j_aload_n 30 dX6_refused_29 rfl 0 rfl ?_
      refine j_iconst (v := (2 : Int32)) 31 dX6_refused_30 rfl (by decide) ?_
      refine j_callVW (rest := []) 34 (c_X6_find g q Na Ia Ns Is 2  ) [.int ((-1000010 : Int32) - nI 2)] dX6_refused_31 rfl cv_X6_72 rfl rfl 0 rfl rfl (gLe rfl) (gLe rfl) (gLe rfl) (gLe rfl) (wM_len _ _ _ _ _ _ _ _ _ _) rfl ?_
      refine j_goto 38 dX6_refused_34 rfl ?_
      refine j_iretI dX6_refused_38 rfl ⟨gLe rfl, gLe rfl, ?_⟩
      first
        | (have e : rfK (Ia 7 r) (Na 8 r) i n = 1 := if_pos h8
           exact ⟨by rw [e]; rfl, by rw [e]; rfl⟩)
        | (have e : rfK (Ia 7 r) (Na 8 r) i n = 0 := by rw [rfK, if_neg h8, if_pos h26]
           exact ⟨by rw [e]; rfl, by rw [e]; rfl⟩)
        | (have e : rfK (Ia 7 r) (Na 8 r) i n = 2 := by rw [rfK, if_neg h8, if_neg h26]
           exact ⟨by rw [e]; rfl, by rw [e]; rfl⟩)
  ·
    refine j_aload_n 12 dX6_refused_11 rfl 0 rfl ?_
    refine j_iconst (v := (1 : Int32)) 13 dX6_refused_12 rfl (by decide) ?_
    refine j_callVW (rest := []) 16 (c_X6_find g q Na Ia Ns Is 1  ) [.int ((-1000010 : Int32) - nI 1)] dX6_refused_13 rfl cv_X6_72 rfl rfl 0 rfl rfl (gLe rfl) (gLe rfl) (gLe rfl) (gLe rfl) (wM_len _ _ _ _ _ _ _ _ _ _) rfl ?_
    refine j_goto 38 dX6_refused_16 rfl ?_
    refine j_iretI dX6_refused_38 rfl ⟨gLe rfl, gLe rfl, ?_⟩
    first
      | (have e : rfK (Ia 7 r) (Na 8 r) i n = 1 := if_pos h8
         exact ⟨by rw [e]; rfl, by rw [e]; rfl⟩)
      | (have e : rfK (Ia 7 r) (Na 8 r) i n = 0 := by rw [rfK, if_neg h8, if_pos h26]
         exact ⟨by rw [e]; rfl, by rw [e]; rfl⟩)
      | (have e : rfK (Ia 7 r) (Na 8 r) i n = 2 := by rw [rfK, if_neg h8, if_neg h26]
         exact ⟨by rw [e]; rfl, by rw [e]; rfl⟩)
set_option maxRecDepth 20000 in
theorem c_X6_inPens (g : gG) (q : Nat → Nat) (Na : Nat → Nat → Nat) (Ia : Nat → Nat → Int32) (Ns : Nat → Nat) (Is : Nat → Int32)    : gCon g mX6_inPens 0 0 0 [.ref (q 26)] (wM g q Na Ia Ns Is) (fun rv ws' => rv = some (.int (nI (inP (Na 0)))) ∧ ws' = (wM g q Na Ia Ns Is)) := by
  refine gCon.of (lv := [(0, .ref (q 26))]) (by decide) (gLe rfl) rfl ?_
  refine j_iconst (v := (0 : Int32)) 1 dX6_inPens_0 rfl (by decide) ?_
  refine j_istore_n 2 [(1, .int (0 : Int32)), (0, .ref (q 26))] dX6_inPens_1 rfl (by decide) rfl ?_
  refine j_iconst (v := (0 : Int32)) 3 dX6_inPens_2 rfl (by decide) ?_
  refine j_istore_n 4 [(2, .int (0 : Int32)), (1, .int (0 : Int32)), (0, .ref (q 26))] dX6_inPens_3 rfl (by decide) rfl ?_
  refine j_iload_n 5 dX6_inPens_4 rfl 0 rfl ?_
  refine j_bipush (v := (6 : Int32)) 7 dX6_inPens_5 rfl (by decide) ?_
  refine j_icmp_geN 0 6 10 28 dX6_inPens_7 rfl rfl (by decide) (by decide) (fun h7 => absurd h7 (by decide)) (fun h7 => ?_)
  refine j_iload_n 11 dX6_inPens_10 rfl 1 rfl ?_
  refine j_aload_n 12 dX6_inPens_11 rfl 2 rfl ?_
  refine j_getf 15 0 dX6_inPens_12 rfl fd_X6_7 rfl rfl ?_
  refine j_bipush (v := (46 : Int32)) 17 dX6_inPens_15 rfl (by decide) ?_
  refine j_iload_n 18 dX6_inPens_17 rfl 0 rfl ?_
  refine j_iaddN 46 0 19 dX6_inPens_18 rfl ?_
  refine j_ialdN 46 20 1 dX6_inPens_19 rfl rfl (by decide) (by decide) ?_
  refine j_iaddN 0 ((Na 0) 46) 21 dX6_inPens_20 rfl ?_
  refine j_istore_n 22 [(1, .int (nI (0 + ((Na 0) 46)))), (2, .int (0 : Int32)), (0, .ref (q 26))] dX6_inPens_21 rfl (by decide) rfl ?_
  refine j_iincN 0 1 25 [(2, .int (nI 1)), (1, .int (nI (0 + ((Na 0) 46)))), (0, .ref (q 26))] dX6_inPens_22 rfl 1 rfl (by decide) rfl ?_
  refine j_goto 4 dX6_inPens_25 rfl ?_
  refine j_iload_n 5 dX6_inPens_4 rfl 0 rfl ?_
  refine j_bipush (v := (6 : Int32)) 7 dX6_inPens_5 rfl (by decide) ?_
  refine j_icmp_geN 1 6 10 28 dX6_inPens_7 rfl rfl (by decide) (by decide) (fun h7 => absurd h7 (by decide)) (fun h7 => ?_)
  refine j_iload_n 11 dX6_inPens_10 rfl 1 rfl ?_
  refine j_aload_n 12 dX6_inPens_11 rfl 2 rfl ?_
  refine j_getf 15 0 dX6_inPens_12 rfl fd_X6_7 rfl rfl ?_
  refine j_bipush (v := (46 : Int32)) 17 dX6_inPens_15 rfl (by decide) ?_
  refine j_iload_n 18 dX6_inPens_17 rfl 0 rfl ?_
  refine j_iaddN 46 1 19 dX6_inPens_18 rfl ?_
  refine j_ialdN 47 20 1 dX6_inPens_19 rfl rfl (by decide) (by decide) ?_
  refine j_iaddN (0 + ((Na 0) 46)) ((Na 0) 47) 21 dX6_inPens_20 rfl ?_
  refine j_istore_n 22 [(1, .int (nI ((0 + ((Na 0) 46)) + ((Na 0) 47)))), (2, .int (nI 1)), (0, .ref (q 26))] dX6_inPens_21 rfl (by decide) rfl ?_
  refine j_iincN 1 1 25 [(2, .int (nI 2)), (1, .int (nI ((0 + ((Na 0) 46)) + ((Na 0) 47)))), (0, .ref (q 26))] dX6_inPens_22 rfl 1 rfl (by decide) rfl ?_
  refine j_goto 4 dX6_inPens_25 rfl ?_
  refine j_iload_n 5 dX6_inPens_4 rfl 0 rfl ?_
  refine j_bipush (v := (6 : Int32)) 7 dX6_inPens_5 rfl (by decide) ?_
  refine j_icmp_geN 2 6 10 28 dX6_inPens_7 rfl rfl (by decide) (by decide) (fun h7 => absurd h7 (by decide)) (fun h7 => ?_)
  refine j_iload_n 11 dX6_inPens_10 rfl 1 rfl ?_
  refine j_aload_n 12 dX6_inPens_11 rfl 2 rfl ?_
  refine j_getf 15 0 dX6_inPens_12 rfl fd_X6_7 rfl rfl ?_
  refine j_bipush (v := (46 : Int32)) 17 dX6_inPens_15 rfl (by decide) ?_
  refine j_iload_n 18 dX6_inPens_17 rfl 0 rfl ?_
  refine j_iaddN 46 2 19 dX6_inPens_18 rfl ?_
  refine j_ialdN 48 20 1 dX6_inPens_19 rfl rfl (by decide) (by decide) ?_
  refine j_iaddN ((0 + ((Na 0) 46)) + ((Na 0) 47)) ((Na 0) 48) 21 dX6_inPens_20 rfl ?_
  refine j_istore_n 22 [(1, .int (nI (((0 + ((Na 0) 46)) + ((Na 0) 47)) + ((Na 0) 48)))), (2, .int (nI 2)), (0, .ref (q 26))] dX6_inPens_21 rfl (by decide) rfl ?_
  refine j_iincN 2 1 25 [(2, .int (nI 3)), (1, .int (nI (((0 + ((Na 0) 46)) + ((Na 0) 47)) + ((Na 0) 48)))), (0, .ref (q 26))] dX6_inPens_22 rfl 1 rfl (by decide) rfl ?_
  refine j_goto 4 dX6_inPens_25 rfl ?_
  refine j_iload_n 5 dX6_inPens_4 rfl 0 rfl ?_
  refine j_bipush (v := (6 : Int32)) 7 dX6_inPens_5 rfl (by decide) ?_
  refine j_icmp_geN 3 6 10 28 dX6_inPens_7 rfl rfl (by decide) (by decide) (fun h7 => absurd h7 (by decide)) (fun h7 => ?_)
  refine j_iload_n 11 dX6_inPens_10 rfl 1 rfl ?_
  refine j_aload_n 12 dX6_inPens_11 rfl 2 rfl ?_
  refine j_getf 15 0 dX6_inPens_12 rfl fd_X6_7 rfl rfl ?_
  refine j_bipush (v := (46 : Int32)) 17 dX6_inPens_15 rfl (by decide) ?_
  refine j_iload_n 18 dX6_inPens_17 rfl 0 rfl ?_
  refine j_iaddN 46 3 19 dX6_inPens_18 rfl ?_
  refine j_ialdN 49 20 1 dX6_inPens_19 rfl rfl (by decide) (by decide) ?_
  refine j_iaddN (((0 + ((Na 0) 46)) + ((Na 0) 47)) + ((Na 0) 48)) ((Na 0) 49) 21 dX6_inPens_20 rfl ?_
  refine j_istore_n 22 [(1, .int (nI ((((0 + ((Na 0) 46)) + ((Na 0) 47)) + ((Na 0) 48)) + ((Na 0) 49)))), (2, .int (nI 3)), (0, .ref (q 26))] dX6_inPens_21 rfl (by decide) rfl ?_
  refine j_iincN 3 1 25 [(2, .int (nI 4)), (1, .int (nI ((((0 + ((Na 0) 46)) + ((Na 0) 47)) + ((Na 0) 48)) + ((Na 0) 49)))), (0, .ref (q 26))] dX6_inPens_22 rfl 1 rfl (by decide) rfl ?_
  refine j_goto 4 dX6_inPens_25 rfl ?_
  refine j_iload_n 5 dX6_inPens_4 rfl 0 rfl ?_
  refine j_bipush (v := (6 : Int32)) 7 dX6_inPens_5 rfl (by decide) ?_
  refine j_icmp_geN 4 6 10 28 dX6_inPens_7 rfl rfl (by decide) (by decide) (fun h7 => absurd h7 (by decide)) (fun h7 => ?_)
  refine j_iload_n 11 dX6_inPens_10 rfl 1 rfl ?_
  refine j_aload_n 12 dX6_inPens_11 rfl 2 rfl ?_
  refine j_getf 15 0 dX6_inPens_12 rfl fd_X6_7 rfl rfl ?_
  refine j_bipush (v := (46 : Int32)) 17 dX6_inPens_15 rfl (by decide) ?_
  refine j_iload_n 18 dX6_inPens_17 rfl 0 rfl ?_
  refine j_iaddN 46 4 19 dX6_inPens_18 rfl ?_
  refine j_ialdN 50 20 1 dX6_inPens_19 rfl rfl (by decide) (by decide) ?_
  refine j_iaddN ((((0 + ((Na 0) 46)) + ((Na 0) 47)) + ((Na 0) 48)) + ((Na 0) 49)) ((Na 0) 50) 21 dX6_inPens_20 rfl ?_
  refine j_istore_n 22 [(1, .int (nI (((((0 + ((Na 0) 46)) + ((Na 0) 47)) + ((Na 0) 48)) + ((Na 0) 49)) + ((Na 0) 50)))), (2, .int (nI 4)), (0, .ref (q 26))] dX6_inPens_21 rfl (by decide) rfl ?_
  refine j_iincN 4 1 25 [(2, .int (nI 5)), (1, .int (nI (((((0 + ((Na 0) 46)) + ((Na 0) 47)) + ((Na 0) 48)) + ((Na 0) 49)) + ((Na 0) 50)))), (0, .ref (q 26))] dX6_inPens_22 rfl 1 rfl (by decide) rfl ?_
  refine j_goto 4 dX6_inPens_25 rfl ?_
  refine j_iload_n 5 dX6_inPens_4 rfl 0 rfl ?_
  refine j_bipush (v := (6 : Int32)) 7 dX6_inPens_5 rfl (by decide) ?_
  refine j_icmp_geN 5 6 10 28 dX6_inPens_7 rfl rfl (by decide) (by decide) (fun h7 => absurd h7 (by decide)) (fun h7 => ?_)
  refine j_iload_n 11 dX6_inPens_10 rfl 1 rfl ?_
  refine j_aload_n 12 dX6_inPens_11 rfl 2 rfl ?_
  refine j_getf 15 0 dX6_inPens_12 rfl fd_X6_7 rfl rfl ?_
  refine j_bipush (v := (46 : Int32)) 17 dX6_inPens_15 rfl (by decide) ?_
  refine j_iload_n 18 dX6_inPens_17 rfl 0 rfl ?_
  refine j_iaddN 46 5 19 dX6_inPens_18 rfl ?_
  refine j_ialdN 51 20 1 dX6_inPens_19 rfl rfl (by decide) (by decide) ?_
  refine j_iaddN (((((0 + ((Na 0) 46)) + ((Na 0) 47)) + ((Na 0) 48)) + ((Na 0) 49)) + ((Na 0) 50)) ((Na 0) 51) 21 dX6_inPens_20 rfl ?_
  refine j_istore_n 22 [(1, .int (nI ((((((0 + ((Na 0) 46)) + ((Na 0) 47)) + ((Na 0) 48)) + ((Na 0) 49)) + ((Na 0) 50)) + ((Na 0) 51)))), (2, .int (nI 5)), (0, .ref (q 26))] dX6_inPens_21 rfl (by decide) rfl ?_
  refine j_iincN 5 1 25 [(2, .int (nI 6)), (1, .int (nI ((((((0 + ((Na 0) 46)) + ((Na 0) 47)) + ((Na 0) 48)) + ((Na 0) 49)) + ((Na 0) 50)) + ((Na 0) 51)))), (0, .ref (q 26))] dX6_inPens_22 rfl 1 rfl (by decide) rfl ?_
  refine j_goto 4 dX6_inPens_25 rfl ?_
  refine j_iload_n 5 dX6_inPens_4 rfl 0 rfl ?_
  refine j_bipush (v := (6 : Int32)) 7 dX6_inPens_5 rfl (by decide) ?_
  refine j_icmp_geN 6 6 10 28 dX6_inPens_7 rfl rfl (by decide) (by decide) (fun h7 => ?_) (fun h7 => absurd h7 (by decide))
  refine j_iload_n 29 dX6_inPens_28 rfl 1 rfl ?_
  refine j_iretI dX6_inPens_29 rfl ⟨gLe rfl, gLe rfl, ?_⟩
  exact ⟨rfl, rfl⟩
set_option maxRecDepth 20000 in
theorem c_X6_copyRow (g : gG) (q : Nat → Nat) (Na : Nat → Nat → Nat) (Ia : Nat → Nat → Int32) (Ns : Nat → Nat) (Is : Nat → Int32) (fr : Nat) (zt : Nat)  (hf : fr ≤ 174) (ht : zt ≤ 174) (hd : fr + 58 ≤ zt ∨ zt + 58 ≤ fr) : gCon g mX6_copyRow 0 0 0 [.ref (q 26), .int (nI fr), .int (nI zt)] (wM g q Na Ia Ns Is) (fun rv ws' => rv = none ∧ ws' = (wM g q (va_up Na 0 (va_cpy (Na 0) (Na 0) fr zt 58)) Ia Ns Is)) := by
  refine gCon.of (lv := [(0, .ref (q 26)), (1, .int (nI fr)), (2, .int (nI zt))]) (by decide) (gLe rfl) rfl ?_
  refine j_iconst (v := (0 : Int32)) 1 dX6_copyRow_0 rfl (by decide) ?_
  refine j_istore_n 2 [(3, .int (0 : Int32)), (0, .ref (q 26)), (1, .int (nI fr)), (2, .int (nI zt))] dX6_copyRow_1 rfl (by decide) rfl ?_
  have hL2 : ∀ (zm2 : Nat) (zi : Nat), 58 - zi < zm2 → (zi ≤ 58) → gJ g mX6_copyRow 0 0 0 (fun k' j' rv ws' => k' ≤ 0 ∧ j' ≤ 0 ∧ (rv = none ∧ ws' = (wM g q (va_up Na 0 (va_cpy (Na 0) (Na 0) fr zt 58)) Ia Ns Is))) 0 0 2 [(3, .int (nI zi)), (0, .ref (q 26)), (1, .int (nI fr)), (2, .int (nI zt))] [] (wM g q (va_up Na 0 (va_cpy (Na 0) (Na 0) fr zt zi)) Ia Ns Is) := by
    intro zm2
    induction zm2 with
    | zero => intro zi zmh; exact absurd zmh (Nat.not_lt_zero _)
    | succ zm2 zih2 =>
      intro zi zmh2 hz
      refine j_iload_n 3 dX6_copyRow_2 rfl 0 rfl ?_
      refine j_bipush (v := (58 : Int32)) 5 dX6_copyRow_3 rfl (by decide) ?_
      refine j_icmp_geN zi 58 8 30 dX6_copyRow_5 rfl rfl (by omega) (by decide) (fun h5 => ?_) (fun h5 => ?_)
      ·
        refine j_vret dX6_copyRow_30 rfl ⟨gLe rfl, gLe rfl, ?_⟩
        have e : zi = 58 := by omega
        subst e
        exact ⟨rfl, rfl⟩
      ·
        refine j_aload_n 9 dX6_copyRow_8 rfl 1 rfl ?_
        refine j_getf 12 0 dX6_copyRow_9 rfl fd_X6_7 rfl rfl ?_
        refine j_iload_n 13 dX6_copyRow_12 rfl 3 rfl ?_
        refine j_iload_n 14 dX6_copyRow_13 rfl 0 rfl ?_
        refine j_iaddN zt zi 15 dX6_copyRow_14 rfl ?_
        refine j_aload_n 16 dX6_copyRow_15 rfl 1 rfl ?_
        refine j_getf 19 0 dX6_copyRow_16 rfl fd_X6_7 rfl rfl ?_
        refine j_iload_n 20 dX6_copyRow_19 rfl 2 rfl ?_
        refine j_iload_n 21 dX6_copyRow_20 rfl 0 rfl ?_
        refine j_iaddN fr zi 22 dX6_copyRow_21 rfl ?_
        refine j_ialdN (fr + zi) 23 1 dX6_copyRow_22 rfl rfl (by omega) (by decide) ?_
        refine j_topN ((va_cpy (Na 0) (Na 0) fr zt zi) (fr + zi)) (Na 0 (fr + zi)) (cpy_out (by omega)) ?_
        refine j_iastN (Na 0 (fr + zi)) (zt + zi) 24 1 (wM g q (va_up Na 0 (va_up (va_cpy (Na 0) (Na 0) fr zt zi) (zt + zi) (Na 0 (fr + zi)))) Ia Ns Is) dX6_copyRow_23 rfl rfl (by omega) (by decide) rfl ?_
        refine j_ws (wM g q (va_up Na 0 (va_cpy (Na 0) (Na 0) fr zt (zi + 1))) Ia Ns Is) (congrArg (fun z => wM g q (va_up Na 0 z) Ia Ns Is) (cpy_s _ _ _ _ _)) ?_
        refine j_iincN zi 1 27 [(3, .int (nI (zi + 1))), (0, .ref (q 26)), (1, .int (nI fr)), (2, .int (nI zt))] dX6_copyRow_24 rfl 0 rfl (by decide) rfl ?_
        refine j_goto 2 dX6_copyRow_27 rfl ?_
        refine j_lv [0, 1, 2, 3] rfl ?_
        exact zih2 (zi + 1) (by omega) (by omega)
  refine j_ws (wM g q (va_up Na 0 (va_cpy (Na 0) (Na 0) fr zt 0)) Ia Ns Is) (by rw [cpy_0]; rfl) ?_
  refine j_lv [0, 1, 2, 3] rfl ?_
  exact hL2 _ 0 (Nat.lt_succ_self _) (by omega)
set_option maxRecDepth 20000 in
theorem c_X6_keepPast (g : gG) (q : Nat → Nat) (Na : Nat → Nat → Nat) (Ia : Nat → Nat → Int32) (Ns : Nat → Nat) (Is : Nat → Int32)   (hp : Ns 2 ≤ 24) : gCon g mX6_keepPast 0 0 0 [.ref (q 26)] (wM g q Na Ia Ns Is) (fun rv ws' => rv = none ∧ ws' = (wM g q (va_up Na 1 (kpP (Na 1) (Na 0) (Ns 2))) Ia (va_up Ns 2 (kpN (Ns 2))) Is)) := by
  refine gCon.of (lv := [(0, .ref (q 26))]) (by decide) (gLe rfl) rfl ?_
  refine j_iconst (v := (0 : Int32)) 1 dX6_keepPast_0 rfl (by decide) ?_
  refine j_istore_n 2 [(1, .int (0 : Int32)), (0, .ref (q 26))] dX6_keepPast_1 rfl (by decide) rfl ?_
  have hL2 : ∀ (zm2 : Nat) (zi : Nat), 414 - zi < zm2 → (zi ≤ 414) → (zi = 0 ∨ Ns 2 = 24) → gJ g mX6_keepPast 0 0 0 (fun k' j' rv ws' => k' ≤ 0 ∧ j' ≤ 0 ∧ (rv = none ∧ ws' = (wM g q (va_up Na 1 (kpP (Na 1) (Na 0) (Ns 2))) Ia (va_up Ns 2 (kpN (Ns 2))) Is))) 0 0 2 [(1, .int (nI zi)), (0, .ref (q 26))] [] (wM g q (va_up Na 1 (va_cpy (Na 1) (Na 1) 18 0 zi)) Ia Ns Is) := by
    intro zm2
    induction zm2 with
    | zero => intro zi zmh; exact absurd zmh (Nat.not_lt_zero _)
    | succ zm2 zih2 =>
      intro zi zmh2 hz hz2
      refine j_iload_n 3 dX6_keepPast_2 rfl 0 rfl ?_
      refine j_sipush (v := (414 : Int32)) 6 dX6_keepPast_3 rfl (by decide) ?_
      refine j_icmp_geN zi 414 9 39 dX6_keepPast_6 rfl rfl (by omega) (by decide) (fun h6 => ?_) (fun h6 => ?_)
      ·
        have ye1 : (Ns 2 = 24 ∧ zi = 414) ∨ (Ns 2 ≠ 24 ∧ zi = 0) := by omega
        have hC62 : ∀ (zp : Nat), (zp = if Ns 2 = 24 then 23 else Ns 2) → gJ g mX6_keepPast 0 0 0 (fun k' j' rv ws' => k' ≤ 0 ∧ j' ≤ 0 ∧ (rv = none ∧ ws' = (wM g q (va_up Na 1 (kpP (Na 1) (Na 0) (Ns 2))) Ia (va_up Ns 2 (kpN (Ns 2))) Is))) 0 0 62 [(0, .ref (q 26))] [] (wM g q (va_up Na 1 (va_cpy (Na 1) (Na 1) 18 0 zi)) Ia (va_up Ns 2 zp) Is) := by
          intro zp hzp
          refine j_iconst (v := (0 : Int32)) 63 dX6_keepPast_62 rfl (by decide) ?_
          have hzp2 : zp ≤ 23 := by rw [hzp]; split <;> omega
          refine j_istore_n 64 [(1, .int (0 : Int32)), (0, .ref (q 26))] dX6_keepPast_63 rfl (by decide) rfl ?_
          have hL64 : ∀ (zm64 : Nat) (zk : Nat), 18 - zk < zm64 → (zk ≤ 18) → gJ g mX6_keepPast 0 0 0 (fun k' j' rv ws' => k' ≤ 0 ∧ j' ≤ 0 ∧ (rv = none ∧ ws' = (wM g q (va_up Na 1 (kpP (Na 1) (Na 0) (Ns 2))) Ia (va_up Ns 2 (kpN (Ns 2))) Is))) 0 0 64 [(1, .int (nI zk)), (0, .ref (q 26))] [] (wM g q (va_up Na 1 (va_cpy (Na 0) (va_cpy (Na 1) (Na 1) 18 0 zi) 40 (18 * zp) zk)) Ia (va_up Ns 2 zp) Is) := by
            intro zm64
            induction zm64 with
            | zero => intro zk zmh; exact absurd zmh (Nat.not_lt_zero _)
            | succ zm64 zih64 =>
              intro zk zmh64 hzk
              refine j_iload_n 65 dX6_keepPast_64 rfl 0 rfl ?_
              refine j_bipush (v := (18 : Int32)) 67 dX6_keepPast_65 rfl (by decide) ?_
              refine j_icmp_geN zk 18 70 99 dX6_keepPast_67 rfl rfl (by omega) (by decide) (fun h67 => ?_) (fun h67 => ?_)
              ·
                refine j_aload_n 100 dX6_keepPast_99 rfl 1 rfl ?_
                refine j_dup 101 dX6_keepPast_100 rfl rfl ?_
                refine j_getf 104 0 dX6_keepPast_101 rfl fd_X6_167 rfl rfl ?_
                refine j_iconst (v := (1 : Int32)) 105 dX6_keepPast_104 rfl (by decide) ?_
                refine j_iaddN zp 1 106 dX6_keepPast_105 rfl ?_
                refine j_putf 109 0 (wM g q (va_up Na 1 (va_cpy (Na 0) (va_cpy (Na 1) (Na 1) 18 0 zi) 40 (18 * zp) zk)) Ia (va_up Ns 2 (zp + 1)) Is) dX6_keepPast_106 rfl fd_X6_167 rfl rfl rfl (gLe rfl) rfl ?_
                refine j_vret dX6_keepPast_109 rfl ⟨gLe rfl, gLe rfl, ?_⟩
                have e : zk = 18 := by omega
                subst e
                refine ⟨rfl, ?_⟩
                rcases ye1 with ⟨ye1, ye2⟩ | ⟨ye1, ye2⟩
                · rw [if_pos ye1] at hzp
                  subst hzp; subst ye2
                  rw [kpP, if_pos ye1, kpN, if_pos ye1]
                · rw [if_neg ye1] at hzp
                  subst hzp; subst ye2
                  rw [kpP, if_neg ye1, kpN, if_neg ye1, cpy_0]
              ·
                refine j_aload_n 71 dX6_keepPast_70 rfl 1 rfl ?_
                refine j_getf 74 0 dX6_keepPast_71 rfl fd_X6_13 rfl rfl ?_
                refine j_bipush (v := (18 : Int32)) 76 dX6_keepPast_74 rfl (by decide) ?_
                refine j_aload_n 77 dX6_keepPast_76 rfl 1 rfl ?_
                refine j_getf 80 0 dX6_keepPast_77 rfl fd_X6_167 rfl rfl ?_
                refine j_imulN 18 zp 81 dX6_keepPast_80 rfl ?_
                refine j_iload_n 82 dX6_keepPast_81 rfl 0 rfl ?_
                refine j_iaddN (18 * zp) zk 83 dX6_keepPast_82 rfl ?_
                refine j_aload_n 84 dX6_keepPast_83 rfl 1 rfl ?_
                refine j_getf 87 0 dX6_keepPast_84 rfl fd_X6_7 rfl rfl ?_
                refine j_bipush (v := (40 : Int32)) 89 dX6_keepPast_87 rfl (by decide) ?_
                refine j_iload_n 90 dX6_keepPast_89 rfl 0 rfl ?_
                refine j_iaddN 40 zk 91 dX6_keepPast_90 rfl ?_
                refine j_ialdN (40 + zk) 92 1 dX6_keepPast_91 rfl rfl (by omega) (by decide) ?_
                refine j_iastN ((Na 0) (40 + zk)) ((18 * zp) + zk) 93 2 (wM g q (va_up Na 1 (va_up (va_cpy (Na 0) (va_cpy (Na 1) (Na 1) 18 0 zi) 40 (18 * zp) zk) ((18 * zp) + zk) ((Na 0) (40 + zk)))) Ia (va_up Ns 2 zp) Is) dX6_keepPast_92 rfl rfl (by have z0 := hzp2; omega) (by decide) rfl ?_
                refine j_ws (wM g q (va_up Na 1 (va_cpy (Na 0) (va_cpy (Na 1) (Na 1) 18 0 zi) 40 (18 * zp) (zk + 1))) Ia (va_up Ns 2 zp) Is) (congrArg (fun z => wM g q (va_up Na 1 z) Ia (va_up Ns 2 zp) Is) (cpy_s _ _ _ _ _)) ?_
                refine j_iincN zk 1 96 [(1, .int (nI (zk + 1))), (0, .ref (q 26))] dX6_keepPast_93 rfl 0 rfl (by decide) rfl ?_
                refine j_goto 64 dX6_keepPast_96 rfl ?_
                refine j_lv [0, 1] rfl ?_
                exact zih64 (zk + 1) (by omega) (by omega)
          refine j_ws (wM g q (va_up Na 1 (va_cpy (Na 0) (va_cpy (Na 1) (Na 1) 18 0 zi) 40 (18 * zp) 0)) Ia (va_up Ns 2 zp) Is) (by rw [cpy_0]) ?_
          refine j_lv [0, 1] rfl ?_
          exact hL64 _ 0 (Nat.lt_succ_self _) (by omega)
        refine j_aload_n 40 dX6_keepPast_39 rfl 1 rfl ?_
        refine j_dup 41 dX6_keepPast_40 rfl rfl ?_
        refine j_getf 44 0 dX6_keepPast_41 rfl fd_X6_167 rfl rfl ?_
        refine j_aload_n 45 dX6_keepPast_44 rfl 1 rfl ?_
        refine j_getf 48 0 dX6_keepPast_45 rfl fd_X6_167 rfl rfl ?_
        refine j_bipush (v := (24 : Int32)) 50 dX6_keepPast_48 rfl (by decide) ?_
        refine j_icmp_neN (Ns 2) 24 53 57 dX6_keepPast_50 rfl rfl (by have z0 := hp; omega) (by decide) (fun h50 => ?_) (fun h50 => ?_)
        ·
          refine j_iconst (v := (0 : Int32)) 58 dX6_keepPast_57 rfl (by decide) ?_
          refine j_isubN (Ns 2) 0 59 dX6_keepPast_58 rfl (by omega) ?_
          refine j_putf 62 0 (wM g q (va_up Na 1 (va_cpy (Na 1) (Na 1) 18 0 zi)) Ia (va_up Ns 2 ((Ns 2) - 0)) Is) dX6_keepPast_59 rfl fd_X6_167 rfl rfl rfl (gLe rfl) rfl ?_
          refine j_lv [1] rfl ?_
          exact hC62 ((Ns 2) - 0) (by split <;> omega)
        ·
          refine j_iconst (v := (1 : Int32)) 54 dX6_keepPast_53 rfl (by decide) ?_
          refine j_goto 58 dX6_keepPast_54 rfl ?_
          refine j_isubN (Ns 2) 1 59 dX6_keepPast_58 rfl (by omega) ?_
          refine j_putf 62 0 (wM g q (va_up Na 1 (va_cpy (Na 1) (Na 1) 18 0 zi)) Ia (va_up Ns 2 ((Ns 2) - 1)) Is) dX6_keepPast_59 rfl fd_X6_167 rfl rfl rfl (gLe rfl) rfl ?_
          refine j_lv [1] rfl ?_
          exact hC62 ((Ns 2) - 1) (by split <;> omega)
      ·
        refine j_aload_n 10 dX6_keepPast_9 rfl 1 rfl ?_
        refine j_getf 13 0 dX6_keepPast_10 rfl fd_X6_167 rfl rfl ?_
        refine j_bipush (v := (24 : Int32)) 15 dX6_keepPast_13 rfl (by decide) ?_
        refine j_icmp_neN (Ns 2) 24 18 39 dX6_keepPast_15 rfl rfl (by have z0 := hp; omega) (by decide) (fun h15 => ?_) (fun h15 => ?_)
        ·
          have ye1 : (Ns 2 = 24 ∧ zi = 414) ∨ (Ns 2 ≠ 24 ∧ zi = 0) := by omega
          have hC62 : ∀ (zp : Nat), (zp = if Ns 2 = 24 then 23 else Ns 2) → gJ g mX6_keepPast 0 0 0 (fun k' j' rv ws' => k' ≤ 0 ∧ j' ≤ 0 ∧ (rv = none ∧ ws' = (wM g q (va_up Na 1 (kpP (Na 1) (Na 0) (Ns 2))) Ia (va_up Ns 2 (kpN (Ns 2))) Is))) 0 0 62 [(0, .ref (q 26))] [] (wM g q (va_up Na 1 (va_cpy (Na 1) (Na 1) 18 0 zi)) Ia (va_up Ns 2 zp) Is) := by
            intro zp hzp
            refine j_iconst (v := (0 : Int32)) 63 dX6_keepPast_62 rfl (by decide) ?_
            have hzp2 : zp ≤ 23 := by rw [hzp]; split <;> omega
            refine j_istore_n 64 [(1, .int (0 : Int32)), (0, .ref (q 26))] dX6_keepPast_63 rfl (by decide) rfl ?_
            have hL64 : ∀ (zm64 : Nat) (zk : Nat), 18 - zk < zm64 → (zk ≤ 18) → gJ g mX6_keepPast 0 0 0 (fun k' j' rv ws' => k' ≤ 0 ∧ j' ≤ 0 ∧ (rv = none ∧ ws' = (wM g q (va_up Na 1 (kpP (Na 1) (Na 0) (Ns 2))) Ia (va_up Ns 2 (kpN (Ns 2))) Is))) 0 0 64 [(1, .int (nI zk)), (0, .ref (q 26))] [] (wM g q (va_up Na 1 (va_cpy (Na 0) (va_cpy (Na 1) (Na 1) 18 0 zi) 40 (18 * zp) zk)) Ia (va_up Ns 2 zp) Is) := by
              intro zm64
              induction zm64 with
              | zero => intro zk zmh; exact absurd zmh (Nat.not_lt_zero _)
              | succ zm64 zih64 =>
                intro zk zmh64 hzk
                refine j_iload_n 65 dX6_keepPast_64 rfl 0 rfl ?_
                refine j_bipush (v := (18 : Int32)) 67 dX6_keepPast_65 rfl (by decide) ?_
                refine j_icmp_geN zk 18 70 99 dX6_keepPast_67 rfl rfl (by omega) (by decide) (fun h67 => ?_) (fun h67 => ?_)
                ·
                  refine j_aload_n 100 dX6_keepPast_99 rfl 1 rfl ?_
                  refine j_dup 101 dX6_keepPast_100 rfl rfl ?_
                  refine j_getf 104 0 dX6_keepPast_101 rfl fd_X6_167 rfl rfl ?_
                  refine j_iconst (v := (1 : Int32)) 105 dX6_keepPast_104 rfl (by decide) ?_
                  refine j_iaddN zp 1 106 dX6_keepPast_105 rfl ?_
                  refine j_putf 109 0 (wM g q (va_up Na 1 (va_cpy (Na 0) (va_cpy (Na 1) (Na 1) 18 0 zi) 40 (18 * zp) zk)) Ia (va_up Ns 2 (zp + 1)) Is) dX6_keepPast_106 rfl fd_X6_167 rfl rfl rfl (gLe rfl) rfl ?_
                  refine j_vret dX6_keepPast_109 rfl ⟨gLe rfl, gLe rfl, ?_⟩
                  have e : zk = 18 := by omega
                  subst e
                  refine ⟨rfl, ?_⟩
                  rcases ye1 with ⟨ye1, ye2⟩ | ⟨ye1, ye2⟩
                  · rw [if_pos ye1] at hzp
                    subst hzp; subst ye2
                    rw [kpP, if_pos ye1, kpN, if_pos ye1]
                  · rw [if_neg ye1] at hzp
                    subst hzp; subst ye2
                    rw [kpP, if_neg ye1, kpN, if_neg ye1, cpy_0]
                ·
                  refine j_aload_n 71 dX6_keepPast_70 rfl 1 rfl ?_
                  refine j_getf 74 0 dX6_keepPast_71 rfl fd_X6_13 rfl rfl ?_
                  refine j_bipush (v := (18 : Int32)) 76 dX6_keepPast_74 rfl (by decide) ?_
                  refine j_aload_n 77 dX6_keepPast_76 rfl 1 rfl ?_
                  refine j_getf 80 0 dX6_keepPast_77 rfl fd_X6_167 rfl rfl ?_
                  refine j_imulN 18 zp 81 dX6_keepPast_80 rfl ?_
                  refine j_iload_n 82 dX6_keepPast_81 rfl 0 rfl ?_
                  refine j_iaddN (18 * zp) zk 83 dX6_keepPast_82 rfl ?_
                  refine j_aload_n 84 dX6_keepPast_83 rfl 1 rfl ?_
                  refine j_getf 87 0 dX6_keepPast_84 rfl fd_X6_7 rfl rfl ?_
                  refine j_bipush (v := (40 : Int32)) 89 dX6_keepPast_87 rfl (by decide) ?_
                  refine j_iload_n 90 dX6_keepPast_89 rfl 0 rfl ?_
                  refine j_iaddN 40 zk 91 dX6_keepPast_90 rfl ?_
                  refine j_ialdN (40 + zk) 92 1 dX6_keepPast_91 rfl rfl (by omega) (by decide) ?_
                  refine j_iastN ((Na 0) (40 + zk)) ((18 * zp) + zk) 93 2 (wM g q (va_up Na 1 (va_up (va_cpy (Na 0) (va_cpy (Na 1) (Na 1) 18 0 zi) 40 (18 * zp) zk) ((18 * zp) + zk) ((Na 0) (40 + zk)))) Ia (va_up Ns 2 zp) Is) dX6_keepPast_92 rfl rfl (by have z0 := hzp2; omega) (by decide) rfl ?_
                  refine j_ws (wM g q (va_up Na 1 (va_cpy (Na 0) (va_cpy (Na 1) (Na 1) 18 0 zi) 40 (18 * zp) (zk + 1))) Ia (va_up Ns 2 zp) Is) (congrArg (fun z => wM g q (va_up Na 1 z) Ia (va_up Ns 2 zp) Is) (cpy_s _ _ _ _ _)) ?_
                  refine j_iincN zk 1 96 [(1, .int (nI (zk + 1))), (0, .ref (q 26))] dX6_keepPast_93 rfl 0 rfl (by decide) rfl ?_
                  refine j_goto 64 dX6_keepPast_96 rfl ?_
                  refine j_lv [0, 1] rfl ?_
                  exact zih64 (zk + 1) (by omega) (by omega)
            refine j_ws (wM g q (va_up Na 1 (va_cpy (Na 0) (va_cpy (Na 1) (Na 1) 18 0 zi) 40 (18 * zp) 0)) Ia (va_up Ns 2 zp) Is) (by rw [cpy_0]) ?_
            refine j_lv [0, 1] rfl ?_
            exact hL64 _ 0 (Nat.lt_succ_self _) (by omega)
          refine j_aload_n 40 dX6_keepPast_39 rfl 1 rfl ?_
          refine j_dup 41 dX6_keepPast_40 rfl rfl ?_
          refine j_getf 44 0 dX6_keepPast_41 rfl fd_X6_167 rfl rfl ?_
          refine j_aload_n 45 dX6_keepPast_44 rfl 1 rfl ?_
          refine j_getf 48 0 dX6_keepPast_45 rfl fd_X6_167 rfl rfl ?_
          refine j_bipush (v := (24 : Int32)) 50 dX6_keepPast_48 rfl (by decide) ?_
          refine j_icmp_neN (Ns 2) 24 53 57 dX6_keepPast_50 rfl rfl (by have z0 := hp; omega) (by decide) (fun h50 => ?_) (fun h50 => ?_)
          ·
            refine j_iconst (v := (0 : Int32)) 58 dX6_keepPast_57 rfl (by decide) ?_
            refine j_isubN (Ns 2) 0 59 dX6_keepPast_58 rfl (by omega) ?_
            refine j_putf 62 0 (wM g q (va_up Na 1 (va_cpy (Na 1) (Na 1) 18 0 zi)) Ia (va_up Ns 2 ((Ns 2) - 0)) Is) dX6_keepPast_59 rfl fd_X6_167 rfl rfl rfl (gLe rfl) rfl ?_
            refine j_lv [1] rfl ?_
            exact hC62 ((Ns 2) - 0) (by split <;> omega)
          ·
            refine j_iconst (v := (1 : Int32)) 54 dX6_keepPast_53 rfl (by decide) ?_
            refine j_goto 58 dX6_keepPast_54 rfl ?_
            refine j_isubN (Ns 2) 1 59 dX6_keepPast_58 rfl (by omega) ?_
            refine j_putf 62 0 (wM g q (va_up Na 1 (va_cpy (Na 1) (Na 1) 18 0 zi)) Ia (va_up Ns 2 ((Ns 2) - 1)) Is) dX6_keepPast_59 rfl fd_X6_167 rfl rfl rfl (gLe rfl) rfl ?_
            refine j_lv [1] rfl ?_
            exact hC62 ((Ns 2) - 1) (by split <;> omega)
        ·
          refine j_aload_n 19 dX6_keepPast_18 rfl 1 rfl ?_
          refine j_getf 22 0 dX6_keepPast_19 rfl fd_X6_13 rfl rfl ?_
          refine j_iload_n 23 dX6_keepPast_22 rfl 0 rfl ?_
          refine j_aload_n 24 dX6_keepPast_23 rfl 1 rfl ?_
          refine j_getf 27 0 dX6_keepPast_24 rfl fd_X6_13 rfl rfl ?_
          refine j_iload_n 28 dX6_keepPast_27 rfl 0 rfl ?_
          refine j_bipush (v := (18 : Int32)) 30 dX6_keepPast_28 rfl (by decide) ?_
          refine j_iaddN zi 18 31 dX6_keepPast_30 rfl ?_
          refine j_ialdN (zi + 18) 32 2 dX6_keepPast_31 rfl rfl (by omega) (by decide) ?_
          refine j_topN ((va_cpy (Na 1) (Na 1) 18 0 zi) (zi + 18)) (Na 1 (18 + zi)) (by rw [cpy_out (by omega), Nat.add_comm]) ?_
          refine j_iastN (Na 1 (18 + zi)) zi 33 2 (wM g q (va_up Na 1 (va_up (va_cpy (Na 1) (Na 1) 18 0 zi) zi (Na 1 (18 + zi)))) Ia Ns Is) dX6_keepPast_32 rfl rfl (by omega) (by decide) rfl ?_
          refine j_ws (wM g q (va_up Na 1 (va_cpy (Na 1) (Na 1) 18 0 (zi + 1))) Ia Ns Is) (congrArg (fun z => wM g q (va_up Na 1 z) Ia Ns Is) (cpy_s0 _ _ _ _)) ?_
          refine j_iincN zi 1 36 [(1, .int (nI (zi + 1))), (0, .ref (q 26))] dX6_keepPast_33 rfl 0 rfl (by decide) rfl ?_
          refine j_goto 2 dX6_keepPast_36 rfl ?_
          refine j_lv [0, 1] rfl ?_
          exact zih2 (zi + 1) (by omega) (by omega) (Or.inr h15)
  refine j_ws (wM g q (va_up Na 1 (va_cpy (Na 1) (Na 1) 18 0 0)) Ia Ns Is) (by rw [cpy_0]; rfl) ?_
  refine j_lv [0, 1] rfl ?_
  exact hL2 _ 0 (Nat.lt_succ_self _) (by omega) (Or.inl rfl)
