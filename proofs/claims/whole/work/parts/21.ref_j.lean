theorem tkU_le {n k : Nat} : tkU n k ≤ 2 := by
  unfold tkU
  split
  · have := Nat.mod_lt (n / 32 / 3 ^ k) (by decide : 0 < 3)
    omega
  · decide
theorem af_row {R : Nat → Nat} (hP : okP R) {n b : Nat} (hB : b < R 3) : putM (putM R 174 (n % 32) (tkU n)) 174 (goA (putM R 174 (n % 32) (tkU n)) 99 (putM R 174 (n % 32) (tkU n) (24 + 2 * b)) 5 (putM R 174 (n % 32) (tkU n) 2 - 1) (putM R 174 (n % 32) (tkU n) (174 + 40)) (uM (putM R 174 (n % 32) (tkU n)) 174)).2.1 (goA (putM R 174 (n % 32) (tkU n)) 99 (putM R 174 (n % 32) (tkU n) (24 + 2 * b)) 5 (putM R 174 (n % 32) (tkU n) 2 - 1) (putM R 174 (n % 32) (tkU n) (174 + 40)) (uM (putM R 174 (n % 32) (tkU n)) 174)).2.2 = putM R 174 (gOA R 99 b (n % 32) (tkU n)).2.1 (gOA R 99 b (n % 32) (tkU n)).2.2 := by
  rw [putM_at, uM_put (Z5_tk n), gOA_eq hP (eqB_put (fun k _ => rfl)) hB, putM_2]
def rpA (k : Nat) (c : Prop) [Decidable c] : Int32 := if k = 0 then (if c then 0 else -1000001) else fndA k
theorem rpA_0 {k : Nat} (hk : k ≤ 2) {c : Prop} [Decidable c] : rpA k c = 0 ↔ k = 0 ∧ c := by
  unfold rpA
  split
  · split
    · rename_i h1 h2; exact ⟨fun _ => ⟨h1, h2⟩, fun _ => rfl⟩
    · rename_i h1 h2; exact ⟨fun q => absurd q (by decide), fun q => absurd q.2 h2⟩
  · rename_i h1
    rw [fndA_0 hk]
    exact ⟨fun q => absurd q h1, fun q => absurd q.1 h1⟩
theorem wc_row {Z : Nat → Nat} (s : Nat) (u : Nat → Nat) (X : Nat → Nat) (h : eqB X Z) (h4 : X 214 = Z 214) (h5 : ∀ k, k < 5 → X (215 + k) = Z (215 + k)) : eqB X Z ∧ X 214 = Z 214 ∧ uM X 174 = uM Z 174 := by
  refine ⟨h, h4, ?_⟩
  funext k
  by_cases hk : k < 5
  · rw [uM_at hk, uM_at hk]
    exact h5 k hk
  · rw [Z5_uM _ _ k (by omega), Z5_uM _ _ k (by omega)]
set_option maxRecDepth 20000 in
theorem c_X6_refusedPairs (g : gG) (q : Nat → Nat) (Na : Nat → Nat → Nat) (Ia : Nat → Nat → Int32) (Ns : Nat → Nat) (Is : Nat → Int32) (r : Nat) (i : Int32) (n : Nat)  (hr : r < 8) (hz : Na 8 r ≤ 40) (hn : n ≤ 12) (h3 : Na 0 3 < 1000000) (h1 : Na 0 1 < 1000000) : gCon g mX6_refusedPairs 3 0 0 [.ref (q 26), .int (nI r), .int i, .int (nI n)] (wM g q Na Ia Ns Is) (fun rv ws' => rv = some (.int (rpA (rfK ((Ia 7) r) ((Na 8) r) i (nI (2 * n))) (areP (Ia 9) (40 * r + cl i) n ((Na 0) 3) ((Na 0) 1)))) ∧ ws' = (wM g q Na Ia (va_up Ns 6 (stsA (Ns 6) (rfK ((Ia 7) r) ((Na 8) r) i (nI (2 * n))))) Is)) := by
  refine gCon.of (lv := [(0, .ref (q 26)), (1, .int (nI r)), (2, .int i), (3, .int (nI n))]) (by decide) (gLe rfl) rfl ?_
  refine j_aload_n 1 dX6_refusedPairs_0 rfl 0 rfl ?_
  refine j_iload_n 2 dX6_refusedPairs_1 rfl 1 rfl ?_
  refine j_iload_n 3 dX6_refusedPairs_2 rfl 2 rfl ?_
  refine j_iconst (v := (2 : Int32)) 4 dX6_refusedPairs_3 rfl (by decide) ?_
  refine j_iload_n 5 dX6_refusedPairs_4 rfl 3 rfl ?_
  refine j_imulN 2 n 6 dX6_refusedPairs_5 rfl ?_
  refine j_callVW (rest := []) 9 (c_X6_refused g q Na Ia Ns Is r i (nI (2 * n))  hr (by omega)) [.int (fndA (rfK ((Ia 7) r) ((Na 8) r) i (nI (2 * n))))] dX6_refusedPairs_6 rfl cv_X6_205 rfl rfl 0 rfl rfl (gLe rfl) (gLe rfl) (gLe rfl) (gLe rfl) (wM_len _ _ _ _ _ _ _ _ _ _) rfl ?_
  refine j_istore 11 [(4, .int (fndA (rfK ((Ia 7) r) ((Na 8) r) i (nI (2 * n))))), (0, .ref (q 26)), (1, .int (nI r)), (2, .int i), (3, .int (nI n))] dX6_refusedPairs_9 rfl (by decide) rfl ?_
  refine j_iload 13 dX6_refusedPairs_11 rfl 0 rfl ?_
  refine j_if_eq 16 21 dX6_refusedPairs_13 rfl rfl (fun h13 => ?_) (fun h13 => ?_)
  ·
    have hrf := (fndA_0 rfK_le).mp h13
    have hsp := (rfK_0 hrf).2
    obtain ⟨zj, hzj, hie⟩ := spn_of (by omega) hsp
    have hcl : cl i = zj := by rw [hie]; exact cl_nI (by omega)
    refine j_aload_n 22 dX6_refusedPairs_21 rfl 1 rfl ?_
    refine j_bipush (v := (40 : Int32)) 24 dX6_refusedPairs_22 rfl (by decide) ?_
    refine j_iload_n 25 dX6_refusedPairs_24 rfl 2 rfl ?_
    refine j_imulN 40 r 26 dX6_refusedPairs_25 rfl ?_
    refine j_iload_n 27 dX6_refusedPairs_26 rfl 3 rfl ?_
    refine j_topI i (nI zj) hie ?_
    refine j_iaddN (40 * r) zj 28 dX6_refusedPairs_27 rfl ?_
    refine j_iload_n 29 dX6_refusedPairs_28 rfl 4 rfl ?_
    refine j_callVW (rest := []) 32 (c_X6_arePairs g q Na Ia (va_up Ns 6 (stsA (Ns 6) (rfK ((Ia 7) r) ((Na 8) r) i (nI (2 * n))))) Is ((40 * r) + zj) n  (by omega) h3 h1) [.int (gB (areP (Ia 9) ((40 * r) + zj) n ((Na 0) 3) ((Na 0) 1)))] dX6_refusedPairs_29 rfl cv_X6_216 rfl rfl 0 rfl rfl (gLe rfl) (gLe rfl) (gLe rfl) (gLe rfl) (wM_len _ _ _ _ _ _ _ _ _ _) rfl ?_
    refine j_if_eqB 35 39 dX6_refusedPairs_32 rfl rfl (fun h32 => ?_) (fun h32 => ?_)
    ·
      refine j_ldc (v := (-1000001 : Int32)) 41 dX6_refusedPairs_39 rfl wd_4_140 ?_
      refine j_iretI dX6_refusedPairs_41 rfl ⟨gLe rfl, gLe rfl, ?_⟩
      exact ⟨by rw [rpA, if_pos hrf, hcl, if_neg h32], rfl⟩
    ·
      refine j_iconst (v := (0 : Int32)) 36 dX6_refusedPairs_35 rfl (by decide) ?_
      refine j_goto 41 dX6_refusedPairs_36 rfl ?_
      refine j_iretI dX6_refusedPairs_41 rfl ⟨gLe rfl, gLe rfl, ?_⟩
      exact ⟨by rw [rpA, if_pos hrf, hcl, if_pos h32], rfl⟩
  ·
    refine j_iload 18 dX6_refusedPairs_16 rfl 0 rfl ?_
    refine j_goto 41 dX6_refusedPairs_18 rfl ?_
    refine j_iretI dX6_refusedPairs_41 rfl ⟨gLe rfl, gLe rfl, ?_⟩
    have hne : rfK (Ia 7 r) (Na 8 r) i (nI (2 * n)) ≠ 0 := fun z => h13 ((fndA_0 rfK_le).mpr z)
    exact ⟨by rw [rpA, if_neg hne], rfl⟩
set_option maxRecDepth 20000 in
theorem c_X6_takeOut (g : gG) (q : Nat → Nat) (Na : Nat → Nat → Nat) (Ia : Nat → Nat → Int32) (Ns : Nat → Nat) (Is : Nat → Int32) (n : Nat)  (hn : n < 7776) : gCon g mX6_takeOut 0 0 0 [.ref (q 26), .int (nI n)] (wM g q Na Ia Ns Is) (fun rv ws' => rv = none ∧ ws' = (wM g q (va_up Na 0 (putM (Na 0) 174 (n % 32) (tkU n))) Ia Ns Is)) := by
  refine gCon.of (lv := [(0, .ref (q 26)), (1, .int (nI n))]) (by decide) (gLe rfl) rfl ?_
  refine j_aload_n 1 dX6_takeOut_0 rfl 0 rfl ?_
  refine j_getf 4 0 dX6_takeOut_1 rfl fd_X6_7 rfl rfl ?_
  refine j_sipush (v := (214 : Int32)) 7 dX6_takeOut_4 rfl (by decide) ?_
  refine j_iload_n 8 dX6_takeOut_7 rfl 1 rfl ?_
  refine j_bipush (v := (32 : Int32)) 10 dX6_takeOut_8 rfl (by decide) ?_
  refine j_iremN n 32 11 dX6_takeOut_10 rfl (by omega) (by decide) (by decide) ?_
  refine j_iastN (n % 32) 214 12 1 (wM g q (va_up Na 0 (va_up (Na 0) 214 (n % 32))) Ia Ns Is) dX6_takeOut_11 rfl rfl (by decide) (by decide) rfl ?_
  refine j_iload_n 13 dX6_takeOut_12 rfl 1 rfl ?_
  refine j_bipush (v := (32 : Int32)) 15 dX6_takeOut_13 rfl (by decide) ?_
  refine j_idivN n 32 16 dX6_takeOut_15 rfl (by omega) (by decide) (by decide) ?_
  refine j_istore_n 17 [(2, .int (nI (n / 32))), (0, .ref (q 26)), (1, .int (nI n))] dX6_takeOut_16 rfl (by decide) rfl ?_
  refine j_iconst (v := (0 : Int32)) 18 dX6_takeOut_17 rfl (by decide) ?_
  refine j_istore_n 19 [(3, .int (0 : Int32)), (2, .int (nI (n / 32))), (0, .ref (q 26)), (1, .int (nI n))] dX6_takeOut_18 rfl (by decide) rfl ?_
  refine j_iload_n 20 dX6_takeOut_19 rfl 0 rfl ?_
  refine j_iconst (v := (5 : Int32)) 21 dX6_takeOut_20 rfl (by decide) ?_
  refine j_icmp_geN 0 5 24 47 dX6_takeOut_21 rfl rfl (by decide) (by decide) (fun h21 => absurd h21 (by decide)) (fun h21 => ?_)
  refine j_aload_n 25 dX6_takeOut_24 rfl 2 rfl ?_
  refine j_getf 28 0 dX6_takeOut_25 rfl fd_X6_7 rfl rfl ?_
  refine j_sipush (v := (215 : Int32)) 31 dX6_takeOut_28 rfl (by decide) ?_
  refine j_iload_n 32 dX6_takeOut_31 rfl 0 rfl ?_
  refine j_iaddN 215 0 33 dX6_takeOut_32 rfl ?_
  refine j_iload_n 34 dX6_takeOut_33 rfl 1 rfl ?_
  refine j_iconst (v := (3 : Int32)) 35 dX6_takeOut_34 rfl (by decide) ?_
  refine j_iremN (n / 32) 3 36 dX6_takeOut_35 rfl (by omega) (by decide) (by decide) ?_
  refine j_iastN ((n / 32) % 3) 215 37 1 (wM g q (va_up Na 0 (va_up (va_up (Na 0) 214 (n % 32)) 215 ((n / 32) % 3))) Ia Ns Is) dX6_takeOut_36 rfl rfl (by decide) (by decide) rfl ?_
  refine j_iload_n 38 dX6_takeOut_37 rfl 1 rfl ?_
  refine j_iconst (v := (3 : Int32)) 39 dX6_takeOut_38 rfl (by decide) ?_
  refine j_idivN (n / 32) 3 40 dX6_takeOut_39 rfl (by omega) (by decide) (by decide) ?_
  refine j_istore_n 41 [(2, .int (nI ((n / 32) / 3))), (3, .int (0 : Int32)), (0, .ref (q 26)), (1, .int (nI n))] dX6_takeOut_40 rfl (by decide) rfl ?_
  refine j_iincN 0 1 44 [(3, .int (nI 1)), (2, .int (nI ((n / 32) / 3))), (0, .ref (q 26)), (1, .int (nI n))] dX6_takeOut_41 rfl 1 rfl (by decide) rfl ?_
  refine j_goto 19 dX6_takeOut_44 rfl ?_
  refine j_iload_n 20 dX6_takeOut_19 rfl 0 rfl ?_
  refine j_iconst (v := (5 : Int32)) 21 dX6_takeOut_20 rfl (by decide) ?_
  refine j_icmp_geN 1 5 24 47 dX6_takeOut_21 rfl rfl (by decide) (by decide) (fun h21 => absurd h21 (by decide)) (fun h21 => ?_)
  refine j_aload_n 25 dX6_takeOut_24 rfl 2 rfl ?_
  refine j_getf 28 0 dX6_takeOut_25 rfl fd_X6_7 rfl rfl ?_
  refine j_sipush (v := (215 : Int32)) 31 dX6_takeOut_28 rfl (by decide) ?_
  refine j_iload_n 32 dX6_takeOut_31 rfl 0 rfl ?_
  refine j_iaddN 215 1 33 dX6_takeOut_32 rfl ?_
  refine j_iload_n 34 dX6_takeOut_33 rfl 1 rfl ?_
  refine j_iconst (v := (3 : Int32)) 35 dX6_takeOut_34 rfl (by decide) ?_
  refine j_iremN ((n / 32) / 3) 3 36 dX6_takeOut_35 rfl (by omega) (by decide) (by decide) ?_
  refine j_iastN (((n / 32) / 3) % 3) 216 37 1 (wM g q (va_up Na 0 (va_up (va_up (va_up (Na 0) 214 (n % 32)) 215 ((n / 32) % 3)) 216 (((n / 32) / 3) % 3))) Ia Ns Is) dX6_takeOut_36 rfl rfl (by decide) (by decide) rfl ?_
  refine j_iload_n 38 dX6_takeOut_37 rfl 1 rfl ?_
  refine j_iconst (v := (3 : Int32)) 39 dX6_takeOut_38 rfl (by decide) ?_
  refine j_idivN ((n / 32) / 3) 3 40 dX6_takeOut_39 rfl (by omega) (by decide) (by decide) ?_
  refine j_istore_n 41 [(2, .int (nI (((n / 32) / 3) / 3))), (3, .int (nI 1)), (0, .ref (q 26)), (1, .int (nI n))] dX6_takeOut_40 rfl (by decide) rfl ?_
  refine j_iincN 1 1 44 [(3, .int (nI 2)), (2, .int (nI (((n / 32) / 3) / 3))), (0, .ref (q 26)), (1, .int (nI n))] dX6_takeOut_41 rfl 1 rfl (by decide) rfl ?_
  refine j_goto 19 dX6_takeOut_44 rfl ?_
  refine j_iload_n 20 dX6_takeOut_19 rfl 0 rfl ?_
  refine j_iconst (v := (5 : Int32)) 21 dX6_takeOut_20 rfl (by decide) ?_
  refine j_icmp_geN 2 5 24 47 dX6_takeOut_21 rfl rfl (by decide) (by decide) (fun h21 => absurd h21 (by decide)) (fun h21 => ?_)
  refine j_aload_n 25 dX6_takeOut_24 rfl 2 rfl ?_
  refine j_getf 28 0 dX6_takeOut_25 rfl fd_X6_7 rfl rfl ?_
  refine j_sipush (v := (215 : Int32)) 31 dX6_takeOut_28 rfl (by decide) ?_
  refine j_iload_n 32 dX6_takeOut_31 rfl 0 rfl ?_
  refine j_iaddN 215 2 33 dX6_takeOut_32 rfl ?_
  refine j_iload_n 34 dX6_takeOut_33 rfl 1 rfl ?_
  refine j_iconst (v := (3 : Int32)) 35 dX6_takeOut_34 rfl (by decide) ?_
  refine j_iremN (((n / 32) / 3) / 3) 3 36 dX6_takeOut_35 rfl (by omega) (by decide) (by decide) ?_
  refine j_iastN ((((n / 32) / 3) / 3) % 3) 217 37 1 (wM g q (va_up Na 0 (va_up (va_up (va_up (va_up (Na 0) 214 (n % 32)) 215 ((n / 32) % 3)) 216 (((n / 32) / 3) % 3)) 217 ((((n / 32) / 3) / 3) % 3))) Ia Ns Is) dX6_takeOut_36 rfl rfl (by decide) (by decide) rfl ?_
  refine j_iload_n 38 dX6_takeOut_37 rfl 1 rfl ?_
  refine j_iconst (v := (3 : Int32)) 39 dX6_takeOut_38 rfl (by decide) ?_
  refine j_idivN (((n / 32) / 3) / 3) 3 40 dX6_takeOut_39 rfl (by omega) (by decide) (by decide) ?_
  refine j_istore_n 41 [(2, .int (nI ((((n / 32) / 3) / 3) / 3))), (3, .int (nI 2)), (0, .ref (q 26)), (1, .int (nI n))] dX6_takeOut_40 rfl (by decide) rfl ?_
  refine j_iincN 2 1 44 [(3, .int (nI 3)), (2, .int (nI ((((n / 32) / 3) / 3) / 3))), (0, .ref (q 26)), (1, .int (nI n))] dX6_takeOut_41 rfl 1 rfl (by decide) rfl ?_
  refine j_goto 19 dX6_takeOut_44 rfl ?_
  refine j_iload_n 20 dX6_takeOut_19 rfl 0 rfl ?_
  refine j_iconst (v := (5 : Int32)) 21 dX6_takeOut_20 rfl (by decide) ?_
  refine j_icmp_geN 3 5 24 47 dX6_takeOut_21 rfl rfl (by decide) (by decide) (fun h21 => absurd h21 (by decide)) (fun h21 => ?_)
  refine j_aload_n 25 dX6_takeOut_24 rfl 2 rfl ?_
  refine j_getf 28 0 dX6_takeOut_25 rfl fd_X6_7 rfl rfl ?_
  refine j_sipush (v := (215 : Int32)) 31 dX6_takeOut_28 rfl (by decide) ?_
  refine j_iload_n 32 dX6_takeOut_31 rfl 0 rfl ?_
  refine j_iaddN 215 3 33 dX6_takeOut_32 rfl ?_
  refine j_iload_n 34 dX6_takeOut_33 rfl 1 rfl ?_
  refine j_iconst (v := (3 : Int32)) 35 dX6_takeOut_34 rfl (by decide) ?_
  refine j_iremN ((((n / 32) / 3) / 3) / 3) 3 36 dX6_takeOut_35 rfl (by omega) (by decide) (by decide) ?_
  refine j_iastN (((((n / 32) / 3) / 3) / 3) % 3) 218 37 1 (wM g q (va_up Na 0 (va_up (va_up (va_up (va_up (va_up (Na 0) 214 (n % 32)) 215 ((n / 32) % 3)) 216 (((n / 32) / 3) % 3)) 217 ((((n / 32) / 3) / 3) % 3)) 218 (((((n / 32) / 3) / 3) / 3) % 3))) Ia Ns Is) dX6_takeOut_36 rfl rfl (by decide) (by decide) rfl ?_
  refine j_iload_n 38 dX6_takeOut_37 rfl 1 rfl ?_
  refine j_iconst (v := (3 : Int32)) 39 dX6_takeOut_38 rfl (by decide) ?_
  refine j_idivN ((((n / 32) / 3) / 3) / 3) 3 40 dX6_takeOut_39 rfl (by omega) (by decide) (by decide) ?_
  refine j_istore_n 41 [(2, .int (nI (((((n / 32) / 3) / 3) / 3) / 3))), (3, .int (nI 3)), (0, .ref (q 26)), (1, .int (nI n))] dX6_takeOut_40 rfl (by decide) rfl ?_
  refine j_iincN 3 1 44 [(3, .int (nI 4)), (2, .int (nI (((((n / 32) / 3) / 3) / 3) / 3))), (0, .ref (q 26)), (1, .int (nI n))] dX6_takeOut_41 rfl 1 rfl (by decide) rfl ?_
  refine j_goto 19 dX6_takeOut_44 rfl ?_
  refine j_iload_n 20 dX6_takeOut_19 rfl 0 rfl ?_
  refine j_iconst (v := (5 : Int32)) 21 dX6_takeOut_20 rfl (by decide) ?_
  refine j_icmp_geN 4 5 24 47 dX6_takeOut_21 rfl rfl (by decide) (by decide) (fun h21 => absurd h21 (by decide)) (fun h21 => ?_)
  refine j_aload_n 25 dX6_takeOut_24 rfl 2 rfl ?_
  refine j_getf 28 0 dX6_takeOut_25 rfl fd_X6_7 rfl rfl ?_
  refine j_sipush (v := (215 : Int32)) 31 dX6_takeOut_28 rfl (by decide) ?_
  refine j_iload_n 32 dX6_takeOut_31 rfl 0 rfl ?_
  refine j_iaddN 215 4 33 dX6_takeOut_32 rfl ?_
  refine j_iload_n 34 dX6_takeOut_33 rfl 1 rfl ?_
  refine j_iconst (v := (3 : Int32)) 35 dX6_takeOut_34 rfl (by decide) ?_
  refine j_iremN (((((n / 32) / 3) / 3) / 3) / 3) 3 36 dX6_takeOut_35 rfl (by omega) (by decide) (by decide) ?_
  refine j_iastN ((((((n / 32) / 3) / 3) / 3) / 3) % 3) 219 37 1 (wM g q (va_up Na 0 (va_up (va_up (va_up (va_up (va_up (va_up (Na 0) 214 (n % 32)) 215 ((n / 32) % 3)) 216 (((n / 32) / 3) % 3)) 217 ((((n / 32) / 3) / 3) % 3)) 218 (((((n / 32) / 3) / 3) / 3) % 3)) 219 ((((((n / 32) / 3) / 3) / 3) / 3) % 3))) Ia Ns Is) dX6_takeOut_36 rfl rfl (by decide) (by decide) rfl ?_
  refine j_iload_n 38 dX6_takeOut_37 rfl 1 rfl ?_
  refine j_iconst (v := (3 : Int32)) 39 dX6_takeOut_38 rfl (by decide) ?_
  refine j_idivN (((((n / 32) / 3) / 3) / 3) / 3) 3 40 dX6_takeOut_39 rfl (by omega) (by decide) (by decide) ?_
  refine j_istore_n 41 [(2, .int (nI ((((((n / 32) / 3) / 3) / 3) / 3) / 3))), (3, .int (nI 4)), (0, .ref (q 26)), (1, .int (nI n))] dX6_takeOut_40 rfl (by decide) rfl ?_
  refine j_iincN 4 1 44 [(3, .int (nI 5)), (2, .int (nI ((((((n / 32) / 3) / 3) / 3) / 3) / 3))), (0, .ref (q 26)), (1, .int (nI n))] dX6_takeOut_41 rfl 1 rfl (by decide) rfl ?_
  refine j_goto 19 dX6_takeOut_44 rfl ?_
  refine j_iload_n 20 dX6_takeOut_19 rfl 0 rfl ?_
  refine j_iconst (v := (5 : Int32)) 21 dX6_takeOut_20 rfl (by decide) ?_
  refine j_icmp_geN 5 5 24 47 dX6_takeOut_21 rfl rfl (by decide) (by decide) (fun h21 => ?_) (fun h21 => absurd h21 (by decide))
  refine j_vret dX6_takeOut_47 rfl ⟨gLe rfl, gLe rfl, ?_⟩
  exact ⟨rfl, congrArg (fun z => wM g q (va_up Na 0 z) Ia Ns Is) tk_row⟩
set_option maxRecDepth 20000 in
theorem c_X6_number_ (g : gG) (q : Nat → Nat) (Na : Nat → Nat → Nat) (Ia : Nat → Nat → Int32) (Ns : Nat → Nat) (Is : Nat → Int32)   (h2 : Na 0 2 ≤ 5) (hS : ∀ j, j < Na 0 2 → Na 0 (4 + 4 * j + 3) < 1000000) (hU : ∀ k, uM (Na 0) 174 k ≤ 1000000) : gCon g mX6_number_ 0 0 0 [.ref (q 26)] (wM g q Na Ia Ns Is) (fun rv ws' => rv = some (.int (nI (numA (Na 0) ((Na 0) 214) (uM (Na 0) 174)))) ∧ ws' = (wM g q Na Ia Ns Is)) := by
  refine gCon.of (lv := [(0, .ref (q 26))]) (by decide) (gLe rfl) rfl ?_
  refine j_iconst (v := (0 : Int32)) 1 dX6_number__0 rfl (by decide) ?_
  refine j_istore_n 2 [(1, .int (0 : Int32)), (0, .ref (q 26))] dX6_number__1 rfl (by decide) rfl ?_
  refine j_iconst (v := (4 : Int32)) 3 dX6_number__2 rfl (by decide) ?_
  refine j_istore_n 4 [(2, .int (4 : Int32)), (1, .int (0 : Int32)), (0, .ref (q 26))] dX6_number__3 rfl (by decide) rfl ?_
  have hL4 : ∀ (zm4 : Nat) (zk : Nat), zk < zm4 → (zk ≤ 5) → gJ g mX6_number_ 0 0 0 (fun k' j' rv ws' => k' ≤ 0 ∧ j' ≤ 0 ∧ (rv = some (.int (nI (numA (Na 0) ((Na 0) 214) (uM (Na 0) 174)))) ∧ ws' = (wM g q Na Ia Ns Is))) 0 0 4 [(2, .int (nI zk - 1)), (1, .int (nI (numD (Na 0) (uM (Na 0) 174) (5 - zk)))), (0, .ref (q 26))] [] (wM g q Na Ia Ns Is) := by
    intro zm4
    induction zm4 with
    | zero => intro zk zmh; exact absurd zmh (Nat.not_lt_zero _)
    | succ zm4 zih4 =>
      intro zk zmh4 hz
      refine j_iload_n 5 dX6_number__4 rfl 0 rfl ?_
      refine j_if_lt 8 71 dX6_number__5 rfl rfl (fun h5 => ?_) (fun h5 => ?_)
      ·
        refine j_bipush (v := (32 : Int32)) 73 dX6_number__71 rfl (by decide) ?_
        refine j_iload_n 74 dX6_number__73 rfl 1 rfl ?_
        refine j_imulN 32 (numD (Na 0) (uM (Na 0) 174) (5 - zk)) 75 dX6_number__74 rfl ?_
        refine j_aload_n 76 dX6_number__75 rfl 2 rfl ?_
        refine j_getf 79 0 dX6_number__76 rfl fd_X6_7 rfl rfl ?_
        refine j_sipush (v := (214 : Int32)) 82 dX6_number__79 rfl (by decide) ?_
        refine j_ialdN 214 83 1 dX6_number__82 rfl rfl (by decide) (by decide) ?_
        refine j_iaddN (32 * (numD (Na 0) (uM (Na 0) 174) (5 - zk))) ((Na 0) 214) 84 dX6_number__83 rfl ?_
        refine j_iretI dX6_number__84 rfl ⟨gLe rfl, gLe rfl, ?_⟩
        have ye : zk = 0 := (pred_neg (by omega)).mp h5
        subst ye
        exact ⟨rfl, rfl⟩
      ·
        obtain ⟨zh, rfl⟩ : ∃ z, zk = z + 1 := ⟨zk - 1, by have := mt (pred_neg (by omega)).mpr h5; omega⟩
        refine j_lvs [(2, .int (nI zh)), (1, .int (nI (numD (Na 0) (uM (Na 0) 174) (5 - (zh + 1))))), (0, .ref (q 26))] (by rw [nI_pred]) ?_
        have hdz : dgA (Na 0) (uM (Na 0) 174) zh < 3 := dgA_lt
        have hhu : Na 0 (215 + zh) ≤ 1000000 := by
          have yh := hU zh
          rw [uM_at (by omega)] at yh
          exact yh
        have hC64 : ∀ (zd : Nat), (zd = dgA (Na 0) (uM (Na 0) 174) zh) → gJ g mX6_number_ 0 0 0 (fun k' j' rv ws' => k' ≤ 0 ∧ j' ≤ 0 ∧ (rv = some (.int (nI (numA (Na 0) ((Na 0) 214) (uM (Na 0) 174)))) ∧ ws' = (wM g q Na Ia Ns Is))) 0 0 64 [(2, .int (nI zh)), (1, .int (nI (numD (Na 0) (uM (Na 0) 174) (5 - (zh + 1))))), (0, .ref (q 26))] [.int (nI (3 * numD (Na 0) (uM (Na 0) 174) (5 - (zh + 1)) + zd))] (wM g q Na Ia Ns Is) := by
          intro zd hzd
          refine j_istore_n 65 [(1, .int (nI (3 * numD (Na 0) (uM (Na 0) 174) (5 - (zh + 1)) + zd))), (2, .int (nI zh)), (0, .ref (q 26))] dX6_number__64 rfl (by decide) rfl ?_
          refine j_lvs [(1, .int (nI (numD (Na 0) (uM (Na 0) 174) (5 - zh)))), (2, .int (nI zh)), (0, .ref (q 26))] (by rw [hzd, show 5 - zh = 5 - (zh + 1) + 1 by omega, numD, show 4 - (5 - (zh + 1)) = zh by omega]) ?_
          refine j_iinc (v := (nI zh - 1)) 68 [(2, .int (nI zh - 1)), (1, .int (nI (numD (Na 0) (uM (Na 0) 174) (5 - zh)))), (0, .ref (q 26))] dX6_number__65 rfl 1 rfl (madd1 _) (by decide) rfl ?_
          refine j_goto 4 dX6_number__68 rfl ?_
          refine j_lv [0, 1, 2] rfl ?_
          exact zih4 zh (by omega) (by omega)
        refine j_iload_n 9 dX6_number__8 rfl 0 rfl ?_
        refine j_aload_n 10 dX6_number__9 rfl 2 rfl ?_
        refine j_getf 13 0 dX6_number__10 rfl fd_X6_7 rfl rfl ?_
        refine j_iconst (v := (2 : Int32)) 14 dX6_number__13 rfl (by decide) ?_
        refine j_ialdN 2 15 1 dX6_number__14 rfl rfl (by decide) (by decide) ?_
        refine j_icmp_geN zh ((Na 0) 2) 18 38 dX6_number__15 rfl rfl (by omega) (by have z0 := h2; omega) (fun h15 => ?_) (fun h15 => ?_)
        ·
          refine j_iconst (v := (0 : Int32)) 39 dX6_number__38 rfl (by decide) ?_
          refine j_istore_n 40 [(3, .int (0 : Int32)), (2, .int (nI zh)), (1, .int (nI (numD (Na 0) (uM (Na 0) 174) (5 - (zh + 1))))), (0, .ref (q 26))] dX6_number__39 rfl (by decide) rfl ?_
          refine j_iconst (v := (3 : Int32)) 41 dX6_number__40 rfl (by decide) ?_
          refine j_iload_n 42 dX6_number__41 rfl 2 rfl ?_
          refine j_imulN 3 (numD (Na 0) (uM (Na 0) 174) (5 - (zh + 1))) 43 dX6_number__42 rfl ?_
          refine j_iload_n 44 dX6_number__43 rfl 0 rfl ?_
          refine j_if_eqN 0 47 62 dX6_number__44 rfl rfl (by decide) (fun h44 => ?_) (fun h44 => absurd h44 (by decide))
          refine j_iconst (v := (0 : Int32)) 63 dX6_number__62 rfl (by decide) ?_
          refine j_iaddN (3 * (numD (Na 0) (uM (Na 0) 174) (5 - (zh + 1)))) 0 64 dX6_number__63 rfl ?_
          refine j_lv [1, 2, 3] rfl ?_
          exact hC64 0 ((if_neg (by first | exact fun z => absurd z.1 (Nat.not_lt.mpr h15) | exact fun z => h31 z.2)).symm)
        ·
          have hhs := hS zh (by omega)
          refine j_aload_n 19 dX6_number__18 rfl 2 rfl ?_
          refine j_getf 22 0 dX6_number__19 rfl fd_X6_7 rfl rfl ?_
          refine j_iconst (v := (4 : Int32)) 23 dX6_number__22 rfl (by decide) ?_
          refine j_iconst (v := (4 : Int32)) 24 dX6_number__23 rfl (by decide) ?_
          refine j_iload_n 25 dX6_number__24 rfl 0 rfl ?_
          refine j_imulN 4 zh 26 dX6_number__25 rfl ?_
          refine j_iaddN 4 (4 * zh) 27 dX6_number__26 rfl ?_
          refine j_iconst (v := (3 : Int32)) 28 dX6_number__27 rfl (by decide) ?_
          refine j_iaddN (4 + (4 * zh)) 3 29 dX6_number__28 rfl ?_
          refine j_ialdN ((4 + (4 * zh)) + 3) 30 1 dX6_number__29 rfl rfl (by omega) (by decide) ?_
          refine j_iconst (v := (1 : Int32)) 31 dX6_number__30 rfl (by decide) ?_
          refine j_icmp_neN ((Na 0) ((4 + (4 * zh)) + 3)) 1 34 38 dX6_number__31 rfl rfl (by have z0 := hhs; omega) (by decide) (fun h31 => ?_) (fun h31 => ?_)
          ·
            refine j_iconst (v := (0 : Int32)) 39 dX6_number__38 rfl (by decide) ?_
            refine j_istore_n 40 [(3, .int (0 : Int32)), (2, .int (nI zh)), (1, .int (nI (numD (Na 0) (uM (Na 0) 174) (5 - (zh + 1))))), (0, .ref (q 26))] dX6_number__39 rfl (by decide) rfl ?_
            refine j_iconst (v := (3 : Int32)) 41 dX6_number__40 rfl (by decide) ?_
            refine j_iload_n 42 dX6_number__41 rfl 2 rfl ?_
            refine j_imulN 3 (numD (Na 0) (uM (Na 0) 174) (5 - (zh + 1))) 43 dX6_number__42 rfl ?_
            refine j_iload_n 44 dX6_number__43 rfl 0 rfl ?_
            refine j_if_eqN 0 47 62 dX6_number__44 rfl rfl (by decide) (fun h44 => ?_) (fun h44 => absurd h44 (by decide))
            refine j_iconst (v := (0 : Int32)) 63 dX6_number__62 rfl (by decide) ?_
            refine j_iaddN (3 * (numD (Na 0) (uM (Na 0) 174) (5 - (zh + 1)))) 0 64 dX6_number__63 rfl ?_
            refine j_lv [1, 2, 3] rfl ?_
            exact hC64 0 ((if_neg (by first | exact fun z => absurd z.1 (Nat.not_lt.mpr h15) | exact fun z => h31 z.2)).symm)
          ·
            refine j_iconst (v := (1 : Int32)) 35 dX6_number__34 rfl (by decide) ?_
            refine j_goto 39 dX6_number__35 rfl ?_
            refine j_istore_n 40 [(3, .int (1 : Int32)), (2, .int (nI zh)), (1, .int (nI (numD (Na 0) (uM (Na 0) 174) (5 - (zh + 1))))), (0, .ref (q 26))] dX6_number__39 rfl (by decide) rfl ?_
            refine j_iconst (v := (3 : Int32)) 41 dX6_number__40 rfl (by decide) ?_
            refine j_iload_n 42 dX6_number__41 rfl 2 rfl ?_
            refine j_imulN 3 (numD (Na 0) (uM (Na 0) 174) (5 - (zh + 1))) 43 dX6_number__42 rfl ?_
            refine j_iload_n 44 dX6_number__43 rfl 0 rfl ?_
            refine j_if_eqN 1 47 62 dX6_number__44 rfl rfl (by decide) (fun h44 => absurd h44 (by decide)) (fun h44 => ?_)
            refine j_aload_n 48 dX6_number__47 rfl 3 rfl ?_
            refine j_getf 51 0 dX6_number__48 rfl fd_X6_7 rfl rfl ?_
            refine j_sipush (v := (215 : Int32)) 54 dX6_number__51 rfl (by decide) ?_
            refine j_iload_n 55 dX6_number__54 rfl 1 rfl ?_
            refine j_iaddN 215 zh 56 dX6_number__55 rfl ?_
            refine j_ialdN (215 + zh) 57 1 dX6_number__56 rfl rfl (by omega) (by decide) ?_
            refine j_iconst (v := (3 : Int32)) 58 dX6_number__57 rfl (by decide) ?_
            refine j_iremN ((Na 0) (215 + zh)) 3 59 dX6_number__58 rfl (by have z0 := hhu; omega) (by decide) (by decide) ?_
            refine j_goto 63 dX6_number__59 rfl ?_
            refine j_iaddN (3 * (numD (Na 0) (uM (Na 0) 174) (5 - (zh + 1)))) (((Na 0) (215 + zh)) % 3) 64 dX6_number__63 rfl ?_
            refine j_lv [1, 2, 3] rfl ?_
            exact hC64 (Na 0 (174 + 41 + zh) % 3) (by rw [dgA, if_pos ⟨Nat.not_le.mp h15, h31⟩, uM_at (by omega)])
  refine j_lvs [(2, .int (nI 5 - 1)), (1, .int (nI 0)), (0, .ref (q 26))] (by rw [nI_pred 4]; rfl) ?_
  refine j_lv [0, 1, 2] rfl ?_
  exact hL4 _ 5 (Nat.lt_succ_self _) (by omega)
set_option maxRecDepth 20000 in
theorem c_X6_after (g : gG) (q : Nat → Nat) (Na : Nat → Nat → Nat) (Ia : Nat → Nat → Int32) (Ns : Nat → Nat) (Is : Nat → Int32) (n : Nat) (b : Nat)  (hs : Is 12 = skI 99) (hP : okP (Na 0)) (hn : n < 7776) (hN : n % 32 < 2 ^ Na 0 2) (hB : b < Na 0 3) : gCon g mX6_after 4 0 0 [.ref (q 26), .int (nI n), .int (nI b)] (wM g q Na Ia Ns Is) (fun rv ws' => ∃ (Z1 : Nat → Nat), (eqB Z1 (Na 0)) ∧ rv = some (.int (nI (nxN (Na 0) n b))) ∧ ws' = (wM g q (va_up Na 0 Z1) Ia Ns Is)) := by
  refine gCon.of (lv := [(0, .ref (q 26)), (1, .int (nI n)), (2, .int (nI b))]) (by decide) (gLe rfl) rfl ?_
  have hE : eqB (putM (Na 0) 174 (n % 32) (tkU n)) (Na 0) := eqB_put (fun k _ => rfl)
  have hgk := gOA_ok hP (sk := 99) (b := b) hN (Z5_tk n)
  have hgz := gOA_eq hP hE (sk := 99) (s := n % 32) (u := tkU n) hB
  have hp3 := hP.2.2.1
  refine j_aload_n 1 dX6_after_0 rfl 0 rfl ?_
  refine j_iload_n 2 dX6_after_1 rfl 1 rfl ?_
  refine j_callVW (rest := []) 5 (c_X6_takeOut g q Na Ia Ns Is n  hn) [] dX6_after_2 rfl cv_X6_244 rfl rfl 0 rfl rfl (gLe rfl) (gLe rfl) (gLe rfl) (gLe rfl) (wM_len _ _ _ _ _ _ _ _ _ _) rfl ?_
  refine j_aload_n 6 dX6_after_5 rfl 0 rfl ?_
  refine j_sipush (v := (174 : Int32)) 9 dX6_after_6 rfl (by decide) ?_
  refine j_iload_n 10 dX6_after_9 rfl 2 rfl ?_
  refine j_callVW (rest := []) 13 (c_X6_go g q (va_up Na 0 (putM (Na 0) 174 (n % 32) (tkU n))) Ia Ns Is 174 b 99 hs (okP_eq (eqB_P hE) hP) (Or.inr rfl) (by show putM (Na 0) 174 (n % 32) (tkU n) (174 + 40) < 32; rw [putM_at]; exact Nat.mod_lt _ (by decide)) (fun k => by show uM (putM (Na 0) 174 (n % 32) (tkU n)) 174 k ≤ _; rw [uM_put (Z5_tk n)]; exact Nat.le_trans tkU_le (by decide)) (by show b < putM (Na 0) 174 (n % 32) (tkU n) 3; rw [putM_lo (by decide)]; exact hB)) [.int (nI ((goA (putM (Na 0) 174 (n % 32) (tkU n)) 99 ((putM (Na 0) 174 (n % 32) (tkU n)) (24 + 2 * b)) 5 ((putM (Na 0) 174 (n % 32) (tkU n)) 2 - 1) ((putM (Na 0) 174 (n % 32) (tkU n)) (174 + 40)) (uM (putM (Na 0) 174 (n % 32) (tkU n)) 174)).1))] dX6_after_10 rfl cv_X6_187 rfl rfl 0 rfl rfl (gLe rfl) (gLe rfl) (gLe rfl) (gLe rfl) (wM_len _ _ _ _ _ _ _ _ _ _) rfl ?_
  refine j_ws (wM g q (va_up Na 0 (putM (Na 0) 174 (gOA (Na 0) 99 b (n % 32) (tkU n)).2.1 (gOA (Na 0) 99 b (n % 32) (tkU n)).2.2)) Ia Ns Is) (congrArg (fun z => wM g q (va_up Na 0 z) Ia Ns Is) (af_row hP hB)) ?_
  refine j_pop 14 dX6_after_13 rfl rfl ?_
  refine j_aload_n 15 dX6_after_14 rfl 0 rfl ?_
  refine j_callVW (rest := []) 18 (c_X6_number_ g q (va_up Na 0 (putM (Na 0) 174 (gOA (Na 0) 99 b (n % 32) (tkU n)).2.1 (gOA (Na 0) 99 b (n % 32) (tkU n)).2.2)) Ia Ns Is   (by show (putM (Na 0) 174 (gOA (Na 0) 99 b (n % 32) (tkU n)).2.1 (gOA (Na 0) 99 b (n % 32) (tkU n)).2.2) 2 ≤ 5; rw [putM_lo (by decide)]; exact hp3) (fun j hj => by have hj : j < (putM (Na 0) 174 (gOA (Na 0) 99 b (n % 32) (tkU n)).2.1 (gOA (Na 0) 99 b (n % 32) (tkU n)).2.2) 2 := hj; rw [putM_lo (by decide)] at hj; show (putM (Na 0) 174 (gOA (Na 0) 99 b (n % 32) (tkU n)).2.1 (gOA (Na 0) 99 b (n % 32) (tkU n)).2.2) (4 + 4 * j + 3) < _; rw [putM_lo (by omega)]; have := (hP.2.2.2.2.1 j hj).2.2.2; omega) (fun k => by show uM (putM (Na 0) 174 (gOA (Na 0) 99 b (n % 32) (tkU n)).2.1 (gOA (Na 0) 99 b (n % 32) (tkU n)).2.2) 174 k ≤ _; rw [uM_put hgk.2.2.1]; have z1 := hgk.2.2.2 k; have z2 : tkU n k ≤ 2 := tkU_le; omega)) [.int (nI (numA (putM (Na 0) 174 (gOA (Na 0) 99 b (n % 32) (tkU n)).2.1 (gOA (Na 0) 99 b (n % 32) (tkU n)).2.2) ((putM (Na 0) 174 (gOA (Na 0) 99 b (n % 32) (tkU n)).2.1 (gOA (Na 0) 99 b (n % 32) (tkU n)).2.2) 214) (uM (putM (Na 0) 174 (gOA (Na 0) 99 b (n % 32) (tkU n)).2.1 (gOA (Na 0) 99 b (n % 32) (tkU n)).2.2) 174)))] dX6_after_15 rfl cv_X6_236 rfl rfl 0 rfl rfl (gLe rfl) (gLe rfl) (gLe rfl) (gLe rfl) (wM_len _ _ _ _ _ _ _ _ _ _) rfl ?_
  refine j_iretI dX6_after_18 rfl ⟨gLe rfl, gLe rfl, ?_⟩
  exact ⟨putM (Na 0) 174 (gOA (Na 0) 99 b (n % 32) (tkU n)).2.1 (gOA (Na 0) 99 b (n % 32) (tkU n)).2.2, eqB_put (fun k _ => rfl), by show some (Value.int (nI (numA (putM (Na 0) 174 (gOA (Na 0) 99 b (n % 32) (tkU n)).2.1 (gOA (Na 0) 99 b (n % 32) (tkU n)).2.2) ((putM (Na 0) 174 (gOA (Na 0) 99 b (n % 32) (tkU n)).2.1 (gOA (Na 0) 99 b (n % 32) (tkU n)).2.2) (174 + 40)) (uM (putM (Na 0) 174 (gOA (Na 0) 99 b (n % 32) (tkU n)).2.1 (gOA (Na 0) 99 b (n % 32) (tkU n)).2.2) 174)))) = _; rw [putM_at, uM_put hgk.2.2.1, numA_eq (eqB_P (eqB_put (fun k _ => rfl)))]; rfl, rfl⟩
