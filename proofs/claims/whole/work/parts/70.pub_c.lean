theorem le8_iff {n : Int32} : (¬ n < 1 ∧ n ≤ 8) ↔ ((1 : Int32) ≤ n ∧ n ≤ 8) := by
  rw [Int32.lt_iff_toInt_lt, Int32.le_iff_toInt_le, Int32.le_iff_toInt_le]
  omega
theorem mx_iff {n c : Int32} : (¬ n < 1 ∧ n ≤ c) ↔ ((1 : Int32) ≤ n ∧ n ≤ c) := by
  rw [Int32.lt_iff_toInt_lt, Int32.le_iff_toInt_le, Int32.le_iff_toInt_le]
  omega
theorem in_h {h : Int32} {n : Nat} (hn : n < 2147483648) : (¬ h < 0 ∧ h < nI n) ↔ inR h n := by
  rw [i32_neg, Int32.lt_iff_toInt_lt, nI_toInt hn]
  unfold inR
  omega
/-- the kinds above a kind -/
def abN (o : Nat) : Nat := [0, 0, 1, 1, 0, 4].getD o 0
theorem abN_at : ∀ o, o < 6 → (gSta 0).getD (nI o).toNatClampNeg 0 = nI (abN o) ∧ abN o < 6 := by decide
def asW (a : Nat) : Nat → Nat → Nat
  | 0, o => o
  | f + 1, o => if o = a then o else asW a f (abN o)
theorem asW_a {a : Nat} : ∀ f, asW a f a = a
  | 0 => rfl
  | f + 1 => if_pos rfl
theorem asW_is : ∀ kd, kd < 6 → ∀ a, a < 6 → (asW a 6 kd = a ↔ isK kd a) := by decide
set_option maxRecDepth 20000 in
theorem k_fault (g : gG) (u : Nat → Nat) (S : RS) (ws : va_W)  (hI : RI S) (hC : cR g u S ws) : gCon g mX5_fault 0 0 0 [.ref (u 0)] ws (fun rv ws' => rv = some (.int (pM_fault S).1) ∧ cR g u (pM_fault S).2 ws') := by
  refine gCon.of (lv := [(0, .ref (u 0))]) (by decide) (gLe rfl) rfl ?_
  obtain ⟨so, xi, xj, xe, xf, xg, rf, af, mf, T, kl, ks, ke, kt, kv, kf, yT, s0, s1, s2, D0, D1, D2, R4, A4, I4, np, Pl, pL, Sr, hA, hN, hR, hW, hAc, hM, hS, hZ1, hZ2, hp⟩ := hC
  obtain ⟨rfl, rfl, rfl, rfl, rfl, rfl, rfl⟩ := hN
  have hxi := hAc.1
  have hxj := hI.2.1
  have hkl := hI.2.2.2.2.1
  have hxe := hI.2.2.2.2.2.2.2.2.1
  refine j_perm _ hp ?_
  refine j_ws ([((u 0), .inr (5, [.ref (u 1), .ref (u 5), .ref (u 10), .ref (u 14), .ref (u 18), .ref (u 2), .int (nI xi), .int (nI (S.2.2.1 2)), .ref (u 3), va_rf so, .ref (u 4), .int (nI (S.2.2.1 11)), .int (nI (S.2.2.1 5)), .int (nI (S.2.2.1 6))])), ((u 1), .inl (g.2.1 3, 8, .inr (.inr (.inr (.inr rf))))), ((u 2), .inl (g.2.1 4, 24, .inr (.inr (.inr (.inr af))))), ((u 3), .inl (g.2.1 4, 2, .inr (.inr (.inr (.inr mf))))), ((u 4), .inl (g.2.1 0, 16, .inl (nF (S.1 10)))), ((u 5), .inr (4, [.ref (u 6), .int (nI (S.2.2.1 4)), .int (nI ks), .int (nI ke), .int (nI kt), .int (nI kv), .int (nI kf)])), ((u 6), .inl (g.2.1 1, 400, .inl (sgF (S.1 3)))), ((u 10), .inr (3, [.ref s0, .int (nI (D0 0 0)), .ref (u 11), .ref (u 12), .ref (u 13)])), ((u 11), .inl (g.2.1 0, 5, .inl (nF (D0 1)))), ((u 12), .inl (g.2.1 0, 6, .inl (nF (D0 2)))), ((u 13), .inl (g.2.1 0, 6, .inl (nF (D0 3)))), ((u 14), .inr (3, [.ref s1, .int (nI (D1 0 0)), .ref (u 15), .ref (u 16), .ref (u 17)])), ((u 15), .inl (g.2.1 0, 5, .inl (nF (D1 1)))), ((u 16), .inl (g.2.1 0, 6, .inl (nF (D1 2)))), ((u 17), .inl (g.2.1 0, 6, .inl (nF (D1 3)))), ((u 18), .inr (3, [.ref s2, .int (nI (D2 0 0)), .ref (u 19), .ref (u 20), .ref (u 21)])), ((u 19), .inl (g.2.1 0, 5, .inl (nF (D2 1)))), ((u 20), .inl (g.2.1 0, 6, .inl (nF (D2 2)))), ((u 21), .inl (g.2.1 0, 6, .inl (nF (D2 3))))] ++ (tlW R4 A4 I4 np Pl Sr)) rfl ?_
  refine j_aload_n 1 dX5_fault_0 rfl 0 rfl ?_
  refine j_getf 4 0 dX5_fault_1 rfl fd_X5_49 rfl rfl ?_
  have ze : (pM_fault S) = ((nI (S.2.2.1 5)), S) := by
    rfl
  refine j_iretI dX5_fault_4 rfl ⟨gLe rfl, gLe rfl, ?_⟩
  rw [ze]
  exact ⟨rfl, so, xi, (S.2.2.1 2), (S.2.2.1 11), (S.2.2.1 5), (S.2.2.1 6), rf, af, mf, (S.1 10), (S.2.2.1 4), ks, ke, kt, kv, kf, (S.1 3), s0, s1, s2, D0, D1, D2, R4, A4, I4, np, Pl, pL, Sr, hA, ⟨rfl, rfl, rfl, rfl, rfl, rfl, rfl⟩, hR, hW, hAc, hM, hS, hZ1, hZ2, (List.Perm.refl _)⟩
set_option maxRecDepth 20000 in
theorem k_status (g : gG) (u : Nat → Nat) (S : RS) (ws : va_W)  (hI : RI S) (hC : cR g u S ws) : gCon g mX5_status 0 0 0 [.ref (u 0)] ws (fun rv ws' => rv = some (.int (pM_status S).1) ∧ cR g u (pM_status S).2 ws') := by
  refine gCon.of (lv := [(0, .ref (u 0))]) (by decide) (gLe rfl) rfl ?_
  obtain ⟨so, xi, xj, xe, xf, xg, rf, af, mf, T, kl, ks, ke, kt, kv, kf, yT, s0, s1, s2, D0, D1, D2, R4, A4, I4, np, Pl, pL, Sr, hA, hN, hR, hW, hAc, hM, hS, hZ1, hZ2, hp⟩ := hC
  obtain ⟨rfl, rfl, rfl, rfl, rfl, rfl, rfl⟩ := hN
  have hxi := hAc.1
  have hxj := hI.2.1
  have hkl := hI.2.2.2.2.1
  have hxe := hI.2.2.2.2.2.2.2.2.1
  refine j_perm _ hp ?_
  refine j_ws ([((u 0), .inr (5, [.ref (u 1), .ref (u 5), .ref (u 10), .ref (u 14), .ref (u 18), .ref (u 2), .int (nI xi), .int (nI (S.2.2.1 2)), .ref (u 3), va_rf so, .ref (u 4), .int (nI (S.2.2.1 11)), .int (nI (S.2.2.1 5)), .int (nI (S.2.2.1 6))])), ((u 1), .inl (g.2.1 3, 8, .inr (.inr (.inr (.inr rf))))), ((u 2), .inl (g.2.1 4, 24, .inr (.inr (.inr (.inr af))))), ((u 3), .inl (g.2.1 4, 2, .inr (.inr (.inr (.inr mf))))), ((u 4), .inl (g.2.1 0, 16, .inl (nF (S.1 10)))), ((u 5), .inr (4, [.ref (u 6), .int (nI (S.2.2.1 4)), .int (nI ks), .int (nI ke), .int (nI kt), .int (nI kv), .int (nI kf)])), ((u 6), .inl (g.2.1 1, 400, .inl (sgF (S.1 3)))), ((u 10), .inr (3, [.ref s0, .int (nI (D0 0 0)), .ref (u 11), .ref (u 12), .ref (u 13)])), ((u 11), .inl (g.2.1 0, 5, .inl (nF (D0 1)))), ((u 12), .inl (g.2.1 0, 6, .inl (nF (D0 2)))), ((u 13), .inl (g.2.1 0, 6, .inl (nF (D0 3)))), ((u 14), .inr (3, [.ref s1, .int (nI (D1 0 0)), .ref (u 15), .ref (u 16), .ref (u 17)])), ((u 15), .inl (g.2.1 0, 5, .inl (nF (D1 1)))), ((u 16), .inl (g.2.1 0, 6, .inl (nF (D1 2)))), ((u 17), .inl (g.2.1 0, 6, .inl (nF (D1 3)))), ((u 18), .inr (3, [.ref s2, .int (nI (D2 0 0)), .ref (u 19), .ref (u 20), .ref (u 21)])), ((u 19), .inl (g.2.1 0, 5, .inl (nF (D2 1)))), ((u 20), .inl (g.2.1 0, 6, .inl (nF (D2 2)))), ((u 21), .inl (g.2.1 0, 6, .inl (nF (D2 3))))] ++ (tlW R4 A4 I4 np Pl Sr)) rfl ?_
  refine j_aload_n 1 dX5_status_0 rfl 0 rfl ?_
  refine j_getf 4 0 dX5_status_1 rfl fd_X5_52 rfl rfl ?_
  have ze : (pM_status S) = ((nI (S.2.2.1 6)), S) := by
    rfl
  refine j_iretI dX5_status_4 rfl ⟨gLe rfl, gLe rfl, ?_⟩
  rw [ze]
  exact ⟨rfl, so, xi, (S.2.2.1 2), (S.2.2.1 11), (S.2.2.1 5), (S.2.2.1 6), rf, af, mf, (S.1 10), (S.2.2.1 4), ks, ke, kt, kv, kf, (S.1 3), s0, s1, s2, D0, D1, D2, R4, A4, I4, np, Pl, pL, Sr, hA, ⟨rfl, rfl, rfl, rfl, rfl, rfl, rfl⟩, hR, hW, hAc, hM, hS, hZ1, hZ2, (List.Perm.refl _)⟩
set_option maxRecDepth 20000 in
theorem k_feed (g : gG) (u : Nat → Nat) (S : RS) (ws : va_W) (w : Int64) (n : Int32) (hI : RI S) (hC : cR g u S ws) : gCon g mX5_feed 1 0 0 [.ref (u 0), .long w, .int n] ws (fun rv ws' => rv = some (.int (pM_feed w n S).1) ∧ cR g u (pM_feed w n S).2 ws') := by
  refine gCon.of (lv := [(0, .ref (u 0)), (1, .long w), (3, .int n)]) (by decide) (gLe rfl) rfl ?_
  obtain ⟨so, xi, xj, xe, xf, xg, rf, af, mf, T, kl, ks, ke, kt, kv, kf, yT, s0, s1, s2, D0, D1, D2, R4, A4, I4, np, Pl, pL, Sr, hA, hN, hR, hW, hAc, hM, hS, hZ1, hZ2, hp⟩ := hC
  obtain ⟨rfl, rfl, rfl, rfl, rfl, rfl, rfl⟩ := hN
  have hxi := hAc.1
  have hxj := hI.2.1
  have hkl := hI.2.2.2.2.1
  have hxe := hI.2.2.2.2.2.2.2.2.1
  refine j_perm _ hp ?_
  refine j_ws ([((u 0), .inr (5, [.ref (u 1), .ref (u 5), .ref (u 10), .ref (u 14), .ref (u 18), .ref (u 2), .int (nI xi), .int (nI (S.2.2.1 2)), .ref (u 3), va_rf so, .ref (u 4), .int (nI (S.2.2.1 11)), .int (nI (S.2.2.1 5)), .int (nI (S.2.2.1 6))])), ((u 1), .inl (g.2.1 3, 8, .inr (.inr (.inr (.inr rf))))), ((u 2), .inl (g.2.1 4, 24, .inr (.inr (.inr (.inr af))))), ((u 3), .inl (g.2.1 4, 2, .inr (.inr (.inr (.inr mf))))), ((u 4), .inl (g.2.1 0, 16, .inl (nF (S.1 10)))), ((u 5), .inr (4, [.ref (u 6), .int (nI (S.2.2.1 4)), .int (nI ks), .int (nI ke), .int (nI kt), .int (nI kv), .int (nI kf)])), ((u 6), .inl (g.2.1 1, 400, .inl (sgF (S.1 3)))), ((u 10), .inr (3, [.ref s0, .int (nI (D0 0 0)), .ref (u 11), .ref (u 12), .ref (u 13)])), ((u 11), .inl (g.2.1 0, 5, .inl (nF (D0 1)))), ((u 12), .inl (g.2.1 0, 6, .inl (nF (D0 2)))), ((u 13), .inl (g.2.1 0, 6, .inl (nF (D0 3)))), ((u 14), .inr (3, [.ref s1, .int (nI (D1 0 0)), .ref (u 15), .ref (u 16), .ref (u 17)])), ((u 15), .inl (g.2.1 0, 5, .inl (nF (D1 1)))), ((u 16), .inl (g.2.1 0, 6, .inl (nF (D1 2)))), ((u 17), .inl (g.2.1 0, 6, .inl (nF (D1 3)))), ((u 18), .inr (3, [.ref s2, .int (nI (D2 0 0)), .ref (u 19), .ref (u 20), .ref (u 21)])), ((u 19), .inl (g.2.1 0, 5, .inl (nF (D2 1)))), ((u 20), .inl (g.2.1 0, 6, .inl (nF (D2 2)))), ((u 21), .inl (g.2.1 0, 6, .inl (nF (D2 3))))] ++ (tlW R4 A4 I4 np Pl Sr)) rfl ?_
  refine j_iload_n 1 dX5_feed_0 rfl 2 rfl ?_
  refine j_iconst (v := (1 : Int32)) 2 dX5_feed_1 rfl (by decide) ?_
  refine j_icmp_lt 5 11 dX5_feed_2 rfl rfl (fun h2 => ?_) (fun h2 => ?_)
  ·
    refine j_ldc (v := (-1000001 : Int32)) 13 dX5_feed_11 rfl wd_1_212 ?_
    have ze : (pM_feed w n S) = ((-1000001 : Int32), S) := by
      first
        | exact if_pos (fun y => (le8_iff.mpr y).1 h2)
        | exact if_pos (fun y => h8 y.2)
    refine j_iretI dX5_feed_13 rfl ⟨gLe rfl, gLe rfl, ?_⟩
    rw [ze]
    exact ⟨rfl, so, xi, (S.2.2.1 2), (S.2.2.1 11), (S.2.2.1 5), (S.2.2.1 6), rf, af, mf, (S.1 10), (S.2.2.1 4), ks, ke, kt, kv, kf, (S.1 3), s0, s1, s2, D0, D1, D2, R4, A4, I4, np, Pl, pL, Sr, hA, ⟨rfl, rfl, rfl, rfl, rfl, rfl, rfl⟩, hR, hW, hAc, hM, hS, hZ1, hZ2, (List.Perm.refl _)⟩
  ·
    refine j_iload_n 6 dX5_feed_5 rfl 2 rfl ?_
    refine j_bipush (v := (8 : Int32)) 8 dX5_feed_6 rfl (by decide) ?_
    refine j_icmp_le 11 14 dX5_feed_8 rfl rfl (fun h8 => ?_) (fun h8 => ?_)
    ·
      have hn8 := le8_iff.mp ⟨h2, h8⟩
      obtain ⟨zn, hzn, rfl⟩ := inR_of (n := 9) (x := n) ⟨by have y := hn8.1; rw [Int32.le_iff_toInt_le, show (1 : Int32).toInt = 1 by decide] at y; omega, by have y := hn8.2; rw [Int32.le_iff_toInt_le, show (8 : Int32).toInt = 8 by decide] at y; omega⟩
      refine j_aload_n 15 dX5_feed_14 rfl 0 rfl ?_
      refine j_getf 18 0 dX5_feed_15 rfl fd_X5_18 rfl rfl ?_
      refine j_getf 21 5 dX5_feed_18 rfl fd_X5_122 rfl rfl ?_
      refine j_sipush (v := (400 : Int32)) 24 dX5_feed_21 rfl (by decide) ?_
      refine j_iload_n 25 dX5_feed_24 rfl 2 rfl ?_
      refine j_isubN 400 zn 26 dX5_feed_25 rfl (by omega) ?_
      refine j_icmp_leN (S.2.2.1 4) (400 - zn) 29 32 dX5_feed_26 rfl rfl (by have z0 := hkl; omega) (by omega) (fun h26 => ?_) (fun h26 => ?_)
      ·
        refine j_aload_n 33 dX5_feed_32 rfl 0 rfl ?_
        refine j_getf 36 0 dX5_feed_33 rfl fd_X5_18 rfl rfl ?_
        refine j_lload_n 37 dX5_feed_36 rfl 1 rfl ?_
        refine j_iload_n 38 dX5_feed_37 rfl 2 rfl ?_
        refine j_callV0 (rest := []) 41 [5, 6] (c_X4_add g (u 5) (u 6) (S.2.2.1 4) ks ke kt kv kf (S.1 3) w zn (by omega) (by omega)) [] ([((u 0), .inr (5, [.ref (u 1), .ref (u 5), .ref (u 10), .ref (u 14), .ref (u 18), .ref (u 2), .int (nI xi), .int (nI (S.2.2.1 2)), .ref (u 3), va_rf so, .ref (u 4), .int (nI (S.2.2.1 11)), .int (nI (S.2.2.1 5)), .int (nI (S.2.2.1 6))])), ((u 1), .inl (g.2.1 3, 8, .inr (.inr (.inr (.inr rf))))), ((u 2), .inl (g.2.1 4, 24, .inr (.inr (.inr (.inr af))))), ((u 3), .inl (g.2.1 4, 2, .inr (.inr (.inr (.inr mf))))), ((u 4), .inl (g.2.1 0, 16, .inl (nF (S.1 10)))), ((u 5), .inr (4, [.ref (u 6), .int (nI ((S.2.2.1 4) + zn)), .int (nI ks), .int (nI ke), .int (nI kt), .int (nI kv), .int (nI kf)])), ((u 6), .inl (g.2.1 1, 400, .inl (sgF (fdT (S.1 3) (S.2.2.1 4) w zn zn)))), ((u 10), .inr (3, [.ref s0, .int (nI (D0 0 0)), .ref (u 11), .ref (u 12), .ref (u 13)])), ((u 11), .inl (g.2.1 0, 5, .inl (nF (D0 1)))), ((u 12), .inl (g.2.1 0, 6, .inl (nF (D0 2)))), ((u 13), .inl (g.2.1 0, 6, .inl (nF (D0 3)))), ((u 14), .inr (3, [.ref s1, .int (nI (D1 0 0)), .ref (u 15), .ref (u 16), .ref (u 17)])), ((u 15), .inl (g.2.1 0, 5, .inl (nF (D1 1)))), ((u 16), .inl (g.2.1 0, 6, .inl (nF (D1 2)))), ((u 17), .inl (g.2.1 0, 6, .inl (nF (D1 3)))), ((u 18), .inr (3, [.ref s2, .int (nI (D2 0 0)), .ref (u 19), .ref (u 20), .ref (u 21)])), ((u 19), .inl (g.2.1 0, 5, .inl (nF (D2 1)))), ((u 20), .inl (g.2.1 0, 6, .inl (nF (D2 2)))), ((u 21), .inl (g.2.1 0, 6, .inl (nF (D2 3))))] ++ (tlW R4 A4 I4 np Pl Sr)) dX5_feed_38 rfl cv_X5_126 rfl rfl rfl rfl 0 rfl rfl (gLe rfl) (gLe rfl) (gLe rfl) (gLe rfl) (gLe rfl) rfl (List.append_nil _) ?_
        refine j_aload_n 42 dX5_feed_41 rfl 0 rfl ?_
        refine j_getf 45 0 dX5_feed_42 rfl fd_X5_18 rfl rfl ?_
        refine j_getf 48 5 dX5_feed_45 rfl fd_X5_122 rfl rfl ?_
        have ze : (pM_feed w (nI zn) S) = ((nI ((S.2.2.1 4) + zn)), (va_up S.1 3 (fdT (S.1 3) (S.2.2.1 4) w zn zn), S.2.1, va_up S.2.2.1 4 (S.2.2.1 4 + zn), S.2.2.2)) := by
          rw [pM_feed, if_neg (fun y => y hn8), cl_nI (by omega), if_neg (by omega)]
        refine j_iretI dX5_feed_48 rfl ⟨gLe rfl, gLe rfl, ?_⟩
        rw [ze]
        exact ⟨rfl, so, xi, (S.2.2.1 2), (S.2.2.1 11), (S.2.2.1 5), (S.2.2.1 6), rf, af, mf, (S.1 10), ((S.2.2.1 4) + zn), ks, ke, kt, kv, kf, (fdT (S.1 3) (S.2.2.1 4) w zn zn), s0, s1, s2, D0, D1, D2, R4, A4, I4, np, Pl, pL, Sr, hA, ⟨rfl, rfl, rfl, rfl, rfl, rfl, rfl⟩, hR, hW, hAc, hM, hS, hZ1, hZ2, (List.Perm.refl _)⟩
      ·
        refine j_ldc (v := (-1000003 : Int32)) 31 dX5_feed_29 rfl wd_2_30 ?_
        have ze : (pM_feed w (nI zn) S) = ((-1000003 : Int32), S) := by
          rw [pM_feed, if_neg (fun y => y hn8), cl_nI (by omega), if_pos (by omega)]
        refine j_iretI dX5_feed_31 rfl ⟨gLe rfl, gLe rfl, ?_⟩
        rw [ze]
        exact ⟨rfl, so, xi, (S.2.2.1 2), (S.2.2.1 11), (S.2.2.1 5), (S.2.2.1 6), rf, af, mf, (S.1 10), (S.2.2.1 4), ks, ke, kt, kv, kf, (S.1 3), s0, s1, s2, D0, D1, D2, R4, A4, I4, np, Pl, pL, Sr, hA, ⟨rfl, rfl, rfl, rfl, rfl, rfl, rfl⟩, hR, hW, hAc, hM, hS, hZ1, hZ2, (List.Perm.refl _)⟩
    ·
      refine j_ldc (v := (-1000001 : Int32)) 13 dX5_feed_11 rfl wd_1_212 ?_
      have ze : (pM_feed w n S) = ((-1000001 : Int32), S) := by
        first
          | exact if_pos (fun y => (le8_iff.mpr y).1 h2)
          | exact if_pos (fun y => h8 y.2)
      refine j_iretI dX5_feed_13 rfl ⟨gLe rfl, gLe rfl, ?_⟩
      rw [ze]
      exact ⟨rfl, so, xi, (S.2.2.1 2), (S.2.2.1 11), (S.2.2.1 5), (S.2.2.1 6), rf, af, mf, (S.1 10), (S.2.2.1 4), ks, ke, kt, kv, kf, (S.1 3), s0, s1, s2, D0, D1, D2, R4, A4, I4, np, Pl, pL, Sr, hA, ⟨rfl, rfl, rfl, rfl, rfl, rfl, rfl⟩, hR, hW, hAc, hM, hS, hZ1, hZ2, (List.Perm.refl _)⟩
set_option maxRecDepth 20000 in
theorem k_trace (g : gG) (u : Nat → Nat) (S : RS) (ws : va_W) (i : Int32) (hI : RI S) (hC : cR g u S ws) : gCon g mX5_trace 0 0 0 [.ref (u 0), .int i] ws (fun rv ws' => rv = some (.int (pM_trace i S).1) ∧ cR g u (pM_trace i S).2 ws') := by
  refine gCon.of (lv := [(0, .ref (u 0)), (1, .int i)]) (by decide) (gLe rfl) rfl ?_
  obtain ⟨so, xi, xj, xe, xf, xg, rf, af, mf, T, kl, ks, ke, kt, kv, kf, yT, s0, s1, s2, D0, D1, D2, R4, A4, I4, np, Pl, pL, Sr, hA, hN, hR, hW, hAc, hM, hS, hZ1, hZ2, hp⟩ := hC
  obtain ⟨rfl, rfl, rfl, rfl, rfl, rfl, rfl⟩ := hN
  have hxi := hAc.1
  have hxj := hI.2.1
  have hkl := hI.2.2.2.2.1
  have hxe := hI.2.2.2.2.2.2.2.2.1
  refine j_perm _ hp ?_
  refine j_ws ([((u 0), .inr (5, [.ref (u 1), .ref (u 5), .ref (u 10), .ref (u 14), .ref (u 18), .ref (u 2), .int (nI xi), .int (nI (S.2.2.1 2)), .ref (u 3), va_rf so, .ref (u 4), .int (nI (S.2.2.1 11)), .int (nI (S.2.2.1 5)), .int (nI (S.2.2.1 6))])), ((u 1), .inl (g.2.1 3, 8, .inr (.inr (.inr (.inr rf))))), ((u 2), .inl (g.2.1 4, 24, .inr (.inr (.inr (.inr af))))), ((u 3), .inl (g.2.1 4, 2, .inr (.inr (.inr (.inr mf))))), ((u 4), .inl (g.2.1 0, 16, .inl (nF (S.1 10)))), ((u 5), .inr (4, [.ref (u 6), .int (nI (S.2.2.1 4)), .int (nI ks), .int (nI ke), .int (nI kt), .int (nI kv), .int (nI kf)])), ((u 6), .inl (g.2.1 1, 400, .inl (sgF (S.1 3)))), ((u 10), .inr (3, [.ref s0, .int (nI (D0 0 0)), .ref (u 11), .ref (u 12), .ref (u 13)])), ((u 11), .inl (g.2.1 0, 5, .inl (nF (D0 1)))), ((u 12), .inl (g.2.1 0, 6, .inl (nF (D0 2)))), ((u 13), .inl (g.2.1 0, 6, .inl (nF (D0 3)))), ((u 14), .inr (3, [.ref s1, .int (nI (D1 0 0)), .ref (u 15), .ref (u 16), .ref (u 17)])), ((u 15), .inl (g.2.1 0, 5, .inl (nF (D1 1)))), ((u 16), .inl (g.2.1 0, 6, .inl (nF (D1 2)))), ((u 17), .inl (g.2.1 0, 6, .inl (nF (D1 3)))), ((u 18), .inr (3, [.ref s2, .int (nI (D2 0 0)), .ref (u 19), .ref (u 20), .ref (u 21)])), ((u 19), .inl (g.2.1 0, 5, .inl (nF (D2 1)))), ((u 20), .inl (g.2.1 0, 6, .inl (nF (D2 2)))), ((u 21), .inl (g.2.1 0, 6, .inl (nF (D2 3))))] ++ (tlW R4 A4 I4 np Pl Sr)) rfl ?_
  refine j_iload_n 1 dX5_trace_0 rfl 1 rfl ?_
  refine j_if_lt 4 21 dX5_trace_1 rfl rfl (fun h1 => ?_) (fun h1 => ?_)
  ·
    refine j_ldc (v := (-1000000 : Int32)) 23 dX5_trace_21 rfl wd_3_69 ?_
    have ze : (pM_trace i S) = ((-1000000 : Int32), S) := by
      first
        | exact if_neg (fun y => ((inB (by omega)).mpr y).1 h1)
        | exact if_neg (fun y => ((inB (by omega)).mpr y).2 h9)
    refine j_iretI dX5_trace_23 rfl ⟨gLe rfl, gLe rfl, ?_⟩
    rw [ze]
    exact ⟨rfl, so, xi, (S.2.2.1 2), (S.2.2.1 11), (S.2.2.1 5), (S.2.2.1 6), rf, af, mf, (S.1 10), (S.2.2.1 4), ks, ke, kt, kv, kf, (S.1 3), s0, s1, s2, D0, D1, D2, R4, A4, I4, np, Pl, pL, Sr, hA, ⟨rfl, rfl, rfl, rfl, rfl, rfl, rfl⟩, hR, hW, hAc, hM, hS, hZ1, hZ2, (List.Perm.refl _)⟩
  ·
    refine j_iload_n 5 dX5_trace_4 rfl 1 rfl ?_
    refine j_aload_n 6 dX5_trace_5 rfl 0 rfl ?_
    refine j_getf 9 0 dX5_trace_6 rfl fd_X5_46 rfl rfl ?_
    refine j_icmp_ge 12 21 dX5_trace_9 rfl rfl (fun h9 => ?_) (fun h9 => ?_)
    ·
      refine j_ldc (v := (-1000000 : Int32)) 23 dX5_trace_21 rfl wd_3_69 ?_
      have ze : (pM_trace i S) = ((-1000000 : Int32), S) := by
        first
          | exact if_neg (fun y => ((inB (by omega)).mpr y).1 h1)
          | exact if_neg (fun y => ((inB (by omega)).mpr y).2 h9)
      refine j_iretI dX5_trace_23 rfl ⟨gLe rfl, gLe rfl, ?_⟩
      rw [ze]
      exact ⟨rfl, so, xi, (S.2.2.1 2), (S.2.2.1 11), (S.2.2.1 5), (S.2.2.1 6), rf, af, mf, (S.1 10), (S.2.2.1 4), ks, ke, kt, kv, kf, (S.1 3), s0, s1, s2, D0, D1, D2, R4, A4, I4, np, Pl, pL, Sr, hA, ⟨rfl, rfl, rfl, rfl, rfl, rfl, rfl⟩, hR, hW, hAc, hM, hS, hZ1, hZ2, (List.Perm.refl _)⟩
    ·
      have hir := (inB (b := i) (n := S.2.2.1 11) (by omega)).mp ⟨h1, h9⟩
      obtain ⟨zx, hzx, rfl⟩ := inR_of hir
      refine j_aload_n 13 dX5_trace_12 rfl 0 rfl ?_
      refine j_getf 16 0 dX5_trace_13 rfl fd_X5_42 rfl rfl ?_
      refine j_iload_n 17 dX5_trace_16 rfl 1 rfl ?_
      refine j_ialdN zx 18 4 dX5_trace_17 rfl rfl (by omega) (by decide) ?_
      refine j_goto 23 dX5_trace_18 rfl ?_
      have ze : (pM_trace (nI zx) S) = ((nI ((S.1 10) zx)), S) := by
        rw [pM_trace, if_pos hir, cl_nI (by omega)]
      refine j_iretI dX5_trace_23 rfl ⟨gLe rfl, gLe rfl, ?_⟩
      rw [ze]
      exact ⟨rfl, so, xi, (S.2.2.1 2), (S.2.2.1 11), (S.2.2.1 5), (S.2.2.1 6), rf, af, mf, (S.1 10), (S.2.2.1 4), ks, ke, kt, kv, kf, (S.1 3), s0, s1, s2, D0, D1, D2, R4, A4, I4, np, Pl, pL, Sr, hA, ⟨rfl, rfl, rfl, rfl, rfl, rfl, rfl⟩, hR, hW, hAc, hM, hS, hZ1, hZ2, (List.Perm.refl _)⟩
set_option maxRecDepth 20000 in
theorem k_heavy (g : gG) (u : Nat → Nat) (S : RS) (ws : va_W) (b : Int32) (hI : RI S) (hC : cR g u S ws) : gCon g mX5_heavy 1 0 0 [.ref (u 0), .int b] ws (fun rv ws' => rv = some (.int (pM_heavy b S).1) ∧ cR g u (pM_heavy b S).2 ws') := by
  refine gCon.of (lv := [(0, .ref (u 0)), (1, .int b)]) (by decide) (gLe rfl) rfl ?_
  obtain ⟨so, xi, xj, xe, xf, xg, rf, af, mf, T, kl, ks, ke, kt, kv, kf, yT, s0, s1, s2, D0, D1, D2, R4, A4, I4, np, Pl, pL, Sr, hA, hN, hR, hW, hAc, hM, hS, hZ1, hZ2, hp⟩ := hC
  obtain ⟨rfl, rfl, rfl, rfl, rfl, rfl, rfl⟩ := hN
  have hxi := hAc.1
  have hxj := hI.2.1
  have hkl := hI.2.2.2.2.1
  have hxe := hI.2.2.2.2.2.2.2.2.1
  refine j_perm _ hp ?_
  refine j_ws ([((u 0), .inr (5, [.ref (u 1), .ref (u 5), .ref (u 10), .ref (u 14), .ref (u 18), .ref (u 2), .int (nI xi), .int (nI (S.2.2.1 2)), .ref (u 3), va_rf so, .ref (u 4), .int (nI (S.2.2.1 11)), .int (nI (S.2.2.1 5)), .int (nI (S.2.2.1 6))])), ((u 1), .inl (g.2.1 3, 8, .inr (.inr (.inr (.inr rf))))), ((u 2), .inl (g.2.1 4, 24, .inr (.inr (.inr (.inr af))))), ((u 3), .inl (g.2.1 4, 2, .inr (.inr (.inr (.inr mf))))), ((u 4), .inl (g.2.1 0, 16, .inl (nF (S.1 10)))), ((u 5), .inr (4, [.ref (u 6), .int (nI (S.2.2.1 4)), .int (nI ks), .int (nI ke), .int (nI kt), .int (nI kv), .int (nI kf)])), ((u 6), .inl (g.2.1 1, 400, .inl (sgF (S.1 3)))), ((u 10), .inr (3, [.ref s0, .int (nI (D0 0 0)), .ref (u 11), .ref (u 12), .ref (u 13)])), ((u 11), .inl (g.2.1 0, 5, .inl (nF (D0 1)))), ((u 12), .inl (g.2.1 0, 6, .inl (nF (D0 2)))), ((u 13), .inl (g.2.1 0, 6, .inl (nF (D0 3)))), ((u 14), .inr (3, [.ref s1, .int (nI (D1 0 0)), .ref (u 15), .ref (u 16), .ref (u 17)])), ((u 15), .inl (g.2.1 0, 5, .inl (nF (D1 1)))), ((u 16), .inl (g.2.1 0, 6, .inl (nF (D1 2)))), ((u 17), .inl (g.2.1 0, 6, .inl (nF (D1 3)))), ((u 18), .inr (3, [.ref s2, .int (nI (D2 0 0)), .ref (u 19), .ref (u 20), .ref (u 21)])), ((u 19), .inl (g.2.1 0, 5, .inl (nF (D2 1)))), ((u 20), .inl (g.2.1 0, 6, .inl (nF (D2 2)))), ((u 21), .inl (g.2.1 0, 6, .inl (nF (D2 3))))] ++ (tlW R4 A4 I4 np Pl Sr)) rfl ?_
  have hW0 := hW
  obtain ⟨⟨zi, ⟨hzi, p1, p2, p3, p4, p5, p6, hpe⟩, hpl⟩, hst⟩ := hW
  have hq := RI_pl hI hpl
  obtain ⟨hq6, hq5, hq8, hq0⟩ := hq
  refine j_perm _ (opn (tl_pl hzi)) ?_
  rw [hpe]
  refine j_ws ([((u 0), .inr (5, [.ref (u 1), .ref (u 5), .ref (u 10), .ref (u 14), .ref (u 18), .ref (u 2), .int (nI xi), .int (nI (S.2.2.1 2)), .ref (u 3), va_rf so, .ref (u 4), .int (nI (S.2.2.1 11)), .int (nI (S.2.2.1 5)), .int (nI (S.2.2.1 6))])), ((u 1), .inl (g.2.1 3, 8, .inr (.inr (.inr (.inr rf))))), ((u 2), .inl (g.2.1 4, 24, .inr (.inr (.inr (.inr af))))), ((u 3), .inl (g.2.1 4, 2, .inr (.inr (.inr (.inr mf))))), ((u 4), .inl (g.2.1 0, 16, .inl (nF (S.1 10)))), ((u 5), .inr (4, [.ref (u 6), .int (nI (S.2.2.1 4)), .int (nI ks), .int (nI ke), .int (nI kt), .int (nI kv), .int (nI kf)])), ((u 6), .inl (g.2.1 1, 400, .inl (sgF (S.1 3)))), ((u 10), .inr (3, [.ref s0, .int (nI (D0 0 0)), .ref (u 11), .ref (u 12), .ref (u 13)])), ((u 11), .inl (g.2.1 0, 5, .inl (nF (D0 1)))), ((u 12), .inl (g.2.1 0, 6, .inl (nF (D0 2)))), ((u 13), .inl (g.2.1 0, 6, .inl (nF (D0 3)))), ((u 14), .inr (3, [.ref s1, .int (nI (D1 0 0)), .ref (u 15), .ref (u 16), .ref (u 17)])), ((u 15), .inl (g.2.1 0, 5, .inl (nF (D1 1)))), ((u 16), .inl (g.2.1 0, 6, .inl (nF (D1 2)))), ((u 17), .inl (g.2.1 0, 6, .inl (nF (D1 3)))), ((u 18), .inr (3, [.ref s2, .int (nI (D2 0 0)), .ref (u 19), .ref (u 20), .ref (u 21)])), ((u 19), .inl (g.2.1 0, 5, .inl (nF (D2 1)))), ((u 20), .inl (g.2.1 0, 6, .inl (nF (D2 2)))), ((u 21), .inl (g.2.1 0, 6, .inl (nF (D2 3)))), (s0, .inr (0, [.int (nI (pL zi 0 0)), .int (nI (pL zi 0 1)), .int (nI (pL zi 0 2)), .ref p1, .ref p2, .ref p3, .ref p4, .ref p5, .ref p6])), (p1, .inl (g.2.1 0, 5, .inl (nF (pL zi 1)))), (p2, .inl (g.2.1 0, 5, .inl (nF (pL zi 2)))), (p3, .inl (g.2.1 0, 5, .inl (nF (pL zi 3)))), (p4, .inl (g.2.1 0, 5, .inl (nF (pL zi 4)))), (p5, .inl (g.2.1 0, 8, .inl (nF (pL zi 5)))), (p6, .inl (g.2.1 0, 8, .inl (nF (pL zi 6))))] ++ (tlW R4 A4 I4 np (va_up Pl zi []) Sr)) rfl ?_
  refine j_aload_n 1 dX5_heavy_0 rfl 0 rfl ?_
  refine j_iload_n 2 dX5_heavy_1 rfl 1 rfl ?_
  refine j_callV0 (rest := []) 5 [0, 7, 19] (c_X5_isBeast g (u 0) (u 1) (u 5) (u 10) (u 14) (u 18) (u 2) xi (S.2.2.1 2) (u 3) so (u 4) (S.2.2.1 11) (S.2.2.1 5) (S.2.2.1 6) s0 (D0 0 0) (u 11) (u 12) (u 13) (pL zi 0 0) (pL zi 0 1) (pL zi 0 2) p1 p2 p3 p4 p5 p6 b (by first | assumption | omega)) [.int (gB (inR b (pL zi 0 2)))] ([((u 0), .inr (5, [.ref (u 1), .ref (u 5), .ref (u 10), .ref (u 14), .ref (u 18), .ref (u 2), .int (nI xi), .int (nI (S.2.2.1 2)), .ref (u 3), va_rf so, .ref (u 4), .int (nI (S.2.2.1 11)), .int (nI (S.2.2.1 5)), .int (nI (S.2.2.1 6))])), ((u 1), .inl (g.2.1 3, 8, .inr (.inr (.inr (.inr rf))))), ((u 2), .inl (g.2.1 4, 24, .inr (.inr (.inr (.inr af))))), ((u 3), .inl (g.2.1 4, 2, .inr (.inr (.inr (.inr mf))))), ((u 4), .inl (g.2.1 0, 16, .inl (nF (S.1 10)))), ((u 5), .inr (4, [.ref (u 6), .int (nI (S.2.2.1 4)), .int (nI ks), .int (nI ke), .int (nI kt), .int (nI kv), .int (nI kf)])), ((u 6), .inl (g.2.1 1, 400, .inl (sgF (S.1 3)))), ((u 10), .inr (3, [.ref s0, .int (nI (D0 0 0)), .ref (u 11), .ref (u 12), .ref (u 13)])), ((u 11), .inl (g.2.1 0, 5, .inl (nF (D0 1)))), ((u 12), .inl (g.2.1 0, 6, .inl (nF (D0 2)))), ((u 13), .inl (g.2.1 0, 6, .inl (nF (D0 3)))), ((u 14), .inr (3, [.ref s1, .int (nI (D1 0 0)), .ref (u 15), .ref (u 16), .ref (u 17)])), ((u 15), .inl (g.2.1 0, 5, .inl (nF (D1 1)))), ((u 16), .inl (g.2.1 0, 6, .inl (nF (D1 2)))), ((u 17), .inl (g.2.1 0, 6, .inl (nF (D1 3)))), ((u 18), .inr (3, [.ref s2, .int (nI (D2 0 0)), .ref (u 19), .ref (u 20), .ref (u 21)])), ((u 19), .inl (g.2.1 0, 5, .inl (nF (D2 1)))), ((u 20), .inl (g.2.1 0, 6, .inl (nF (D2 2)))), ((u 21), .inl (g.2.1 0, 6, .inl (nF (D2 3)))), (s0, .inr (0, [.int (nI (pL zi 0 0)), .int (nI (pL zi 0 1)), .int (nI (pL zi 0 2)), .ref p1, .ref p2, .ref p3, .ref p4, .ref p5, .ref p6])), (p1, .inl (g.2.1 0, 5, .inl (nF (pL zi 1)))), (p2, .inl (g.2.1 0, 5, .inl (nF (pL zi 2)))), (p3, .inl (g.2.1 0, 5, .inl (nF (pL zi 3)))), (p4, .inl (g.2.1 0, 5, .inl (nF (pL zi 4)))), (p5, .inl (g.2.1 0, 8, .inl (nF (pL zi 5)))), (p6, .inl (g.2.1 0, 8, .inl (nF (pL zi 6))))] ++ (tlW R4 A4 I4 np (va_up Pl zi []) Sr)) dX5_heavy_2 rfl cv_X5_150 rfl rfl rfl rfl 0 rfl rfl (gLe rfl) (gLe rfl) (gLe rfl) (gLe rfl) (gLe rfl) rfl (List.append_nil _) ?_
  refine j_topI _ (gB (inR b (S.1 0 3))) (gB_iff (by rw [hpl.2.2.1])) ?_
  refine j_if_eqB 8 23 dX5_heavy_5 rfl rfl (fun h5 => ?_) (fun h5 => ?_)
  ·
    refine j_ldc (v := (-1000001 : Int32)) 25 dX5_heavy_23 rfl wd_1_212 ?_
    have ze : (pM_heavy b S) = ((-1000001 : Int32), S) := by
      exact if_neg h5
    refine j_iretI dX5_heavy_25 rfl ⟨gLe rfl, gLe rfl, ?_⟩
    rw [ze]
    exact ⟨rfl, so, xi, (S.2.2.1 2), (S.2.2.1 11), (S.2.2.1 5), (S.2.2.1 6), rf, af, mf, (S.1 10), (S.2.2.1 4), ks, ke, kt, kv, kf, (S.1 3), s0, s1, s2, D0, D1, D2, R4, A4, I4, np, Pl, pL, Sr, hA, ⟨rfl, rfl, rfl, rfl, rfl, rfl, rfl⟩, hR, hW0, hAc, hM, hS, hZ1, hZ2, (cls (E := (mnW g u so xi (S.2.2.1 2) (S.2.2.1 11) (S.2.2.1 5) (S.2.2.1 6) rf af mf (S.1 10) (S.2.2.1 4) ks ke kt kv kf (S.1 3) s0 s1 s2 D0 D1 D2)) (X := (plW g s0 p1 p2 p3 p4 p5 p6 (pL zi))) (T' := (tlW R4 A4 I4 np (va_up Pl zi []) Sr)) (T := (tlW R4 A4 I4 np Pl Sr)) (by rw [← hpe]; exact (tl_pl hzi).symm))⟩
  ·
    obtain ⟨zb, hzb, rfl⟩ := inR_of h5
    have hb8 : S.1 0 3 ≤ 8 := by rw [← hpl.2.2.1]; exact hq8
    refine j_aload_n 9 dX5_heavy_8 rfl 0 rfl ?_
    refine j_getf 12 0 dX5_heavy_9 rfl fd_X5_61 rfl rfl ?_
    refine j_getf 15 7 dX5_heavy_12 rfl fd_X5_180 rfl rfl ?_
    refine j_getf 18 19 dX5_heavy_15 rfl fd_X5_206 rfl rfl ?_
    refine j_iload_n 19 dX5_heavy_18 rfl 1 rfl ?_
    refine j_ialdN zb 20 25 dX5_heavy_19 rfl rfl (by omega) (by decide) ?_
    refine j_goto 25 dX5_heavy_20 rfl ?_
    have ze : (pM_heavy (nI zb) S) = ((nI ((pL zi 6) zb)), S) := by
      rw [pM_heavy, if_pos h5, cl_nI (by omega), (hpl.2.2.2.2 zb hzb).2]
    refine j_iretI dX5_heavy_25 rfl ⟨gLe rfl, gLe rfl, ?_⟩
    rw [ze]
    exact ⟨rfl, so, xi, (S.2.2.1 2), (S.2.2.1 11), (S.2.2.1 5), (S.2.2.1 6), rf, af, mf, (S.1 10), (S.2.2.1 4), ks, ke, kt, kv, kf, (S.1 3), s0, s1, s2, D0, D1, D2, R4, A4, I4, np, Pl, pL, Sr, hA, ⟨rfl, rfl, rfl, rfl, rfl, rfl, rfl⟩, hR, hW0, hAc, hM, hS, hZ1, hZ2, (cls (E := (mnW g u so xi (S.2.2.1 2) (S.2.2.1 11) (S.2.2.1 5) (S.2.2.1 6) rf af mf (S.1 10) (S.2.2.1 4) ks ke kt kv kf (S.1 3) s0 s1 s2 D0 D1 D2)) (X := (plW g s0 p1 p2 p3 p4 p5 p6 (pL zi))) (T' := (tlW R4 A4 I4 np (va_up Pl zi []) Sr)) (T := (tlW R4 A4 I4 np Pl Sr)) (by rw [← hpe]; exact (tl_pl hzi).symm))⟩
set_option maxRecDepth 20000 in
theorem k_kind (g : gG) (u : Nat → Nat) (S : RS) (ws : va_W) (b : Int32) (hI : RI S) (hC : cR g u S ws) : gCon g mX5_kind 1 0 0 [.ref (u 0), .int b] ws (fun rv ws' => rv = some (.int (pM_kind b S).1) ∧ cR g u (pM_kind b S).2 ws') := by
  refine gCon.of (lv := [(0, .ref (u 0)), (1, .int b)]) (by decide) (gLe rfl) rfl ?_
  obtain ⟨so, xi, xj, xe, xf, xg, rf, af, mf, T, kl, ks, ke, kt, kv, kf, yT, s0, s1, s2, D0, D1, D2, R4, A4, I4, np, Pl, pL, Sr, hA, hN, hR, hW, hAc, hM, hS, hZ1, hZ2, hp⟩ := hC
  obtain ⟨rfl, rfl, rfl, rfl, rfl, rfl, rfl⟩ := hN
  have hxi := hAc.1
  have hxj := hI.2.1
  have hkl := hI.2.2.2.2.1
  have hxe := hI.2.2.2.2.2.2.2.2.1
  refine j_perm _ hp ?_
  refine j_ws ([((u 0), .inr (5, [.ref (u 1), .ref (u 5), .ref (u 10), .ref (u 14), .ref (u 18), .ref (u 2), .int (nI xi), .int (nI (S.2.2.1 2)), .ref (u 3), va_rf so, .ref (u 4), .int (nI (S.2.2.1 11)), .int (nI (S.2.2.1 5)), .int (nI (S.2.2.1 6))])), ((u 1), .inl (g.2.1 3, 8, .inr (.inr (.inr (.inr rf))))), ((u 2), .inl (g.2.1 4, 24, .inr (.inr (.inr (.inr af))))), ((u 3), .inl (g.2.1 4, 2, .inr (.inr (.inr (.inr mf))))), ((u 4), .inl (g.2.1 0, 16, .inl (nF (S.1 10)))), ((u 5), .inr (4, [.ref (u 6), .int (nI (S.2.2.1 4)), .int (nI ks), .int (nI ke), .int (nI kt), .int (nI kv), .int (nI kf)])), ((u 6), .inl (g.2.1 1, 400, .inl (sgF (S.1 3)))), ((u 10), .inr (3, [.ref s0, .int (nI (D0 0 0)), .ref (u 11), .ref (u 12), .ref (u 13)])), ((u 11), .inl (g.2.1 0, 5, .inl (nF (D0 1)))), ((u 12), .inl (g.2.1 0, 6, .inl (nF (D0 2)))), ((u 13), .inl (g.2.1 0, 6, .inl (nF (D0 3)))), ((u 14), .inr (3, [.ref s1, .int (nI (D1 0 0)), .ref (u 15), .ref (u 16), .ref (u 17)])), ((u 15), .inl (g.2.1 0, 5, .inl (nF (D1 1)))), ((u 16), .inl (g.2.1 0, 6, .inl (nF (D1 2)))), ((u 17), .inl (g.2.1 0, 6, .inl (nF (D1 3)))), ((u 18), .inr (3, [.ref s2, .int (nI (D2 0 0)), .ref (u 19), .ref (u 20), .ref (u 21)])), ((u 19), .inl (g.2.1 0, 5, .inl (nF (D2 1)))), ((u 20), .inl (g.2.1 0, 6, .inl (nF (D2 2)))), ((u 21), .inl (g.2.1 0, 6, .inl (nF (D2 3))))] ++ (tlW R4 A4 I4 np Pl Sr)) rfl ?_
  have hW0 := hW
  obtain ⟨⟨zi, ⟨hzi, p1, p2, p3, p4, p5, p6, hpe⟩, hpl⟩, hst⟩ := hW
  have hq := RI_pl hI hpl
  obtain ⟨hq6, hq5, hq8, hq0⟩ := hq
  refine j_perm _ (opn (tl_pl hzi)) ?_
  rw [hpe]
  refine j_ws ([((u 0), .inr (5, [.ref (u 1), .ref (u 5), .ref (u 10), .ref (u 14), .ref (u 18), .ref (u 2), .int (nI xi), .int (nI (S.2.2.1 2)), .ref (u 3), va_rf so, .ref (u 4), .int (nI (S.2.2.1 11)), .int (nI (S.2.2.1 5)), .int (nI (S.2.2.1 6))])), ((u 1), .inl (g.2.1 3, 8, .inr (.inr (.inr (.inr rf))))), ((u 2), .inl (g.2.1 4, 24, .inr (.inr (.inr (.inr af))))), ((u 3), .inl (g.2.1 4, 2, .inr (.inr (.inr (.inr mf))))), ((u 4), .inl (g.2.1 0, 16, .inl (nF (S.1 10)))), ((u 5), .inr (4, [.ref (u 6), .int (nI (S.2.2.1 4)), .int (nI ks), .int (nI ke), .int (nI kt), .int (nI kv), .int (nI kf)])), ((u 6), .inl (g.2.1 1, 400, .inl (sgF (S.1 3)))), ((u 10), .inr (3, [.ref s0, .int (nI (D0 0 0)), .ref (u 11), .ref (u 12), .ref (u 13)])), ((u 11), .inl (g.2.1 0, 5, .inl (nF (D0 1)))), ((u 12), .inl (g.2.1 0, 6, .inl (nF (D0 2)))), ((u 13), .inl (g.2.1 0, 6, .inl (nF (D0 3)))), ((u 14), .inr (3, [.ref s1, .int (nI (D1 0 0)), .ref (u 15), .ref (u 16), .ref (u 17)])), ((u 15), .inl (g.2.1 0, 5, .inl (nF (D1 1)))), ((u 16), .inl (g.2.1 0, 6, .inl (nF (D1 2)))), ((u 17), .inl (g.2.1 0, 6, .inl (nF (D1 3)))), ((u 18), .inr (3, [.ref s2, .int (nI (D2 0 0)), .ref (u 19), .ref (u 20), .ref (u 21)])), ((u 19), .inl (g.2.1 0, 5, .inl (nF (D2 1)))), ((u 20), .inl (g.2.1 0, 6, .inl (nF (D2 2)))), ((u 21), .inl (g.2.1 0, 6, .inl (nF (D2 3)))), (s0, .inr (0, [.int (nI (pL zi 0 0)), .int (nI (pL zi 0 1)), .int (nI (pL zi 0 2)), .ref p1, .ref p2, .ref p3, .ref p4, .ref p5, .ref p6])), (p1, .inl (g.2.1 0, 5, .inl (nF (pL zi 1)))), (p2, .inl (g.2.1 0, 5, .inl (nF (pL zi 2)))), (p3, .inl (g.2.1 0, 5, .inl (nF (pL zi 3)))), (p4, .inl (g.2.1 0, 5, .inl (nF (pL zi 4)))), (p5, .inl (g.2.1 0, 8, .inl (nF (pL zi 5)))), (p6, .inl (g.2.1 0, 8, .inl (nF (pL zi 6))))] ++ (tlW R4 A4 I4 np (va_up Pl zi []) Sr)) rfl ?_
  refine j_aload_n 1 dX5_kind_0 rfl 0 rfl ?_
  refine j_iload_n 2 dX5_kind_1 rfl 1 rfl ?_
  refine j_callV0 (rest := []) 5 [0, 7, 19] (c_X5_isBeast g (u 0) (u 1) (u 5) (u 10) (u 14) (u 18) (u 2) xi (S.2.2.1 2) (u 3) so (u 4) (S.2.2.1 11) (S.2.2.1 5) (S.2.2.1 6) s0 (D0 0 0) (u 11) (u 12) (u 13) (pL zi 0 0) (pL zi 0 1) (pL zi 0 2) p1 p2 p3 p4 p5 p6 b (by first | assumption | omega)) [.int (gB (inR b (pL zi 0 2)))] ([((u 0), .inr (5, [.ref (u 1), .ref (u 5), .ref (u 10), .ref (u 14), .ref (u 18), .ref (u 2), .int (nI xi), .int (nI (S.2.2.1 2)), .ref (u 3), va_rf so, .ref (u 4), .int (nI (S.2.2.1 11)), .int (nI (S.2.2.1 5)), .int (nI (S.2.2.1 6))])), ((u 1), .inl (g.2.1 3, 8, .inr (.inr (.inr (.inr rf))))), ((u 2), .inl (g.2.1 4, 24, .inr (.inr (.inr (.inr af))))), ((u 3), .inl (g.2.1 4, 2, .inr (.inr (.inr (.inr mf))))), ((u 4), .inl (g.2.1 0, 16, .inl (nF (S.1 10)))), ((u 5), .inr (4, [.ref (u 6), .int (nI (S.2.2.1 4)), .int (nI ks), .int (nI ke), .int (nI kt), .int (nI kv), .int (nI kf)])), ((u 6), .inl (g.2.1 1, 400, .inl (sgF (S.1 3)))), ((u 10), .inr (3, [.ref s0, .int (nI (D0 0 0)), .ref (u 11), .ref (u 12), .ref (u 13)])), ((u 11), .inl (g.2.1 0, 5, .inl (nF (D0 1)))), ((u 12), .inl (g.2.1 0, 6, .inl (nF (D0 2)))), ((u 13), .inl (g.2.1 0, 6, .inl (nF (D0 3)))), ((u 14), .inr (3, [.ref s1, .int (nI (D1 0 0)), .ref (u 15), .ref (u 16), .ref (u 17)])), ((u 15), .inl (g.2.1 0, 5, .inl (nF (D1 1)))), ((u 16), .inl (g.2.1 0, 6, .inl (nF (D1 2)))), ((u 17), .inl (g.2.1 0, 6, .inl (nF (D1 3)))), ((u 18), .inr (3, [.ref s2, .int (nI (D2 0 0)), .ref (u 19), .ref (u 20), .ref (u 21)])), ((u 19), .inl (g.2.1 0, 5, .inl (nF (D2 1)))), ((u 20), .inl (g.2.1 0, 6, .inl (nF (D2 2)))), ((u 21), .inl (g.2.1 0, 6, .inl (nF (D2 3)))), (s0, .inr (0, [.int (nI (pL zi 0 0)), .int (nI (pL zi 0 1)), .int (nI (pL zi 0 2)), .ref p1, .ref p2, .ref p3, .ref p4, .ref p5, .ref p6])), (p1, .inl (g.2.1 0, 5, .inl (nF (pL zi 1)))), (p2, .inl (g.2.1 0, 5, .inl (nF (pL zi 2)))), (p3, .inl (g.2.1 0, 5, .inl (nF (pL zi 3)))), (p4, .inl (g.2.1 0, 5, .inl (nF (pL zi 4)))), (p5, .inl (g.2.1 0, 8, .inl (nF (pL zi 5)))), (p6, .inl (g.2.1 0, 8, .inl (nF (pL zi 6))))] ++ (tlW R4 A4 I4 np (va_up Pl zi []) Sr)) dX5_kind_2 rfl cv_X5_150 rfl rfl rfl rfl 0 rfl rfl (gLe rfl) (gLe rfl) (gLe rfl) (gLe rfl) (gLe rfl) rfl (List.append_nil _) ?_
  refine j_topI _ (gB (inR b (S.1 0 3))) (gB_iff (by rw [hpl.2.2.1])) ?_
  refine j_if_eqB 8 22 dX5_kind_5 rfl rfl (fun h5 => ?_) (fun h5 => ?_)
  ·
    refine j_ldc (v := (-1000001 : Int32)) 24 dX5_kind_22 rfl wd_1_212 ?_
    have ze : (pM_kind b S) = ((-1000001 : Int32), S) := by
      exact if_neg h5
    refine j_iretI dX5_kind_24 rfl ⟨gLe rfl, gLe rfl, ?_⟩
    rw [ze]
    exact ⟨rfl, so, xi, (S.2.2.1 2), (S.2.2.1 11), (S.2.2.1 5), (S.2.2.1 6), rf, af, mf, (S.1 10), (S.2.2.1 4), ks, ke, kt, kv, kf, (S.1 3), s0, s1, s2, D0, D1, D2, R4, A4, I4, np, Pl, pL, Sr, hA, ⟨rfl, rfl, rfl, rfl, rfl, rfl, rfl⟩, hR, hW0, hAc, hM, hS, hZ1, hZ2, (cls (E := (mnW g u so xi (S.2.2.1 2) (S.2.2.1 11) (S.2.2.1 5) (S.2.2.1 6) rf af mf (S.1 10) (S.2.2.1 4) ks ke kt kv kf (S.1 3) s0 s1 s2 D0 D1 D2)) (X := (plW g s0 p1 p2 p3 p4 p5 p6 (pL zi))) (T' := (tlW R4 A4 I4 np (va_up Pl zi []) Sr)) (T := (tlW R4 A4 I4 np Pl Sr)) (by rw [← hpe]; exact (tl_pl hzi).symm))⟩
  ·
    obtain ⟨zb, hzb, rfl⟩ := inR_of h5
    have hb8 : S.1 0 3 ≤ 8 := by rw [← hpl.2.2.1]; exact hq8
    refine j_aload_n 9 dX5_kind_8 rfl 0 rfl ?_
    refine j_getf 12 0 dX5_kind_9 rfl fd_X5_61 rfl rfl ?_
    refine j_getf 15 7 dX5_kind_12 rfl fd_X5_180 rfl rfl ?_
    refine j_iload_n 16 dX5_kind_15 rfl 1 rfl ?_
    refine j_callV0 (rest := []) 19 [19, 20, 21, 22, 23, 24, 25] (c_X0_kindOf g s0 p1 p2 p3 p4 p5 p6 (pL zi) zb hq8 (by rw [hpl.2.2.1]; exact hzb)) [.int (nI ((pL zi) 5 zb))] ([((u 0), .inr (5, [.ref (u 1), .ref (u 5), .ref (u 10), .ref (u 14), .ref (u 18), .ref (u 2), .int (nI xi), .int (nI (S.2.2.1 2)), .ref (u 3), va_rf so, .ref (u 4), .int (nI (S.2.2.1 11)), .int (nI (S.2.2.1 5)), .int (nI (S.2.2.1 6))])), ((u 1), .inl (g.2.1 3, 8, .inr (.inr (.inr (.inr rf))))), ((u 2), .inl (g.2.1 4, 24, .inr (.inr (.inr (.inr af))))), ((u 3), .inl (g.2.1 4, 2, .inr (.inr (.inr (.inr mf))))), ((u 4), .inl (g.2.1 0, 16, .inl (nF (S.1 10)))), ((u 5), .inr (4, [.ref (u 6), .int (nI (S.2.2.1 4)), .int (nI ks), .int (nI ke), .int (nI kt), .int (nI kv), .int (nI kf)])), ((u 6), .inl (g.2.1 1, 400, .inl (sgF (S.1 3)))), ((u 10), .inr (3, [.ref s0, .int (nI (D0 0 0)), .ref (u 11), .ref (u 12), .ref (u 13)])), ((u 11), .inl (g.2.1 0, 5, .inl (nF (D0 1)))), ((u 12), .inl (g.2.1 0, 6, .inl (nF (D0 2)))), ((u 13), .inl (g.2.1 0, 6, .inl (nF (D0 3)))), ((u 14), .inr (3, [.ref s1, .int (nI (D1 0 0)), .ref (u 15), .ref (u 16), .ref (u 17)])), ((u 15), .inl (g.2.1 0, 5, .inl (nF (D1 1)))), ((u 16), .inl (g.2.1 0, 6, .inl (nF (D1 2)))), ((u 17), .inl (g.2.1 0, 6, .inl (nF (D1 3)))), ((u 18), .inr (3, [.ref s2, .int (nI (D2 0 0)), .ref (u 19), .ref (u 20), .ref (u 21)])), ((u 19), .inl (g.2.1 0, 5, .inl (nF (D2 1)))), ((u 20), .inl (g.2.1 0, 6, .inl (nF (D2 2)))), ((u 21), .inl (g.2.1 0, 6, .inl (nF (D2 3)))), (s0, .inr (0, [.int (nI (pL zi 0 0)), .int (nI (pL zi 0 1)), .int (nI (pL zi 0 2)), .ref p1, .ref p2, .ref p3, .ref p4, .ref p5, .ref p6])), (p1, .inl (g.2.1 0, 5, .inl (nF (pL zi 1)))), (p2, .inl (g.2.1 0, 5, .inl (nF (pL zi 2)))), (p3, .inl (g.2.1 0, 5, .inl (nF (pL zi 3)))), (p4, .inl (g.2.1 0, 5, .inl (nF (pL zi 4)))), (p5, .inl (g.2.1 0, 8, .inl (nF (pL zi 5)))), (p6, .inl (g.2.1 0, 8, .inl (nF (pL zi 6))))] ++ (tlW R4 A4 I4 np (va_up Pl zi []) Sr)) dX5_kind_16 rfl cv_X5_256 rfl rfl rfl rfl 0 rfl rfl (gLe rfl) (gLe rfl) (gLe rfl) (gLe rfl) (gLe rfl) rfl (List.append_nil _) ?_
    refine j_goto 24 dX5_kind_19 rfl ?_
    have ze : (pM_kind (nI zb) S) = ((nI ((pL zi) 5 zb)), S) := by
      rw [pM_kind, if_pos h5, cl_nI (by omega), (hpl.2.2.2.2 zb hzb).1]
    refine j_iretI dX5_kind_24 rfl ⟨gLe rfl, gLe rfl, ?_⟩
    rw [ze]
    exact ⟨rfl, so, xi, (S.2.2.1 2), (S.2.2.1 11), (S.2.2.1 5), (S.2.2.1 6), rf, af, mf, (S.1 10), (S.2.2.1 4), ks, ke, kt, kv, kf, (S.1 3), s0, s1, s2, D0, D1, D2, R4, A4, I4, np, Pl, pL, Sr, hA, ⟨rfl, rfl, rfl, rfl, rfl, rfl, rfl⟩, hR, hW0, hAc, hM, hS, hZ1, hZ2, (cls (E := (mnW g u so xi (S.2.2.1 2) (S.2.2.1 11) (S.2.2.1 5) (S.2.2.1 6) rf af mf (S.1 10) (S.2.2.1 4) ks ke kt kv kf (S.1 3) s0 s1 s2 D0 D1 D2)) (X := (plW g s0 p1 p2 p3 p4 p5 p6 (pL zi))) (T' := (tlW R4 A4 I4 np (va_up Pl zi []) Sr)) (T := (tlW R4 A4 I4 np Pl Sr)) (by rw [← hpe]; exact (tl_pl hzi).symm))⟩
set_option maxRecDepth 20000 in
theorem k_pen (g : gG) (u : Nat → Nat) (S : RS) (ws : va_W) (p : Int32) (what : Int32) (hI : RI S) (hC : cR g u S ws) : gCon g mX5_pen 1 0 0 [.ref (u 0), .int p, .int what] ws (fun rv ws' => rv = some (.int (pM_pen p what S).1) ∧ cR g u (pM_pen p what S).2 ws') := by
  refine gCon.of (lv := [(0, .ref (u 0)), (1, .int p), (2, .int what)]) (by decide) (gLe rfl) rfl ?_
  obtain ⟨so, xi, xj, xe, xf, xg, rf, af, mf, T, kl, ks, ke, kt, kv, kf, yT, s0, s1, s2, D0, D1, D2, R4, A4, I4, np, Pl, pL, Sr, hA, hN, hR, hW, hAc, hM, hS, hZ1, hZ2, hp⟩ := hC
  obtain ⟨rfl, rfl, rfl, rfl, rfl, rfl, rfl⟩ := hN
  have hxi := hAc.1
  have hxj := hI.2.1
  have hkl := hI.2.2.2.2.1
  have hxe := hI.2.2.2.2.2.2.2.2.1
  refine j_perm _ hp ?_
  refine j_ws ([((u 0), .inr (5, [.ref (u 1), .ref (u 5), .ref (u 10), .ref (u 14), .ref (u 18), .ref (u 2), .int (nI xi), .int (nI (S.2.2.1 2)), .ref (u 3), va_rf so, .ref (u 4), .int (nI (S.2.2.1 11)), .int (nI (S.2.2.1 5)), .int (nI (S.2.2.1 6))])), ((u 1), .inl (g.2.1 3, 8, .inr (.inr (.inr (.inr rf))))), ((u 2), .inl (g.2.1 4, 24, .inr (.inr (.inr (.inr af))))), ((u 3), .inl (g.2.1 4, 2, .inr (.inr (.inr (.inr mf))))), ((u 4), .inl (g.2.1 0, 16, .inl (nF (S.1 10)))), ((u 5), .inr (4, [.ref (u 6), .int (nI (S.2.2.1 4)), .int (nI ks), .int (nI ke), .int (nI kt), .int (nI kv), .int (nI kf)])), ((u 6), .inl (g.2.1 1, 400, .inl (sgF (S.1 3)))), ((u 10), .inr (3, [.ref s0, .int (nI (D0 0 0)), .ref (u 11), .ref (u 12), .ref (u 13)])), ((u 11), .inl (g.2.1 0, 5, .inl (nF (D0 1)))), ((u 12), .inl (g.2.1 0, 6, .inl (nF (D0 2)))), ((u 13), .inl (g.2.1 0, 6, .inl (nF (D0 3)))), ((u 14), .inr (3, [.ref s1, .int (nI (D1 0 0)), .ref (u 15), .ref (u 16), .ref (u 17)])), ((u 15), .inl (g.2.1 0, 5, .inl (nF (D1 1)))), ((u 16), .inl (g.2.1 0, 6, .inl (nF (D1 2)))), ((u 17), .inl (g.2.1 0, 6, .inl (nF (D1 3)))), ((u 18), .inr (3, [.ref s2, .int (nI (D2 0 0)), .ref (u 19), .ref (u 20), .ref (u 21)])), ((u 19), .inl (g.2.1 0, 5, .inl (nF (D2 1)))), ((u 20), .inl (g.2.1 0, 6, .inl (nF (D2 2)))), ((u 21), .inl (g.2.1 0, 6, .inl (nF (D2 3))))] ++ (tlW R4 A4 I4 np Pl Sr)) rfl ?_
  have hW0 := hW
  obtain ⟨⟨zi, ⟨hzi, p1, p2, p3, p4, p5, p6, hpe⟩, hpl⟩, hst⟩ := hW
  have hq := RI_pl hI hpl
  obtain ⟨hq6, hq5, hq8, hq0⟩ := hq
  refine j_perm _ (opn (tl_pl hzi)) ?_
  rw [hpe]
  refine j_ws ([((u 0), .inr (5, [.ref (u 1), .ref (u 5), .ref (u 10), .ref (u 14), .ref (u 18), .ref (u 2), .int (nI xi), .int (nI (S.2.2.1 2)), .ref (u 3), va_rf so, .ref (u 4), .int (nI (S.2.2.1 11)), .int (nI (S.2.2.1 5)), .int (nI (S.2.2.1 6))])), ((u 1), .inl (g.2.1 3, 8, .inr (.inr (.inr (.inr rf))))), ((u 2), .inl (g.2.1 4, 24, .inr (.inr (.inr (.inr af))))), ((u 3), .inl (g.2.1 4, 2, .inr (.inr (.inr (.inr mf))))), ((u 4), .inl (g.2.1 0, 16, .inl (nF (S.1 10)))), ((u 5), .inr (4, [.ref (u 6), .int (nI (S.2.2.1 4)), .int (nI ks), .int (nI ke), .int (nI kt), .int (nI kv), .int (nI kf)])), ((u 6), .inl (g.2.1 1, 400, .inl (sgF (S.1 3)))), ((u 10), .inr (3, [.ref s0, .int (nI (D0 0 0)), .ref (u 11), .ref (u 12), .ref (u 13)])), ((u 11), .inl (g.2.1 0, 5, .inl (nF (D0 1)))), ((u 12), .inl (g.2.1 0, 6, .inl (nF (D0 2)))), ((u 13), .inl (g.2.1 0, 6, .inl (nF (D0 3)))), ((u 14), .inr (3, [.ref s1, .int (nI (D1 0 0)), .ref (u 15), .ref (u 16), .ref (u 17)])), ((u 15), .inl (g.2.1 0, 5, .inl (nF (D1 1)))), ((u 16), .inl (g.2.1 0, 6, .inl (nF (D1 2)))), ((u 17), .inl (g.2.1 0, 6, .inl (nF (D1 3)))), ((u 18), .inr (3, [.ref s2, .int (nI (D2 0 0)), .ref (u 19), .ref (u 20), .ref (u 21)])), ((u 19), .inl (g.2.1 0, 5, .inl (nF (D2 1)))), ((u 20), .inl (g.2.1 0, 6, .inl (nF (D2 2)))), ((u 21), .inl (g.2.1 0, 6, .inl (nF (D2 3)))), (s0, .inr (0, [.int (nI (pL zi 0 0)), .int (nI (pL zi 0 1)), .int (nI (pL zi 0 2)), .ref p1, .ref p2, .ref p3, .ref p4, .ref p5, .ref p6])), (p1, .inl (g.2.1 0, 5, .inl (nF (pL zi 1)))), (p2, .inl (g.2.1 0, 5, .inl (nF (pL zi 2)))), (p3, .inl (g.2.1 0, 5, .inl (nF (pL zi 3)))), (p4, .inl (g.2.1 0, 5, .inl (nF (pL zi 4)))), (p5, .inl (g.2.1 0, 8, .inl (nF (pL zi 5)))), (p6, .inl (g.2.1 0, 8, .inl (nF (pL zi 6))))] ++ (tlW R4 A4 I4 np (va_up Pl zi []) Sr)) rfl ?_
  refine j_aload_n 1 dX5_pen_0 rfl 0 rfl ?_
  refine j_iload_n 2 dX5_pen_1 rfl 1 rfl ?_
  refine j_callV0 (rest := []) 5 [0, 7, 19] (c_X5_isPen g (u 0) (u 1) (u 5) (u 10) (u 14) (u 18) (u 2) xi (S.2.2.1 2) (u 3) so (u 4) (S.2.2.1 11) (S.2.2.1 5) (S.2.2.1 6) s0 (D0 0 0) (u 11) (u 12) (u 13) (pL zi 0 0) (pL zi 0 1) (pL zi 0 2) p1 p2 p3 p4 p5 p6 p (by first | assumption | omega)) [.int (gB (inR p (pL zi 0 0)))] ([((u 0), .inr (5, [.ref (u 1), .ref (u 5), .ref (u 10), .ref (u 14), .ref (u 18), .ref (u 2), .int (nI xi), .int (nI (S.2.2.1 2)), .ref (u 3), va_rf so, .ref (u 4), .int (nI (S.2.2.1 11)), .int (nI (S.2.2.1 5)), .int (nI (S.2.2.1 6))])), ((u 1), .inl (g.2.1 3, 8, .inr (.inr (.inr (.inr rf))))), ((u 2), .inl (g.2.1 4, 24, .inr (.inr (.inr (.inr af))))), ((u 3), .inl (g.2.1 4, 2, .inr (.inr (.inr (.inr mf))))), ((u 4), .inl (g.2.1 0, 16, .inl (nF (S.1 10)))), ((u 5), .inr (4, [.ref (u 6), .int (nI (S.2.2.1 4)), .int (nI ks), .int (nI ke), .int (nI kt), .int (nI kv), .int (nI kf)])), ((u 6), .inl (g.2.1 1, 400, .inl (sgF (S.1 3)))), ((u 10), .inr (3, [.ref s0, .int (nI (D0 0 0)), .ref (u 11), .ref (u 12), .ref (u 13)])), ((u 11), .inl (g.2.1 0, 5, .inl (nF (D0 1)))), ((u 12), .inl (g.2.1 0, 6, .inl (nF (D0 2)))), ((u 13), .inl (g.2.1 0, 6, .inl (nF (D0 3)))), ((u 14), .inr (3, [.ref s1, .int (nI (D1 0 0)), .ref (u 15), .ref (u 16), .ref (u 17)])), ((u 15), .inl (g.2.1 0, 5, .inl (nF (D1 1)))), ((u 16), .inl (g.2.1 0, 6, .inl (nF (D1 2)))), ((u 17), .inl (g.2.1 0, 6, .inl (nF (D1 3)))), ((u 18), .inr (3, [.ref s2, .int (nI (D2 0 0)), .ref (u 19), .ref (u 20), .ref (u 21)])), ((u 19), .inl (g.2.1 0, 5, .inl (nF (D2 1)))), ((u 20), .inl (g.2.1 0, 6, .inl (nF (D2 2)))), ((u 21), .inl (g.2.1 0, 6, .inl (nF (D2 3)))), (s0, .inr (0, [.int (nI (pL zi 0 0)), .int (nI (pL zi 0 1)), .int (nI (pL zi 0 2)), .ref p1, .ref p2, .ref p3, .ref p4, .ref p5, .ref p6])), (p1, .inl (g.2.1 0, 5, .inl (nF (pL zi 1)))), (p2, .inl (g.2.1 0, 5, .inl (nF (pL zi 2)))), (p3, .inl (g.2.1 0, 5, .inl (nF (pL zi 3)))), (p4, .inl (g.2.1 0, 5, .inl (nF (pL zi 4)))), (p5, .inl (g.2.1 0, 8, .inl (nF (pL zi 5)))), (p6, .inl (g.2.1 0, 8, .inl (nF (pL zi 6))))] ++ (tlW R4 A4 I4 np (va_up Pl zi []) Sr)) dX5_pen_2 rfl cv_X5_209 rfl rfl rfl rfl 0 rfl rfl (gLe rfl) (gLe rfl) (gLe rfl) (gLe rfl) (gLe rfl) rfl (List.append_nil _) ?_
  refine j_topI _ (gB (inR p (S.1 0 1))) (gB_iff (by rw [hpl.1])) ?_
  refine j_if_eqB 8 15 dX5_pen_5 rfl rfl (fun h5 => ?_) (fun h5 => ?_)
  ·
    refine j_ldc (v := (-1000001 : Int32)) 17 dX5_pen_15 rfl wd_1_212 ?_
    have ze : (pM_pen p what S) = ((-1000001 : Int32), S) := by
      by_cases hpp : inR p (S.1 0 1)
      · rw [pM_pen, if_neg (fun y => y hpp)]
        have h12 : ¬ inR what 2 := by first | assumption | exact absurd hpp h5
        rw [if_neg (fun y => h12 (inF2.mp (Or.inl y))), if_neg (fun y => h12 (inF2.mp (Or.inr y)))]
      · exact if_pos hpp
    refine j_iretI dX5_pen_17 rfl ⟨gLe rfl, gLe rfl, ?_⟩
    rw [ze]
    exact ⟨rfl, so, xi, (S.2.2.1 2), (S.2.2.1 11), (S.2.2.1 5), (S.2.2.1 6), rf, af, mf, (S.1 10), (S.2.2.1 4), ks, ke, kt, kv, kf, (S.1 3), s0, s1, s2, D0, D1, D2, R4, A4, I4, np, Pl, pL, Sr, hA, ⟨rfl, rfl, rfl, rfl, rfl, rfl, rfl⟩, hR, hW0, hAc, hM, hS, hZ1, hZ2, (cls (E := (mnW g u so xi (S.2.2.1 2) (S.2.2.1 11) (S.2.2.1 5) (S.2.2.1 6) rf af mf (S.1 10) (S.2.2.1 4) ks ke kt kv kf (S.1 3) s0 s1 s2 D0 D1 D2)) (X := (plW g s0 p1 p2 p3 p4 p5 p6 (pL zi))) (T' := (tlW R4 A4 I4 np (va_up Pl zi []) Sr)) (T := (tlW R4 A4 I4 np Pl Sr)) (by rw [← hpe]; exact (tl_pl hzi).symm))⟩
  ·
    refine j_iload_n 9 dX5_pen_8 rfl 2 rfl ?_
    refine j_callSE (rest := []) 12 (c_X5_isFirstOrSecond g what ) [.int (gB (inR what 2))] dX5_pen_9 rfl cs_X5_212 rfl rfl (gLe rfl) (gLe rfl) (gLe rfl) (gLe rfl) rfl ?_
    refine j_if_neB 15 18 dX5_pen_12 rfl rfl (fun h12 => ?_) (fun h12 => ?_)
    ·
      obtain ⟨zp, hzp, rfl⟩ := inR_of h5
      have hp6 : S.1 0 1 ≤ 6 := by rw [← hpl.1]; exact hq6
      have hd := hst.2.2 zp (by omega)
      have e46 : S.1 0 (46 + zp) = D0 2 zp := by rw [hd.1]; exact congrArg (S.1 0) (by omega)
      have e52 : S.1 0 (52 + zp) = D0 3 zp := by rw [hd.2]; exact congrArg (S.1 0) (by omega)
      refine j_iload_n 19 dX5_pen_18 rfl 2 rfl ?_
      refine j_if_ne 22 34 dX5_pen_19 rfl rfl (fun h19 => ?_) (fun h19 => ?_)
      ·
        refine j_aload_n 35 dX5_pen_34 rfl 0 rfl ?_
        refine j_getf 38 0 dX5_pen_35 rfl fd_X5_61 rfl rfl ?_
        refine j_getf 41 7 dX5_pen_38 rfl fd_X5_218 rfl rfl ?_
        refine j_iload_n 42 dX5_pen_41 rfl 1 rfl ?_
        refine j_ialdN zp 43 10 dX5_pen_42 rfl rfl (by omega) (by decide) ?_
        have ze : (pM_pen (nI zp) what S) = ((nI ((D0 3) zp)), S) := by
          rw [pM_pen, if_neg (fun y => y h5), cl_nI (by omega), if_neg h19, if_pos ((inF2.mpr h12).resolve_left h19), e52]
        refine j_iretI dX5_pen_43 rfl ⟨gLe rfl, gLe rfl, ?_⟩
        rw [ze]
        exact ⟨rfl, so, xi, (S.2.2.1 2), (S.2.2.1 11), (S.2.2.1 5), (S.2.2.1 6), rf, af, mf, (S.1 10), (S.2.2.1 4), ks, ke, kt, kv, kf, (S.1 3), s0, s1, s2, D0, D1, D2, R4, A4, I4, np, Pl, pL, Sr, hA, ⟨rfl, rfl, rfl, rfl, rfl, rfl, rfl⟩, hR, hW0, hAc, hM, hS, hZ1, hZ2, (cls (E := (mnW g u so xi (S.2.2.1 2) (S.2.2.1 11) (S.2.2.1 5) (S.2.2.1 6) rf af mf (S.1 10) (S.2.2.1 4) ks ke kt kv kf (S.1 3) s0 s1 s2 D0 D1 D2)) (X := (plW g s0 p1 p2 p3 p4 p5 p6 (pL zi))) (T' := (tlW R4 A4 I4 np (va_up Pl zi []) Sr)) (T := (tlW R4 A4 I4 np Pl Sr)) (by rw [← hpe]; exact (tl_pl hzi).symm))⟩
      ·
        refine j_aload_n 23 dX5_pen_22 rfl 0 rfl ?_
        refine j_getf 26 0 dX5_pen_23 rfl fd_X5_61 rfl rfl ?_
        refine j_getf 29 7 dX5_pen_26 rfl fd_X5_215 rfl rfl ?_
        refine j_iload_n 30 dX5_pen_29 rfl 1 rfl ?_
        refine j_ialdN zp 31 9 dX5_pen_30 rfl rfl (by omega) (by decide) ?_
        refine j_goto 43 dX5_pen_31 rfl ?_
        have ze : (pM_pen (nI zp) what S) = ((nI ((D0 2) zp)), S) := by
          rw [pM_pen, if_neg (fun y => y h5), cl_nI (by omega), if_pos h19, e46]
        refine j_iretI dX5_pen_43 rfl ⟨gLe rfl, gLe rfl, ?_⟩
        rw [ze]
        exact ⟨rfl, so, xi, (S.2.2.1 2), (S.2.2.1 11), (S.2.2.1 5), (S.2.2.1 6), rf, af, mf, (S.1 10), (S.2.2.1 4), ks, ke, kt, kv, kf, (S.1 3), s0, s1, s2, D0, D1, D2, R4, A4, I4, np, Pl, pL, Sr, hA, ⟨rfl, rfl, rfl, rfl, rfl, rfl, rfl⟩, hR, hW0, hAc, hM, hS, hZ1, hZ2, (cls (E := (mnW g u so xi (S.2.2.1 2) (S.2.2.1 11) (S.2.2.1 5) (S.2.2.1 6) rf af mf (S.1 10) (S.2.2.1 4) ks ke kt kv kf (S.1 3) s0 s1 s2 D0 D1 D2)) (X := (plW g s0 p1 p2 p3 p4 p5 p6 (pL zi))) (T' := (tlW R4 A4 I4 np (va_up Pl zi []) Sr)) (T := (tlW R4 A4 I4 np Pl Sr)) (by rw [← hpe]; exact (tl_pl hzi).symm))⟩
    ·
      refine j_ldc (v := (-1000001 : Int32)) 17 dX5_pen_15 rfl wd_1_212 ?_
      have ze : (pM_pen p what S) = ((-1000001 : Int32), S) := by
        by_cases hpp : inR p (S.1 0 1)
        · rw [pM_pen, if_neg (fun y => y hpp)]
          have h12 : ¬ inR what 2 := by first | assumption | exact absurd hpp h5
          rw [if_neg (fun y => h12 (inF2.mp (Or.inl y))), if_neg (fun y => h12 (inF2.mp (Or.inr y)))]
        · exact if_pos hpp
      refine j_iretI dX5_pen_17 rfl ⟨gLe rfl, gLe rfl, ?_⟩
      rw [ze]
      exact ⟨rfl, so, xi, (S.2.2.1 2), (S.2.2.1 11), (S.2.2.1 5), (S.2.2.1 6), rf, af, mf, (S.1 10), (S.2.2.1 4), ks, ke, kt, kv, kf, (S.1 3), s0, s1, s2, D0, D1, D2, R4, A4, I4, np, Pl, pL, Sr, hA, ⟨rfl, rfl, rfl, rfl, rfl, rfl, rfl⟩, hR, hW0, hAc, hM, hS, hZ1, hZ2, (cls (E := (mnW g u so xi (S.2.2.1 2) (S.2.2.1 11) (S.2.2.1 5) (S.2.2.1 6) rf af mf (S.1 10) (S.2.2.1 4) ks ke kt kv kf (S.1 3) s0 s1 s2 D0 D1 D2)) (X := (plW g s0 p1 p2 p3 p4 p5 p6 (pL zi))) (T' := (tlW R4 A4 I4 np (va_up Pl zi []) Sr)) (T := (tlW R4 A4 I4 np Pl Sr)) (by rw [← hpe]; exact (tl_pl hzi).symm))⟩
set_option maxRecDepth 20000 in
theorem k_hurdle (g : gG) (u : Nat → Nat) (S : RS) (ws : va_W) (h : Int32) (what : Int32) (hI : RI S) (hC : cR g u S ws) : gCon g mX5_hurdle 1 0 0 [.ref (u 0), .int h, .int what] ws (fun rv ws' => rv = some (.int (pM_hurdle h what S).1) ∧ cR g u (pM_hurdle h what S).2 ws') := by
  refine gCon.of (lv := [(0, .ref (u 0)), (1, .int h), (2, .int what)]) (by decide) (gLe rfl) rfl ?_
  obtain ⟨so, xi, xj, xe, xf, xg, rf, af, mf, T, kl, ks, ke, kt, kv, kf, yT, s0, s1, s2, D0, D1, D2, R4, A4, I4, np, Pl, pL, Sr, hA, hN, hR, hW, hAc, hM, hS, hZ1, hZ2, hp⟩ := hC
  obtain ⟨rfl, rfl, rfl, rfl, rfl, rfl, rfl⟩ := hN
  have hxi := hAc.1
  have hxj := hI.2.1
  have hkl := hI.2.2.2.2.1
  have hxe := hI.2.2.2.2.2.2.2.2.1
  refine j_perm _ hp ?_
  refine j_ws ([((u 0), .inr (5, [.ref (u 1), .ref (u 5), .ref (u 10), .ref (u 14), .ref (u 18), .ref (u 2), .int (nI xi), .int (nI (S.2.2.1 2)), .ref (u 3), va_rf so, .ref (u 4), .int (nI (S.2.2.1 11)), .int (nI (S.2.2.1 5)), .int (nI (S.2.2.1 6))])), ((u 1), .inl (g.2.1 3, 8, .inr (.inr (.inr (.inr rf))))), ((u 2), .inl (g.2.1 4, 24, .inr (.inr (.inr (.inr af))))), ((u 3), .inl (g.2.1 4, 2, .inr (.inr (.inr (.inr mf))))), ((u 4), .inl (g.2.1 0, 16, .inl (nF (S.1 10)))), ((u 5), .inr (4, [.ref (u 6), .int (nI (S.2.2.1 4)), .int (nI ks), .int (nI ke), .int (nI kt), .int (nI kv), .int (nI kf)])), ((u 6), .inl (g.2.1 1, 400, .inl (sgF (S.1 3)))), ((u 10), .inr (3, [.ref s0, .int (nI (D0 0 0)), .ref (u 11), .ref (u 12), .ref (u 13)])), ((u 11), .inl (g.2.1 0, 5, .inl (nF (D0 1)))), ((u 12), .inl (g.2.1 0, 6, .inl (nF (D0 2)))), ((u 13), .inl (g.2.1 0, 6, .inl (nF (D0 3)))), ((u 14), .inr (3, [.ref s1, .int (nI (D1 0 0)), .ref (u 15), .ref (u 16), .ref (u 17)])), ((u 15), .inl (g.2.1 0, 5, .inl (nF (D1 1)))), ((u 16), .inl (g.2.1 0, 6, .inl (nF (D1 2)))), ((u 17), .inl (g.2.1 0, 6, .inl (nF (D1 3)))), ((u 18), .inr (3, [.ref s2, .int (nI (D2 0 0)), .ref (u 19), .ref (u 20), .ref (u 21)])), ((u 19), .inl (g.2.1 0, 5, .inl (nF (D2 1)))), ((u 20), .inl (g.2.1 0, 6, .inl (nF (D2 2)))), ((u 21), .inl (g.2.1 0, 6, .inl (nF (D2 3))))] ++ (tlW R4 A4 I4 np Pl Sr)) rfl ?_
  have hW0 := hW
  obtain ⟨⟨zi, ⟨hzi, p1, p2, p3, p4, p5, p6, hpe⟩, hpl⟩, hst⟩ := hW
  have hq := RI_pl hI hpl
  obtain ⟨hq6, hq5, hq8, hq0⟩ := hq
  refine j_perm _ (opn (tl_pl hzi)) ?_
  rw [hpe]
  refine j_ws ([((u 0), .inr (5, [.ref (u 1), .ref (u 5), .ref (u 10), .ref (u 14), .ref (u 18), .ref (u 2), .int (nI xi), .int (nI (S.2.2.1 2)), .ref (u 3), va_rf so, .ref (u 4), .int (nI (S.2.2.1 11)), .int (nI (S.2.2.1 5)), .int (nI (S.2.2.1 6))])), ((u 1), .inl (g.2.1 3, 8, .inr (.inr (.inr (.inr rf))))), ((u 2), .inl (g.2.1 4, 24, .inr (.inr (.inr (.inr af))))), ((u 3), .inl (g.2.1 4, 2, .inr (.inr (.inr (.inr mf))))), ((u 4), .inl (g.2.1 0, 16, .inl (nF (S.1 10)))), ((u 5), .inr (4, [.ref (u 6), .int (nI (S.2.2.1 4)), .int (nI ks), .int (nI ke), .int (nI kt), .int (nI kv), .int (nI kf)])), ((u 6), .inl (g.2.1 1, 400, .inl (sgF (S.1 3)))), ((u 10), .inr (3, [.ref s0, .int (nI (D0 0 0)), .ref (u 11), .ref (u 12), .ref (u 13)])), ((u 11), .inl (g.2.1 0, 5, .inl (nF (D0 1)))), ((u 12), .inl (g.2.1 0, 6, .inl (nF (D0 2)))), ((u 13), .inl (g.2.1 0, 6, .inl (nF (D0 3)))), ((u 14), .inr (3, [.ref s1, .int (nI (D1 0 0)), .ref (u 15), .ref (u 16), .ref (u 17)])), ((u 15), .inl (g.2.1 0, 5, .inl (nF (D1 1)))), ((u 16), .inl (g.2.1 0, 6, .inl (nF (D1 2)))), ((u 17), .inl (g.2.1 0, 6, .inl (nF (D1 3)))), ((u 18), .inr (3, [.ref s2, .int (nI (D2 0 0)), .ref (u 19), .ref (u 20), .ref (u 21)])), ((u 19), .inl (g.2.1 0, 5, .inl (nF (D2 1)))), ((u 20), .inl (g.2.1 0, 6, .inl (nF (D2 2)))), ((u 21), .inl (g.2.1 0, 6, .inl (nF (D2 3)))), (s0, .inr (0, [.int (nI (pL zi 0 0)), .int (nI (pL zi 0 1)), .int (nI (pL zi 0 2)), .ref p1, .ref p2, .ref p3, .ref p4, .ref p5, .ref p6])), (p1, .inl (g.2.1 0, 5, .inl (nF (pL zi 1)))), (p2, .inl (g.2.1 0, 5, .inl (nF (pL zi 2)))), (p3, .inl (g.2.1 0, 5, .inl (nF (pL zi 3)))), (p4, .inl (g.2.1 0, 5, .inl (nF (pL zi 4)))), (p5, .inl (g.2.1 0, 8, .inl (nF (pL zi 5)))), (p6, .inl (g.2.1 0, 8, .inl (nF (pL zi 6))))] ++ (tlW R4 A4 I4 np (va_up Pl zi []) Sr)) rfl ?_
  refine j_iload_n 1 dX5_hurdle_0 rfl 1 rfl ?_
  refine j_if_lt 4 18 dX5_hurdle_1 rfl rfl (fun h1 => ?_) (fun h1 => ?_)
  ·
    refine j_ldc (v := (-1000001 : Int32)) 20 dX5_hurdle_18 rfl wd_1_212 ?_
    have ze : (pM_hurdle h what S) = ((-1000001 : Int32), S) := by
      first
        | exact if_pos (fun y => ((in_h (n := pL zi 0 1) (by omega)).mpr (by rw [hpl.2.1]; exact y)).1 h1)
        | exact if_pos (fun y => h15 ((in_h (n := pL zi 0 1) (by omega)).mpr (by rw [hpl.2.1]; exact y)).2)
    refine j_iretI dX5_hurdle_20 rfl ⟨gLe rfl, gLe rfl, ?_⟩
    rw [ze]
    exact ⟨rfl, so, xi, (S.2.2.1 2), (S.2.2.1 11), (S.2.2.1 5), (S.2.2.1 6), rf, af, mf, (S.1 10), (S.2.2.1 4), ks, ke, kt, kv, kf, (S.1 3), s0, s1, s2, D0, D1, D2, R4, A4, I4, np, Pl, pL, Sr, hA, ⟨rfl, rfl, rfl, rfl, rfl, rfl, rfl⟩, hR, hW0, hAc, hM, hS, hZ1, hZ2, (cls (E := (mnW g u so xi (S.2.2.1 2) (S.2.2.1 11) (S.2.2.1 5) (S.2.2.1 6) rf af mf (S.1 10) (S.2.2.1 4) ks ke kt kv kf (S.1 3) s0 s1 s2 D0 D1 D2)) (X := (plW g s0 p1 p2 p3 p4 p5 p6 (pL zi))) (T' := (tlW R4 A4 I4 np (va_up Pl zi []) Sr)) (T := (tlW R4 A4 I4 np Pl Sr)) (by rw [← hpe]; exact (tl_pl hzi).symm))⟩
  ·
    refine j_iload_n 5 dX5_hurdle_4 rfl 1 rfl ?_
    refine j_aload_n 6 dX5_hurdle_5 rfl 0 rfl ?_
    refine j_getf 9 0 dX5_hurdle_6 rfl fd_X5_61 rfl rfl ?_
    refine j_getf 12 7 dX5_hurdle_9 rfl fd_X5_180 rfl rfl ?_
    refine j_getf 15 19 dX5_hurdle_12 rfl fd_X5_147 rfl rfl ?_
    refine j_icmp_lt 18 21 dX5_hurdle_15 rfl rfl (fun h15 => ?_) (fun h15 => ?_)
    ·
      have hin : inR h (S.1 0 2) := by rw [← hpl.2.1]; exact (in_h (by omega)).mp ⟨h1, h15⟩
      obtain ⟨zh, hzh, rfl⟩ := inR_of hin
      have hh5 : S.1 0 2 ≤ 5 := by rw [← hpl.2.1]; exact hq5
      have hok := (RI_P hI (Or.inl (by omega))).2
      have hs32 : D0 0 0 < 32 := by rw [hst.1]; exact p32 hok.1 hok.2.1
      have e40 : S.1 0 40 = D0 0 0 := hst.1.symm
      have e41 : S.1 0 (41 + zh) = D0 1 zh := by rw [stOK_u hst, uM_at (by omega)]
      refine j_iload_n 22 dX5_hurdle_21 rfl 2 rfl ?_
      by_cases hw22_0 : what = (0 : Int32)
      ·
        subst hw22_0
        refine j_tabIn (off := 38) 60 dX5_hurdle_22 (by decide) (by decide) (by decide) rfl ?_
        refine j_aload_n 61 dX5_hurdle_60 rfl 0 rfl ?_
        refine j_getf 64 0 dX5_hurdle_61 rfl fd_X5_61 rfl rfl ?_
        refine j_getf 67 7 dX5_hurdle_64 rfl fd_X5_180 rfl rfl ?_
        refine j_getf 70 19 dX5_hurdle_67 rfl fd_X5_188 rfl rfl ?_
        refine j_iload_n 71 dX5_hurdle_70 rfl 1 rfl ?_
        refine j_ialdN zh 72 21 dX5_hurdle_71 rfl rfl (by omega) (by decide) ?_
        have ze : (pM_hurdle (nI zh) (0 : Int32) S) = ((nI ((pL zi 2) zh)), S) := by
          rw [pM_hurdle, if_neg (fun y => y hin), cl_nI (a := zh) (by omega), if_pos (by decide), (hpl.2.2.2.1 zh hzh).1]
          rfl
        refine j_iretI dX5_hurdle_72 rfl ⟨gLe rfl, gLe rfl, ?_⟩
        rw [ze]
        exact ⟨rfl, so, xi, (S.2.2.1 2), (S.2.2.1 11), (S.2.2.1 5), (S.2.2.1 6), rf, af, mf, (S.1 10), (S.2.2.1 4), ks, ke, kt, kv, kf, (S.1 3), s0, s1, s2, D0, D1, D2, R4, A4, I4, np, Pl, pL, Sr, hA, ⟨rfl, rfl, rfl, rfl, rfl, rfl, rfl⟩, hR, hW0, hAc, hM, hS, hZ1, hZ2, (cls (E := (mnW g u so xi (S.2.2.1 2) (S.2.2.1 11) (S.2.2.1 5) (S.2.2.1 6) rf af mf (S.1 10) (S.2.2.1 4) ks ke kt kv kf (S.1 3) s0 s1 s2 D0 D1 D2)) (X := (plW g s0 p1 p2 p3 p4 p5 p6 (pL zi))) (T' := (tlW R4 A4 I4 np (va_up Pl zi []) Sr)) (T := (tlW R4 A4 I4 np Pl Sr)) (by rw [← hpe]; exact (tl_pl hzi).symm))⟩
      by_cases hw22_1 : what = (1 : Int32)
      ·
        subst hw22_1
        refine j_tabIn (off := 51) 73 dX5_hurdle_22 (by decide) (by decide) (by decide) rfl ?_
        refine j_aload_n 74 dX5_hurdle_73 rfl 0 rfl ?_
        refine j_getf 77 0 dX5_hurdle_74 rfl fd_X5_61 rfl rfl ?_
        refine j_getf 80 7 dX5_hurdle_77 rfl fd_X5_180 rfl rfl ?_
        refine j_getf 83 19 dX5_hurdle_80 rfl fd_X5_191 rfl rfl ?_
        refine j_iload_n 84 dX5_hurdle_83 rfl 1 rfl ?_
        refine j_ialdN zh 85 22 dX5_hurdle_84 rfl rfl (by omega) (by decide) ?_
        have ze : (pM_hurdle (nI zh) (1 : Int32) S) = ((nI ((pL zi 3) zh)), S) := by
          rw [pM_hurdle, if_neg (fun y => y hin), cl_nI (a := zh) (by omega), if_pos (by decide), (hpl.2.2.2.1 zh hzh).2.1]
          rfl
        refine j_iretI dX5_hurdle_85 rfl ⟨gLe rfl, gLe rfl, ?_⟩
        rw [ze]
        exact ⟨rfl, so, xi, (S.2.2.1 2), (S.2.2.1 11), (S.2.2.1 5), (S.2.2.1 6), rf, af, mf, (S.1 10), (S.2.2.1 4), ks, ke, kt, kv, kf, (S.1 3), s0, s1, s2, D0, D1, D2, R4, A4, I4, np, Pl, pL, Sr, hA, ⟨rfl, rfl, rfl, rfl, rfl, rfl, rfl⟩, hR, hW0, hAc, hM, hS, hZ1, hZ2, (cls (E := (mnW g u so xi (S.2.2.1 2) (S.2.2.1 11) (S.2.2.1 5) (S.2.2.1 6) rf af mf (S.1 10) (S.2.2.1 4) ks ke kt kv kf (S.1 3) s0 s1 s2 D0 D1 D2)) (X := (plW g s0 p1 p2 p3 p4 p5 p6 (pL zi))) (T' := (tlW R4 A4 I4 np (va_up Pl zi []) Sr)) (T := (tlW R4 A4 I4 np Pl Sr)) (by rw [← hpe]; exact (tl_pl hzi).symm))⟩
      by_cases hw22_2 : what = (2 : Int32)
      ·
        subst hw22_2
        refine j_tabIn (off := 64) 86 dX5_hurdle_22 (by decide) (by decide) (by decide) rfl ?_
        refine j_aload_n 87 dX5_hurdle_86 rfl 0 rfl ?_
        refine j_getf 90 0 dX5_hurdle_87 rfl fd_X5_61 rfl rfl ?_
        refine j_getf 93 7 dX5_hurdle_90 rfl fd_X5_180 rfl rfl ?_
        refine j_getf 96 19 dX5_hurdle_93 rfl fd_X5_194 rfl rfl ?_
        refine j_iload_n 97 dX5_hurdle_96 rfl 1 rfl ?_
        refine j_ialdN zh 98 23 dX5_hurdle_97 rfl rfl (by omega) (by decide) ?_
        have ze : (pM_hurdle (nI zh) (2 : Int32) S) = ((nI ((pL zi 4) zh)), S) := by
          rw [pM_hurdle, if_neg (fun y => y hin), cl_nI (a := zh) (by omega), if_pos (by decide), (hpl.2.2.2.1 zh hzh).2.2.1]
          rfl
        refine j_iretI dX5_hurdle_98 rfl ⟨gLe rfl, gLe rfl, ?_⟩
        rw [ze]
        exact ⟨rfl, so, xi, (S.2.2.1 2), (S.2.2.1 11), (S.2.2.1 5), (S.2.2.1 6), rf, af, mf, (S.1 10), (S.2.2.1 4), ks, ke, kt, kv, kf, (S.1 3), s0, s1, s2, D0, D1, D2, R4, A4, I4, np, Pl, pL, Sr, hA, ⟨rfl, rfl, rfl, rfl, rfl, rfl, rfl⟩, hR, hW0, hAc, hM, hS, hZ1, hZ2, (cls (E := (mnW g u so xi (S.2.2.1 2) (S.2.2.1 11) (S.2.2.1 5) (S.2.2.1 6) rf af mf (S.1 10) (S.2.2.1 4) ks ke kt kv kf (S.1 3) s0 s1 s2 D0 D1 D2)) (X := (plW g s0 p1 p2 p3 p4 p5 p6 (pL zi))) (T' := (tlW R4 A4 I4 np (va_up Pl zi []) Sr)) (T := (tlW R4 A4 I4 np Pl Sr)) (by rw [← hpe]; exact (tl_pl hzi).symm))⟩
      by_cases hw22_3 : what = (3 : Int32)
      ·
        subst hw22_3
        refine j_tabIn (off := 77) 99 dX5_hurdle_22 (by decide) (by decide) (by decide) rfl ?_
        refine j_aload_n 100 dX5_hurdle_99 rfl 0 rfl ?_
        refine j_getf 103 0 dX5_hurdle_100 rfl fd_X5_61 rfl rfl ?_
        refine j_getf 106 7 dX5_hurdle_103 rfl fd_X5_180 rfl rfl ?_
        refine j_getf 109 19 dX5_hurdle_106 rfl fd_X5_197 rfl rfl ?_
        refine j_iload_n 110 dX5_hurdle_109 rfl 1 rfl ?_
        refine j_ialdN zh 111 20 dX5_hurdle_110 rfl rfl (by omega) (by decide) ?_
        have ze : (pM_hurdle (nI zh) (3 : Int32) S) = ((nI ((pL zi 1) zh)), S) := by
          rw [pM_hurdle, if_neg (fun y => y hin), cl_nI (a := zh) (by omega), if_pos (by decide), (hpl.2.2.2.1 zh hzh).2.2.2]
          rfl
        refine j_iretI dX5_hurdle_111 rfl ⟨gLe rfl, gLe rfl, ?_⟩
        rw [ze]
        exact ⟨rfl, so, xi, (S.2.2.1 2), (S.2.2.1 11), (S.2.2.1 5), (S.2.2.1 6), rf, af, mf, (S.1 10), (S.2.2.1 4), ks, ke, kt, kv, kf, (S.1 3), s0, s1, s2, D0, D1, D2, R4, A4, I4, np, Pl, pL, Sr, hA, ⟨rfl, rfl, rfl, rfl, rfl, rfl, rfl⟩, hR, hW0, hAc, hM, hS, hZ1, hZ2, (cls (E := (mnW g u so xi (S.2.2.1 2) (S.2.2.1 11) (S.2.2.1 5) (S.2.2.1 6) rf af mf (S.1 10) (S.2.2.1 4) ks ke kt kv kf (S.1 3) s0 s1 s2 D0 D1 D2)) (X := (plW g s0 p1 p2 p3 p4 p5 p6 (pL zi))) (T' := (tlW R4 A4 I4 np (va_up Pl zi []) Sr)) (T := (tlW R4 A4 I4 np Pl Sr)) (by rw [← hpe]; exact (tl_pl hzi).symm))⟩
      by_cases hw22_4 : what = (4 : Int32)
      ·
        subst hw22_4
        refine j_tabIn (off := 90) 112 dX5_hurdle_22 (by decide) (by decide) (by decide) rfl ?_
        refine j_aload_n 113 dX5_hurdle_112 rfl 0 rfl ?_
        refine j_getf 116 0 dX5_hurdle_113 rfl fd_X5_61 rfl rfl ?_
        refine j_iload_n 117 dX5_hurdle_116 rfl 1 rfl ?_
        refine j_callV0 (rest := []) 120 [7, 8, 9, 10] (c_X3_sideOf g (u 10) s0 (u 11) (u 12) (u 13) D0 zh (by omega) hs32) [.int (nI (D0 0 0 / 2 ^ zh % 2))] ([((u 0), .inr (5, [.ref (u 1), .ref (u 5), .ref (u 10), .ref (u 14), .ref (u 18), .ref (u 2), .int (nI xi), .int (nI (S.2.2.1 2)), .ref (u 3), va_rf so, .ref (u 4), .int (nI (S.2.2.1 11)), .int (nI (S.2.2.1 5)), .int (nI (S.2.2.1 6))])), ((u 1), .inl (g.2.1 3, 8, .inr (.inr (.inr (.inr rf))))), ((u 2), .inl (g.2.1 4, 24, .inr (.inr (.inr (.inr af))))), ((u 3), .inl (g.2.1 4, 2, .inr (.inr (.inr (.inr mf))))), ((u 4), .inl (g.2.1 0, 16, .inl (nF (S.1 10)))), ((u 5), .inr (4, [.ref (u 6), .int (nI (S.2.2.1 4)), .int (nI ks), .int (nI ke), .int (nI kt), .int (nI kv), .int (nI kf)])), ((u 6), .inl (g.2.1 1, 400, .inl (sgF (S.1 3)))), ((u 10), .inr (3, [.ref s0, .int (nI (D0 0 0)), .ref (u 11), .ref (u 12), .ref (u 13)])), ((u 11), .inl (g.2.1 0, 5, .inl (nF (D0 1)))), ((u 12), .inl (g.2.1 0, 6, .inl (nF (D0 2)))), ((u 13), .inl (g.2.1 0, 6, .inl (nF (D0 3)))), ((u 14), .inr (3, [.ref s1, .int (nI (D1 0 0)), .ref (u 15), .ref (u 16), .ref (u 17)])), ((u 15), .inl (g.2.1 0, 5, .inl (nF (D1 1)))), ((u 16), .inl (g.2.1 0, 6, .inl (nF (D1 2)))), ((u 17), .inl (g.2.1 0, 6, .inl (nF (D1 3)))), ((u 18), .inr (3, [.ref s2, .int (nI (D2 0 0)), .ref (u 19), .ref (u 20), .ref (u 21)])), ((u 19), .inl (g.2.1 0, 5, .inl (nF (D2 1)))), ((u 20), .inl (g.2.1 0, 6, .inl (nF (D2 2)))), ((u 21), .inl (g.2.1 0, 6, .inl (nF (D2 3)))), (s0, .inr (0, [.int (nI (pL zi 0 0)), .int (nI (pL zi 0 1)), .int (nI (pL zi 0 2)), .ref p1, .ref p2, .ref p3, .ref p4, .ref p5, .ref p6])), (p1, .inl (g.2.1 0, 5, .inl (nF (pL zi 1)))), (p2, .inl (g.2.1 0, 5, .inl (nF (pL zi 2)))), (p3, .inl (g.2.1 0, 5, .inl (nF (pL zi 3)))), (p4, .inl (g.2.1 0, 5, .inl (nF (pL zi 4)))), (p5, .inl (g.2.1 0, 8, .inl (nF (pL zi 5)))), (p6, .inl (g.2.1 0, 8, .inl (nF (pL zi 6))))] ++ (tlW R4 A4 I4 np (va_up Pl zi []) Sr)) dX5_hurdle_117 rfl cv_X5_200 rfl rfl rfl rfl 0 rfl rfl (gLe rfl) (gLe rfl) (gLe rfl) (gLe rfl) (gLe rfl) rfl (List.append_nil _) ?_
        have ze : (pM_hurdle (nI zh) (4 : Int32) S) = ((nI (D0 0 0 / 2 ^ zh % 2)), S) := by
          rw [pM_hurdle, if_neg (fun y => y hin), cl_nI (a := zh) (by omega), if_neg (by decide), if_pos rfl, e40]
        refine j_iretI dX5_hurdle_120 rfl ⟨gLe rfl, gLe rfl, ?_⟩
        rw [ze]
        exact ⟨rfl, so, xi, (S.2.2.1 2), (S.2.2.1 11), (S.2.2.1 5), (S.2.2.1 6), rf, af, mf, (S.1 10), (S.2.2.1 4), ks, ke, kt, kv, kf, (S.1 3), s0, s1, s2, D0, D1, D2, R4, A4, I4, np, Pl, pL, Sr, hA, ⟨rfl, rfl, rfl, rfl, rfl, rfl, rfl⟩, hR, hW0, hAc, hM, hS, hZ1, hZ2, (cls (E := (mnW g u so xi (S.2.2.1 2) (S.2.2.1 11) (S.2.2.1 5) (S.2.2.1 6) rf af mf (S.1 10) (S.2.2.1 4) ks ke kt kv kf (S.1 3) s0 s1 s2 D0 D1 D2)) (X := (plW g s0 p1 p2 p3 p4 p5 p6 (pL zi))) (T' := (tlW R4 A4 I4 np (va_up Pl zi []) Sr)) (T := (tlW R4 A4 I4 np Pl Sr)) (by rw [← hpe]; exact (tl_pl hzi).symm))⟩
      by_cases hw22_5 : what = (5 : Int32)
      ·
        subst hw22_5
        refine j_tabIn (off := 99) 121 dX5_hurdle_22 (by decide) (by decide) (by decide) rfl ?_
        refine j_aload_n 122 dX5_hurdle_121 rfl 0 rfl ?_
        refine j_getf 125 0 dX5_hurdle_122 rfl fd_X5_61 rfl rfl ?_
        refine j_getf 128 7 dX5_hurdle_125 rfl fd_X5_203 rfl rfl ?_
        refine j_iload_n 129 dX5_hurdle_128 rfl 1 rfl ?_
        refine j_ialdN zh 130 8 dX5_hurdle_129 rfl rfl (by omega) (by decide) ?_
        have ze : (pM_hurdle (nI zh) (5 : Int32) S) = ((nI ((D0 1) zh)), S) := by
          rw [pM_hurdle, if_neg (fun y => y hin), cl_nI (a := zh) (by omega), if_neg (by decide), if_neg (by decide), if_pos rfl, e41]
        refine j_iretI dX5_hurdle_130 rfl ⟨gLe rfl, gLe rfl, ?_⟩
        rw [ze]
        exact ⟨rfl, so, xi, (S.2.2.1 2), (S.2.2.1 11), (S.2.2.1 5), (S.2.2.1 6), rf, af, mf, (S.1 10), (S.2.2.1 4), ks, ke, kt, kv, kf, (S.1 3), s0, s1, s2, D0, D1, D2, R4, A4, I4, np, Pl, pL, Sr, hA, ⟨rfl, rfl, rfl, rfl, rfl, rfl, rfl⟩, hR, hW0, hAc, hM, hS, hZ1, hZ2, (cls (E := (mnW g u so xi (S.2.2.1 2) (S.2.2.1 11) (S.2.2.1 5) (S.2.2.1 6) rf af mf (S.1 10) (S.2.2.1 4) ks ke kt kv kf (S.1 3) s0 s1 s2 D0 D1 D2)) (X := (plW g s0 p1 p2 p3 p4 p5 p6 (pL zi))) (T' := (tlW R4 A4 I4 np (va_up Pl zi []) Sr)) (T := (tlW R4 A4 I4 np Pl Sr)) (by rw [← hpe]; exact (tl_pl hzi).symm))⟩
      refine j_tabOut 131 dX5_hurdle_22 (by have y0 := lv_neT hw22_0 (show (0 : Int32).toInt = 0 by decide); have y1 := lv_neT hw22_1 (show (1 : Int32).toInt = 1 by decide); have y2 := lv_neT hw22_2 (show (2 : Int32).toInt = 2 by decide); have y3 := lv_neT hw22_3 (show (3 : Int32).toInt = 3 by decide); have y4 := lv_neT hw22_4 (show (4 : Int32).toInt = 4 by decide); have y5 := lv_neT hw22_5 (show (5 : Int32).toInt = 5 by decide); omega) rfl ?_
      refine j_ldc (v := (-1000001 : Int32)) 133 dX5_hurdle_131 rfl wd_1_212 ?_
      have ze : (pM_hurdle (nI zh) what S) = ((-1000001 : Int32), S) := by
        have hn4 : ¬ inR what 4 := fun y => by obtain ⟨w, hw, e⟩ := inR_of y; rcases (show w = 0 ∨ w = 1 ∨ w = 2 ∨ w = 3 by omega) with c | c | c | c <;> subst c; exact hw22_0 e; exact hw22_1 e; exact hw22_2 e; exact hw22_3 e
        rw [pM_hurdle, if_neg (fun y => y hin), if_neg hn4, if_neg hw22_4, if_neg hw22_5]
      refine j_iretI dX5_hurdle_133 rfl ⟨gLe rfl, gLe rfl, ?_⟩
      rw [ze]
      exact ⟨rfl, so, xi, (S.2.2.1 2), (S.2.2.1 11), (S.2.2.1 5), (S.2.2.1 6), rf, af, mf, (S.1 10), (S.2.2.1 4), ks, ke, kt, kv, kf, (S.1 3), s0, s1, s2, D0, D1, D2, R4, A4, I4, np, Pl, pL, Sr, hA, ⟨rfl, rfl, rfl, rfl, rfl, rfl, rfl⟩, hR, hW0, hAc, hM, hS, hZ1, hZ2, (cls (E := (mnW g u so xi (S.2.2.1 2) (S.2.2.1 11) (S.2.2.1 5) (S.2.2.1 6) rf af mf (S.1 10) (S.2.2.1 4) ks ke kt kv kf (S.1 3) s0 s1 s2 D0 D1 D2)) (X := (plW g s0 p1 p2 p3 p4 p5 p6 (pL zi))) (T' := (tlW R4 A4 I4 np (va_up Pl zi []) Sr)) (T := (tlW R4 A4 I4 np Pl Sr)) (by rw [← hpe]; exact (tl_pl hzi).symm))⟩
    ·
      refine j_ldc (v := (-1000001 : Int32)) 20 dX5_hurdle_18 rfl wd_1_212 ?_
      have ze : (pM_hurdle h what S) = ((-1000001 : Int32), S) := by
        first
          | exact if_pos (fun y => ((in_h (n := pL zi 0 1) (by omega)).mpr (by rw [hpl.2.1]; exact y)).1 h1)
          | exact if_pos (fun y => h15 ((in_h (n := pL zi 0 1) (by omega)).mpr (by rw [hpl.2.1]; exact y)).2)
      refine j_iretI dX5_hurdle_20 rfl ⟨gLe rfl, gLe rfl, ?_⟩
      rw [ze]
      exact ⟨rfl, so, xi, (S.2.2.1 2), (S.2.2.1 11), (S.2.2.1 5), (S.2.2.1 6), rf, af, mf, (S.1 10), (S.2.2.1 4), ks, ke, kt, kv, kf, (S.1 3), s0, s1, s2, D0, D1, D2, R4, A4, I4, np, Pl, pL, Sr, hA, ⟨rfl, rfl, rfl, rfl, rfl, rfl, rfl⟩, hR, hW0, hAc, hM, hS, hZ1, hZ2, (cls (E := (mnW g u so xi (S.2.2.1 2) (S.2.2.1 11) (S.2.2.1 5) (S.2.2.1 6) rf af mf (S.1 10) (S.2.2.1 4) ks ke kt kv kf (S.1 3) s0 s1 s2 D0 D1 D2)) (X := (plW g s0 p1 p2 p3 p4 p5 p6 (pL zi))) (T' := (tlW R4 A4 I4 np (va_up Pl zi []) Sr)) (T := (tlW R4 A4 I4 np Pl Sr)) (by rw [← hpe]; exact (tl_pl hzi).symm))⟩
set_option maxRecDepth 20000 in
theorem k_as (g : gG) (u : Nat → Nat) (S : RS) (ws : va_W) (b : Int32) (a : Int32) (hI : RI S) (hC : cR g u S ws) : gCon g mX5_as 1 0 0 [.ref (u 0), .int b, .int a] ws (fun rv ws' => rv = some (.int (pM_as b a S).1) ∧ cR g u (pM_as b a S).2 ws') := by
  refine gCon.of (lv := [(0, .ref (u 0)), (1, .int b), (2, .int a)]) (by decide) (gLe rfl) rfl ?_
  obtain ⟨so, xi, xj, xe, xf, xg, rf, af, mf, T, kl, ks, ke, kt, kv, kf, yT, s0, s1, s2, D0, D1, D2, R4, A4, I4, np, Pl, pL, Sr, hA, hN, hR, hW, hAc, hM, hS, hZ1, hZ2, hp⟩ := hC
  obtain ⟨rfl, rfl, rfl, rfl, rfl, rfl, rfl⟩ := hN
  have hxi := hAc.1
  have hxj := hI.2.1
  have hkl := hI.2.2.2.2.1
  have hxe := hI.2.2.2.2.2.2.2.2.1
  refine j_perm _ hp ?_
  refine j_ws ([((u 0), .inr (5, [.ref (u 1), .ref (u 5), .ref (u 10), .ref (u 14), .ref (u 18), .ref (u 2), .int (nI xi), .int (nI (S.2.2.1 2)), .ref (u 3), va_rf so, .ref (u 4), .int (nI (S.2.2.1 11)), .int (nI (S.2.2.1 5)), .int (nI (S.2.2.1 6))])), ((u 1), .inl (g.2.1 3, 8, .inr (.inr (.inr (.inr rf))))), ((u 2), .inl (g.2.1 4, 24, .inr (.inr (.inr (.inr af))))), ((u 3), .inl (g.2.1 4, 2, .inr (.inr (.inr (.inr mf))))), ((u 4), .inl (g.2.1 0, 16, .inl (nF (S.1 10)))), ((u 5), .inr (4, [.ref (u 6), .int (nI (S.2.2.1 4)), .int (nI ks), .int (nI ke), .int (nI kt), .int (nI kv), .int (nI kf)])), ((u 6), .inl (g.2.1 1, 400, .inl (sgF (S.1 3)))), ((u 10), .inr (3, [.ref s0, .int (nI (D0 0 0)), .ref (u 11), .ref (u 12), .ref (u 13)])), ((u 11), .inl (g.2.1 0, 5, .inl (nF (D0 1)))), ((u 12), .inl (g.2.1 0, 6, .inl (nF (D0 2)))), ((u 13), .inl (g.2.1 0, 6, .inl (nF (D0 3)))), ((u 14), .inr (3, [.ref s1, .int (nI (D1 0 0)), .ref (u 15), .ref (u 16), .ref (u 17)])), ((u 15), .inl (g.2.1 0, 5, .inl (nF (D1 1)))), ((u 16), .inl (g.2.1 0, 6, .inl (nF (D1 2)))), ((u 17), .inl (g.2.1 0, 6, .inl (nF (D1 3)))), ((u 18), .inr (3, [.ref s2, .int (nI (D2 0 0)), .ref (u 19), .ref (u 20), .ref (u 21)])), ((u 19), .inl (g.2.1 0, 5, .inl (nF (D2 1)))), ((u 20), .inl (g.2.1 0, 6, .inl (nF (D2 2)))), ((u 21), .inl (g.2.1 0, 6, .inl (nF (D2 3))))] ++ (tlW R4 A4 I4 np Pl Sr)) rfl ?_
  have hW0 := hW
  obtain ⟨⟨zi, ⟨hzi, p1, p2, p3, p4, p5, p6, hpe⟩, hpl⟩, hst⟩ := hW
  have hq := RI_pl hI hpl
  obtain ⟨hq6, hq5, hq8, hq0⟩ := hq
  refine j_perm _ (opn (tl_pl hzi)) ?_
  rw [hpe]
  refine j_ws ([((u 0), .inr (5, [.ref (u 1), .ref (u 5), .ref (u 10), .ref (u 14), .ref (u 18), .ref (u 2), .int (nI xi), .int (nI (S.2.2.1 2)), .ref (u 3), va_rf so, .ref (u 4), .int (nI (S.2.2.1 11)), .int (nI (S.2.2.1 5)), .int (nI (S.2.2.1 6))])), ((u 1), .inl (g.2.1 3, 8, .inr (.inr (.inr (.inr rf))))), ((u 2), .inl (g.2.1 4, 24, .inr (.inr (.inr (.inr af))))), ((u 3), .inl (g.2.1 4, 2, .inr (.inr (.inr (.inr mf))))), ((u 4), .inl (g.2.1 0, 16, .inl (nF (S.1 10)))), ((u 5), .inr (4, [.ref (u 6), .int (nI (S.2.2.1 4)), .int (nI ks), .int (nI ke), .int (nI kt), .int (nI kv), .int (nI kf)])), ((u 6), .inl (g.2.1 1, 400, .inl (sgF (S.1 3)))), ((u 10), .inr (3, [.ref s0, .int (nI (D0 0 0)), .ref (u 11), .ref (u 12), .ref (u 13)])), ((u 11), .inl (g.2.1 0, 5, .inl (nF (D0 1)))), ((u 12), .inl (g.2.1 0, 6, .inl (nF (D0 2)))), ((u 13), .inl (g.2.1 0, 6, .inl (nF (D0 3)))), ((u 14), .inr (3, [.ref s1, .int (nI (D1 0 0)), .ref (u 15), .ref (u 16), .ref (u 17)])), ((u 15), .inl (g.2.1 0, 5, .inl (nF (D1 1)))), ((u 16), .inl (g.2.1 0, 6, .inl (nF (D1 2)))), ((u 17), .inl (g.2.1 0, 6, .inl (nF (D1 3)))), ((u 18), .inr (3, [.ref s2, .int (nI (D2 0 0)), .ref (u 19), .ref (u 20), .ref (u 21)])), ((u 19), .inl (g.2.1 0, 5, .inl (nF (D2 1)))), ((u 20), .inl (g.2.1 0, 6, .inl (nF (D2 2)))), ((u 21), .inl (g.2.1 0, 6, .inl (nF (D2 3)))), (s0, .inr (0, [.int (nI (pL zi 0 0)), .int (nI (pL zi 0 1)), .int (nI (pL zi 0 2)), .ref p1, .ref p2, .ref p3, .ref p4, .ref p5, .ref p6])), (p1, .inl (g.2.1 0, 5, .inl (nF (pL zi 1)))), (p2, .inl (g.2.1 0, 5, .inl (nF (pL zi 2)))), (p3, .inl (g.2.1 0, 5, .inl (nF (pL zi 3)))), (p4, .inl (g.2.1 0, 5, .inl (nF (pL zi 4)))), (p5, .inl (g.2.1 0, 8, .inl (nF (pL zi 5)))), (p6, .inl (g.2.1 0, 8, .inl (nF (pL zi 6))))] ++ (tlW R4 A4 I4 np (va_up Pl zi []) Sr)) rfl ?_
  refine j_aload_n 1 dX5_as_0 rfl 0 rfl ?_
  refine j_iload_n 2 dX5_as_1 rfl 1 rfl ?_
  refine j_callV0 (rest := []) 5 [0, 7, 19] (c_X5_isBeast g (u 0) (u 1) (u 5) (u 10) (u 14) (u 18) (u 2) xi (S.2.2.1 2) (u 3) so (u 4) (S.2.2.1 11) (S.2.2.1 5) (S.2.2.1 6) s0 (D0 0 0) (u 11) (u 12) (u 13) (pL zi 0 0) (pL zi 0 1) (pL zi 0 2) p1 p2 p3 p4 p5 p6 b (by first | assumption | omega)) [.int (gB (inR b (pL zi 0 2)))] ([((u 0), .inr (5, [.ref (u 1), .ref (u 5), .ref (u 10), .ref (u 14), .ref (u 18), .ref (u 2), .int (nI xi), .int (nI (S.2.2.1 2)), .ref (u 3), va_rf so, .ref (u 4), .int (nI (S.2.2.1 11)), .int (nI (S.2.2.1 5)), .int (nI (S.2.2.1 6))])), ((u 1), .inl (g.2.1 3, 8, .inr (.inr (.inr (.inr rf))))), ((u 2), .inl (g.2.1 4, 24, .inr (.inr (.inr (.inr af))))), ((u 3), .inl (g.2.1 4, 2, .inr (.inr (.inr (.inr mf))))), ((u 4), .inl (g.2.1 0, 16, .inl (nF (S.1 10)))), ((u 5), .inr (4, [.ref (u 6), .int (nI (S.2.2.1 4)), .int (nI ks), .int (nI ke), .int (nI kt), .int (nI kv), .int (nI kf)])), ((u 6), .inl (g.2.1 1, 400, .inl (sgF (S.1 3)))), ((u 10), .inr (3, [.ref s0, .int (nI (D0 0 0)), .ref (u 11), .ref (u 12), .ref (u 13)])), ((u 11), .inl (g.2.1 0, 5, .inl (nF (D0 1)))), ((u 12), .inl (g.2.1 0, 6, .inl (nF (D0 2)))), ((u 13), .inl (g.2.1 0, 6, .inl (nF (D0 3)))), ((u 14), .inr (3, [.ref s1, .int (nI (D1 0 0)), .ref (u 15), .ref (u 16), .ref (u 17)])), ((u 15), .inl (g.2.1 0, 5, .inl (nF (D1 1)))), ((u 16), .inl (g.2.1 0, 6, .inl (nF (D1 2)))), ((u 17), .inl (g.2.1 0, 6, .inl (nF (D1 3)))), ((u 18), .inr (3, [.ref s2, .int (nI (D2 0 0)), .ref (u 19), .ref (u 20), .ref (u 21)])), ((u 19), .inl (g.2.1 0, 5, .inl (nF (D2 1)))), ((u 20), .inl (g.2.1 0, 6, .inl (nF (D2 2)))), ((u 21), .inl (g.2.1 0, 6, .inl (nF (D2 3)))), (s0, .inr (0, [.int (nI (pL zi 0 0)), .int (nI (pL zi 0 1)), .int (nI (pL zi 0 2)), .ref p1, .ref p2, .ref p3, .ref p4, .ref p5, .ref p6])), (p1, .inl (g.2.1 0, 5, .inl (nF (pL zi 1)))), (p2, .inl (g.2.1 0, 5, .inl (nF (pL zi 2)))), (p3, .inl (g.2.1 0, 5, .inl (nF (pL zi 3)))), (p4, .inl (g.2.1 0, 5, .inl (nF (pL zi 4)))), (p5, .inl (g.2.1 0, 8, .inl (nF (pL zi 5)))), (p6, .inl (g.2.1 0, 8, .inl (nF (pL zi 6))))] ++ (tlW R4 A4 I4 np (va_up Pl zi []) Sr)) dX5_as_2 rfl cv_X5_150 rfl rfl rfl rfl 0 rfl rfl (gLe rfl) (gLe rfl) (gLe rfl) (gLe rfl) (gLe rfl) rfl (List.append_nil _) ?_
  refine j_topI _ (gB (inR b (S.1 0 3))) (gB_iff (by rw [hpl.2.2.1])) ?_
  refine j_if_eqB 8 18 dX5_as_5 rfl rfl (fun h5 => ?_) (fun h5 => ?_)
  ·
    refine j_ldc (v := (-1000001 : Int32)) 20 dX5_as_18 rfl wd_1_212 ?_
    have ze : (pM_as b a S) = ((-1000001 : Int32), S) := by
      first
        | exact if_pos (Or.inl h5)
        | exact if_pos (Or.inr (fun y => ((in_h (n := 6) (by decide)).mpr y).1 h9))
        | exact if_pos (Or.inr (fun y => h15 ((in_h (n := 6) (by decide)).mpr y).2))
    refine j_iretI dX5_as_20 rfl ⟨gLe rfl, gLe rfl, ?_⟩
    rw [ze]
    exact ⟨rfl, so, xi, (S.2.2.1 2), (S.2.2.1 11), (S.2.2.1 5), (S.2.2.1 6), rf, af, mf, (S.1 10), (S.2.2.1 4), ks, ke, kt, kv, kf, (S.1 3), s0, s1, s2, D0, D1, D2, R4, A4, I4, np, Pl, pL, Sr, hA, ⟨rfl, rfl, rfl, rfl, rfl, rfl, rfl⟩, hR, hW0, hAc, hM, hS, hZ1, hZ2, (cls (E := (mnW g u so xi (S.2.2.1 2) (S.2.2.1 11) (S.2.2.1 5) (S.2.2.1 6) rf af mf (S.1 10) (S.2.2.1 4) ks ke kt kv kf (S.1 3) s0 s1 s2 D0 D1 D2)) (X := (plW g s0 p1 p2 p3 p4 p5 p6 (pL zi))) (T' := (tlW R4 A4 I4 np (va_up Pl zi []) Sr)) (T := (tlW R4 A4 I4 np Pl Sr)) (by rw [← hpe]; exact (tl_pl hzi).symm))⟩
  ·
    refine j_iload_n 9 dX5_as_8 rfl 2 rfl ?_
    refine j_if_lt 12 18 dX5_as_9 rfl rfl (fun h9 => ?_) (fun h9 => ?_)
    ·
      refine j_ldc (v := (-1000001 : Int32)) 20 dX5_as_18 rfl wd_1_212 ?_
      have ze : (pM_as b a S) = ((-1000001 : Int32), S) := by
        first
          | exact if_pos (Or.inl h5)
          | exact if_pos (Or.inr (fun y => ((in_h (n := 6) (by decide)).mpr y).1 h9))
          | exact if_pos (Or.inr (fun y => h15 ((in_h (n := 6) (by decide)).mpr y).2))
      refine j_iretI dX5_as_20 rfl ⟨gLe rfl, gLe rfl, ?_⟩
      rw [ze]
      exact ⟨rfl, so, xi, (S.2.2.1 2), (S.2.2.1 11), (S.2.2.1 5), (S.2.2.1 6), rf, af, mf, (S.1 10), (S.2.2.1 4), ks, ke, kt, kv, kf, (S.1 3), s0, s1, s2, D0, D1, D2, R4, A4, I4, np, Pl, pL, Sr, hA, ⟨rfl, rfl, rfl, rfl, rfl, rfl, rfl⟩, hR, hW0, hAc, hM, hS, hZ1, hZ2, (cls (E := (mnW g u so xi (S.2.2.1 2) (S.2.2.1 11) (S.2.2.1 5) (S.2.2.1 6) rf af mf (S.1 10) (S.2.2.1 4) ks ke kt kv kf (S.1 3) s0 s1 s2 D0 D1 D2)) (X := (plW g s0 p1 p2 p3 p4 p5 p6 (pL zi))) (T' := (tlW R4 A4 I4 np (va_up Pl zi []) Sr)) (T := (tlW R4 A4 I4 np Pl Sr)) (by rw [← hpe]; exact (tl_pl hzi).symm))⟩
    ·
      refine j_iload_n 13 dX5_as_12 rfl 2 rfl ?_
      refine j_bipush (v := (6 : Int32)) 15 dX5_as_13 rfl (by decide) ?_
      refine j_icmp_lt 18 21 dX5_as_15 rfl rfl (fun h15 => ?_) (fun h15 => ?_)
      ·
        have ha6 : inR a 6 := (in_h (n := 6) (by decide)).mp ⟨h9, h15⟩
        obtain ⟨zb, hzb, rfl⟩ := inR_of h5
        obtain ⟨za, hza, rfl⟩ := inR_of ha6
        have hb8 : S.1 0 3 ≤ 8 := by rw [← hpl.2.2.1]; exact hq8
        have hok := (RI_P hI (Or.inr (Or.inl (by omega)))).2.1
        have hkd := okP_k hok hzb
        refine j_aload_n 22 dX5_as_21 rfl 0 rfl ?_
        refine j_getf 25 0 dX5_as_22 rfl fd_X5_61 rfl rfl ?_
        refine j_getf 28 7 dX5_as_25 rfl fd_X5_180 rfl rfl ?_
        refine j_iload_n 29 dX5_as_28 rfl 1 rfl ?_
        refine j_callV0 (rest := []) 32 [19, 20, 21, 22, 23, 24, 25] (c_X0_kindOf g s0 p1 p2 p3 p4 p5 p6 (pL zi) zb hq8 (by rw [hpl.2.2.1]; exact hzb)) [.int (nI ((pL zi) 5 zb))] ([((u 0), .inr (5, [.ref (u 1), .ref (u 5), .ref (u 10), .ref (u 14), .ref (u 18), .ref (u 2), .int (nI xi), .int (nI (S.2.2.1 2)), .ref (u 3), va_rf so, .ref (u 4), .int (nI (S.2.2.1 11)), .int (nI (S.2.2.1 5)), .int (nI (S.2.2.1 6))])), ((u 1), .inl (g.2.1 3, 8, .inr (.inr (.inr (.inr rf))))), ((u 2), .inl (g.2.1 4, 24, .inr (.inr (.inr (.inr af))))), ((u 3), .inl (g.2.1 4, 2, .inr (.inr (.inr (.inr mf))))), ((u 4), .inl (g.2.1 0, 16, .inl (nF (S.1 10)))), ((u 5), .inr (4, [.ref (u 6), .int (nI (S.2.2.1 4)), .int (nI ks), .int (nI ke), .int (nI kt), .int (nI kv), .int (nI kf)])), ((u 6), .inl (g.2.1 1, 400, .inl (sgF (S.1 3)))), ((u 10), .inr (3, [.ref s0, .int (nI (D0 0 0)), .ref (u 11), .ref (u 12), .ref (u 13)])), ((u 11), .inl (g.2.1 0, 5, .inl (nF (D0 1)))), ((u 12), .inl (g.2.1 0, 6, .inl (nF (D0 2)))), ((u 13), .inl (g.2.1 0, 6, .inl (nF (D0 3)))), ((u 14), .inr (3, [.ref s1, .int (nI (D1 0 0)), .ref (u 15), .ref (u 16), .ref (u 17)])), ((u 15), .inl (g.2.1 0, 5, .inl (nF (D1 1)))), ((u 16), .inl (g.2.1 0, 6, .inl (nF (D1 2)))), ((u 17), .inl (g.2.1 0, 6, .inl (nF (D1 3)))), ((u 18), .inr (3, [.ref s2, .int (nI (D2 0 0)), .ref (u 19), .ref (u 20), .ref (u 21)])), ((u 19), .inl (g.2.1 0, 5, .inl (nF (D2 1)))), ((u 20), .inl (g.2.1 0, 6, .inl (nF (D2 2)))), ((u 21), .inl (g.2.1 0, 6, .inl (nF (D2 3)))), (s0, .inr (0, [.int (nI (pL zi 0 0)), .int (nI (pL zi 0 1)), .int (nI (pL zi 0 2)), .ref p1, .ref p2, .ref p3, .ref p4, .ref p5, .ref p6])), (p1, .inl (g.2.1 0, 5, .inl (nF (pL zi 1)))), (p2, .inl (g.2.1 0, 5, .inl (nF (pL zi 2)))), (p3, .inl (g.2.1 0, 5, .inl (nF (pL zi 3)))), (p4, .inl (g.2.1 0, 5, .inl (nF (pL zi 4)))), (p5, .inl (g.2.1 0, 8, .inl (nF (pL zi 5)))), (p6, .inl (g.2.1 0, 8, .inl (nF (pL zi 6))))] ++ (tlW R4 A4 I4 np (va_up Pl zi []) Sr)) dX5_as_29 rfl cv_X5_256 rfl rfl rfl rfl 0 rfl rfl (gLe rfl) (gLe rfl) (gLe rfl) (gLe rfl) (gLe rfl) rfl (List.append_nil _) ?_
        refine j_topN ((pL zi) 5 zb) (S.1 0 (24 + 2 * zb)) (hpl.2.2.2.2 zb hzb).1 ?_
        refine j_istore_n 33 [(3, .int (nI (S.1 0 (24 + 2 * zb)))), (0, .ref (u 0)), (1, .int (nI zb)), (2, .int (nI za))] dX5_as_32 rfl (by decide) rfl ?_
        refine j_iconst (v := (0 : Int32)) 34 dX5_as_33 rfl (by decide) ?_
        refine j_istore 36 [(4, .int (0 : Int32)), (3, .int (nI (S.1 0 (24 + 2 * zb)))), (0, .ref (u 0)), (1, .int (nI zb)), (2, .int (nI za))] dX5_as_34 rfl (by decide) rfl ?_
        have hL36 : ∀ (zm36 : Nat) (zk : Nat) (zo : Nat), 6 - zk < zm36 → (zk ≤ 6) → (zo < 6) → (asW za (6 - zk) zo = asW za 6 (S.1 0 (24 + 2 * zb))) → gJ g mX5_as 1 0 0 (fun k' j' rv ws' => k' ≤ 0 ∧ j' ≤ 0 ∧ (rv = some (.int (pM_as (nI zb) (nI za) S).1) ∧ cR g u (pM_as (nI zb) (nI za) S).2 ws')) 0 0 36 [(4, .int (nI zk)), (3, .int (nI zo)), (0, .ref (u 0)), (1, .int (nI zb)), (2, .int (nI za))] [] ([((u 0), .inr (5, [.ref (u 1), .ref (u 5), .ref (u 10), .ref (u 14), .ref (u 18), .ref (u 2), .int (nI xi), .int (nI (S.2.2.1 2)), .ref (u 3), va_rf so, .ref (u 4), .int (nI (S.2.2.1 11)), .int (nI (S.2.2.1 5)), .int (nI (S.2.2.1 6))])), ((u 1), .inl (g.2.1 3, 8, .inr (.inr (.inr (.inr rf))))), ((u 2), .inl (g.2.1 4, 24, .inr (.inr (.inr (.inr af))))), ((u 3), .inl (g.2.1 4, 2, .inr (.inr (.inr (.inr mf))))), ((u 4), .inl (g.2.1 0, 16, .inl (nF (S.1 10)))), ((u 5), .inr (4, [.ref (u 6), .int (nI (S.2.2.1 4)), .int (nI ks), .int (nI ke), .int (nI kt), .int (nI kv), .int (nI kf)])), ((u 6), .inl (g.2.1 1, 400, .inl (sgF (S.1 3)))), ((u 10), .inr (3, [.ref s0, .int (nI (D0 0 0)), .ref (u 11), .ref (u 12), .ref (u 13)])), ((u 11), .inl (g.2.1 0, 5, .inl (nF (D0 1)))), ((u 12), .inl (g.2.1 0, 6, .inl (nF (D0 2)))), ((u 13), .inl (g.2.1 0, 6, .inl (nF (D0 3)))), ((u 14), .inr (3, [.ref s1, .int (nI (D1 0 0)), .ref (u 15), .ref (u 16), .ref (u 17)])), ((u 15), .inl (g.2.1 0, 5, .inl (nF (D1 1)))), ((u 16), .inl (g.2.1 0, 6, .inl (nF (D1 2)))), ((u 17), .inl (g.2.1 0, 6, .inl (nF (D1 3)))), ((u 18), .inr (3, [.ref s2, .int (nI (D2 0 0)), .ref (u 19), .ref (u 20), .ref (u 21)])), ((u 19), .inl (g.2.1 0, 5, .inl (nF (D2 1)))), ((u 20), .inl (g.2.1 0, 6, .inl (nF (D2 2)))), ((u 21), .inl (g.2.1 0, 6, .inl (nF (D2 3)))), (s0, .inr (0, [.int (nI (pL zi 0 0)), .int (nI (pL zi 0 1)), .int (nI (pL zi 0 2)), .ref p1, .ref p2, .ref p3, .ref p4, .ref p5, .ref p6])), (p1, .inl (g.2.1 0, 5, .inl (nF (pL zi 1)))), (p2, .inl (g.2.1 0, 5, .inl (nF (pL zi 2)))), (p3, .inl (g.2.1 0, 5, .inl (nF (pL zi 3)))), (p4, .inl (g.2.1 0, 5, .inl (nF (pL zi 4)))), (p5, .inl (g.2.1 0, 8, .inl (nF (pL zi 5)))), (p6, .inl (g.2.1 0, 8, .inl (nF (pL zi 6))))] ++ (tlW R4 A4 I4 np (va_up Pl zi []) Sr)) := by
          intro zm36
          induction zm36 with
          | zero => intro zk zo zmh; exact absurd zmh (Nat.not_lt_zero _)
          | succ zm36 zih36 =>
            intro zk zo zmh36 hzk hzo hze
            refine j_iload 38 dX5_as_36 rfl 0 rfl ?_
            refine j_bipush (v := (6 : Int32)) 40 dX5_as_38 rfl (by decide) ?_
            refine j_icmp_geN zk 6 43 60 dX5_as_40 rfl rfl (by omega) (by decide) (fun h40 => ?_) (fun h40 => ?_)
            ·
              have hfin : asW za 6 (S.1 0 (24 + 2 * zb)) = zo := by rw [← hze]; first | (rw [h45]; exact asW_a _) | (rw [show 6 - zk = 0 by omega]; rfl)
              have hik := asW_is (S.1 0 (24 + 2 * zb)) (by omega) za hza
              rw [hfin] at hik
              refine j_iload_n 61 dX5_as_60 rfl 1 rfl ?_
              refine j_iload_n 62 dX5_as_61 rfl 4 rfl ?_
              refine j_icmp_neN zo za 65 73 dX5_as_62 rfl rfl (by have z0 := hzo; omega) (by have z0 := hza; omega) (fun h62 => ?_) (fun h62 => ?_)
              ·
                refine j_aload_n 74 dX5_as_73 rfl 2 rfl ?_
                refine j_iconst (v := (3 : Int32)) 75 dX5_as_74 rfl (by decide) ?_
                refine j_callV0 (rest := []) 78 [0] (c_X5_found g (u 0) (u 1) (u 5) (u 10) (u 14) (u 18) (u 2) xi (S.2.2.1 2) (u 3) so (u 4) (S.2.2.1 11) (S.2.2.1 5) (S.2.2.1 6) 3 ) [.int ((-1000010 : Int32) - nI 3)] ([((u 0), .inr (5, [.ref (u 1), .ref (u 5), .ref (u 10), .ref (u 14), .ref (u 18), .ref (u 2), .int (nI xi), .int (nI (S.2.2.1 2)), .ref (u 3), va_rf so, .ref (u 4), .int (nI (S.2.2.1 11)), .int (nI (S.2.2.1 5)), .int (nI 3)])), ((u 1), .inl (g.2.1 3, 8, .inr (.inr (.inr (.inr rf))))), ((u 2), .inl (g.2.1 4, 24, .inr (.inr (.inr (.inr af))))), ((u 3), .inl (g.2.1 4, 2, .inr (.inr (.inr (.inr mf))))), ((u 4), .inl (g.2.1 0, 16, .inl (nF (S.1 10)))), ((u 5), .inr (4, [.ref (u 6), .int (nI (S.2.2.1 4)), .int (nI ks), .int (nI ke), .int (nI kt), .int (nI kv), .int (nI kf)])), ((u 6), .inl (g.2.1 1, 400, .inl (sgF (S.1 3)))), ((u 10), .inr (3, [.ref s0, .int (nI (D0 0 0)), .ref (u 11), .ref (u 12), .ref (u 13)])), ((u 11), .inl (g.2.1 0, 5, .inl (nF (D0 1)))), ((u 12), .inl (g.2.1 0, 6, .inl (nF (D0 2)))), ((u 13), .inl (g.2.1 0, 6, .inl (nF (D0 3)))), ((u 14), .inr (3, [.ref s1, .int (nI (D1 0 0)), .ref (u 15), .ref (u 16), .ref (u 17)])), ((u 15), .inl (g.2.1 0, 5, .inl (nF (D1 1)))), ((u 16), .inl (g.2.1 0, 6, .inl (nF (D1 2)))), ((u 17), .inl (g.2.1 0, 6, .inl (nF (D1 3)))), ((u 18), .inr (3, [.ref s2, .int (nI (D2 0 0)), .ref (u 19), .ref (u 20), .ref (u 21)])), ((u 19), .inl (g.2.1 0, 5, .inl (nF (D2 1)))), ((u 20), .inl (g.2.1 0, 6, .inl (nF (D2 2)))), ((u 21), .inl (g.2.1 0, 6, .inl (nF (D2 3)))), (s0, .inr (0, [.int (nI (pL zi 0 0)), .int (nI (pL zi 0 1)), .int (nI (pL zi 0 2)), .ref p1, .ref p2, .ref p3, .ref p4, .ref p5, .ref p6])), (p1, .inl (g.2.1 0, 5, .inl (nF (pL zi 1)))), (p2, .inl (g.2.1 0, 5, .inl (nF (pL zi 2)))), (p3, .inl (g.2.1 0, 5, .inl (nF (pL zi 3)))), (p4, .inl (g.2.1 0, 5, .inl (nF (pL zi 4)))), (p5, .inl (g.2.1 0, 8, .inl (nF (pL zi 5)))), (p6, .inl (g.2.1 0, 8, .inl (nF (pL zi 6))))] ++ (tlW R4 A4 I4 np (va_up Pl zi []) Sr)) dX5_as_75 rfl cv_X5_77 rfl rfl rfl rfl 0 rfl rfl (gLe rfl) (gLe rfl) (gLe rfl) (gLe rfl) (gLe rfl) rfl (List.append_nil _) ?_
                have ze : (pM_as (nI zb) (nI za) S) = (((-1000010 : Int32) - nI 3), stN S 3) := by
                  rw [pM_as, if_neg (fun y => y.elim (fun y => y h5) (fun y => y ha6)), cl_nI (a := zb) (by omega), cl_nI (a := za) (by omega), if_neg (fun y => h62 (hik.mpr y))]
                  rfl
                refine j_iretI dX5_as_78 rfl ⟨gLe rfl, gLe rfl, ?_⟩
                rw [ze]
                exact ⟨rfl, so, xi, (S.2.2.1 2), (S.2.2.1 11), (S.2.2.1 5), 3, rf, af, mf, (S.1 10), (S.2.2.1 4), ks, ke, kt, kv, kf, (S.1 3), s0, s1, s2, D0, D1, D2, R4, A4, I4, np, Pl, pL, Sr, hA, ⟨rfl, rfl, rfl, rfl, rfl, rfl, rfl⟩, hR, hW0, hAc, hM, hS, hZ1, hZ2, (cls (E := (mnW g u so xi (S.2.2.1 2) (S.2.2.1 11) (S.2.2.1 5) 3 rf af mf (S.1 10) (S.2.2.1 4) ks ke kt kv kf (S.1 3) s0 s1 s2 D0 D1 D2)) (X := (plW g s0 p1 p2 p3 p4 p5 p6 (pL zi))) (T' := (tlW R4 A4 I4 np (va_up Pl zi []) Sr)) (T := (tlW R4 A4 I4 np Pl Sr)) (by rw [← hpe]; exact (tl_pl hzi).symm))⟩
              ·
                refine j_aload_n 66 dX5_as_65 rfl 2 rfl ?_
                refine j_iload_n 67 dX5_as_66 rfl 3 rfl ?_
                refine j_callV0 (rest := []) 70 [0] (c_X5_foundNothing g (u 0) (u 1) (u 5) (u 10) (u 14) (u 18) (u 2) xi (S.2.2.1 2) (u 3) so (u 4) (S.2.2.1 11) (S.2.2.1 5) (S.2.2.1 6) (nI zb) ) [.int (nI zb)] ([((u 0), .inr (5, [.ref (u 1), .ref (u 5), .ref (u 10), .ref (u 14), .ref (u 18), .ref (u 2), .int (nI xi), .int (nI (S.2.2.1 2)), .ref (u 3), va_rf so, .ref (u 4), .int (nI (S.2.2.1 11)), .int (nI (S.2.2.1 5)), .int (0 : Int32)])), ((u 1), .inl (g.2.1 3, 8, .inr (.inr (.inr (.inr rf))))), ((u 2), .inl (g.2.1 4, 24, .inr (.inr (.inr (.inr af))))), ((u 3), .inl (g.2.1 4, 2, .inr (.inr (.inr (.inr mf))))), ((u 4), .inl (g.2.1 0, 16, .inl (nF (S.1 10)))), ((u 5), .inr (4, [.ref (u 6), .int (nI (S.2.2.1 4)), .int (nI ks), .int (nI ke), .int (nI kt), .int (nI kv), .int (nI kf)])), ((u 6), .inl (g.2.1 1, 400, .inl (sgF (S.1 3)))), ((u 10), .inr (3, [.ref s0, .int (nI (D0 0 0)), .ref (u 11), .ref (u 12), .ref (u 13)])), ((u 11), .inl (g.2.1 0, 5, .inl (nF (D0 1)))), ((u 12), .inl (g.2.1 0, 6, .inl (nF (D0 2)))), ((u 13), .inl (g.2.1 0, 6, .inl (nF (D0 3)))), ((u 14), .inr (3, [.ref s1, .int (nI (D1 0 0)), .ref (u 15), .ref (u 16), .ref (u 17)])), ((u 15), .inl (g.2.1 0, 5, .inl (nF (D1 1)))), ((u 16), .inl (g.2.1 0, 6, .inl (nF (D1 2)))), ((u 17), .inl (g.2.1 0, 6, .inl (nF (D1 3)))), ((u 18), .inr (3, [.ref s2, .int (nI (D2 0 0)), .ref (u 19), .ref (u 20), .ref (u 21)])), ((u 19), .inl (g.2.1 0, 5, .inl (nF (D2 1)))), ((u 20), .inl (g.2.1 0, 6, .inl (nF (D2 2)))), ((u 21), .inl (g.2.1 0, 6, .inl (nF (D2 3)))), (s0, .inr (0, [.int (nI (pL zi 0 0)), .int (nI (pL zi 0 1)), .int (nI (pL zi 0 2)), .ref p1, .ref p2, .ref p3, .ref p4, .ref p5, .ref p6])), (p1, .inl (g.2.1 0, 5, .inl (nF (pL zi 1)))), (p2, .inl (g.2.1 0, 5, .inl (nF (pL zi 2)))), (p3, .inl (g.2.1 0, 5, .inl (nF (pL zi 3)))), (p4, .inl (g.2.1 0, 5, .inl (nF (pL zi 4)))), (p5, .inl (g.2.1 0, 8, .inl (nF (pL zi 5)))), (p6, .inl (g.2.1 0, 8, .inl (nF (pL zi 6))))] ++ (tlW R4 A4 I4 np (va_up Pl zi []) Sr)) dX5_as_67 rfl cv_X5_85 rfl rfl rfl rfl 0 rfl rfl (gLe rfl) (gLe rfl) (gLe rfl) (gLe rfl) (gLe rfl) rfl (List.append_nil _) ?_
                refine j_goto 78 dX5_as_70 rfl ?_
                have ze : (pM_as (nI zb) (nI za) S) = ((nI zb), stN S 0) := by
                  rw [pM_as, if_neg (fun y => y.elim (fun y => y h5) (fun y => y ha6)), cl_nI (a := zb) (by omega), cl_nI (a := za) (by omega), if_pos (hik.mp h62)]
                refine j_iretI dX5_as_78 rfl ⟨gLe rfl, gLe rfl, ?_⟩
                rw [ze]
                exact ⟨rfl, so, xi, (S.2.2.1 2), (S.2.2.1 11), (S.2.2.1 5), 0, rf, af, mf, (S.1 10), (S.2.2.1 4), ks, ke, kt, kv, kf, (S.1 3), s0, s1, s2, D0, D1, D2, R4, A4, I4, np, Pl, pL, Sr, hA, ⟨rfl, rfl, rfl, rfl, rfl, rfl, rfl⟩, hR, hW0, hAc, hM, hS, hZ1, hZ2, (cls (E := (mnW g u so xi (S.2.2.1 2) (S.2.2.1 11) (S.2.2.1 5) 0 rf af mf (S.1 10) (S.2.2.1 4) ks ke kt kv kf (S.1 3) s0 s1 s2 D0 D1 D2)) (X := (plW g s0 p1 p2 p3 p4 p5 p6 (pL zi))) (T' := (tlW R4 A4 I4 np (va_up Pl zi []) Sr)) (T := (tlW R4 A4 I4 np Pl Sr)) (by rw [← hpe]; exact (tl_pl hzi).symm))⟩
            ·
              refine j_iload_n 44 dX5_as_43 rfl 1 rfl ?_
              refine j_iload_n 45 dX5_as_44 rfl 4 rfl ?_
              refine j_icmp_eqN zo za 48 60 dX5_as_45 rfl rfl (by have z0 := hzo; omega) (by have z0 := hza; omega) (fun h45 => ?_) (fun h45 => ?_)
              ·
                have hfin : asW za 6 (S.1 0 (24 + 2 * zb)) = zo := by rw [← hze]; first | (rw [h45]; exact asW_a _) | (rw [show 6 - zk = 0 by omega]; rfl)
                have hik := asW_is (S.1 0 (24 + 2 * zb)) (by omega) za hza
                rw [hfin] at hik
                refine j_iload_n 61 dX5_as_60 rfl 1 rfl ?_
                refine j_iload_n 62 dX5_as_61 rfl 4 rfl ?_
                refine j_icmp_neN zo za 65 73 dX5_as_62 rfl rfl (by have z0 := hzo; omega) (by have z0 := hza; omega) (fun h62 => ?_) (fun h62 => ?_)
                ·
                  refine j_aload_n 74 dX5_as_73 rfl 2 rfl ?_
                  refine j_iconst (v := (3 : Int32)) 75 dX5_as_74 rfl (by decide) ?_
                  refine j_callV0 (rest := []) 78 [0] (c_X5_found g (u 0) (u 1) (u 5) (u 10) (u 14) (u 18) (u 2) xi (S.2.2.1 2) (u 3) so (u 4) (S.2.2.1 11) (S.2.2.1 5) (S.2.2.1 6) 3 ) [.int ((-1000010 : Int32) - nI 3)] ([((u 0), .inr (5, [.ref (u 1), .ref (u 5), .ref (u 10), .ref (u 14), .ref (u 18), .ref (u 2), .int (nI xi), .int (nI (S.2.2.1 2)), .ref (u 3), va_rf so, .ref (u 4), .int (nI (S.2.2.1 11)), .int (nI (S.2.2.1 5)), .int (nI 3)])), ((u 1), .inl (g.2.1 3, 8, .inr (.inr (.inr (.inr rf))))), ((u 2), .inl (g.2.1 4, 24, .inr (.inr (.inr (.inr af))))), ((u 3), .inl (g.2.1 4, 2, .inr (.inr (.inr (.inr mf))))), ((u 4), .inl (g.2.1 0, 16, .inl (nF (S.1 10)))), ((u 5), .inr (4, [.ref (u 6), .int (nI (S.2.2.1 4)), .int (nI ks), .int (nI ke), .int (nI kt), .int (nI kv), .int (nI kf)])), ((u 6), .inl (g.2.1 1, 400, .inl (sgF (S.1 3)))), ((u 10), .inr (3, [.ref s0, .int (nI (D0 0 0)), .ref (u 11), .ref (u 12), .ref (u 13)])), ((u 11), .inl (g.2.1 0, 5, .inl (nF (D0 1)))), ((u 12), .inl (g.2.1 0, 6, .inl (nF (D0 2)))), ((u 13), .inl (g.2.1 0, 6, .inl (nF (D0 3)))), ((u 14), .inr (3, [.ref s1, .int (nI (D1 0 0)), .ref (u 15), .ref (u 16), .ref (u 17)])), ((u 15), .inl (g.2.1 0, 5, .inl (nF (D1 1)))), ((u 16), .inl (g.2.1 0, 6, .inl (nF (D1 2)))), ((u 17), .inl (g.2.1 0, 6, .inl (nF (D1 3)))), ((u 18), .inr (3, [.ref s2, .int (nI (D2 0 0)), .ref (u 19), .ref (u 20), .ref (u 21)])), ((u 19), .inl (g.2.1 0, 5, .inl (nF (D2 1)))), ((u 20), .inl (g.2.1 0, 6, .inl (nF (D2 2)))), ((u 21), .inl (g.2.1 0, 6, .inl (nF (D2 3)))), (s0, .inr (0, [.int (nI (pL zi 0 0)), .int (nI (pL zi 0 1)), .int (nI (pL zi 0 2)), .ref p1, .ref p2, .ref p3, .ref p4, .ref p5, .ref p6])), (p1, .inl (g.2.1 0, 5, .inl (nF (pL zi 1)))), (p2, .inl (g.2.1 0, 5, .inl (nF (pL zi 2)))), (p3, .inl (g.2.1 0, 5, .inl (nF (pL zi 3)))), (p4, .inl (g.2.1 0, 5, .inl (nF (pL zi 4)))), (p5, .inl (g.2.1 0, 8, .inl (nF (pL zi 5)))), (p6, .inl (g.2.1 0, 8, .inl (nF (pL zi 6))))] ++ (tlW R4 A4 I4 np (va_up Pl zi []) Sr)) dX5_as_75 rfl cv_X5_77 rfl rfl rfl rfl 0 rfl rfl (gLe rfl) (gLe rfl) (gLe rfl) (gLe rfl) (gLe rfl) rfl (List.append_nil _) ?_
                  have ze : (pM_as (nI zb) (nI za) S) = (((-1000010 : Int32) - nI 3), stN S 3) := by
                    rw [pM_as, if_neg (fun y => y.elim (fun y => y h5) (fun y => y ha6)), cl_nI (a := zb) (by omega), cl_nI (a := za) (by omega), if_neg (fun y => h62 (hik.mpr y))]
                    rfl
                  refine j_iretI dX5_as_78 rfl ⟨gLe rfl, gLe rfl, ?_⟩
                  rw [ze]
                  exact ⟨rfl, so, xi, (S.2.2.1 2), (S.2.2.1 11), (S.2.2.1 5), 3, rf, af, mf, (S.1 10), (S.2.2.1 4), ks, ke, kt, kv, kf, (S.1 3), s0, s1, s2, D0, D1, D2, R4, A4, I4, np, Pl, pL, Sr, hA, ⟨rfl, rfl, rfl, rfl, rfl, rfl, rfl⟩, hR, hW0, hAc, hM, hS, hZ1, hZ2, (cls (E := (mnW g u so xi (S.2.2.1 2) (S.2.2.1 11) (S.2.2.1 5) 3 rf af mf (S.1 10) (S.2.2.1 4) ks ke kt kv kf (S.1 3) s0 s1 s2 D0 D1 D2)) (X := (plW g s0 p1 p2 p3 p4 p5 p6 (pL zi))) (T' := (tlW R4 A4 I4 np (va_up Pl zi []) Sr)) (T := (tlW R4 A4 I4 np Pl Sr)) (by rw [← hpe]; exact (tl_pl hzi).symm))⟩
                ·
                  refine j_aload_n 66 dX5_as_65 rfl 2 rfl ?_
                  refine j_iload_n 67 dX5_as_66 rfl 3 rfl ?_
                  refine j_callV0 (rest := []) 70 [0] (c_X5_foundNothing g (u 0) (u 1) (u 5) (u 10) (u 14) (u 18) (u 2) xi (S.2.2.1 2) (u 3) so (u 4) (S.2.2.1 11) (S.2.2.1 5) (S.2.2.1 6) (nI zb) ) [.int (nI zb)] ([((u 0), .inr (5, [.ref (u 1), .ref (u 5), .ref (u 10), .ref (u 14), .ref (u 18), .ref (u 2), .int (nI xi), .int (nI (S.2.2.1 2)), .ref (u 3), va_rf so, .ref (u 4), .int (nI (S.2.2.1 11)), .int (nI (S.2.2.1 5)), .int (0 : Int32)])), ((u 1), .inl (g.2.1 3, 8, .inr (.inr (.inr (.inr rf))))), ((u 2), .inl (g.2.1 4, 24, .inr (.inr (.inr (.inr af))))), ((u 3), .inl (g.2.1 4, 2, .inr (.inr (.inr (.inr mf))))), ((u 4), .inl (g.2.1 0, 16, .inl (nF (S.1 10)))), ((u 5), .inr (4, [.ref (u 6), .int (nI (S.2.2.1 4)), .int (nI ks), .int (nI ke), .int (nI kt), .int (nI kv), .int (nI kf)])), ((u 6), .inl (g.2.1 1, 400, .inl (sgF (S.1 3)))), ((u 10), .inr (3, [.ref s0, .int (nI (D0 0 0)), .ref (u 11), .ref (u 12), .ref (u 13)])), ((u 11), .inl (g.2.1 0, 5, .inl (nF (D0 1)))), ((u 12), .inl (g.2.1 0, 6, .inl (nF (D0 2)))), ((u 13), .inl (g.2.1 0, 6, .inl (nF (D0 3)))), ((u 14), .inr (3, [.ref s1, .int (nI (D1 0 0)), .ref (u 15), .ref (u 16), .ref (u 17)])), ((u 15), .inl (g.2.1 0, 5, .inl (nF (D1 1)))), ((u 16), .inl (g.2.1 0, 6, .inl (nF (D1 2)))), ((u 17), .inl (g.2.1 0, 6, .inl (nF (D1 3)))), ((u 18), .inr (3, [.ref s2, .int (nI (D2 0 0)), .ref (u 19), .ref (u 20), .ref (u 21)])), ((u 19), .inl (g.2.1 0, 5, .inl (nF (D2 1)))), ((u 20), .inl (g.2.1 0, 6, .inl (nF (D2 2)))), ((u 21), .inl (g.2.1 0, 6, .inl (nF (D2 3)))), (s0, .inr (0, [.int (nI (pL zi 0 0)), .int (nI (pL zi 0 1)), .int (nI (pL zi 0 2)), .ref p1, .ref p2, .ref p3, .ref p4, .ref p5, .ref p6])), (p1, .inl (g.2.1 0, 5, .inl (nF (pL zi 1)))), (p2, .inl (g.2.1 0, 5, .inl (nF (pL zi 2)))), (p3, .inl (g.2.1 0, 5, .inl (nF (pL zi 3)))), (p4, .inl (g.2.1 0, 5, .inl (nF (pL zi 4)))), (p5, .inl (g.2.1 0, 8, .inl (nF (pL zi 5)))), (p6, .inl (g.2.1 0, 8, .inl (nF (pL zi 6))))] ++ (tlW R4 A4 I4 np (va_up Pl zi []) Sr)) dX5_as_67 rfl cv_X5_85 rfl rfl rfl rfl 0 rfl rfl (gLe rfl) (gLe rfl) (gLe rfl) (gLe rfl) (gLe rfl) rfl (List.append_nil _) ?_
                  refine j_goto 78 dX5_as_70 rfl ?_
                  have ze : (pM_as (nI zb) (nI za) S) = ((nI zb), stN S 0) := by
                    rw [pM_as, if_neg (fun y => y.elim (fun y => y h5) (fun y => y ha6)), cl_nI (a := zb) (by omega), cl_nI (a := za) (by omega), if_pos (hik.mp h62)]
                  refine j_iretI dX5_as_78 rfl ⟨gLe rfl, gLe rfl, ?_⟩
                  rw [ze]
                  exact ⟨rfl, so, xi, (S.2.2.1 2), (S.2.2.1 11), (S.2.2.1 5), 0, rf, af, mf, (S.1 10), (S.2.2.1 4), ks, ke, kt, kv, kf, (S.1 3), s0, s1, s2, D0, D1, D2, R4, A4, I4, np, Pl, pL, Sr, hA, ⟨rfl, rfl, rfl, rfl, rfl, rfl, rfl⟩, hR, hW0, hAc, hM, hS, hZ1, hZ2, (cls (E := (mnW g u so xi (S.2.2.1 2) (S.2.2.1 11) (S.2.2.1 5) 0 rf af mf (S.1 10) (S.2.2.1 4) ks ke kt kv kf (S.1 3) s0 s1 s2 D0 D1 D2)) (X := (plW g s0 p1 p2 p3 p4 p5 p6 (pL zi))) (T' := (tlW R4 A4 I4 np (va_up Pl zi []) Sr)) (T := (tlW R4 A4 I4 np Pl Sr)) (by rw [← hpe]; exact (tl_pl hzi).symm))⟩
              ·
                refine j_gsta 51 0 dX5_as_48 rfl (Or.inl ⟨rfl, rfl⟩) wd_4_3 ?_
                refine j_iload_n 52 dX5_as_51 rfl 1 rfl ?_
                refine j_tald 53 0 dX5_as_52 rfl (by decide) (vp_in_nI hzo (by decide)) ?_
                refine j_topI ((gSta 0).getD (nI zo).toNatClampNeg 0) (nI (abN zo)) (abN_at zo hzo).1 ?_
                refine j_istore_n 54 [(3, .int (nI (abN zo))), (4, .int (nI zk)), (0, .ref (u 0)), (1, .int (nI zb)), (2, .int (nI za))] dX5_as_53 rfl (by decide) rfl ?_
                refine j_iincN zk 1 57 [(4, .int (nI (zk + 1))), (3, .int (nI (abN zo))), (0, .ref (u 0)), (1, .int (nI zb)), (2, .int (nI za))] dX5_as_54 rfl 1 rfl (by decide) rfl ?_
                refine j_goto 36 dX5_as_57 rfl ?_
                refine j_lv [0, 1, 2, 3, 4] rfl ?_
                exact zih36 (zk + 1) (abN zo) (by omega) (by omega) (abN_at zo hzo).2 (by rw [← hze, show 6 - zk = (6 - (zk + 1)) + 1 by omega, asW, if_neg h45])
        refine j_lv [0, 1, 2, 3, 4] rfl ?_
        exact hL36 _ 0 (S.1 0 (24 + 2 * zb)) (Nat.lt_succ_self _) (Nat.zero_le _) (by omega) rfl
      ·
        refine j_ldc (v := (-1000001 : Int32)) 20 dX5_as_18 rfl wd_1_212 ?_
        have ze : (pM_as b a S) = ((-1000001 : Int32), S) := by
          first
            | exact if_pos (Or.inl h5)
            | exact if_pos (Or.inr (fun y => ((in_h (n := 6) (by decide)).mpr y).1 h9))
            | exact if_pos (Or.inr (fun y => h15 ((in_h (n := 6) (by decide)).mpr y).2))
        refine j_iretI dX5_as_20 rfl ⟨gLe rfl, gLe rfl, ?_⟩
        rw [ze]
        exact ⟨rfl, so, xi, (S.2.2.1 2), (S.2.2.1 11), (S.2.2.1 5), (S.2.2.1 6), rf, af, mf, (S.1 10), (S.2.2.1 4), ks, ke, kt, kv, kf, (S.1 3), s0, s1, s2, D0, D1, D2, R4, A4, I4, np, Pl, pL, Sr, hA, ⟨rfl, rfl, rfl, rfl, rfl, rfl, rfl⟩, hR, hW0, hAc, hM, hS, hZ1, hZ2, (cls (E := (mnW g u so xi (S.2.2.1 2) (S.2.2.1 11) (S.2.2.1 5) (S.2.2.1 6) rf af mf (S.1 10) (S.2.2.1 4) ks ke kt kv kf (S.1 3) s0 s1 s2 D0 D1 D2)) (X := (plW g s0 p1 p2 p3 p4 p5 p6 (pL zi))) (T' := (tlW R4 A4 I4 np (va_up Pl zi []) Sr)) (T := (tlW R4 A4 I4 np Pl Sr)) (by rw [← hpe]; exact (tl_pl hzi).symm))⟩
