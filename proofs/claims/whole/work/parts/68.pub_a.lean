theorem opn {E X T T' : va_W} (h : List.Perm T (X ++ T')) : List.Perm (E ++ T) ((E ++ X) ++ T') := by
  rw [List.append_assoc]; exact h.append_left E
theorem cls {E X T T' : va_W} (h : List.Perm (X ++ T') T) : List.Perm ((E ++ X) ++ T') (E ++ T) := by
  rw [List.append_assoc]; exact h.append_left E
theorem RI_pl {S : RS} {L : Nat → Nat → Nat} (hI : RI S) (h : plOK L (S.1 0)) : L 0 0 ≤ 6 ∧ L 0 1 ≤ 5 ∧ L 0 2 ≤ 8 ∧ (L 0 1 = 0 ↔ S.1 0 0 = 0) := by
  obtain ⟨h1, h2, h3, -⟩ := h
  rcases hI.1.1 with y | y
  · have h6 := y.2.1.1
    have h7 := y.2.1.2.1
    have h8 := y.2.1.2.2.1
    have h9 := y.2.1.2.2.2.1
    have h10 := y.1
    exact ⟨by omega, by omega, by omega, by omega⟩
  · exact ⟨by omega, by omega, by omega, by omega⟩
theorem row_z {S : RS} {r : Nat} {l z : Int32} {it : Nat → Int32} (hI : RI S) (hr : r < 8) (h1 : S.2.1 7 r = -1000000 → z = -1) (h2 : S.2.1 7 r ≠ -1000000 → l = S.2.1 7 r ∧ z = nI (S.1 8 r) ∧ ∀ i, i < S.1 8 r → it i = S.2.1 9 (40 * r + i)) : (-2 < z.toInt ∧ z.toInt ≤ 40) ∧ (z = -1 ↔ S.2.1 7 r = -1000000) ∧ ∀ i n, fdK z i n = rfK (S.2.1 7 r) (S.1 8 r) i n := by
  have h40 : S.1 8 r ≤ 40 := hI.2.2.2.2.2.2.2.1 r hr
  have em : (-1 : Int32).toInt = -1 := by decide
  by_cases c : S.2.1 7 r = -1000000
  · have e := h1 c
    subst e
    refine ⟨by rw [em]; omega, ⟨fun _ => c, fun _ => rfl⟩, fun i n => ?_⟩
    rw [fdK, if_pos rfl, rfK, if_pos c]
  · obtain ⟨-, e, -⟩ := h2 c
    have et : z.toInt = (S.1 8 r : Int) := by rw [e]; exact nI_toInt (by omega)
    have hn : ¬ z = -1 := fun y => by rw [y, em] at et; omega
    refine ⟨by rw [et]; omega, ⟨fun y => absurd y hn, fun y => absurd y c⟩, fun i n => ?_⟩
    rw [fdK, if_neg hn, rfK, if_neg c, et]
theorem rows_up {g : gG} {u : Nat → Nat} {S S' : RS} {R4 : Nat → va_W} {zr : Nat} {x : va_W} (hR : ∀ r, r < 8 → rowR g u S r (R4 r)) (hx : rowR g u S' zr x) (he : ∀ r, r < 8 → r ≠ zr → rowR g u S' r (R4 r)) : ∀ r, r < 8 → rowR g u S' r (va_up R4 zr x r) := by
  intro r hr
  by_cases e : r = zr
  · subst e; rw [va_up_s]; exact hx
  · rw [va_up_n e]; exact he r hr e
theorem rows_same {g : gG} {u : Nat → Nat} {S' : RS} {R4 : Nat → va_W} {zr : Nat} {x : va_W} (hx : R4 zr = x) (he : ∀ r, r < 8 → rowR g u S' r (R4 r)) : ∀ r, r < 8 → rowR g u S' r (va_up R4 zr x r) := by
  intro r hr
  rw [← hx, up_self]
  exact he r hr
theorem fdK_0 {z i n : Int32} (h : fdK z i n = 0) : ¬ z = -1 ∧ 0 ≤ i.toInt ∧ 0 ≤ n.toInt ∧ i.toInt + n.toInt ≤ z.toInt := by
  unfold fdK at h
  by_cases c : z = -1
  · rw [if_pos c] at h; exact absurd h (by decide)
  · rw [if_neg c] at h
    by_cases c2 : 0 ≤ i.toInt ∧ 0 ≤ n.toInt ∧ i.toInt + n.toInt ≤ z.toInt
    · exact ⟨c, c2⟩
    · rw [if_neg c2] at h; exact absurd h (by decide)
theorem fdK_le {z i n : Int32} : fdK z i n ≤ 2 := by
  unfold fdK
  repeat' split
  all_goals decide
theorem fnd_n {k : Nat} (h : ¬ k = 0) : fndA k = (-1000010 : Int32) - nI k := if_neg h
theorem lane_iff {l : Int32} : (¬ l < 0 ∧ ¬ (2 : Int32) < l) ↔ inR l 3 := by
  rw [i32_neg, Int32.lt_iff_toInt_lt, show (2 : Int32).toInt = 2 by decide]
  unfold inR
  omega
theorem rw_row {g : gG} {u : Nat → Nat} {S : RS} {r n : Nat} {l : Int32} {ri : Nat → Int32} (hr : r < 8) (hn : n ≤ 40) (hl : inR l 3) : rowR g u (va_up S.1 8 (va_up (S.1 8) r n), va_up (va_up S.2.1 7 (upd (S.2.1 7) r l)) 9 (zf (S.2.1 9) r n), va_up S.2.2.1 6 0, S.2.2.2) r (rwW g u r l (nI n) (va_cpy (fun _ => 0) ri 0 0 40)) := by
  have hln : l ≠ -1000000 := fun y => by rw [y] at hl; exact absurd hl (by decide)
  have e7 : (upd (S.2.1 7) r l) r = l := if_pos rfl
  have e8 : (va_up (S.1 8) r n) r = n := va_up_s
  refine ⟨l, nI n, _, rfl, fun y => ?_, fun _ => ⟨e7.symm, congrArg nI e8.symm, fun i hi => ?_⟩⟩
  · have y2 : (upd (S.2.1 7) r l) r = -1000000 := y
    rw [e7] at y2; exact absurd y2 hln
  · have hi2 : i < (va_up (S.1 8) r n) r := hi
    rw [e8] at hi2
    rw [cpy_in (Nat.zero_le _) (by omega)]
    show (0 : Int32) = zf (S.2.1 9) r n (40 * r + i)
    rw [zf, if_pos ⟨by omega, by omega⟩]
theorem rw_rowo {g : gG} {u : Nat → Nat} {S : RS} {r r2 n : Nat} {l : Int32} {ws : va_W} (hI : RI S) (hr : r2 < 8) (hne : r2 ≠ r) (hn : n ≤ 40) (h : rowR g u S r2 ws) : rowR g u (va_up S.1 8 (va_up (S.1 8) r n), va_up (va_up S.2.1 7 (upd (S.2.1 7) r l)) 9 (zf (S.2.1 9) r n), va_up S.2.2.1 6 0, S.2.2.2) r2 ws := by
  have h40 : S.1 8 r2 ≤ 40 := hI.2.2.2.2.2.2.2.1 r2 hr
  refine rowR_ext (if_neg hne) (va_up_n hne) (fun i hi => ?_) h
  show zf (S.2.1 9) r n (40 * r2 + i) = _
  rw [zf, if_neg (by omega)]
theorem rw_set {g : gG} {u : Nat → Nat} {S : RS} {r i : Nat} {w l z : Int32} {it : Nat → Int32} (hn : S.2.1 7 r ≠ -1000000) (h2 : S.2.1 7 r ≠ -1000000 → l = S.2.1 7 r ∧ z = nI (S.1 8 r) ∧ ∀ i, i < S.1 8 r → it i = S.2.1 9 (40 * r + i)) : rowR g u (S.1, va_up S.2.1 9 (upd (S.2.1 9) (40 * r + i) w), va_up S.2.2.1 6 0, S.2.2.2) r (rwW g u r l z (upd it i w)) := by
  obtain ⟨a, b, c⟩ := h2 hn
  refine ⟨l, z, _, rfl, fun y => absurd y hn, fun _ => ⟨a, b, fun k hk => ?_⟩⟩
  show upd it i w k = upd (S.2.1 9) (40 * r + i) w (40 * r + k)
  simp only [upd]
  by_cases e : k = i
  · rw [if_pos e, if_pos (by omega)]
  · rw [if_neg e, if_neg (by omega)]; exact c k hk
theorem rw_seto {g : gG} {u : Nat → Nat} {S : RS} {r r2 i : Nat} {w : Int32} {ws : va_W} (hI : RI S) (hr : r2 < 8) (hne : r2 ≠ r) (hi : i < 40) (h : rowR g u S r2 ws) : rowR g u (S.1, va_up S.2.1 9 (upd (S.2.1 9) (40 * r + i) w), va_up S.2.2.1 6 0, S.2.2.2) r2 ws := by
  have h40 : S.1 8 r2 ≤ 40 := hI.2.2.2.2.2.2.2.1 r2 hr
  refine rowR_ext (S := S) rfl rfl (fun k hk => ?_) h
  show upd (S.2.1 9) (40 * r + i) w (40 * r2 + k) = _
  exact if_neg (by omega)
theorem nn_iff {x : Int32} : 0 ≤ x ↔ 0 ≤ x.toInt := by rw [Int32.le_iff_toInt_le]; exact Iff.rfl
theorem nn_neg {x : Int32} (h : ¬ 0 ≤ x) : x < 0 := by rw [nn_iff] at h; rw [i32_neg]; omega
theorem nn_nneg {x : Int32} (h : 0 ≤ x) : ¬ x < 0 := by rw [nn_iff] at h; rw [i32_neg]; omega
set_option maxRecDepth 20000 in
theorem k_row (g : gG) (u : Nat → Nat) (S : RS) (ws : va_W) (r : Int32) (lane : Int32) (n : Int32) (hI : RI S) (hC : cR g u S ws) : gCon g mX5_row 2 0 0 [.ref (u 0), .int r, .int lane, .int n] ws (fun rv ws' => rv = some (.int (pM_row r lane n S).1) ∧ cR g u (pM_row r lane n S).2 ws') := by
  refine gCon.of (lv := [(0, .ref (u 0)), (1, .int r), (2, .int lane), (3, .int n)]) (by decide) (gLe rfl) rfl ?_
  obtain ⟨so, xi, xj, xe, xf, xg, rf, af, mf, T, kl, ks, ke, kt, kv, kf, yT, s0, s1, s2, D0, D1, D2, R4, A4, I4, np, Pl, pL, Sr, hA, hN, hR, hW, hAc, hM, hS, hZ1, hZ2, hp⟩ := hC
  obtain ⟨rfl, rfl, rfl, rfl, rfl, rfl, rfl⟩ := hN
  have hxi := hAc.1
  have hxj := hI.2.1
  have hkl := hI.2.2.2.2.1
  have hxe := hI.2.2.2.2.2.2.2.2.1
  refine j_perm _ hp ?_
  refine j_ws ([((u 0), .inr (5, [.ref (u 1), .ref (u 5), .ref (u 10), .ref (u 14), .ref (u 18), .ref (u 2), .int (nI xi), .int (nI (S.2.2.1 2)), .ref (u 3), va_rf so, .ref (u 4), .int (nI (S.2.2.1 11)), .int (nI (S.2.2.1 5)), .int (nI (S.2.2.1 6))])), ((u 1), .inl (g.2.1 3, 8, .inr (.inr (.inr (.inr rf))))), ((u 2), .inl (g.2.1 4, 24, .inr (.inr (.inr (.inr af))))), ((u 3), .inl (g.2.1 4, 2, .inr (.inr (.inr (.inr mf))))), ((u 4), .inl (g.2.1 0, 16, .inl (nF (S.1 10)))), ((u 5), .inr (4, [.ref (u 6), .int (nI (S.2.2.1 4)), .int (nI ks), .int (nI ke), .int (nI kt), .int (nI kv), .int (nI kf)])), ((u 6), .inl (g.2.1 1, 400, .inl (sgF (S.1 3)))), ((u 10), .inr (3, [.ref s0, .int (nI (D0 0 0)), .ref (u 11), .ref (u 12), .ref (u 13)])), ((u 11), .inl (g.2.1 0, 5, .inl (nF (D0 1)))), ((u 12), .inl (g.2.1 0, 6, .inl (nF (D0 2)))), ((u 13), .inl (g.2.1 0, 6, .inl (nF (D0 3)))), ((u 14), .inr (3, [.ref s1, .int (nI (D1 0 0)), .ref (u 15), .ref (u 16), .ref (u 17)])), ((u 15), .inl (g.2.1 0, 5, .inl (nF (D1 1)))), ((u 16), .inl (g.2.1 0, 6, .inl (nF (D1 2)))), ((u 17), .inl (g.2.1 0, 6, .inl (nF (D1 3)))), ((u 18), .inr (3, [.ref s2, .int (nI (D2 0 0)), .ref (u 19), .ref (u 20), .ref (u 21)])), ((u 19), .inl (g.2.1 0, 5, .inl (nF (D2 1)))), ((u 20), .inl (g.2.1 0, 6, .inl (nF (D2 2)))), ((u 21), .inl (g.2.1 0, 6, .inl (nF (D2 3))))] ++ (tlW R4 A4 I4 np Pl Sr)) rfl ?_
  refine j_iload_n 1 dX5_row_0 rfl 1 rfl ?_
  refine j_callSE (rest := []) 4 (c_X5_isRow g r ) [.int (gB (inR r 8))] dX5_row_1 rfl cs_X5_72 rfl rfl (gLe rfl) (gLe rfl) (gLe rfl) (gLe rfl) rfl ?_
  refine j_if_eqB 7 22 dX5_row_4 rfl rfl (fun h4 => ?_) (fun h4 => ?_)
  ·
    refine j_ldc (v := (-1000001 : Int32)) 24 dX5_row_22 rfl wd_1_212 ?_
    have ze : (pM_row r lane n S) = ((-1000001 : Int32), S) := by
      first
        | exact if_pos (Or.inl h4)
        | exact if_pos (Or.inr (Or.inl fun y => (lane_iff.mpr y).1 h8))
        | exact if_pos (Or.inr (Or.inl fun y => (lane_iff.mpr y).2 h13))
        | exact if_pos (Or.inr (Or.inr (by rw [Int32.lt_iff_toInt_lt]; rw [Int32.le_iff_toInt_le] at h19; omega)))
    refine j_iretI dX5_row_24 rfl ⟨gLe rfl, gLe rfl, ?_⟩
    rw [ze]
    exact ⟨rfl, so, xi, (S.2.2.1 2), (S.2.2.1 11), (S.2.2.1 5), (S.2.2.1 6), rf, af, mf, (S.1 10), (S.2.2.1 4), ks, ke, kt, kv, kf, (S.1 3), s0, s1, s2, D0, D1, D2, R4, A4, I4, np, Pl, pL, Sr, hA, ⟨rfl, rfl, rfl, rfl, rfl, rfl, rfl⟩, hR, hW, hAc, hM, hS, hZ1, hZ2, (List.Perm.refl _)⟩
  ·
    have hr8 := h4
    refine j_iload_n 8 dX5_row_7 rfl 2 rfl ?_
    refine j_if_lt 11 22 dX5_row_8 rfl rfl (fun h8 => ?_) (fun h8 => ?_)
    ·
      refine j_ldc (v := (-1000001 : Int32)) 24 dX5_row_22 rfl wd_1_212 ?_
      have ze : (pM_row r lane n S) = ((-1000001 : Int32), S) := by
        first
          | exact if_pos (Or.inl h4)
          | exact if_pos (Or.inr (Or.inl fun y => (lane_iff.mpr y).1 h8))
          | exact if_pos (Or.inr (Or.inl fun y => (lane_iff.mpr y).2 h13))
          | exact if_pos (Or.inr (Or.inr (by rw [Int32.lt_iff_toInt_lt]; rw [Int32.le_iff_toInt_le] at h19; omega)))
      refine j_iretI dX5_row_24 rfl ⟨gLe rfl, gLe rfl, ?_⟩
      rw [ze]
      exact ⟨rfl, so, xi, (S.2.2.1 2), (S.2.2.1 11), (S.2.2.1 5), (S.2.2.1 6), rf, af, mf, (S.1 10), (S.2.2.1 4), ks, ke, kt, kv, kf, (S.1 3), s0, s1, s2, D0, D1, D2, R4, A4, I4, np, Pl, pL, Sr, hA, ⟨rfl, rfl, rfl, rfl, rfl, rfl, rfl⟩, hR, hW, hAc, hM, hS, hZ1, hZ2, (List.Perm.refl _)⟩
    ·
      refine j_iload_n 12 dX5_row_11 rfl 2 rfl ?_
      refine j_iconst (v := (2 : Int32)) 13 dX5_row_12 rfl (by decide) ?_
      refine j_icmp_gt 16 22 dX5_row_13 rfl rfl (fun h13 => ?_) (fun h13 => ?_)
      ·
        refine j_ldc (v := (-1000001 : Int32)) 24 dX5_row_22 rfl wd_1_212 ?_
        have ze : (pM_row r lane n S) = ((-1000001 : Int32), S) := by
          first
            | exact if_pos (Or.inl h4)
            | exact if_pos (Or.inr (Or.inl fun y => (lane_iff.mpr y).1 h8))
            | exact if_pos (Or.inr (Or.inl fun y => (lane_iff.mpr y).2 h13))
            | exact if_pos (Or.inr (Or.inr (by rw [Int32.lt_iff_toInt_lt]; rw [Int32.le_iff_toInt_le] at h19; omega)))
        refine j_iretI dX5_row_24 rfl ⟨gLe rfl, gLe rfl, ?_⟩
        rw [ze]
        exact ⟨rfl, so, xi, (S.2.2.1 2), (S.2.2.1 11), (S.2.2.1 5), (S.2.2.1 6), rf, af, mf, (S.1 10), (S.2.2.1 4), ks, ke, kt, kv, kf, (S.1 3), s0, s1, s2, D0, D1, D2, R4, A4, I4, np, Pl, pL, Sr, hA, ⟨rfl, rfl, rfl, rfl, rfl, rfl, rfl⟩, hR, hW, hAc, hM, hS, hZ1, hZ2, (List.Perm.refl _)⟩
      ·
        refine j_iload_n 17 dX5_row_16 rfl 3 rfl ?_
        refine j_bipush (v := (40 : Int32)) 19 dX5_row_17 rfl (by decide) ?_
        refine j_icmp_le 22 25 dX5_row_19 rfl rfl (fun h19 => ?_) (fun h19 => ?_)
        ·
          have hln : inR lane 3 := lane_iff.mp ⟨h8, h13⟩
          refine j_iload_n 26 dX5_row_25 rfl 3 rfl ?_
          refine j_if_ge 29 35 dX5_row_26 rfl rfl (fun h26 => ?_) (fun h26 => ?_)
          ·
            have hn0 := nn_iff.mp h26
            have hn40 : n.toInt ≤ 40 := by rw [Int32.le_iff_toInt_le, show (40 : Int32).toInt = 40 by decide] at h19; exact h19
            obtain ⟨zn, hzn, rfl⟩ := inR_of (n := 41) (x := n) ⟨hn0, by omega⟩
            obtain ⟨zr, hzr, rfl⟩ := inR_of h4
            obtain ⟨rl, rz, ri, hre, hr1, hr2⟩ := hR zr hzr
            obtain ⟨hz, hzn, hfd⟩ := row_z hI hzr hr1 hr2
            refine j_perm _ (opn (tl_row hzr)) ?_
            rw [hre]
            refine j_ws ([((u 0), .inr (5, [.ref (u 1), .ref (u 5), .ref (u 10), .ref (u 14), .ref (u 18), .ref (u 2), .int (nI xi), .int (nI (S.2.2.1 2)), .ref (u 3), va_rf so, .ref (u 4), .int (nI (S.2.2.1 11)), .int (nI (S.2.2.1 5)), .int (nI (S.2.2.1 6))])), ((u 1), .inl (g.2.1 3, 8, .inr (.inr (.inr (.inr rf))))), ((u 2), .inl (g.2.1 4, 24, .inr (.inr (.inr (.inr af))))), ((u 3), .inl (g.2.1 4, 2, .inr (.inr (.inr (.inr mf))))), ((u 4), .inl (g.2.1 0, 16, .inl (nF (S.1 10)))), ((u 5), .inr (4, [.ref (u 6), .int (nI (S.2.2.1 4)), .int (nI ks), .int (nI ke), .int (nI kt), .int (nI kv), .int (nI kf)])), ((u 6), .inl (g.2.1 1, 400, .inl (sgF (S.1 3)))), ((u 10), .inr (3, [.ref s0, .int (nI (D0 0 0)), .ref (u 11), .ref (u 12), .ref (u 13)])), ((u 11), .inl (g.2.1 0, 5, .inl (nF (D0 1)))), ((u 12), .inl (g.2.1 0, 6, .inl (nF (D0 2)))), ((u 13), .inl (g.2.1 0, 6, .inl (nF (D0 3)))), ((u 14), .inr (3, [.ref s1, .int (nI (D1 0 0)), .ref (u 15), .ref (u 16), .ref (u 17)])), ((u 15), .inl (g.2.1 0, 5, .inl (nF (D1 1)))), ((u 16), .inl (g.2.1 0, 6, .inl (nF (D1 2)))), ((u 17), .inl (g.2.1 0, 6, .inl (nF (D1 3)))), ((u 18), .inr (3, [.ref s2, .int (nI (D2 0 0)), .ref (u 19), .ref (u 20), .ref (u 21)])), ((u 19), .inl (g.2.1 0, 5, .inl (nF (D2 1)))), ((u 20), .inl (g.2.1 0, 6, .inl (nF (D2 2)))), ((u 21), .inl (g.2.1 0, 6, .inl (nF (D2 3)))), ((u (30 + 2 * zr)), .inr (1, [.ref (u (31 + 2 * zr)), .int rl, .int rz])), ((u (31 + 2 * zr)), .inl (g.2.1 0, 40, .inl ri))] ++ (tlW (va_up R4 zr []) A4 I4 np Pl Sr)) rfl ?_
            refine j_aload_n 36 dX5_row_35 rfl 0 rfl ?_
            refine j_getf 39 0 dX5_row_36 rfl fd_X5_11 rfl rfl ?_
            refine j_iload_n 40 dX5_row_39 rfl 1 rfl ?_
            refine j_aaldR (b := (u (30 + 2 * zr))) 41 1 dX5_row_40 rfl rfl (vp_in_nI hzr (by decide)) (by rw [nI_clamp (by omega)]; exact hA.1 zr hzr) ?_
            refine j_iload_n 42 dX5_row_41 rfl 2 rfl ?_
            refine j_iload_n 43 dX5_row_42 rfl 3 rfl ?_
            refine j_callV0 (rest := []) 46 [19, 20] (c_X1_begin g (u (30 + 2 * zr)) (u (31 + 2 * zr)) rl rz ri lane (nI zn) ) [] ([((u 0), .inr (5, [.ref (u 1), .ref (u 5), .ref (u 10), .ref (u 14), .ref (u 18), .ref (u 2), .int (nI xi), .int (nI (S.2.2.1 2)), .ref (u 3), va_rf so, .ref (u 4), .int (nI (S.2.2.1 11)), .int (nI (S.2.2.1 5)), .int (nI (S.2.2.1 6))])), ((u 1), .inl (g.2.1 3, 8, .inr (.inr (.inr (.inr rf))))), ((u 2), .inl (g.2.1 4, 24, .inr (.inr (.inr (.inr af))))), ((u 3), .inl (g.2.1 4, 2, .inr (.inr (.inr (.inr mf))))), ((u 4), .inl (g.2.1 0, 16, .inl (nF (S.1 10)))), ((u 5), .inr (4, [.ref (u 6), .int (nI (S.2.2.1 4)), .int (nI ks), .int (nI ke), .int (nI kt), .int (nI kv), .int (nI kf)])), ((u 6), .inl (g.2.1 1, 400, .inl (sgF (S.1 3)))), ((u 10), .inr (3, [.ref s0, .int (nI (D0 0 0)), .ref (u 11), .ref (u 12), .ref (u 13)])), ((u 11), .inl (g.2.1 0, 5, .inl (nF (D0 1)))), ((u 12), .inl (g.2.1 0, 6, .inl (nF (D0 2)))), ((u 13), .inl (g.2.1 0, 6, .inl (nF (D0 3)))), ((u 14), .inr (3, [.ref s1, .int (nI (D1 0 0)), .ref (u 15), .ref (u 16), .ref (u 17)])), ((u 15), .inl (g.2.1 0, 5, .inl (nF (D1 1)))), ((u 16), .inl (g.2.1 0, 6, .inl (nF (D1 2)))), ((u 17), .inl (g.2.1 0, 6, .inl (nF (D1 3)))), ((u 18), .inr (3, [.ref s2, .int (nI (D2 0 0)), .ref (u 19), .ref (u 20), .ref (u 21)])), ((u 19), .inl (g.2.1 0, 5, .inl (nF (D2 1)))), ((u 20), .inl (g.2.1 0, 6, .inl (nF (D2 2)))), ((u 21), .inl (g.2.1 0, 6, .inl (nF (D2 3)))), ((u (30 + 2 * zr)), .inr (1, [.ref (u (31 + 2 * zr)), .int lane, .int (nI zn)])), ((u (31 + 2 * zr)), .inl (g.2.1 0, 40, .inl (va_cpy (fun _ => 0) ri 0 0 40)))] ++ (tlW (va_up R4 zr []) A4 I4 np Pl Sr)) dX5_row_43 rfl cv_X5_81 rfl rfl rfl rfl 0 rfl rfl (gLe rfl) (gLe rfl) (gLe rfl) (gLe rfl) (gLe rfl) rfl (List.append_nil _) ?_
            refine j_aload_n 47 dX5_row_46 rfl 0 rfl ?_
            refine j_iload_n 48 dX5_row_47 rfl 3 rfl ?_
            refine j_callV0 (rest := []) 51 [0] (c_X5_foundNothing g (u 0) (u 1) (u 5) (u 10) (u 14) (u 18) (u 2) xi (S.2.2.1 2) (u 3) so (u 4) (S.2.2.1 11) (S.2.2.1 5) (S.2.2.1 6) (nI zn) ) [.int (nI zn)] ([((u 0), .inr (5, [.ref (u 1), .ref (u 5), .ref (u 10), .ref (u 14), .ref (u 18), .ref (u 2), .int (nI xi), .int (nI (S.2.2.1 2)), .ref (u 3), va_rf so, .ref (u 4), .int (nI (S.2.2.1 11)), .int (nI (S.2.2.1 5)), .int (0 : Int32)])), ((u 1), .inl (g.2.1 3, 8, .inr (.inr (.inr (.inr rf))))), ((u 2), .inl (g.2.1 4, 24, .inr (.inr (.inr (.inr af))))), ((u 3), .inl (g.2.1 4, 2, .inr (.inr (.inr (.inr mf))))), ((u 4), .inl (g.2.1 0, 16, .inl (nF (S.1 10)))), ((u 5), .inr (4, [.ref (u 6), .int (nI (S.2.2.1 4)), .int (nI ks), .int (nI ke), .int (nI kt), .int (nI kv), .int (nI kf)])), ((u 6), .inl (g.2.1 1, 400, .inl (sgF (S.1 3)))), ((u 10), .inr (3, [.ref s0, .int (nI (D0 0 0)), .ref (u 11), .ref (u 12), .ref (u 13)])), ((u 11), .inl (g.2.1 0, 5, .inl (nF (D0 1)))), ((u 12), .inl (g.2.1 0, 6, .inl (nF (D0 2)))), ((u 13), .inl (g.2.1 0, 6, .inl (nF (D0 3)))), ((u 14), .inr (3, [.ref s1, .int (nI (D1 0 0)), .ref (u 15), .ref (u 16), .ref (u 17)])), ((u 15), .inl (g.2.1 0, 5, .inl (nF (D1 1)))), ((u 16), .inl (g.2.1 0, 6, .inl (nF (D1 2)))), ((u 17), .inl (g.2.1 0, 6, .inl (nF (D1 3)))), ((u 18), .inr (3, [.ref s2, .int (nI (D2 0 0)), .ref (u 19), .ref (u 20), .ref (u 21)])), ((u 19), .inl (g.2.1 0, 5, .inl (nF (D2 1)))), ((u 20), .inl (g.2.1 0, 6, .inl (nF (D2 2)))), ((u 21), .inl (g.2.1 0, 6, .inl (nF (D2 3)))), ((u (30 + 2 * zr)), .inr (1, [.ref (u (31 + 2 * zr)), .int lane, .int (nI zn)])), ((u (31 + 2 * zr)), .inl (g.2.1 0, 40, .inl (va_cpy (fun _ => 0) ri 0 0 40)))] ++ (tlW (va_up R4 zr []) A4 I4 np Pl Sr)) dX5_row_48 rfl cv_X5_85 rfl rfl rfl rfl 0 rfl rfl (gLe rfl) (gLe rfl) (gLe rfl) (gLe rfl) (gLe rfl) rfl (List.append_nil _) ?_
            have ze : (pM_row (nI zr) lane (nI zn) S) = ((nI zn), (va_up S.1 8 (va_up (S.1 8) zr zn), va_up (va_up S.2.1 7 (upd (S.2.1 7) zr lane)) 9 (zf (S.2.1 9) zr zn), va_up S.2.2.1 6 0, S.2.2.2)) := by
              rw [pM_row, if_neg (fun y => y.elim (fun y => y h4) (fun y => y.elim (fun y => y hln) (fun y => by rw [Int32.lt_iff_toInt_lt] at y; rw [Int32.le_iff_toInt_le] at h19; omega))), if_neg (nn_nneg h26), cl_nI (a := zr) (by omega), cl_nI (a := zn) (by omega)]
            refine j_iretI dX5_row_51 rfl ⟨gLe rfl, gLe rfl, ?_⟩
            rw [ze]
            exact ⟨rfl, so, xi, (S.2.2.1 2), (S.2.2.1 11), (S.2.2.1 5), 0, rf, af, mf, (S.1 10), (S.2.2.1 4), ks, ke, kt, kv, kf, (S.1 3), s0, s1, s2, D0, D1, D2, (va_up R4 zr (rwW g u zr lane (nI zn) (va_cpy (fun _ => 0) ri 0 0 40))), A4, I4, np, Pl, pL, Sr, hA, ⟨rfl, rfl, rfl, rfl, rfl, rfl, rfl⟩, (rows_up hR (rw_row hzr (by omega) hln) (fun r hr hne => rw_rowo hI hr hne (by omega) (hR r hr))), hW, hAc, hM, hS, hZ1, hZ2, (cls (E := (mnW g u so xi (S.2.2.1 2) (S.2.2.1 11) (S.2.2.1 5) 0 rf af mf (S.1 10) (S.2.2.1 4) ks ke kt kv kf (S.1 3) s0 s1 s2 D0 D1 D2)) (X := (rwW g u zr lane (nI zn) (va_cpy (fun _ => 0) ri 0 0 40))) (T' := (tlW (va_up R4 zr []) A4 I4 np Pl Sr)) (T := (tlW (va_up R4 zr (rwW g u zr lane (nI zn) (va_cpy (fun _ => 0) ri 0 0 40))) A4 I4 np Pl Sr)) (tl_row' (rwW g u zr lane (nI zn) (va_cpy (fun _ => 0) ri 0 0 40)) hzr))⟩
          ·
            refine j_aload_n 30 dX5_row_29 rfl 0 rfl ?_
            refine j_iconst (v := (4 : Int32)) 31 dX5_row_30 rfl (by decide) ?_
            refine j_callV0 (rest := []) 34 [0] (c_X5_found g (u 0) (u 1) (u 5) (u 10) (u 14) (u 18) (u 2) xi (S.2.2.1 2) (u 3) so (u 4) (S.2.2.1 11) (S.2.2.1 5) (S.2.2.1 6) 4 ) [.int ((-1000010 : Int32) - nI 4)] ([((u 0), .inr (5, [.ref (u 1), .ref (u 5), .ref (u 10), .ref (u 14), .ref (u 18), .ref (u 2), .int (nI xi), .int (nI (S.2.2.1 2)), .ref (u 3), va_rf so, .ref (u 4), .int (nI (S.2.2.1 11)), .int (nI (S.2.2.1 5)), .int (nI 4)])), ((u 1), .inl (g.2.1 3, 8, .inr (.inr (.inr (.inr rf))))), ((u 2), .inl (g.2.1 4, 24, .inr (.inr (.inr (.inr af))))), ((u 3), .inl (g.2.1 4, 2, .inr (.inr (.inr (.inr mf))))), ((u 4), .inl (g.2.1 0, 16, .inl (nF (S.1 10)))), ((u 5), .inr (4, [.ref (u 6), .int (nI (S.2.2.1 4)), .int (nI ks), .int (nI ke), .int (nI kt), .int (nI kv), .int (nI kf)])), ((u 6), .inl (g.2.1 1, 400, .inl (sgF (S.1 3)))), ((u 10), .inr (3, [.ref s0, .int (nI (D0 0 0)), .ref (u 11), .ref (u 12), .ref (u 13)])), ((u 11), .inl (g.2.1 0, 5, .inl (nF (D0 1)))), ((u 12), .inl (g.2.1 0, 6, .inl (nF (D0 2)))), ((u 13), .inl (g.2.1 0, 6, .inl (nF (D0 3)))), ((u 14), .inr (3, [.ref s1, .int (nI (D1 0 0)), .ref (u 15), .ref (u 16), .ref (u 17)])), ((u 15), .inl (g.2.1 0, 5, .inl (nF (D1 1)))), ((u 16), .inl (g.2.1 0, 6, .inl (nF (D1 2)))), ((u 17), .inl (g.2.1 0, 6, .inl (nF (D1 3)))), ((u 18), .inr (3, [.ref s2, .int (nI (D2 0 0)), .ref (u 19), .ref (u 20), .ref (u 21)])), ((u 19), .inl (g.2.1 0, 5, .inl (nF (D2 1)))), ((u 20), .inl (g.2.1 0, 6, .inl (nF (D2 2)))), ((u 21), .inl (g.2.1 0, 6, .inl (nF (D2 3))))] ++ (tlW R4 A4 I4 np Pl Sr)) dX5_row_31 rfl cv_X5_77 rfl rfl rfl rfl 0 rfl rfl (gLe rfl) (gLe rfl) (gLe rfl) (gLe rfl) (gLe rfl) rfl (List.append_nil _) ?_
            have ze : (pM_row r lane n S) = (((-1000010 : Int32) - nI 4), stN S 4) := by
              rw [pM_row, if_neg (fun y => y.elim (fun y => y h4) (fun y => y.elim (fun y => y hln) (fun y => by rw [Int32.lt_iff_toInt_lt] at y; rw [Int32.le_iff_toInt_le] at h19; omega))), if_pos (nn_neg h26)]
              rfl
            refine j_iretI dX5_row_34 rfl ⟨gLe rfl, gLe rfl, ?_⟩
            rw [ze]
            exact ⟨rfl, so, xi, (S.2.2.1 2), (S.2.2.1 11), (S.2.2.1 5), 4, rf, af, mf, (S.1 10), (S.2.2.1 4), ks, ke, kt, kv, kf, (S.1 3), s0, s1, s2, D0, D1, D2, R4, A4, I4, np, Pl, pL, Sr, hA, ⟨rfl, rfl, rfl, rfl, rfl, rfl, rfl⟩, hR, hW, hAc, hM, hS, hZ1, hZ2, (List.Perm.refl _)⟩
        ·
          refine j_ldc (v := (-1000001 : Int32)) 24 dX5_row_22 rfl wd_1_212 ?_
          have ze : (pM_row r lane n S) = ((-1000001 : Int32), S) := by
            first
              | exact if_pos (Or.inl h4)
              | exact if_pos (Or.inr (Or.inl fun y => (lane_iff.mpr y).1 h8))
              | exact if_pos (Or.inr (Or.inl fun y => (lane_iff.mpr y).2 h13))
              | exact if_pos (Or.inr (Or.inr (by rw [Int32.lt_iff_toInt_lt]; rw [Int32.le_iff_toInt_le] at h19; omega)))
          refine j_iretI dX5_row_24 rfl ⟨gLe rfl, gLe rfl, ?_⟩
          rw [ze]
          exact ⟨rfl, so, xi, (S.2.2.1 2), (S.2.2.1 11), (S.2.2.1 5), (S.2.2.1 6), rf, af, mf, (S.1 10), (S.2.2.1 4), ks, ke, kt, kv, kf, (S.1 3), s0, s1, s2, D0, D1, D2, R4, A4, I4, np, Pl, pL, Sr, hA, ⟨rfl, rfl, rfl, rfl, rfl, rfl, rfl⟩, hR, hW, hAc, hM, hS, hZ1, hZ2, (List.Perm.refl _)⟩
