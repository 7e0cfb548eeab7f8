set_option maxRecDepth 20000 in
theorem c_X2_from (g : gG) (ea : Nat) (sa : Nat) (el : Option Nat) (es : Nat) (em : Nat) (en : Nat) (ec : Nat) (ep : Nat) (eb : Nat) (ef : Nat) (zeC : Nat → Nat) (zeP : Nat → Int32) (zeB : Nat → Nat) (zeF : Nat → Int32) (pt : Nat) (sb : Nat) (sc : Nat) (sd : Nat) (yD : Nat → Nat → Nat) (ta : Nat) (p0 : Nat) (tb : Nat) (tc : Nat) (td : Nat) (yE : Nat → Nat → Nat) (p1 : Nat) (p2 : Nat) (p3 : Nat) (p4 : Nat) (p5 : Nat) (p6 : Nat) (yL : Nat → Nat → Nat)   (hP : okP (plP yL)) (hs : yE 0 0 < 2 ^ yL 0 1) (hu : ∀ j, j < 5 → yE 1 j < 2000000000) (hes : es < 7776) (hS : el = some p0 → es = numA (plP yL) (yE 0 0) (yE 1) → srI (plP yL) (numA (plP yL) (yE 0 0) (yE 1)) (8 * en) en zeC zeP zeF) : gCon g mX2_from 4 0 0 [.ref ea, .ref ta] [(ea, .inr (2, [.ref sa, va_rf el, .int (nI es), .int (nI em), .int (nI en), .ref ec, .ref ep, .ref eb, .ref ef])), (ec, .inl (g.2.1 0, 7776, .inl (nF zeC))), (ep, .inl (g.2.1 0, 7776, .inl zeP)), (eb, .inl (g.2.1 1, 7776, .inl (nF zeB))), (ef, .inl (g.2.1 0, 32, .inl zeF)), (sa, .inr (3, [.ref pt, .int (nI (yD 0 0)), .ref sb, .ref sc, .ref sd])), (sb, .inl (g.2.1 0, 5, .inl (nF (yD 1)))), (sc, .inl (g.2.1 0, 6, .inl (nF (yD 2)))), (sd, .inl (g.2.1 0, 6, .inl (nF (yD 3)))), (ta, .inr (3, [.ref p0, .int (nI (yE 0 0)), .ref tb, .ref tc, .ref td])), (tb, .inl (g.2.1 0, 5, .inl (nF (yE 1)))), (tc, .inl (g.2.1 0, 6, .inl (nF (yE 2)))), (td, .inl (g.2.1 0, 6, .inl (nF (yE 3)))), (p0, .inr (0, [.int (nI (yL 0 0)), .int (nI (yL 0 1)), .int (nI (yL 0 2)), .ref p1, .ref p2, .ref p3, .ref p4, .ref p5, .ref p6])), (p1, .inl (g.2.1 0, 5, .inl (nF (yL 1)))), (p2, .inl (g.2.1 0, 5, .inl (nF (yL 2)))), (p3, .inl (g.2.1 0, 5, .inl (nF (yL 3)))), (p4, .inl (g.2.1 0, 5, .inl (nF (yL 4)))), (p5, .inl (g.2.1 0, 8, .inl (nF (yL 5)))), (p6, .inl (g.2.1 0, 8, .inl (nF (yL 6))))] (fun rv ws' => ∃ (zD : Nat → Nat → Nat) (zn : Nat) (zC : Nat → Nat) (zP : Nat → Int32) (zB : Nat → Nat) (zF : Nat → Int32) (zm : Nat) (zt : Nat), (srI (plP yL) (numA (plP yL) (yE 0 0) (yE 1)) (8 * zn) zn zC zP zF) ∧ rv = none ∧ ws' = [(ea, .inr (2, [.ref sa, .ref p0, .int (nI (numA (plP yL) (yE 0 0) (yE 1))), .int (nI zm), .int (nI zn), .ref ec, .ref ep, .ref eb, .ref ef])), (ec, .inl (g.2.1 0, 7776, .inl (nF zC))), (ep, .inl (g.2.1 0, 7776, .inl zP)), (eb, .inl (g.2.1 1, 7776, .inl (nF zB))), (ef, .inl (g.2.1 0, 32, .inl zF)), (sa, .inr (3, [.ref zt, .int (nI (zD 0 0)), .ref sb, .ref sc, .ref sd])), (sb, .inl (g.2.1 0, 5, .inl (nF (zD 1)))), (sc, .inl (g.2.1 0, 6, .inl (nF (zD 2)))), (sd, .inl (g.2.1 0, 6, .inl (nF (zD 3)))), (ta, .inr (3, [.ref p0, .int (nI (yE 0 0)), .ref tb, .ref tc, .ref td])), (tb, .inl (g.2.1 0, 5, .inl (nF (yE 1)))), (tc, .inl (g.2.1 0, 6, .inl (nF (yE 2)))), (td, .inl (g.2.1 0, 6, .inl (nF (yE 3)))), (p0, .inr (0, [.int (nI (yL 0 0)), .int (nI (yL 0 1)), .int (nI (yL 0 2)), .ref p1, .ref p2, .ref p3, .ref p4, .ref p5, .ref p6])), (p1, .inl (g.2.1 0, 5, .inl (nF (yL 1)))), (p2, .inl (g.2.1 0, 5, .inl (nF (yL 2)))), (p3, .inl (g.2.1 0, 5, .inl (nF (yL 3)))), (p4, .inl (g.2.1 0, 5, .inl (nF (yL 4)))), (p5, .inl (g.2.1 0, 8, .inl (nF (yL 5)))), (p6, .inl (g.2.1 0, 8, .inl (nF (yL 6))))]) := by
  refine gCon.of (lv := [(0, .ref ea), (1, .ref ta)]) (by decide) (gLe rfl) rfl ?_
  have h32 := p32 hP hs
  have hcd : numA (plP yL) (yE 0 0) (yE 1) < 7776 := numA_lt h32
  have hcm : (numA (plP yL) (yE 0 0) (yE 1)) % 32 < 2 ^ yL 0 1 := by rw [numA_mod h32]; exact hs
  have h8 : yL 0 2 ≤ 8 := hP.2.2.2.1
  refine j_aload_n 1 dX2_from_0 rfl 1 rfl ?_
  refine j_callV0 (rest := []) 4 [9, 10, 11, 12, 13, 14, 15, 16, 17, 18, 19] (c_X3_code g ta p0 tb tc td yE p1 p2 p3 p4 p5 p6 yL hP hu) [.int (nI (numA (plP yL) (yE 0 0) (yE 1)))] [(ea, .inr (2, [.ref sa, va_rf el, .int (nI es), .int (nI em), .int (nI en), .ref ec, .ref ep, .ref eb, .ref ef])), (ec, .inl (g.2.1 0, 7776, .inl (nF zeC))), (ep, .inl (g.2.1 0, 7776, .inl zeP)), (eb, .inl (g.2.1 1, 7776, .inl (nF zeB))), (ef, .inl (g.2.1 0, 32, .inl zeF)), (sa, .inr (3, [.ref pt, .int (nI (yD 0 0)), .ref sb, .ref sc, .ref sd])), (sb, .inl (g.2.1 0, 5, .inl (nF (yD 1)))), (sc, .inl (g.2.1 0, 6, .inl (nF (yD 2)))), (sd, .inl (g.2.1 0, 6, .inl (nF (yD 3)))), (ta, .inr (3, [.ref p0, .int (nI (yE 0 0)), .ref tb, .ref tc, .ref td])), (tb, .inl (g.2.1 0, 5, .inl (nF (yE 1)))), (tc, .inl (g.2.1 0, 6, .inl (nF (yE 2)))), (td, .inl (g.2.1 0, 6, .inl (nF (yE 3)))), (p0, .inr (0, [.int (nI (yL 0 0)), .int (nI (yL 0 1)), .int (nI (yL 0 2)), .ref p1, .ref p2, .ref p3, .ref p4, .ref p5, .ref p6])), (p1, .inl (g.2.1 0, 5, .inl (nF (yL 1)))), (p2, .inl (g.2.1 0, 5, .inl (nF (yL 2)))), (p3, .inl (g.2.1 0, 5, .inl (nF (yL 3)))), (p4, .inl (g.2.1 0, 5, .inl (nF (yL 4)))), (p5, .inl (g.2.1 0, 8, .inl (nF (yL 5)))), (p6, .inl (g.2.1 0, 8, .inl (nF (yL 6))))] dX2_from_1 rfl cv_X2_49 rfl rfl rfl rfl 0 rfl rfl (gLe rfl) (gLe rfl) (gLe rfl) (gLe rfl) (gLe rfl) rfl rfl ?_
  refine j_istore_n 5 [(2, .int (nI (numA (plP yL) (yE 0 0) (yE 1)))), (0, .ref ea), (1, .ref ta)] dX2_from_4 rfl (by decide) rfl ?_
  refine j_aload_n 6 dX2_from_5 rfl 1 rfl ?_
  refine j_getf 9 0 dX2_from_6 rfl fd_X2_9 rfl rfl ?_
  refine j_aload_n 10 dX2_from_9 rfl 2 rfl ?_
  refine j_getf 13 9 dX2_from_10 rfl fd_X2_41 rfl rfl ?_
  refine j_acmp_ne (x := el) (z := some p0) 16 25 dX2_from_13 rfl rfl (fun h13 => ?_) (fun h13 => ?_)
  ·
    refine j_aload_n 26 dX2_from_25 rfl 1 rfl ?_
    refine j_aload_n 27 dX2_from_26 rfl 2 rfl ?_
    refine j_getf 30 9 dX2_from_27 rfl fd_X2_41 rfl rfl ?_
    refine j_putf 33 0 [(ea, .inr (2, [.ref sa, .ref p0, .int (nI es), .int (nI em), .int (nI en), .ref ec, .ref ep, .ref eb, .ref ef])), (ec, .inl (g.2.1 0, 7776, .inl (nF zeC))), (ep, .inl (g.2.1 0, 7776, .inl zeP)), (eb, .inl (g.2.1 1, 7776, .inl (nF zeB))), (ef, .inl (g.2.1 0, 32, .inl zeF)), (sa, .inr (3, [.ref pt, .int (nI (yD 0 0)), .ref sb, .ref sc, .ref sd])), (sb, .inl (g.2.1 0, 5, .inl (nF (yD 1)))), (sc, .inl (g.2.1 0, 6, .inl (nF (yD 2)))), (sd, .inl (g.2.1 0, 6, .inl (nF (yD 3)))), (ta, .inr (3, [.ref p0, .int (nI (yE 0 0)), .ref tb, .ref tc, .ref td])), (tb, .inl (g.2.1 0, 5, .inl (nF (yE 1)))), (tc, .inl (g.2.1 0, 6, .inl (nF (yE 2)))), (td, .inl (g.2.1 0, 6, .inl (nF (yE 3)))), (p0, .inr (0, [.int (nI (yL 0 0)), .int (nI (yL 0 1)), .int (nI (yL 0 2)), .ref p1, .ref p2, .ref p3, .ref p4, .ref p5, .ref p6])), (p1, .inl (g.2.1 0, 5, .inl (nF (yL 1)))), (p2, .inl (g.2.1 0, 5, .inl (nF (yL 2)))), (p3, .inl (g.2.1 0, 5, .inl (nF (yL 3)))), (p4, .inl (g.2.1 0, 5, .inl (nF (yL 4)))), (p5, .inl (g.2.1 0, 8, .inl (nF (yL 5)))), (p6, .inl (g.2.1 0, 8, .inl (nF (yL 6))))] dX2_from_30 rfl fd_X2_9 rfl rfl rfl (gLe rfl) rfl ?_
    refine j_aload_n 34 dX2_from_33 rfl 1 rfl ?_
    refine j_iload_n 35 dX2_from_34 rfl 0 rfl ?_
    refine j_putf 38 0 [(ea, .inr (2, [.ref sa, .ref p0, .int (nI (numA (plP yL) (yE 0 0) (yE 1))), .int (nI em), .int (nI en), .ref ec, .ref ep, .ref eb, .ref ef])), (ec, .inl (g.2.1 0, 7776, .inl (nF zeC))), (ep, .inl (g.2.1 0, 7776, .inl zeP)), (eb, .inl (g.2.1 1, 7776, .inl (nF zeB))), (ef, .inl (g.2.1 0, 32, .inl zeF)), (sa, .inr (3, [.ref pt, .int (nI (yD 0 0)), .ref sb, .ref sc, .ref sd])), (sb, .inl (g.2.1 0, 5, .inl (nF (yD 1)))), (sc, .inl (g.2.1 0, 6, .inl (nF (yD 2)))), (sd, .inl (g.2.1 0, 6, .inl (nF (yD 3)))), (ta, .inr (3, [.ref p0, .int (nI (yE 0 0)), .ref tb, .ref tc, .ref td])), (tb, .inl (g.2.1 0, 5, .inl (nF (yE 1)))), (tc, .inl (g.2.1 0, 6, .inl (nF (yE 2)))), (td, .inl (g.2.1 0, 6, .inl (nF (yE 3)))), (p0, .inr (0, [.int (nI (yL 0 0)), .int (nI (yL 0 1)), .int (nI (yL 0 2)), .ref p1, .ref p2, .ref p3, .ref p4, .ref p5, .ref p6])), (p1, .inl (g.2.1 0, 5, .inl (nF (yL 1)))), (p2, .inl (g.2.1 0, 5, .inl (nF (yL 2)))), (p3, .inl (g.2.1 0, 5, .inl (nF (yL 3)))), (p4, .inl (g.2.1 0, 5, .inl (nF (yL 4)))), (p5, .inl (g.2.1 0, 8, .inl (nF (yL 5)))), (p6, .inl (g.2.1 0, 8, .inl (nF (yL 6))))] dX2_from_35 rfl fd_X2_15 rfl rfl rfl (gLe rfl) rfl ?_
    refine j_aload_n 39 dX2_from_38 rfl 1 rfl ?_
    refine j_aload_n 40 dX2_from_39 rfl 1 rfl ?_
    refine j_getf 43 0 dX2_from_40 rfl fd_X2_9 rfl rfl ?_
    refine j_callV0 (rest := [.ref ea]) 46 [13, 14, 15, 16, 17, 18, 19] (c_X0_firstOfKinds g p0 p1 p2 p3 p4 p5 p6 yL h8 (fun b hb => by have y := (okP_k hP hb).2; rw [plP_k] at y; omega)) [.int (nI ((fkD (yL 5) (yL 0 2)).2)), .ref ea] [(ea, .inr (2, [.ref sa, .ref p0, .int (nI (numA (plP yL) (yE 0 0) (yE 1))), .int (nI em), .int (nI en), .ref ec, .ref ep, .ref eb, .ref ef])), (ec, .inl (g.2.1 0, 7776, .inl (nF zeC))), (ep, .inl (g.2.1 0, 7776, .inl zeP)), (eb, .inl (g.2.1 1, 7776, .inl (nF zeB))), (ef, .inl (g.2.1 0, 32, .inl zeF)), (sa, .inr (3, [.ref pt, .int (nI (yD 0 0)), .ref sb, .ref sc, .ref sd])), (sb, .inl (g.2.1 0, 5, .inl (nF (yD 1)))), (sc, .inl (g.2.1 0, 6, .inl (nF (yD 2)))), (sd, .inl (g.2.1 0, 6, .inl (nF (yD 3)))), (ta, .inr (3, [.ref p0, .int (nI (yE 0 0)), .ref tb, .ref tc, .ref td])), (tb, .inl (g.2.1 0, 5, .inl (nF (yE 1)))), (tc, .inl (g.2.1 0, 6, .inl (nF (yE 2)))), (td, .inl (g.2.1 0, 6, .inl (nF (yE 3)))), (p0, .inr (0, [.int (nI (yL 0 0)), .int (nI (yL 0 1)), .int (nI (yL 0 2)), .ref p1, .ref p2, .ref p3, .ref p4, .ref p5, .ref p6])), (p1, .inl (g.2.1 0, 5, .inl (nF (yL 1)))), (p2, .inl (g.2.1 0, 5, .inl (nF (yL 2)))), (p3, .inl (g.2.1 0, 5, .inl (nF (yL 3)))), (p4, .inl (g.2.1 0, 5, .inl (nF (yL 4)))), (p5, .inl (g.2.1 0, 8, .inl (nF (yL 5)))), (p6, .inl (g.2.1 0, 8, .inl (nF (yL 6))))] dX2_from_43 rfl cv_X2_53 rfl rfl rfl rfl 0 rfl rfl (gLe rfl) (gLe rfl) (gLe rfl) (gLe rfl) (gLe rfl) rfl rfl ?_
    refine j_putf 49 0 [(ea, .inr (2, [.ref sa, .ref p0, .int (nI (numA (plP yL) (yE 0 0) (yE 1))), .int (nI ((fkD (yL 5) (yL 0 2)).2)), .int (nI en), .ref ec, .ref ep, .ref eb, .ref ef])), (ec, .inl (g.2.1 0, 7776, .inl (nF zeC))), (ep, .inl (g.2.1 0, 7776, .inl zeP)), (eb, .inl (g.2.1 1, 7776, .inl (nF zeB))), (ef, .inl (g.2.1 0, 32, .inl zeF)), (sa, .inr (3, [.ref pt, .int (nI (yD 0 0)), .ref sb, .ref sc, .ref sd])), (sb, .inl (g.2.1 0, 5, .inl (nF (yD 1)))), (sc, .inl (g.2.1 0, 6, .inl (nF (yD 2)))), (sd, .inl (g.2.1 0, 6, .inl (nF (yD 3)))), (ta, .inr (3, [.ref p0, .int (nI (yE 0 0)), .ref tb, .ref tc, .ref td])), (tb, .inl (g.2.1 0, 5, .inl (nF (yE 1)))), (tc, .inl (g.2.1 0, 6, .inl (nF (yE 2)))), (td, .inl (g.2.1 0, 6, .inl (nF (yE 3)))), (p0, .inr (0, [.int (nI (yL 0 0)), .int (nI (yL 0 1)), .int (nI (yL 0 2)), .ref p1, .ref p2, .ref p3, .ref p4, .ref p5, .ref p6])), (p1, .inl (g.2.1 0, 5, .inl (nF (yL 1)))), (p2, .inl (g.2.1 0, 5, .inl (nF (yL 2)))), (p3, .inl (g.2.1 0, 5, .inl (nF (yL 3)))), (p4, .inl (g.2.1 0, 5, .inl (nF (yL 4)))), (p5, .inl (g.2.1 0, 8, .inl (nF (yL 5)))), (p6, .inl (g.2.1 0, 8, .inl (nF (yL 6))))] dX2_from_46 rfl fd_X2_19 rfl rfl rfl (gLe rfl) rfl ?_
    refine j_aload_n 50 dX2_from_49 rfl 1 rfl ?_
    refine j_iconst (v := (0 : Int32)) 51 dX2_from_50 rfl (by decide) ?_
    refine j_putf 54 0 [(ea, .inr (2, [.ref sa, .ref p0, .int (nI (numA (plP yL) (yE 0 0) (yE 1))), .int (nI ((fkD (yL 5) (yL 0 2)).2)), .int (0 : Int32), .ref ec, .ref ep, .ref eb, .ref ef])), (ec, .inl (g.2.1 0, 7776, .inl (nF zeC))), (ep, .inl (g.2.1 0, 7776, .inl zeP)), (eb, .inl (g.2.1 1, 7776, .inl (nF zeB))), (ef, .inl (g.2.1 0, 32, .inl zeF)), (sa, .inr (3, [.ref pt, .int (nI (yD 0 0)), .ref sb, .ref sc, .ref sd])), (sb, .inl (g.2.1 0, 5, .inl (nF (yD 1)))), (sc, .inl (g.2.1 0, 6, .inl (nF (yD 2)))), (sd, .inl (g.2.1 0, 6, .inl (nF (yD 3)))), (ta, .inr (3, [.ref p0, .int (nI (yE 0 0)), .ref tb, .ref tc, .ref td])), (tb, .inl (g.2.1 0, 5, .inl (nF (yE 1)))), (tc, .inl (g.2.1 0, 6, .inl (nF (yE 2)))), (td, .inl (g.2.1 0, 6, .inl (nF (yE 3)))), (p0, .inr (0, [.int (nI (yL 0 0)), .int (nI (yL 0 1)), .int (nI (yL 0 2)), .ref p1, .ref p2, .ref p3, .ref p4, .ref p5, .ref p6])), (p1, .inl (g.2.1 0, 5, .inl (nF (yL 1)))), (p2, .inl (g.2.1 0, 5, .inl (nF (yL 2)))), (p3, .inl (g.2.1 0, 5, .inl (nF (yL 3)))), (p4, .inl (g.2.1 0, 5, .inl (nF (yL 4)))), (p5, .inl (g.2.1 0, 8, .inl (nF (yL 5)))), (p6, .inl (g.2.1 0, 8, .inl (nF (yL 6))))] dX2_from_51 rfl fd_X2_22 rfl rfl rfl (gLe rfl) rfl ?_
    refine j_aload_n 55 dX2_from_54 rfl 1 rfl ?_
    refine j_getf 58 0 dX2_from_55 rfl fd_X2_32 rfl rfl ?_
    refine j_iconst (v := (0 : Int32)) 59 dX2_from_58 rfl (by decide) ?_
    refine j_callS0 (rest := []) 62 [3] (c_fillB g eb 7776 zeB 0 (by decide) (by decide)) [] [(ea, .inr (2, [.ref sa, .ref p0, .int (nI (numA (plP yL) (yE 0 0) (yE 1))), .int (nI ((fkD (yL 5) (yL 0 2)).2)), .int (0 : Int32), .ref ec, .ref ep, .ref eb, .ref ef])), (ec, .inl (g.2.1 0, 7776, .inl (nF zeC))), (ep, .inl (g.2.1 0, 7776, .inl zeP)), (eb, .inl (g.2.1 1, 7776, .inl (nF (va_cpy (fun _ => 0) zeB 0 0 7776)))), (ef, .inl (g.2.1 0, 32, .inl zeF)), (sa, .inr (3, [.ref pt, .int (nI (yD 0 0)), .ref sb, .ref sc, .ref sd])), (sb, .inl (g.2.1 0, 5, .inl (nF (yD 1)))), (sc, .inl (g.2.1 0, 6, .inl (nF (yD 2)))), (sd, .inl (g.2.1 0, 6, .inl (nF (yD 3)))), (ta, .inr (3, [.ref p0, .int (nI (yE 0 0)), .ref tb, .ref tc, .ref td])), (tb, .inl (g.2.1 0, 5, .inl (nF (yE 1)))), (tc, .inl (g.2.1 0, 6, .inl (nF (yE 2)))), (td, .inl (g.2.1 0, 6, .inl (nF (yE 3)))), (p0, .inr (0, [.int (nI (yL 0 0)), .int (nI (yL 0 1)), .int (nI (yL 0 2)), .ref p1, .ref p2, .ref p3, .ref p4, .ref p5, .ref p6])), (p1, .inl (g.2.1 0, 5, .inl (nF (yL 1)))), (p2, .inl (g.2.1 0, 5, .inl (nF (yL 2)))), (p3, .inl (g.2.1 0, 5, .inl (nF (yL 3)))), (p4, .inl (g.2.1 0, 5, .inl (nF (yL 4)))), (p5, .inl (g.2.1 0, 8, .inl (nF (yL 5)))), (p6, .inl (g.2.1 0, 8, .inl (nF (yL 6))))] dX2_from_59 rfl cs_X2_58 rfl rfl rfl rfl (gLe rfl) (gLe rfl) (gLe rfl) (gLe rfl) (gLe rfl) rfl rfl ?_
    refine j_aload_n 63 dX2_from_62 rfl 1 rfl ?_
    refine j_getf 66 0 dX2_from_63 rfl fd_X2_36 rfl rfl ?_
    refine j_iconst (v := (-1 : Int32)) 67 dX2_from_66 rfl (by decide) ?_
    refine j_callS0 (rest := []) 70 [4] (c_fillR g ef 32 zeF (-1 : Int32) (by decide)) [] [(ea, .inr (2, [.ref sa, .ref p0, .int (nI (numA (plP yL) (yE 0 0) (yE 1))), .int (nI ((fkD (yL 5) (yL 0 2)).2)), .int (0 : Int32), .ref ec, .ref ep, .ref eb, .ref ef])), (ec, .inl (g.2.1 0, 7776, .inl (nF zeC))), (ep, .inl (g.2.1 0, 7776, .inl zeP)), (eb, .inl (g.2.1 1, 7776, .inl (nF (va_cpy (fun _ => 0) zeB 0 0 7776)))), (ef, .inl (g.2.1 0, 32, .inl (va_cpy (fun _ => (-1 : Int32)) zeF 0 0 32))), (sa, .inr (3, [.ref pt, .int (nI (yD 0 0)), .ref sb, .ref sc, .ref sd])), (sb, .inl (g.2.1 0, 5, .inl (nF (yD 1)))), (sc, .inl (g.2.1 0, 6, .inl (nF (yD 2)))), (sd, .inl (g.2.1 0, 6, .inl (nF (yD 3)))), (ta, .inr (3, [.ref p0, .int (nI (yE 0 0)), .ref tb, .ref tc, .ref td])), (tb, .inl (g.2.1 0, 5, .inl (nF (yE 1)))), (tc, .inl (g.2.1 0, 6, .inl (nF (yE 2)))), (td, .inl (g.2.1 0, 6, .inl (nF (yE 3)))), (p0, .inr (0, [.int (nI (yL 0 0)), .int (nI (yL 0 1)), .int (nI (yL 0 2)), .ref p1, .ref p2, .ref p3, .ref p4, .ref p5, .ref p6])), (p1, .inl (g.2.1 0, 5, .inl (nF (yL 1)))), (p2, .inl (g.2.1 0, 5, .inl (nF (yL 2)))), (p3, .inl (g.2.1 0, 5, .inl (nF (yL 3)))), (p4, .inl (g.2.1 0, 5, .inl (nF (yL 4)))), (p5, .inl (g.2.1 0, 8, .inl (nF (yL 5)))), (p6, .inl (g.2.1 0, 8, .inl (nF (yL 6))))] dX2_from_67 rfl cs_X2_64 rfl rfl rfl rfl (gLe rfl) (gLe rfl) (gLe rfl) (gLe rfl) (gLe rfl) rfl rfl ?_
    refine j_aload_n 71 dX2_from_70 rfl 1 rfl ?_
    refine j_getf 74 0 dX2_from_71 rfl fd_X2_45 rfl rfl ?_
    refine j_aload_n 75 dX2_from_74 rfl 1 rfl ?_
    refine j_getf 78 0 dX2_from_75 rfl fd_X2_9 rfl rfl ?_
    refine j_iconst (v := (0 : Int32)) 79 dX2_from_78 rfl (by decide) ?_
    refine j_callV0 (rest := []) 82 [5, 6, 7, 8] (c_X3_begin g sa pt sb sc sd yD p0 0 ) [] [(ea, .inr (2, [.ref sa, .ref p0, .int (nI (numA (plP yL) (yE 0 0) (yE 1))), .int (nI ((fkD (yL 5) (yL 0 2)).2)), .int (0 : Int32), .ref ec, .ref ep, .ref eb, .ref ef])), (ec, .inl (g.2.1 0, 7776, .inl (nF zeC))), (ep, .inl (g.2.1 0, 7776, .inl zeP)), (eb, .inl (g.2.1 1, 7776, .inl (nF (va_cpy (fun _ => 0) zeB 0 0 7776)))), (ef, .inl (g.2.1 0, 32, .inl (va_cpy (fun _ => (-1 : Int32)) zeF 0 0 32))), (sa, .inr (3, [.ref p0, .int (nI ((bgD yD 0) 0 0)), .ref sb, .ref sc, .ref sd])), (sb, .inl (g.2.1 0, 5, .inl (nF ((bgD yD 0) 1)))), (sc, .inl (g.2.1 0, 6, .inl (nF ((bgD yD 0) 2)))), (sd, .inl (g.2.1 0, 6, .inl (nF ((bgD yD 0) 3)))), (ta, .inr (3, [.ref p0, .int (nI (yE 0 0)), .ref tb, .ref tc, .ref td])), (tb, .inl (g.2.1 0, 5, .inl (nF (yE 1)))), (tc, .inl (g.2.1 0, 6, .inl (nF (yE 2)))), (td, .inl (g.2.1 0, 6, .inl (nF (yE 3)))), (p0, .inr (0, [.int (nI (yL 0 0)), .int (nI (yL 0 1)), .int (nI (yL 0 2)), .ref p1, .ref p2, .ref p3, .ref p4, .ref p5, .ref p6])), (p1, .inl (g.2.1 0, 5, .inl (nF (yL 1)))), (p2, .inl (g.2.1 0, 5, .inl (nF (yL 2)))), (p3, .inl (g.2.1 0, 5, .inl (nF (yL 3)))), (p4, .inl (g.2.1 0, 5, .inl (nF (yL 4)))), (p5, .inl (g.2.1 0, 8, .inl (nF (yL 5)))), (p6, .inl (g.2.1 0, 8, .inl (nF (yL 6))))] dX2_from_79 rfl cv_X2_67 rfl rfl rfl rfl 0 rfl rfl (gLe rfl) (gLe rfl) (gLe rfl) (gLe rfl) (gLe rfl) rfl rfl ?_
    refine j_aload_n 83 dX2_from_82 rfl 1 rfl ?_
    refine j_iload_n 84 dX2_from_83 rfl 0 rfl ?_
    refine j_iconst (v := (-1 : Int32)) 85 dX2_from_84 rfl (by decide) ?_
    have hB00 : ∀ z, z < 7776 → (va_cpy (fun _ => 0) zeB 0 0 7776) z = 0 := fun z hz => cpy_in (Nat.zero_le _) (by omega)
    have hn0 := srI_0 (P := plP yL) (C := zeC) (Pr := zeP) (F0 := (va_cpy (fun _ => (-1 : Int32)) zeF 0 0 32)) hcd hcm hB00 (fun s hs => cpy_in (Nat.zero_le _) (by omega))
    refine j_callV0 (rest := []) 88 [0, 1, 2, 3, 4] (c_X2_note g ea sa p0 (numA (plP yL) (yE 0 0) (yE 1)) ((fkD (yL 5) (yL 0 2)).2) 0 ec ep eb ef zeC zeP (va_cpy (fun _ => 0) zeB 0 0 7776) (va_cpy (fun _ => (-1 : Int32)) zeF 0 0 32) (numA (plP yL) (yE 0 0) (yE 1)) (-1 : Int32) hcd (by rw [hB00 _ hcd]; decide) (fun _ => by decide) (by decide)) [] [(ea, .inr (2, [.ref sa, va_rf p0, .int (nI (numA (plP yL) (yE 0 0) (yE 1))), .int (nI ((fkD (yL 5) (yL 0 2)).2)), .int (nI (ntN (va_cpy (fun _ => 0) zeB 0 0 7776) (numA (plP yL) (yE 0 0) (yE 1)) 0)), .ref ec, .ref ep, .ref eb, .ref ef])), (ec, .inl (g.2.1 0, 7776, .inl (nF (ntC (va_cpy (fun _ => 0) zeB 0 0 7776) zeC (numA (plP yL) (yE 0 0) (yE 1)) 0)))), (ep, .inl (g.2.1 0, 7776, .inl (ntP (va_cpy (fun _ => 0) zeB 0 0 7776) zeP (numA (plP yL) (yE 0 0) (yE 1)) 0 (-1 : Int32)))), (eb, .inl (g.2.1 1, 7776, .inl (nF (ntB (va_cpy (fun _ => 0) zeB 0 0 7776) (numA (plP yL) (yE 0 0) (yE 1)))))), (ef, .inl (g.2.1 0, 32, .inl (ntF (va_cpy (fun _ => 0) zeB 0 0 7776) (va_cpy (fun _ => (-1 : Int32)) zeF 0 0 32) (numA (plP yL) (yE 0 0) (yE 1)) 0))), (sa, .inr (3, [.ref p0, .int (nI ((bgD yD 0) 0 0)), .ref sb, .ref sc, .ref sd])), (sb, .inl (g.2.1 0, 5, .inl (nF ((bgD yD 0) 1)))), (sc, .inl (g.2.1 0, 6, .inl (nF ((bgD yD 0) 2)))), (sd, .inl (g.2.1 0, 6, .inl (nF ((bgD yD 0) 3)))), (ta, .inr (3, [.ref p0, .int (nI (yE 0 0)), .ref tb, .ref tc, .ref td])), (tb, .inl (g.2.1 0, 5, .inl (nF (yE 1)))), (tc, .inl (g.2.1 0, 6, .inl (nF (yE 2)))), (td, .inl (g.2.1 0, 6, .inl (nF (yE 3)))), (p0, .inr (0, [.int (nI (yL 0 0)), .int (nI (yL 0 1)), .int (nI (yL 0 2)), .ref p1, .ref p2, .ref p3, .ref p4, .ref p5, .ref p6])), (p1, .inl (g.2.1 0, 5, .inl (nF (yL 1)))), (p2, .inl (g.2.1 0, 5, .inl (nF (yL 2)))), (p3, .inl (g.2.1 0, 5, .inl (nF (yL 3)))), (p4, .inl (g.2.1 0, 5, .inl (nF (yL 4)))), (p5, .inl (g.2.1 0, 8, .inl (nF (yL 5)))), (p6, .inl (g.2.1 0, 8, .inl (nF (yL 6))))] dX2_from_85 rfl cv_X2_71 rfl rfl rfl rfl 0 rfl rfl (gLe rfl) (gLe rfl) (gLe rfl) (gLe rfl) (gLe rfl) rfl rfl ?_
    refine j_iconst (v := (0 : Int32)) 89 dX2_from_88 rfl (by decide) ?_
    refine j_istore_n 90 [(3, .int (0 : Int32)), (2, .int (nI (numA (plP yL) (yE 0 0) (yE 1)))), (0, .ref ea), (1, .ref ta)] dX2_from_89 rfl (by decide) rfl ?_
    have hL90 : ∀ (zm90 : Nat) (zk : Nat) (zD : Nat → Nat → Nat) (zn : Nat) (zC : Nat → Nat) (zP : Nat → Int32) (zB : Nat → Nat) (zF : Nat → Int32), 7776 - zk < zm90 → (srI (plP yL) (numA (plP yL) (yE 0 0) (yE 1)) (8 * zk + 0) zn zC zP zF) → (sbI zB zC zn) → (∀ j, j < 5 → zD 1 j ≤ 3) → (zk ≤ zn) → (zn ≤ 7776) → gJ g mX2_from 4 0 0 (fun k' j' rv ws' => k' ≤ 0 ∧ j' ≤ 0 ∧ (∃ (zD : Nat → Nat → Nat) (zn : Nat) (zC : Nat → Nat) (zP : Nat → Int32) (zB : Nat → Nat) (zF : Nat → Int32) (zm : Nat) (zt : Nat), (srI (plP yL) (numA (plP yL) (yE 0 0) (yE 1)) (8 * zn) zn zC zP zF) ∧ rv = none ∧ ws' = [(ea, .inr (2, [.ref sa, .ref p0, .int (nI (numA (plP yL) (yE 0 0) (yE 1))), .int (nI zm), .int (nI zn), .ref ec, .ref ep, .ref eb, .ref ef])), (ec, .inl (g.2.1 0, 7776, .inl (nF zC))), (ep, .inl (g.2.1 0, 7776, .inl zP)), (eb, .inl (g.2.1 1, 7776, .inl (nF zB))), (ef, .inl (g.2.1 0, 32, .inl zF)), (sa, .inr (3, [.ref zt, .int (nI (zD 0 0)), .ref sb, .ref sc, .ref sd])), (sb, .inl (g.2.1 0, 5, .inl (nF (zD 1)))), (sc, .inl (g.2.1 0, 6, .inl (nF (zD 2)))), (sd, .inl (g.2.1 0, 6, .inl (nF (zD 3)))), (ta, .inr (3, [.ref p0, .int (nI (yE 0 0)), .ref tb, .ref tc, .ref td])), (tb, .inl (g.2.1 0, 5, .inl (nF (yE 1)))), (tc, .inl (g.2.1 0, 6, .inl (nF (yE 2)))), (td, .inl (g.2.1 0, 6, .inl (nF (yE 3)))), (p0, .inr (0, [.int (nI (yL 0 0)), .int (nI (yL 0 1)), .int (nI (yL 0 2)), .ref p1, .ref p2, .ref p3, .ref p4, .ref p5, .ref p6])), (p1, .inl (g.2.1 0, 5, .inl (nF (yL 1)))), (p2, .inl (g.2.1 0, 5, .inl (nF (yL 2)))), (p3, .inl (g.2.1 0, 5, .inl (nF (yL 3)))), (p4, .inl (g.2.1 0, 5, .inl (nF (yL 4)))), (p5, .inl (g.2.1 0, 8, .inl (nF (yL 5)))), (p6, .inl (g.2.1 0, 8, .inl (nF (yL 6))))])) 0 0 90 [(3, .int (nI zk)), (2, .int (nI (numA (plP yL) (yE 0 0) (yE 1)))), (0, .ref ea), (1, .ref ta)] [] [(ea, .inr (2, [.ref sa, va_rf p0, .int (nI (numA (plP yL) (yE 0 0) (yE 1))), .int (nI ((fkD (yL 5) (yL 0 2)).2)), .int (nI zn), .ref ec, .ref ep, .ref eb, .ref ef])), (ec, .inl (g.2.1 0, 7776, .inl (nF zC))), (ep, .inl (g.2.1 0, 7776, .inl zP)), (eb, .inl (g.2.1 1, 7776, .inl (nF zB))), (ef, .inl (g.2.1 0, 32, .inl zF)), (sa, .inr (3, [.ref p0, .int (nI (zD 0 0)), .ref sb, .ref sc, .ref sd])), (sb, .inl (g.2.1 0, 5, .inl (nF (zD 1)))), (sc, .inl (g.2.1 0, 6, .inl (nF (zD 2)))), (sd, .inl (g.2.1 0, 6, .inl (nF (zD 3)))), (ta, .inr (3, [.ref p0, .int (nI (yE 0 0)), .ref tb, .ref tc, .ref td])), (tb, .inl (g.2.1 0, 5, .inl (nF (yE 1)))), (tc, .inl (g.2.1 0, 6, .inl (nF (yE 2)))), (td, .inl (g.2.1 0, 6, .inl (nF (yE 3)))), (p0, .inr (0, [.int (nI (yL 0 0)), .int (nI (yL 0 1)), .int (nI (yL 0 2)), .ref p1, .ref p2, .ref p3, .ref p4, .ref p5, .ref p6])), (p1, .inl (g.2.1 0, 5, .inl (nF (yL 1)))), (p2, .inl (g.2.1 0, 5, .inl (nF (yL 2)))), (p3, .inl (g.2.1 0, 5, .inl (nF (yL 3)))), (p4, .inl (g.2.1 0, 5, .inl (nF (yL 4)))), (p5, .inl (g.2.1 0, 8, .inl (nF (yL 5)))), (p6, .inl (g.2.1 0, 8, .inl (nF (yL 6))))] := by
      intro zm90
      induction zm90 with
      | zero => intro zk zD zn zC zP zB zF zmh; exact absurd zmh (Nat.not_lt_zero _)
      | succ zm90 zih90 =>
        intro zk zD zn zC zP zB zF zmh90 hzi hzb hzd hzk hzn
        refine j_iload_n 91 dX2_from_90 rfl 0 rfl ?_
        refine j_aload_n 92 dX2_from_91 rfl 2 rfl ?_
        refine j_getf 95 0 dX2_from_92 rfl fd_X2_22 rfl rfl ?_
        refine j_icmp_geN zk zn 98 116 dX2_from_95 rfl rfl (by omega) (by have z0 := hzn; omega) (fun h95 => ?_) (fun h95 => ?_)
        ·
          refine j_vret dX2_from_116 rfl ⟨gLe rfl, gLe rfl, ?_⟩
          have ye : zk = zn := by omega
          rw [ye] at hzi
          exact ⟨zD, zn, zC, zP, zB, zF, (fkD (yL 5) (yL 0 2)).2, p0, hzi, rfl, rfl⟩
        ·
          refine j_iload_n 99 dX2_from_98 rfl 0 rfl ?_
          refine j_sipush (v := (7776 : Int32)) 102 dX2_from_99 rfl (by decide) ?_
          refine j_icmp_geN zk 7776 105 116 dX2_from_102 rfl rfl (by omega) (by decide) (fun h102 => absurd h102 (by omega)) (fun h102 => ?_)
          refine j_aload_n 106 dX2_from_105 rfl 2 rfl ?_
          refine j_iload_n 107 dX2_from_106 rfl 0 rfl ?_
          refine j_callVe (rest := []) 110 [0, 1, 2, 3, 4, 5, 6, 7, 8, 13, 14, 15, 16, 17, 18, 19] (c_X2_spread g ea sa p0 (numA (plP yL) (yE 0 0) (yE 1)) ((fkD (yL 5) (yL 0 2)).2) zn ec ep eb ef zC zP zB zF sb sc sd zD p1 p2 p3 p4 p5 p6 yL zk (numA (plP yL) (yE 0 0) (yE 1)) hP rfl (by omega) hzi hzb hzd) dX2_from_107 rfl cv_X2_75 rfl rfl rfl rfl 0 rfl rfl (gLe rfl) (gLe rfl) (gLe rfl) (gLe rfl) (fun rv w1 hp => ?_)
          obtain ⟨zD_1, zn_1, zC_1, zP_1, zB_1, zF_1, hzi_1, hzb_1, hzd_1, hze_1, rfl, rfl⟩ := hp
          refine ⟨gLe rfl, ?_⟩
          refine j_eq (lv2 := [(3, .int (nI zk)), (2, .int (nI (numA (plP yL) (yE 0 0) (yE 1)))), (0, .ref ea), (1, .ref ta)]) (st2 := []) (ws2 := [(ea, .inr (2, [.ref sa, .ref p0, .int (nI (numA (plP yL) (yE 0 0) (yE 1))), .int (nI ((fkD (yL 5) (yL 0 2)).2)), .int (nI zn_1), .ref ec, .ref ep, .ref eb, .ref ef])), (ec, .inl (g.2.1 0, 7776, .inl (nF zC_1))), (ep, .inl (g.2.1 0, 7776, .inl zP_1)), (eb, .inl (g.2.1 1, 7776, .inl (nF zB_1))), (ef, .inl (g.2.1 0, 32, .inl zF_1)), (sa, .inr (3, [.ref p0, .int (nI (zD_1 0 0)), .ref sb, .ref sc, .ref sd])), (sb, .inl (g.2.1 0, 5, .inl (nF (zD_1 1)))), (sc, .inl (g.2.1 0, 6, .inl (nF (zD_1 2)))), (sd, .inl (g.2.1 0, 6, .inl (nF (zD_1 3)))), (ta, .inr (3, [.ref p0, .int (nI (yE 0 0)), .ref tb, .ref tc, .ref td])), (tb, .inl (g.2.1 0, 5, .inl (nF (yE 1)))), (tc, .inl (g.2.1 0, 6, .inl (nF (yE 2)))), (td, .inl (g.2.1 0, 6, .inl (nF (yE 3)))), (p0, .inr (0, [.int (nI (yL 0 0)), .int (nI (yL 0 1)), .int (nI (yL 0 2)), .ref p1, .ref p2, .ref p3, .ref p4, .ref p5, .ref p6])), (p1, .inl (g.2.1 0, 5, .inl (nF (yL 1)))), (p2, .inl (g.2.1 0, 5, .inl (nF (yL 2)))), (p3, .inl (g.2.1 0, 5, .inl (nF (yL 3)))), (p4, .inl (g.2.1 0, 5, .inl (nF (yL 4)))), (p5, .inl (g.2.1 0, 8, .inl (nF (yL 5)))), (p6, .inl (g.2.1 0, 8, .inl (nF (yL 6))))]) rfl rfl rfl ?_
          have hznx : zn_1 ≤ 7776 := by obtain ⟨_, _, _, y, _⟩ := hzi_1; exact y
          refine j_iincN zk 1 113 [(3, .int (nI (zk + 1))), (2, .int (nI (numA (plP yL) (yE 0 0) (yE 1)))), (0, .ref ea), (1, .ref ta)] dX2_from_110 rfl 0 rfl (by decide) rfl ?_
          refine j_goto 90 dX2_from_113 rfl ?_
          refine j_lv [0, 1, 2, 3] rfl ?_
          exact zih90 (zk + 1) zD_1 zn_1 zC_1 zP_1 zB_1 zF_1 (by omega) hzi_1 hzb_1 hzd_1 (by omega) hznx
    have hn7 : ntN (va_cpy (fun _ => 0) zeB 0 0 7776) (numA (plP yL) (yE 0 0) (yE 1)) 0 ≤ 7776 := by obtain ⟨_, _, _, y, _⟩ := hn0.1; exact y
    refine j_lv [0, 1, 2, 3] rfl ?_
    exact hL90 _ 0 (bgD yD 0) (ntN (va_cpy (fun _ => 0) zeB 0 0 7776) (numA (plP yL) (yE 0 0) (yE 1)) 0) (ntC (va_cpy (fun _ => 0) zeB 0 0 7776) zeC (numA (plP yL) (yE 0 0) (yE 1)) 0) (ntP (va_cpy (fun _ => 0) zeB 0 0 7776) zeP (numA (plP yL) (yE 0 0) (yE 1)) 0 (-1 : Int32)) (ntB (va_cpy (fun _ => 0) zeB 0 0 7776) (numA (plP yL) (yE 0 0) (yE 1))) (ntF (va_cpy (fun _ => 0) zeB 0 0 7776) (va_cpy (fun _ => (-1 : Int32)) zeF 0 0 32) (numA (plP yL) (yE 0 0) (yE 1)) 0) (Nat.lt_succ_self _) hn0.1 hn0.2.1 (fun j hj => by show va_cpy (fun _ => 0) (yD 1) 0 0 5 j ≤ 3; rw [cpy_in (Nat.zero_le _) (by omega)]; exact Nat.zero_le _) (Nat.zero_le _) hn7
  ·
    refine j_aload_n 17 dX2_from_16 rfl 1 rfl ?_
    refine j_getf 20 0 dX2_from_17 rfl fd_X2_15 rfl rfl ?_
    refine j_iload_n 21 dX2_from_20 rfl 0 rfl ?_
    refine j_icmp_neN es (numA (plP yL) (yE 0 0) (yE 1)) 24 25 dX2_from_21 rfl rfl (by have z0 := hes; omega) (by have z0 := hcd; omega) (fun h21 => ?_) (fun h21 => ?_)
    ·
      refine j_aload_n 26 dX2_from_25 rfl 1 rfl ?_
      refine j_aload_n 27 dX2_from_26 rfl 2 rfl ?_
      refine j_getf 30 9 dX2_from_27 rfl fd_X2_41 rfl rfl ?_
      refine j_putf 33 0 [(ea, .inr (2, [.ref sa, .ref p0, .int (nI es), .int (nI em), .int (nI en), .ref ec, .ref ep, .ref eb, .ref ef])), (ec, .inl (g.2.1 0, 7776, .inl (nF zeC))), (ep, .inl (g.2.1 0, 7776, .inl zeP)), (eb, .inl (g.2.1 1, 7776, .inl (nF zeB))), (ef, .inl (g.2.1 0, 32, .inl zeF)), (sa, .inr (3, [.ref pt, .int (nI (yD 0 0)), .ref sb, .ref sc, .ref sd])), (sb, .inl (g.2.1 0, 5, .inl (nF (yD 1)))), (sc, .inl (g.2.1 0, 6, .inl (nF (yD 2)))), (sd, .inl (g.2.1 0, 6, .inl (nF (yD 3)))), (ta, .inr (3, [.ref p0, .int (nI (yE 0 0)), .ref tb, .ref tc, .ref td])), (tb, .inl (g.2.1 0, 5, .inl (nF (yE 1)))), (tc, .inl (g.2.1 0, 6, .inl (nF (yE 2)))), (td, .inl (g.2.1 0, 6, .inl (nF (yE 3)))), (p0, .inr (0, [.int (nI (yL 0 0)), .int (nI (yL 0 1)), .int (nI (yL 0 2)), .ref p1, .ref p2, .ref p3, .ref p4, .ref p5, .ref p6])), (p1, .inl (g.2.1 0, 5, .inl (nF (yL 1)))), (p2, .inl (g.2.1 0, 5, .inl (nF (yL 2)))), (p3, .inl (g.2.1 0, 5, .inl (nF (yL 3)))), (p4, .inl (g.2.1 0, 5, .inl (nF (yL 4)))), (p5, .inl (g.2.1 0, 8, .inl (nF (yL 5)))), (p6, .inl (g.2.1 0, 8, .inl (nF (yL 6))))] dX2_from_30 rfl fd_X2_9 rfl rfl rfl (gLe rfl) rfl ?_
      refine j_aload_n 34 dX2_from_33 rfl 1 rfl ?_
      refine j_iload_n 35 dX2_from_34 rfl 0 rfl ?_
      refine j_putf 38 0 [(ea, .inr (2, [.ref sa, .ref p0, .int (nI (numA (plP yL) (yE 0 0) (yE 1))), .int (nI em), .int (nI en), .ref ec, .ref ep, .ref eb, .ref ef])), (ec, .inl (g.2.1 0, 7776, .inl (nF zeC))), (ep, .inl (g.2.1 0, 7776, .inl zeP)), (eb, .inl (g.2.1 1, 7776, .inl (nF zeB))), (ef, .inl (g.2.1 0, 32, .inl zeF)), (sa, .inr (3, [.ref pt, .int (nI (yD 0 0)), .ref sb, .ref sc, .ref sd])), (sb, .inl (g.2.1 0, 5, .inl (nF (yD 1)))), (sc, .inl (g.2.1 0, 6, .inl (nF (yD 2)))), (sd, .inl (g.2.1 0, 6, .inl (nF (yD 3)))), (ta, .inr (3, [.ref p0, .int (nI (yE 0 0)), .ref tb, .ref tc, .ref td])), (tb, .inl (g.2.1 0, 5, .inl (nF (yE 1)))), (tc, .inl (g.2.1 0, 6, .inl (nF (yE 2)))), (td, .inl (g.2.1 0, 6, .inl (nF (yE 3)))), (p0, .inr (0, [.int (nI (yL 0 0)), .int (nI (yL 0 1)), .int (nI (yL 0 2)), .ref p1, .ref p2, .ref p3, .ref p4, .ref p5, .ref p6])), (p1, .inl (g.2.1 0, 5, .inl (nF (yL 1)))), (p2, .inl (g.2.1 0, 5, .inl (nF (yL 2)))), (p3, .inl (g.2.1 0, 5, .inl (nF (yL 3)))), (p4, .inl (g.2.1 0, 5, .inl (nF (yL 4)))), (p5, .inl (g.2.1 0, 8, .inl (nF (yL 5)))), (p6, .inl (g.2.1 0, 8, .inl (nF (yL 6))))] dX2_from_35 rfl fd_X2_15 rfl rfl rfl (gLe rfl) rfl ?_
      refine j_aload_n 39 dX2_from_38 rfl 1 rfl ?_
      refine j_aload_n 40 dX2_from_39 rfl 1 rfl ?_
      refine j_getf 43 0 dX2_from_40 rfl fd_X2_9 rfl rfl ?_
      refine j_callV0 (rest := [.ref ea]) 46 [13, 14, 15, 16, 17, 18, 19] (c_X0_firstOfKinds g p0 p1 p2 p3 p4 p5 p6 yL h8 (fun b hb => by have y := (okP_k hP hb).2; rw [plP_k] at y; omega)) [.int (nI ((fkD (yL 5) (yL 0 2)).2)), .ref ea] [(ea, .inr (2, [.ref sa, .ref p0, .int (nI (numA (plP yL) (yE 0 0) (yE 1))), .int (nI em), .int (nI en), .ref ec, .ref ep, .ref eb, .ref ef])), (ec, .inl (g.2.1 0, 7776, .inl (nF zeC))), (ep, .inl (g.2.1 0, 7776, .inl zeP)), (eb, .inl (g.2.1 1, 7776, .inl (nF zeB))), (ef, .inl (g.2.1 0, 32, .inl zeF)), (sa, .inr (3, [.ref pt, .int (nI (yD 0 0)), .ref sb, .ref sc, .ref sd])), (sb, .inl (g.2.1 0, 5, .inl (nF (yD 1)))), (sc, .inl (g.2.1 0, 6, .inl (nF (yD 2)))), (sd, .inl (g.2.1 0, 6, .inl (nF (yD 3)))), (ta, .inr (3, [.ref p0, .int (nI (yE 0 0)), .ref tb, .ref tc, .ref td])), (tb, .inl (g.2.1 0, 5, .inl (nF (yE 1)))), (tc, .inl (g.2.1 0, 6, .inl (nF (yE 2)))), (td, .inl (g.2.1 0, 6, .inl (nF (yE 3)))), (p0, .inr (0, [.int (nI (yL 0 0)), .int (nI (yL 0 1)), .int (nI (yL 0 2)), .ref p1, .ref p2, .ref p3, .ref p4, .ref p5, .ref p6])), (p1, .inl (g.2.1 0, 5, .inl (nF (yL 1)))), (p2, .inl (g.2.1 0, 5, .inl (nF (yL 2)))), (p3, .inl (g.2.1 0, 5, .inl (nF (yL 3)))), (p4, .inl (g.2.1 0, 5, .inl (nF (yL 4)))), (p5, .inl (g.2.1 0, 8, .inl (nF (yL 5)))), (p6, .inl (g.2.1 0, 8, .inl (nF (yL 6))))] dX2_from_43 rfl cv_X2_53 rfl rfl rfl rfl 0 rfl rfl (gLe rfl) (gLe rfl) (gLe rfl) (gLe rfl) (gLe rfl) rfl rfl ?_
      refine j_putf 49 0 [(ea, .inr (2, [.ref sa, .ref p0, .int (nI (numA (plP yL) (yE 0 0) (yE 1))), .int (nI ((fkD (yL 5) (yL 0 2)).2)), .int (nI en), .ref ec, .ref ep, .ref eb, .ref ef])), (ec, .inl (g.2.1 0, 7776, .inl (nF zeC))), (ep, .inl (g.2.1 0, 7776, .inl zeP)), (eb, .inl (g.2.1 1, 7776, .inl (nF zeB))), (ef, .inl (g.2.1 0, 32, .inl zeF)), (sa, .inr (3, [.ref pt, .int (nI (yD 0 0)), .ref sb, .ref sc, .ref sd])), (sb, .inl (g.2.1 0, 5, .inl (nF (yD 1)))), (sc, .inl (g.2.1 0, 6, .inl (nF (yD 2)))), (sd, .inl (g.2.1 0, 6, .inl (nF (yD 3)))), (ta, .inr (3, [.ref p0, .int (nI (yE 0 0)), .ref tb, .ref tc, .ref td])), (tb, .inl (g.2.1 0, 5, .inl (nF (yE 1)))), (tc, .inl (g.2.1 0, 6, .inl (nF (yE 2)))), (td, .inl (g.2.1 0, 6, .inl (nF (yE 3)))), (p0, .inr (0, [.int (nI (yL 0 0)), .int (nI (yL 0 1)), .int (nI (yL 0 2)), .ref p1, .ref p2, .ref p3, .ref p4, .ref p5, .ref p6])), (p1, .inl (g.2.1 0, 5, .inl (nF (yL 1)))), (p2, .inl (g.2.1 0, 5, .inl (nF (yL 2)))), (p3, .inl (g.2.1 0, 5, .inl (nF (yL 3)))), (p4, .inl (g.2.1 0, 5, .inl (nF (yL 4)))), (p5, .inl (g.2.1 0, 8, .inl (nF (yL 5)))), (p6, .inl (g.2.1 0, 8, .inl (nF (yL 6))))] dX2_from_46 rfl fd_X2_19 rfl rfl rfl (gLe rfl) rfl ?_
      refine j_aload_n 50 dX2_from_49 rfl 1 rfl ?_
      refine j_iconst (v := (0 : Int32)) 51 dX2_from_50 rfl (by decide) ?_
      refine j_putf 54 0 [(ea, .inr (2, [.ref sa, .ref p0, .int (nI (numA (plP yL) (yE 0 0) (yE 1))), .int (nI ((fkD (yL 5) (yL 0 2)).2)), .int (0 : Int32), .ref ec, .ref ep, .ref eb, .ref ef])), (ec, .inl (g.2.1 0, 7776, .inl (nF zeC))), (ep, .inl (g.2.1 0, 7776, .inl zeP)), (eb, .inl (g.2.1 1, 7776, .inl (nF zeB))), (ef, .inl (g.2.1 0, 32, .inl zeF)), (sa, .inr (3, [.ref pt, .int (nI (yD 0 0)), .ref sb, .ref sc, .ref sd])), (sb, .inl (g.2.1 0, 5, .inl (nF (yD 1)))), (sc, .inl (g.2.1 0, 6, .inl (nF (yD 2)))), (sd, .inl (g.2.1 0, 6, .inl (nF (yD 3)))), (ta, .inr (3, [.ref p0, .int (nI (yE 0 0)), .ref tb, .ref tc, .ref td])), (tb, .inl (g.2.1 0, 5, .inl (nF (yE 1)))), (tc, .inl (g.2.1 0, 6, .inl (nF (yE 2)))), (td, .inl (g.2.1 0, 6, .inl (nF (yE 3)))), (p0, .inr (0, [.int (nI (yL 0 0)), .int (nI (yL 0 1)), .int (nI (yL 0 2)), .ref p1, .ref p2, .ref p3, .ref p4, .ref p5, .ref p6])), (p1, .inl (g.2.1 0, 5, .inl (nF (yL 1)))), (p2, .inl (g.2.1 0, 5, .inl (nF (yL 2)))), (p3, .inl (g.2.1 0, 5, .inl (nF (yL 3)))), (p4, .inl (g.2.1 0, 5, .inl (nF (yL 4)))), (p5, .inl (g.2.1 0, 8, .inl (nF (yL 5)))), (p6, .inl (g.2.1 0, 8, .inl (nF (yL 6))))] dX2_from_51 rfl fd_X2_22 rfl rfl rfl (gLe rfl) rfl ?_
      refine j_aload_n 55 dX2_from_54 rfl 1 rfl ?_
      refine j_getf 58 0 dX2_from_55 rfl fd_X2_32 rfl rfl ?_
      refine j_iconst (v := (0 : Int32)) 59 dX2_from_58 rfl (by decide) ?_
      refine j_callS0 (rest := []) 62 [3] (c_fillB g eb 7776 zeB 0 (by decide) (by decide)) [] [(ea, .inr (2, [.ref sa, .ref p0, .int (nI (numA (plP yL) (yE 0 0) (yE 1))), .int (nI ((fkD (yL 5) (yL 0 2)).2)), .int (0 : Int32), .ref ec, .ref ep, .ref eb, .ref ef])), (ec, .inl (g.2.1 0, 7776, .inl (nF zeC))), (ep, .inl (g.2.1 0, 7776, .inl zeP)), (eb, .inl (g.2.1 1, 7776, .inl (nF (va_cpy (fun _ => 0) zeB 0 0 7776)))), (ef, .inl (g.2.1 0, 32, .inl zeF)), (sa, .inr (3, [.ref pt, .int (nI (yD 0 0)), .ref sb, .ref sc, .ref sd])), (sb, .inl (g.2.1 0, 5, .inl (nF (yD 1)))), (sc, .inl (g.2.1 0, 6, .inl (nF (yD 2)))), (sd, .inl (g.2.1 0, 6, .inl (nF (yD 3)))), (ta, .inr (3, [.ref p0, .int (nI (yE 0 0)), .ref tb, .ref tc, .ref td])), (tb, .inl (g.2.1 0, 5, .inl (nF (yE 1)))), (tc, .inl (g.2.1 0, 6, .inl (nF (yE 2)))), (td, .inl (g.2.1 0, 6, .inl (nF (yE 3)))), (p0, .inr (0, [.int (nI (yL 0 0)), .int (nI (yL 0 1)), .int (nI (yL 0 2)), .ref p1, .ref p2, .ref p3, .ref p4, .ref p5, .ref p6])), (p1, .inl (g.2.1 0, 5, .inl (nF (yL 1)))), (p2, .inl (g.2.1 0, 5, .inl (nF (yL 2)))), (p3, .inl (g.2.1 0, 5, .inl (nF (yL 3)))), (p4, .inl (g.2.1 0, 5, .inl (nF (yL 4)))), (p5, .inl (g.2.1 0, 8, .inl (nF (yL 5)))), (p6, .inl (g.2.1 0, 8, .inl (nF (yL 6))))] dX2_from_59 rfl cs_X2_58 rfl rfl rfl rfl (gLe rfl) (gLe rfl) (gLe rfl) (gLe rfl) (gLe rfl) rfl rfl ?_
      refine j_aload_n 63 dX2_from_62 rfl 1 rfl ?_
      refine j_getf 66 0 dX2_from_63 rfl fd_X2_36 rfl rfl ?_
      refine j_iconst (v := (-1 : Int32)) 67 dX2_from_66 rfl (by decide) ?_
      refine j_callS0 (rest := []) 70 [4] (c_fillR g ef 32 zeF (-1 : Int32) (by decide)) [] [(ea, .inr (2, [.ref sa, .ref p0, .int (nI (numA (plP yL) (yE 0 0) (yE 1))), .int (nI ((fkD (yL 5) (yL 0 2)).2)), .int (0 : Int32), .ref ec, .ref ep, .ref eb, .ref ef])), (ec, .inl (g.2.1 0, 7776, .inl (nF zeC))), (ep, .inl (g.2.1 0, 7776, .inl zeP)), (eb, .inl (g.2.1 1, 7776, .inl (nF (va_cpy (fun _ => 0) zeB 0 0 7776)))), (ef, .inl (g.2.1 0, 32, .inl (va_cpy (fun _ => (-1 : Int32)) zeF 0 0 32))), (sa, .inr (3, [.ref pt, .int (nI (yD 0 0)), .ref sb, .ref sc, .ref sd])), (sb, .inl (g.2.1 0, 5, .inl (nF (yD 1)))), (sc, .inl (g.2.1 0, 6, .inl (nF (yD 2)))), (sd, .inl (g.2.1 0, 6, .inl (nF (yD 3)))), (ta, .inr (3, [.ref p0, .int (nI (yE 0 0)), .ref tb, .ref tc, .ref td])), (tb, .inl (g.2.1 0, 5, .inl (nF (yE 1)))), (tc, .inl (g.2.1 0, 6, .inl (nF (yE 2)))), (td, .inl (g.2.1 0, 6, .inl (nF (yE 3)))), (p0, .inr (0, [.int (nI (yL 0 0)), .int (nI (yL 0 1)), .int (nI (yL 0 2)), .ref p1, .ref p2, .ref p3, .ref p4, .ref p5, .ref p6])), (p1, .inl (g.2.1 0, 5, .inl (nF (yL 1)))), (p2, .inl (g.2.1 0, 5, .inl (nF (yL 2)))), (p3, .inl (g.2.1 0, 5, .inl (nF (yL 3)))), (p4, .inl (g.2.1 0, 5, .inl (nF (yL 4)))), (p5, .inl (g.2.1 0, 8, .inl (nF (yL 5)))), (p6, .inl (g.2.1 0, 8, .inl (nF (yL 6))))] dX2_from_67 rfl cs_X2_64 rfl rfl rfl rfl (gLe rfl) (gLe rfl) (gLe rfl) (gLe rfl) (gLe rfl) rfl rfl ?_
      refine j_aload_n 71 dX2_from_70 rfl 1 rfl ?_
      refine j_getf 74 0 dX2_from_71 rfl fd_X2_45 rfl rfl ?_
      refine j_aload_n 75 dX2_from_74 rfl 1 rfl ?_
      refine j_getf 78 0 dX2_from_75 rfl fd_X2_9 rfl rfl ?_
      refine j_iconst (v := (0 : Int32)) 79 dX2_from_78 rfl (by decide) ?_
      refine j_callV0 (rest := []) 82 [5, 6, 7, 8] (c_X3_begin g sa pt sb sc sd yD p0 0 ) [] [(ea, .inr (2, [.ref sa, .ref p0, .int (nI (numA (plP yL) (yE 0 0) (yE 1))), .int (nI ((fkD (yL 5) (yL 0 2)).2)), .int (0 : Int32), .ref ec, .ref ep, .ref eb, .ref ef])), (ec, .inl (g.2.1 0, 7776, .inl (nF zeC))), (ep, .inl (g.2.1 0, 7776, .inl zeP)), (eb, .inl (g.2.1 1, 7776, .inl (nF (va_cpy (fun _ => 0) zeB 0 0 7776)))), (ef, .inl (g.2.1 0, 32, .inl (va_cpy (fun _ => (-1 : Int32)) zeF 0 0 32))), (sa, .inr (3, [.ref p0, .int (nI ((bgD yD 0) 0 0)), .ref sb, .ref sc, .ref sd])), (sb, .inl (g.2.1 0, 5, .inl (nF ((bgD yD 0) 1)))), (sc, .inl (g.2.1 0, 6, .inl (nF ((bgD yD 0) 2)))), (sd, .inl (g.2.1 0, 6, .inl (nF ((bgD yD 0) 3)))), (ta, .inr (3, [.ref p0, .int (nI (yE 0 0)), .ref tb, .ref tc, .ref td])), (tb, .inl (g.2.1 0, 5, .inl (nF (yE 1)))), (tc, .inl (g.2.1 0, 6, .inl (nF (yE 2)))), (td, .inl (g.2.1 0, 6, .inl (nF (yE 3)))), (p0, .inr (0, [.int (nI (yL 0 0)), .int (nI (yL 0 1)), .int (nI (yL 0 2)), .ref p1, .ref p2, .ref p3, .ref p4, .ref p5, .ref p6])), (p1, .inl (g.2.1 0, 5, .inl (nF (yL 1)))), (p2, .inl (g.2.1 0, 5, .inl (nF (yL 2)))), (p3, .inl (g.2.1 0, 5, .inl (nF (yL 3)))), (p4, .inl (g.2.1 0, 5, .inl (nF (yL 4)))), (p5, .inl (g.2.1 0, 8, .inl (nF (yL 5)))), (p6, .inl (g.2.1 0, 8, .inl (nF (yL 6))))] dX2_from_79 rfl cv_X2_67 rfl rfl rfl rfl 0 rfl rfl (gLe rfl) (gLe rfl) (gLe rfl) (gLe rfl) (gLe rfl) rfl rfl ?_
      refine j_aload_n 83 dX2_from_82 rfl 1 rfl ?_
      refine j_iload_n 84 dX2_from_83 rfl 0 rfl ?_
      refine j_iconst (v := (-1 : Int32)) 85 dX2_from_84 rfl (by decide) ?_
      have hB00 : ∀ z, z < 7776 → (va_cpy (fun _ => 0) zeB 0 0 7776) z = 0 := fun z hz => cpy_in (Nat.zero_le _) (by omega)
      have hn0 := srI_0 (P := plP yL) (C := zeC) (Pr := zeP) (F0 := (va_cpy (fun _ => (-1 : Int32)) zeF 0 0 32)) hcd hcm hB00 (fun s hs => cpy_in (Nat.zero_le _) (by omega))
      refine j_callV0 (rest := []) 88 [0, 1, 2, 3, 4] (c_X2_note g ea sa p0 (numA (plP yL) (yE 0 0) (yE 1)) ((fkD (yL 5) (yL 0 2)).2) 0 ec ep eb ef zeC zeP (va_cpy (fun _ => 0) zeB 0 0 7776) (va_cpy (fun _ => (-1 : Int32)) zeF 0 0 32) (numA (plP yL) (yE 0 0) (yE 1)) (-1 : Int32) hcd (by rw [hB00 _ hcd]; decide) (fun _ => by decide) (by decide)) [] [(ea, .inr (2, [.ref sa, va_rf p0, .int (nI (numA (plP yL) (yE 0 0) (yE 1))), .int (nI ((fkD (yL 5) (yL 0 2)).2)), .int (nI (ntN (va_cpy (fun _ => 0) zeB 0 0 7776) (numA (plP yL) (yE 0 0) (yE 1)) 0)), .ref ec, .ref ep, .ref eb, .ref ef])), (ec, .inl (g.2.1 0, 7776, .inl (nF (ntC (va_cpy (fun _ => 0) zeB 0 0 7776) zeC (numA (plP yL) (yE 0 0) (yE 1)) 0)))), (ep, .inl (g.2.1 0, 7776, .inl (ntP (va_cpy (fun _ => 0) zeB 0 0 7776) zeP (numA (plP yL) (yE 0 0) (yE 1)) 0 (-1 : Int32)))), (eb, .inl (g.2.1 1, 7776, .inl (nF (ntB (va_cpy (fun _ => 0) zeB 0 0 7776) (numA (plP yL) (yE 0 0) (yE 1)))))), (ef, .inl (g.2.1 0, 32, .inl (ntF (va_cpy (fun _ => 0) zeB 0 0 7776) (va_cpy (fun _ => (-1 : Int32)) zeF 0 0 32) (numA (plP yL) (yE 0 0) (yE 1)) 0))), (sa, .inr (3, [.ref p0, .int (nI ((bgD yD 0) 0 0)), .ref sb, .ref sc, .ref sd])), (sb, .inl (g.2.1 0, 5, .inl (nF ((bgD yD 0) 1)))), (sc, .inl (g.2.1 0, 6, .inl (nF ((bgD yD 0) 2)))), (sd, .inl (g.2.1 0, 6, .inl (nF ((bgD yD 0) 3)))), (ta, .inr (3, [.ref p0, .int (nI (yE 0 0)), .ref tb, .ref tc, .ref td])), (tb, .inl (g.2.1 0, 5, .inl (nF (yE 1)))), (tc, .inl (g.2.1 0, 6, .inl (nF (yE 2)))), (td, .inl (g.2.1 0, 6, .inl (nF (yE 3)))), (p0, .inr (0, [.int (nI (yL 0 0)), .int (nI (yL 0 1)), .int (nI (yL 0 2)), .ref p1, .ref p2, .ref p3, .ref p4, .ref p5, .ref p6])), (p1, .inl (g.2.1 0, 5, .inl (nF (yL 1)))), (p2, .inl (g.2.1 0, 5, .inl (nF (yL 2)))), (p3, .inl (g.2.1 0, 5, .inl (nF (yL 3)))), (p4, .inl (g.2.1 0, 5, .inl (nF (yL 4)))), (p5, .inl (g.2.1 0, 8, .inl (nF (yL 5)))), (p6, .inl (g.2.1 0, 8, .inl (nF (yL 6))))] dX2_from_85 rfl cv_X2_71 rfl rfl rfl rfl 0 rfl rfl (gLe rfl) (gLe rfl) (gLe rfl) (gLe rfl) (gLe rfl) rfl rfl ?_
      refine j_iconst (v := (0 : Int32)) 89 dX2_from_88 rfl (by decide) ?_
      refine j_istore_n 90 [(3, .int (0 : Int32)), (2, .int (nI (numA (plP yL) (yE 0 0) (yE 1)))), (0, .ref ea), (1, .ref ta)] dX2_from_89 rfl (by decide) rfl ?_
      have hL90 : ∀ (zm90 : Nat) (zk : Nat) (zD : Nat → Nat → Nat) (zn : Nat) (zC : Nat → Nat) (zP : Nat → Int32) (zB : Nat → Nat) (zF : Nat → Int32), 7776 - zk < zm90 → (srI (plP yL) (numA (plP yL) (yE 0 0) (yE 1)) (8 * zk + 0) zn zC zP zF) → (sbI zB zC zn) → (∀ j, j < 5 → zD 1 j ≤ 3) → (zk ≤ zn) → (zn ≤ 7776) → gJ g mX2_from 4 0 0 (fun k' j' rv ws' => k' ≤ 0 ∧ j' ≤ 0 ∧ (∃ (zD : Nat → Nat → Nat) (zn : Nat) (zC : Nat → Nat) (zP : Nat → Int32) (zB : Nat → Nat) (zF : Nat → Int32) (zm : Nat) (zt : Nat), (srI (plP yL) (numA (plP yL) (yE 0 0) (yE 1)) (8 * zn) zn zC zP zF) ∧ rv = none ∧ ws' = [(ea, .inr (2, [.ref sa, .ref p0, .int (nI (numA (plP yL) (yE 0 0) (yE 1))), .int (nI zm), .int (nI zn), .ref ec, .ref ep, .ref eb, .ref ef])), (ec, .inl (g.2.1 0, 7776, .inl (nF zC))), (ep, .inl (g.2.1 0, 7776, .inl zP)), (eb, .inl (g.2.1 1, 7776, .inl (nF zB))), (ef, .inl (g.2.1 0, 32, .inl zF)), (sa, .inr (3, [.ref zt, .int (nI (zD 0 0)), .ref sb, .ref sc, .ref sd])), (sb, .inl (g.2.1 0, 5, .inl (nF (zD 1)))), (sc, .inl (g.2.1 0, 6, .inl (nF (zD 2)))), (sd, .inl (g.2.1 0, 6, .inl (nF (zD 3)))), (ta, .inr (3, [.ref p0, .int (nI (yE 0 0)), .ref tb, .ref tc, .ref td])), (tb, .inl (g.2.1 0, 5, .inl (nF (yE 1)))), (tc, .inl (g.2.1 0, 6, .inl (nF (yE 2)))), (td, .inl (g.2.1 0, 6, .inl (nF (yE 3)))), (p0, .inr (0, [.int (nI (yL 0 0)), .int (nI (yL 0 1)), .int (nI (yL 0 2)), .ref p1, .ref p2, .ref p3, .ref p4, .ref p5, .ref p6])), (p1, .inl (g.2.1 0, 5, .inl (nF (yL 1)))), (p2, .inl (g.2.1 0, 5, .inl (nF (yL 2)))), (p3, .inl (g.2.1 0, 5, .inl (nF (yL 3)))), (p4, .inl (g.2.1 0, 5, .inl (nF (yL 4)))), (p5, .inl (g.2.1 0, 8, .inl (nF (yL 5)))), (p6, .inl (g.2.1 0, 8, .inl (nF (yL 6))))])) 0 0 90 [(3, .int (nI zk)), (2, .int (nI (numA (plP yL) (yE 0 0) (yE 1)))), (0, .ref ea), (1, .ref ta)] [] [(ea, .inr (2, [.ref sa, va_rf p0, .int (nI (numA (plP yL) (yE 0 0) (yE 1))), .int (nI ((fkD (yL 5) (yL 0 2)).2)), .int (nI zn), .ref ec, .ref ep, .ref eb, .ref ef])), (ec, .inl (g.2.1 0, 7776, .inl (nF zC))), (ep, .inl (g.2.1 0, 7776, .inl zP)), (eb, .inl (g.2.1 1, 7776, .inl (nF zB))), (ef, .inl (g.2.1 0, 32, .inl zF)), (sa, .inr (3, [.ref p0, .int (nI (zD 0 0)), .ref sb, .ref sc, .ref sd])), (sb, .inl (g.2.1 0, 5, .inl (nF (zD 1)))), (sc, .inl (g.2.1 0, 6, .inl (nF (zD 2)))), (sd, .inl (g.2.1 0, 6, .inl (nF (zD 3)))), (ta, .inr (3, [.ref p0, .int (nI (yE 0 0)), .ref tb, .ref tc, .ref td])), (tb, .inl (g.2.1 0, 5, .inl (nF (yE 1)))), (tc, .inl (g.2.1 0, 6, .inl (nF (yE 2)))), (td, .inl (g.2.1 0, 6, .inl (nF (yE 3)))), (p0, .inr (0, [.int (nI (yL 0 0)), .int (nI (yL 0 1)), .int (nI (yL 0 2)), .ref p1, .ref p2, .ref p3, .ref p4, .ref p5, .ref p6])), (p1, .inl (g.2.1 0, 5, .inl (nF (yL 1)))), (p2, .inl (g.2.1 0, 5, .inl (nF (yL 2)))), (p3, .inl (g.2.1 0, 5, .inl (nF (yL 3)))), (p4, .inl (g.2.1 0, 5, .inl (nF (yL 4)))), (p5, .inl (g.2.1 0, 8, .inl (nF (yL 5)))), (p6, .inl (g.2.1 0, 8, .inl (nF (yL 6))))] := by
        intro zm90
        induction zm90 with
        | zero => intro zk zD zn zC zP zB zF zmh; exact absurd zmh (Nat.not_lt_zero _)
        | succ zm90 zih90 =>
          intro zk zD zn zC zP zB zF zmh90 hzi hzb hzd hzk hzn
          refine j_iload_n 91 dX2_from_90 rfl 0 rfl ?_
          refine j_aload_n 92 dX2_from_91 rfl 2 rfl ?_
          refine j_getf 95 0 dX2_from_92 rfl fd_X2_22 rfl rfl ?_
          refine j_icmp_geN zk zn 98 116 dX2_from_95 rfl rfl (by omega) (by have z0 := hzn; omega) (fun h95 => ?_) (fun h95 => ?_)
          ·
            refine j_vret dX2_from_116 rfl ⟨gLe rfl, gLe rfl, ?_⟩
            have ye : zk = zn := by omega
            rw [ye] at hzi
            exact ⟨zD, zn, zC, zP, zB, zF, (fkD (yL 5) (yL 0 2)).2, p0, hzi, rfl, rfl⟩
          ·
            refine j_iload_n 99 dX2_from_98 rfl 0 rfl ?_
            refine j_sipush (v := (7776 : Int32)) 102 dX2_from_99 rfl (by decide) ?_
            refine j_icmp_geN zk 7776 105 116 dX2_from_102 rfl rfl (by omega) (by decide) (fun h102 => absurd h102 (by omega)) (fun h102 => ?_)
            refine j_aload_n 106 dX2_from_105 rfl 2 rfl ?_
            refine j_iload_n 107 dX2_from_106 rfl 0 rfl ?_
            refine j_callVe (rest := []) 110 [0, 1, 2, 3, 4, 5, 6, 7, 8, 13, 14, 15, 16, 17, 18, 19] (c_X2_spread g ea sa p0 (numA (plP yL) (yE 0 0) (yE 1)) ((fkD (yL 5) (yL 0 2)).2) zn ec ep eb ef zC zP zB zF sb sc sd zD p1 p2 p3 p4 p5 p6 yL zk (numA (plP yL) (yE 0 0) (yE 1)) hP rfl (by omega) hzi hzb hzd) dX2_from_107 rfl cv_X2_75 rfl rfl rfl rfl 0 rfl rfl (gLe rfl) (gLe rfl) (gLe rfl) (gLe rfl) (fun rv w1 hp => ?_)
            obtain ⟨zD_2, zn_2, zC_2, zP_2, zB_2, zF_2, hzi_2, hzb_2, hzd_2, hze_2, rfl, rfl⟩ := hp
            refine ⟨gLe rfl, ?_⟩
            refine j_eq (lv2 := [(3, .int (nI zk)), (2, .int (nI (numA (plP yL) (yE 0 0) (yE 1)))), (0, .ref ea), (1, .ref ta)]) (st2 := []) (ws2 := [(ea, .inr (2, [.ref sa, .ref p0, .int (nI (numA (plP yL) (yE 0 0) (yE 1))), .int (nI ((fkD (yL 5) (yL 0 2)).2)), .int (nI zn_2), .ref ec, .ref ep, .ref eb, .ref ef])), (ec, .inl (g.2.1 0, 7776, .inl (nF zC_2))), (ep, .inl (g.2.1 0, 7776, .inl zP_2)), (eb, .inl (g.2.1 1, 7776, .inl (nF zB_2))), (ef, .inl (g.2.1 0, 32, .inl zF_2)), (sa, .inr (3, [.ref p0, .int (nI (zD_2 0 0)), .ref sb, .ref sc, .ref sd])), (sb, .inl (g.2.1 0, 5, .inl (nF (zD_2 1)))), (sc, .inl (g.2.1 0, 6, .inl (nF (zD_2 2)))), (sd, .inl (g.2.1 0, 6, .inl (nF (zD_2 3)))), (ta, .inr (3, [.ref p0, .int (nI (yE 0 0)), .ref tb, .ref tc, .ref td])), (tb, .inl (g.2.1 0, 5, .inl (nF (yE 1)))), (tc, .inl (g.2.1 0, 6, .inl (nF (yE 2)))), (td, .inl (g.2.1 0, 6, .inl (nF (yE 3)))), (p0, .inr (0, [.int (nI (yL 0 0)), .int (nI (yL 0 1)), .int (nI (yL 0 2)), .ref p1, .ref p2, .ref p3, .ref p4, .ref p5, .ref p6])), (p1, .inl (g.2.1 0, 5, .inl (nF (yL 1)))), (p2, .inl (g.2.1 0, 5, .inl (nF (yL 2)))), (p3, .inl (g.2.1 0, 5, .inl (nF (yL 3)))), (p4, .inl (g.2.1 0, 5, .inl (nF (yL 4)))), (p5, .inl (g.2.1 0, 8, .inl (nF (yL 5)))), (p6, .inl (g.2.1 0, 8, .inl (nF (yL 6))))]) rfl rfl rfl ?_
            have hznx : zn_2 ≤ 7776 := by obtain ⟨_, _, _, y, _⟩ := hzi_2; exact y
            refine j_iincN zk 1 113 [(3, .int (nI (zk + 1))), (2, .int (nI (numA (plP yL) (yE 0 0) (yE 1)))), (0, .ref ea), (1, .ref ta)] dX2_from_110 rfl 0 rfl (by decide) rfl ?_
            refine j_goto 90 dX2_from_113 rfl ?_
            refine j_lv [0, 1, 2, 3] rfl ?_
            exact zih90 (zk + 1) zD_2 zn_2 zC_2 zP_2 zB_2 zF_2 (by omega) hzi_2 hzb_2 hzd_2 (by omega) hznx
      have hn7 : ntN (va_cpy (fun _ => 0) zeB 0 0 7776) (numA (plP yL) (yE 0 0) (yE 1)) 0 ≤ 7776 := by obtain ⟨_, _, _, y, _⟩ := hn0.1; exact y
      refine j_lv [0, 1, 2, 3] rfl ?_
      exact hL90 _ 0 (bgD yD 0) (ntN (va_cpy (fun _ => 0) zeB 0 0 7776) (numA (plP yL) (yE 0 0) (yE 1)) 0) (ntC (va_cpy (fun _ => 0) zeB 0 0 7776) zeC (numA (plP yL) (yE 0 0) (yE 1)) 0) (ntP (va_cpy (fun _ => 0) zeB 0 0 7776) zeP (numA (plP yL) (yE 0 0) (yE 1)) 0 (-1 : Int32)) (ntB (va_cpy (fun _ => 0) zeB 0 0 7776) (numA (plP yL) (yE 0 0) (yE 1))) (ntF (va_cpy (fun _ => 0) zeB 0 0 7776) (va_cpy (fun _ => (-1 : Int32)) zeF 0 0 32) (numA (plP yL) (yE 0 0) (yE 1)) 0) (Nat.lt_succ_self _) hn0.1 hn0.2.1 (fun j hj => by show va_cpy (fun _ => 0) (yD 1) 0 0 5 j ≤ 3; rw [cpy_in (Nat.zero_le _) (by omega)]; exact Nat.zero_le _) (Nat.zero_le _) hn7
    ·
      refine j_vret dX2_from_24 rfl ⟨gLe rfl, gLe rfl, ?_⟩
      subst h13
      subst h21
      exact ⟨yD, en, zeC, zeP, zeB, zeF, em, pt, hS rfl rfl, rfl, rfl⟩
set_option maxRecDepth 20000 in
theorem c_X2_finds (g : gG) (ea : Nat) (et : Nat) (el : Option Nat) (es : Nat) (em : Nat) (en : Nat) (ec : Nat) (ep : Nat) (eb : Nat) (ef : Nat) (zeC : Nat → Nat) (zeP : Nat → Int32) (zeB : Nat → Nat) (zeF : Nat → Int32) (s : Nat)  (hs : s < 32) : gCon g mX2_finds 0 0 0 [.ref ea, .int (nI s)] [(ea, .inr (2, [.ref et, va_rf el, .int (nI es), .int (nI em), .int (nI en), .ref ec, .ref ep, .ref eb, .ref ef])), (ec, .inl (g.2.1 0, 7776, .inl (nF zeC))), (ep, .inl (g.2.1 0, 7776, .inl zeP)), (eb, .inl (g.2.1 1, 7776, .inl (nF zeB))), (ef, .inl (g.2.1 0, 32, .inl zeF))] (fun rv ws' => rv = some (.int (gB (¬ zeF s < 0))) ∧ ws' = [(ea, .inr (2, [.ref et, va_rf el, .int (nI es), .int (nI em), .int (nI en), .ref ec, .ref ep, .ref eb, .ref ef])), (ec, .inl (g.2.1 0, 7776, .inl (nF zeC))), (ep, .inl (g.2.1 0, 7776, .inl zeP)), (eb, .inl (g.2.1 1, 7776, .inl (nF zeB))), (ef, .inl (g.2.1 0, 32, .inl zeF))]) := by
  refine gCon.of (lv := [(0, .ref ea), (1, .int (nI s))]) (by decide) (gLe rfl) rfl ?_
  refine j_iload_n 1 dX2_finds_0 rfl 1 rfl ?_
  refine j_if_ltN s 4 dX2_finds_1 rfl (t := 23) rfl (by omega) ?_
  refine j_iload_n 5 dX2_finds_4 rfl 1 rfl ?_
  refine j_bipush (v := (32 : Int32)) 7 dX2_finds_5 rfl (by decide) ?_
  refine j_icmp_geN s 32 10 23 dX2_finds_7 rfl rfl (by omega) (by decide) (fun h7 => absurd h7 (by omega)) (fun h7 => ?_)
  refine j_aload_n 11 dX2_finds_10 rfl 0 rfl ?_
  refine j_getf 14 0 dX2_finds_11 rfl fd_X2_36 rfl rfl ?_
  refine j_iload_n 15 dX2_finds_14 rfl 1 rfl ?_
  refine j_ialdR s 16 4 dX2_finds_15 rfl rfl hs (by decide) ?_
  refine j_if_lt 19 23 dX2_finds_16 rfl rfl (fun h16 => ?_) (fun h16 => ?_)
  ·
    refine j_iconst (v := (0 : Int32)) 24 dX2_finds_23 rfl (by decide) ?_
    refine j_iret0 (c := ¬ zeF s < 0) dX2_finds_24 rfl ?_ ⟨gLe rfl, gLe rfl, rfl, rfl⟩
    first
      | exact h16
      | exact fun y => y h16
  ·
    refine j_iconst (v := (1 : Int32)) 20 dX2_finds_19 rfl (by decide) ?_
    refine j_goto 24 dX2_finds_20 rfl ?_
    refine j_iret1 (c := ¬ zeF s < 0) dX2_finds_24 rfl ?_ ⟨gLe rfl, gLe rfl, rfl, rfl⟩
    first
      | exact h16
      | exact fun y => y h16
def sfN (F : Nat → Int32) : Nat → Nat
  | 0 => 0
  | s + 1 => sfN F s + (if ¬ F s < 0 then 1 else 0)
theorem sfN_le (F : Nat → Int32) : ∀ s, sfN F s ≤ s
  | 0 => Nat.le_refl 0
  | s + 1 => by
    have h := sfN_le F s
    show sfN F s + _ ≤ s + 1
    split <;> omega
set_option maxRecDepth 20000 in
theorem c_X2_standingsFound (g : gG) (ea : Nat) (et : Nat) (el : Option Nat) (es : Nat) (em : Nat) (en : Nat) (ec : Nat) (ep : Nat) (eb : Nat) (ef : Nat) (zeC : Nat → Nat) (zeP : Nat → Int32) (zeB : Nat → Nat) (zeF : Nat → Int32)    : gCon g mX2_standingsFound 1 0 0 [.ref ea] [(ea, .inr (2, [.ref et, va_rf el, .int (nI es), .int (nI em), .int (nI en), .ref ec, .ref ep, .ref eb, .ref ef])), (ec, .inl (g.2.1 0, 7776, .inl (nF zeC))), (ep, .inl (g.2.1 0, 7776, .inl zeP)), (eb, .inl (g.2.1 1, 7776, .inl (nF zeB))), (ef, .inl (g.2.1 0, 32, .inl zeF))] (fun rv ws' => rv = some (.int (nI (sfN zeF 32))) ∧ ws' = [(ea, .inr (2, [.ref et, va_rf el, .int (nI es), .int (nI em), .int (nI en), .ref ec, .ref ep, .ref eb, .ref ef])), (ec, .inl (g.2.1 0, 7776, .inl (nF zeC))), (ep, .inl (g.2.1 0, 7776, .inl zeP)), (eb, .inl (g.2.1 1, 7776, .inl (nF zeB))), (ef, .inl (g.2.1 0, 32, .inl zeF))]) := by
  refine gCon.of (lv := [(0, .ref ea)]) (by decide) (gLe rfl) rfl ?_
  refine j_iconst (v := (0 : Int32)) 1 dX2_standingsFound_0 rfl (by decide) ?_
  refine j_istore_n 2 [(1, .int (0 : Int32)), (0, .ref ea)] dX2_standingsFound_1 rfl (by decide) rfl ?_
  refine j_iconst (v := (0 : Int32)) 3 dX2_standingsFound_2 rfl (by decide) ?_
  refine j_istore_n 4 [(2, .int (0 : Int32)), (1, .int (0 : Int32)), (0, .ref ea)] dX2_standingsFound_3 rfl (by decide) rfl ?_
  have hL4 : ∀ (zm4 : Nat) (zi : Nat), 32 - zi < zm4 → (zi ≤ 32) → gJ g mX2_standingsFound 1 0 0 (fun k' j' rv ws' => k' ≤ 0 ∧ j' ≤ 0 ∧ (rv = some (.int (nI (sfN zeF 32))) ∧ ws' = [(ea, .inr (2, [.ref et, va_rf el, .int (nI es), .int (nI em), .int (nI en), .ref ec, .ref ep, .ref eb, .ref ef])), (ec, .inl (g.2.1 0, 7776, .inl (nF zeC))), (ep, .inl (g.2.1 0, 7776, .inl zeP)), (eb, .inl (g.2.1 1, 7776, .inl (nF zeB))), (ef, .inl (g.2.1 0, 32, .inl zeF))])) 0 0 4 [(2, .int (nI zi)), (1, .int (nI (sfN zeF zi))), (0, .ref ea)] [] [(ea, .inr (2, [.ref et, va_rf el, .int (nI es), .int (nI em), .int (nI en), .ref ec, .ref ep, .ref eb, .ref ef])), (ec, .inl (g.2.1 0, 7776, .inl (nF zeC))), (ep, .inl (g.2.1 0, 7776, .inl zeP)), (eb, .inl (g.2.1 1, 7776, .inl (nF zeB))), (ef, .inl (g.2.1 0, 32, .inl zeF))] := by
    intro zm4
    induction zm4 with
    | zero => intro zi zmh; exact absurd zmh (Nat.not_lt_zero _)
    | succ zm4 zih4 =>
      intro zi zmh4 hzi
      refine j_iload_n 5 dX2_standingsFound_4 rfl 0 rfl ?_
      refine j_bipush (v := (32 : Int32)) 7 dX2_standingsFound_5 rfl (by decide) ?_
      refine j_icmp_geN zi 32 10 27 dX2_standingsFound_7 rfl rfl (by omega) (by decide) (fun h7 => ?_) (fun h7 => ?_)
      ·
        refine j_iload_n 28 dX2_standingsFound_27 rfl 1 rfl ?_
        refine j_iretI dX2_standingsFound_28 rfl ⟨gLe rfl, gLe rfl, ?_⟩
        have ye : zi = 32 := by omega
        rw [ye]
        exact ⟨rfl, rfl⟩
      ·
        refine j_aload_n 11 dX2_standingsFound_10 rfl 2 rfl ?_
        refine j_iload_n 12 dX2_standingsFound_11 rfl 0 rfl ?_
        refine j_callV0 (rest := []) 15 [0, 1, 2, 3, 4] (c_X2_finds g ea et el es em en ec ep eb ef zeC zeP zeB zeF zi (by omega)) [.int (gB (¬ zeF zi < 0))] [(ea, .inr (2, [.ref et, va_rf el, .int (nI es), .int (nI em), .int (nI en), .ref ec, .ref ep, .ref eb, .ref ef])), (ec, .inl (g.2.1 0, 7776, .inl (nF zeC))), (ep, .inl (g.2.1 0, 7776, .inl zeP)), (eb, .inl (g.2.1 1, 7776, .inl (nF zeB))), (ef, .inl (g.2.1 0, 32, .inl zeF))] dX2_standingsFound_12 rfl cv_X2_89 rfl rfl rfl rfl 0 rfl rfl (gLe rfl) (gLe rfl) (gLe rfl) (gLe rfl) (gLe rfl) rfl rfl ?_
        refine j_if_eqB 18 21 dX2_standingsFound_15 rfl rfl (fun h15 => ?_) (fun h15 => ?_)
        ·
          refine j_iincN zi 1 24 [(2, .int (nI (zi + 1))), (1, .int (nI (sfN zeF zi))), (0, .ref ea)] dX2_standingsFound_21 rfl 0 rfl (by decide) rfl ?_
          refine j_goto 4 dX2_standingsFound_24 rfl ?_
          refine j_lv [0, 1, 2] rfl ?_
          refine j_lvs [(2, .int (nI (zi + 1))), (1, .int (nI (sfN zeF (zi + 1)))), (0, .ref ea)] (by rw [show sfN zeF (zi + 1) = sfN zeF zi from congrArg (sfN zeF zi + ·) (if_neg h15)]; rfl) ?_
          exact zih4 (zi + 1) (by omega) (by omega)
        ·
          refine j_iincN (sfN zeF zi) 1 21 [(1, .int (nI (sfN zeF zi + 1))), (2, .int (nI zi)), (0, .ref ea)] dX2_standingsFound_18 rfl 1 rfl (by decide) rfl ?_
          refine j_iincN zi 1 24 [(2, .int (nI (zi + 1))), (1, .int (nI (sfN zeF zi + 1))), (0, .ref ea)] dX2_standingsFound_21 rfl 1 rfl (by decide) rfl ?_
          refine j_goto 4 dX2_standingsFound_24 rfl ?_
          refine j_lv [0, 1, 2] rfl ?_
          refine j_lvs [(2, .int (nI (zi + 1))), (1, .int (nI (sfN zeF (zi + 1)))), (0, .ref ea)] (by rw [show sfN zeF (zi + 1) = sfN zeF zi + 1 from congrArg (sfN zeF zi + ·) (if_pos h15)]; rfl) ?_
          exact zih4 (zi + 1) (by omega) (by omega)
  refine j_lv [0, 1, 2] rfl ?_
  exact hL4 _ 0 (Nat.lt_succ_self _) (Nat.zero_le _)
set_option maxRecDepth 20000 in
theorem c_X2_lengthTo (g : gG) (ea : Nat) (et : Nat) (el : Option Nat) (es : Nat) (em : Nat) (en : Nat) (ec : Nat) (ep : Nat) (eb : Nat) (ef : Nat) (zeC : Nat → Nat) (zeP : Nat → Int32) (zeB : Nat → Nat) (zeF : Nat → Int32) (s : Nat) (f : Nat) (pr : Nat → Nat) (dp : Nat → Nat) (hs : s < 32) (hn : en ≤ 7776) (hf : f < en) (hF : zeF s = nI f) (h0 : zeP 0 = -1) (hp : ∀ i, 0 < i → i < en → zeP i = nI (pr i) ∧ pr i / 8 < i ∧ pr i < 62208) (hd0 : dp 0 = 0) (hd : ∀ i, 0 < i → i < en → dp i = dp (pr i / 8) + 1) (hdf : dp f ≤ f) : gCon g mX2_lengthTo 1 0 0 [.ref ea, .int (nI s)] [(ea, .inr (2, [.ref et, va_rf el, .int (nI es), .int (nI em), .int (nI en), .ref ec, .ref ep, .ref eb, .ref ef])), (ec, .inl (g.2.1 0, 7776, .inl (nF zeC))), (ep, .inl (g.2.1 0, 7776, .inl zeP)), (eb, .inl (g.2.1 1, 7776, .inl (nF zeB))), (ef, .inl (g.2.1 0, 32, .inl zeF))] (fun rv ws' => rv = some (.int (nI (dp f))) ∧ ws' = [(ea, .inr (2, [.ref et, va_rf el, .int (nI es), .int (nI em), .int (nI en), .ref ec, .ref ep, .ref eb, .ref ef])), (ec, .inl (g.2.1 0, 7776, .inl (nF zeC))), (ep, .inl (g.2.1 0, 7776, .inl zeP)), (eb, .inl (g.2.1 1, 7776, .inl (nF zeB))), (ef, .inl (g.2.1 0, 32, .inl zeF))]) := by
  refine gCon.of (lv := [(0, .ref ea), (1, .int (nI s))]) (by decide) (gLe rfl) rfl ?_
  have hfi : ¬ zeF s < 0 := by rw [hF]; exact nI_pos (by omega)
  refine j_aload_n 1 dX2_lengthTo_0 rfl 0 rfl ?_
  refine j_iload_n 2 dX2_lengthTo_1 rfl 1 rfl ?_
  refine j_callV0 (rest := []) 5 [0, 1, 2, 3, 4] (c_X2_finds g ea et el es em en ec ep eb ef zeC zeP zeB zeF s hs) [.int (gB (¬ zeF s < 0))] [(ea, .inr (2, [.ref et, va_rf el, .int (nI es), .int (nI em), .int (nI en), .ref ec, .ref ep, .ref eb, .ref ef])), (ec, .inl (g.2.1 0, 7776, .inl (nF zeC))), (ep, .inl (g.2.1 0, 7776, .inl zeP)), (eb, .inl (g.2.1 1, 7776, .inl (nF zeB))), (ef, .inl (g.2.1 0, 32, .inl zeF))] dX2_lengthTo_2 rfl cv_X2_89 rfl rfl rfl rfl 0 rfl rfl (gLe rfl) (gLe rfl) (gLe rfl) (gLe rfl) (gLe rfl) rfl rfl ?_
  refine j_if_neB 8 10 dX2_lengthTo_5 rfl rfl (fun h5 => ?_) (fun h5 => absurd hfi h5)
  refine j_iconst (v := (0 : Int32)) 11 dX2_lengthTo_10 rfl (by decide) ?_
  refine j_istore_n 12 [(2, .int (0 : Int32)), (0, .ref ea), (1, .int (nI s))] dX2_lengthTo_11 rfl (by decide) rfl ?_
  refine j_aload_n 13 dX2_lengthTo_12 rfl 1 rfl ?_
  refine j_getf 16 0 dX2_lengthTo_13 rfl fd_X2_36 rfl rfl ?_
  refine j_iload_n 17 dX2_lengthTo_16 rfl 2 rfl ?_
  refine j_ialdR s 18 4 dX2_lengthTo_17 rfl rfl hs (by decide) ?_
  refine j_topI (zeF s) (nI f) hF ?_
  refine j_istore_n 19 [(3, .int (nI f)), (2, .int (0 : Int32)), (0, .ref ea), (1, .int (nI s))] dX2_lengthTo_18 rfl (by decide) rfl ?_
  have hL19 : ∀ (zm19 : Nat) (zl : Nat) (za : Nat), za < zm19 → (za < en) → (zl + dp za = dp f) → gJ g mX2_lengthTo 1 0 0 (fun k' j' rv ws' => k' ≤ 0 ∧ j' ≤ 0 ∧ (rv = some (.int (nI (dp f))) ∧ ws' = [(ea, .inr (2, [.ref et, va_rf el, .int (nI es), .int (nI em), .int (nI en), .ref ec, .ref ep, .ref eb, .ref ef])), (ec, .inl (g.2.1 0, 7776, .inl (nF zeC))), (ep, .inl (g.2.1 0, 7776, .inl zeP)), (eb, .inl (g.2.1 1, 7776, .inl (nF zeB))), (ef, .inl (g.2.1 0, 32, .inl zeF))])) 0 0 19 [(3, .int (nI za)), (2, .int (nI zl)), (0, .ref ea), (1, .int (nI s))] [] [(ea, .inr (2, [.ref et, va_rf el, .int (nI es), .int (nI em), .int (nI en), .ref ec, .ref ep, .ref eb, .ref ef])), (ec, .inl (g.2.1 0, 7776, .inl (nF zeC))), (ep, .inl (g.2.1 0, 7776, .inl zeP)), (eb, .inl (g.2.1 1, 7776, .inl (nF zeB))), (ef, .inl (g.2.1 0, 32, .inl zeF))] := by
    intro zm19
    induction zm19 with
    | zero => intro zl za zmh; exact absurd zmh (Nat.not_lt_zero _)
    | succ zm19 zih19 =>
      intro zl za zmh19 hza hzl
      refine j_iload_n 20 dX2_lengthTo_19 rfl 1 rfl ?_
      refine j_sipush (v := (7776 : Int32)) 23 dX2_lengthTo_20 rfl (by decide) ?_
      refine j_icmp_geN zl 7776 26 51 dX2_lengthTo_23 rfl rfl (by have z0 := hzl; have z1 := hdf; have z2 := hf; have z3 := hn; omega) (by decide) (fun h23 => absurd h23 (by omega)) (fun h23 => ?_)
      refine j_aload_n 27 dX2_lengthTo_26 rfl 2 rfl ?_
      refine j_getf 30 0 dX2_lengthTo_27 rfl fd_X2_29 rfl rfl ?_
      refine j_iload_n 31 dX2_lengthTo_30 rfl 0 rfl ?_
      refine j_ialdR za 32 2 dX2_lengthTo_31 rfl rfl (by omega) (by decide) ?_
      refine j_if_lt 35 51 dX2_lengthTo_32 rfl rfl (fun h32 => ?_) (fun h32 => ?_)
      ·
        refine j_iload_n 52 dX2_lengthTo_51 rfl 1 rfl ?_
        refine j_iretI dX2_lengthTo_52 rfl ⟨gLe rfl, gLe rfl, ?_⟩
        have ye : za = 0 := Classical.byContradiction fun y => by have y2 := hp za (by omega) hza; rw [y2.1] at h32; exact nI_pos (by omega) h32
        rw [ye, hd0] at hzl
        exact ⟨congrArg (fun z => some (Value.int (nI z))) hzl, rfl⟩
      ·
        have hza0 : ¬ za = 0 := fun y => h32 (by rw [y, h0]; decide)
        have hpp := hp za (by omega) hza
        refine j_aload_n 36 dX2_lengthTo_35 rfl 2 rfl ?_
        refine j_getf 39 0 dX2_lengthTo_36 rfl fd_X2_29 rfl rfl ?_
        refine j_iload_n 40 dX2_lengthTo_39 rfl 0 rfl ?_
        refine j_ialdR za 41 2 dX2_lengthTo_40 rfl rfl (by omega) (by decide) ?_
        refine j_topI (zeP za) (nI (pr za)) hpp.1 ?_
        refine j_bipush (v := (8 : Int32)) 43 dX2_lengthTo_41 rfl (by decide) ?_
        refine j_idivN (pr za) 8 44 dX2_lengthTo_43 rfl (by have z0 := hpp.2.2; omega) (by decide) (by decide) ?_
        refine j_istore_n 45 [(3, .int (nI ((pr za) / 8))), (2, .int (nI zl)), (0, .ref ea), (1, .int (nI s))] dX2_lengthTo_44 rfl (by decide) rfl ?_
        refine j_iincN zl 1 48 [(2, .int (nI (zl + 1))), (3, .int (nI ((pr za) / 8))), (0, .ref ea), (1, .int (nI s))] dX2_lengthTo_45 rfl 1 rfl (by decide) rfl ?_
        refine j_goto 19 dX2_lengthTo_48 rfl ?_
        refine j_lv [1, 0, 2, 3] rfl ?_
        exact zih19 (zl + 1) (pr za / 8) (by omega) (by omega) (by have y := hd za (by omega) hza; omega)
  refine j_lv [0, 1, 2, 3] rfl ?_
  exact hL19 _ 0 f (Nat.lt_succ_self _) hf (Nat.zero_add _)
set_option maxRecDepth 20000 in
theorem c_X2_beastBefore (g : gG) (ea : Nat) (et : Nat) (el : Option Nat) (es : Nat) (em : Nat) (en : Nat) (ec : Nat) (ep : Nat) (eb : Nat) (ef : Nat) (zeC : Nat → Nat) (zeP : Nat → Int32) (zeB : Nat → Nat) (zeF : Nat → Int32) (s : Nat) (o : Nat) (f : Nat) (pr : Nat → Nat) (hs : s < 32) (hn : en ≤ 7776) (hf : f < en) (hF : zeF s = nI f) (h0 : zeP 0 = -1) (hp : ∀ i, 0 < i → i < en → zeP i = nI (pr i) ∧ pr i / 8 < i ∧ pr i < 62208) (ho : ∀ i, i ≤ o → 0 < anc pr f i ∧ anc pr f i < en) (ho2 : o < 7776) : gCon g mX2_beastBefore 1 0 0 [.ref ea, .int (nI s), .int (nI o)] [(ea, .inr (2, [.ref et, va_rf el, .int (nI es), .int (nI em), .int (nI en), .ref ec, .ref ep, .ref eb, .ref ef])), (ec, .inl (g.2.1 0, 7776, .inl (nF zeC))), (ep, .inl (g.2.1 0, 7776, .inl zeP)), (eb, .inl (g.2.1 1, 7776, .inl (nF zeB))), (ef, .inl (g.2.1 0, 32, .inl zeF))] (fun rv ws' => rv = some (.int (nI (pr (anc pr f o) % 8))) ∧ ws' = [(ea, .inr (2, [.ref et, va_rf el, .int (nI es), .int (nI em), .int (nI en), .ref ec, .ref ep, .ref eb, .ref ef])), (ec, .inl (g.2.1 0, 7776, .inl (nF zeC))), (ep, .inl (g.2.1 0, 7776, .inl zeP)), (eb, .inl (g.2.1 1, 7776, .inl (nF zeB))), (ef, .inl (g.2.1 0, 32, .inl zeF))]) := by
  refine gCon.of (lv := [(0, .ref ea), (1, .int (nI s)), (2, .int (nI o))]) (by decide) (gLe rfl) rfl ?_
  have hfi : ¬ zeF s < 0 := by rw [hF]; exact nI_pos (by omega)
  refine j_aload_n 1 dX2_beastBefore_0 rfl 0 rfl ?_
  refine j_iload_n 2 dX2_beastBefore_1 rfl 1 rfl ?_
  refine j_callV0 (rest := []) 5 [0, 1, 2, 3, 4] (c_X2_finds g ea et el es em en ec ep eb ef zeC zeP zeB zeF s hs) [.int (gB (¬ zeF s < 0))] [(ea, .inr (2, [.ref et, va_rf el, .int (nI es), .int (nI em), .int (nI en), .ref ec, .ref ep, .ref eb, .ref ef])), (ec, .inl (g.2.1 0, 7776, .inl (nF zeC))), (ep, .inl (g.2.1 0, 7776, .inl zeP)), (eb, .inl (g.2.1 1, 7776, .inl (nF zeB))), (ef, .inl (g.2.1 0, 32, .inl zeF))] dX2_beastBefore_2 rfl cv_X2_89 rfl rfl rfl rfl 0 rfl rfl (gLe rfl) (gLe rfl) (gLe rfl) (gLe rfl) (gLe rfl) rfl rfl ?_
  refine j_if_neB 8 11 dX2_beastBefore_5 rfl rfl (fun h5 => ?_) (fun h5 => absurd hfi h5)
  refine j_aload_n 12 dX2_beastBefore_11 rfl 0 rfl ?_
  refine j_getf 15 0 dX2_beastBefore_12 rfl fd_X2_36 rfl rfl ?_
  refine j_iload_n 16 dX2_beastBefore_15 rfl 1 rfl ?_
  refine j_ialdR s 17 4 dX2_beastBefore_16 rfl rfl hs (by decide) ?_
  refine j_topI (zeF s) (nI f) hF ?_
  refine j_istore_n 18 [(3, .int (nI f)), (0, .ref ea), (1, .int (nI s)), (2, .int (nI o))] dX2_beastBefore_17 rfl (by decide) rfl ?_
  refine j_iconst (v := (0 : Int32)) 19 dX2_beastBefore_18 rfl (by decide) ?_
  refine j_istore 21 [(4, .int (0 : Int32)), (3, .int (nI f)), (0, .ref ea), (1, .int (nI s)), (2, .int (nI o))] dX2_beastBefore_19 rfl (by decide) rfl ?_
  have hL21 : ∀ (zm21 : Nat) (zi : Nat), o - zi < zm21 → (zi ≤ o) → gJ g mX2_beastBefore 1 0 0 (fun k' j' rv ws' => k' ≤ 0 ∧ j' ≤ 0 ∧ (rv = some (.int (nI (pr (anc pr f o) % 8))) ∧ ws' = [(ea, .inr (2, [.ref et, va_rf el, .int (nI es), .int (nI em), .int (nI en), .ref ec, .ref ep, .ref eb, .ref ef])), (ec, .inl (g.2.1 0, 7776, .inl (nF zeC))), (ep, .inl (g.2.1 0, 7776, .inl zeP)), (eb, .inl (g.2.1 1, 7776, .inl (nF zeB))), (ef, .inl (g.2.1 0, 32, .inl zeF))])) 0 0 21 [(4, .int (nI zi)), (3, .int (nI (anc pr f zi))), (0, .ref ea), (1, .int (nI s)), (2, .int (nI o))] [] [(ea, .inr (2, [.ref et, va_rf el, .int (nI es), .int (nI em), .int (nI en), .ref ec, .ref ep, .ref eb, .ref ef])), (ec, .inl (g.2.1 0, 7776, .inl (nF zeC))), (ep, .inl (g.2.1 0, 7776, .inl zeP)), (eb, .inl (g.2.1 1, 7776, .inl (nF zeB))), (ef, .inl (g.2.1 0, 32, .inl zeF))] := by
    intro zm21
    induction zm21 with
    | zero => intro zi zmh; exact absurd zmh (Nat.not_lt_zero _)
    | succ zm21 zih21 =>
      intro zi zmh21 hzi
      refine j_iload 23 dX2_beastBefore_21 rfl 0 rfl ?_
      refine j_iload_n 24 dX2_beastBefore_23 rfl 4 rfl ?_
      have hza := ho zi hzi
      have hpp := hp _ hza.1 hza.2
      refine j_icmp_geN zi o 27 52 dX2_beastBefore_24 rfl rfl (by omega) (by have z0 := ho2; omega) (fun h24 => ?_) (fun h24 => ?_)
      ·
        refine j_aload_n 53 dX2_beastBefore_52 rfl 2 rfl ?_
        refine j_getf 56 0 dX2_beastBefore_53 rfl fd_X2_29 rfl rfl ?_
        refine j_iload_n 57 dX2_beastBefore_56 rfl 1 rfl ?_
        refine j_ialdR (anc pr f zi) 58 2 dX2_beastBefore_57 rfl rfl (by omega) (by decide) ?_
        refine j_topI (zeP (anc pr f zi)) (nI (pr (anc pr f zi))) hpp.1 ?_
        refine j_if_ltN (pr (anc pr f zi)) 61 dX2_beastBefore_58 rfl (t := 73) rfl (by have z0 := hpp.2.2; omega) ?_
        refine j_aload_n 62 dX2_beastBefore_61 rfl 2 rfl ?_
        refine j_getf 65 0 dX2_beastBefore_62 rfl fd_X2_29 rfl rfl ?_
        refine j_iload_n 66 dX2_beastBefore_65 rfl 1 rfl ?_
        refine j_ialdR (anc pr f zi) 67 2 dX2_beastBefore_66 rfl rfl (by omega) (by decide) ?_
        refine j_topI (zeP (anc pr f zi)) (nI (pr (anc pr f zi))) hpp.1 ?_
        refine j_bipush (v := (8 : Int32)) 69 dX2_beastBefore_67 rfl (by decide) ?_
        refine j_iremN (pr (anc pr f zi)) 8 70 dX2_beastBefore_69 rfl (by have z0 := hpp.2.2; omega) (by decide) (by decide) ?_
        refine j_goto 75 dX2_beastBefore_70 rfl ?_
        refine j_iretI dX2_beastBefore_75 rfl ⟨gLe rfl, gLe rfl, ?_⟩
        have ye : zi = o := by omega
        subst ye
        exact ⟨rfl, rfl⟩
      ·
        refine j_aload_n 28 dX2_beastBefore_27 rfl 2 rfl ?_
        refine j_getf 31 0 dX2_beastBefore_28 rfl fd_X2_29 rfl rfl ?_
        refine j_iload_n 32 dX2_beastBefore_31 rfl 1 rfl ?_
        refine j_ialdR (anc pr f zi) 33 2 dX2_beastBefore_32 rfl rfl (by omega) (by decide) ?_
        refine j_topI (zeP (anc pr f zi)) (nI (pr (anc pr f zi))) hpp.1 ?_
        refine j_if_ltN (pr (anc pr f zi)) 36 dX2_beastBefore_33 rfl (t := 52) rfl (by have z0 := hpp.2.2; omega) ?_
        refine j_aload_n 37 dX2_beastBefore_36 rfl 2 rfl ?_
        refine j_getf 40 0 dX2_beastBefore_37 rfl fd_X2_29 rfl rfl ?_
        refine j_iload_n 41 dX2_beastBefore_40 rfl 1 rfl ?_
        refine j_ialdR (anc pr f zi) 42 2 dX2_beastBefore_41 rfl rfl (by omega) (by decide) ?_
        refine j_topI (zeP (anc pr f zi)) (nI (pr (anc pr f zi))) hpp.1 ?_
        refine j_bipush (v := (8 : Int32)) 44 dX2_beastBefore_42 rfl (by decide) ?_
        refine j_idivN (pr (anc pr f zi)) 8 45 dX2_beastBefore_44 rfl (by have z0 := hpp.2.2; omega) (by decide) (by decide) ?_
        refine j_istore_n 46 [(3, .int (nI ((pr (anc pr f zi)) / 8))), (4, .int (nI zi)), (0, .ref ea), (1, .int (nI s)), (2, .int (nI o))] dX2_beastBefore_45 rfl (by decide) rfl ?_
        refine j_iincN zi 1 49 [(4, .int (nI (zi + 1))), (3, .int (nI ((pr (anc pr f zi)) / 8))), (0, .ref ea), (1, .int (nI s)), (2, .int (nI o))] dX2_beastBefore_46 rfl 1 rfl (by decide) rfl ?_
        refine j_goto 21 dX2_beastBefore_49 rfl ?_
        refine j_lv [0, 1, 2, 3, 4] rfl ?_
        exact zih21 (zi + 1) (by omega) (by omega)
  refine j_lv [0, 1, 2, 3, 4] rfl ?_
  exact hL21 _ 0 (Nat.lt_succ_self _) (Nat.zero_le _)
