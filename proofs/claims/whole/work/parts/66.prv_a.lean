theorem inB {b : Int32} {n : Nat} (hn : n < 2147483648) : (¬ b < 0 ∧ ¬ nI n ≤ b) ↔ inR b n := by
  rw [i32_neg, Int32.le_iff_toInt_le, nI_toInt hn]
  unfold inR
  omega
theorem inB8 {b : Int32} : (¬ b < 0 ∧ ¬ (8 : Int32) ≤ b) ↔ inR b 8 := inB (n := 8) (by decide)
theorem inF2 {b : Int32} : (b = 0 ∨ b = 1) ↔ inR b 2 := by
  unfold inR
  rw [← Int32.toInt_inj, ← Int32.toInt_inj]
  have e0 : (0 : Int32).toInt = 0 := by decide
  have e1 : (1 : Int32).toInt = 1 := by decide
  omega
/-- what is wrong with a span of a row -/
def fdK (z i n : Int32) : Nat := if z = -1 then 1 else if (0 ≤ i.toInt ∧ 0 ≤ n.toInt ∧ i.toInt + n.toInt ≤ z.toInt) then 0 else 2
set_option maxRecDepth 20000 in
theorem c_X5_noFold (g : gG) (xa : Nat) (xr : Nat) (xk : Nat) (xn : Nat) (xt : Nat) (xu : Nat) (xc : Nat) (xi : Nat) (xj : Nat) (xm : Nat) (so : Option Nat) (xd : Nat) (xe : Nat) (xf : Nat) (xg : Nat) (p0 : Nat) (ns : Nat) (sb : Nat) (sc : Nat) (sd : Nat) (pp : Nat) (ph : Nat) (pb : Nat) (p1 : Nat) (p2 : Nat) (p3 : Nat) (p4 : Nat) (p5 : Nat) (p6 : Nat)   (h5 : ph ≤ 5) : gCon g mX5_noFold 0 0 0 [.ref xa] [(xa, .inr (5, [.ref xr, .ref xk, .ref xn, .ref xt, .ref xu, .ref xc, .int (nI xi), .int (nI xj), .ref xm, va_rf so, .ref xd, .int (nI xe), .int (nI xf), .int (nI xg)])), (xn, .inr (3, [.ref p0, .int (nI ns), .ref sb, .ref sc, .ref sd])), (p0, .inr (0, [.int (nI pp), .int (nI ph), .int (nI pb), .ref p1, .ref p2, .ref p3, .ref p4, .ref p5, .ref p6]))] (fun rv ws' => rv = some (.int (gB (ph = 0))) ∧ ws' = [(xa, .inr (5, [.ref xr, .ref xk, .ref xn, .ref xt, .ref xu, .ref xc, .int (nI xi), .int (nI xj), .ref xm, va_rf so, .ref xd, .int (nI xe), .int (nI xf), .int (nI xg)])), (xn, .inr (3, [.ref p0, .int (nI ns), .ref sb, .ref sc, .ref sd])), (p0, .inr (0, [.int (nI pp), .int (nI ph), .int (nI pb), .ref p1, .ref p2, .ref p3, .ref p4, .ref p5, .ref p6]))]) := by
  refine gCon.of (lv := [(0, .ref xa)]) (by decide) (gLe rfl) rfl ?_
  refine j_aload_n 1 dX5_noFold_0 rfl 0 rfl ?_
  refine j_getf 4 0 dX5_noFold_1 rfl fd_X5_61 rfl rfl ?_
  refine j_getf 7 1 dX5_noFold_4 rfl fd_X5_180 rfl rfl ?_
  refine j_getf 10 2 dX5_noFold_7 rfl fd_X5_147 rfl rfl ?_
  refine j_if_neN ph 13 17 dX5_noFold_10 rfl rfl (by have z0 := h5; omega) (fun h10 => ?_) (fun h10 => ?_)
  ·
    refine j_iconst (v := (0 : Int32)) 18 dX5_noFold_17 rfl (by decide) ?_
    refine j_iret0 (c := ph = 0) dX5_noFold_18 rfl ?_ ⟨gLe rfl, gLe rfl, rfl, rfl⟩
    first | exact h10 | exact fun y => h10 y
  ·
    refine j_iconst (v := (1 : Int32)) 14 dX5_noFold_13 rfl (by decide) ?_
    refine j_goto 18 dX5_noFold_14 rfl ?_
    refine j_iret1 (c := ph = 0) dX5_noFold_18 rfl ?_ ⟨gLe rfl, gLe rfl, rfl, rfl⟩
    first | exact h10 | exact fun y => h10 y
set_option maxRecDepth 20000 in
theorem c_X5_isBeast (g : gG) (xa : Nat) (xr : Nat) (xk : Nat) (xn : Nat) (xt : Nat) (xu : Nat) (xc : Nat) (xi : Nat) (xj : Nat) (xm : Nat) (so : Option Nat) (xd : Nat) (xe : Nat) (xf : Nat) (xg : Nat) (p0 : Nat) (ns : Nat) (sb : Nat) (sc : Nat) (sd : Nat) (pp : Nat) (ph : Nat) (pb : Nat) (p1 : Nat) (p2 : Nat) (p3 : Nat) (p4 : Nat) (p5 : Nat) (p6 : Nat) (b : Int32)  (h8 : pb ≤ 8) : gCon g mX5_isBeast 0 0 0 [.ref xa, .int b] [(xa, .inr (5, [.ref xr, .ref xk, .ref xn, .ref xt, .ref xu, .ref xc, .int (nI xi), .int (nI xj), .ref xm, va_rf so, .ref xd, .int (nI xe), .int (nI xf), .int (nI xg)])), (xn, .inr (3, [.ref p0, .int (nI ns), .ref sb, .ref sc, .ref sd])), (p0, .inr (0, [.int (nI pp), .int (nI ph), .int (nI pb), .ref p1, .ref p2, .ref p3, .ref p4, .ref p5, .ref p6]))] (fun rv ws' => rv = some (.int (gB (inR b pb))) ∧ ws' = [(xa, .inr (5, [.ref xr, .ref xk, .ref xn, .ref xt, .ref xu, .ref xc, .int (nI xi), .int (nI xj), .ref xm, va_rf so, .ref xd, .int (nI xe), .int (nI xf), .int (nI xg)])), (xn, .inr (3, [.ref p0, .int (nI ns), .ref sb, .ref sc, .ref sd])), (p0, .inr (0, [.int (nI pp), .int (nI ph), .int (nI pb), .ref p1, .ref p2, .ref p3, .ref p4, .ref p5, .ref p6]))]) := by
  refine gCon.of (lv := [(0, .ref xa), (1, .int b)]) (by decide) (gLe rfl) rfl ?_
  refine j_iload_n 1 dX5_isBeast_0 rfl 1 rfl ?_
  refine j_if_lt 4 22 dX5_isBeast_1 rfl rfl (fun h1 => ?_) (fun h1 => ?_)
  ·
    refine j_iconst (v := (0 : Int32)) 23 dX5_isBeast_22 rfl (by decide) ?_
    refine j_iret0 (c := inR b pb) dX5_isBeast_23 rfl ?_ ⟨gLe rfl, gLe rfl, rfl, rfl⟩
    first
      | exact (inB (show pb < 2147483648 by omega)).mp ⟨h1, h15⟩
      | exact fun y => ((inB (show pb < 2147483648 by omega)).mpr y).1 h1
      | exact fun y => ((inB (show pb < 2147483648 by omega)).mpr y).2 h15
  ·
    refine j_iload_n 5 dX5_isBeast_4 rfl 1 rfl ?_
    refine j_aload_n 6 dX5_isBeast_5 rfl 0 rfl ?_
    refine j_getf 9 0 dX5_isBeast_6 rfl fd_X5_61 rfl rfl ?_
    refine j_getf 12 1 dX5_isBeast_9 rfl fd_X5_180 rfl rfl ?_
    refine j_getf 15 2 dX5_isBeast_12 rfl fd_X5_279 rfl rfl ?_
    refine j_icmp_ge 18 22 dX5_isBeast_15 rfl rfl (fun h15 => ?_) (fun h15 => ?_)
    ·
      refine j_iconst (v := (0 : Int32)) 23 dX5_isBeast_22 rfl (by decide) ?_
      refine j_iret0 (c := inR b pb) dX5_isBeast_23 rfl ?_ ⟨gLe rfl, gLe rfl, rfl, rfl⟩
      first
        | exact (inB (show pb < 2147483648 by omega)).mp ⟨h1, h15⟩
        | exact fun y => ((inB (show pb < 2147483648 by omega)).mpr y).1 h1
        | exact fun y => ((inB (show pb < 2147483648 by omega)).mpr y).2 h15
    ·
      refine j_iconst (v := (1 : Int32)) 19 dX5_isBeast_18 rfl (by decide) ?_
      refine j_goto 23 dX5_isBeast_19 rfl ?_
      refine j_iret1 (c := inR b pb) dX5_isBeast_23 rfl ?_ ⟨gLe rfl, gLe rfl, rfl, rfl⟩
      first
        | exact (inB (show pb < 2147483648 by omega)).mp ⟨h1, h15⟩
        | exact fun y => ((inB (show pb < 2147483648 by omega)).mpr y).1 h1
        | exact fun y => ((inB (show pb < 2147483648 by omega)).mpr y).2 h15
set_option maxRecDepth 20000 in
theorem c_X5_isPen (g : gG) (xa : Nat) (xr : Nat) (xk : Nat) (xn : Nat) (xt : Nat) (xu : Nat) (xc : Nat) (xi : Nat) (xj : Nat) (xm : Nat) (so : Option Nat) (xd : Nat) (xe : Nat) (xf : Nat) (xg : Nat) (p0 : Nat) (ns : Nat) (sb : Nat) (sc : Nat) (sd : Nat) (pp : Nat) (ph : Nat) (pb : Nat) (p1 : Nat) (p2 : Nat) (p3 : Nat) (p4 : Nat) (p5 : Nat) (p6 : Nat) (b : Int32)  (h6 : pp ≤ 6) : gCon g mX5_isPen 0 0 0 [.ref xa, .int b] [(xa, .inr (5, [.ref xr, .ref xk, .ref xn, .ref xt, .ref xu, .ref xc, .int (nI xi), .int (nI xj), .ref xm, va_rf so, .ref xd, .int (nI xe), .int (nI xf), .int (nI xg)])), (xn, .inr (3, [.ref p0, .int (nI ns), .ref sb, .ref sc, .ref sd])), (p0, .inr (0, [.int (nI pp), .int (nI ph), .int (nI pb), .ref p1, .ref p2, .ref p3, .ref p4, .ref p5, .ref p6]))] (fun rv ws' => rv = some (.int (gB (inR b pp))) ∧ ws' = [(xa, .inr (5, [.ref xr, .ref xk, .ref xn, .ref xt, .ref xu, .ref xc, .int (nI xi), .int (nI xj), .ref xm, va_rf so, .ref xd, .int (nI xe), .int (nI xf), .int (nI xg)])), (xn, .inr (3, [.ref p0, .int (nI ns), .ref sb, .ref sc, .ref sd])), (p0, .inr (0, [.int (nI pp), .int (nI ph), .int (nI pb), .ref p1, .ref p2, .ref p3, .ref p4, .ref p5, .ref p6]))]) := by
  refine gCon.of (lv := [(0, .ref xa), (1, .int b)]) (by decide) (gLe rfl) rfl ?_
  refine j_iload_n 1 dX5_isPen_0 rfl 1 rfl ?_
  refine j_if_lt 4 22 dX5_isPen_1 rfl rfl (fun h1 => ?_) (fun h1 => ?_)
  ·
    refine j_iconst (v := (0 : Int32)) 23 dX5_isPen_22 rfl (by decide) ?_
    refine j_iret0 (c := inR b pp) dX5_isPen_23 rfl ?_ ⟨gLe rfl, gLe rfl, rfl, rfl⟩
    first
      | exact (inB (show pp < 2147483648 by omega)).mp ⟨h1, h15⟩
      | exact fun y => ((inB (show pp < 2147483648 by omega)).mpr y).1 h1
      | exact fun y => ((inB (show pp < 2147483648 by omega)).mpr y).2 h15
  ·
    refine j_iload_n 5 dX5_isPen_4 rfl 1 rfl ?_
    refine j_aload_n 6 dX5_isPen_5 rfl 0 rfl ?_
    refine j_getf 9 0 dX5_isPen_6 rfl fd_X5_61 rfl rfl ?_
    refine j_getf 12 1 dX5_isPen_9 rfl fd_X5_180 rfl rfl ?_
    refine j_getf 15 2 dX5_isPen_12 rfl fd_X5_259 rfl rfl ?_
    refine j_icmp_ge 18 22 dX5_isPen_15 rfl rfl (fun h15 => ?_) (fun h15 => ?_)
    ·
      refine j_iconst (v := (0 : Int32)) 23 dX5_isPen_22 rfl (by decide) ?_
      refine j_iret0 (c := inR b pp) dX5_isPen_23 rfl ?_ ⟨gLe rfl, gLe rfl, rfl, rfl⟩
      first
        | exact (inB (show pp < 2147483648 by omega)).mp ⟨h1, h15⟩
        | exact fun y => ((inB (show pp < 2147483648 by omega)).mpr y).1 h1
        | exact fun y => ((inB (show pp < 2147483648 by omega)).mpr y).2 h15
    ·
      refine j_iconst (v := (1 : Int32)) 19 dX5_isPen_18 rfl (by decide) ?_
      refine j_goto 23 dX5_isPen_19 rfl ?_
      refine j_iret1 (c := inR b pp) dX5_isPen_23 rfl ?_ ⟨gLe rfl, gLe rfl, rfl, rfl⟩
      first
        | exact (inB (show pp < 2147483648 by omega)).mp ⟨h1, h15⟩
        | exact fun y => ((inB (show pp < 2147483648 by omega)).mpr y).1 h1
        | exact fun y => ((inB (show pp < 2147483648 by omega)).mpr y).2 h15
set_option maxRecDepth 20000 in
theorem c_X5_isStanding (g : gG) (xa : Nat) (xr : Nat) (xk : Nat) (xn : Nat) (xt : Nat) (xu : Nat) (xc : Nat) (xi : Nat) (xj : Nat) (xm : Nat) (so : Option Nat) (xd : Nat) (xe : Nat) (xf : Nat) (xg : Nat) (p0 : Nat) (ns : Nat) (sb : Nat) (sc : Nat) (sd : Nat) (pp : Nat) (ph : Nat) (pb : Nat) (p1 : Nat) (p2 : Nat) (p3 : Nat) (p4 : Nat) (p5 : Nat) (p6 : Nat) (b : Int32)  (h5 : ph ≤ 5) : gCon g mX5_isStanding 0 0 0 [.ref xa, .int b] [(xa, .inr (5, [.ref xr, .ref xk, .ref xn, .ref xt, .ref xu, .ref xc, .int (nI xi), .int (nI xj), .ref xm, va_rf so, .ref xd, .int (nI xe), .int (nI xf), .int (nI xg)])), (xn, .inr (3, [.ref p0, .int (nI ns), .ref sb, .ref sc, .ref sd])), (p0, .inr (0, [.int (nI pp), .int (nI ph), .int (nI pb), .ref p1, .ref p2, .ref p3, .ref p4, .ref p5, .ref p6]))] (fun rv ws' => rv = some (.int (gB (inR b (2 ^ ph)))) ∧ ws' = [(xa, .inr (5, [.ref xr, .ref xk, .ref xn, .ref xt, .ref xu, .ref xc, .int (nI xi), .int (nI xj), .ref xm, va_rf so, .ref xd, .int (nI xe), .int (nI xf), .int (nI xg)])), (xn, .inr (3, [.ref p0, .int (nI ns), .ref sb, .ref sc, .ref sd])), (p0, .inr (0, [.int (nI pp), .int (nI ph), .int (nI pb), .ref p1, .ref p2, .ref p3, .ref p4, .ref p5, .ref p6]))]) := by
  refine gCon.of (lv := [(0, .ref xa), (1, .int b)]) (by decide) (gLe rfl) rfl ?_
  have hpw : 2 ^ ph ≤ 2 ^ 5 := Nat.pow_le_pow_right (by decide) h5
  refine j_iload_n 1 dX5_isStanding_0 rfl 1 rfl ?_
  refine j_if_lt 4 24 dX5_isStanding_1 rfl rfl (fun h1 => ?_) (fun h1 => ?_)
  ·
    refine j_iconst (v := (0 : Int32)) 25 dX5_isStanding_24 rfl (by decide) ?_
    refine j_iret0 (c := inR b (2 ^ ph)) dX5_isStanding_25 rfl ?_ ⟨gLe rfl, gLe rfl, rfl, rfl⟩
    first
      | exact (inB (n := 2 ^ ph) (by omega)).mp ⟨h1, h17⟩
      | exact fun y => ((inB (n := 2 ^ ph) (by omega)).mpr y).1 h1
      | exact fun y => ((inB (n := 2 ^ ph) (by omega)).mpr y).2 h17
  ·
    refine j_iload_n 5 dX5_isStanding_4 rfl 1 rfl ?_
    refine j_iconst (v := (1 : Int32)) 6 dX5_isStanding_5 rfl (by decide) ?_
    refine j_aload_n 7 dX5_isStanding_6 rfl 0 rfl ?_
    refine j_getf 10 0 dX5_isStanding_7 rfl fd_X5_61 rfl rfl ?_
    refine j_getf 13 1 dX5_isStanding_10 rfl fd_X5_180 rfl rfl ?_
    refine j_getf 16 2 dX5_isStanding_13 rfl fd_X5_147 rfl rfl ?_
    refine j_ishlN 1 ph 17 dX5_isStanding_16 rfl (by omega) (by omega) ?_
    refine j_topN (1 * 2 ^ ph) (2 ^ ph) (Nat.one_mul _) ?_
    refine j_icmp_ge 20 24 dX5_isStanding_17 rfl rfl (fun h17 => ?_) (fun h17 => ?_)
    ·
      refine j_iconst (v := (0 : Int32)) 25 dX5_isStanding_24 rfl (by decide) ?_
      refine j_iret0 (c := inR b (2 ^ ph)) dX5_isStanding_25 rfl ?_ ⟨gLe rfl, gLe rfl, rfl, rfl⟩
      first
        | exact (inB (n := 2 ^ ph) (by omega)).mp ⟨h1, h17⟩
        | exact fun y => ((inB (n := 2 ^ ph) (by omega)).mpr y).1 h1
        | exact fun y => ((inB (n := 2 ^ ph) (by omega)).mpr y).2 h17
    ·
      refine j_iconst (v := (1 : Int32)) 21 dX5_isStanding_20 rfl (by decide) ?_
      refine j_goto 25 dX5_isStanding_21 rfl ?_
      refine j_iret1 (c := inR b (2 ^ ph)) dX5_isStanding_25 rfl ?_ ⟨gLe rfl, gLe rfl, rfl, rfl⟩
      first
        | exact (inB (n := 2 ^ ph) (by omega)).mp ⟨h1, h17⟩
        | exact fun y => ((inB (n := 2 ^ ph) (by omega)).mpr y).1 h1
        | exact fun y => ((inB (n := 2 ^ ph) (by omega)).mpr y).2 h17
set_option maxRecDepth 20000 in
theorem c_X5_isRow (g : gG)  (b : Int32)   : gCon g mX5_isRow 0 0 0 [.int b] [] (fun rv ws' => rv = some (.int (gB (inR b 8))) ∧ ws' = []) := by
  refine gCon.of (lv := [(0, .int b)]) (by decide) (gLe rfl) rfl ?_
  refine j_iload_n 1 dX5_isRow_0 rfl 0 rfl ?_
  refine j_if_lt 4 14 dX5_isRow_1 rfl rfl (fun h1 => ?_) (fun h1 => ?_)
  ·
    refine j_iconst (v := (0 : Int32)) 15 dX5_isRow_14 rfl (by decide) ?_
    refine j_iret0 (c := inR b 8) dX5_isRow_15 rfl ?_ ⟨gLe rfl, gLe rfl, rfl, rfl⟩
    first
      | exact inB8.mp ⟨h1, h7⟩
      | exact fun y => (inB8.mpr y).1 h1
      | exact fun y => (inB8.mpr y).2 h7
  ·
    refine j_iload_n 5 dX5_isRow_4 rfl 0 rfl ?_
    refine j_bipush (v := (8 : Int32)) 7 dX5_isRow_5 rfl (by decide) ?_
    refine j_icmp_ge 10 14 dX5_isRow_7 rfl rfl (fun h7 => ?_) (fun h7 => ?_)
    ·
      refine j_iconst (v := (0 : Int32)) 15 dX5_isRow_14 rfl (by decide) ?_
      refine j_iret0 (c := inR b 8) dX5_isRow_15 rfl ?_ ⟨gLe rfl, gLe rfl, rfl, rfl⟩
      first
        | exact inB8.mp ⟨h1, h7⟩
        | exact fun y => (inB8.mpr y).1 h1
        | exact fun y => (inB8.mpr y).2 h7
    ·
      refine j_iconst (v := (1 : Int32)) 11 dX5_isRow_10 rfl (by decide) ?_
      refine j_goto 15 dX5_isRow_11 rfl ?_
      refine j_iret1 (c := inR b 8) dX5_isRow_15 rfl ?_ ⟨gLe rfl, gLe rfl, rfl, rfl⟩
      first
        | exact inB8.mp ⟨h1, h7⟩
        | exact fun y => (inB8.mpr y).1 h1
        | exact fun y => (inB8.mpr y).2 h7
set_option maxRecDepth 20000 in
theorem c_X5_isFirstOrSecond (g : gG)  (b : Int32)   : gCon g mX5_isFirstOrSecond 0 0 0 [.int b] [] (fun rv ws' => rv = some (.int (gB (inR b 2))) ∧ ws' = []) := by
  refine gCon.of (lv := [(0, .int b)]) (by decide) (gLe rfl) rfl ?_
  refine j_iload_n 1 dX5_isFirstOrSecond_0 rfl 0 rfl ?_
  refine j_if_eq 4 9 dX5_isFirstOrSecond_1 rfl rfl (fun h1 => ?_) (fun h1 => ?_)
  ·
    refine j_iconst (v := (1 : Int32)) 10 dX5_isFirstOrSecond_9 rfl (by decide) ?_
    refine j_goto 14 dX5_isFirstOrSecond_10 rfl ?_
    refine j_iret1 (c := inR b 2) dX5_isFirstOrSecond_14 rfl ?_ ⟨gLe rfl, gLe rfl, rfl, rfl⟩
    first
      | exact inF2.mp (Or.inl h1)
      | exact inF2.mp (Or.inr h6)
      | exact fun y => (inF2.mpr y).elim h1 h6
  ·
    refine j_iload_n 5 dX5_isFirstOrSecond_4 rfl 0 rfl ?_
    refine j_iconst (v := (1 : Int32)) 6 dX5_isFirstOrSecond_5 rfl (by decide) ?_
    refine j_icmp_ne 9 13 dX5_isFirstOrSecond_6 rfl rfl (fun h6 => ?_) (fun h6 => ?_)
    ·
      refine j_iconst (v := (0 : Int32)) 14 dX5_isFirstOrSecond_13 rfl (by decide) ?_
      refine j_iret0 (c := inR b 2) dX5_isFirstOrSecond_14 rfl ?_ ⟨gLe rfl, gLe rfl, rfl, rfl⟩
      first
        | exact inF2.mp (Or.inl h1)
        | exact inF2.mp (Or.inr h6)
        | exact fun y => (inF2.mpr y).elim h1 h6
    ·
      refine j_iconst (v := (1 : Int32)) 10 dX5_isFirstOrSecond_9 rfl (by decide) ?_
      refine j_goto 14 dX5_isFirstOrSecond_10 rfl ?_
      refine j_iret1 (c := inR b 2) dX5_isFirstOrSecond_14 rfl ?_ ⟨gLe rfl, gLe rfl, rfl, rfl⟩
      first
        | exact inF2.mp (Or.inl h1)
        | exact inF2.mp (Or.inr h6)
        | exact fun y => (inF2.mpr y).elim h1 h6
set_option maxRecDepth 20000 in
theorem c_X5_findingOf (g : gG) (xa : Nat) (xr : Nat) (xk : Nat) (xn : Nat) (xt : Nat) (xu : Nat) (xc : Nat) (xi : Nat) (xj : Nat) (xm : Nat) (so : Option Nat) (xd : Nat) (xe : Nat) (xf : Nat) (xg : Nat) (rf : Nat → Option Nat) (ra : Nat) (rb : Nat) (rl : Int32) (rz : Int32) (ri : Nat → Int32) (r : Nat) (i : Int32) (n : Int32)  (hz : -2 < rz.toInt ∧ rz.toInt ≤ 40) (hr : r < 8) (hrf : rf r = some ra) : gCon g mX5_findingOf 1 0 0 [.ref xa, .int (nI r), .int i, .int n] [(xa, .inr (5, [.ref xr, .ref xk, .ref xn, .ref xt, .ref xu, .ref xc, .int (nI xi), .int (nI xj), .ref xm, va_rf so, .ref xd, .int (nI xe), .int (nI xf), .int (nI xg)])), (xr, .inl (g.2.1 3, 8, .inr (.inr (.inr (.inr rf))))), (ra, .inr (1, [.ref rb, .int rl, .int rz])), (rb, .inl (g.2.1 0, 40, .inl ri))] (fun rv ws' => rv = some (.int (nI (fdK rz i n))) ∧ ws' = [(xa, .inr (5, [.ref xr, .ref xk, .ref xn, .ref xt, .ref xu, .ref xc, .int (nI xi), .int (nI xj), .ref xm, va_rf so, .ref xd, .int (nI xe), .int (nI xf), .int (nI xg)])), (xr, .inl (g.2.1 3, 8, .inr (.inr (.inr (.inr rf))))), (ra, .inr (1, [.ref rb, .int rl, .int rz])), (rb, .inl (g.2.1 0, 40, .inl ri))]) := by
  refine gCon.of (lv := [(0, .ref xa), (1, .int (nI r)), (2, .int i), (3, .int n)]) (by decide) (gLe rfl) rfl ?_
  refine j_aload_n 1 dX5_findingOf_0 rfl 0 rfl ?_
  refine j_getf 4 0 dX5_findingOf_1 rfl fd_X5_11 rfl rfl ?_
  refine j_iload_n 5 dX5_findingOf_4 rfl 1 rfl ?_
  refine j_aaldR (b := ra) 6 1 dX5_findingOf_5 rfl rfl (vp_in_nI hr (by decide)) (by rw [nI_clamp (by omega)]; exact hrf) ?_
  refine j_callV0 (rest := []) 9 [2, 3] (c_X1_isMissing g ra rb rl rz ri ) [.int (gB (rz = -1))] [(xa, .inr (5, [.ref xr, .ref xk, .ref xn, .ref xt, .ref xu, .ref xc, .int (nI xi), .int (nI xj), .ref xm, va_rf so, .ref xd, .int (nI xe), .int (nI xf), .int (nI xg)])), (xr, .inl (g.2.1 3, 8, .inr (.inr (.inr (.inr rf))))), (ra, .inr (1, [.ref rb, .int rl, .int rz])), (rb, .inl (g.2.1 0, 40, .inl ri))] dX5_findingOf_6 rfl cv_X5_96 rfl rfl rfl rfl 0 rfl rfl (gLe rfl) (gLe rfl) (gLe rfl) (gLe rfl) (gLe rfl) rfl rfl ?_
  refine j_if_eqB 12 14 dX5_findingOf_9 rfl rfl (fun h9 => ?_) (fun h9 => ?_)
  ·
    refine j_aload_n 15 dX5_findingOf_14 rfl 0 rfl ?_
    refine j_getf 18 0 dX5_findingOf_15 rfl fd_X5_11 rfl rfl ?_
    refine j_iload_n 19 dX5_findingOf_18 rfl 1 rfl ?_
    refine j_aaldR (b := ra) 20 1 dX5_findingOf_19 rfl rfl (vp_in_nI hr (by decide)) (by rw [nI_clamp (by omega)]; exact hrf) ?_
    refine j_iload_n 21 dX5_findingOf_20 rfl 2 rfl ?_
    refine j_iload_n 22 dX5_findingOf_21 rfl 3 rfl ?_
    refine j_callV0 (rest := []) 25 [2, 3] (c_X1_has g ra rb rl rz ri i n hz) [.int (gB ((0 ≤ i.toInt ∧ 0 ≤ n.toInt ∧ i.toInt + n.toInt ≤ rz.toInt)))] [(xa, .inr (5, [.ref xr, .ref xk, .ref xn, .ref xt, .ref xu, .ref xc, .int (nI xi), .int (nI xj), .ref xm, va_rf so, .ref xd, .int (nI xe), .int (nI xf), .int (nI xg)])), (xr, .inl (g.2.1 3, 8, .inr (.inr (.inr (.inr rf))))), (ra, .inr (1, [.ref rb, .int rl, .int rz])), (rb, .inl (g.2.1 0, 40, .inl ri))] dX5_findingOf_22 rfl cv_X5_103 rfl rfl rfl rfl 0 rfl rfl (gLe rfl) (gLe rfl) (gLe rfl) (gLe rfl) (gLe rfl) rfl rfl ?_
    refine j_if_eqB 28 32 dX5_findingOf_25 rfl rfl (fun h25 => ?_) (fun h25 => ?_)
    ·
      refine j_iconst (v := (2 : Int32)) 33 dX5_findingOf_32 rfl (by decide) ?_
      refine j_iretI dX5_findingOf_33 rfl ⟨gLe rfl, gLe rfl, ?_⟩
      refine ⟨?_, rfl⟩
      first
        | (rw [fdK, if_neg h9, if_pos h25]; rfl)
        | (rw [fdK, if_neg h9, if_neg h25]; rfl)
    ·
      refine j_iconst (v := (0 : Int32)) 29 dX5_findingOf_28 rfl (by decide) ?_
      refine j_goto 33 dX5_findingOf_29 rfl ?_
      refine j_iretI dX5_findingOf_33 rfl ⟨gLe rfl, gLe rfl, ?_⟩
      refine ⟨?_, rfl⟩
      first
        | (rw [fdK, if_neg h9, if_pos h25]; rfl)
        | (rw [fdK, if_neg h9, if_neg h25]; rfl)
  ·
    refine j_iconst (v := (1 : Int32)) 13 dX5_findingOf_12 rfl (by decide) ?_
    refine j_iretI dX5_findingOf_13 rfl ⟨gLe rfl, gLe rfl, ?_⟩
    refine ⟨?_, rfl⟩
    rw [fdK, if_pos h9]
    rfl
set_option maxRecDepth 20000 in
theorem c_X5_found (g : gG) (xa : Nat) (xr : Nat) (xk : Nat) (xn : Nat) (xt : Nat) (xu : Nat) (xc : Nat) (xi : Nat) (xj : Nat) (xm : Nat) (so : Option Nat) (xd : Nat) (xe : Nat) (xf : Nat) (xg : Nat) (v : Nat)   : gCon g mX5_found 0 0 0 [.ref xa, .int (nI v)] [(xa, .inr (5, [.ref xr, .ref xk, .ref xn, .ref xt, .ref xu, .ref xc, .int (nI xi), .int (nI xj), .ref xm, va_rf so, .ref xd, .int (nI xe), .int (nI xf), .int (nI xg)]))] (fun rv ws' => rv = some (.int ((-1000010 : Int32) - nI v)) ∧ ws' = [(xa, .inr (5, [.ref xr, .ref xk, .ref xn, .ref xt, .ref xu, .ref xc, .int (nI xi), .int (nI xj), .ref xm, va_rf so, .ref xd, .int (nI xe), .int (nI xf), .int (nI v)]))]) := by
  refine gCon.of (lv := [(0, .ref xa), (1, .int (nI v))]) (by decide) (gLe rfl) rfl ?_
  refine j_aload_n 1 dX5_found_0 rfl 0 rfl ?_
  refine j_iload_n 2 dX5_found_1 rfl 1 rfl ?_
  refine j_putf 5 0 [(xa, .inr (5, [.ref xr, .ref xk, .ref xn, .ref xt, .ref xu, .ref xc, .int (nI xi), .int (nI xj), .ref xm, va_rf so, .ref xd, .int (nI xe), .int (nI xf), .int (nI v)]))] dX5_found_2 rfl fd_X5_52 rfl rfl rfl (gLe rfl) rfl ?_
  refine j_ldcw (v := (-1000010 : Int32)) 8 dX5_found_5 rfl wd_1_217 ?_
  refine j_iload_n 9 dX5_found_8 rfl 1 rfl ?_
  refine j_isub 10 dX5_found_9 rfl ?_
  refine j_iretI dX5_found_10 rfl ⟨gLe rfl, gLe rfl, ?_⟩
  exact ⟨rfl, rfl⟩
set_option maxRecDepth 20000 in
theorem c_X5_foundNothing (g : gG) (xa : Nat) (xr : Nat) (xk : Nat) (xn : Nat) (xt : Nat) (xu : Nat) (xc : Nat) (xi : Nat) (xj : Nat) (xm : Nat) (so : Option Nat) (xd : Nat) (xe : Nat) (xf : Nat) (xg : Nat) (v : Int32)   : gCon g mX5_foundNothing 0 0 0 [.ref xa, .int v] [(xa, .inr (5, [.ref xr, .ref xk, .ref xn, .ref xt, .ref xu, .ref xc, .int (nI xi), .int (nI xj), .ref xm, va_rf so, .ref xd, .int (nI xe), .int (nI xf), .int (nI xg)]))] (fun rv ws' => rv = some (.int v) ∧ ws' = [(xa, .inr (5, [.ref xr, .ref xk, .ref xn, .ref xt, .ref xu, .ref xc, .int (nI xi), .int (nI xj), .ref xm, va_rf so, .ref xd, .int (nI xe), .int (nI xf), .int (0 : Int32)]))]) := by
  refine gCon.of (lv := [(0, .ref xa), (1, .int v)]) (by decide) (gLe rfl) rfl ?_
  refine j_aload_n 1 dX5_foundNothing_0 rfl 0 rfl ?_
  refine j_iconst (v := (0 : Int32)) 2 dX5_foundNothing_1 rfl (by decide) ?_
  refine j_putf 5 0 [(xa, .inr (5, [.ref xr, .ref xk, .ref xn, .ref xt, .ref xu, .ref xc, .int (nI xi), .int (nI xj), .ref xm, va_rf so, .ref xd, .int (nI xe), .int (nI xf), .int (0 : Int32)]))] dX5_foundNothing_2 rfl fd_X5_52 rfl rfl rfl (gLe rfl) rfl ?_
  refine j_iload_n 6 dX5_foundNothing_5 rfl 1 rfl ?_
  refine j_iretI dX5_foundNothing_6 rfl ⟨gLe rfl, gLe rfl, ?_⟩
  exact ⟨rfl, rfl⟩
set_option maxRecDepth 20000 in
theorem c_X5_forgetActs (g : gG) (xa : Nat) (xr : Nat) (xk : Nat) (xn : Nat) (xt : Nat) (xu : Nat) (xc : Nat) (xi : Nat) (xj : Nat) (xm : Nat) (so : Option Nat) (xd : Nat) (xe : Nat) (xf : Nat) (xg : Nat)    : gCon g mX5_forgetActs 0 0 0 [.ref xa] [(xa, .inr (5, [.ref xr, .ref xk, .ref xn, .ref xt, .ref xu, .ref xc, .int (nI xi), .int (nI xj), .ref xm, va_rf so, .ref xd, .int (nI xe), .int (nI xf), .int (nI xg)]))] (fun rv ws' => rv = none ∧ ws' = [(xa, .inr (5, [.ref xr, .ref xk, .ref xn, .ref xt, .ref xu, .ref xc, .int (nI xi), .int (0 : Int32), .ref xm, va_rf so, .ref xd, .int (nI xe), .int (nI xf), .int (nI xg)]))]) := by
  refine gCon.of (lv := [(0, .ref xa)]) (by decide) (gLe rfl) rfl ?_
  refine j_aload_n 1 dX5_forgetActs_0 rfl 0 rfl ?_
  refine j_iconst (v := (0 : Int32)) 2 dX5_forgetActs_1 rfl (by decide) ?_
  refine j_putf 5 0 [(xa, .inr (5, [.ref xr, .ref xk, .ref xn, .ref xt, .ref xu, .ref xc, .int (nI xi), .int (0 : Int32), .ref xm, va_rf so, .ref xd, .int (nI xe), .int (nI xf), .int (nI xg)]))] dX5_forgetActs_2 rfl fd_X5_32 rfl rfl rfl (gLe rfl) rfl ?_
  refine j_vret dX5_forgetActs_5 rfl ⟨gLe rfl, gLe rfl, ?_⟩
  exact ⟨rfl, rfl⟩
set_option maxRecDepth 20000 in
theorem c_X5_areBeasts (g : gG) (xa : Nat) (xr : Nat) (xk : Nat) (xn : Nat) (xt : Nat) (xu : Nat) (xc : Nat) (xi : Nat) (xj : Nat) (xm : Nat) (so : Option Nat) (xd : Nat) (xe : Nat) (xf : Nat) (xg : Nat) (rf : Nat → Option Nat) (ra : Nat) (rb : Nat) (rl : Int32) (rz : Int32) (ri : Nat → Int32) (p0 : Nat) (ns : Nat) (sb : Nat) (sc : Nat) (sd : Nat) (pp : Nat) (ph : Nat) (pb : Nat) (p1 : Nat) (p2 : Nat) (p3 : Nat) (p4 : Nat) (p5 : Nat) (p6 : Nat) (r : Nat) (i : Nat) (n : Nat)  (hz : -2 < rz.toInt ∧ rz.toInt ≤ 40) (hr : r < 8) (hrf : rf r = some ra) (hsp : (i : Int) + n ≤ rz.toInt) (h8 : pb ≤ 8) : gCon g mX5_areBeasts 2 0 0 [.ref xa, .int (nI r), .int (nI i), .int (nI n)] [(xa, .inr (5, [.ref xr, .ref xk, .ref xn, .ref xt, .ref xu, .ref xc, .int (nI xi), .int (nI xj), .ref xm, va_rf so, .ref xd, .int (nI xe), .int (nI xf), .int (nI xg)])), (xr, .inl (g.2.1 3, 8, .inr (.inr (.inr (.inr rf))))), (ra, .inr (1, [.ref rb, .int rl, .int rz])), (rb, .inl (g.2.1 0, 40, .inl ri)), (xn, .inr (3, [.ref p0, .int (nI ns), .ref sb, .ref sc, .ref sd])), (p0, .inr (0, [.int (nI pp), .int (nI ph), .int (nI pb), .ref p1, .ref p2, .ref p3, .ref p4, .ref p5, .ref p6]))] (fun rv ws' => rv = some (.int (gB (areB ri i n pb))) ∧ ws' = [(xa, .inr (5, [.ref xr, .ref xk, .ref xn, .ref xt, .ref xu, .ref xc, .int (nI xi), .int (nI xj), .ref xm, va_rf so, .ref xd, .int (nI xe), .int (nI xf), .int (nI xg)])), (xr, .inl (g.2.1 3, 8, .inr (.inr (.inr (.inr rf))))), (ra, .inr (1, [.ref rb, .int rl, .int rz])), (rb, .inl (g.2.1 0, 40, .inl ri)), (xn, .inr (3, [.ref p0, .int (nI ns), .ref sb, .ref sc, .ref sd])), (p0, .inr (0, [.int (nI pp), .int (nI ph), .int (nI pb), .ref p1, .ref p2, .ref p3, .ref p4, .ref p5, .ref p6]))]) := by
  refine gCon.of (lv := [(0, .ref xa), (1, .int (nI r)), (2, .int (nI i)), (3, .int (nI n))]) (by decide) (gLe rfl) rfl ?_
  refine j_iconst (v := (0 : Int32)) 1 dX5_areBeasts_0 rfl (by decide) ?_
  refine j_istore 3 [(4, .int (0 : Int32)), (0, .ref xa), (1, .int (nI r)), (2, .int (nI i)), (3, .int (nI n))] dX5_areBeasts_1 rfl (by decide) rfl ?_
  have hL3 : ∀ (zm3 : Nat) (zk : Nat), n - zk < zm3 → (zk ≤ n) → (∀ k, k < zk → inR (ri (i + k)) pb) → gJ g mX5_areBeasts 2 0 0 (fun k' j' rv ws' => k' ≤ 0 ∧ j' ≤ 0 ∧ (rv = some (.int (gB (areB ri i n pb))) ∧ ws' = [(xa, .inr (5, [.ref xr, .ref xk, .ref xn, .ref xt, .ref xu, .ref xc, .int (nI xi), .int (nI xj), .ref xm, va_rf so, .ref xd, .int (nI xe), .int (nI xf), .int (nI xg)])), (xr, .inl (g.2.1 3, 8, .inr (.inr (.inr (.inr rf))))), (ra, .inr (1, [.ref rb, .int rl, .int rz])), (rb, .inl (g.2.1 0, 40, .inl ri)), (xn, .inr (3, [.ref p0, .int (nI ns), .ref sb, .ref sc, .ref sd])), (p0, .inr (0, [.int (nI pp), .int (nI ph), .int (nI pb), .ref p1, .ref p2, .ref p3, .ref p4, .ref p5, .ref p6]))])) 0 0 3 [(4, .int (nI zk)), (0, .ref xa), (1, .int (nI r)), (2, .int (nI i)), (3, .int (nI n))] [] [(xa, .inr (5, [.ref xr, .ref xk, .ref xn, .ref xt, .ref xu, .ref xc, .int (nI xi), .int (nI xj), .ref xm, va_rf so, .ref xd, .int (nI xe), .int (nI xf), .int (nI xg)])), (xr, .inl (g.2.1 3, 8, .inr (.inr (.inr (.inr rf))))), (ra, .inr (1, [.ref rb, .int rl, .int rz])), (rb, .inl (g.2.1 0, 40, .inl ri)), (xn, .inr (3, [.ref p0, .int (nI ns), .ref sb, .ref sc, .ref sd])), (p0, .inr (0, [.int (nI pp), .int (nI ph), .int (nI pb), .ref p1, .ref p2, .ref p3, .ref p4, .ref p5, .ref p6]))] := by
    intro zm3
    induction zm3 with
    | zero => intro zk zmh; exact absurd zmh (Nat.not_lt_zero _)
    | succ zm3 zih3 =>
      intro zk zmh3 hzk hza
      refine j_iload 5 dX5_areBeasts_3 rfl 0 rfl ?_
      refine j_iload_n 6 dX5_areBeasts_5 rfl 4 rfl ?_
      refine j_icmp_geN zk n 9 37 dX5_areBeasts_6 rfl rfl (by have z0 := hzk; have z1 := hsp; have z2 := hz; omega) (by have z0 := hsp; have z1 := hz; omega) (fun h6 => ?_) (fun h6 => ?_)
      ·
        refine j_iconst (v := (1 : Int32)) 38 dX5_areBeasts_37 rfl (by decide) ?_
        refine j_iret1 (c := areB ri i n pb) dX5_areBeasts_38 rfl ?_ ⟨gLe rfl, gLe rfl, rfl, rfl⟩
        exact fun k hk => hza k (by omega)
      ·
        refine j_aload_n 10 dX5_areBeasts_9 rfl 1 rfl ?_
        refine j_aload_n 11 dX5_areBeasts_10 rfl 1 rfl ?_
        refine j_getf 14 0 dX5_areBeasts_11 rfl fd_X5_11 rfl rfl ?_
        refine j_iload_n 15 dX5_areBeasts_14 rfl 2 rfl ?_
        refine j_aaldR (b := ra) 16 1 dX5_areBeasts_15 rfl rfl (vp_in_nI hr (by decide)) (by rw [nI_clamp (by omega)]; exact hrf) ?_
        refine j_iload_n 17 dX5_areBeasts_16 rfl 3 rfl ?_
        refine j_iload 19 dX5_areBeasts_17 rfl 0 rfl ?_
        refine j_iaddN i zk 20 dX5_areBeasts_19 rfl ?_
        refine j_callV0 (rest := [.ref xa]) 23 [2, 3] (c_X1_item g ra rb rl rz ri (i + zk) hz (by omega)) [.int (ri (i + zk)), .ref xa] [(xa, .inr (5, [.ref xr, .ref xk, .ref xn, .ref xt, .ref xu, .ref xc, .int (nI xi), .int (nI xj), .ref xm, va_rf so, .ref xd, .int (nI xe), .int (nI xf), .int (nI xg)])), (xr, .inl (g.2.1 3, 8, .inr (.inr (.inr (.inr rf))))), (ra, .inr (1, [.ref rb, .int rl, .int rz])), (rb, .inl (g.2.1 0, 40, .inl ri)), (xn, .inr (3, [.ref p0, .int (nI ns), .ref sb, .ref sc, .ref sd])), (p0, .inr (0, [.int (nI pp), .int (nI ph), .int (nI pb), .ref p1, .ref p2, .ref p3, .ref p4, .ref p5, .ref p6]))] dX5_areBeasts_20 rfl cv_X5_168 rfl rfl rfl rfl 0 rfl rfl (gLe rfl) (gLe rfl) (gLe rfl) (gLe rfl) (gLe rfl) rfl rfl ?_
        refine j_callV0 (rest := []) 26 [0, 4, 5] (c_X5_isBeast g xa xr xk xn xt xu xc xi xj xm so xd xe xf xg p0 ns sb sc sd pp ph pb p1 p2 p3 p4 p5 p6 (ri (i + zk)) h8) [.int (gB (inR (ri (i + zk)) pb))] [(xa, .inr (5, [.ref xr, .ref xk, .ref xn, .ref xt, .ref xu, .ref xc, .int (nI xi), .int (nI xj), .ref xm, va_rf so, .ref xd, .int (nI xe), .int (nI xf), .int (nI xg)])), (xr, .inl (g.2.1 3, 8, .inr (.inr (.inr (.inr rf))))), (ra, .inr (1, [.ref rb, .int rl, .int rz])), (rb, .inl (g.2.1 0, 40, .inl ri)), (xn, .inr (3, [.ref p0, .int (nI ns), .ref sb, .ref sc, .ref sd])), (p0, .inr (0, [.int (nI pp), .int (nI ph), .int (nI pb), .ref p1, .ref p2, .ref p3, .ref p4, .ref p5, .ref p6]))] dX5_areBeasts_23 rfl cv_X5_150 rfl rfl rfl rfl 0 rfl rfl (gLe rfl) (gLe rfl) (gLe rfl) (gLe rfl) (gLe rfl) rfl rfl ?_
        refine j_if_neB 29 31 dX5_areBeasts_26 rfl rfl (fun h26 => ?_) (fun h26 => ?_)
        ·
          refine j_iincN zk 1 34 [(4, .int (nI (zk + 1))), (0, .ref xa), (1, .int (nI r)), (2, .int (nI i)), (3, .int (nI n))] dX5_areBeasts_31 rfl 0 rfl (by decide) rfl ?_
          refine j_goto 3 dX5_areBeasts_34 rfl ?_
          refine j_lv [0, 1, 2, 3, 4] rfl ?_
          exact zih3 (zk + 1) (by omega) (by omega) (fun k hk => by rcases (show k < zk ∨ k = zk by omega) with y | y; exact hza k y; rw [y]; exact h26)
        ·
          refine j_iconst (v := (0 : Int32)) 30 dX5_areBeasts_29 rfl (by decide) ?_
          refine j_iret0 (c := areB ri i n pb) dX5_areBeasts_30 rfl ?_ ⟨gLe rfl, gLe rfl, rfl, rfl⟩
          exact fun y => h26 (y zk (by omega))
  refine j_lv [0, 1, 2, 3, 4] rfl ?_
  exact hL3 _ 0 (Nat.lt_succ_self _) (Nat.zero_le _) (fun k hk => absurd hk (Nat.not_lt_zero _))
set_option maxRecDepth 20000 in
theorem c_X5_arePairs (g : gG) (xa : Nat) (xr : Nat) (xk : Nat) (xn : Nat) (xt : Nat) (xu : Nat) (xc : Nat) (xi : Nat) (xj : Nat) (xm : Nat) (so : Option Nat) (xd : Nat) (xe : Nat) (xf : Nat) (xg : Nat) (rf : Nat → Option Nat) (ra : Nat) (rb : Nat) (rl : Int32) (rz : Int32) (ri : Nat → Int32) (p0 : Nat) (ns : Nat) (sb : Nat) (sc : Nat) (sd : Nat) (pp : Nat) (ph : Nat) (pb : Nat) (p1 : Nat) (p2 : Nat) (p3 : Nat) (p4 : Nat) (p5 : Nat) (p6 : Nat) (r : Nat) (i : Nat) (n : Nat)  (hz : -2 < rz.toInt ∧ rz.toInt ≤ 40) (hr : r < 8) (hrf : rf r = some ra) (hsp : (i : Int) + 2 * n ≤ rz.toInt) (h8 : pb ≤ 8) (hp6 : pp ≤ 6) : gCon g mX5_arePairs 2 0 0 [.ref xa, .int (nI r), .int (nI i), .int (nI n)] [(xa, .inr (5, [.ref xr, .ref xk, .ref xn, .ref xt, .ref xu, .ref xc, .int (nI xi), .int (nI xj), .ref xm, va_rf so, .ref xd, .int (nI xe), .int (nI xf), .int (nI xg)])), (xr, .inl (g.2.1 3, 8, .inr (.inr (.inr (.inr rf))))), (ra, .inr (1, [.ref rb, .int rl, .int rz])), (rb, .inl (g.2.1 0, 40, .inl ri)), (xn, .inr (3, [.ref p0, .int (nI ns), .ref sb, .ref sc, .ref sd])), (p0, .inr (0, [.int (nI pp), .int (nI ph), .int (nI pb), .ref p1, .ref p2, .ref p3, .ref p4, .ref p5, .ref p6]))] (fun rv ws' => rv = some (.int (gB (areP ri i n pb pp))) ∧ ws' = [(xa, .inr (5, [.ref xr, .ref xk, .ref xn, .ref xt, .ref xu, .ref xc, .int (nI xi), .int (nI xj), .ref xm, va_rf so, .ref xd, .int (nI xe), .int (nI xf), .int (nI xg)])), (xr, .inl (g.2.1 3, 8, .inr (.inr (.inr (.inr rf))))), (ra, .inr (1, [.ref rb, .int rl, .int rz])), (rb, .inl (g.2.1 0, 40, .inl ri)), (xn, .inr (3, [.ref p0, .int (nI ns), .ref sb, .ref sc, .ref sd])), (p0, .inr (0, [.int (nI pp), .int (nI ph), .int (nI pb), .ref p1, .ref p2, .ref p3, .ref p4, .ref p5, .ref p6]))]) := by
  refine gCon.of (lv := [(0, .ref xa), (1, .int (nI r)), (2, .int (nI i)), (3, .int (nI n))]) (by decide) (gLe rfl) rfl ?_
  refine j_iconst (v := (0 : Int32)) 1 dX5_arePairs_0 rfl (by decide) ?_
  refine j_istore 3 [(4, .int (0 : Int32)), (0, .ref xa), (1, .int (nI r)), (2, .int (nI i)), (3, .int (nI n))] dX5_arePairs_1 rfl (by decide) rfl ?_
  have hL3 : ∀ (zm3 : Nat) (zk : Nat), n - zk < zm3 → (zk ≤ n) → (∀ k, k < zk → inR (ri (i + 2 * k)) pb ∧ inR (ri (i + 2 * k + 1)) pp) → gJ g mX5_arePairs 2 0 0 (fun k' j' rv ws' => k' ≤ 0 ∧ j' ≤ 0 ∧ (rv = some (.int (gB (areP ri i n pb pp))) ∧ ws' = [(xa, .inr (5, [.ref xr, .ref xk, .ref xn, .ref xt, .ref xu, .ref xc, .int (nI xi), .int (nI xj), .ref xm, va_rf so, .ref xd, .int (nI xe), .int (nI xf), .int (nI xg)])), (xr, .inl (g.2.1 3, 8, .inr (.inr (.inr (.inr rf))))), (ra, .inr (1, [.ref rb, .int rl, .int rz])), (rb, .inl (g.2.1 0, 40, .inl ri)), (xn, .inr (3, [.ref p0, .int (nI ns), .ref sb, .ref sc, .ref sd])), (p0, .inr (0, [.int (nI pp), .int (nI ph), .int (nI pb), .ref p1, .ref p2, .ref p3, .ref p4, .ref p5, .ref p6]))])) 0 0 3 [(4, .int (nI zk)), (0, .ref xa), (1, .int (nI r)), (2, .int (nI i)), (3, .int (nI n))] [] [(xa, .inr (5, [.ref xr, .ref xk, .ref xn, .ref xt, .ref xu, .ref xc, .int (nI xi), .int (nI xj), .ref xm, va_rf so, .ref xd, .int (nI xe), .int (nI xf), .int (nI xg)])), (xr, .inl (g.2.1 3, 8, .inr (.inr (.inr (.inr rf))))), (ra, .inr (1, [.ref rb, .int rl, .int rz])), (rb, .inl (g.2.1 0, 40, .inl ri)), (xn, .inr (3, [.ref p0, .int (nI ns), .ref sb, .ref sc, .ref sd])), (p0, .inr (0, [.int (nI pp), .int (nI ph), .int (nI pb), .ref p1, .ref p2, .ref p3, .ref p4, .ref p5, .ref p6]))] := by
    intro zm3
    induction zm3 with
    | zero => intro zk zmh; exact absurd zmh (Nat.not_lt_zero _)
    | succ zm3 zih3 =>
      intro zk zmh3 hzk hza
      refine j_iload 5 dX5_arePairs_3 rfl 0 rfl ?_
      refine j_iload_n 6 dX5_arePairs_5 rfl 4 rfl ?_
      refine j_icmp_geN zk n 9 65 dX5_arePairs_6 rfl rfl (by have z0 := hzk; have z1 := hsp; have z2 := hz; omega) (by have z0 := hsp; have z1 := hz; omega) (fun h6 => ?_) (fun h6 => ?_)
      ·
        refine j_iconst (v := (1 : Int32)) 66 dX5_arePairs_65 rfl (by decide) ?_
        refine j_iret1 (c := areP ri i n pb pp) dX5_arePairs_66 rfl ?_ ⟨gLe rfl, gLe rfl, rfl, rfl⟩
        exact fun k hk => hza k (by omega)
      ·
        refine j_aload_n 10 dX5_arePairs_9 rfl 1 rfl ?_
        refine j_aload_n 11 dX5_arePairs_10 rfl 1 rfl ?_
        refine j_getf 14 0 dX5_arePairs_11 rfl fd_X5_11 rfl rfl ?_
        refine j_iload_n 15 dX5_arePairs_14 rfl 2 rfl ?_
        refine j_aaldR (b := ra) 16 1 dX5_arePairs_15 rfl rfl (vp_in_nI hr (by decide)) (by rw [nI_clamp (by omega)]; exact hrf) ?_
        refine j_iload_n 17 dX5_arePairs_16 rfl 3 rfl ?_
        refine j_iconst (v := (2 : Int32)) 18 dX5_arePairs_17 rfl (by decide) ?_
        refine j_iload 20 dX5_arePairs_18 rfl 0 rfl ?_
        refine j_imulN 2 zk 21 dX5_arePairs_20 rfl ?_
        refine j_iaddN i (2 * zk) 22 dX5_arePairs_21 rfl ?_
        refine j_callV0 (rest := [.ref xa]) 25 [2, 3] (c_X1_item g ra rb rl rz ri (i + (2 * zk)) hz (by omega)) [.int (ri (i + (2 * zk))), .ref xa] [(xa, .inr (5, [.ref xr, .ref xk, .ref xn, .ref xt, .ref xu, .ref xc, .int (nI xi), .int (nI xj), .ref xm, va_rf so, .ref xd, .int (nI xe), .int (nI xf), .int (nI xg)])), (xr, .inl (g.2.1 3, 8, .inr (.inr (.inr (.inr rf))))), (ra, .inr (1, [.ref rb, .int rl, .int rz])), (rb, .inl (g.2.1 0, 40, .inl ri)), (xn, .inr (3, [.ref p0, .int (nI ns), .ref sb, .ref sc, .ref sd])), (p0, .inr (0, [.int (nI pp), .int (nI ph), .int (nI pb), .ref p1, .ref p2, .ref p3, .ref p4, .ref p5, .ref p6]))] dX5_arePairs_22 rfl cv_X5_168 rfl rfl rfl rfl 0 rfl rfl (gLe rfl) (gLe rfl) (gLe rfl) (gLe rfl) (gLe rfl) rfl rfl ?_
        refine j_callV0 (rest := []) 28 [0, 4, 5] (c_X5_isBeast g xa xr xk xn xt xu xc xi xj xm so xd xe xf xg p0 ns sb sc sd pp ph pb p1 p2 p3 p4 p5 p6 (ri (i + (2 * zk))) h8) [.int (gB (inR (ri (i + (2 * zk))) pb))] [(xa, .inr (5, [.ref xr, .ref xk, .ref xn, .ref xt, .ref xu, .ref xc, .int (nI xi), .int (nI xj), .ref xm, va_rf so, .ref xd, .int (nI xe), .int (nI xf), .int (nI xg)])), (xr, .inl (g.2.1 3, 8, .inr (.inr (.inr (.inr rf))))), (ra, .inr (1, [.ref rb, .int rl, .int rz])), (rb, .inl (g.2.1 0, 40, .inl ri)), (xn, .inr (3, [.ref p0, .int (nI ns), .ref sb, .ref sc, .ref sd])), (p0, .inr (0, [.int (nI pp), .int (nI ph), .int (nI pb), .ref p1, .ref p2, .ref p3, .ref p4, .ref p5, .ref p6]))] dX5_arePairs_25 rfl cv_X5_150 rfl rfl rfl rfl 0 rfl rfl (gLe rfl) (gLe rfl) (gLe rfl) (gLe rfl) (gLe rfl) rfl rfl ?_
        refine j_if_neB 31 33 dX5_arePairs_28 rfl rfl (fun h28 => ?_) (fun h28 => ?_)
        ·
          refine j_aload_n 34 dX5_arePairs_33 rfl 1 rfl ?_
          refine j_aload_n 35 dX5_arePairs_34 rfl 1 rfl ?_
          refine j_getf 38 0 dX5_arePairs_35 rfl fd_X5_11 rfl rfl ?_
          refine j_iload_n 39 dX5_arePairs_38 rfl 2 rfl ?_
          refine j_aaldR (b := ra) 40 1 dX5_arePairs_39 rfl rfl (vp_in_nI hr (by decide)) (by rw [nI_clamp (by omega)]; exact hrf) ?_
          refine j_iload_n 41 dX5_arePairs_40 rfl 3 rfl ?_
          refine j_iconst (v := (2 : Int32)) 42 dX5_arePairs_41 rfl (by decide) ?_
          refine j_iload 44 dX5_arePairs_42 rfl 0 rfl ?_
          refine j_imulN 2 zk 45 dX5_arePairs_44 rfl ?_
          refine j_iaddN i (2 * zk) 46 dX5_arePairs_45 rfl ?_
          refine j_iconst (v := (1 : Int32)) 47 dX5_arePairs_46 rfl (by decide) ?_
          refine j_iaddN (i + (2 * zk)) 1 48 dX5_arePairs_47 rfl ?_
          refine j_callV0 (rest := [.ref xa]) 51 [2, 3] (c_X1_item g ra rb rl rz ri ((i + (2 * zk)) + 1) hz (by omega)) [.int (ri ((i + (2 * zk)) + 1)), .ref xa] [(xa, .inr (5, [.ref xr, .ref xk, .ref xn, .ref xt, .ref xu, .ref xc, .int (nI xi), .int (nI xj), .ref xm, va_rf so, .ref xd, .int (nI xe), .int (nI xf), .int (nI xg)])), (xr, .inl (g.2.1 3, 8, .inr (.inr (.inr (.inr rf))))), (ra, .inr (1, [.ref rb, .int rl, .int rz])), (rb, .inl (g.2.1 0, 40, .inl ri)), (xn, .inr (3, [.ref p0, .int (nI ns), .ref sb, .ref sc, .ref sd])), (p0, .inr (0, [.int (nI pp), .int (nI ph), .int (nI pb), .ref p1, .ref p2, .ref p3, .ref p4, .ref p5, .ref p6]))] dX5_arePairs_48 rfl cv_X5_168 rfl rfl rfl rfl 0 rfl rfl (gLe rfl) (gLe rfl) (gLe rfl) (gLe rfl) (gLe rfl) rfl rfl ?_
          refine j_callV0 (rest := []) 54 [0, 4, 5] (c_X5_isPen g xa xr xk xn xt xu xc xi xj xm so xd xe xf xg p0 ns sb sc sd pp ph pb p1 p2 p3 p4 p5 p6 (ri ((i + (2 * zk)) + 1)) hp6) [.int (gB (inR (ri ((i + (2 * zk)) + 1)) pp))] [(xa, .inr (5, [.ref xr, .ref xk, .ref xn, .ref xt, .ref xu, .ref xc, .int (nI xi), .int (nI xj), .ref xm, va_rf so, .ref xd, .int (nI xe), .int (nI xf), .int (nI xg)])), (xr, .inl (g.2.1 3, 8, .inr (.inr (.inr (.inr rf))))), (ra, .inr (1, [.ref rb, .int rl, .int rz])), (rb, .inl (g.2.1 0, 40, .inl ri)), (xn, .inr (3, [.ref p0, .int (nI ns), .ref sb, .ref sc, .ref sd])), (p0, .inr (0, [.int (nI pp), .int (nI ph), .int (nI pb), .ref p1, .ref p2, .ref p3, .ref p4, .ref p5, .ref p6]))] dX5_arePairs_51 rfl cv_X5_209 rfl rfl rfl rfl 0 rfl rfl (gLe rfl) (gLe rfl) (gLe rfl) (gLe rfl) (gLe rfl) rfl rfl ?_
          refine j_if_neB 57 59 dX5_arePairs_54 rfl rfl (fun h54 => ?_) (fun h54 => ?_)
          ·
            refine j_iincN zk 1 62 [(4, .int (nI (zk + 1))), (0, .ref xa), (1, .int (nI r)), (2, .int (nI i)), (3, .int (nI n))] dX5_arePairs_59 rfl 0 rfl (by decide) rfl ?_
            refine j_goto 3 dX5_arePairs_62 rfl ?_
            refine j_lv [0, 1, 2, 3, 4] rfl ?_
            exact zih3 (zk + 1) (by omega) (by omega) (fun k hk => by rcases (show k < zk ∨ k = zk by omega) with y | y; exact hza k y; rw [y]; exact ⟨h28, h54⟩)
          ·
            refine j_iconst (v := (0 : Int32)) 58 dX5_arePairs_57 rfl (by decide) ?_
            refine j_iret0 (c := areP ri i n pb pp) dX5_arePairs_58 rfl ?_ ⟨gLe rfl, gLe rfl, rfl, rfl⟩
            exact fun y => h54 (y zk (by omega)).2
        ·
          refine j_iconst (v := (0 : Int32)) 32 dX5_arePairs_31 rfl (by decide) ?_
          refine j_iret0 (c := areP ri i n pb pp) dX5_arePairs_32 rfl ?_ ⟨gLe rfl, gLe rfl, rfl, rfl⟩
          exact fun y => h28 (y zk (by omega)).1
  refine j_lv [0, 1, 2, 3, 4] rfl ?_
  exact hL3 _ 0 (Nat.lt_succ_self _) (Nat.zero_le _) (fun k hk => absurd hk (Nat.not_lt_zero _))
