set_option maxRecDepth 20000 in
theorem c_X1_begin (g : gG) (ra : Nat) (rb : Nat) (rl : Int32) (rz : Int32) (ri : Nat → Int32) (l : Int32) (n : Int32)   : gCon g mX1_begin 1 0 0 [.ref ra, .int l, .int n] [(ra, .inr (1, [.ref rb, .int rl, .int rz])), (rb, .inl (g.2.1 0, 40, .inl ri))] (fun rv ws' => rv = none ∧ ws' = [(ra, .inr (1, [.ref rb, .int l, .int n])), (rb, .inl (g.2.1 0, 40, .inl (va_cpy (fun _ => 0) ri 0 0 40)))]) := by
  refine gCon.of (lv := [(0, .ref ra), (1, .int l), (2, .int n)]) (by decide) (gLe rfl) rfl ?_
  refine j_aload_n 1 dX1_begin_0 rfl 0 rfl ?_
  refine j_iload_n 2 dX1_begin_1 rfl 1 rfl ?_
  refine j_putf 5 0 [(ra, .inr (1, [.ref rb, .int l, .int rz])), (rb, .inl (g.2.1 0, 40, .inl ri))] dX1_begin_2 rfl fd_X1_15 rfl rfl rfl (gLe rfl) rfl ?_
  refine j_aload_n 6 dX1_begin_5 rfl 0 rfl ?_
  refine j_iload_n 7 dX1_begin_6 rfl 2 rfl ?_
  refine j_putf 10 0 [(ra, .inr (1, [.ref rb, .int l, .int n])), (rb, .inl (g.2.1 0, 40, .inl ri))] dX1_begin_7 rfl fd_X1_19 rfl rfl rfl (gLe rfl) rfl ?_
  refine j_aload_n 11 dX1_begin_10 rfl 0 rfl ?_
  refine j_getf 14 0 dX1_begin_11 rfl fd_X1_9 rfl rfl ?_
  refine j_iconst (v := (0 : Int32)) 15 dX1_begin_14 rfl (by decide) ?_
  refine j_callS0 (rest := []) 18 [1] (c_fillR g rb 40 ri (0 : Int32) (by decide)) [] [(ra, .inr (1, [.ref rb, .int l, .int n])), (rb, .inl (g.2.1 0, 40, .inl (va_cpy (fun _ => (0 : Int32)) ri 0 0 40)))] dX1_begin_15 rfl cs_X1_22 rfl rfl rfl rfl (gLe rfl) (gLe rfl) (gLe rfl) (gLe rfl) (gLe rfl) rfl rfl ?_
  refine j_vret dX1_begin_18 rfl ⟨gLe rfl, gLe rfl, ?_⟩
  exact ⟨rfl, rfl⟩
set_option maxRecDepth 20000 in
theorem c_X1_lose (g : gG) (ra : Nat) (rb : Nat) (rl : Int32) (rz : Int32) (ri : Nat → Int32)    : gCon g mX1_lose 0 0 0 [.ref ra] [(ra, .inr (1, [.ref rb, .int rl, .int rz])), (rb, .inl (g.2.1 0, 40, .inl ri))] (fun rv ws' => rv = none ∧ ws' = [(ra, .inr (1, [.ref rb, .int rl, .int (-1 : Int32)])), (rb, .inl (g.2.1 0, 40, .inl ri))]) := by
  refine gCon.of (lv := [(0, .ref ra)]) (by decide) (gLe rfl) rfl ?_
  refine j_aload_n 1 dX1_lose_0 rfl 0 rfl ?_
  refine j_iconst (v := (-1 : Int32)) 2 dX1_lose_1 rfl (by decide) ?_
  refine j_putf 5 0 [(ra, .inr (1, [.ref rb, .int rl, .int (-1 : Int32)])), (rb, .inl (g.2.1 0, 40, .inl ri))] dX1_lose_2 rfl fd_X1_19 rfl rfl rfl (gLe rfl) rfl ?_
  refine j_vret dX1_lose_5 rfl ⟨gLe rfl, gLe rfl, ?_⟩
  exact ⟨rfl, rfl⟩
set_option maxRecDepth 20000 in
theorem c_X1_put (g : gG) (ra : Nat) (rb : Nat) (rl : Int32) (rz : Int32) (ri : Nat → Int32) (i : Nat) (v : Int32)  (hz : -2 < rz.toInt ∧ rz.toInt ≤ 40) (hi : (i : Int) + 1 ≤ rz.toInt) : gCon g mX1_put 1 0 0 [.ref ra, .int (nI i), .int v] [(ra, .inr (1, [.ref rb, .int rl, .int rz])), (rb, .inl (g.2.1 0, 40, .inl ri))] (fun rv ws' => rv = some (.int (nrw rl v)) ∧ ws' = [(ra, .inr (1, [.ref rb, .int rl, .int rz])), (rb, .inl (g.2.1 0, 40, .inl (upd ri i (nrw rl v))))]) := by
  refine gCon.of (lv := [(0, .ref ra), (1, .int (nI i)), (2, .int v)]) (by decide) (gLe rfl) rfl ?_
  have hhas : (0 ≤ (nI i).toInt ∧ 0 ≤ (1 : Int32).toInt ∧ (nI i).toInt + (1 : Int32).toInt ≤ rz.toInt) := by rw [nI_toInt (by omega), show (1 : Int32).toInt = 1 by decide]; omega
  refine j_aload_n 1 dX1_put_0 rfl 0 rfl ?_
  refine j_iload_n 2 dX1_put_1 rfl 1 rfl ?_
  refine j_iconst (v := (1 : Int32)) 3 dX1_put_2 rfl (by decide) ?_
  refine j_callV0 (rest := []) 6 [0, 1] (c_X1_has g ra rb rl rz ri (nI i) (1 : Int32) hz) [.int (gB ((0 ≤ (nI i).toInt ∧ 0 ≤ (1 : Int32).toInt ∧ (nI i).toInt + (1 : Int32).toInt ≤ rz.toInt)))] [(ra, .inr (1, [.ref rb, .int rl, .int rz])), (rb, .inl (g.2.1 0, 40, .inl ri))] dX1_put_3 rfl cv_X1_28 rfl rfl rfl rfl 0 rfl rfl (gLe rfl) (gLe rfl) (gLe rfl) (gLe rfl) (gLe rfl) rfl rfl ?_
  refine j_if_neB 9 12 dX1_put_6 rfl rfl (fun h6 => ?_) (fun h6 => absurd hhas h6)
  refine j_aload_n 13 dX1_put_12 rfl 0 rfl ?_
  refine j_getf 16 0 dX1_put_13 rfl fd_X1_9 rfl rfl ?_
  refine j_iload_n 17 dX1_put_16 rfl 1 rfl ?_
  refine j_aload_n 18 dX1_put_17 rfl 0 rfl ?_
  refine j_getf 21 0 dX1_put_18 rfl fd_X1_15 rfl rfl ?_
  refine j_if_ne 24 29 dX1_put_21 rfl rfl (fun h21 => ?_) (fun h21 => ?_)
  ·
    refine j_aload_n 30 dX1_put_29 rfl 0 rfl ?_
    refine j_getf 33 0 dX1_put_30 rfl fd_X1_15 rfl rfl ?_
    refine j_iconst (v := (1 : Int32)) 34 dX1_put_33 rfl (by decide) ?_
    refine j_icmp_ne 37 42 dX1_put_34 rfl rfl (fun h34 => ?_) (fun h34 => ?_)
    ·
      refine j_iload_n 43 dX1_put_42 rfl 2 rfl ?_
      refine j_topI v (nrw rl v) (by rw [nrw, if_neg h21, if_neg h34]) ?_
      refine j_iastR i 44 1 [(ra, .inr (1, [.ref rb, .int rl, .int rz])), (rb, .inl (g.2.1 0, 40, .inl (upd ri i (nrw rl v))))] dX1_put_43 rfl rfl (by omega) (by decide) rfl ?_
      refine j_aload_n 45 dX1_put_44 rfl 0 rfl ?_
      refine j_getf 48 0 dX1_put_45 rfl fd_X1_9 rfl rfl ?_
      refine j_iload_n 49 dX1_put_48 rfl 1 rfl ?_
      refine j_ialdR i 50 1 dX1_put_49 rfl rfl (by omega) (by decide) ?_
      refine j_topI ((upd ri i (nrw rl v)) i) (nrw rl v) (if_pos rfl) ?_
      refine j_iretI dX1_put_50 rfl ⟨gLe rfl, gLe rfl, ?_⟩
      exact ⟨rfl, rfl⟩
    ·
      refine j_iload_n 38 dX1_put_37 rfl 2 rfl ?_
      refine j_i2s 39 dX1_put_38 rfl ?_
      refine j_goto 43 dX1_put_39 rfl ?_
      refine j_topI v.toInt16.toInt32 (nrw rl v) (by rw [nrw, if_neg h21, if_pos h34]) ?_
      refine j_iastR i 44 1 [(ra, .inr (1, [.ref rb, .int rl, .int rz])), (rb, .inl (g.2.1 0, 40, .inl (upd ri i (nrw rl v))))] dX1_put_43 rfl rfl (by omega) (by decide) rfl ?_
      refine j_aload_n 45 dX1_put_44 rfl 0 rfl ?_
      refine j_getf 48 0 dX1_put_45 rfl fd_X1_9 rfl rfl ?_
      refine j_iload_n 49 dX1_put_48 rfl 1 rfl ?_
      refine j_ialdR i 50 1 dX1_put_49 rfl rfl (by omega) (by decide) ?_
      refine j_topI ((upd ri i (nrw rl v)) i) (nrw rl v) (if_pos rfl) ?_
      refine j_iretI dX1_put_50 rfl ⟨gLe rfl, gLe rfl, ?_⟩
      exact ⟨rfl, rfl⟩
  ·
    refine j_iload_n 25 dX1_put_24 rfl 2 rfl ?_
    refine j_i2b 26 dX1_put_25 rfl ?_
    refine j_goto 43 dX1_put_26 rfl ?_
    refine j_topI v.toInt8.toInt32 (nrw rl v) (by rw [nrw, if_pos h21]) ?_
    refine j_iastR i 44 1 [(ra, .inr (1, [.ref rb, .int rl, .int rz])), (rb, .inl (g.2.1 0, 40, .inl (upd ri i (nrw rl v))))] dX1_put_43 rfl rfl (by omega) (by decide) rfl ?_
    refine j_aload_n 45 dX1_put_44 rfl 0 rfl ?_
    refine j_getf 48 0 dX1_put_45 rfl fd_X1_9 rfl rfl ?_
    refine j_iload_n 49 dX1_put_48 rfl 1 rfl ?_
    refine j_ialdR i 50 1 dX1_put_49 rfl rfl (by omega) (by decide) ?_
    refine j_topI ((upd ri i (nrw rl v)) i) (nrw rl v) (if_pos rfl) ?_
    refine j_iretI dX1_put_50 rfl ⟨gLe rfl, gLe rfl, ?_⟩
    exact ⟨rfl, rfl⟩
set_option maxRecDepth 20000 in
theorem c_X1_item (g : gG) (ra : Nat) (rb : Nat) (rl : Int32) (rz : Int32) (ri : Nat → Int32) (i : Nat)  (hz : -2 < rz.toInt ∧ rz.toInt ≤ 40) (hi : (i : Int) + 1 ≤ rz.toInt) : gCon g mX1_item 1 0 0 [.ref ra, .int (nI i)] [(ra, .inr (1, [.ref rb, .int rl, .int rz])), (rb, .inl (g.2.1 0, 40, .inl ri))] (fun rv ws' => rv = some (.int (ri i)) ∧ ws' = [(ra, .inr (1, [.ref rb, .int rl, .int rz])), (rb, .inl (g.2.1 0, 40, .inl ri))]) := by
  refine gCon.of (lv := [(0, .ref ra), (1, .int (nI i))]) (by decide) (gLe rfl) rfl ?_
  have hhas : (0 ≤ (nI i).toInt ∧ 0 ≤ (1 : Int32).toInt ∧ (nI i).toInt + (1 : Int32).toInt ≤ rz.toInt) := by rw [nI_toInt (by omega), show (1 : Int32).toInt = 1 by decide]; omega
  refine j_aload_n 1 dX1_item_0 rfl 0 rfl ?_
  refine j_iload_n 2 dX1_item_1 rfl 1 rfl ?_
  refine j_iconst (v := (1 : Int32)) 3 dX1_item_2 rfl (by decide) ?_
  refine j_callV0 (rest := []) 6 [0, 1] (c_X1_has g ra rb rl rz ri (nI i) (1 : Int32) hz) [.int (gB ((0 ≤ (nI i).toInt ∧ 0 ≤ (1 : Int32).toInt ∧ (nI i).toInt + (1 : Int32).toInt ≤ rz.toInt)))] [(ra, .inr (1, [.ref rb, .int rl, .int rz])), (rb, .inl (g.2.1 0, 40, .inl ri))] dX1_item_3 rfl cv_X1_28 rfl rfl rfl rfl 0 rfl rfl (gLe rfl) (gLe rfl) (gLe rfl) (gLe rfl) (gLe rfl) rfl rfl ?_
  refine j_if_eqB 9 18 dX1_item_6 rfl rfl (fun h6 => absurd hhas h6) (fun h6 => ?_)
  refine j_aload_n 10 dX1_item_9 rfl 0 rfl ?_
  refine j_getf 13 0 dX1_item_10 rfl fd_X1_9 rfl rfl ?_
  refine j_iload_n 14 dX1_item_13 rfl 1 rfl ?_
  refine j_ialdR i 15 1 dX1_item_14 rfl rfl (by omega) (by decide) ?_
  refine j_goto 20 dX1_item_15 rfl ?_
  refine j_iretI dX1_item_20 rfl ⟨gLe rfl, gLe rfl, ?_⟩
  exact ⟨rfl, rfl⟩
set_option maxRecDepth 20000 in
theorem c_X0_kindOf (g : gG) (p0 : Nat) (p1 : Nat) (p2 : Nat) (p3 : Nat) (p4 : Nat) (p5 : Nat) (p6 : Nat) (yL : Nat → Nat → Nat) (b : Nat)  (h8 : yL 0 2 ≤ 8) (hb : b < yL 0 2) : gCon g mX0_kindOf 0 0 0 [.ref p0, .int (nI b)] [(p0, .inr (0, [.int (nI (yL 0 0)), .int (nI (yL 0 1)), .int (nI (yL 0 2)), .ref p1, .ref p2, .ref p3, .ref p4, .ref p5, .ref p6])), (p1, .inl (g.2.1 0, 5, .inl (nF (yL 1)))), (p2, .inl (g.2.1 0, 5, .inl (nF (yL 2)))), (p3, .inl (g.2.1 0, 5, .inl (nF (yL 3)))), (p4, .inl (g.2.1 0, 5, .inl (nF (yL 4)))), (p5, .inl (g.2.1 0, 8, .inl (nF (yL 5)))), (p6, .inl (g.2.1 0, 8, .inl (nF (yL 6))))] (fun rv ws' => rv = some (.int (nI (yL 5 b))) ∧ ws' = [(p0, .inr (0, [.int (nI (yL 0 0)), .int (nI (yL 0 1)), .int (nI (yL 0 2)), .ref p1, .ref p2, .ref p3, .ref p4, .ref p5, .ref p6])), (p1, .inl (g.2.1 0, 5, .inl (nF (yL 1)))), (p2, .inl (g.2.1 0, 5, .inl (nF (yL 2)))), (p3, .inl (g.2.1 0, 5, .inl (nF (yL 3)))), (p4, .inl (g.2.1 0, 5, .inl (nF (yL 4)))), (p5, .inl (g.2.1 0, 8, .inl (nF (yL 5)))), (p6, .inl (g.2.1 0, 8, .inl (nF (yL 6))))]) := by
  refine gCon.of (lv := [(0, .ref p0), (1, .int (nI b))]) (by decide) (gLe rfl) rfl ?_
  refine j_iload_n 1 dX0_kindOf_0 rfl 1 rfl ?_
  refine j_if_ltN b 4 dX0_kindOf_1 rfl (t := 21) rfl (by omega) ?_
  refine j_iload_n 5 dX0_kindOf_4 rfl 1 rfl ?_
  refine j_aload_n 6 dX0_kindOf_5 rfl 0 rfl ?_
  refine j_getf 9 0 dX0_kindOf_6 rfl fd_X0_18 rfl rfl ?_
  refine j_icmp_geN b (yL 0 2) 12 21 dX0_kindOf_9 rfl rfl (by omega) (by have z0 := h8; omega) (fun h9 => absurd hb (Nat.not_lt.mpr h9)) (fun h9 => ?_)
  refine j_aload_n 13 dX0_kindOf_12 rfl 0 rfl ?_
  refine j_getf 16 0 dX0_kindOf_13 rfl fd_X0_34 rfl rfl ?_
  refine j_iload_n 17 dX0_kindOf_16 rfl 1 rfl ?_
  refine j_ialdN b 18 5 dX0_kindOf_17 rfl rfl (by omega) (by decide) ?_
  refine j_goto 22 dX0_kindOf_18 rfl ?_
  refine j_iretI dX0_kindOf_22 rfl ⟨gLe rfl, gLe rfl, ?_⟩
  exact ⟨rfl, rfl⟩
set_option maxRecDepth 20000 in
theorem c_X0_heavyOf (g : gG) (p0 : Nat) (p1 : Nat) (p2 : Nat) (p3 : Nat) (p4 : Nat) (p5 : Nat) (p6 : Nat) (yL : Nat → Nat → Nat) (b : Nat)  (h8 : yL 0 2 ≤ 8) (hb : b < yL 0 2) : gCon g mX0_heavyOf 0 0 0 [.ref p0, .int (nI b)] [(p0, .inr (0, [.int (nI (yL 0 0)), .int (nI (yL 0 1)), .int (nI (yL 0 2)), .ref p1, .ref p2, .ref p3, .ref p4, .ref p5, .ref p6])), (p1, .inl (g.2.1 0, 5, .inl (nF (yL 1)))), (p2, .inl (g.2.1 0, 5, .inl (nF (yL 2)))), (p3, .inl (g.2.1 0, 5, .inl (nF (yL 3)))), (p4, .inl (g.2.1 0, 5, .inl (nF (yL 4)))), (p5, .inl (g.2.1 0, 8, .inl (nF (yL 5)))), (p6, .inl (g.2.1 0, 8, .inl (nF (yL 6))))] (fun rv ws' => rv = some (.int (nI (yL 6 b))) ∧ ws' = [(p0, .inr (0, [.int (nI (yL 0 0)), .int (nI (yL 0 1)), .int (nI (yL 0 2)), .ref p1, .ref p2, .ref p3, .ref p4, .ref p5, .ref p6])), (p1, .inl (g.2.1 0, 5, .inl (nF (yL 1)))), (p2, .inl (g.2.1 0, 5, .inl (nF (yL 2)))), (p3, .inl (g.2.1 0, 5, .inl (nF (yL 3)))), (p4, .inl (g.2.1 0, 5, .inl (nF (yL 4)))), (p5, .inl (g.2.1 0, 8, .inl (nF (yL 5)))), (p6, .inl (g.2.1 0, 8, .inl (nF (yL 6))))]) := by
  refine gCon.of (lv := [(0, .ref p0), (1, .int (nI b))]) (by decide) (gLe rfl) rfl ?_
  refine j_iload_n 1 dX0_heavyOf_0 rfl 1 rfl ?_
  refine j_if_ltN b 4 dX0_heavyOf_1 rfl (t := 21) rfl (by omega) ?_
  refine j_iload_n 5 dX0_heavyOf_4 rfl 1 rfl ?_
  refine j_aload_n 6 dX0_heavyOf_5 rfl 0 rfl ?_
  refine j_getf 9 0 dX0_heavyOf_6 rfl fd_X0_18 rfl rfl ?_
  refine j_icmp_geN b (yL 0 2) 12 21 dX0_heavyOf_9 rfl rfl (by omega) (by have z0 := h8; omega) (fun h9 => absurd hb (Nat.not_lt.mpr h9)) (fun h9 => ?_)
  refine j_aload_n 13 dX0_heavyOf_12 rfl 0 rfl ?_
  refine j_getf 16 0 dX0_heavyOf_13 rfl fd_X0_37 rfl rfl ?_
  refine j_iload_n 17 dX0_heavyOf_16 rfl 1 rfl ?_
  refine j_ialdN b 18 6 dX0_heavyOf_17 rfl rfl (by omega) (by decide) ?_
  refine j_goto 22 dX0_heavyOf_18 rfl ?_
  refine j_iretI dX0_heavyOf_22 rfl ⟨gLe rfl, gLe rfl, ?_⟩
  exact ⟨rfl, rfl⟩
set_option maxRecDepth 20000 in
theorem c_X0_isWay (g : gG) (p0 : Nat) (p1 : Nat) (p2 : Nat) (p3 : Nat) (p4 : Nat) (p5 : Nat) (p6 : Nat) (yL : Nat → Nat → Nat) (v : Nat)  (hv : v < 1000) (h6 : yL 0 0 ≤ 6) (h5 : yL 0 1 ≤ 5) : gCon g mX0_isWay 0 0 0 [.ref p0, .int (nI v)] [(p0, .inr (0, [.int (nI (yL 0 0)), .int (nI (yL 0 1)), .int (nI (yL 0 2)), .ref p1, .ref p2, .ref p3, .ref p4, .ref p5, .ref p6])), (p1, .inl (g.2.1 0, 5, .inl (nF (yL 1)))), (p2, .inl (g.2.1 0, 5, .inl (nF (yL 2)))), (p3, .inl (g.2.1 0, 5, .inl (nF (yL 3)))), (p4, .inl (g.2.1 0, 5, .inl (nF (yL 4)))), (p5, .inl (g.2.1 0, 8, .inl (nF (yL 5)))), (p6, .inl (g.2.1 0, 8, .inl (nF (yL 6))))] (fun rv ws' => rv = some (.int (gB (v < yL 0 0 ∨ (10 ≤ v ∧ v ≤ 9 + yL 0 1)))) ∧ ws' = [(p0, .inr (0, [.int (nI (yL 0 0)), .int (nI (yL 0 1)), .int (nI (yL 0 2)), .ref p1, .ref p2, .ref p3, .ref p4, .ref p5, .ref p6])), (p1, .inl (g.2.1 0, 5, .inl (nF (yL 1)))), (p2, .inl (g.2.1 0, 5, .inl (nF (yL 2)))), (p3, .inl (g.2.1 0, 5, .inl (nF (yL 3)))), (p4, .inl (g.2.1 0, 5, .inl (nF (yL 4)))), (p5, .inl (g.2.1 0, 8, .inl (nF (yL 5)))), (p6, .inl (g.2.1 0, 8, .inl (nF (yL 6))))]) := by
  refine gCon.of (lv := [(0, .ref p0), (1, .int (nI v))]) (by decide) (gLe rfl) rfl ?_
  refine j_iload_n 1 dX0_isWay_0 rfl 1 rfl ?_
  refine j_if_ltN v 4 dX0_isWay_1 rfl (t := 12) rfl (by omega) ?_
  refine j_iload_n 5 dX0_isWay_4 rfl 1 rfl ?_
  refine j_aload_n 6 dX0_isWay_5 rfl 0 rfl ?_
  refine j_getf 9 0 dX0_isWay_6 rfl fd_X0_9 rfl rfl ?_
  refine j_icmp_ltN v (yL 0 0) 12 29 dX0_isWay_9 rfl rfl (by omega) (by have z0 := h6; omega) (fun h9 => ?_) (fun h9 => ?_)
  ·
    refine j_iconst (v := (1 : Int32)) 30 dX0_isWay_29 rfl (by decide) ?_
    refine j_goto 34 dX0_isWay_30 rfl ?_
    refine j_iret1 (c := v < yL 0 0 ∨ (10 ≤ v ∧ v ≤ 9 + yL 0 1)) dX0_isWay_34 rfl ?_ ⟨gLe rfl, gLe rfl, rfl, rfl⟩
    omega
  ·
    refine j_iload_n 13 dX0_isWay_12 rfl 1 rfl ?_
    refine j_bipush (v := (10 : Int32)) 15 dX0_isWay_13 rfl (by decide) ?_
    refine j_icmp_ltN v 10 18 33 dX0_isWay_15 rfl rfl (by omega) (by decide) (fun h15 => ?_) (fun h15 => ?_)
    ·
      refine j_iconst (v := (0 : Int32)) 34 dX0_isWay_33 rfl (by decide) ?_
      refine j_iret0 (c := v < yL 0 0 ∨ (10 ≤ v ∧ v ≤ 9 + yL 0 1)) dX0_isWay_34 rfl ?_ ⟨gLe rfl, gLe rfl, rfl, rfl⟩
      omega
    ·
      refine j_iload_n 19 dX0_isWay_18 rfl 1 rfl ?_
      refine j_bipush (v := (10 : Int32)) 21 dX0_isWay_19 rfl (by decide) ?_
      refine j_aload_n 22 dX0_isWay_21 rfl 0 rfl ?_
      refine j_getf 25 0 dX0_isWay_22 rfl fd_X0_15 rfl rfl ?_
      refine j_iaddN 10 (yL 0 1) 26 dX0_isWay_25 rfl ?_
      refine j_icmp_geN v (10 + (yL 0 1)) 29 33 dX0_isWay_26 rfl rfl (by omega) (by have z0 := h5; omega) (fun h26 => ?_) (fun h26 => ?_)
      ·
        refine j_iconst (v := (0 : Int32)) 34 dX0_isWay_33 rfl (by decide) ?_
        refine j_iret0 (c := v < yL 0 0 ∨ (10 ≤ v ∧ v ≤ 9 + yL 0 1)) dX0_isWay_34 rfl ?_ ⟨gLe rfl, gLe rfl, rfl, rfl⟩
        omega
      ·
        refine j_iconst (v := (1 : Int32)) 30 dX0_isWay_29 rfl (by decide) ?_
        refine j_goto 34 dX0_isWay_30 rfl ?_
        refine j_iret1 (c := v < yL 0 0 ∨ (10 ≤ v ∧ v ≤ 9 + yL 0 1)) dX0_isWay_34 rfl ?_ ⟨gLe rfl, gLe rfl, rfl, rfl⟩
        omega
/-- a plan's arrays, laid as the reference lays them -/
def plP (L : Nat → Nat → Nat) (k : Nat) : Nat := if k < 4 then (if k = 0 then 1 else L 0 (k - 1)) else if k < 24 then (if (k - 4) % 4 = 3 then L 1 ((k - 4) / 4) else L (2 + (k - 4) % 4) ((k - 4) / 4)) else L (5 + (k - 24) % 2) ((k - 24) / 2)
theorem plP_1 {L : Nat → Nat → Nat} : plP L 1 = L 0 0 := rfl
theorem plP_2 {L : Nat → Nat → Nat} : plP L 2 = L 0 1 := rfl
theorem plP_3 {L : Nat → Nat → Nat} : plP L 3 = L 0 2 := rfl
theorem plP_l {L : Nat → Nat → Nat} {h : Nat} (hh : h < 5) : plP L (4 + 4 * h) = L 2 h := by
  unfold plP
  rw [if_neg (by omega), if_pos (by omega), if_neg (by omega), show (4 + 4 * h - 4) / 4 = h by omega, show (4 + 4 * h - 4) % 4 = 0 by omega]
theorem plP_r {L : Nat → Nat → Nat} {h : Nat} (hh : h < 5) : plP L (4 + 4 * h + 1) = L 3 h := by
  unfold plP
  rw [if_neg (by omega), if_pos (by omega), if_neg (by omega), show (4 + 4 * h + 1 - 4) / 4 = h by omega, show (4 + 4 * h + 1 - 4) % 4 = 1 by omega]
theorem plP_t {L : Nat → Nat → Nat} {h : Nat} (hh : h < 5) : plP L (4 + 4 * h + 2) = L 4 h := by
  unfold plP
  rw [if_neg (by omega), if_pos (by omega), if_neg (by omega), show (4 + 4 * h + 2 - 4) / 4 = h by omega, show (4 + 4 * h + 2 - 4) % 4 = 2 by omega]
theorem plP_s {L : Nat → Nat → Nat} {h : Nat} (hh : h < 5) : plP L (4 + 4 * h + 3) = L 1 h := by
  unfold plP
  rw [if_neg (by omega), if_pos (by omega), if_pos (by omega), show (4 + 4 * h + 3 - 4) / 4 = h by omega]
theorem plP_k {L : Nat → Nat → Nat} {b : Nat} : plP L (24 + 2 * b) = L 5 b := by
  unfold plP
  rw [if_neg (by omega), if_neg (by omega), show (24 + 2 * b - 24) / 2 = b by omega, show (24 + 2 * b - 24) % 2 = 0 by omega]
theorem plP_v {L : Nat → Nat → Nat} {b : Nat} : plP L (24 + 2 * b + 1) = L 6 b := by
  unfold plP
  rw [if_neg (by omega), if_neg (by omega), show (24 + 2 * b + 1 - 24) / 2 = b by omega, show (24 + 2 * b + 1 - 24) % 2 = 1 by omega]
def skC (sk : Nat) : Int32 := if sk < 5 then nI sk else -1
theorem skC_eq {h sk : Nat} (hh : h < 5) : nI h = skC sk ↔ h = sk := by
  unfold skC
  split
  · rw [nI_eq (by omega) (by omega)]
  · constructor
    · intro q
      exfalso
      have : ∀ h, h < 5 → ¬ nI h = -1 := by decide
      exact this h hh q
    · intro q; omega
/-- a standing's parts: how all stand, pushes, counts, weights -/
def adD (D : Nat → Nat → Nat) (p h : Nat) : Nat → Nat → Nat := va_up (va_up D 2 (va_up (D 2) p (D 2 p + 1))) 3 (va_up (D 3) p (D 3 p + h))
def putD (D : Nat → Nat → Nat) (s : Nat) (u : Nat → Nat) : Nat → Nat → Nat := va_up (va_up D 0 (fun _ => s)) 1 u
def bgD (D : Nat → Nat → Nat) (s : Nat) : Nat → Nat → Nat := va_up (va_up (va_up (va_up D 0 (fun _ => s)) 1 (va_cpy (fun _ => 0) (D 1) 0 0 5)) 2 (va_cpy (fun _ => 0) (D 2) 0 0 6)) 3 (va_cpy (fun _ => 0) (D 3) 0 0 6)
def tkD (D E : Nat → Nat → Nat) : Nat → Nat → Nat := va_up (va_up (va_up (va_up D 0 (fun _ => E 0 0)) 1 (va_cpy (E 1) (D 1) 0 0 5)) 2 (va_cpy (E 2) (D 2) 0 0 6)) 3 (va_cpy (E 3) (D 3) 0 0 6)
def cntD (D : Nat → Nat → Nat) : Nat := 0 + D 2 0 + D 2 1 + D 2 2 + D 2 3 + D 2 4 + D 2 5
def sdT (kd st : Nat) : Nat := if kd = 2 then 1 - st else if kd = 4 then 0 else if kd = 5 then 1 else st
/-- what a hurdle shows behind a beast that took a side -/
def sdB (P : Nat → Nat) (u : Nat → Nat) (h kd sd : Nat) : Nat := if kd ≠ 1 then sd else if P (4 + 4 * h + 3) = 0 ∨ u h % 3 = 0 then 1 - sd else sd
set_option maxRecDepth 20000 in
theorem c_X3_sideOf (g : gG) (sa : Nat) (p0 : Nat) (sb : Nat) (sc : Nat) (sd : Nat) (yD : Nat → Nat → Nat) (h : Nat)  (hh : h < 32) (h3 : yD 0 0 < 32) : gCon g mX3_sideOf 0 0 0 [.ref sa, .int (nI h)] [(sa, .inr (3, [.ref p0, .int (nI (yD 0 0)), .ref sb, .ref sc, .ref sd])), (sb, .inl (g.2.1 0, 5, .inl (nF (yD 1)))), (sc, .inl (g.2.1 0, 6, .inl (nF (yD 2)))), (sd, .inl (g.2.1 0, 6, .inl (nF (yD 3))))] (fun rv ws' => rv = some (.int (nI (yD 0 0 / 2 ^ h % 2))) ∧ ws' = [(sa, .inr (3, [.ref p0, .int (nI (yD 0 0)), .ref sb, .ref sc, .ref sd])), (sb, .inl (g.2.1 0, 5, .inl (nF (yD 1)))), (sc, .inl (g.2.1 0, 6, .inl (nF (yD 2)))), (sd, .inl (g.2.1 0, 6, .inl (nF (yD 3))))]) := by
  refine gCon.of (lv := [(0, .ref sa), (1, .int (nI h))]) (by decide) (gLe rfl) rfl ?_
  refine j_aload_n 1 dX3_sideOf_0 rfl 0 rfl ?_
  refine j_getf 4 0 dX3_sideOf_1 rfl fd_X3_9 rfl rfl ?_
  refine j_iload_n 5 dX3_sideOf_4 rfl 1 rfl ?_
  refine j_ishrN (yD 0 0) h 6 dX3_sideOf_5 rfl (by omega) (by omega) ?_
  refine j_iconst (v := (1 : Int32)) 7 dX3_sideOf_6 rfl (by decide) ?_
  refine j_iandN ((yD 0 0) / 2 ^ h) 1 8 dX3_sideOf_7 rfl ?_
  refine j_topN (((yD 0 0) / 2 ^ h) &&& 1) (yD 0 0 / 2 ^ h % 2) (Nat.and_one_is_mod _) ?_
  refine j_iretI dX3_sideOf_8 rfl ⟨gLe rfl, gLe rfl, ?_⟩
  exact ⟨rfl, rfl⟩
set_option maxRecDepth 20000 in
theorem c_X3_inPens (g : gG) (sa : Nat) (p0 : Nat) (sb : Nat) (sc : Nat) (sd : Nat) (yD : Nat → Nat → Nat)    : gCon g mX3_inPens 0 0 0 [.ref sa] [(sa, .inr (3, [.ref p0, .int (nI (yD 0 0)), .ref sb, .ref sc, .ref sd])), (sb, .inl (g.2.1 0, 5, .inl (nF (yD 1)))), (sc, .inl (g.2.1 0, 6, .inl (nF (yD 2)))), (sd, .inl (g.2.1 0, 6, .inl (nF (yD 3))))] (fun rv ws' => rv = some (.int (nI (cntD yD))) ∧ ws' = [(sa, .inr (3, [.ref p0, .int (nI (yD 0 0)), .ref sb, .ref sc, .ref sd])), (sb, .inl (g.2.1 0, 5, .inl (nF (yD 1)))), (sc, .inl (g.2.1 0, 6, .inl (nF (yD 2)))), (sd, .inl (g.2.1 0, 6, .inl (nF (yD 3))))]) := by
  refine gCon.of (lv := [(0, .ref sa)]) (by decide) (gLe rfl) rfl ?_
  refine j_iconst (v := (0 : Int32)) 1 dX3_inPens_0 rfl (by decide) ?_
  refine j_istore_n 2 [(1, .int (0 : Int32)), (0, .ref sa)] dX3_inPens_1 rfl (by decide) rfl ?_
  refine j_iconst (v := (0 : Int32)) 3 dX3_inPens_2 rfl (by decide) ?_
  refine j_istore_n 4 [(2, .int (0 : Int32)), (1, .int (0 : Int32)), (0, .ref sa)] dX3_inPens_3 rfl (by decide) rfl ?_
  refine j_iload_n 5 dX3_inPens_4 rfl 0 rfl ?_
  refine j_bipush (v := (6 : Int32)) 7 dX3_inPens_5 rfl (by decide) ?_
  refine j_icmp_geN 0 6 10 25 dX3_inPens_7 rfl rfl (by decide) (by decide) (fun h7 => absurd h7 (by decide)) (fun h7 => ?_)
  refine j_iload_n 11 dX3_inPens_10 rfl 1 rfl ?_
  refine j_aload_n 12 dX3_inPens_11 rfl 2 rfl ?_
  refine j_getf 15 0 dX3_inPens_12 rfl fd_X3_19 rfl rfl ?_
  refine j_iload_n 16 dX3_inPens_15 rfl 0 rfl ?_
  refine j_ialdN 0 17 2 dX3_inPens_16 rfl rfl (by decide) (by decide) ?_
  refine j_iaddN 0 ((yD 2) 0) 18 dX3_inPens_17 rfl ?_
  refine j_istore_n 19 [(1, .int (nI (0 + ((yD 2) 0)))), (2, .int (0 : Int32)), (0, .ref sa)] dX3_inPens_18 rfl (by decide) rfl ?_
  refine j_iincN 0 1 22 [(2, .int (nI 1)), (1, .int (nI (0 + ((yD 2) 0)))), (0, .ref sa)] dX3_inPens_19 rfl 1 rfl (by decide) rfl ?_
  refine j_goto 4 dX3_inPens_22 rfl ?_
  refine j_iload_n 5 dX3_inPens_4 rfl 0 rfl ?_
  refine j_bipush (v := (6 : Int32)) 7 dX3_inPens_5 rfl (by decide) ?_
  refine j_icmp_geN 1 6 10 25 dX3_inPens_7 rfl rfl (by decide) (by decide) (fun h7 => absurd h7 (by decide)) (fun h7 => ?_)
  refine j_iload_n 11 dX3_inPens_10 rfl 1 rfl ?_
  refine j_aload_n 12 dX3_inPens_11 rfl 2 rfl ?_
  refine j_getf 15 0 dX3_inPens_12 rfl fd_X3_19 rfl rfl ?_
  refine j_iload_n 16 dX3_inPens_15 rfl 0 rfl ?_
  refine j_ialdN 1 17 2 dX3_inPens_16 rfl rfl (by decide) (by decide) ?_
  refine j_iaddN (0 + ((yD 2) 0)) ((yD 2) 1) 18 dX3_inPens_17 rfl ?_
  refine j_istore_n 19 [(1, .int (nI ((0 + ((yD 2) 0)) + ((yD 2) 1)))), (2, .int (nI 1)), (0, .ref sa)] dX3_inPens_18 rfl (by decide) rfl ?_
  refine j_iincN 1 1 22 [(2, .int (nI 2)), (1, .int (nI ((0 + ((yD 2) 0)) + ((yD 2) 1)))), (0, .ref sa)] dX3_inPens_19 rfl 1 rfl (by decide) rfl ?_
  refine j_goto 4 dX3_inPens_22 rfl ?_
  refine j_iload_n 5 dX3_inPens_4 rfl 0 rfl ?_
  refine j_bipush (v := (6 : Int32)) 7 dX3_inPens_5 rfl (by decide) ?_
  refine j_icmp_geN 2 6 10 25 dX3_inPens_7 rfl rfl (by decide) (by decide) (fun h7 => absurd h7 (by decide)) (fun h7 => ?_)
  refine j_iload_n 11 dX3_inPens_10 rfl 1 rfl ?_
  refine j_aload_n 12 dX3_inPens_11 rfl 2 rfl ?_
  refine j_getf 15 0 dX3_inPens_12 rfl fd_X3_19 rfl rfl ?_
  refine j_iload_n 16 dX3_inPens_15 rfl 0 rfl ?_
  refine j_ialdN 2 17 2 dX3_inPens_16 rfl rfl (by decide) (by decide) ?_
  refine j_iaddN ((0 + ((yD 2) 0)) + ((yD 2) 1)) ((yD 2) 2) 18 dX3_inPens_17 rfl ?_
  refine j_istore_n 19 [(1, .int (nI (((0 + ((yD 2) 0)) + ((yD 2) 1)) + ((yD 2) 2)))), (2, .int (nI 2)), (0, .ref sa)] dX3_inPens_18 rfl (by decide) rfl ?_
  refine j_iincN 2 1 22 [(2, .int (nI 3)), (1, .int (nI (((0 + ((yD 2) 0)) + ((yD 2) 1)) + ((yD 2) 2)))), (0, .ref sa)] dX3_inPens_19 rfl 1 rfl (by decide) rfl ?_
  refine j_goto 4 dX3_inPens_22 rfl ?_
  refine j_iload_n 5 dX3_inPens_4 rfl 0 rfl ?_
  refine j_bipush (v := (6 : Int32)) 7 dX3_inPens_5 rfl (by decide) ?_
  refine j_icmp_geN 3 6 10 25 dX3_inPens_7 rfl rfl (by decide) (by decide) (fun h7 => absurd h7 (by decide)) (fun h7 => ?_)
  refine j_iload_n 11 dX3_inPens_10 rfl 1 rfl ?_
  refine j_aload_n 12 dX3_inPens_11 rfl 2 rfl ?_
  refine j_getf 15 0 dX3_inPens_12 rfl fd_X3_19 rfl rfl ?_
  refine j_iload_n 16 dX3_inPens_15 rfl 0 rfl ?_
  refine j_ialdN 3 17 2 dX3_inPens_16 rfl rfl (by decide) (by decide) ?_
  refine j_iaddN (((0 + ((yD 2) 0)) + ((yD 2) 1)) + ((yD 2) 2)) ((yD 2) 3) 18 dX3_inPens_17 rfl ?_
  refine j_istore_n 19 [(1, .int (nI ((((0 + ((yD 2) 0)) + ((yD 2) 1)) + ((yD 2) 2)) + ((yD 2) 3)))), (2, .int (nI 3)), (0, .ref sa)] dX3_inPens_18 rfl (by decide) rfl ?_
  refine j_iincN 3 1 22 [(2, .int (nI 4)), (1, .int (nI ((((0 + ((yD 2) 0)) + ((yD 2) 1)) + ((yD 2) 2)) + ((yD 2) 3)))), (0, .ref sa)] dX3_inPens_19 rfl 1 rfl (by decide) rfl ?_
  refine j_goto 4 dX3_inPens_22 rfl ?_
  refine j_iload_n 5 dX3_inPens_4 rfl 0 rfl ?_
  refine j_bipush (v := (6 : Int32)) 7 dX3_inPens_5 rfl (by decide) ?_
  refine j_icmp_geN 4 6 10 25 dX3_inPens_7 rfl rfl (by decide) (by decide) (fun h7 => absurd h7 (by decide)) (fun h7 => ?_)
  refine j_iload_n 11 dX3_inPens_10 rfl 1 rfl ?_
  refine j_aload_n 12 dX3_inPens_11 rfl 2 rfl ?_
  refine j_getf 15 0 dX3_inPens_12 rfl fd_X3_19 rfl rfl ?_
  refine j_iload_n 16 dX3_inPens_15 rfl 0 rfl ?_
  refine j_ialdN 4 17 2 dX3_inPens_16 rfl rfl (by decide) (by decide) ?_
  refine j_iaddN ((((0 + ((yD 2) 0)) + ((yD 2) 1)) + ((yD 2) 2)) + ((yD 2) 3)) ((yD 2) 4) 18 dX3_inPens_17 rfl ?_
  refine j_istore_n 19 [(1, .int (nI (((((0 + ((yD 2) 0)) + ((yD 2) 1)) + ((yD 2) 2)) + ((yD 2) 3)) + ((yD 2) 4)))), (2, .int (nI 4)), (0, .ref sa)] dX3_inPens_18 rfl (by decide) rfl ?_
  refine j_iincN 4 1 22 [(2, .int (nI 5)), (1, .int (nI (((((0 + ((yD 2) 0)) + ((yD 2) 1)) + ((yD 2) 2)) + ((yD 2) 3)) + ((yD 2) 4)))), (0, .ref sa)] dX3_inPens_19 rfl 1 rfl (by decide) rfl ?_
  refine j_goto 4 dX3_inPens_22 rfl ?_
  refine j_iload_n 5 dX3_inPens_4 rfl 0 rfl ?_
  refine j_bipush (v := (6 : Int32)) 7 dX3_inPens_5 rfl (by decide) ?_
  refine j_icmp_geN 5 6 10 25 dX3_inPens_7 rfl rfl (by decide) (by decide) (fun h7 => absurd h7 (by decide)) (fun h7 => ?_)
  refine j_iload_n 11 dX3_inPens_10 rfl 1 rfl ?_
  refine j_aload_n 12 dX3_inPens_11 rfl 2 rfl ?_
  refine j_getf 15 0 dX3_inPens_12 rfl fd_X3_19 rfl rfl ?_
  refine j_iload_n 16 dX3_inPens_15 rfl 0 rfl ?_
  refine j_ialdN 5 17 2 dX3_inPens_16 rfl rfl (by decide) (by decide) ?_
  refine j_iaddN (((((0 + ((yD 2) 0)) + ((yD 2) 1)) + ((yD 2) 2)) + ((yD 2) 3)) + ((yD 2) 4)) ((yD 2) 5) 18 dX3_inPens_17 rfl ?_
  refine j_istore_n 19 [(1, .int (nI ((((((0 + ((yD 2) 0)) + ((yD 2) 1)) + ((yD 2) 2)) + ((yD 2) 3)) + ((yD 2) 4)) + ((yD 2) 5)))), (2, .int (nI 5)), (0, .ref sa)] dX3_inPens_18 rfl (by decide) rfl ?_
  refine j_iincN 5 1 22 [(2, .int (nI 6)), (1, .int (nI ((((((0 + ((yD 2) 0)) + ((yD 2) 1)) + ((yD 2) 2)) + ((yD 2) 3)) + ((yD 2) 4)) + ((yD 2) 5)))), (0, .ref sa)] dX3_inPens_19 rfl 1 rfl (by decide) rfl ?_
  refine j_goto 4 dX3_inPens_22 rfl ?_
  refine j_iload_n 5 dX3_inPens_4 rfl 0 rfl ?_
  refine j_bipush (v := (6 : Int32)) 7 dX3_inPens_5 rfl (by decide) ?_
  refine j_icmp_geN 6 6 10 25 dX3_inPens_7 rfl rfl (by decide) (by decide) (fun h7 => ?_) (fun h7 => absurd h7 (by decide))
  refine j_iload_n 26 dX3_inPens_25 rfl 1 rfl ?_
  refine j_iretI dX3_inPens_26 rfl ⟨gLe rfl, gLe rfl, ?_⟩
  exact ⟨rfl, rfl⟩
set_option maxRecDepth 20000 in
theorem c_X3_adm (g : gG) (sa : Nat) (p0 : Nat) (sb : Nat) (sc : Nat) (sd : Nat) (yD : Nat → Nat → Nat) (p : Nat) (v : Nat)  (hp : p < 6) : gCon g mX3_adm 0 0 0 [.ref sa, .int (nI p), .int (nI v)] [(sa, .inr (3, [.ref p0, .int (nI (yD 0 0)), .ref sb, .ref sc, .ref sd])), (sb, .inl (g.2.1 0, 5, .inl (nF (yD 1)))), (sc, .inl (g.2.1 0, 6, .inl (nF (yD 2)))), (sd, .inl (g.2.1 0, 6, .inl (nF (yD 3))))] (fun rv ws' => rv = none ∧ ws' = [(sa, .inr (3, [.ref p0, .int (nI ((adD yD p v) 0 0)), .ref sb, .ref sc, .ref sd])), (sb, .inl (g.2.1 0, 5, .inl (nF ((adD yD p v) 1)))), (sc, .inl (g.2.1 0, 6, .inl (nF ((adD yD p v) 2)))), (sd, .inl (g.2.1 0, 6, .inl (nF ((adD yD p v) 3))))]) := by
  refine gCon.of (lv := [(0, .ref sa), (1, .int (nI p)), (2, .int (nI v))]) (by decide) (gLe rfl) rfl ?_
  refine j_iload_n 1 dX3_adm_0 rfl 1 rfl ?_
  refine j_if_ltN p 4 dX3_adm_1 rfl (t := 10) rfl (by omega) ?_
  refine j_iload_n 5 dX3_adm_4 rfl 1 rfl ?_
  refine j_bipush (v := (6 : Int32)) 7 dX3_adm_5 rfl (by decide) ?_
  refine j_icmp_ltN p 6 10 11 dX3_adm_7 rfl rfl (by omega) (by decide) (fun h7 => ?_) (fun h7 => absurd hp h7)
  refine j_aload_n 12 dX3_adm_11 rfl 0 rfl ?_
  refine j_getf 15 0 dX3_adm_12 rfl fd_X3_19 rfl rfl ?_
  refine j_iload_n 16 dX3_adm_15 rfl 1 rfl ?_
  refine j_dup2 17 dX3_adm_16 rfl rfl rfl ?_
  refine j_ialdN p 18 2 dX3_adm_17 rfl rfl hp (by decide) ?_
  refine j_iconst (v := (1 : Int32)) 19 dX3_adm_18 rfl (by decide) ?_
  refine j_iaddN ((yD 2) p) 1 20 dX3_adm_19 rfl ?_
  refine j_iastN (((yD 2) p) + 1) p 21 2 [(sa, .inr (3, [.ref p0, .int (nI (yD 0 0)), .ref sb, .ref sc, .ref sd])), (sb, .inl (g.2.1 0, 5, .inl (nF (yD 1)))), (sc, .inl (g.2.1 0, 6, .inl (nF (va_up (yD 2) p (((yD 2) p) + 1))))), (sd, .inl (g.2.1 0, 6, .inl (nF (yD 3))))] dX3_adm_20 rfl rfl hp (by decide) rfl ?_
  refine j_aload_n 22 dX3_adm_21 rfl 0 rfl ?_
  refine j_getf 25 0 dX3_adm_22 rfl fd_X3_22 rfl rfl ?_
  refine j_iload_n 26 dX3_adm_25 rfl 1 rfl ?_
  refine j_dup2 27 dX3_adm_26 rfl rfl rfl ?_
  refine j_ialdN p 28 3 dX3_adm_27 rfl rfl hp (by decide) ?_
  refine j_iload_n 29 dX3_adm_28 rfl 2 rfl ?_
  refine j_iaddN ((yD 3) p) v 30 dX3_adm_29 rfl ?_
  refine j_iastN (((yD 3) p) + v) p 31 3 [(sa, .inr (3, [.ref p0, .int (nI (yD 0 0)), .ref sb, .ref sc, .ref sd])), (sb, .inl (g.2.1 0, 5, .inl (nF (yD 1)))), (sc, .inl (g.2.1 0, 6, .inl (nF (va_up (yD 2) p (((yD 2) p) + 1))))), (sd, .inl (g.2.1 0, 6, .inl (nF (va_up (yD 3) p (((yD 3) p) + v)))))] dX3_adm_30 rfl rfl hp (by decide) rfl ?_
  refine j_vret dX3_adm_31 rfl ⟨gLe rfl, gLe rfl, ?_⟩
  exact ⟨rfl, rfl⟩
set_option maxRecDepth 20000 in
theorem c_X3_begin (g : gG) (sa : Nat) (p0 : Nat) (sb : Nat) (sc : Nat) (sd : Nat) (yD : Nat → Nat → Nat) (np : Nat) (s : Nat)   : gCon g mX3_begin 1 0 0 [.ref sa, .ref np, .int (nI s)] [(sa, .inr (3, [.ref p0, .int (nI (yD 0 0)), .ref sb, .ref sc, .ref sd])), (sb, .inl (g.2.1 0, 5, .inl (nF (yD 1)))), (sc, .inl (g.2.1 0, 6, .inl (nF (yD 2)))), (sd, .inl (g.2.1 0, 6, .inl (nF (yD 3))))] (fun rv ws' => rv = none ∧ ws' = [(sa, .inr (3, [.ref np, .int (nI ((bgD yD s) 0 0)), .ref sb, .ref sc, .ref sd])), (sb, .inl (g.2.1 0, 5, .inl (nF ((bgD yD s) 1)))), (sc, .inl (g.2.1 0, 6, .inl (nF ((bgD yD s) 2)))), (sd, .inl (g.2.1 0, 6, .inl (nF ((bgD yD s) 3))))]) := by
  refine gCon.of (lv := [(0, .ref sa), (1, .ref np), (2, .int (nI s))]) (by decide) (gLe rfl) rfl ?_
  refine j_aload_n 1 dX3_begin_0 rfl 0 rfl ?_
  refine j_aload_n 2 dX3_begin_1 rfl 1 rfl ?_
  refine j_putf 5 0 [(sa, .inr (3, [.ref np, .int (nI (yD 0 0)), .ref sb, .ref sc, .ref sd])), (sb, .inl (g.2.1 0, 5, .inl (nF (yD 1)))), (sc, .inl (g.2.1 0, 6, .inl (nF (yD 2)))), (sd, .inl (g.2.1 0, 6, .inl (nF (yD 3))))] dX3_begin_2 rfl fd_X3_25 rfl rfl rfl (gLe rfl) rfl ?_
  refine j_aload_n 6 dX3_begin_5 rfl 0 rfl ?_
  refine j_iload_n 7 dX3_begin_6 rfl 2 rfl ?_
  refine j_putf 10 0 [(sa, .inr (3, [.ref np, .int (nI s), .ref sb, .ref sc, .ref sd])), (sb, .inl (g.2.1 0, 5, .inl (nF (yD 1)))), (sc, .inl (g.2.1 0, 6, .inl (nF (yD 2)))), (sd, .inl (g.2.1 0, 6, .inl (nF (yD 3))))] dX3_begin_7 rfl fd_X3_9 rfl rfl rfl (gLe rfl) rfl ?_
  refine j_aload_n 11 dX3_begin_10 rfl 0 rfl ?_
  refine j_getf 14 0 dX3_begin_11 rfl fd_X3_15 rfl rfl ?_
  refine j_iconst (v := (0 : Int32)) 15 dX3_begin_14 rfl (by decide) ?_
  refine j_callS0 (rest := []) 18 [1] (c_fillN g sb 5 (yD 1) 0 (by decide)) [] [(sa, .inr (3, [.ref np, .int (nI s), .ref sb, .ref sc, .ref sd])), (sb, .inl (g.2.1 0, 5, .inl (nF (va_cpy (fun _ => 0) (yD 1) 0 0 5)))), (sc, .inl (g.2.1 0, 6, .inl (nF (yD 2)))), (sd, .inl (g.2.1 0, 6, .inl (nF (yD 3))))] dX3_begin_15 rfl cs_X3_29 rfl rfl rfl rfl (gLe rfl) (gLe rfl) (gLe rfl) (gLe rfl) (gLe rfl) rfl rfl ?_
  refine j_aload_n 19 dX3_begin_18 rfl 0 rfl ?_
  refine j_getf 22 0 dX3_begin_19 rfl fd_X3_19 rfl rfl ?_
  refine j_iconst (v := (0 : Int32)) 23 dX3_begin_22 rfl (by decide) ?_
  refine j_callS0 (rest := []) 26 [2] (c_fillN g sc 6 (yD 2) 0 (by decide)) [] [(sa, .inr (3, [.ref np, .int (nI s), .ref sb, .ref sc, .ref sd])), (sb, .inl (g.2.1 0, 5, .inl (nF (va_cpy (fun _ => 0) (yD 1) 0 0 5)))), (sc, .inl (g.2.1 0, 6, .inl (nF (va_cpy (fun _ => 0) (yD 2) 0 0 6)))), (sd, .inl (g.2.1 0, 6, .inl (nF (yD 3))))] dX3_begin_23 rfl cs_X3_29 rfl rfl rfl rfl (gLe rfl) (gLe rfl) (gLe rfl) (gLe rfl) (gLe rfl) rfl rfl ?_
  refine j_aload_n 27 dX3_begin_26 rfl 0 rfl ?_
  refine j_getf 30 0 dX3_begin_27 rfl fd_X3_22 rfl rfl ?_
  refine j_iconst (v := (0 : Int32)) 31 dX3_begin_30 rfl (by decide) ?_
  refine j_callS0 (rest := []) 34 [3] (c_fillN g sd 6 (yD 3) 0 (by decide)) [] [(sa, .inr (3, [.ref np, .int (nI s), .ref sb, .ref sc, .ref sd])), (sb, .inl (g.2.1 0, 5, .inl (nF (va_cpy (fun _ => 0) (yD 1) 0 0 5)))), (sc, .inl (g.2.1 0, 6, .inl (nF (va_cpy (fun _ => 0) (yD 2) 0 0 6)))), (sd, .inl (g.2.1 0, 6, .inl (nF (va_cpy (fun _ => 0) (yD 3) 0 0 6))))] dX3_begin_31 rfl cs_X3_29 rfl rfl rfl rfl (gLe rfl) (gLe rfl) (gLe rfl) (gLe rfl) (gLe rfl) rfl rfl ?_
  refine j_vret dX3_begin_34 rfl ⟨gLe rfl, gLe rfl, ?_⟩
  exact ⟨rfl, rfl⟩
set_option maxRecDepth 20000 in
theorem c_X3_takeFrom (g : gG) (sa : Nat) (p0 : Nat) (sb : Nat) (sc : Nat) (sd : Nat) (yD : Nat → Nat → Nat) (ta : Nat) (q0 : Nat) (tb : Nat) (tc : Nat) (td : Nat) (yE : Nat → Nat → Nat)    : gCon g mX3_takeFrom 1 0 0 [.ref sa, .ref ta] [(sa, .inr (3, [.ref p0, .int (nI (yD 0 0)), .ref sb, .ref sc, .ref sd])), (sb, .inl (g.2.1 0, 5, .inl (nF (yD 1)))), (sc, .inl (g.2.1 0, 6, .inl (nF (yD 2)))), (sd, .inl (g.2.1 0, 6, .inl (nF (yD 3)))), (ta, .inr (3, [.ref q0, .int (nI (yE 0 0)), .ref tb, .ref tc, .ref td])), (tb, .inl (g.2.1 0, 5, .inl (nF (yE 1)))), (tc, .inl (g.2.1 0, 6, .inl (nF (yE 2)))), (td, .inl (g.2.1 0, 6, .inl (nF (yE 3))))] (fun rv ws' => rv = none ∧ ws' = [(sa, .inr (3, [.ref q0, .int (nI ((tkD yD yE) 0 0)), .ref sb, .ref sc, .ref sd])), (sb, .inl (g.2.1 0, 5, .inl (nF ((tkD yD yE) 1)))), (sc, .inl (g.2.1 0, 6, .inl (nF ((tkD yD yE) 2)))), (sd, .inl (g.2.1 0, 6, .inl (nF ((tkD yD yE) 3)))), (ta, .inr (3, [.ref q0, .int (nI (yE 0 0)), .ref tb, .ref tc, .ref td])), (tb, .inl (g.2.1 0, 5, .inl (nF (yE 1)))), (tc, .inl (g.2.1 0, 6, .inl (nF (yE 2)))), (td, .inl (g.2.1 0, 6, .inl (nF (yE 3))))]) := by
  refine gCon.of (lv := [(0, .ref sa), (1, .ref ta)]) (by decide) (gLe rfl) rfl ?_
  refine j_aload_n 1 dX3_takeFrom_0 rfl 0 rfl ?_
  refine j_aload_n 2 dX3_takeFrom_1 rfl 1 rfl ?_
  refine j_getf 5 4 dX3_takeFrom_2 rfl fd_X3_25 rfl rfl ?_
  refine j_putf 8 0 [(sa, .inr (3, [.ref q0, .int (nI (yD 0 0)), .ref sb, .ref sc, .ref sd])), (sb, .inl (g.2.1 0, 5, .inl (nF (yD 1)))), (sc, .inl (g.2.1 0, 6, .inl (nF (yD 2)))), (sd, .inl (g.2.1 0, 6, .inl (nF (yD 3)))), (ta, .inr (3, [.ref q0, .int (nI (yE 0 0)), .ref tb, .ref tc, .ref td])), (tb, .inl (g.2.1 0, 5, .inl (nF (yE 1)))), (tc, .inl (g.2.1 0, 6, .inl (nF (yE 2)))), (td, .inl (g.2.1 0, 6, .inl (nF (yE 3))))] dX3_takeFrom_5 rfl fd_X3_25 rfl rfl rfl (gLe rfl) rfl ?_
  refine j_aload_n 9 dX3_takeFrom_8 rfl 0 rfl ?_
  refine j_aload_n 10 dX3_takeFrom_9 rfl 1 rfl ?_
  refine j_getf 13 4 dX3_takeFrom_10 rfl fd_X3_9 rfl rfl ?_
  refine j_putf 16 0 [(sa, .inr (3, [.ref q0, .int (nI (yE 0 0)), .ref sb, .ref sc, .ref sd])), (sb, .inl (g.2.1 0, 5, .inl (nF (yD 1)))), (sc, .inl (g.2.1 0, 6, .inl (nF (yD 2)))), (sd, .inl (g.2.1 0, 6, .inl (nF (yD 3)))), (ta, .inr (3, [.ref q0, .int (nI (yE 0 0)), .ref tb, .ref tc, .ref td])), (tb, .inl (g.2.1 0, 5, .inl (nF (yE 1)))), (tc, .inl (g.2.1 0, 6, .inl (nF (yE 2)))), (td, .inl (g.2.1 0, 6, .inl (nF (yE 3))))] dX3_takeFrom_13 rfl fd_X3_9 rfl rfl rfl (gLe rfl) rfl ?_
  refine j_aload_n 17 dX3_takeFrom_16 rfl 1 rfl ?_
  refine j_getf 20 4 dX3_takeFrom_17 rfl fd_X3_15 rfl rfl ?_
  refine j_iconst (v := (0 : Int32)) 21 dX3_takeFrom_20 rfl (by decide) ?_
  refine j_aload_n 22 dX3_takeFrom_21 rfl 0 rfl ?_
  refine j_getf 25 0 dX3_takeFrom_22 rfl fd_X3_15 rfl rfl ?_
  refine j_iconst (v := (0 : Int32)) 26 dX3_takeFrom_25 rfl (by decide) ?_
  refine j_iconst (v := (5 : Int32)) 27 dX3_takeFrom_26 rfl (by decide) ?_
  refine j_copyN 0 0 5 30 5 1 [(sa, .inr (3, [.ref q0, .int (nI (yE 0 0)), .ref sb, .ref sc, .ref sd])), (sb, .inl (g.2.1 0, 5, .inl (nF (va_cpy (yE 1) (yD 1) 0 0 5)))), (sc, .inl (g.2.1 0, 6, .inl (nF (yD 2)))), (sd, .inl (g.2.1 0, 6, .inl (nF (yD 3)))), (ta, .inr (3, [.ref q0, .int (nI (yE 0 0)), .ref tb, .ref tc, .ref td])), (tb, .inl (g.2.1 0, 5, .inl (nF (yE 1)))), (tc, .inl (g.2.1 0, 6, .inl (nF (yE 2)))), (td, .inl (g.2.1 0, 6, .inl (nF (yE 3))))] dX3_takeFrom_27 rfl cy_X3_35 rfl rfl (by decide) (by decide) (by decide) (gLe rfl) (gLe rfl) rfl ?_
  refine j_aload_n 31 dX3_takeFrom_30 rfl 1 rfl ?_
  refine j_getf 34 4 dX3_takeFrom_31 rfl fd_X3_19 rfl rfl ?_
  refine j_iconst (v := (0 : Int32)) 35 dX3_takeFrom_34 rfl (by decide) ?_
  refine j_aload_n 36 dX3_takeFrom_35 rfl 0 rfl ?_
  refine j_getf 39 0 dX3_takeFrom_36 rfl fd_X3_19 rfl rfl ?_
  refine j_iconst (v := (0 : Int32)) 40 dX3_takeFrom_39 rfl (by decide) ?_
  refine j_bipush (v := (6 : Int32)) 42 dX3_takeFrom_40 rfl (by decide) ?_
  refine j_copyN 0 0 6 45 6 2 [(sa, .inr (3, [.ref q0, .int (nI (yE 0 0)), .ref sb, .ref sc, .ref sd])), (sb, .inl (g.2.1 0, 5, .inl (nF (va_cpy (yE 1) (yD 1) 0 0 5)))), (sc, .inl (g.2.1 0, 6, .inl (nF (va_cpy (yE 2) (yD 2) 0 0 6)))), (sd, .inl (g.2.1 0, 6, .inl (nF (yD 3)))), (ta, .inr (3, [.ref q0, .int (nI (yE 0 0)), .ref tb, .ref tc, .ref td])), (tb, .inl (g.2.1 0, 5, .inl (nF (yE 1)))), (tc, .inl (g.2.1 0, 6, .inl (nF (yE 2)))), (td, .inl (g.2.1 0, 6, .inl (nF (yE 3))))] dX3_takeFrom_42 rfl cy_X3_35 rfl rfl (by decide) (by decide) (by decide) (gLe rfl) (gLe rfl) rfl ?_
  refine j_aload_n 46 dX3_takeFrom_45 rfl 1 rfl ?_
  refine j_getf 49 4 dX3_takeFrom_46 rfl fd_X3_22 rfl rfl ?_
  refine j_iconst (v := (0 : Int32)) 50 dX3_takeFrom_49 rfl (by decide) ?_
  refine j_aload_n 51 dX3_takeFrom_50 rfl 0 rfl ?_
  refine j_getf 54 0 dX3_takeFrom_51 rfl fd_X3_22 rfl rfl ?_
  refine j_iconst (v := (0 : Int32)) 55 dX3_takeFrom_54 rfl (by decide) ?_
  refine j_bipush (v := (6 : Int32)) 57 dX3_takeFrom_55 rfl (by decide) ?_
  refine j_copyN 0 0 6 60 7 3 [(sa, .inr (3, [.ref q0, .int (nI (yE 0 0)), .ref sb, .ref sc, .ref sd])), (sb, .inl (g.2.1 0, 5, .inl (nF (va_cpy (yE 1) (yD 1) 0 0 5)))), (sc, .inl (g.2.1 0, 6, .inl (nF (va_cpy (yE 2) (yD 2) 0 0 6)))), (sd, .inl (g.2.1 0, 6, .inl (nF (va_cpy (yE 3) (yD 3) 0 0 6)))), (ta, .inr (3, [.ref q0, .int (nI (yE 0 0)), .ref tb, .ref tc, .ref td])), (tb, .inl (g.2.1 0, 5, .inl (nF (yE 1)))), (tc, .inl (g.2.1 0, 6, .inl (nF (yE 2)))), (td, .inl (g.2.1 0, 6, .inl (nF (yE 3))))] dX3_takeFrom_57 rfl cy_X3_35 rfl rfl (by decide) (by decide) (by decide) (gLe rfl) (gLe rfl) rfl ?_
  refine j_vret dX3_takeFrom_60 rfl ⟨gLe rfl, gLe rfl, ?_⟩
  exact ⟨rfl, rfl⟩
set_option maxRecDepth 20000 in
theorem c_X3_isFixed (g : gG) (sa : Nat) (p0 : Nat) (sb : Nat) (sc : Nat) (sd : Nat) (yD : Nat → Nat → Nat) (p1 : Nat) (p2 : Nat) (p3 : Nat) (p4 : Nat) (p5 : Nat) (p6 : Nat) (yL : Nat → Nat → Nat) (h : Nat) (k : Int32) (sk : Nat) (hP : okP (plP yL)) (hk : k = skC sk) (hh : h < yL 0 1) : gCon g mX3_isFixed 0 0 0 [.ref sa, .int (nI h), .int k] [(sa, .inr (3, [.ref p0, .int (nI (yD 0 0)), .ref sb, .ref sc, .ref sd])), (sb, .inl (g.2.1 0, 5, .inl (nF (yD 1)))), (sc, .inl (g.2.1 0, 6, .inl (nF (yD 2)))), (sd, .inl (g.2.1 0, 6, .inl (nF (yD 3)))), (p0, .inr (0, [.int (nI (yL 0 0)), .int (nI (yL 0 1)), .int (nI (yL 0 2)), .ref p1, .ref p2, .ref p3, .ref p4, .ref p5, .ref p6])), (p1, .inl (g.2.1 0, 5, .inl (nF (yL 1)))), (p2, .inl (g.2.1 0, 5, .inl (nF (yL 2)))), (p3, .inl (g.2.1 0, 5, .inl (nF (yL 3)))), (p4, .inl (g.2.1 0, 5, .inl (nF (yL 4)))), (p5, .inl (g.2.1 0, 8, .inl (nF (yL 5)))), (p6, .inl (g.2.1 0, 8, .inl (nF (yL 6))))] (fun rv ws' => rv = some (.int (gB (srtO (plP yL) sk h = 2))) ∧ ws' = [(sa, .inr (3, [.ref p0, .int (nI (yD 0 0)), .ref sb, .ref sc, .ref sd])), (sb, .inl (g.2.1 0, 5, .inl (nF (yD 1)))), (sc, .inl (g.2.1 0, 6, .inl (nF (yD 2)))), (sd, .inl (g.2.1 0, 6, .inl (nF (yD 3)))), (p0, .inr (0, [.int (nI (yL 0 0)), .int (nI (yL 0 1)), .int (nI (yL 0 2)), .ref p1, .ref p2, .ref p3, .ref p4, .ref p5, .ref p6])), (p1, .inl (g.2.1 0, 5, .inl (nF (yL 1)))), (p2, .inl (g.2.1 0, 5, .inl (nF (yL 2)))), (p3, .inl (g.2.1 0, 5, .inl (nF (yL 3)))), (p4, .inl (g.2.1 0, 5, .inl (nF (yL 4)))), (p5, .inl (g.2.1 0, 8, .inl (nF (yL 5)))), (p6, .inl (g.2.1 0, 8, .inl (nF (yL 6))))]) := by
  refine gCon.of (lv := [(0, .ref sa), (1, .int (nI h)), (2, .int k)]) (by decide) (gLe rfl) rfl ?_
  subst hk
  have h5 : h < 5 := okP_5 hP hh
  have hs2 : yL 1 h ≤ 2 := by rw [← plP_s (L := yL) h5]; exact (hP.2.2.2.2.1 h hh).2.2.2
  refine j_iload_n 1 dX3_isFixed_0 rfl 1 rfl ?_
  refine j_iload_n 2 dX3_isFixed_1 rfl 2 rfl ?_
  refine j_icmp_eq 5 23 dX3_isFixed_2 rfl rfl (fun h2 => ?_) (fun h2 => ?_)
  ·
    refine j_iconst (v := (1 : Int32)) 24 dX3_isFixed_23 rfl (by decide) ?_
    refine j_goto 28 dX3_isFixed_24 rfl ?_
    refine j_iret1 (c := srtO (plP yL) sk h = 2) dX3_isFixed_28 rfl ?_ ⟨gLe rfl, gLe rfl, rfl, rfl⟩
    first
      | exact if_pos ((skC_eq h5).mp h2)
      | (rw [srtO, if_neg (fun y => h2 ((skC_eq h5).mpr y)), plP_s h5]; exact h20)
  ·
    refine j_iload_n 6 dX3_isFixed_5 rfl 1 rfl ?_
    refine j_iconst (v := (5 : Int32)) 7 dX3_isFixed_6 rfl (by decide) ?_
    refine j_icmp_geN h 5 10 23 dX3_isFixed_7 rfl rfl (by omega) (by decide) (fun h7 => absurd h5 (Nat.not_lt.mpr h7)) (fun h7 => ?_)
    refine j_aload_n 11 dX3_isFixed_10 rfl 0 rfl ?_
    refine j_getf 14 0 dX3_isFixed_11 rfl fd_X3_25 rfl rfl ?_
    refine j_getf 17 4 dX3_isFixed_14 rfl fd_X3_78 rfl rfl ?_
    refine j_iload_n 18 dX3_isFixed_17 rfl 1 rfl ?_
    refine j_ialdN h 19 5 dX3_isFixed_18 rfl rfl h5 (by decide) ?_
    refine j_iconst (v := (2 : Int32)) 20 dX3_isFixed_19 rfl (by decide) ?_
    refine j_icmp_neN ((yL 1) h) 2 23 27 dX3_isFixed_20 rfl rfl (by have z0 := hs2; omega) (by decide) (fun h20 => ?_) (fun h20 => ?_)
    ·
      refine j_iconst (v := (0 : Int32)) 28 dX3_isFixed_27 rfl (by decide) ?_
      refine j_iret0 (c := srtO (plP yL) sk h = 2) dX3_isFixed_28 rfl ?_ ⟨gLe rfl, gLe rfl, rfl, rfl⟩
      first
        | exact if_pos ((skC_eq h5).mp h2)
        | (rw [srtO, if_neg (fun y => h2 ((skC_eq h5).mpr y)), plP_s h5]; exact h20)
    ·
      refine j_iconst (v := (1 : Int32)) 24 dX3_isFixed_23 rfl (by decide) ?_
      refine j_goto 28 dX3_isFixed_24 rfl ?_
      refine j_iret1 (c := srtO (plP yL) sk h = 2) dX3_isFixed_28 rfl ?_ ⟨gLe rfl, gLe rfl, rfl, rfl⟩
      first
        | exact if_pos ((skC_eq h5).mp h2)
        | (rw [srtO, if_neg (fun y => h2 ((skC_eq h5).mpr y)), plP_s h5]; exact h20)
set_option maxRecDepth 20000 in
theorem c_X3_sideTaken (g : gG) (kd st : Nat) (hk : kd ≤ 5) (hs : st ≤ 1) : gCon g mX3_sideTaken 0 0 0 [.int (nI kd), .int (nI st)] [] (fun rv ws' => rv = some (.int (nI (sdT kd st))) ∧ ws' = []) := by
  refine gCon.of (lv := [(0, .int (nI kd)), (1, .int (nI st))]) (by decide) (gLe rfl) rfl ?_
  refine j_iload_n 1 dX3_sideTaken_0 rfl 0 rfl ?_
  rcases (show kd = 2 ∨ kd = 3 ∨ kd = 4 ∨ kd = 5 ∨ kd < 2 by omega) with y | y | y | y | y
  · subst y
    refine j_tabIn (off := 31) 32 dX3_sideTaken_1 (by decide) (by decide) (by decide) rfl ?_
    refine j_iconst (v := (1 : Int32)) 33 dX3_sideTaken_32 rfl (by decide) ?_
    refine j_iload_n 34 dX3_sideTaken_33 rfl 1 rfl ?_
    refine j_isubN 1 st 35 dX3_sideTaken_34 rfl hs ?_
    exact j_iretI dX3_sideTaken_35 rfl ⟨gLe rfl, gLe rfl, rfl, rfl⟩
  · subst y
    refine j_tabIn (off := 39) 40 dX3_sideTaken_1 (by decide) (by decide) (by decide) rfl ?_
    refine j_iload_n 41 dX3_sideTaken_40 rfl 1 rfl ?_
    exact j_iretI dX3_sideTaken_41 rfl ⟨gLe rfl, gLe rfl, rfl, rfl⟩
  · subst y
    refine j_tabIn (off := 35) 36 dX3_sideTaken_1 (by decide) (by decide) (by decide) rfl ?_
    refine j_iconst (v := (0 : Int32)) 37 dX3_sideTaken_36 rfl (by decide) ?_
    exact j_iretI dX3_sideTaken_37 rfl ⟨gLe rfl, gLe rfl, rfl, rfl⟩
  · subst y
    refine j_tabIn (off := 37) 38 dX3_sideTaken_1 (by decide) (by decide) (by decide) rfl ?_
    refine j_iconst (v := (1 : Int32)) 39 dX3_sideTaken_38 rfl (by decide) ?_
    exact j_iretI dX3_sideTaken_39 rfl ⟨gLe rfl, gLe rfl, rfl, rfl⟩
  · refine j_tabOut 40 dX3_sideTaken_1 (by rw [nI_toInt (by omega)]; omega) rfl ?_
    refine j_iload_n 41 dX3_sideTaken_40 rfl 1 rfl ?_
    refine j_iretI dX3_sideTaken_41 rfl ⟨gLe rfl, gLe rfl, ?_, rfl⟩
    rw [sdT, if_neg (by omega), if_neg (by omega), if_neg (by omega)]
set_option maxRecDepth 20000 in
theorem c_X3_sideLeftBehind (g : gG) (sa : Nat) (p0 : Nat) (sb : Nat) (sc : Nat) (sd : Nat) (yD : Nat → Nat → Nat) (p1 : Nat) (p2 : Nat) (p3 : Nat) (p4 : Nat) (p5 : Nat) (p6 : Nat) (yL : Nat → Nat → Nat) (h : Nat) (kd : Nat) (sx : Nat)  (hP : okP (plP yL)) (hh : h < yL 0 1) (hk : kd ≤ 5) (hs : sx ≤ 1) (hu : yD 1 h < 2000000000) : gCon g mX3_sideLeftBehind 0 0 0 [.ref sa, .int (nI h), .int (nI kd), .int (nI sx)] [(sa, .inr (3, [.ref p0, .int (nI (yD 0 0)), .ref sb, .ref sc, .ref sd])), (sb, .inl (g.2.1 0, 5, .inl (nF (yD 1)))), (sc, .inl (g.2.1 0, 6, .inl (nF (yD 2)))), (sd, .inl (g.2.1 0, 6, .inl (nF (yD 3)))), (p0, .inr (0, [.int (nI (yL 0 0)), .int (nI (yL 0 1)), .int (nI (yL 0 2)), .ref p1, .ref p2, .ref p3, .ref p4, .ref p5, .ref p6])), (p1, .inl (g.2.1 0, 5, .inl (nF (yL 1)))), (p2, .inl (g.2.1 0, 5, .inl (nF (yL 2)))), (p3, .inl (g.2.1 0, 5, .inl (nF (yL 3)))), (p4, .inl (g.2.1 0, 5, .inl (nF (yL 4)))), (p5, .inl (g.2.1 0, 8, .inl (nF (yL 5)))), (p6, .inl (g.2.1 0, 8, .inl (nF (yL 6))))] (fun rv ws' => rv = some (.int (nI (sdB (plP yL) (yD 1) h kd sx))) ∧ ws' = [(sa, .inr (3, [.ref p0, .int (nI (yD 0 0)), .ref sb, .ref sc, .ref sd])), (sb, .inl (g.2.1 0, 5, .inl (nF (yD 1)))), (sc, .inl (g.2.1 0, 6, .inl (nF (yD 2)))), (sd, .inl (g.2.1 0, 6, .inl (nF (yD 3)))), (p0, .inr (0, [.int (nI (yL 0 0)), .int (nI (yL 0 1)), .int (nI (yL 0 2)), .ref p1, .ref p2, .ref p3, .ref p4, .ref p5, .ref p6])), (p1, .inl (g.2.1 0, 5, .inl (nF (yL 1)))), (p2, .inl (g.2.1 0, 5, .inl (nF (yL 2)))), (p3, .inl (g.2.1 0, 5, .inl (nF (yL 3)))), (p4, .inl (g.2.1 0, 5, .inl (nF (yL 4)))), (p5, .inl (g.2.1 0, 8, .inl (nF (yL 5)))), (p6, .inl (g.2.1 0, 8, .inl (nF (yL 6))))]) := by
  refine gCon.of (lv := [(0, .ref sa), (1, .int (nI h)), (2, .int (nI kd)), (3, .int (nI sx))]) (by decide) (gLe rfl) rfl ?_
  have h5 : h < 5 := okP_5 hP hh
  have hs2 : yL 1 h ≤ 2 := by rw [← plP_s (L := yL) h5]; exact (hP.2.2.2.2.1 h hh).2.2.2
  refine j_iload_n 1 dX3_sideLeftBehind_0 rfl 2 rfl ?_
  refine j_iconst (v := (1 : Int32)) 2 dX3_sideLeftBehind_1 rfl (by decide) ?_
  refine j_icmp_eqN kd 1 5 7 dX3_sideLeftBehind_2 rfl rfl (by omega) (by decide) (fun h2 => ?_) (fun h2 => ?_)
  ·
    refine j_aload_n 8 dX3_sideLeftBehind_7 rfl 0 rfl ?_
    refine j_getf 11 0 dX3_sideLeftBehind_8 rfl fd_X3_25 rfl rfl ?_
    refine j_getf 14 4 dX3_sideLeftBehind_11 rfl fd_X3_78 rfl rfl ?_
    refine j_iload_n 15 dX3_sideLeftBehind_14 rfl 1 rfl ?_
    refine j_ialdN h 16 5 dX3_sideLeftBehind_15 rfl rfl h5 (by decide) ?_
    refine j_if_eqN ((yL 1) h) 19 30 dX3_sideLeftBehind_16 rfl rfl (by have z0 := hs2; omega) (fun h16 => ?_) (fun h16 => ?_)
    ·
      refine j_iconst (v := (1 : Int32)) 31 dX3_sideLeftBehind_30 rfl (by decide) ?_
      refine j_goto 35 dX3_sideLeftBehind_31 rfl ?_
      refine j_istore 37 [(4, .int (1 : Int32)), (0, .ref sa), (1, .int (nI h)), (2, .int (nI kd)), (3, .int (nI sx))] dX3_sideLeftBehind_35 rfl (by decide) rfl ?_
      refine j_iload 39 dX3_sideLeftBehind_37 rfl 0 rfl ?_
      refine j_if_eqN 1 42 48 dX3_sideLeftBehind_39 rfl rfl (by decide) (fun h39 => absurd h39 (by decide)) (fun h39 => ?_)
      refine j_iconst (v := (1 : Int32)) 43 dX3_sideLeftBehind_42 rfl (by decide) ?_
      refine j_iload_n 44 dX3_sideLeftBehind_43 rfl 4 rfl ?_
      refine j_isubN 1 sx 45 dX3_sideLeftBehind_44 rfl hs ?_
      refine j_goto 49 dX3_sideLeftBehind_45 rfl ?_
      refine j_iretI dX3_sideLeftBehind_49 rfl ⟨gLe rfl, gLe rfl, ?_⟩
      refine ⟨congrArg (fun z => some (Value.int (nI z))) ?_, rfl⟩
      rw [sdB, if_neg (fun y => y h2), plP_s h5]
      first
        | rw [if_pos (Or.inl h16)]
        | rw [if_pos (Or.inr h27)]
        | rw [if_neg (fun y => y.elim h16 h27)]
    ·
      refine j_aload_n 20 dX3_sideLeftBehind_19 rfl 0 rfl ?_
      refine j_getf 23 0 dX3_sideLeftBehind_20 rfl fd_X3_15 rfl rfl ?_
      refine j_iload_n 24 dX3_sideLeftBehind_23 rfl 1 rfl ?_
      refine j_ialdN h 25 1 dX3_sideLeftBehind_24 rfl rfl h5 (by decide) ?_
      refine j_iconst (v := (3 : Int32)) 26 dX3_sideLeftBehind_25 rfl (by decide) ?_
      refine j_iremN ((yD 1) h) 3 27 dX3_sideLeftBehind_26 rfl (by have z0 := hu; omega) (by decide) (by decide) ?_
      refine j_if_neN (((yD 1) h) % 3) 30 34 dX3_sideLeftBehind_27 rfl rfl (by have z0 := hu; omega) (fun h27 => ?_) (fun h27 => ?_)
      ·
        refine j_iconst (v := (0 : Int32)) 35 dX3_sideLeftBehind_34 rfl (by decide) ?_
        refine j_istore 37 [(4, .int (0 : Int32)), (0, .ref sa), (1, .int (nI h)), (2, .int (nI kd)), (3, .int (nI sx))] dX3_sideLeftBehind_35 rfl (by decide) rfl ?_
        refine j_iload 39 dX3_sideLeftBehind_37 rfl 0 rfl ?_
        refine j_if_eqN 0 42 48 dX3_sideLeftBehind_39 rfl rfl (by decide) (fun h39 => ?_) (fun h39 => absurd h39 (by decide))
        refine j_iload_n 49 dX3_sideLeftBehind_48 rfl 4 rfl ?_
        refine j_iretI dX3_sideLeftBehind_49 rfl ⟨gLe rfl, gLe rfl, ?_⟩
        refine ⟨congrArg (fun z => some (Value.int (nI z))) ?_, rfl⟩
        rw [sdB, if_neg (fun y => y h2), plP_s h5]
        first
          | rw [if_pos (Or.inl h16)]
          | rw [if_pos (Or.inr h27)]
          | rw [if_neg (fun y => y.elim h16 h27)]
      ·
        refine j_iconst (v := (1 : Int32)) 31 dX3_sideLeftBehind_30 rfl (by decide) ?_
        refine j_goto 35 dX3_sideLeftBehind_31 rfl ?_
        refine j_istore 37 [(4, .int (1 : Int32)), (0, .ref sa), (1, .int (nI h)), (2, .int (nI kd)), (3, .int (nI sx))] dX3_sideLeftBehind_35 rfl (by decide) rfl ?_
        refine j_iload 39 dX3_sideLeftBehind_37 rfl 0 rfl ?_
        refine j_if_eqN 1 42 48 dX3_sideLeftBehind_39 rfl rfl (by decide) (fun h39 => absurd h39 (by decide)) (fun h39 => ?_)
        refine j_iconst (v := (1 : Int32)) 43 dX3_sideLeftBehind_42 rfl (by decide) ?_
        refine j_iload_n 44 dX3_sideLeftBehind_43 rfl 4 rfl ?_
        refine j_isubN 1 sx 45 dX3_sideLeftBehind_44 rfl hs ?_
        refine j_goto 49 dX3_sideLeftBehind_45 rfl ?_
        refine j_iretI dX3_sideLeftBehind_49 rfl ⟨gLe rfl, gLe rfl, ?_⟩
        refine ⟨congrArg (fun z => some (Value.int (nI z))) ?_, rfl⟩
        rw [sdB, if_neg (fun y => y h2), plP_s h5]
        first
          | rw [if_pos (Or.inl h16)]
          | rw [if_pos (Or.inr h27)]
          | rw [if_neg (fun y => y.elim h16 h27)]
  ·
    refine j_iload_n 6 dX3_sideLeftBehind_5 rfl 3 rfl ?_
    refine j_iretI dX3_sideLeftBehind_6 rfl ⟨gLe rfl, gLe rfl, ?_⟩
    exact ⟨by rw [sdB, if_pos h2], rfl⟩
