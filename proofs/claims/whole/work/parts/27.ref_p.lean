/-- the trace: bodies leave their numbers one behind the other -/
def trA (T : Nat → Nat) (tm : Nat) : List Nat → Nat → Nat
  | [] => T
  | x :: l => trA (va_up T tm x) (tm + 1) l
theorem trA_app (l2 : List Nat) : ∀ (l1 : List Nat) (T : Nat → Nat) (tm : Nat), trA (trA T tm l1) (tm + l1.length) l2 = trA T tm (l1 ++ l2)
  | [], _, _ => rfl
  | x :: l1, T, tm => by
    have h := trA_app l2 l1 (va_up T tm x) (tm + 1)
    show trA (trA (va_up T tm x) (tm + 1) l1) (tm + (l1.length + 1)) l2 = trA (va_up T tm x) (tm + 1) (l1 ++ l2)
    rw [← h, show tm + (l1.length + 1) = tm + 1 + l1.length by omega]
def mkL (kd : Nat) : List Nat := if kd = 1 then [21, 20] else if kd = 3 then [22, 21, 20] else [24, 21, 20]
def mkE (kd x : Nat) : Int32 := if kd = 1 then nI x else if kd = 3 then nI x - 1000 else 2 * nI x
def ewL (kd : Nat) : List Nat := [11, 10] ++ mkL kd
def ewE (kd hv x : Nat) : Int32 := nI hv + mkE kd x
def szL (kd : Nat) : List Nat := if kd = 2 then [12] ++ ewL kd else ewL kd
def szE (kd hv x : Nat) : Int32 := if kd = 2 then -ewE kd hv x else ewE kd hv x
def blL (kd : Nat) : List Nat := if kd = 4 then [13, 10] else [14, 13, 10]
def blE (kd hv : Nat) : Int32 := if kd = 4 then nI hv - 100 else 2 * (nI hv - 100)
def askL (kd what : Nat) : List Nat := if what = 0 then (if isK kd 1 then szL kd else blL kd) else (if isK kd 1 then mkL kd else [23, 20] ++ blL kd)
def askE (kd b hv x what : Nat) : Int32 := if what = 0 then (if isK kd 1 then szE kd hv x else blE kd hv) else (if isK kd 1 then mkE kd x else nI b - blE kd hv)
theorem mkL_len (kd : Nat) : (mkL kd).length ≤ 3 := by
  unfold mkL
  split
  · decide
  · split <;> decide
theorem blL_len (kd : Nat) : (blL kd).length ≤ 3 := by unfold blL; split <;> decide
def pM_ask (b what : Int32) (S : RS) : Int32 × RS :=
  if ¬ inR b (S.1 0 3) ∨ ¬ inR what 2 then (-1000001, S) else
  (askE (S.1 0 (24 + 2 * cl b)) (cl b) (S.1 0 (24 + 2 * cl b + 1)) (cl b + (goR (S.1 0) 99 (cl b)).1) (cl what), (va_up S.1 10 (trA (S.1 10) 0 (askL (S.1 0 (24 + 2 * cl b)) (cl what))), S.2.1, va_up S.2.2.1 11 (askL (S.1 0 (24 + 2 * cl b)) (cl what)).length, S.2.2.2))
set_option maxRecDepth 20000 in
theorem c_X6_leave (g : gG) (q : Nat → Nat) (Na : Nat → Nat → Nat) (Ia : Nat → Nat → Int32) (Ns : Nat → Nat) (Is : Nat → Int32) (x : Nat)  (htm : Ns 11 < 16) : gCon g mX6_leave 0 0 0 [.ref (q 26), .int (nI x)] (wM g q Na Ia Ns Is) (fun rv ws' => rv = none ∧ ws' = (wM g q (va_up Na 10 (trA (Na 10) (Ns 11) [x])) Ia (va_up Ns 11 (Ns 11 + 1)) Is)) := by
  refine gCon.of (lv := [(0, .ref (q 26)), (1, .int (nI x))]) (by decide) (gLe rfl) rfl ?_
  refine j_aload_n 1 dX6_leave_0 rfl 0 rfl ?_
  refine j_getf 4 0 dX6_leave_1 rfl fd_X6_268 rfl rfl ?_
  refine j_bipush (v := (16 : Int32)) 6 dX6_leave_4 rfl (by decide) ?_
  refine j_icmp_geN (Ns 11) 16 9 29 dX6_leave_6 rfl rfl (by have z0 := htm; omega) (by decide) (fun h6 => absurd h6 (by omega)) (fun h6 => ?_)
  refine j_aload_n 10 dX6_leave_9 rfl 0 rfl ?_
  refine j_getf 13 0 dX6_leave_10 rfl fd_X6_29 rfl rfl ?_
  refine j_aload_n 14 dX6_leave_13 rfl 0 rfl ?_
  refine j_getf 17 0 dX6_leave_14 rfl fd_X6_268 rfl rfl ?_
  refine j_iload_n 18 dX6_leave_17 rfl 1 rfl ?_
  refine j_iastN x (Ns 11) 19 7 (wM g q (va_up Na 10 (va_up (Na 10) (Ns 11) x)) Ia Ns Is) dX6_leave_18 rfl rfl (by have z0 := htm; omega) (by decide) rfl ?_
  refine j_aload_n 20 dX6_leave_19 rfl 0 rfl ?_
  refine j_dup 21 dX6_leave_20 rfl rfl ?_
  refine j_getf 24 0 dX6_leave_21 rfl fd_X6_268 rfl rfl ?_
  refine j_iconst (v := (1 : Int32)) 25 dX6_leave_24 rfl (by decide) ?_
  refine j_iaddN (Ns 11) 1 26 dX6_leave_25 rfl ?_
  refine j_putf 29 0 (wM g q (va_up Na 10 (va_up (Na 10) (Ns 11) x)) Ia (va_up Ns 11 ((Ns 11) + 1)) Is) dX6_leave_26 rfl fd_X6_268 rfl rfl rfl (gLe rfl) rfl ?_
  refine j_vret dX6_leave_29 rfl ⟨gLe rfl, gLe rfl, ?_⟩
  exact ⟨rfl, rfl⟩
set_option maxRecDepth 20000 in
theorem c_X6_heavyBody (g : gG) (q : Nat → Nat) (Na : Nat → Nat → Nat) (Ia : Nat → Nat → Int32) (Ns : Nat → Nat) (Is : Nat → Int32) (b : Nat)  (htm : Ns 11 < 15) (hB : b < 8) : gCon g mX6_heavyBody 1 0 0 [.ref (q 26), .int (nI b)] (wM g q Na Ia Ns Is) (fun rv ws' => rv = some (.int (nI ((Na 0) (24 + 2 * b + 1)))) ∧ ws' = (wM g q (va_up Na 10 (trA (Na 10) (Ns 11) [10])) Ia (va_up Ns 11 (Ns 11 + 1)) Is)) := by
  refine gCon.of (lv := [(0, .ref (q 26)), (1, .int (nI b))]) (by decide) (gLe rfl) rfl ?_
  refine j_aload_n 1 dX6_heavyBody_0 rfl 0 rfl ?_
  refine j_bipush (v := (10 : Int32)) 3 dX6_heavyBody_1 rfl (by decide) ?_
  refine j_callVW (rest := []) 6 (c_X6_leave g q Na Ia Ns Is 10  (by omega)) [] dX6_heavyBody_3 rfl cv_X6_271 rfl rfl 0 rfl rfl (gLe rfl) (gLe rfl) (gLe rfl) (gLe rfl) (wM_len _ _ _ _ _ _ _ _ _ _) rfl ?_
  refine j_aload_n 7 dX6_heavyBody_6 rfl 0 rfl ?_
  refine j_getf 10 0 dX6_heavyBody_7 rfl fd_X6_7 rfl rfl ?_
  refine j_bipush (v := (24 : Int32)) 12 dX6_heavyBody_10 rfl (by decide) ?_
  refine j_iconst (v := (2 : Int32)) 13 dX6_heavyBody_12 rfl (by decide) ?_
  refine j_iload_n 14 dX6_heavyBody_13 rfl 1 rfl ?_
  refine j_imulN 2 b 15 dX6_heavyBody_14 rfl ?_
  refine j_iaddN 24 (2 * b) 16 dX6_heavyBody_15 rfl ?_
  refine j_iconst (v := (1 : Int32)) 17 dX6_heavyBody_16 rfl (by decide) ?_
  refine j_iaddN (24 + (2 * b)) 1 18 dX6_heavyBody_17 rfl ?_
  refine j_ialdN ((24 + (2 * b)) + 1) 19 1 dX6_heavyBody_18 rfl rfl (by omega) (by decide) ?_
  refine j_iretI dX6_heavyBody_19 rfl ⟨gLe rfl, gLe rfl, ?_⟩
  exact ⟨rfl, rfl⟩
set_option maxRecDepth 20000 in
theorem c_X6_numberBody (g : gG) (q : Nat → Nat) (Na : Nat → Nat → Nat) (Ia : Nat → Nat → Int32) (Ns : Nat → Nat) (Is : Nat → Int32) (b : Nat)  (htm : Ns 11 < 15) : gCon g mX6_numberBody 1 0 0 [.ref (q 26), .int (nI b)] (wM g q Na Ia Ns Is) (fun rv ws' => rv = some (.int (nI b)) ∧ ws' = (wM g q (va_up Na 10 (trA (Na 10) (Ns 11) [20])) Ia (va_up Ns 11 (Ns 11 + 1)) Is)) := by
  refine gCon.of (lv := [(0, .ref (q 26)), (1, .int (nI b))]) (by decide) (gLe rfl) rfl ?_
  refine j_aload_n 1 dX6_numberBody_0 rfl 0 rfl ?_
  refine j_bipush (v := (20 : Int32)) 3 dX6_numberBody_1 rfl (by decide) ?_
  refine j_callVW (rest := []) 6 (c_X6_leave g q Na Ia Ns Is 20  (by omega)) [] dX6_numberBody_3 rfl cv_X6_271 rfl rfl 0 rfl rfl (gLe rfl) (gLe rfl) (gLe rfl) (gLe rfl) (wM_len _ _ _ _ _ _ _ _ _ _) rfl ?_
  refine j_iload_n 7 dX6_numberBody_6 rfl 1 rfl ?_
  refine j_iretI dX6_numberBody_7 rfl ⟨gLe rfl, gLe rfl, ?_⟩
  exact ⟨rfl, rfl⟩
set_option maxRecDepth 20000 in
theorem c_X6_penBody (g : gG) (q : Nat → Nat) (Na : Nat → Nat → Nat) (Ia : Nat → Nat → Int32) (Ns : Nat → Nat) (Is : Nat → Int32) (b : Nat)  (htm : Ns 11 < 14) (hst : Is 12 = skI 99) (hokp : okP (Na 0)) (hs40 : Na 0 40 < 2 ^ Na 0 2) (hum : ∀ k, uM (Na 0) 0 k ≤ 9999) (hB3 : b < Na 0 3) : gCon g mX6_penBody 4 0 0 [.ref (q 26), .int (nI b)] (wM g q Na Ia Ns Is) (fun rv ws' => ∃ (Z1 : Nat → Nat), (eqB Z1 (Na 0)) ∧ rv = some (.int (nI (b + (goR (Na 0) 99 b).1))) ∧ ws' = (wM g q (va_up (va_up Na 0 Z1) 10 (trA (Na 10) (Ns 11) [21, 20])) Ia (va_up Ns 11 (Ns 11 + 2)) Is)) := by
  refine gCon.of (lv := [(0, .ref (q 26)), (1, .int (nI b))]) (by decide) (gLe rfl) rfl ?_
  refine j_aload_n 1 dX6_penBody_0 rfl 0 rfl ?_
  refine j_bipush (v := (21 : Int32)) 3 dX6_penBody_1 rfl (by decide) ?_
  refine j_callVW (rest := []) 6 (c_X6_leave g q Na Ia Ns Is 21  (by omega)) [] dX6_penBody_3 rfl cv_X6_271 rfl rfl 0 rfl rfl (gLe rfl) (gLe rfl) (gLe rfl) (gLe rfl) (wM_len _ _ _ _ _ _ _ _ _ _) rfl ?_
  refine j_aload_n 7 dX6_penBody_6 rfl 0 rfl ?_
  refine j_iload_n 8 dX6_penBody_7 rfl 1 rfl ?_
  refine j_callVW (rest := []) 11 (c_X6_numberBody g q (va_up Na 10 (trA (Na 10) (Ns 11) [21])) Ia (va_up Ns 11 (Ns 11 + 1)) Is b  (by show Ns 11 + 1 < 15; omega)) [.int (nI b)] dX6_penBody_8 rfl cv_X6_274 rfl rfl 0 rfl rfl (gLe rfl) (gLe rfl) (gLe rfl) (gLe rfl) (wM_len _ _ _ _ _ _ _ _ _ _) rfl ?_
  refine j_istore_n 12 [(2, .int (nI b)), (0, .ref (q 26)), (1, .int (nI b))] dX6_penBody_11 rfl (by decide) rfl ?_
  refine j_aload_n 13 dX6_penBody_12 rfl 1 rfl ?_
  refine j_iconst (v := (0 : Int32)) 14 dX6_penBody_13 rfl (by decide) ?_
  refine j_sipush (v := (174 : Int32)) 17 dX6_penBody_14 rfl (by decide) ?_
  refine j_callVW (rest := []) 20 (c_X6_copyRow g q (va_up Na 10 (trA (trA (Na 10) (Ns 11) [21]) (Ns 11 + 1) [20])) Ia (va_up Ns 11 (Ns 11 + 1 + 1)) Is 0 174  (by decide) (by decide) (by decide)) [] dX6_penBody_17 rfl cv_X6_224 rfl rfl 0 rfl rfl (gLe rfl) (gLe rfl) (gLe rfl) (gLe rfl) (wM_len _ _ _ _ _ _ _ _ _ _) rfl ?_
  refine j_iload_n 21 dX6_penBody_20 rfl 0 rfl ?_
  refine j_aload_n 22 dX6_penBody_21 rfl 1 rfl ?_
  refine j_sipush (v := (174 : Int32)) 25 dX6_penBody_22 rfl (by decide) ?_
  refine j_iload_n 26 dX6_penBody_25 rfl 2 rfl ?_
  refine j_callVW (rest := [.int (nI b)]) 29 (c_X6_go g q (va_up (va_up Na 0 (va_cpy (Na 0) (Na 0) 0 174 58)) 10 (trA (trA (Na 10) (Ns 11) [21]) (Ns 11 + 1) [20])) Ia (va_up Ns 11 (Ns 11 + 1 + 1)) Is 174 b 99 hst (okP_eq (eqB_P eqB_cpy) hokp) (Or.inr rfl) (by show (va_cpy (Na 0) (Na 0) 0 174 58) 214 < 32; rw [cp0_214]; exact p32 hokp hs40) (fun k => by show uM (va_cpy (Na 0) (Na 0) 0 174 58) 174 k ≤ _; rw [cp0_uM]; have := hum k; omega) (by show b < (va_cpy (Na 0) (Na 0) 0 174 58) 3; rw [cpy_out (by omega)]; exact hB3)) [.int (nI ((goA (va_cpy (Na 0) (Na 0) 0 174 58) 99 ((va_cpy (Na 0) (Na 0) 0 174 58) (24 + 2 * b)) 5 ((va_cpy (Na 0) (Na 0) 0 174 58) 2 - 1) ((va_cpy (Na 0) (Na 0) 0 174 58) (174 + 40)) (uM (va_cpy (Na 0) (Na 0) 0 174 58) 174)).1)), .int (nI b)] dX6_penBody_26 rfl cv_X6_187 rfl rfl 0 rfl rfl (gLe rfl) (gLe rfl) (gLe rfl) (gLe rfl) (wM_len _ _ _ _ _ _ _ _ _ _) rfl ?_
  refine j_topN ((goA (va_cpy (Na 0) (Na 0) 0 174 58) 99 ((va_cpy (Na 0) (Na 0) 0 174 58) (24 + 2 * b)) 5 ((va_cpy (Na 0) (Na 0) 0 174 58) 2 - 1) ((va_cpy (Na 0) (Na 0) 0 174 58) (174 + 40)) (uM (va_cpy (Na 0) (Na 0) 0 174 58) 174)).1) ((goR (Na 0) 99 b).1) (by show (goA (va_cpy (Na 0) (Na 0) 0 174 58) 99 _ 5 _ ((va_cpy (Na 0) (Na 0) 0 174 58) 214) (uM (va_cpy (Na 0) (Na 0) 0 174 58) 174)).1 = _; rw [cp0_214, cp0_uM]; exact congrArg Prod.fst (gOA_eq hokp eqB_cpy hB3)) ?_
  refine j_iaddN b ((goR (Na 0) 99 b).1) 30 dX6_penBody_29 rfl ?_
  refine j_iretI dX6_penBody_30 rfl ⟨gLe rfl, gLe rfl, ?_⟩
  exact ⟨_, eqB_put eqB_cpy, rfl, rfl⟩
set_option maxRecDepth 20000 in
theorem c_X6_markOfEwe (g : gG) (q : Nat → Nat) (Na : Nat → Nat → Nat) (Ia : Nat → Nat → Int32) (Ns : Nat → Nat) (Is : Nat → Int32) (b : Nat)  (htm : Ns 11 < 13) (hst : Is 12 = skI 99) (hokp : okP (Na 0)) (hs40 : Na 0 40 < 2 ^ Na 0 2) (hum : ∀ k, uM (Na 0) 0 k ≤ 9999) (hB3 : b < Na 0 3) : gCon g mX6_markOfEwe 5 0 0 [.ref (q 26), .int (nI b)] (wM g q Na Ia Ns Is) (fun rv ws' => ∃ (Z1 : Nat → Nat), (eqB Z1 (Na 0)) ∧ rv = some (.int (mkE ((Na 0) (24 + 2 * b)) (b + (goR (Na 0) 99 b).1))) ∧ ws' = (wM g q (va_up (va_up Na 0 Z1) 10 (trA (Na 10) (Ns 11) (mkL ((Na 0) (24 + 2 * b))))) Ia (va_up Ns 11 (Ns 11 + (mkL ((Na 0) (24 + 2 * b))).length)) Is)) := by
  refine gCon.of (lv := [(0, .ref (q 26)), (1, .int (nI b))]) (by decide) (gLe rfl) rfl ?_
  have hkd := okP_k hokp hB3
  have hp8 := hokp.2.2.2.1
  refine j_aload_n 1 dX6_markOfEwe_0 rfl 0 rfl ?_
  refine j_getf 4 0 dX6_markOfEwe_1 rfl fd_X6_7 rfl rfl ?_
  refine j_bipush (v := (24 : Int32)) 6 dX6_markOfEwe_4 rfl (by decide) ?_
  refine j_iconst (v := (2 : Int32)) 7 dX6_markOfEwe_6 rfl (by decide) ?_
  refine j_iload_n 8 dX6_markOfEwe_7 rfl 1 rfl ?_
  refine j_imulN 2 b 9 dX6_markOfEwe_8 rfl ?_
  refine j_iaddN 24 (2 * b) 10 dX6_markOfEwe_9 rfl ?_
  refine j_ialdN (24 + (2 * b)) 11 1 dX6_markOfEwe_10 rfl rfl (by omega) (by decide) ?_
  refine j_istore_n 12 [(2, .int (nI ((Na 0) (24 + (2 * b))))), (0, .ref (q 26)), (1, .int (nI b))] dX6_markOfEwe_11 rfl (by decide) rfl ?_
  refine j_iload_n 13 dX6_markOfEwe_12 rfl 0 rfl ?_
  refine j_iconst (v := (1 : Int32)) 14 dX6_markOfEwe_13 rfl (by decide) ?_
  refine j_icmp_neN ((Na 0) (24 + (2 * b))) 1 17 23 dX6_markOfEwe_14 rfl rfl (by have z0 := hkd.2; omega) (by decide) (fun h14 => ?_) (fun h14 => ?_)
  ·
    refine j_aload_n 24 dX6_markOfEwe_23 rfl 1 rfl ?_
    refine j_iload_n 25 dX6_markOfEwe_24 rfl 0 rfl ?_
    refine j_iconst (v := (3 : Int32)) 26 dX6_markOfEwe_25 rfl (by decide) ?_
    refine j_icmp_neN ((Na 0) (24 + (2 * b))) 3 29 34 dX6_markOfEwe_26 rfl rfl (by have z0 := hkd.2; omega) (by decide) (fun h26 => ?_) (fun h26 => ?_)
    ·
      refine j_bipush (v := (24 : Int32)) 36 dX6_markOfEwe_34 rfl (by decide) ?_
      refine j_callVW (rest := []) 39 (c_X6_leave g q Na Ia Ns Is 24  (by omega)) [] dX6_markOfEwe_36 rfl cv_X6_271 rfl rfl 0 rfl rfl (gLe rfl) (gLe rfl) (gLe rfl) (gLe rfl) (wM_len _ _ _ _ _ _ _ _ _ _) rfl ?_
      refine j_aload_n 40 dX6_markOfEwe_39 rfl 1 rfl ?_
      refine j_iload_n 41 dX6_markOfEwe_40 rfl 2 rfl ?_
      refine j_callVX (rest := []) 44 (c_X6_penBody g q (va_up Na 10 (trA (Na 10) (Ns 11) [24])) Ia (va_up Ns 11 (Ns 11 + 1)) Is b  (by show Ns 11 + 1 < 14; omega) hst hokp hs40 hum hB3) dX6_markOfEwe_41 rfl cv_X6_277 rfl rfl 0 rfl rfl (gLe rfl) (gLe rfl) (gLe rfl) (gLe rfl) (fun rv w1 hp => ?_)
      obtain ⟨Z1_1, hZ1_1, rfl, rfl⟩ := hp
      refine ⟨(wM_len _ _ _ _ _ _ _ _ _ _), ?_⟩
      refine j_eq (lv2 := [(2, .int (nI ((Na 0) (24 + (2 * b))))), (0, .ref (q 26)), (1, .int (nI b))]) (st2 := [.int (nI (b + (goR (Na 0) 99 b).1))]) (ws2 := (wM g q (va_up (va_up Na 0 Z1_1) 10 (trA (trA (Na 10) (Ns 11) [24]) (Ns 11 + 1) [21, 20])) Ia (va_up Ns 11 (Ns 11 + 1 + 2)) Is)) rfl rfl rfl ?_
      refine j_istore_n 45 [(3, .int (nI (b + (goR (Na 0) 99 b).1))), (2, .int (nI ((Na 0) (24 + (2 * b))))), (0, .ref (q 26)), (1, .int (nI b))] dX6_markOfEwe_44 rfl (by decide) rfl ?_
      refine j_iload_n 46 dX6_markOfEwe_45 rfl 1 rfl ?_
      refine j_iconst (v := (3 : Int32)) 47 dX6_markOfEwe_46 rfl (by decide) ?_
      refine j_icmp_neN ((Na 0) (24 + (2 * b))) 3 50 58 dX6_markOfEwe_47 rfl rfl (by have z0 := hkd.2; omega) (by decide) (fun h47 => ?_) (fun h47 => absurd h47 h26)
      refine j_iconst (v := (2 : Int32)) 59 dX6_markOfEwe_58 rfl (by decide) ?_
      refine j_iload_n 60 dX6_markOfEwe_59 rfl 0 rfl ?_
      refine j_imulN 2 (b + (goR (Na 0) 99 b).1) 61 dX6_markOfEwe_60 rfl ?_
      refine j_iretI dX6_markOfEwe_61 rfl ⟨gLe rfl, gLe rfl, ?_⟩
      exact ⟨_, hZ1_1, by rw [mkE, if_neg h14, if_neg h26]; exact congrArg (fun z => some (Value.int z)) (pk_mul _ _).symm, by rw [mkL, if_neg h14, if_neg h26]; rfl⟩
    ·
      refine j_bipush (v := (22 : Int32)) 31 dX6_markOfEwe_29 rfl (by decide) ?_
      refine j_goto 36 dX6_markOfEwe_31 rfl ?_
      refine j_callVW (rest := []) 39 (c_X6_leave g q Na Ia Ns Is 22  (by omega)) [] dX6_markOfEwe_36 rfl cv_X6_271 rfl rfl 0 rfl rfl (gLe rfl) (gLe rfl) (gLe rfl) (gLe rfl) (wM_len _ _ _ _ _ _ _ _ _ _) rfl ?_
      refine j_aload_n 40 dX6_markOfEwe_39 rfl 1 rfl ?_
      refine j_iload_n 41 dX6_markOfEwe_40 rfl 2 rfl ?_
      refine j_callVX (rest := []) 44 (c_X6_penBody g q (va_up Na 10 (trA (Na 10) (Ns 11) [22])) Ia (va_up Ns 11 (Ns 11 + 1)) Is b  (by show Ns 11 + 1 < 14; omega) hst hokp hs40 hum hB3) dX6_markOfEwe_41 rfl cv_X6_277 rfl rfl 0 rfl rfl (gLe rfl) (gLe rfl) (gLe rfl) (gLe rfl) (fun rv w1 hp => ?_)
      obtain ⟨Z1_2, hZ1_2, rfl, rfl⟩ := hp
      refine ⟨(wM_len _ _ _ _ _ _ _ _ _ _), ?_⟩
      refine j_eq (lv2 := [(2, .int (nI ((Na 0) (24 + (2 * b))))), (0, .ref (q 26)), (1, .int (nI b))]) (st2 := [.int (nI (b + (goR (Na 0) 99 b).1))]) (ws2 := (wM g q (va_up (va_up Na 0 Z1_2) 10 (trA (trA (Na 10) (Ns 11) [22]) (Ns 11 + 1) [21, 20])) Ia (va_up Ns 11 (Ns 11 + 1 + 2)) Is)) rfl rfl rfl ?_
      refine j_istore_n 45 [(3, .int (nI (b + (goR (Na 0) 99 b).1))), (2, .int (nI ((Na 0) (24 + (2 * b))))), (0, .ref (q 26)), (1, .int (nI b))] dX6_markOfEwe_44 rfl (by decide) rfl ?_
      refine j_iload_n 46 dX6_markOfEwe_45 rfl 1 rfl ?_
      refine j_iconst (v := (3 : Int32)) 47 dX6_markOfEwe_46 rfl (by decide) ?_
      refine j_icmp_neN ((Na 0) (24 + (2 * b))) 3 50 58 dX6_markOfEwe_47 rfl rfl (by have z0 := hkd.2; omega) (by decide) (fun h47 => absurd h26 h47) (fun h47 => ?_)
      refine j_iload_n 51 dX6_markOfEwe_50 rfl 0 rfl ?_
      refine j_sipush (v := (1000 : Int32)) 54 dX6_markOfEwe_51 rfl (by decide) ?_
      refine j_isub 55 dX6_markOfEwe_54 rfl ?_
      refine j_goto 61 dX6_markOfEwe_55 rfl ?_
      refine j_iretI dX6_markOfEwe_61 rfl ⟨gLe rfl, gLe rfl, ?_⟩
      exact ⟨_, hZ1_2, by rw [mkE, if_neg h14, if_pos h26], by rw [mkL, if_neg h14, if_pos h26]; rfl⟩
  ·
    refine j_aload_n 18 dX6_markOfEwe_17 rfl 1 rfl ?_
    refine j_iload_n 19 dX6_markOfEwe_18 rfl 2 rfl ?_
    refine j_callVX (rest := []) 22 (c_X6_penBody g q Na Ia Ns Is b  (by omega) hst hokp hs40 hum hB3) dX6_markOfEwe_19 rfl cv_X6_277 rfl rfl 0 rfl rfl (gLe rfl) (gLe rfl) (gLe rfl) (gLe rfl) (fun rv w1 hp => ?_)
    obtain ⟨Z1_3, hZ1_3, rfl, rfl⟩ := hp
    refine ⟨(wM_len _ _ _ _ _ _ _ _ _ _), ?_⟩
    refine j_eq (lv2 := [(2, .int (nI ((Na 0) (24 + (2 * b))))), (0, .ref (q 26)), (1, .int (nI b))]) (st2 := [.int (nI (b + (goR (Na 0) 99 b).1))]) (ws2 := (wM g q (va_up (va_up Na 0 Z1_3) 10 (trA (Na 10) (Ns 11) [21, 20])) Ia (va_up Ns 11 (Ns 11 + 2)) Is)) rfl rfl rfl ?_
    refine j_iretI dX6_markOfEwe_22 rfl ⟨gLe rfl, gLe rfl, ?_⟩
    exact ⟨_, hZ1_3, by rw [mkE, if_pos h14], by rw [mkL, if_pos h14]; rfl⟩
set_option maxRecDepth 20000 in
theorem c_X6_eweBody (g : gG) (q : Nat → Nat) (Na : Nat → Nat → Nat) (Ia : Nat → Nat → Int32) (Ns : Nat → Nat) (Is : Nat → Int32) (b : Nat)  (htm : Ns 11 < 11) (hst : Is 12 = skI 99) (hokp : okP (Na 0)) (hs40 : Na 0 40 < 2 ^ Na 0 2) (hum : ∀ k, uM (Na 0) 0 k ≤ 9999) (hB3 : b < Na 0 3) : gCon g mX6_eweBody 6 0 0 [.ref (q 26), .int (nI b)] (wM g q Na Ia Ns Is) (fun rv ws' => ∃ (Z1 : Nat → Nat), (eqB Z1 (Na 0)) ∧ rv = some (.int (ewE ((Na 0) (24 + 2 * b)) ((Na 0) (24 + 2 * b + 1)) (b + (goR (Na 0) 99 b).1))) ∧ ws' = (wM g q (va_up (va_up Na 0 Z1) 10 (trA (Na 10) (Ns 11) (ewL ((Na 0) (24 + 2 * b))))) Ia (va_up Ns 11 (Ns 11 + (ewL ((Na 0) (24 + 2 * b))).length)) Is)) := by
  refine gCon.of (lv := [(0, .ref (q 26)), (1, .int (nI b))]) (by decide) (gLe rfl) rfl ?_
  have hp8 := hokp.2.2.2.1
  refine j_aload_n 1 dX6_eweBody_0 rfl 0 rfl ?_
  refine j_bipush (v := (11 : Int32)) 3 dX6_eweBody_1 rfl (by decide) ?_
  refine j_callVW (rest := []) 6 (c_X6_leave g q Na Ia Ns Is 11  (by omega)) [] dX6_eweBody_3 rfl cv_X6_271 rfl rfl 0 rfl rfl (gLe rfl) (gLe rfl) (gLe rfl) (gLe rfl) (wM_len _ _ _ _ _ _ _ _ _ _) rfl ?_
  refine j_aload_n 7 dX6_eweBody_6 rfl 0 rfl ?_
  refine j_iload_n 8 dX6_eweBody_7 rfl 1 rfl ?_
  refine j_callVW (rest := []) 11 (c_X6_heavyBody g q (va_up Na 10 (trA (Na 10) (Ns 11) [11])) Ia (va_up Ns 11 (Ns 11 + 1)) Is b  (by show Ns 11 + 1 < 15; omega) (by omega)) [.int (nI ((Na 0) (24 + 2 * b + 1)))] dX6_eweBody_8 rfl cv_X6_280 rfl rfl 0 rfl rfl (gLe rfl) (gLe rfl) (gLe rfl) (gLe rfl) (wM_len _ _ _ _ _ _ _ _ _ _) rfl ?_
  refine j_istore_n 12 [(2, .int (nI ((Na 0) (24 + 2 * b + 1)))), (0, .ref (q 26)), (1, .int (nI b))] dX6_eweBody_11 rfl (by decide) rfl ?_
  refine j_iload_n 13 dX6_eweBody_12 rfl 0 rfl ?_
  refine j_aload_n 14 dX6_eweBody_13 rfl 1 rfl ?_
  refine j_iload_n 15 dX6_eweBody_14 rfl 2 rfl ?_
  refine j_callVX (rest := [.int (nI ((Na 0) (24 + 2 * b + 1)))]) 18 (c_X6_markOfEwe g q (va_up Na 10 (trA (trA (Na 10) (Ns 11) [11]) (Ns 11 + 1) [10])) Ia (va_up Ns 11 (Ns 11 + 1 + 1)) Is b  (by show Ns 11 + 1 + 1 < 13; omega) hst hokp hs40 hum hB3) dX6_eweBody_15 rfl cv_X6_283 rfl rfl 0 rfl rfl (gLe rfl) (gLe rfl) (gLe rfl) (gLe rfl) (fun rv w1 hp => ?_)
  obtain ⟨Z1_1, hZ1_1, rfl, rfl⟩ := hp
  refine ⟨(wM_len _ _ _ _ _ _ _ _ _ _), ?_⟩
  refine j_eq (lv2 := [(2, .int (nI ((Na 0) (24 + 2 * b + 1)))), (0, .ref (q 26)), (1, .int (nI b))]) (st2 := [.int (mkE ((Na 0) (24 + 2 * b)) (b + (goR (Na 0) 99 b).1)), .int (nI ((Na 0) (24 + 2 * b + 1)))]) (ws2 := (wM g q (va_up (va_up Na 0 Z1_1) 10 (trA (trA (trA (Na 10) (Ns 11) [11]) (Ns 11 + 1) [10]) (Ns 11 + 1 + 1) (mkL ((Na 0) (24 + 2 * b))))) Ia (va_up Ns 11 (Ns 11 + 1 + 1 + (mkL ((Na 0) (24 + 2 * b))).length)) Is)) rfl rfl rfl ?_
  refine j_iadd 19 dX6_eweBody_18 rfl ?_
  refine j_iretI dX6_eweBody_19 rfl ⟨gLe rfl, gLe rfl, ?_⟩
  exact ⟨_, hZ1_1, rfl, by rw [ewL, ← trA_app, List.length_append, ← Nat.add_assoc]; rfl⟩
set_option maxRecDepth 20000 in
theorem c_X6_blindBody (g : gG) (q : Nat → Nat) (Na : Nat → Nat → Nat) (Ia : Nat → Nat → Int32) (Ns : Nat → Nat) (Is : Nat → Int32) (b : Nat)  (htm : Ns 11 < 14) (hB : b < 8) : gCon g mX6_blindBody 2 0 0 [.ref (q 26), .int (nI b)] (wM g q Na Ia Ns Is) (fun rv ws' => rv = some (.int (nI ((Na 0) (24 + 2 * b + 1)) - 100)) ∧ ws' = (wM g q (va_up Na 10 (trA (Na 10) (Ns 11) [13, 10])) Ia (va_up Ns 11 (Ns 11 + 2)) Is)) := by
  refine gCon.of (lv := [(0, .ref (q 26)), (1, .int (nI b))]) (by decide) (gLe rfl) rfl ?_
  refine j_aload_n 1 dX6_blindBody_0 rfl 0 rfl ?_
  refine j_bipush (v := (13 : Int32)) 3 dX6_blindBody_1 rfl (by decide) ?_
  refine j_callVW (rest := []) 6 (c_X6_leave g q Na Ia Ns Is 13  (by omega)) [] dX6_blindBody_3 rfl cv_X6_271 rfl rfl 0 rfl rfl (gLe rfl) (gLe rfl) (gLe rfl) (gLe rfl) (wM_len _ _ _ _ _ _ _ _ _ _) rfl ?_
  refine j_aload_n 7 dX6_blindBody_6 rfl 0 rfl ?_
  refine j_iload_n 8 dX6_blindBody_7 rfl 1 rfl ?_
  refine j_callVW (rest := []) 11 (c_X6_heavyBody g q (va_up Na 10 (trA (Na 10) (Ns 11) [13])) Ia (va_up Ns 11 (Ns 11 + 1)) Is b  (by show Ns 11 + 1 < 15; omega) hB) [.int (nI ((Na 0) (24 + 2 * b + 1)))] dX6_blindBody_8 rfl cv_X6_280 rfl rfl 0 rfl rfl (gLe rfl) (gLe rfl) (gLe rfl) (gLe rfl) (wM_len _ _ _ _ _ _ _ _ _ _) rfl ?_
  refine j_bipush (v := (100 : Int32)) 13 dX6_blindBody_11 rfl (by decide) ?_
  refine j_isub 14 dX6_blindBody_13 rfl ?_
  refine j_iretI dX6_blindBody_14 rfl ⟨gLe rfl, gLe rfl, ?_⟩
  exact ⟨rfl, rfl⟩
set_option maxRecDepth 20000 in
theorem c_X6_sizeOfBlind (g : gG) (q : Nat → Nat) (Na : Nat → Nat → Nat) (Ia : Nat → Nat → Int32) (Ns : Nat → Nat) (Is : Nat → Int32) (b : Nat)  (htm : Ns 11 < 13) (hB : b < 8) (hk : Na 0 (24 + 2 * b) ≤ 5) : gCon g mX6_sizeOfBlind 3 0 0 [.ref (q 26), .int (nI b)] (wM g q Na Ia Ns Is) (fun rv ws' => rv = some (.int (blE ((Na 0) (24 + 2 * b)) ((Na 0) (24 + 2 * b + 1)))) ∧ ws' = (wM g q (va_up Na 10 (trA (Na 10) (Ns 11) (blL ((Na 0) (24 + 2 * b))))) Ia (va_up Ns 11 (Ns 11 + (blL ((Na 0) (24 + 2 * b))).length)) Is)) := by
  refine gCon.of (lv := [(0, .ref (q 26)), (1, .int (nI b))]) (by decide) (gLe rfl) rfl ?_
  refine j_aload_n 1 dX6_sizeOfBlind_0 rfl 0 rfl ?_
  refine j_getf 4 0 dX6_sizeOfBlind_1 rfl fd_X6_7 rfl rfl ?_
  refine j_bipush (v := (24 : Int32)) 6 dX6_sizeOfBlind_4 rfl (by decide) ?_
  refine j_iconst (v := (2 : Int32)) 7 dX6_sizeOfBlind_6 rfl (by decide) ?_
  refine j_iload_n 8 dX6_sizeOfBlind_7 rfl 1 rfl ?_
  refine j_imulN 2 b 9 dX6_sizeOfBlind_8 rfl ?_
  refine j_iaddN 24 (2 * b) 10 dX6_sizeOfBlind_9 rfl ?_
  refine j_ialdN (24 + (2 * b)) 11 1 dX6_sizeOfBlind_10 rfl rfl (by omega) (by decide) ?_
  refine j_iconst (v := (4 : Int32)) 12 dX6_sizeOfBlind_11 rfl (by decide) ?_
  refine j_icmp_neN ((Na 0) (24 + (2 * b))) 4 15 21 dX6_sizeOfBlind_12 rfl rfl (by have z0 := hk; omega) (by decide) (fun h12 => ?_) (fun h12 => ?_)
  ·
    refine j_aload_n 22 dX6_sizeOfBlind_21 rfl 0 rfl ?_
    refine j_bipush (v := (14 : Int32)) 24 dX6_sizeOfBlind_22 rfl (by decide) ?_
    refine j_callVW (rest := []) 27 (c_X6_leave g q Na Ia Ns Is 14  (by omega)) [] dX6_sizeOfBlind_24 rfl cv_X6_271 rfl rfl 0 rfl rfl (gLe rfl) (gLe rfl) (gLe rfl) (gLe rfl) (wM_len _ _ _ _ _ _ _ _ _ _) rfl ?_
    refine j_iconst (v := (2 : Int32)) 28 dX6_sizeOfBlind_27 rfl (by decide) ?_
    refine j_aload_n 29 dX6_sizeOfBlind_28 rfl 0 rfl ?_
    refine j_iload_n 30 dX6_sizeOfBlind_29 rfl 1 rfl ?_
    refine j_callVW (rest := [.int (2 : Int32)]) 33 (c_X6_blindBody g q (va_up Na 10 (trA (Na 10) (Ns 11) [14])) Ia (va_up Ns 11 (Ns 11 + 1)) Is b  (by show Ns 11 + 1 < 14; omega) hB) [.int (nI ((Na 0) (24 + 2 * b + 1)) - 100), .int (2 : Int32)] dX6_sizeOfBlind_30 rfl cv_X6_286 rfl rfl 0 rfl rfl (gLe rfl) (gLe rfl) (gLe rfl) (gLe rfl) (wM_len _ _ _ _ _ _ _ _ _ _) rfl ?_
    refine j_imul 34 dX6_sizeOfBlind_33 rfl ?_
    refine j_iretI dX6_sizeOfBlind_34 rfl ⟨gLe rfl, gLe rfl, ?_⟩
    exact ⟨by rw [blE, if_neg h12], by rw [blL, if_neg h12]; rfl⟩
  ·
    refine j_aload_n 16 dX6_sizeOfBlind_15 rfl 0 rfl ?_
    refine j_iload_n 17 dX6_sizeOfBlind_16 rfl 1 rfl ?_
    refine j_callVW (rest := []) 20 (c_X6_blindBody g q Na Ia Ns Is b  (by omega) hB) [.int (nI ((Na 0) (24 + 2 * b + 1)) - 100)] dX6_sizeOfBlind_17 rfl cv_X6_286 rfl rfl 0 rfl rfl (gLe rfl) (gLe rfl) (gLe rfl) (gLe rfl) (wM_len _ _ _ _ _ _ _ _ _ _) rfl ?_
    refine j_iretI dX6_sizeOfBlind_20 rfl ⟨gLe rfl, gLe rfl, ?_⟩
    exact ⟨by rw [blE, if_pos h12], by rw [blL, if_pos h12]; rfl⟩
set_option maxRecDepth 20000 in
theorem c_X6_sizeOfEwe (g : gG) (q : Nat → Nat) (Na : Nat → Nat → Nat) (Ia : Nat → Nat → Int32) (Ns : Nat → Nat) (Is : Nat → Int32) (b : Nat)  (htm : Ns 11 < 10) (hst : Is 12 = skI 99) (hokp : okP (Na 0)) (hs40 : Na 0 40 < 2 ^ Na 0 2) (hum : ∀ k, uM (Na 0) 0 k ≤ 9999) (hB3 : b < Na 0 3) : gCon g mX6_sizeOfEwe 7 0 0 [.ref (q 26), .int (nI b)] (wM g q Na Ia Ns Is) (fun rv ws' => ∃ (Z1 : Nat → Nat), (eqB Z1 (Na 0)) ∧ rv = some (.int (szE ((Na 0) (24 + 2 * b)) ((Na 0) (24 + 2 * b + 1)) (b + (goR (Na 0) 99 b).1))) ∧ ws' = (wM g q (va_up (va_up Na 0 Z1) 10 (trA (Na 10) (Ns 11) (szL ((Na 0) (24 + 2 * b))))) Ia (va_up Ns 11 (Ns 11 + (szL ((Na 0) (24 + 2 * b))).length)) Is)) := by
  refine gCon.of (lv := [(0, .ref (q 26)), (1, .int (nI b))]) (by decide) (gLe rfl) rfl ?_
  have hkd := okP_k hokp hB3
  have hp8 := hokp.2.2.2.1
  refine j_aload_n 1 dX6_sizeOfEwe_0 rfl 0 rfl ?_
  refine j_getf 4 0 dX6_sizeOfEwe_1 rfl fd_X6_7 rfl rfl ?_
  refine j_bipush (v := (24 : Int32)) 6 dX6_sizeOfEwe_4 rfl (by decide) ?_
  refine j_iconst (v := (2 : Int32)) 7 dX6_sizeOfEwe_6 rfl (by decide) ?_
  refine j_iload_n 8 dX6_sizeOfEwe_7 rfl 1 rfl ?_
  refine j_imulN 2 b 9 dX6_sizeOfEwe_8 rfl ?_
  refine j_iaddN 24 (2 * b) 10 dX6_sizeOfEwe_9 rfl ?_
  refine j_ialdN (24 + (2 * b)) 11 1 dX6_sizeOfEwe_10 rfl rfl (by omega) (by decide) ?_
  refine j_iconst (v := (2 : Int32)) 12 dX6_sizeOfEwe_11 rfl (by decide) ?_
  refine j_icmp_eqN ((Na 0) (24 + (2 * b))) 2 15 21 dX6_sizeOfEwe_12 rfl rfl (by have z0 := hkd.2; omega) (by decide) (fun h12 => ?_) (fun h12 => ?_)
  ·
    refine j_aload_n 22 dX6_sizeOfEwe_21 rfl 0 rfl ?_
    refine j_bipush (v := (12 : Int32)) 24 dX6_sizeOfEwe_22 rfl (by decide) ?_
    refine j_callVW (rest := []) 27 (c_X6_leave g q Na Ia Ns Is 12  (by omega)) [] dX6_sizeOfEwe_24 rfl cv_X6_271 rfl rfl 0 rfl rfl (gLe rfl) (gLe rfl) (gLe rfl) (gLe rfl) (wM_len _ _ _ _ _ _ _ _ _ _) rfl ?_
    refine j_aload_n 28 dX6_sizeOfEwe_27 rfl 0 rfl ?_
    refine j_iload_n 29 dX6_sizeOfEwe_28 rfl 1 rfl ?_
    refine j_callVX (rest := []) 32 (c_X6_eweBody g q (va_up Na 10 (trA (Na 10) (Ns 11) [12])) Ia (va_up Ns 11 (Ns 11 + 1)) Is b  (by show Ns 11 + 1 < 11; omega) hst hokp hs40 hum hB3) dX6_sizeOfEwe_29 rfl cv_X6_289 rfl rfl 0 rfl rfl (gLe rfl) (gLe rfl) (gLe rfl) (gLe rfl) (fun rv w1 hp => ?_)
    obtain ⟨Z1_1, hZ1_1, rfl, rfl⟩ := hp
    refine ⟨(wM_len _ _ _ _ _ _ _ _ _ _), ?_⟩
    refine j_eq (lv2 := [(0, .ref (q 26)), (1, .int (nI b))]) (st2 := [.int (ewE ((Na 0) (24 + 2 * b)) ((Na 0) (24 + 2 * b + 1)) (b + (goR (Na 0) 99 b).1))]) (ws2 := (wM g q (va_up (va_up Na 0 Z1_1) 10 (trA (trA (Na 10) (Ns 11) [12]) (Ns 11 + 1) (ewL ((Na 0) (24 + 2 * b))))) Ia (va_up Ns 11 (Ns 11 + 1 + (ewL ((Na 0) (24 + 2 * b))).length)) Is)) rfl rfl rfl ?_
    refine j_ineg 33 dX6_sizeOfEwe_32 rfl ?_
    refine j_iretI dX6_sizeOfEwe_33 rfl ⟨gLe rfl, gLe rfl, ?_⟩
    exact ⟨_, hZ1_1, by rw [szE, if_pos h12], by rw [szL, if_pos h12, ← trA_app, List.length_append, ← Nat.add_assoc]; rfl⟩
  ·
    refine j_aload_n 16 dX6_sizeOfEwe_15 rfl 0 rfl ?_
    refine j_iload_n 17 dX6_sizeOfEwe_16 rfl 1 rfl ?_
    refine j_callVX (rest := []) 20 (c_X6_eweBody g q Na Ia Ns Is b  (by omega) hst hokp hs40 hum hB3) dX6_sizeOfEwe_17 rfl cv_X6_289 rfl rfl 0 rfl rfl (gLe rfl) (gLe rfl) (gLe rfl) (gLe rfl) (fun rv w1 hp => ?_)
    obtain ⟨Z1_2, hZ1_2, rfl, rfl⟩ := hp
    refine ⟨(wM_len _ _ _ _ _ _ _ _ _ _), ?_⟩
    refine j_eq (lv2 := [(0, .ref (q 26)), (1, .int (nI b))]) (st2 := [.int (ewE ((Na 0) (24 + 2 * b)) ((Na 0) (24 + 2 * b + 1)) (b + (goR (Na 0) 99 b).1))]) (ws2 := (wM g q (va_up (va_up Na 0 Z1_2) 10 (trA (Na 10) (Ns 11) (ewL ((Na 0) (24 + 2 * b))))) Ia (va_up Ns 11 (Ns 11 + (ewL ((Na 0) (24 + 2 * b))).length)) Is)) rfl rfl rfl ?_
    refine j_iretI dX6_sizeOfEwe_20 rfl ⟨gLe rfl, gLe rfl, ?_⟩
    exact ⟨_, hZ1_2, by rw [szE, if_neg h12], by rw [szL, if_neg h12]⟩
set_option maxRecDepth 20000 in
theorem c_X6_markOfBlind (g : gG) (q : Nat → Nat) (Na : Nat → Nat → Nat) (Ia : Nat → Nat → Int32) (Ns : Nat → Nat) (Is : Nat → Int32) (b : Nat)  (htm : Ns 11 < 11) (hB : b < 8) (hk : Na 0 (24 + 2 * b) ≤ 5) : gCon g mX6_markOfBlind 4 0 0 [.ref (q 26), .int (nI b)] (wM g q Na Ia Ns Is) (fun rv ws' => rv = some (.int (nI b - blE ((Na 0) (24 + 2 * b)) ((Na 0) (24 + 2 * b + 1)))) ∧ ws' = (wM g q (va_up Na 10 (trA (Na 10) (Ns 11) ([23, 20] ++ blL ((Na 0) (24 + 2 * b))))) Ia (va_up Ns 11 (Ns 11 + ([23, 20] ++ blL ((Na 0) (24 + 2 * b))).length)) Is)) := by
  refine gCon.of (lv := [(0, .ref (q 26)), (1, .int (nI b))]) (by decide) (gLe rfl) rfl ?_
  refine j_aload_n 1 dX6_markOfBlind_0 rfl 0 rfl ?_
  refine j_bipush (v := (23 : Int32)) 3 dX6_markOfBlind_1 rfl (by decide) ?_
  refine j_callVW (rest := []) 6 (c_X6_leave g q Na Ia Ns Is 23  (by omega)) [] dX6_markOfBlind_3 rfl cv_X6_271 rfl rfl 0 rfl rfl (gLe rfl) (gLe rfl) (gLe rfl) (gLe rfl) (wM_len _ _ _ _ _ _ _ _ _ _) rfl ?_
  refine j_aload_n 7 dX6_markOfBlind_6 rfl 0 rfl ?_
  refine j_iload_n 8 dX6_markOfBlind_7 rfl 1 rfl ?_
  refine j_callVW (rest := []) 11 (c_X6_numberBody g q (va_up Na 10 (trA (Na 10) (Ns 11) [23])) Ia (va_up Ns 11 (Ns 11 + 1)) Is b  (by show Ns 11 + 1 < 15; omega)) [.int (nI b)] dX6_markOfBlind_8 rfl cv_X6_274 rfl rfl 0 rfl rfl (gLe rfl) (gLe rfl) (gLe rfl) (gLe rfl) (wM_len _ _ _ _ _ _ _ _ _ _) rfl ?_
  refine j_istore_n 12 [(2, .int (nI b)), (0, .ref (q 26)), (1, .int (nI b))] dX6_markOfBlind_11 rfl (by decide) rfl ?_
  refine j_iload_n 13 dX6_markOfBlind_12 rfl 0 rfl ?_
  refine j_aload_n 14 dX6_markOfBlind_13 rfl 1 rfl ?_
  refine j_iload_n 15 dX6_markOfBlind_14 rfl 2 rfl ?_
  refine j_callVW (rest := [.int (nI b)]) 18 (c_X6_sizeOfBlind g q (va_up Na 10 (trA (trA (Na 10) (Ns 11) [23]) (Ns 11 + 1) [20])) Ia (va_up Ns 11 (Ns 11 + 1 + 1)) Is b  (by show Ns 11 + 1 + 1 < 13; omega) hB hk) [.int (blE ((Na 0) (24 + 2 * b)) ((Na 0) (24 + 2 * b + 1))), .int (nI b)] dX6_markOfBlind_15 rfl cv_X6_292 rfl rfl 0 rfl rfl (gLe rfl) (gLe rfl) (gLe rfl) (gLe rfl) (wM_len _ _ _ _ _ _ _ _ _ _) rfl ?_
  refine j_isub 19 dX6_markOfBlind_18 rfl ?_
  refine j_iretI dX6_markOfBlind_19 rfl ⟨gLe rfl, gLe rfl, ?_⟩
  exact ⟨rfl, by rw [← trA_app, List.length_append, ← Nat.add_assoc]; rfl⟩
