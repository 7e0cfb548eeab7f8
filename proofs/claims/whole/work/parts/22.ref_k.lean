def Gq (S' S : RS) : Prop := eqB (S'.1 0) (S.1 0) ∧ (S'.1 1 = S.1 1 ∧ S'.1 3 = S.1 3 ∧ S'.1 8 = S.1 8 ∧ S'.1 10 = S.1 10) ∧ (S'.2.1 7 = S.2.1 7 ∧ S'.2.1 9 = S.2.1 9) ∧ (S'.2.2.1 2 = S.2.2.1 2 ∧ S'.2.2.1 4 = S.2.2.1 4 ∧ S'.2.2.1 5 = S.2.2.1 5 ∧ S'.2.2.1 6 = S.2.2.1 6 ∧ S'.2.2.1 11 = S.2.2.1 11) ∧ S'.2.2.2 12 = S.2.2.2 12
def ahA (R : Nat → Nat) (r b p : Nat) : Nat → Nat → Nat → (Nat → Nat) → Int32
  | 0, _, _, _ => -1000000
  | f + 1, n, s, u => if (gOA R 99 b s u).1 = p then nI n else ahA R r b p f (n + 1) (gOA R 99 r s u).2.1 (gOA R 99 r s u).2.2
def pM_ahead (r b p : Int32) (S : RS) : Int32 × RS :=
  if ¬ inR r (S.1 0 3) ∨ ¬ inR b (S.1 0 3) ∨ ¬ inR p (S.1 0 1) then (-1000001, S) else (ahA (S.1 0) (cl r) (cl b) (cl p) 61 0 (S.1 0 40) (uM (S.1 0) 0), S)
theorem wc_1 {R Y : Nat → Nat} : eqB Y R → eqB (va_cpy R (va_up Y 214 (R 214)) 215 215 5) R := fun h k hk => by
  rw [cpy_out (by omega), va_up_n (by omega)]
  exact h k hk
theorem wc_2 {R Y : Nat → Nat} : (va_cpy R (va_up Y 214 (R 214)) 215 215 5) 214 = R 214 := by
  rw [cpy_out (by omega)]
  exact va_up_s
theorem wc_3 {R Y : Nat → Nat} : uM (va_cpy R (va_up Y 214 (R 214)) 215 215 5) 174 = uM R 174 := by
  funext k
  by_cases hk : k < 5
  · rw [uM_at hk, uM_at hk, cpy_in (by omega) (by omega)]
    exact congrArg R (by omega)
  · rw [Z5_uM _ _ k (by omega), Z5_uM _ _ k (by omega)]
theorem cp0_214 {R : Nat → Nat} : va_cpy R R 0 174 58 214 = R 40 := cpy_in (by omega) (by omega)
theorem cp0_uM {R : Nat → Nat} : uM (va_cpy R R 0 174 58) 174 = uM R 0 := by
  funext k
  by_cases hk : k < 5
  · rw [uM_at hk, uM_at hk, cpy_in (by omega) (by omega)]
    exact congrArg R (by omega)
  · rw [Z5_uM _ _ k (by omega), Z5_uM _ _ k (by omega)]
set_option maxRecDepth 20000 in
theorem c_X6_wouldCome (g : gG) (q : Nat → Nat) (Na : Nat → Nat → Nat) (Ia : Nat → Nat → Int32) (Ns : Nat → Nat) (Is : Nat → Int32) (b : Nat)  (hs : Is 12 = skI 99) (hP : okP (Na 0)) (hS : Na 0 214 < 2 ^ Na 0 2) (hU : ∀ k, uM (Na 0) 174 k ≤ 100000) (hB : b < Na 0 3) : gCon g mX6_wouldCome 4 0 0 [.ref (q 26), .int (nI b)] (wM g q Na Ia Ns Is) (fun rv ws' => ∃ (Z1 : Nat → Nat), (eqB Z1 (Na 0)) ∧ (Z1 214 = Na 0 214) ∧ (uM Z1 174 = uM (Na 0) 174) ∧ rv = some (.int (nI ((gOA (Na 0) 99 b ((Na 0) 214) (uM (Na 0) 174)).1))) ∧ ws' = (wM g q (va_up Na 0 Z1) Ia Ns Is)) := by
  refine gCon.of (lv := [(0, .ref (q 26)), (1, .int (nI b))]) (by decide) (gLe rfl) rfl ?_
  have hE : eqB (va_cpy (Na 0) (Na 0) 215 220 5) (Na 0) := fun k hk => cpy_out (by omega)
  have hx4 : (va_cpy (Na 0) (Na 0) 215 220 5) 214 = Na 0 214 := cpy_out (by omega)
  have hxu : uM (va_cpy (Na 0) (Na 0) 215 220 5) 174 = uM (Na 0) 174 := by
    funext k
    by_cases hk : k < 5
    · rw [uM_at hk, uM_at hk, cpy_out (by omega)]
    · rw [Z5_uM _ _ k (by omega), Z5_uM _ _ k (by omega)]
  have hgz := gOA_eq hP hE (sk := 99) (s := Na 0 214) (u := uM (Na 0) 174) hB
  refine j_aload_n 1 dX6_wouldCome_0 rfl 0 rfl ?_
  refine j_getf 4 0 dX6_wouldCome_1 rfl fd_X6_7 rfl rfl ?_
  refine j_sipush (v := (214 : Int32)) 7 dX6_wouldCome_4 rfl (by decide) ?_
  refine j_ialdN 214 8 1 dX6_wouldCome_7 rfl rfl (by decide) (by decide) ?_
  refine j_istore_n 9 [(2, .int (nI ((Na 0) 214))), (0, .ref (q 26)), (1, .int (nI b))] dX6_wouldCome_8 rfl (by decide) rfl ?_
  refine j_iconst (v := (0 : Int32)) 10 dX6_wouldCome_9 rfl (by decide) ?_
  refine j_istore_n 11 [(3, .int (0 : Int32)), (2, .int (nI ((Na 0) 214))), (0, .ref (q 26)), (1, .int (nI b))] dX6_wouldCome_10 rfl (by decide) rfl ?_
  have hL11 : ∀ (zm11 : Nat) (zi : Nat), 5 - zi < zm11 → (zi ≤ 5) → gJ g mX6_wouldCome 4 0 0 (fun k' j' rv ws' => k' ≤ 0 ∧ j' ≤ 0 ∧ (∃ (Z1 : Nat → Nat), (eqB Z1 (Na 0)) ∧ (Z1 214 = Na 0 214) ∧ (uM Z1 174 = uM (Na 0) 174) ∧ rv = some (.int (nI ((gOA (Na 0) 99 b ((Na 0) 214) (uM (Na 0) 174)).1))) ∧ ws' = (wM g q (va_up Na 0 Z1) Ia Ns Is))) 0 0 11 [(3, .int (nI zi)), (2, .int (nI (Na 0 214))), (0, .ref (q 26)), (1, .int (nI b))] [] (wM g q (va_up Na 0 (va_cpy (Na 0) (Na 0) 215 220 zi)) Ia Ns Is) := by
    intro zm11
    induction zm11 with
    | zero => intro zi zmh; exact absurd zmh (Nat.not_lt_zero _)
    | succ zm11 zih11 =>
      intro zi zmh11 hz
      refine j_iload_n 12 dX6_wouldCome_11 rfl 0 rfl ?_
      refine j_iconst (v := (5 : Int32)) 13 dX6_wouldCome_12 rfl (by decide) ?_
      refine j_icmp_geN zi 5 16 42 dX6_wouldCome_13 rfl rfl (by omega) (by decide) (fun h13 => ?_) (fun h13 => ?_)
      ·
        have ye : zi = 5 := by omega
        subst ye
        refine j_aload_n 43 dX6_wouldCome_42 rfl 2 rfl ?_
        refine j_sipush (v := (174 : Int32)) 46 dX6_wouldCome_43 rfl (by decide) ?_
        refine j_iload_n 47 dX6_wouldCome_46 rfl 3 rfl ?_
        refine j_callVW (rest := []) 50 (c_X6_go g q (va_up Na 0 (va_cpy (Na 0) (Na 0) 215 220 5)) Ia Ns Is 174 b 99 hs (okP_eq (eqB_P hE) hP) (Or.inr rfl) (by show (va_cpy (Na 0) (Na 0) 215 220 5) 214 < 32; rw [hx4]; exact p32 hP hS) (fun k => by show uM (va_cpy (Na 0) (Na 0) 215 220 5) 174 k ≤ _; rw [hxu]; have := hU k; omega) (by show b < (va_cpy (Na 0) (Na 0) 215 220 5) 3; rw [hE 3 (by decide)]; exact hB)) [.int (nI ((goA (va_cpy (Na 0) (Na 0) 215 220 5) 99 ((va_cpy (Na 0) (Na 0) 215 220 5) (24 + 2 * b)) 5 ((va_cpy (Na 0) (Na 0) 215 220 5) 2 - 1) ((va_cpy (Na 0) (Na 0) 215 220 5) (174 + 40)) (uM (va_cpy (Na 0) (Na 0) 215 220 5) 174)).1))] dX6_wouldCome_47 rfl cv_X6_187 rfl rfl 0 rfl rfl (gLe rfl) (gLe rfl) (gLe rfl) (gLe rfl) (wM_len _ _ _ _ _ _ _ _ _ _) rfl ?_
        refine j_topN ((goA (va_cpy (Na 0) (Na 0) 215 220 5) 99 ((va_cpy (Na 0) (Na 0) 215 220 5) (24 + 2 * b)) 5 ((va_cpy (Na 0) (Na 0) 215 220 5) 2 - 1) ((va_cpy (Na 0) (Na 0) 215 220 5) (174 + 40)) (uM (va_cpy (Na 0) (Na 0) 215 220 5) 174)).1) ((gOA (Na 0) 99 b (Na 0 214) (uM (Na 0) 174)).1) (by show (goA (va_cpy (Na 0) (Na 0) 215 220 5) 99 _ 5 _ ((va_cpy (Na 0) (Na 0) 215 220 5) 214) (uM (va_cpy (Na 0) (Na 0) 215 220 5) 174)).1 = _; rw [hx4, hxu]; exact congrArg Prod.fst hgz) ?_
        refine j_ws (wM g q (va_up Na 0 (putM (va_cpy (Na 0) (Na 0) 215 220 5) 174 (gOA (Na 0) 99 b (Na 0 214) (uM (Na 0) 174)).2.1 (gOA (Na 0) 99 b (Na 0 214) (uM (Na 0) 174)).2.2)) Ia Ns Is) (congrArg (fun z => wM g q (va_up Na 0 z) Ia Ns Is) (by show putM (va_cpy (Na 0) (Na 0) 215 220 5) 174 (goA (va_cpy (Na 0) (Na 0) 215 220 5) 99 _ 5 _ ((va_cpy (Na 0) (Na 0) 215 220 5) 214) (uM (va_cpy (Na 0) (Na 0) 215 220 5) 174)).2.1 (goA (va_cpy (Na 0) (Na 0) 215 220 5) 99 _ 5 _ ((va_cpy (Na 0) (Na 0) 215 220 5) 214) (uM (va_cpy (Na 0) (Na 0) 215 220 5) 174)).2.2 = _; rw [hx4, hxu]; exact congrArg (fun z : Nat × Nat × (Nat → Nat) => putM (va_cpy (Na 0) (Na 0) 215 220 5) 174 z.2.1 z.2.2) hgz)) ?_
        refine j_istore_n 51 [(3, .int (nI ((gOA (Na 0) 99 b (Na 0 214) (uM (Na 0) 174)).1))), (2, .int (nI (Na 0 214))), (0, .ref (q 26)), (1, .int (nI b))] dX6_wouldCome_50 rfl (by decide) rfl ?_
        refine j_aload_n 52 dX6_wouldCome_51 rfl 2 rfl ?_
        refine j_getf 55 0 dX6_wouldCome_52 rfl fd_X6_7 rfl rfl ?_
        refine j_sipush (v := (214 : Int32)) 58 dX6_wouldCome_55 rfl (by decide) ?_
        refine j_iload_n 59 dX6_wouldCome_58 rfl 1 rfl ?_
        refine j_iastN (Na 0 214) 214 60 1 (wM g q (va_up Na 0 (va_up (putM (va_cpy (Na 0) (Na 0) 215 220 5) 174 (gOA (Na 0) 99 b (Na 0 214) (uM (Na 0) 174)).2.1 (gOA (Na 0) 99 b (Na 0 214) (uM (Na 0) 174)).2.2) 214 (Na 0 214))) Ia Ns Is) dX6_wouldCome_59 rfl rfl (by decide) (by decide) rfl ?_
        refine j_iconst (v := (0 : Int32)) 61 dX6_wouldCome_60 rfl (by decide) ?_
        refine j_istore 63 [(4, .int (0 : Int32)), (3, .int (nI ((gOA (Na 0) 99 b (Na 0 214) (uM (Na 0) 174)).1))), (2, .int (nI (Na 0 214))), (0, .ref (q 26)), (1, .int (nI b))] dX6_wouldCome_61 rfl (by decide) rfl ?_
        have hL63 : ∀ (zm63 : Nat) (zk : Nat), 5 - zk < zm63 → (zk ≤ 5) → gJ g mX6_wouldCome 4 0 0 (fun k' j' rv ws' => k' ≤ 0 ∧ j' ≤ 0 ∧ (∃ (Z1 : Nat → Nat), (eqB Z1 (Na 0)) ∧ (Z1 214 = Na 0 214) ∧ (uM Z1 174 = uM (Na 0) 174) ∧ rv = some (.int (nI ((gOA (Na 0) 99 b ((Na 0) 214) (uM (Na 0) 174)).1))) ∧ ws' = (wM g q (va_up Na 0 Z1) Ia Ns Is))) 0 0 63 [(4, .int (nI zk)), (3, .int (nI ((gOA (Na 0) 99 b (Na 0 214) (uM (Na 0) 174)).1))), (0, .ref (q 26))] [] (wM g q (va_up Na 0 (va_cpy (Na 0) (va_up (putM (va_cpy (Na 0) (Na 0) 215 220 5) 174 (gOA (Na 0) 99 b (Na 0 214) (uM (Na 0) 174)).2.1 (gOA (Na 0) 99 b (Na 0 214) (uM (Na 0) 174)).2.2) 214 (Na 0 214)) 215 215 zk)) Ia Ns Is) := by
          intro zm63
          induction zm63 with
          | zero => intro zk zmh; exact absurd zmh (Nat.not_lt_zero _)
          | succ zm63 zih63 =>
            intro zk zmh63 hzk
            refine j_iload 65 dX6_wouldCome_63 rfl 0 rfl ?_
            refine j_iconst (v := (5 : Int32)) 66 dX6_wouldCome_65 rfl (by decide) ?_
            refine j_icmp_geN zk 5 69 97 dX6_wouldCome_66 rfl rfl (by omega) (by decide) (fun h66 => ?_) (fun h66 => ?_)
            ·
              refine j_iload_n 98 dX6_wouldCome_97 rfl 1 rfl ?_
              refine j_iretI dX6_wouldCome_98 rfl ⟨gLe rfl, gLe rfl, ?_⟩
              have ye : zk = 5 := by omega
              subst ye
              exact ⟨_, wc_1 (eqB_put hE), wc_2, wc_3, rfl, rfl⟩
            ·
              refine j_aload_n 70 dX6_wouldCome_69 rfl 2 rfl ?_
              refine j_getf 73 0 dX6_wouldCome_70 rfl fd_X6_7 rfl rfl ?_
              refine j_sipush (v := (215 : Int32)) 76 dX6_wouldCome_73 rfl (by decide) ?_
              refine j_iload 78 dX6_wouldCome_76 rfl 0 rfl ?_
              refine j_iaddN 215 zk 79 dX6_wouldCome_78 rfl ?_
              refine j_aload_n 80 dX6_wouldCome_79 rfl 2 rfl ?_
              refine j_getf 83 0 dX6_wouldCome_80 rfl fd_X6_7 rfl rfl ?_
              refine j_sipush (v := (220 : Int32)) 86 dX6_wouldCome_83 rfl (by decide) ?_
              refine j_iload 88 dX6_wouldCome_86 rfl 0 rfl ?_
              refine j_iaddN 220 zk 89 dX6_wouldCome_88 rfl ?_
              refine j_ialdN (220 + zk) 90 1 dX6_wouldCome_89 rfl rfl (by omega) (by decide) ?_
              refine j_topN ((va_cpy (Na 0) (va_up (putM (va_cpy (Na 0) (Na 0) 215 220 5) 174 (gOA (Na 0) 99 b (Na 0 214) (uM (Na 0) 174)).2.1 (gOA (Na 0) 99 b (Na 0 214) (uM (Na 0) 174)).2.2) 214 (Na 0 214)) 215 215 zk) (220 + zk)) (Na 0 (215 + zk)) (by rw [cpy_out (by omega), va_up_n (by omega), putM_hi (by omega), cpy_in (by omega) (by omega)]; exact congrArg (Na 0) (by omega)) ?_
              refine j_iastN (Na 0 (215 + zk)) (215 + zk) 91 1 (wM g q (va_up Na 0 (va_up (va_cpy (Na 0) (va_up (putM (va_cpy (Na 0) (Na 0) 215 220 5) 174 (gOA (Na 0) 99 b (Na 0 214) (uM (Na 0) 174)).2.1 (gOA (Na 0) 99 b (Na 0 214) (uM (Na 0) 174)).2.2) 214 (Na 0 214)) 215 215 zk) (215 + zk) (Na 0 (215 + zk)))) Ia Ns Is) dX6_wouldCome_90 rfl rfl (by omega) (by decide) rfl ?_
              refine j_ws (wM g q (va_up Na 0 (va_cpy (Na 0) (va_up (putM (va_cpy (Na 0) (Na 0) 215 220 5) 174 (gOA (Na 0) 99 b (Na 0 214) (uM (Na 0) 174)).2.1 (gOA (Na 0) 99 b (Na 0 214) (uM (Na 0) 174)).2.2) 214 (Na 0 214)) 215 215 (zk + 1))) Ia Ns Is) (congrArg (fun z => wM g q (va_up Na 0 z) Ia Ns Is) (cpy_s _ _ _ _ _)) ?_
              refine j_iincN zk 1 94 [(4, .int (nI (zk + 1))), (3, .int (nI ((gOA (Na 0) 99 b (Na 0 214) (uM (Na 0) 174)).1))), (0, .ref (q 26))] dX6_wouldCome_91 rfl 0 rfl (by decide) rfl ?_
              refine j_goto 63 dX6_wouldCome_94 rfl ?_
              refine j_lv [0, 1, 2] rfl ?_
              exact zih63 (zk + 1) (by omega) (by omega)
        refine j_ws (wM g q (va_up Na 0 (va_cpy (Na 0) (va_up (putM (va_cpy (Na 0) (Na 0) 215 220 5) 174 (gOA (Na 0) 99 b (Na 0 214) (uM (Na 0) 174)).2.1 (gOA (Na 0) 99 b (Na 0 214) (uM (Na 0) 174)).2.2) 214 (Na 0 214)) 215 215 0)) Ia Ns Is) (by rw [cpy_0]) ?_
        refine j_lv [0, 1, 3] rfl ?_
        exact hL63 _ 0 (Nat.lt_succ_self _) (by omega)
      ·
        refine j_aload_n 17 dX6_wouldCome_16 rfl 2 rfl ?_
        refine j_getf 20 0 dX6_wouldCome_17 rfl fd_X6_7 rfl rfl ?_
        refine j_sipush (v := (220 : Int32)) 23 dX6_wouldCome_20 rfl (by decide) ?_
        refine j_iload_n 24 dX6_wouldCome_23 rfl 0 rfl ?_
        refine j_iaddN 220 zi 25 dX6_wouldCome_24 rfl ?_
        refine j_aload_n 26 dX6_wouldCome_25 rfl 2 rfl ?_
        refine j_getf 29 0 dX6_wouldCome_26 rfl fd_X6_7 rfl rfl ?_
        refine j_sipush (v := (215 : Int32)) 32 dX6_wouldCome_29 rfl (by decide) ?_
        refine j_iload_n 33 dX6_wouldCome_32 rfl 0 rfl ?_
        refine j_iaddN 215 zi 34 dX6_wouldCome_33 rfl ?_
        refine j_ialdN (215 + zi) 35 1 dX6_wouldCome_34 rfl rfl (by omega) (by decide) ?_
        refine j_topN ((va_cpy (Na 0) (Na 0) 215 220 zi) (215 + zi)) (Na 0 (215 + zi)) (cpy_out (by omega)) ?_
        refine j_iastN (Na 0 (215 + zi)) (220 + zi) 36 1 (wM g q (va_up Na 0 (va_up (va_cpy (Na 0) (Na 0) 215 220 zi) (220 + zi) (Na 0 (215 + zi)))) Ia Ns Is) dX6_wouldCome_35 rfl rfl (by omega) (by decide) rfl ?_
        refine j_ws (wM g q (va_up Na 0 (va_cpy (Na 0) (Na 0) 215 220 (zi + 1))) Ia Ns Is) (congrArg (fun z => wM g q (va_up Na 0 z) Ia Ns Is) (cpy_s _ _ _ _ _)) ?_
        refine j_iincN zi 1 39 [(3, .int (nI (zi + 1))), (2, .int (nI (Na 0 214))), (0, .ref (q 26)), (1, .int (nI b))] dX6_wouldCome_36 rfl 0 rfl (by decide) rfl ?_
        refine j_goto 11 dX6_wouldCome_39 rfl ?_
        refine j_lv [0, 1, 2, 3] rfl ?_
        exact zih11 (zi + 1) (by omega) (by omega)
  refine j_ws (wM g q (va_up Na 0 (va_cpy (Na 0) (Na 0) 215 220 0)) Ia Ns Is) (by rw [cpy_0]; rfl) ?_
  refine j_lv [0, 1, 2, 3] rfl ?_
  exact hL11 _ 0 (Nat.lt_succ_self _) (by omega)
set_option maxRecDepth 20000 in
theorem c_X6_ahead (g : gG) (q : Nat → Nat) (Na : Nat → Nat → Nat) (Ia : Nat → Nat → Int32) (Ns : Nat → Nat) (Is : Nat → Int32) (r : Int32) (b : Int32) (p : Int32) (hI : RI (Na, Ia, Ns, Is)) : gCon g mX6_ahead 5 0 0 [.ref (q 26), .int r, .int b, .int p] (wS g q (Na, Ia, Ns, Is)) (fun rv ws' => ∃ S9 : RS, Gq S9 (pM_ahead r b p (Na, Ia, Ns, Is)).2 ∧ rv = some (.int (pM_ahead r b p (Na, Ia, Ns, Is)).1) ∧ ws' = wS g q S9) := by
  refine gCon.of (lv := [(0, .ref (q 26)), (1, .int r), (2, .int b), (3, .int p)]) (by decide) (gLe rfl) rfl ?_
  refine j_ws (wM g q Na Ia Ns Is) rfl ?_
  have h8 : Na 0 1 ≤ 6 ∧ Na 0 2 ≤ 5 ∧ Na 0 3 ≤ 8 ∧ Na 0 0 ≤ 1 := RI_3 hI
  have h40 : Na 0 40 < 32 ∧ (∀ j, j < 5 → Na 0 (41 + j) ≤ 9999) ∧ (∀ p, p < 6 → Na 0 (46 + p) ≤ 9999 ∧ Na 0 (52 + p) ≤ 989901) ∧ inP (Na 0) ≤ 9999 := RI_40 hI
  have hpm : Ns 2 ≤ 24 := hI.2.1
  have hsz : ∀ r, r < 8 → Na 8 r ≤ 40 := hI.2.2.2.2.2.2.2.1
  have htr : Ns 11 ≤ 16 := hI.2.2.2.2.2.2.2.2.1
  have hst : Is 12 = -1000000 := hI.2.2.2.2.2.2.2.2.2.1
  have htp : Ns 4 ≤ 400 := hI.2.2.2.2.1
  refine j_aload_n 1 dX6_ahead_0 rfl 0 rfl ?_
  refine j_iload_n 2 dX6_ahead_1 rfl 1 rfl ?_
  refine j_callVW (rest := []) 5 (c_X6_isBeast g q Na Ia Ns Is r  (by omega)) [.int (gB (inR r ((Na 0) 3)))] dX6_ahead_2 rfl cv_X6_190 rfl rfl 0 rfl rfl (gLe rfl) (gLe rfl) (gLe rfl) (gLe rfl) (wM_len _ _ _ _ _ _ _ _ _ _) rfl ?_
  refine j_if_eqB 8 24 dX6_ahead_5 rfl rfl (fun h5 => ?_) (fun h5 => ?_)
  ·
    refine j_ldc (v := (-1000001 : Int32)) 26 dX6_ahead_24 rfl wd_4_140 ?_
    refine j_iretI dX6_ahead_26 rfl ⟨gLe rfl, gLe rfl, ?_⟩
    have ze : (pM_ahead r b p (Na, Ia, Ns, Is)) = ((-1000001 : Int32), (Na, Ia, Ns, Is)) := by
      exact if_pos (by first | exact Or.inl h5 | exact Or.inr (Or.inl h13) | exact Or.inr (Or.inr h21))
    exact ⟨(Na, Ia, Ns, Is), by rw [ze]; exact ⟨(fun k _ => rfl), ⟨rfl, rfl, rfl, rfl⟩, ⟨rfl, rfl⟩, ⟨rfl, rfl, rfl, rfl, rfl⟩, rfl⟩, congrArg (fun z : Int32 × RS => some (Value.int z.1)) ze.symm, rfl⟩
  ·
    refine j_aload_n 9 dX6_ahead_8 rfl 0 rfl ?_
    refine j_iload_n 10 dX6_ahead_9 rfl 2 rfl ?_
    refine j_callVW (rest := []) 13 (c_X6_isBeast g q Na Ia Ns Is b  (by omega)) [.int (gB (inR b ((Na 0) 3)))] dX6_ahead_10 rfl cv_X6_190 rfl rfl 0 rfl rfl (gLe rfl) (gLe rfl) (gLe rfl) (gLe rfl) (wM_len _ _ _ _ _ _ _ _ _ _) rfl ?_
    refine j_if_eqB 16 24 dX6_ahead_13 rfl rfl (fun h13 => ?_) (fun h13 => ?_)
    ·
      refine j_ldc (v := (-1000001 : Int32)) 26 dX6_ahead_24 rfl wd_4_140 ?_
      refine j_iretI dX6_ahead_26 rfl ⟨gLe rfl, gLe rfl, ?_⟩
      have ze : (pM_ahead r b p (Na, Ia, Ns, Is)) = ((-1000001 : Int32), (Na, Ia, Ns, Is)) := by
        exact if_pos (by first | exact Or.inl h5 | exact Or.inr (Or.inl h13) | exact Or.inr (Or.inr h21))
      exact ⟨(Na, Ia, Ns, Is), by rw [ze]; exact ⟨(fun k _ => rfl), ⟨rfl, rfl, rfl, rfl⟩, ⟨rfl, rfl⟩, ⟨rfl, rfl, rfl, rfl, rfl⟩, rfl⟩, congrArg (fun z : Int32 × RS => some (Value.int z.1)) ze.symm, rfl⟩
    ·
      refine j_aload_n 17 dX6_ahead_16 rfl 0 rfl ?_
      refine j_iload_n 18 dX6_ahead_17 rfl 3 rfl ?_
      refine j_callVW (rest := []) 21 (c_X6_isPen g q Na Ia Ns Is p  (by omega)) [.int (gB (inR p ((Na 0) 1)))] dX6_ahead_18 rfl cv_X6_199 rfl rfl 0 rfl rfl (gLe rfl) (gLe rfl) (gLe rfl) (gLe rfl) (wM_len _ _ _ _ _ _ _ _ _ _) rfl ?_
      refine j_if_neB 24 27 dX6_ahead_21 rfl rfl (fun h21 => ?_) (fun h21 => ?_)
      ·
        obtain ⟨zr, hzr, rfl⟩ := inR_of h5
        obtain ⟨zb, hzb, rfl⟩ := inR_of h13
        obtain ⟨zp, hzp, rfl⟩ := inR_of h21
        have hq1 := RI_P hI (Or.inr (Or.inl (by show 0 < Na 0 3; omega)))
        have hokp : okP (Na 0) := hq1.2.1
        have hs40 : Na 0 40 < 2 ^ Na 0 2 := hq1.2.2.1
        have hum : ∀ k, uM (Na 0) 0 k ≤ 9999 := by
          intro k
          by_cases hk : k < 5
          · rw [uM_at hk, show 0 + 41 + k = 41 + k by omega]; exact h40.2.1 k hk
          · rw [Z5_uM _ _ k (by omega)]; exact Nat.zero_le _
        refine j_aload_n 28 dX6_ahead_27 rfl 0 rfl ?_
        refine j_iconst (v := (0 : Int32)) 29 dX6_ahead_28 rfl (by decide) ?_
        refine j_sipush (v := (174 : Int32)) 32 dX6_ahead_29 rfl (by decide) ?_
        refine j_callVW (rest := []) 35 (c_X6_copyRow g q Na Ia Ns Is 0 174  (by decide) (by decide) (by decide)) [] dX6_ahead_32 rfl cv_X6_224 rfl rfl 0 rfl rfl (gLe rfl) (gLe rfl) (gLe rfl) (gLe rfl) (wM_len _ _ _ _ _ _ _ _ _ _) rfl ?_
        refine j_iconst (v := (0 : Int32)) 36 dX6_ahead_35 rfl (by decide) ?_
        refine j_istore 38 [(4, .int (0 : Int32)), (0, .ref (q 26)), (1, .int (nI zr)), (2, .int (nI zb)), (3, .int (nI zp))] dX6_ahead_36 rfl (by decide) rfl ?_
        have hL38 : ∀ (zm38 : Nat) (zi : Nat) (ZR : Nat → Nat), 61 - zi < zm38 → (zi ≤ 61) → (eqB ZR (Na 0)) → (ZR 214 < 2 ^ Na 0 2) → (∀ k, uM ZR 174 k ≤ 9999 + zi) → (ahA (Na 0) zr zb zp (61 - zi) zi (ZR 214) (uM ZR 174) = ahA (Na 0) zr zb zp 61 0 (Na 0 40) (uM (Na 0) 0)) → gJ g mX6_ahead 5 0 0 (fun k' j' rv ws' => k' ≤ 0 ∧ j' ≤ 0 ∧ (∃ S9 : RS, Gq S9 (pM_ahead (nI zr) (nI zb) (nI zp) (Na, Ia, Ns, Is)).2 ∧ rv = some (.int (pM_ahead (nI zr) (nI zb) (nI zp) (Na, Ia, Ns, Is)).1) ∧ ws' = wS g q S9)) 0 0 38 [(4, .int (nI zi)), (0, .ref (q 26)), (1, .int (nI zr)), (2, .int (nI zb)), (3, .int (nI zp))] [] (wM g q (va_up Na 0 ZR) Ia Ns Is) := by
          intro zm38
          induction zm38 with
          | zero => intro zi ZR zmh; exact absurd zmh (Nat.not_lt_zero _)
          | succ zm38 zih38 =>
            intro zi ZR zmh38 hz hzE hzS hzU hzA
            refine j_iload 40 dX6_ahead_38 rfl 0 rfl ?_
            refine j_bipush (v := (60 : Int32)) 42 dX6_ahead_40 rfl (by decide) ?_
            refine j_icmp_gtN zi 60 45 72 dX6_ahead_42 rfl rfl (by omega) (by decide) (fun h42 => ?_) (fun h42 => ?_)
            ·
              refine j_ldc (v := (-1000000 : Int32)) 74 dX6_ahead_72 rfl wd_4_47 ?_
              refine j_iretI dX6_ahead_74 rfl ⟨gLe rfl, gLe rfl, ?_⟩
              have ze : (pM_ahead (nI zr) (nI zb) (nI zp) (Na, Ia, Ns, Is)) = ((-1000000 : Int32), (Na, Ia, Ns, Is)) := by
                rw [pM_ahead, if_neg (fun z => z.elim (fun z => z h5) (fun z => z.elim (fun z => z h13) (fun z => z h21))), cl_nI (by omega), cl_nI (by omega), cl_nI (by omega)]
                show (ahA (Na 0) zr zb zp 61 0 (Na 0 40) (uM (Na 0) 0), _) = _
                rw [← hzA, show 61 - zi = 0 by omega, ahA]
              exact ⟨((va_up Na 0 ZR), Ia, Ns, Is), by rw [ze]; exact ⟨hzE, ⟨rfl, rfl, rfl, rfl⟩, ⟨rfl, rfl⟩, ⟨rfl, rfl, rfl, rfl, rfl⟩, rfl⟩, congrArg (fun z : Int32 × RS => some (Value.int z.1)) ze.symm, rfl⟩
            ·
              refine j_aload_n 46 dX6_ahead_45 rfl 1 rfl ?_
              refine j_iload_n 47 dX6_ahead_46 rfl 3 rfl ?_
              refine j_callVX (rest := []) 50 (c_X6_wouldCome g q (va_up Na 0 ZR) Ia Ns Is zb  hst (okP_eq (eqB_P hzE) hokp) (by show ZR 214 < 2 ^ ZR 2; rw [hzE 2 (by decide)]; exact hzS) (fun k => by have := hzU k; show uM ZR 174 k ≤ _; omega) (by show zb < ZR 3; rw [hzE 3 (by decide)]; exact hzb)) dX6_ahead_47 rfl cv_X6_230 rfl rfl 0 rfl rfl (gLe rfl) (gLe rfl) (gLe rfl) (gLe rfl) (fun rv w1 hp => ?_)
              obtain ⟨Z1_1, hZ1_1, hZ2_1, hZ3_1, rfl, rfl⟩ := hp
              refine ⟨(wM_len _ _ _ _ _ _ _ _ _ _), ?_⟩
              refine j_eq (lv2 := [(4, .int (nI zi)), (0, .ref (q 26)), (1, .int (nI zr)), (2, .int (nI zb)), (3, .int (nI zp))]) (st2 := [.int (nI ((gOA ZR 99 zb (ZR 214) (uM ZR 174)).1))]) (ws2 := (wM g q (va_up Na 0 Z1_1) Ia Ns Is)) rfl rfl rfl ?_
              have hz1E : eqB Z1_1 (Na 0) := eqB_trans hZ1_1 hzE
              have hz2 : Z1_1 214 = ZR 214 := hZ2_1
              have hz3 : uM Z1_1 174 = uM ZR 174 := hZ3_1
              have hz1S : Z1_1 214 < 2 ^ Na 0 2 := by rw [hz2]; exact hzS
              have hz1U : ∀ k, uM Z1_1 174 k ≤ 9999 + zi := by rw [hz3]; exact hzU
              refine j_topN ((gOA ZR 99 zb (ZR 214) (uM ZR 174)).1) ((gOA (Na 0) 99 zb (ZR 214) (uM ZR 174)).1) (congrArg Prod.fst (gOA_eq hokp hzE hzb)) ?_
              refine j_iload_n 51 dX6_ahead_50 rfl 4 rfl ?_
              refine j_icmp_neN ((gOA (Na 0) 99 zb (ZR 214) (uM ZR 174)).1) zp 54 57 dX6_ahead_51 rfl rfl (by have z0 := (gOA_ok hokp (sk := 99) (b := zb) hzS (Z5_uM ZR 174)).1; omega) (by omega) (fun h51 => ?_) (fun h51 => ?_)
              ·
                refine j_aload_n 58 dX6_ahead_57 rfl 1 rfl ?_
                refine j_sipush (v := (174 : Int32)) 61 dX6_ahead_58 rfl (by decide) ?_
                refine j_iload_n 62 dX6_ahead_61 rfl 2 rfl ?_
                have hbt : True ∧ zr < Na 0 3 := ⟨trivial, hzr⟩
                have hgk := gOA_ok hokp (sk := 99) (b := zr) hz1S (Z5_uM Z1_1 174)
                have hgz := gOA_eq hokp hz1E (sk := 99) (s := Z1_1 214) (u := uM Z1_1 174) hzr
                refine j_callVW (rest := []) 65 (c_X6_go g q (va_up Na 0 Z1_1) Ia Ns Is 174 zr 99 hst (okP_eq (eqB_P hz1E) hokp) (Or.inr rfl) (p32 hokp hz1S) (fun k => by have := hz1U k; show uM Z1_1 174 k ≤ _; omega) (by show zr < Z1_1 3; rw [hz1E 3 (by decide)]; exact hbt.2)) [.int (nI ((goA Z1_1 99 (Z1_1 (24 + 2 * zr)) 5 (Z1_1 2 - 1) (Z1_1 (174 + 40)) (uM Z1_1 174)).1))] dX6_ahead_62 rfl cv_X6_187 rfl rfl 0 rfl rfl (gLe rfl) (gLe rfl) (gLe rfl) (gLe rfl) (wM_len _ _ _ _ _ _ _ _ _ _) rfl ?_
                refine j_topN ((goA Z1_1 99 (Z1_1 (24 + 2 * zr)) 5 (Z1_1 2 - 1) (Z1_1 (174 + 40)) (uM Z1_1 174)).1) ((gOA (Na 0) 99 (zr) (Z1_1 214) (uM Z1_1 174)).1) (congrArg Prod.fst hgz) ?_
                refine j_ws (wM g q (va_up Na 0 (putM Z1_1 174 (gOA (Na 0) 99 (zr) (Z1_1 214) (uM Z1_1 174)).2.1 (gOA (Na 0) 99 (zr) (Z1_1 214) (uM Z1_1 174)).2.2)) Ia Ns Is) (congrArg (fun z : Nat × Nat × (Nat → Nat) => wM g q (va_up Na 0 (putM Z1_1 174 z.2.1 z.2.2)) Ia Ns Is) hgz) ?_
                refine j_pop 66 dX6_ahead_65 rfl rfl ?_
                refine j_iincN zi 1 69 [(4, .int (nI (zi + 1))), (0, .ref (q 26)), (1, .int (nI zr)), (2, .int (nI zb)), (3, .int (nI zp))] dX6_ahead_66 rfl 0 rfl (by decide) rfl ?_
                refine j_goto 38 dX6_ahead_69 rfl ?_
                refine j_lv [0, 1, 2, 3, 4] rfl ?_
                exact zih38 (zi + 1) (putM Z1_1 174 (gOA (Na 0) 99 (zr) (Z1_1 214) (uM Z1_1 174)).2.1 (gOA (Na 0) 99 (zr) (Z1_1 214) (uM Z1_1 174)).2.2) (by omega) (by omega) (eqB_put hz1E) (by rw [putM_at]; exact hgk.2.1) (fun k => by rw [uM_put hgk.2.2.1]; have z1 := hgk.2.2.2 k; have z2 := hz1U k; omega) (by rw [← hzA, show 61 - zi = 61 - (zi + 1) + 1 by omega, ahA, if_neg h51, putM_at, uM_put hgk.2.2.1, hz2, hz3])
              ·
                refine j_iload 56 dX6_ahead_54 rfl 0 rfl ?_
                refine j_iretI dX6_ahead_56 rfl ⟨gLe rfl, gLe rfl, ?_⟩
                have ze : (pM_ahead (nI zr) (nI zb) (nI zp) (Na, Ia, Ns, Is)) = ((nI zi), (Na, Ia, Ns, Is)) := by
                  rw [pM_ahead, if_neg (fun z => z.elim (fun z => z h5) (fun z => z.elim (fun z => z h13) (fun z => z h21))), cl_nI (by omega), cl_nI (by omega), cl_nI (by omega)]
                  show (ahA (Na 0) zr zb zp 61 0 (Na 0 40) (uM (Na 0) 0), _) = _
                  rw [← hzA, show 61 - zi = 61 - (zi + 1) + 1 by omega, ahA, if_pos h51]
                exact ⟨((va_up Na 0 Z1_1), Ia, Ns, Is), by rw [ze]; exact ⟨hz1E, ⟨rfl, rfl, rfl, rfl⟩, ⟨rfl, rfl⟩, ⟨rfl, rfl, rfl, rfl, rfl⟩, rfl⟩, congrArg (fun z : Int32 × RS => some (Value.int z.1)) ze.symm, rfl⟩
        refine j_lv [0, 1, 2, 3, 4] rfl ?_
        exact hL38 _ 0 (va_cpy (Na 0) (Na 0) 0 174 58) (Nat.lt_succ_self _) (by omega) eqB_cpy (by rw [cp0_214]; exact hs40) (by rw [cp0_uM]; exact hum) (by rw [cp0_214, cp0_uM])
      ·
        refine j_ldc (v := (-1000001 : Int32)) 26 dX6_ahead_24 rfl wd_4_140 ?_
        refine j_iretI dX6_ahead_26 rfl ⟨gLe rfl, gLe rfl, ?_⟩
        have ze : (pM_ahead r b p (Na, Ia, Ns, Is)) = ((-1000001 : Int32), (Na, Ia, Ns, Is)) := by
          exact if_pos (by first | exact Or.inl h5 | exact Or.inr (Or.inl h13) | exact Or.inr (Or.inr h21))
        exact ⟨(Na, Ia, Ns, Is), by rw [ze]; exact ⟨(fun k _ => rfl), ⟨rfl, rfl, rfl, rfl⟩, ⟨rfl, rfl⟩, ⟨rfl, rfl, rfl, rfl, rfl⟩, rfl⟩, congrArg (fun z : Int32 × RS => some (Value.int z.1)) ze.symm, rfl⟩
