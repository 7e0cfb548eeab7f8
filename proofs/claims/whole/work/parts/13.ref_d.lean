set_option maxRecDepth 20000 in
theorem c_X6_go (g : gG) (q : Nat → Nat) (Na : Nat → Nat → Nat) (Ia : Nat → Nat → Int32) (Ns : Nat → Nat) (Is : Nat → Int32) (base : Nat) (b : Nat) (sk : Nat) (hs : Is 12 = skI sk) (hP : okP (Na 0)) (hb : base = 0 ∨ base = 174) (hS : Na 0 (base + 40) < 32) (hU : ∀ k, uM (Na 0) base k ≤ 1000000000) (hB : b < Na 0 3) : gCon g mX6_go 3 0 0 [.ref (q 26), .int (nI base), .int (nI b)] (wM g q Na Ia Ns Is) (fun rv ws' => rv = some (.int (nI ((goA (Na 0) sk ((Na 0) (24 + 2 * b)) 5 ((Na 0) 2 - 1) ((Na 0) (base + 40)) (uM (Na 0) base)).1))) ∧ ws' = (wM g q (va_up Na 0 (putM (Na 0) base (goA (Na 0) sk ((Na 0) (24 + 2 * b)) 5 ((Na 0) 2 - 1) ((Na 0) (base + 40)) (uM (Na 0) base)).2.1 (goA (Na 0) sk ((Na 0) (24 + 2 * b)) 5 ((Na 0) 2 - 1) ((Na 0) (base + 40)) (uM (Na 0) base)).2.2)) Ia Ns Is)) := by
  refine gCon.of (lv := [(0, .ref (q 26)), (1, .int (nI base)), (2, .int (nI b))]) (by decide) (gLe rfl) rfl ?_
  obtain ⟨hp1, hp2, hp3, hp4, hp5, hp6⟩ := id hP
  have hkd := okP_k hP hB
  refine j_aload_n 1 dX6_go_0 rfl 0 rfl ?_
  refine j_getf 4 0 dX6_go_1 rfl fd_X6_7 rfl rfl ?_
  refine j_iconst (v := (2 : Int32)) 5 dX6_go_4 rfl (by decide) ?_
  refine j_ialdN 2 6 1 dX6_go_5 rfl rfl (by decide) (by decide) ?_
  refine j_iconst (v := (1 : Int32)) 7 dX6_go_6 rfl (by decide) ?_
  refine j_isubN ((Na 0) 2) 1 8 dX6_go_7 rfl hp2 ?_
  refine j_istore_n 9 [(3, .int (nI (((Na 0) 2) - 1))), (0, .ref (q 26)), (1, .int (nI base)), (2, .int (nI b))] dX6_go_8 rfl (by decide) rfl ?_
  refine j_bipush (v := (10 : Int32)) 11 dX6_go_9 rfl (by decide) ?_
  refine j_iload_n 12 dX6_go_11 rfl 0 rfl ?_
  refine j_iaddN 10 (((Na 0) 2) - 1) 13 dX6_go_12 rfl ?_
  refine j_istore 15 [(4, .int (nI (10 + (((Na 0) 2) - 1)))), (3, .int (nI (((Na 0) 2) - 1))), (0, .ref (q 26)), (1, .int (nI base)), (2, .int (nI b))] dX6_go_13 rfl (by decide) rfl ?_
  have hL15 : ∀ (zm15 : Nat) (zw : Nat) (zh : Nat) (zs : Nat) (zu : Nat → Nat), zw < zm15 → (zw < 20) → (zw < 10 → goA (Na 0) sk (Na 0 (24 + 2 * b)) 5 (Na 0 2 - 1) (Na 0 (base + 40)) (uM (Na 0) base) = (zw, zs, zu)) → (10 ≤ zw → zw - 10 < Na 0 2 ∧ goA (Na 0) sk (Na 0 (24 + 2 * b)) (zw - 10 + 1) (zw - 10) zs zu = goA (Na 0) sk (Na 0 (24 + 2 * b)) 5 (Na 0 2 - 1) (Na 0 (base + 40)) (uM (Na 0) base)) → (zs < 32) → (Z5 zu) → (∀ k, zu k + zw ≤ 1000000020) → gJ g mX6_go 3 0 0 (fun k' j' rv ws' => k' ≤ 0 ∧ j' ≤ 0 ∧ (rv = some (.int (nI ((goA (Na 0) sk ((Na 0) (24 + 2 * b)) 5 ((Na 0) 2 - 1) ((Na 0) (base + 40)) (uM (Na 0) base)).1))) ∧ ws' = (wM g q (va_up Na 0 (putM (Na 0) base (goA (Na 0) sk ((Na 0) (24 + 2 * b)) 5 ((Na 0) 2 - 1) ((Na 0) (base + 40)) (uM (Na 0) base)).2.1 (goA (Na 0) sk ((Na 0) (24 + 2 * b)) 5 ((Na 0) 2 - 1) ((Na 0) (base + 40)) (uM (Na 0) base)).2.2)) Ia Ns Is))) 0 0 15 [(4, .int (nI zw)), (3, .int (nI zh)), (0, .ref (q 26)), (1, .int (nI base)), (2, .int (nI b))] [] (wM g q (va_up Na 0 (putM (Na 0) base zs zu)) Ia Ns Is) := by
    intro zm15
    induction zm15 with
    | zero => intro zw zh zs zu zmh; exact absurd zmh (Nat.not_lt_zero _)
    | succ zm15 zih15 =>
      intro zw zh zs zu zmh15 hzw hz1 hz2 hz3 hz4 hz5
      refine j_iload 17 dX6_go_15 rfl 0 rfl ?_
      refine j_bipush (v := (10 : Int32)) 19 dX6_go_17 rfl (by decide) ?_
      refine j_icmp_ltN zw 10 22 61 dX6_go_19 rfl rfl (by have z0 := hzw; omega) (by decide) (fun h19 => ?_) (fun h19 => ?_)
      ·
        refine j_iload 63 dX6_go_61 rfl 0 rfl ?_
        refine j_iretI dX6_go_63 rfl ⟨gLe rfl, gLe rfl, ?_⟩
        have hG := hz1 h19
        exact ⟨by rw [hG], by rw [hG]⟩
      ·
        obtain ⟨hh, hg⟩ := hz2 (by omega)
        have h5 := okP_5 hP hh
        refine j_iload 24 dX6_go_22 rfl 0 rfl ?_
        refine j_bipush (v := (10 : Int32)) 26 dX6_go_24 rfl (by decide) ?_
        refine j_isubN zw 10 27 dX6_go_26 rfl (by omega) ?_
        refine j_istore_n 28 [(3, .int (nI (zw - 10))), (4, .int (nI zw)), (0, .ref (q 26)), (1, .int (nI base)), (2, .int (nI b))] dX6_go_27 rfl (by decide) rfl ?_
        refine j_aload_n 29 dX6_go_28 rfl 2 rfl ?_
        refine j_getf 32 0 dX6_go_29 rfl fd_X6_7 rfl rfl ?_
        refine j_iconst (v := (4 : Int32)) 33 dX6_go_32 rfl (by decide) ?_
        refine j_iconst (v := (4 : Int32)) 34 dX6_go_33 rfl (by decide) ?_
        refine j_iload_n 35 dX6_go_34 rfl 0 rfl ?_
        refine j_imulN 4 (zw - 10) 36 dX6_go_35 rfl ?_
        refine j_iaddN 4 (4 * (zw - 10)) 37 dX6_go_36 rfl ?_
        refine j_aload_n 38 dX6_go_37 rfl 2 rfl ?_
        refine j_iload_n 39 dX6_go_38 rfl 3 rfl ?_
        refine j_iload_n 40 dX6_go_39 rfl 0 rfl ?_
        refine j_aload_n 41 dX6_go_40 rfl 2 rfl ?_
        refine j_getf 44 0 dX6_go_41 rfl fd_X6_7 rfl rfl ?_
        refine j_bipush (v := (24 : Int32)) 46 dX6_go_44 rfl (by decide) ?_
        refine j_iconst (v := (2 : Int32)) 47 dX6_go_46 rfl (by decide) ?_
        refine j_iload_n 48 dX6_go_47 rfl 4 rfl ?_
        refine j_imulN 2 b 49 dX6_go_48 rfl ?_
        refine j_iaddN 24 (2 * b) 50 dX6_go_49 rfl ?_
        refine j_ialdN (24 + (2 * b)) 51 1 dX6_go_50 rfl rfl (by omega) (by decide) ?_
        refine j_topN ((putM (Na 0) base zs zu) (24 + (2 * b))) (Na 0 (24 + 2 * b)) (putM_lo (by omega)) ?_
        refine j_callVW (rest := [.int (nI (4 + (4 * (zw - 10)))), .ref (q 0)]) 54 (c_X6_pass g q (va_up Na 0 (putM (Na 0) base zs zu)) Ia Ns Is base (zw - 10) (Na 0 (24 + 2 * b)) sk hs (okP_eq eqP_put hP) hb (by show zw - 10 < putM (Na 0) base zs zu 2; rw [putM_lo (by omega)]; exact hh) (by show putM (Na 0) base zs zu (base + 41 + (zw - 10)) < _; rw [putM_pu h5]; have := hz5 (zw - 10); omega) (by show putM (Na 0) base zs zu (base + 40) < _; rw [putM_at]; exact hz3) hkd.2) [.int (nI (toA (putM (Na 0) base zs zu) sk (Na 0 (24 + 2 * b)) (zw - 10) ((putM (Na 0) base zs zu) (base + 40)))), .int (nI (4 + (4 * (zw - 10)))), .ref (q 0)] dX6_go_51 rfl cv_X6_180 rfl rfl 0 rfl rfl (gLe rfl) (gLe rfl) (gLe rfl) (gLe rfl) (wM_len _ _ _ _ _ _ _ _ _ _) rfl ?_
        refine j_topN (toA (putM (Na 0) base zs zu) sk (Na 0 (24 + 2 * b)) (zw - 10) ((putM (Na 0) base zs zu) (base + 40))) (toA (Na 0) sk (Na 0 (24 + 2 * b)) (zw - 10) zs) (by show toA (putM (Na 0) base zs zu) sk _ _ (putM (Na 0) base zs zu (base + 40)) = _; rw [putM_at, toA_eq eqP_put h5]) ?_
        refine j_ws (wM g q (va_up Na 0 (putM (Na 0) base (stA (Na 0) sk (Na 0 (24 + 2 * b)) (zw - 10) zs zu) (pushA (Na 0 (24 + 2 * b)) (zw - 10) zu))) Ia Ns Is) (congrArg (fun z => wM g q (va_up Na 0 z) Ia Ns Is) (passR_put hP hh hz4)) ?_
        refine j_iaddN (4 + (4 * (zw - 10))) (toA (Na 0) sk (Na 0 (24 + 2 * b)) (zw - 10) zs) 55 dX6_go_54 rfl ?_
        refine j_ialdN ((4 + (4 * (zw - 10))) + (toA (Na 0) sk (Na 0 (24 + 2 * b)) (zw - 10) zs)) 56 1 dX6_go_55 rfl rfl (by have z0 := hzw; have z1 := (toA_le : toA (Na 0) sk (Na 0 (24 + 2 * b)) (zw - 10) zs ≤ 1); omega) (by decide) ?_
        refine j_topN ((putM (Na 0) base (stA (Na 0) sk (Na 0 (24 + 2 * b)) (zw - 10) zs zu) (pushA (Na 0 (24 + 2 * b)) (zw - 10) zu)) ((4 + (4 * (zw - 10))) + (toA (Na 0) sk (Na 0 (24 + 2 * b)) (zw - 10) zs))) (Na 0 (4 + 4 * (zw - 10) + toA (Na 0) sk (Na 0 (24 + 2 * b)) (zw - 10) zs)) (putM_lo (by have : toA (Na 0) sk (Na 0 (24 + 2 * b)) (zw - 10) zs ≤ 1 := toA_le; omega)) ?_
        have hway := wayA_lt hP (sk := sk) (kd := Na 0 (24 + 2 * b)) (s := zs) hh
        refine j_istore 58 [(4, .int (nI (Na 0 (4 + 4 * (zw - 10) + toA (Na 0) sk (Na 0 (24 + 2 * b)) (zw - 10) zs)))), (3, .int (nI (zw - 10))), (0, .ref (q 26)), (1, .int (nI base)), (2, .int (nI b))] dX6_go_56 rfl (by decide) rfl ?_
        refine j_goto 15 dX6_go_58 rfl ?_
        refine j_lv [0, 1, 2, 3, 4] rfl ?_
        exact zih15 (Na 0 (4 + 4 * (zw - 10) + toA (Na 0) sk (Na 0 (24 + 2 * b)) (zw - 10) zs)) (zw - 10) (stA (Na 0) sk (Na 0 (24 + 2 * b)) (zw - 10) zs zu) (pushA (Na 0 (24 + 2 * b)) (zw - 10) zu) (by omega) (by omega) (fun hlt => by rw [← hg, goA_s1 hlt]) (fun hge => ⟨by omega, by rw [← hg]; exact (goA_fuel hP _ _ _ _ _ (by omega) (by omega) (by omega)).trans (goA_s2 (by omega)).symm⟩) (stA_lt (okP_5 hP hh) (okP_t hP hh) hz3) (Z5_push (okP_5 hP hh) hz4) (fun k => by have := pushA_le (kd := Na 0 (24 + 2 * b)) (h := zw - 10) (u := zu) (B := 1000000020 - zw) (fun k => by have := hz5 k; omega) k; omega)
  refine j_ws (wM g q (va_up Na 0 (putM (Na 0) base (Na 0 (base + 40)) (uM (Na 0) base))) Ia Ns Is) (by rw [putM_idu]; rfl) ?_
  refine j_lv [0, 1, 2, 3, 4] rfl ?_
  exact hL15 _ (10 + (Na 0 2 - 1)) (Na 0 2 - 1) (Na 0 (base + 40)) (uM (Na 0) base) (Nat.lt_succ_self _) (by omega) (by omega) (fun _ => ⟨by omega, by rw [show 10 + (Na 0 2 - 1) - 10 = Na 0 2 - 1 by omega]; exact goA_fuel hP _ _ _ _ _ (by omega) (by omega) (by omega)⟩) hS (Z5_uM _ _) (fun k => by have := hU k; omega)
