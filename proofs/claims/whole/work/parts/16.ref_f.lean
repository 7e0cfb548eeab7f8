theorem all_succ {p : Nat → Prop} {n : Nat} : (∀ k, k < n + 1 → p k) ↔ (∀ k, k < n → p k) ∧ p n := by
  constructor
  · intro h
    exact ⟨fun k hk => h k (by omega), h n (by omega)⟩
  · intro h k hk
    rcases (show k < n ∨ k = n by omega) with q | q
    · exact h.1 k q
    · rw [q]; exact h.2
theorem c_isR (g : gG) (r : Int32) : gCon g mX6_isRow 1 0 0 [.int r] [] (fun rv ws' => rv = some (.int (gB (inR r 8))) ∧ ws' = []) := by
  have h := c_X6_isRow g r
  have e : gB ((0 : Int32) ≤ r ∧ r ≤ (7 : Int32)) = gB (inR r 8) := gB_iff (inR_le (by decide))
  rw [e] at h
  exact h
theorem RI_3 {S : RS} (h : RI S) : S.1 0 1 ≤ 6 ∧ S.1 0 2 ≤ 5 ∧ S.1 0 3 ≤ 8 ∧ S.1 0 0 ≤ 1 := by
  rcases h.1.1 with ⟨h0, h1, h2⟩ | ⟨h0, h1, h2, h3, h4⟩
  · exact ⟨h1.1, h1.2.2.1, h1.2.2.2.1, by omega⟩
  · omega
theorem RI_P {S : RS} (h : RI S) (h2 : 0 < S.1 0 2 ∨ 0 < S.1 0 3 ∨ 0 < S.1 0 1 ∨ ¬ S.1 0 0 = 0) : S.1 0 0 = 1 ∧ okP (S.1 0) ∧ okM (S.1 0) (fun k => S.1 0 (40 + k)) := by
  rcases h.1.1 with q | ⟨h0, h1, h2, h3, h4⟩
  · exact q
  · omega
theorem okM_cnt {P m : Nat → Nat} (h : okM P m) {p : Nat} (hp : p < 6) : m (6 + p) ≤ 9999 := by
  have := h.2.2.1
  unfold cntM at this
  match p, hp with
  | 0, _ => show m 6 ≤ _; omega
  | 1, _ => show m 7 ≤ _; omega
  | 2, _ => show m 8 ≤ _; omega
  | 3, _ => show m 9 ≤ _; omega
  | 4, _ => show m 10 ≤ _; omega
  | 5, _ => show m 11 ≤ _; omega
theorem RI_40 {S : RS} (h : RI S) : S.1 0 40 < 32 ∧ (∀ j, j < 5 → S.1 0 (41 + j) ≤ 9999) ∧ (∀ p, p < 6 → S.1 0 (46 + p) ≤ 9999 ∧ S.1 0 (52 + p) ≤ 989901) ∧ inP (S.1 0) ≤ 9999 := by
  rcases h.1.1 with ⟨h0, h1, h2⟩ | ⟨h0, h1, h2, h3, h4⟩
  · refine ⟨?_, ?_, ?_, ?_⟩
    · have a := h2.1
      have b : 2 ^ S.1 0 2 ≤ 2 ^ 5 := Nat.pow_le_pow_right (by decide) h1.2.2.1
      exact Nat.lt_of_lt_of_le a b
    · intro j hj
      have a : S.1 0 (40 + (1 + j)) ≤ cntM (fun k => S.1 0 (40 + k)) := h2.2.1 j hj
      have b := h2.2.2.1
      rw [show 40 + (1 + j) = 41 + j by omega] at a
      omega
    · intro p hp
      have a : S.1 0 (40 + (12 + p)) ≤ 99 * S.1 0 (40 + (6 + p)) := h2.2.2.2 p hp
      have b : S.1 0 (40 + (6 + p)) ≤ 9999 := okM_cnt h2 hp
      rw [show 40 + (12 + p) = 52 + p by omega, show 40 + (6 + p) = 46 + p by omega] at a
      rw [show 40 + (6 + p) = 46 + p by omega] at b
      omega
    · have b : S.1 0 46 + S.1 0 47 + S.1 0 48 + S.1 0 49 + S.1 0 50 + S.1 0 51 ≤ 9999 := h2.2.2.1
      simp only [inP]
      omega
  · have z : ∀ k, 40 ≤ k → k < 58 → S.1 0 k = 0 := fun k h5 h6 => by
      have := h4 (k - 40) (by omega)
      rw [show 40 + (k - 40) = k by omega] at this
      exact this
    refine ⟨by rw [z 40 (by decide) (by decide)]; decide, fun j hj => by rw [z _ (by omega) (by omega)]; decide, fun p hp => ⟨by rw [z _ (by omega) (by omega)]; decide, by rw [z _ (by omega) (by omega)]; decide⟩, ?_⟩
    simp only [inP, z 46 (by decide) (by decide), z 47 (by decide) (by decide), z 48 (by decide) (by decide), z 49 (by decide) (by decide), z 50 (by decide) (by decide), z 51 (by decide) (by decide)]
    decide
set_option maxRecDepth 20000 in
theorem c_X6_areBeasts (g : gG) (q : Nat → Nat) (Na : Nat → Nat → Nat) (Ia : Nat → Nat → Int32) (Ns : Nat → Nat) (Is : Nat → Int32) (base : Nat) (n : Nat)  (hn : base + n ≤ 320) (h3 : Na 0 3 < 1000000) : gCon g mX6_areBeasts 2 0 0 [.ref (q 26), .int (nI base), .int (nI n)] (wM g q Na Ia Ns Is) (fun rv ws' => rv = some (.int (gB (areB (Ia 9) base n ((Na 0) 3)))) ∧ ws' = (wM g q Na Ia Ns Is)) := by
  refine gCon.of (lv := [(0, .ref (q 26)), (1, .int (nI base)), (2, .int (nI n))]) (by decide) (gLe rfl) rfl ?_
  refine j_iconst (v := (1 : Int32)) 1 dX6_areBeasts_0 rfl (by decide) ?_
  refine j_istore_n 2 [(3, .int (1 : Int32)), (0, .ref (q 26)), (1, .int (nI base)), (2, .int (nI n))] dX6_areBeasts_1 rfl (by decide) rfl ?_
  refine j_iconst (v := (0 : Int32)) 3 dX6_areBeasts_2 rfl (by decide) ?_
  refine j_istore 5 [(4, .int (0 : Int32)), (3, .int (1 : Int32)), (0, .ref (q 26)), (1, .int (nI base)), (2, .int (nI n))] dX6_areBeasts_3 rfl (by decide) rfl ?_
  have hL5 : ∀ (zm5 : Nat) (zi : Nat), n - zi < zm5 → (zi ≤ n) → gJ g mX6_areBeasts 2 0 0 (fun k' j' rv ws' => k' ≤ 0 ∧ j' ≤ 0 ∧ (rv = some (.int (gB (areB (Ia 9) base n ((Na 0) 3)))) ∧ ws' = (wM g q Na Ia Ns Is))) 0 0 5 [(4, .int (nI zi)), (3, .int (gB (∀ k, k < zi → inR (Ia 9 (base + k)) (Na 0 3)))), (0, .ref (q 26)), (1, .int (nI base)), (2, .int (nI n))] [] (wM g q Na Ia Ns Is) := by
    intro zm5
    induction zm5 with
    | zero => intro zi zmh; exact absurd zmh (Nat.not_lt_zero _)
    | succ zm5 zih5 =>
      intro zi zmh5 hz
      refine j_iload 7 dX6_areBeasts_5 rfl 0 rfl ?_
      refine j_iload_n 8 dX6_areBeasts_7 rfl 4 rfl ?_
      refine j_icmp_geN zi n 11 43 dX6_areBeasts_8 rfl rfl (by omega) (by omega) (fun h8 => ?_) (fun h8 => ?_)
      ·
        refine j_iload_n 44 dX6_areBeasts_43 rfl 1 rfl ?_
        refine j_iretB dX6_areBeasts_44 rfl ⟨gLe rfl, gLe rfl, congrArg (fun z => some (Value.int z)) (gB_iff ?_), rfl⟩
        have ye : zi = n := by omega
        subst ye
        exact Iff.rfl
      ·
        refine j_iload_n 12 dX6_areBeasts_11 rfl 1 rfl ?_
        refine j_if_eqB 15 35 dX6_areBeasts_12 rfl rfl (fun h12 => ?_) (fun h12 => ?_)
        ·
          refine j_iconst (v := (0 : Int32)) 36 dX6_areBeasts_35 rfl (by decide) ?_
          refine j_topI (0 : Int32) (gB (∀ k, k < zi + 1 → inR (Ia 9 (base + k)) (Na 0 3))) (gB_f (by first | exact fun q => h12 (all_succ.mp q).1 | exact fun q => h28 (all_succ.mp q).2)).symm ?_
          refine j_istore_n 37 [(3, .int (gB (∀ k, k < zi + 1 → inR (Ia 9 (base + k)) (Na 0 3)))), (4, .int (nI zi)), (0, .ref (q 26)), (1, .int (nI base)), (2, .int (nI n))] dX6_areBeasts_36 rfl (by decide) rfl ?_
          refine j_iincN zi 1 40 [(4, .int (nI (zi + 1))), (3, .int (gB (∀ k, k < zi + 1 → inR (Ia 9 (base + k)) (Na 0 3)))), (0, .ref (q 26)), (1, .int (nI base)), (2, .int (nI n))] dX6_areBeasts_37 rfl 1 rfl (by decide) rfl ?_
          refine j_goto 5 dX6_areBeasts_40 rfl ?_
          refine j_lv [0, 1, 2, 3, 4] rfl ?_
          exact zih5 (zi + 1) (by omega) (by omega)
        ·
          refine j_aload_n 16 dX6_areBeasts_15 rfl 2 rfl ?_
          refine j_aload_n 17 dX6_areBeasts_16 rfl 2 rfl ?_
          refine j_getf 20 0 dX6_areBeasts_17 rfl fd_X6_26 rfl rfl ?_
          refine j_iload_n 21 dX6_areBeasts_20 rfl 3 rfl ?_
          refine j_iload 23 dX6_areBeasts_21 rfl 0 rfl ?_
          refine j_iaddN base zi 24 dX6_areBeasts_23 rfl ?_
          refine j_ialdR (base + zi) 25 6 dX6_areBeasts_24 rfl rfl (by omega) (by decide) ?_
          refine j_callVW (rest := []) 28 (c_X6_isBeast g q Na Ia Ns Is ((Ia 9) (base + zi))  (by first | assumption | omega)) [.int (gB (inR ((Ia 9) (base + zi)) ((Na 0) 3)))] dX6_areBeasts_25 rfl cv_X6_190 rfl rfl 0 rfl rfl (gLe rfl) (gLe rfl) (gLe rfl) (gLe rfl) (wM_len _ _ _ _ _ _ _ _ _ _) rfl ?_
          refine j_if_eqB 31 35 dX6_areBeasts_28 rfl rfl (fun h28 => ?_) (fun h28 => ?_)
          ·
            refine j_iconst (v := (0 : Int32)) 36 dX6_areBeasts_35 rfl (by decide) ?_
            refine j_topI (0 : Int32) (gB (∀ k, k < zi + 1 → inR (Ia 9 (base + k)) (Na 0 3))) (gB_f (by first | exact fun q => h12 (all_succ.mp q).1 | exact fun q => h28 (all_succ.mp q).2)).symm ?_
            refine j_istore_n 37 [(3, .int (gB (∀ k, k < zi + 1 → inR (Ia 9 (base + k)) (Na 0 3)))), (4, .int (nI zi)), (0, .ref (q 26)), (1, .int (nI base)), (2, .int (nI n))] dX6_areBeasts_36 rfl (by decide) rfl ?_
            refine j_iincN zi 1 40 [(4, .int (nI (zi + 1))), (3, .int (gB (∀ k, k < zi + 1 → inR (Ia 9 (base + k)) (Na 0 3)))), (0, .ref (q 26)), (1, .int (nI base)), (2, .int (nI n))] dX6_areBeasts_37 rfl 1 rfl (by decide) rfl ?_
            refine j_goto 5 dX6_areBeasts_40 rfl ?_
            refine j_lv [0, 1, 2, 3, 4] rfl ?_
            exact zih5 (zi + 1) (by omega) (by omega)
          ·
            refine j_iconst (v := (1 : Int32)) 32 dX6_areBeasts_31 rfl (by decide) ?_
            refine j_goto 36 dX6_areBeasts_32 rfl ?_
            refine j_topI (1 : Int32) (gB (∀ k, k < zi + 1 → inR (Ia 9 (base + k)) (Na 0 3))) (gB_t (all_succ.mpr ⟨h12, h28⟩)).symm ?_
            refine j_istore_n 37 [(3, .int (gB (∀ k, k < zi + 1 → inR (Ia 9 (base + k)) (Na 0 3)))), (4, .int (nI zi)), (0, .ref (q 26)), (1, .int (nI base)), (2, .int (nI n))] dX6_areBeasts_36 rfl (by decide) rfl ?_
            refine j_iincN zi 1 40 [(4, .int (nI (zi + 1))), (3, .int (gB (∀ k, k < zi + 1 → inR (Ia 9 (base + k)) (Na 0 3)))), (0, .ref (q 26)), (1, .int (nI base)), (2, .int (nI n))] dX6_areBeasts_37 rfl 1 rfl (by decide) rfl ?_
            refine j_goto 5 dX6_areBeasts_40 rfl ?_
            refine j_lv [0, 1, 2, 3, 4] rfl ?_
            exact zih5 (zi + 1) (by omega) (by omega)
  obtain ⟨zi0, hzi0⟩ : ∃ z : Nat, z = 0 := ⟨0, rfl⟩
  refine j_lvs [(4, .int (nI zi0)), (3, .int (gB (∀ k, k < zi0 → inR (Ia 9 (base + k)) (Na 0 3)))), (0, .ref (q 26)), (1, .int (nI base)), (2, .int (nI n))] (by rw [gB_t (fun k hk => absurd hk (by omega)), hzi0]; rfl) ?_
  refine j_lv [0, 1, 2, 3, 4] rfl ?_
  exact hL5 _ zi0 (Nat.lt_succ_self _) (by omega)
set_option maxRecDepth 20000 in
theorem c_X6_arePairs (g : gG) (q : Nat → Nat) (Na : Nat → Nat → Nat) (Ia : Nat → Nat → Int32) (Ns : Nat → Nat) (Is : Nat → Int32) (base : Nat) (n : Nat)  (hn : base + 2 * n ≤ 320) (h3 : Na 0 3 < 1000000) (h1 : Na 0 1 < 1000000) : gCon g mX6_arePairs 2 0 0 [.ref (q 26), .int (nI base), .int (nI n)] (wM g q Na Ia Ns Is) (fun rv ws' => rv = some (.int (gB (areP (Ia 9) base n ((Na 0) 3) ((Na 0) 1)))) ∧ ws' = (wM g q Na Ia Ns Is)) := by
  refine gCon.of (lv := [(0, .ref (q 26)), (1, .int (nI base)), (2, .int (nI n))]) (by decide) (gLe rfl) rfl ?_
  refine j_iconst (v := (1 : Int32)) 1 dX6_arePairs_0 rfl (by decide) ?_
  refine j_istore_n 2 [(3, .int (1 : Int32)), (0, .ref (q 26)), (1, .int (nI base)), (2, .int (nI n))] dX6_arePairs_1 rfl (by decide) rfl ?_
  refine j_iconst (v := (0 : Int32)) 3 dX6_arePairs_2 rfl (by decide) ?_
  refine j_istore 5 [(4, .int (0 : Int32)), (3, .int (1 : Int32)), (0, .ref (q 26)), (1, .int (nI base)), (2, .int (nI n))] dX6_arePairs_3 rfl (by decide) rfl ?_
  have hL5 : ∀ (zm5 : Nat) (zi : Nat), n - zi < zm5 → (zi ≤ n) → gJ g mX6_arePairs 2 0 0 (fun k' j' rv ws' => k' ≤ 0 ∧ j' ≤ 0 ∧ (rv = some (.int (gB (areP (Ia 9) base n ((Na 0) 3) ((Na 0) 1)))) ∧ ws' = (wM g q Na Ia Ns Is))) 0 0 5 [(4, .int (nI zi)), (3, .int (gB (∀ k, k < zi → inR (Ia 9 (base + 2 * k)) (Na 0 3) ∧ inR (Ia 9 (base + 2 * k + 1)) (Na 0 1)))), (0, .ref (q 26)), (1, .int (nI base)), (2, .int (nI n))] [] (wM g q Na Ia Ns Is) := by
    intro zm5
    induction zm5 with
    | zero => intro zi zmh; exact absurd zmh (Nat.not_lt_zero _)
    | succ zm5 zih5 =>
      intro zi zmh5 hz
      refine j_iload 7 dX6_arePairs_5 rfl 0 rfl ?_
      refine j_iload_n 8 dX6_arePairs_7 rfl 4 rfl ?_
      refine j_icmp_geN zi n 11 65 dX6_arePairs_8 rfl rfl (by omega) (by omega) (fun h8 => ?_) (fun h8 => ?_)
      ·
        refine j_iload_n 66 dX6_arePairs_65 rfl 1 rfl ?_
        refine j_iretB dX6_arePairs_66 rfl ⟨gLe rfl, gLe rfl, congrArg (fun z => some (Value.int z)) (gB_iff ?_), rfl⟩
        have ye : zi = n := by omega
        subst ye
        exact Iff.rfl
      ·
        refine j_iload_n 12 dX6_arePairs_11 rfl 1 rfl ?_
        refine j_if_eqB 15 57 dX6_arePairs_12 rfl rfl (fun h12 => ?_) (fun h12 => ?_)
        ·
          refine j_iconst (v := (0 : Int32)) 58 dX6_arePairs_57 rfl (by decide) ?_
          refine j_topI (0 : Int32) (gB (∀ k, k < zi + 1 → inR (Ia 9 (base + 2 * k)) (Na 0 3) ∧ inR (Ia 9 (base + 2 * k + 1)) (Na 0 1))) (gB_f (by first | exact fun q => h12 (all_succ.mp q).1 | exact fun q => h30 (all_succ.mp q).2.1 | exact fun q => h50 (all_succ.mp q).2.2)).symm ?_
          refine j_istore_n 59 [(3, .int (gB (∀ k, k < zi + 1 → inR (Ia 9 (base + 2 * k)) (Na 0 3) ∧ inR (Ia 9 (base + 2 * k + 1)) (Na 0 1)))), (4, .int (nI zi)), (0, .ref (q 26)), (1, .int (nI base)), (2, .int (nI n))] dX6_arePairs_58 rfl (by decide) rfl ?_
          refine j_iincN zi 1 62 [(4, .int (nI (zi + 1))), (3, .int (gB (∀ k, k < zi + 1 → inR (Ia 9 (base + 2 * k)) (Na 0 3) ∧ inR (Ia 9 (base + 2 * k + 1)) (Na 0 1)))), (0, .ref (q 26)), (1, .int (nI base)), (2, .int (nI n))] dX6_arePairs_59 rfl 1 rfl (by decide) rfl ?_
          refine j_goto 5 dX6_arePairs_62 rfl ?_
          refine j_lv [0, 1, 2, 3, 4] rfl ?_
          exact zih5 (zi + 1) (by omega) (by omega)
        ·
          refine j_aload_n 16 dX6_arePairs_15 rfl 2 rfl ?_
          refine j_aload_n 17 dX6_arePairs_16 rfl 2 rfl ?_
          refine j_getf 20 0 dX6_arePairs_17 rfl fd_X6_26 rfl rfl ?_
          refine j_iload_n 21 dX6_arePairs_20 rfl 3 rfl ?_
          refine j_iconst (v := (2 : Int32)) 22 dX6_arePairs_21 rfl (by decide) ?_
          refine j_iload 24 dX6_arePairs_22 rfl 0 rfl ?_
          refine j_imulN 2 zi 25 dX6_arePairs_24 rfl ?_
          refine j_iaddN base (2 * zi) 26 dX6_arePairs_25 rfl ?_
          refine j_ialdR (base + (2 * zi)) 27 6 dX6_arePairs_26 rfl rfl (by omega) (by decide) ?_
          refine j_callVW (rest := []) 30 (c_X6_isBeast g q Na Ia Ns Is ((Ia 9) (base + (2 * zi)))  (by first | assumption | omega)) [.int (gB (inR ((Ia 9) (base + (2 * zi))) ((Na 0) 3)))] dX6_arePairs_27 rfl cv_X6_190 rfl rfl 0 rfl rfl (gLe rfl) (gLe rfl) (gLe rfl) (gLe rfl) (wM_len _ _ _ _ _ _ _ _ _ _) rfl ?_
          refine j_if_eqB 33 57 dX6_arePairs_30 rfl rfl (fun h30 => ?_) (fun h30 => ?_)
          ·
            refine j_iconst (v := (0 : Int32)) 58 dX6_arePairs_57 rfl (by decide) ?_
            refine j_topI (0 : Int32) (gB (∀ k, k < zi + 1 → inR (Ia 9 (base + 2 * k)) (Na 0 3) ∧ inR (Ia 9 (base + 2 * k + 1)) (Na 0 1))) (gB_f (by first | exact fun q => h12 (all_succ.mp q).1 | exact fun q => h30 (all_succ.mp q).2.1 | exact fun q => h50 (all_succ.mp q).2.2)).symm ?_
            refine j_istore_n 59 [(3, .int (gB (∀ k, k < zi + 1 → inR (Ia 9 (base + 2 * k)) (Na 0 3) ∧ inR (Ia 9 (base + 2 * k + 1)) (Na 0 1)))), (4, .int (nI zi)), (0, .ref (q 26)), (1, .int (nI base)), (2, .int (nI n))] dX6_arePairs_58 rfl (by decide) rfl ?_
            refine j_iincN zi 1 62 [(4, .int (nI (zi + 1))), (3, .int (gB (∀ k, k < zi + 1 → inR (Ia 9 (base + 2 * k)) (Na 0 3) ∧ inR (Ia 9 (base + 2 * k + 1)) (Na 0 1)))), (0, .ref (q 26)), (1, .int (nI base)), (2, .int (nI n))] dX6_arePairs_59 rfl 1 rfl (by decide) rfl ?_
            refine j_goto 5 dX6_arePairs_62 rfl ?_
            refine j_lv [0, 1, 2, 3, 4] rfl ?_
            exact zih5 (zi + 1) (by omega) (by omega)
          ·
            refine j_aload_n 34 dX6_arePairs_33 rfl 2 rfl ?_
            refine j_aload_n 35 dX6_arePairs_34 rfl 2 rfl ?_
            refine j_getf 38 0 dX6_arePairs_35 rfl fd_X6_26 rfl rfl ?_
            refine j_iload_n 39 dX6_arePairs_38 rfl 3 rfl ?_
            refine j_iconst (v := (2 : Int32)) 40 dX6_arePairs_39 rfl (by decide) ?_
            refine j_iload 42 dX6_arePairs_40 rfl 0 rfl ?_
            refine j_imulN 2 zi 43 dX6_arePairs_42 rfl ?_
            refine j_iaddN base (2 * zi) 44 dX6_arePairs_43 rfl ?_
            refine j_iconst (v := (1 : Int32)) 45 dX6_arePairs_44 rfl (by decide) ?_
            refine j_iaddN (base + (2 * zi)) 1 46 dX6_arePairs_45 rfl ?_
            refine j_ialdR ((base + (2 * zi)) + 1) 47 6 dX6_arePairs_46 rfl rfl (by omega) (by decide) ?_
            refine j_callVW (rest := []) 50 (c_X6_isPen g q Na Ia Ns Is ((Ia 9) ((base + (2 * zi)) + 1))  (by first | assumption | omega)) [.int (gB (inR ((Ia 9) ((base + (2 * zi)) + 1)) ((Na 0) 1)))] dX6_arePairs_47 rfl cv_X6_199 rfl rfl 0 rfl rfl (gLe rfl) (gLe rfl) (gLe rfl) (gLe rfl) (wM_len _ _ _ _ _ _ _ _ _ _) rfl ?_
            refine j_if_eqB 53 57 dX6_arePairs_50 rfl rfl (fun h50 => ?_) (fun h50 => ?_)
            ·
              refine j_iconst (v := (0 : Int32)) 58 dX6_arePairs_57 rfl (by decide) ?_
              refine j_topI (0 : Int32) (gB (∀ k, k < zi + 1 → inR (Ia 9 (base + 2 * k)) (Na 0 3) ∧ inR (Ia 9 (base + 2 * k + 1)) (Na 0 1))) (gB_f (by first | exact fun q => h12 (all_succ.mp q).1 | exact fun q => h30 (all_succ.mp q).2.1 | exact fun q => h50 (all_succ.mp q).2.2)).symm ?_
              refine j_istore_n 59 [(3, .int (gB (∀ k, k < zi + 1 → inR (Ia 9 (base + 2 * k)) (Na 0 3) ∧ inR (Ia 9 (base + 2 * k + 1)) (Na 0 1)))), (4, .int (nI zi)), (0, .ref (q 26)), (1, .int (nI base)), (2, .int (nI n))] dX6_arePairs_58 rfl (by decide) rfl ?_
              refine j_iincN zi 1 62 [(4, .int (nI (zi + 1))), (3, .int (gB (∀ k, k < zi + 1 → inR (Ia 9 (base + 2 * k)) (Na 0 3) ∧ inR (Ia 9 (base + 2 * k + 1)) (Na 0 1)))), (0, .ref (q 26)), (1, .int (nI base)), (2, .int (nI n))] dX6_arePairs_59 rfl 1 rfl (by decide) rfl ?_
              refine j_goto 5 dX6_arePairs_62 rfl ?_
              refine j_lv [0, 1, 2, 3, 4] rfl ?_
              exact zih5 (zi + 1) (by omega) (by omega)
            ·
              refine j_iconst (v := (1 : Int32)) 54 dX6_arePairs_53 rfl (by decide) ?_
              refine j_goto 58 dX6_arePairs_54 rfl ?_
              refine j_topI (1 : Int32) (gB (∀ k, k < zi + 1 → inR (Ia 9 (base + 2 * k)) (Na 0 3) ∧ inR (Ia 9 (base + 2 * k + 1)) (Na 0 1))) (gB_t (all_succ.mpr ⟨h12, h30, h50⟩)).symm ?_
              refine j_istore_n 59 [(3, .int (gB (∀ k, k < zi + 1 → inR (Ia 9 (base + 2 * k)) (Na 0 3) ∧ inR (Ia 9 (base + 2 * k + 1)) (Na 0 1)))), (4, .int (nI zi)), (0, .ref (q 26)), (1, .int (nI base)), (2, .int (nI n))] dX6_arePairs_58 rfl (by decide) rfl ?_
              refine j_iincN zi 1 62 [(4, .int (nI (zi + 1))), (3, .int (gB (∀ k, k < zi + 1 → inR (Ia 9 (base + 2 * k)) (Na 0 3) ∧ inR (Ia 9 (base + 2 * k + 1)) (Na 0 1)))), (0, .ref (q 26)), (1, .int (nI base)), (2, .int (nI n))] dX6_arePairs_59 rfl 1 rfl (by decide) rfl ?_
              refine j_goto 5 dX6_arePairs_62 rfl ?_
              refine j_lv [0, 1, 2, 3, 4] rfl ?_
              exact zih5 (zi + 1) (by omega) (by omega)
  obtain ⟨zi0, hzi0⟩ : ∃ z : Nat, z = 0 := ⟨0, rfl⟩
  refine j_lvs [(4, .int (nI zi0)), (3, .int (gB (∀ k, k < zi0 → inR (Ia 9 (base + 2 * k)) (Na 0 3) ∧ inR (Ia 9 (base + 2 * k + 1)) (Na 0 1)))), (0, .ref (q 26)), (1, .int (nI base)), (2, .int (nI n))] (by rw [gB_t (fun k hk => absurd hk (by omega)), hzi0]; rfl) ?_
  refine j_lv [0, 1, 2, 3, 4] rfl ?_
  exact hL5 _ zi0 (Nat.lt_succ_self _) (by omega)
set_option maxRecDepth 20000 in
theorem c_X6_fault (g : gG) (q : Nat → Nat) (Na : Nat → Nat → Nat) (Ia : Nat → Nat → Int32) (Ns : Nat → Nat) (Is : Nat → Int32)  (hI : RI (Na, Ia, Ns, Is)) : gCon g mX6_fault 0 0 0 [.ref (q 26)] (wS g q (Na, Ia, Ns, Is)) (fun rv ws' => rv = some (.int (pM_fault  (Na, Ia, Ns, Is)).1) ∧ ws' = wS g q (pM_fault  (Na, Ia, Ns, Is)).2) := by
  refine gCon.of (lv := [(0, .ref (q 26))]) (by decide) (gLe rfl) rfl ?_
  refine j_ws (wM g q Na Ia Ns Is) rfl ?_
  refine j_aload_n 1 dX6_fault_0 rfl 0 rfl ?_
  refine j_getf 4 0 dX6_fault_1 rfl fd_X6_113 rfl rfl ?_
  refine j_iretI dX6_fault_4 rfl ⟨gLe rfl, gLe rfl, ?_⟩
  have ze : (pM_fault  (Na, Ia, Ns, Is)) = ((nI (Ns 5)), (Na, Ia, Ns, Is)) := by
    rfl
  exact ⟨congrArg (fun z : Int32 × RS => some (Value.int z.1)) ze.symm, congrArg (fun z : Int32 × RS => wS g q z.2) ze.symm⟩
set_option maxRecDepth 20000 in
theorem c_X6_status (g : gG) (q : Nat → Nat) (Na : Nat → Nat → Nat) (Ia : Nat → Nat → Int32) (Ns : Nat → Nat) (Is : Nat → Int32)  (hI : RI (Na, Ia, Ns, Is)) : gCon g mX6_status 0 0 0 [.ref (q 26)] (wS g q (Na, Ia, Ns, Is)) (fun rv ws' => rv = some (.int (pM_status  (Na, Ia, Ns, Is)).1) ∧ ws' = wS g q (pM_status  (Na, Ia, Ns, Is)).2) := by
  refine gCon.of (lv := [(0, .ref (q 26))]) (by decide) (gLe rfl) rfl ?_
  refine j_ws (wM g q Na Ia Ns Is) rfl ?_
  refine j_aload_n 1 dX6_status_0 rfl 0 rfl ?_
  refine j_getf 4 0 dX6_status_1 rfl fd_X6_55 rfl rfl ?_
  refine j_iretI dX6_status_4 rfl ⟨gLe rfl, gLe rfl, ?_⟩
  have ze : (pM_status  (Na, Ia, Ns, Is)) = ((nI (Ns 6)), (Na, Ia, Ns, Is)) := by
    rfl
  exact ⟨congrArg (fun z : Int32 × RS => some (Value.int z.1)) ze.symm, congrArg (fun z : Int32 × RS => wS g q z.2) ze.symm⟩
set_option maxRecDepth 20000 in
theorem c_X6_heavy (g : gG) (q : Nat → Nat) (Na : Nat → Nat → Nat) (Ia : Nat → Nat → Int32) (Ns : Nat → Nat) (Is : Nat → Int32) (b : Int32) (hI : RI (Na, Ia, Ns, Is)) : gCon g mX6_heavy 2 0 0 [.ref (q 26), .int b] (wS g q (Na, Ia, Ns, Is)) (fun rv ws' => rv = some (.int (pM_heavy b (Na, Ia, Ns, Is)).1) ∧ ws' = wS g q (pM_heavy b (Na, Ia, Ns, Is)).2) := by
  refine gCon.of (lv := [(0, .ref (q 26)), (1, .int b)]) (by decide) (gLe rfl) rfl ?_
  refine j_ws (wM g q Na Ia Ns Is) rfl ?_
  have h8 := RI_3 hI
  refine j_aload_n 1 dX6_heavy_0 rfl 0 rfl ?_
  refine j_iload_n 2 dX6_heavy_1 rfl 1 rfl ?_
  refine j_callVW (rest := []) 5 (c_X6_isBeast g q Na Ia Ns Is b  (by have := h8.2.2.1; simp only [] at this; omega)) [.int (gB (inR b ((Na 0) 3)))] dX6_heavy_2 rfl cv_X6_190 rfl rfl 0 rfl rfl (gLe rfl) (gLe rfl) (gLe rfl) (gLe rfl) (wM_len _ _ _ _ _ _ _ _ _ _) rfl ?_
  refine j_if_eqB 8 24 dX6_heavy_5 rfl rfl (fun h5 => ?_) (fun h5 => ?_)
  ·
    refine j_ldc (v := (-1000001 : Int32)) 26 dX6_heavy_24 rfl wd_4_140 ?_
    refine j_iretI dX6_heavy_26 rfl ⟨gLe rfl, gLe rfl, ?_⟩
    have ze : (pM_heavy b (Na, Ia, Ns, Is)) = ((-1000001 : Int32), (Na, Ia, Ns, Is)) := by
      exact if_neg h5
    exact ⟨congrArg (fun z : Int32 × RS => some (Value.int z.1)) ze.symm, congrArg (fun z : Int32 × RS => wS g q z.2) ze.symm⟩
  ·
    obtain ⟨zb, hzb, rfl⟩ := inR_of h5
    refine j_aload_n 9 dX6_heavy_8 rfl 0 rfl ?_
    refine j_getf 12 0 dX6_heavy_9 rfl fd_X6_7 rfl rfl ?_
    refine j_bipush (v := (24 : Int32)) 14 dX6_heavy_12 rfl (by decide) ?_
    refine j_iconst (v := (2 : Int32)) 15 dX6_heavy_14 rfl (by decide) ?_
    refine j_iload_n 16 dX6_heavy_15 rfl 1 rfl ?_
    refine j_imulN 2 zb 17 dX6_heavy_16 rfl ?_
    refine j_iaddN 24 (2 * zb) 18 dX6_heavy_17 rfl ?_
    refine j_iconst (v := (1 : Int32)) 19 dX6_heavy_18 rfl (by decide) ?_
    refine j_iaddN (24 + (2 * zb)) 1 20 dX6_heavy_19 rfl ?_
    refine j_ialdN ((24 + (2 * zb)) + 1) 21 1 dX6_heavy_20 rfl rfl (by have := h8.2.2.1; simp only [] at this; omega) (by decide) ?_
    refine j_goto 26 dX6_heavy_21 rfl ?_
    refine j_iretI dX6_heavy_26 rfl ⟨gLe rfl, gLe rfl, ?_⟩
    have ze : (pM_heavy (nI zb) (Na, Ia, Ns, Is)) = ((nI ((Na 0) ((24 + (2 * zb)) + 1))), (Na, Ia, Ns, Is)) := by
      rw [pM_heavy, if_pos h5, cl_nI (by have := h8.2.2.1; simp only [] at this; omega)]
    exact ⟨congrArg (fun z : Int32 × RS => some (Value.int z.1)) ze.symm, congrArg (fun z : Int32 × RS => wS g q z.2) ze.symm⟩
set_option maxRecDepth 20000 in
theorem c_X6_kind (g : gG) (q : Nat → Nat) (Na : Nat → Nat → Nat) (Ia : Nat → Nat → Int32) (Ns : Nat → Nat) (Is : Nat → Int32) (b : Int32) (hI : RI (Na, Ia, Ns, Is)) : gCon g mX6_kind 2 0 0 [.ref (q 26), .int b] (wS g q (Na, Ia, Ns, Is)) (fun rv ws' => rv = some (.int (pM_kind b (Na, Ia, Ns, Is)).1) ∧ ws' = wS g q (pM_kind b (Na, Ia, Ns, Is)).2) := by
  refine gCon.of (lv := [(0, .ref (q 26)), (1, .int b)]) (by decide) (gLe rfl) rfl ?_
  refine j_ws (wM g q Na Ia Ns Is) rfl ?_
  have h8 := RI_3 hI
  refine j_aload_n 1 dX6_kind_0 rfl 0 rfl ?_
  refine j_iload_n 2 dX6_kind_1 rfl 1 rfl ?_
  refine j_callVW (rest := []) 5 (c_X6_isBeast g q Na Ia Ns Is b  (by have := h8.2.2.1; simp only [] at this; omega)) [.int (gB (inR b ((Na 0) 3)))] dX6_kind_2 rfl cv_X6_190 rfl rfl 0 rfl rfl (gLe rfl) (gLe rfl) (gLe rfl) (gLe rfl) (wM_len _ _ _ _ _ _ _ _ _ _) rfl ?_
  refine j_if_eqB 8 22 dX6_kind_5 rfl rfl (fun h5 => ?_) (fun h5 => ?_)
  ·
    refine j_ldc (v := (-1000001 : Int32)) 24 dX6_kind_22 rfl wd_4_140 ?_
    refine j_iretI dX6_kind_24 rfl ⟨gLe rfl, gLe rfl, ?_⟩
    have ze : (pM_kind b (Na, Ia, Ns, Is)) = ((-1000001 : Int32), (Na, Ia, Ns, Is)) := by
      exact if_neg h5
    exact ⟨congrArg (fun z : Int32 × RS => some (Value.int z.1)) ze.symm, congrArg (fun z : Int32 × RS => wS g q z.2) ze.symm⟩
  ·
    obtain ⟨zb, hzb, rfl⟩ := inR_of h5
    refine j_aload_n 9 dX6_kind_8 rfl 0 rfl ?_
    refine j_getf 12 0 dX6_kind_9 rfl fd_X6_7 rfl rfl ?_
    refine j_bipush (v := (24 : Int32)) 14 dX6_kind_12 rfl (by decide) ?_
    refine j_iconst (v := (2 : Int32)) 15 dX6_kind_14 rfl (by decide) ?_
    refine j_iload_n 16 dX6_kind_15 rfl 1 rfl ?_
    refine j_imulN 2 zb 17 dX6_kind_16 rfl ?_
    refine j_iaddN 24 (2 * zb) 18 dX6_kind_17 rfl ?_
    refine j_ialdN (24 + (2 * zb)) 19 1 dX6_kind_18 rfl rfl (by have := h8.2.2.1; simp only [] at this; omega) (by decide) ?_
    refine j_goto 24 dX6_kind_19 rfl ?_
    refine j_iretI dX6_kind_24 rfl ⟨gLe rfl, gLe rfl, ?_⟩
    have ze : (pM_kind (nI zb) (Na, Ia, Ns, Is)) = ((nI ((Na 0) (24 + (2 * zb)))), (Na, Ia, Ns, Is)) := by
      rw [pM_kind, if_pos h5, cl_nI (by have := h8.2.2.1; simp only [] at this; omega)]
    exact ⟨congrArg (fun z : Int32 × RS => some (Value.int z.1)) ze.symm, congrArg (fun z : Int32 × RS => wS g q z.2) ze.symm⟩
