def sonF (F : Nat → Int32) (Q : Nat → Nat) (s : Nat) : Nat → Nat → Int32
  | 0, _ => -1000000
  | f + 1, i => if Q i % 32 = s then F (Q i) else sonF F Q s f (i + 1)
def cmN (st : QS) : Nat → Nat
  | 0 => 0
  | s + 1 => cmN st s + (if sonF st.1 st.2.1 s st.2.2 0 = -1000000 then 0 else 1)
theorem cmN_le (st : QS) : ∀ s, cmN st s ≤ s
  | 0 => Nat.le_refl 0
  | s + 1 => by
    have h := cmN_le st s
    show cmN st s + _ ≤ s + 1
    split <;> omega
/-- the search is through -/
def bfsE (R : Nat → Nat) (F0 : Nat → Int32) (Q0 : Nat → Nat) (K : Nat) : Prop := runQ R (q0 R F0 Q0) K ∧ (outQ R (q0 R F0 Q0) K).2.2 = K
def rM_comes (S : RS) (z : Int32) : Prop := if S.1 0 0 = 0 then z = -1000002 else ∃ (F0 : Nat → Int32) (Q0 : Nat → Nat) (K : Nat), bfsE (S.1 0) F0 Q0 K ∧ z = nI (cmN (outQ (S.1 0) (q0 (S.1 0) F0 Q0) K) (2 ^ S.1 0 2))
def aS (R : Nat → Nat) (b s0 : Nat) : Nat → Nat
  | 0 => s0
  | i + 1 => nxN R (aS R b s0 i) b
def rM_round (b what : Int32) (S : RS) (z : Int32) : Prop :=
  if ¬ inR b (S.1 0 3) ∨ ¬ inR what 2 then z = -1000001 else ∃ t n : Nat, t < n ∧ n ≤ 7776 ∧ (∀ i j, i < j → j < n → aS (S.1 0) (cl b) (numA (S.1 0) (S.1 0 40) (uM (S.1 0) 0)) i ≠ aS (S.1 0) (cl b) (numA (S.1 0) (S.1 0 40) (uM (S.1 0) 0)) j) ∧ aS (S.1 0) (cl b) (numA (S.1 0) (S.1 0 40) (uM (S.1 0) 0)) n = aS (S.1 0) (cl b) (numA (S.1 0) (S.1 0 40) (uM (S.1 0) 0)) t ∧ z = if cl what = 0 then nI t else nI n - nI t
theorem aS_ok {R : Nat → Nat} (hP : okP R) {b s0 : Nat} (h0 : s0 < 7776) (hs : s0 % 32 < 2 ^ R 2) : ∀ i, aS R b s0 i < 7776 ∧ aS R b s0 i % 32 < 2 ^ R 2
  | 0 => ⟨h0, hs⟩
  | i + 1 => nxN_ok hP (aS_ok hP h0 hs i).2
theorem numA_mod {R u : Nat → Nat} {s : Nat} (h : s < 32) : numA R s u % 32 = s := by
  show (32 * numD R u 5 + s) % 32 = s
  omega
theorem rnd_F {A : Nat → Nat} {F : Nat → Int32} {n : Nat} (hn : n < 100000) (hF : ∀ t, t < n → F (A t) = nI t) (h9 : F (A n) = -1000000) : ∀ t, t < n + 1 → upd F (A n) (nI n) (A t) = nI t := by
  intro t ht
  show (if A t = A n then nI n else F (A t)) = nI t
  by_cases y : A t = A n
  · rw [if_pos y]
    rcases (show t < n ∨ t = n by omega) with y2 | y2
    · exact absurd ((hF t y2).symm.trans (by rw [y]; exact h9)) (nI_nN (by omega))
    · rw [y2]
  · rw [if_neg y]
    rcases (show t < n ∨ t = n by omega) with y2 | y2
    · exact hF t y2
    · rw [y2] at y; exact absurd rfl y
theorem rnd_N {A : Nat → Nat} {F : Nat → Int32} {n : Nat} (hN : ∀ x, x < 7776 → F x = -1000000 ∨ ∃ t, t < n ∧ A t = x) : ∀ x, x < 7776 → upd F (A n) (nI n) x = -1000000 ∨ ∃ t, t < n + 1 ∧ A t = x := by
  intro x hx
  by_cases y : x = A n
  · exact Or.inr ⟨n, Nat.lt_succ_self _, y.symm⟩
  · rcases hN x hx with y2 | ⟨t, ht, y2⟩
    · exact Or.inl (by show (if x = A n then nI n else F x) = _; rw [if_neg y]; exact y2)
    · exact Or.inr ⟨t, Nat.lt_succ_of_lt ht, y2⟩
theorem rnd_C {A : Nat → Nat} {F : Nat → Int32} {n : Nat} (hn : n < 100000) (h9 : F (A n) = -1000000) (ha : A n < 7776) (hC : n + cN F 7776 = 7776) : n + 1 + cN (upd F (A n) (nI n)) 7776 = 7776 := by
  have y := cN_up (v := nI n) (nI_nN (by omega)) h9 7776
  rw [if_pos ha] at y
  omega
theorem nI_inj {a b : Nat} (ha : a < 100000) (hb : b < 100000) (h : nI a = nI b) : a = b := (nI_eq (by omega) (by omega)).mp h
set_option maxRecDepth 20000 in
theorem c_X6_soonest (g : gG) (q : Nat → Nat) (Na : Nat → Nat → Nat) (Ia : Nat → Nat → Int32) (Ns : Nat → Nat) (Is : Nat → Int32) (s : Nat) (zH : Nat) (hq : okQ zH (Ia 21, Na 22, Ns 23)) (hs : s < 1000) : gCon g mX6_soonest 0 0 0 [.ref (q 26), .int (nI s)] (wM g q Na Ia Ns Is) (fun rv ws' => rv = some (.int (sonF (Ia 21) (Na 22) s (Ns 23) 0)) ∧ ws' = (wM g q Na Ia Ns Is)) := by
  refine gCon.of (lv := [(0, .ref (q 26)), (1, .int (nI s))]) (by decide) (gLe rfl) rfl ?_
  have hm : Ns 23 + cN (Ia 21) 7776 = 7776 := hq.1
  have hqi : ∀ i, i < Ns 23 → Na 22 i < 7776 := fun i hi => (hq.2.1 i hi).1
  refine j_iconst (v := (0 : Int32)) 1 dX6_soonest_0 rfl (by decide) ?_
  refine j_istore_n 2 [(2, .int (0 : Int32)), (0, .ref (q 26)), (1, .int (nI s))] dX6_soonest_1 rfl (by decide) rfl ?_
  have hL2 : ∀ (zm2 : Nat) (zi : Nat), Ns 23 - zi < zm2 → (zi ≤ Ns 23) → (sonF (Ia 21) (Na 22) s (Ns 23 - zi) zi = sonF (Ia 21) (Na 22) s (Ns 23) 0) → gJ g mX6_soonest 0 0 0 (fun k' j' rv ws' => k' ≤ 0 ∧ j' ≤ 0 ∧ (rv = some (.int (sonF (Ia 21) (Na 22) s (Ns 23) 0)) ∧ ws' = (wM g q Na Ia Ns Is))) 0 0 2 [(2, .int (nI zi)), (0, .ref (q 26)), (1, .int (nI s))] [] (wM g q Na Ia Ns Is) := by
    intro zm2
    induction zm2 with
    | zero => intro zi zmh; exact absurd zmh (Nat.not_lt_zero _)
    | succ zm2 zih2 =>
      intro zi zmh2 hz hzs
      refine j_iload_n 3 dX6_soonest_2 rfl 0 rfl ?_
      refine j_aload_n 4 dX6_soonest_3 rfl 1 rfl ?_
      refine j_getf 7 0 dX6_soonest_4 rfl fd_X6_233 rfl rfl ?_
      refine j_icmp_geN zi (Ns 23) 10 41 dX6_soonest_7 rfl rfl (by omega) (by have z0 := hm; omega) (fun h7 => ?_) (fun h7 => ?_)
      ·
        refine j_ldc (v := (-1000000 : Int32)) 43 dX6_soonest_41 rfl wd_4_47 ?_
        refine j_iretI dX6_soonest_43 rfl ⟨gLe rfl, gLe rfl, ?_⟩
        exact ⟨by rw [← hzs, show Ns 23 - zi = 0 by omega, sonF], rfl⟩
      ·
        have hy := hqi zi (by omega)
        refine j_aload_n 11 dX6_soonest_10 rfl 1 rfl ?_
        refine j_getf 14 0 dX6_soonest_11 rfl fd_X6_45 rfl rfl ?_
        refine j_iload_n 15 dX6_soonest_14 rfl 0 rfl ?_
        refine j_ialdN zi 16 11 dX6_soonest_15 rfl rfl (by omega) (by decide) ?_
        refine j_bipush (v := (32 : Int32)) 18 dX6_soonest_16 rfl (by decide) ?_
        refine j_iremN ((Na 22) zi) 32 19 dX6_soonest_18 rfl (by have z0 := hy; omega) (by decide) (by decide) ?_
        refine j_iload_n 20 dX6_soonest_19 rfl 2 rfl ?_
        refine j_icmp_neN (((Na 22) zi) % 32) s 23 35 dX6_soonest_20 rfl rfl (by have z0 := hy; omega) (by omega) (fun h20 => ?_) (fun h20 => ?_)
        ·
          refine j_iincN zi 1 38 [(2, .int (nI (zi + 1))), (0, .ref (q 26)), (1, .int (nI s))] dX6_soonest_35 rfl 0 rfl (by decide) rfl ?_
          refine j_goto 2 dX6_soonest_38 rfl ?_
          refine j_lv [0, 1, 2] rfl ?_
          exact zih2 (zi + 1) (by omega) (by omega) (by rw [← hzs, show Ns 23 - zi = Ns 23 - (zi + 1) + 1 by omega, sonF, if_neg h20])
        ·
          refine j_aload_n 24 dX6_soonest_23 rfl 1 rfl ?_
          refine j_getf 27 0 dX6_soonest_24 rfl fd_X6_42 rfl rfl ?_
          refine j_aload_n 28 dX6_soonest_27 rfl 1 rfl ?_
          refine j_getf 31 0 dX6_soonest_28 rfl fd_X6_45 rfl rfl ?_
          refine j_iload_n 32 dX6_soonest_31 rfl 0 rfl ?_
          refine j_ialdN zi 33 11 dX6_soonest_32 rfl rfl (by omega) (by decide) ?_
          refine j_ialdR ((Na 22) zi) 34 10 dX6_soonest_33 rfl rfl hy (by decide) ?_
          refine j_iretI dX6_soonest_34 rfl ⟨gLe rfl, gLe rfl, ?_⟩
          exact ⟨by rw [← hzs, show Ns 23 - zi = Ns 23 - (zi + 1) + 1 by omega, sonF, if_pos h20], rfl⟩
  refine j_lv [0, 1, 2] rfl ?_
  exact hL2 _ 0 (Nat.lt_succ_self _) (Nat.zero_le _) rfl
set_option maxRecDepth 20000 in
theorem c_X6_comes (g : gG) (q : Nat → Nat) (Na : Nat → Nat → Nat) (Ia : Nat → Nat → Int32) (Ns : Nat → Nat) (Is : Nat → Int32)  (hI : RI (Na, Ia, Ns, Is)) : gCon g mX6_comes 6 0 0 [.ref (q 26)] (wS g q (Na, Ia, Ns, Is)) (fun rv ws' => ∃ (S9 : RS) (z9 : Int32), Gq S9 (Na, Ia, Ns, Is) ∧ (rM_comes  (Na, Ia, Ns, Is)) z9 ∧ rv = some (.int z9) ∧ ws' = wS g q S9) := by
  refine gCon.of (lv := [(0, .ref (q 26))]) (by decide) (gLe rfl) rfl ?_
  refine j_ws (wM g q Na Ia Ns Is) rfl ?_
  have h8 : Na 0 1 ≤ 6 ∧ Na 0 2 ≤ 5 ∧ Na 0 3 ≤ 8 ∧ Na 0 0 ≤ 1 := RI_3 hI
  have h40 : Na 0 40 < 32 ∧ (∀ j, j < 5 → Na 0 (41 + j) ≤ 9999) ∧ (∀ p, p < 6 → Na 0 (46 + p) ≤ 9999 ∧ Na 0 (52 + p) ≤ 989901) ∧ inP (Na 0) ≤ 9999 := RI_40 hI
  have hpm : Ns 2 ≤ 24 := hI.2.1
  have hsz : ∀ r, r < 8 → Na 8 r ≤ 40 := hI.2.2.2.2.2.2.2.1
  have htr : Ns 11 ≤ 16 := hI.2.2.2.2.2.2.2.2.1
  have hst : Is 12 = -1000000 := hI.2.2.2.2.2.2.2.2.2.1
  have htp : Ns 4 ≤ 400 := hI.2.2.2.2.1
  refine j_aload_n 1 dX6_comes_0 rfl 0 rfl ?_
  refine j_getf 4 0 dX6_comes_1 rfl fd_X6_7 rfl rfl ?_
  refine j_iconst (v := (0 : Int32)) 5 dX6_comes_4 rfl (by decide) ?_
  refine j_ialdN 0 6 1 dX6_comes_5 rfl rfl (by decide) (by decide) ?_
  refine j_if_neN ((Na 0) 0) 9 12 dX6_comes_6 rfl rfl (by have z0 := h8.2.2.2; omega) (fun h6 => ?_) (fun h6 => ?_)
  ·
    have hq1 := RI_P hI (Or.inr (Or.inr (Or.inr h6)))
    have hokp : okP (Na 0) := hq1.2.1
    have hs40 : Na 0 40 < 2 ^ Na 0 2 := hq1.2.2.1
    have hum : ∀ k, uM (Na 0) 0 k ≤ 9999 := by
      intro k
      by_cases hk : k < 5
      · rw [uM_at hk, show 0 + 41 + k = 41 + k by omega]; exact h40.2.1 k hk
      · rw [Z5_uM _ _ k (by omega)]; exact Nat.zero_le _
    have hp32 : 2 ^ Na 0 2 ≤ 2 ^ 5 := Nat.pow_le_pow_right (by decide) h8.2.1
    refine j_aload_n 13 dX6_comes_12 rfl 0 rfl ?_
    refine j_callVX (rest := []) 16 (c_X6_layFars g q Na Ia Ns Is   hst hokp hs40 hum) dX6_comes_13 rfl cv_X6_251 rfl rfl 0 rfl rfl (gLe rfl) (gLe rfl) (gLe rfl) (gLe rfl) (fun rv w1 hp => ?_)
    obtain ⟨Z1_1, ZK_1, hZ1_1, hZK_1, hZM_1, rfl, rfl⟩ := hp
    refine ⟨(wM_len _ _ _ _ _ _ _ _ _ _), ?_⟩
    refine j_eq (lv2 := [(0, .ref (q 26))]) (st2 := []) (ws2 := (wM g q (va_up (va_up Na 0 Z1_1) 22 ((outQ (Na 0) (q0 (Na 0) (Ia 21) (Na 22)) ZK_1).2.1)) (va_up Ia 21 ((outQ (Na 0) (q0 (Na 0) (Ia 21) (Na 22)) ZK_1).1)) (va_up Ns 23 ((outQ (Na 0) (q0 (Na 0) (Ia 21) (Na 22)) ZK_1).2.2)) Is)) rfl rfl rfl ?_
    have hokq := outQ_ok hokp (q0_ok hokp hs40) ZK_1 hZK_1
    refine j_iconst (v := (0 : Int32)) 17 dX6_comes_16 rfl (by decide) ?_
    refine j_istore_n 18 [(1, .int (0 : Int32)), (0, .ref (q 26))] dX6_comes_17 rfl (by decide) rfl ?_
    refine j_iconst (v := (0 : Int32)) 19 dX6_comes_18 rfl (by decide) ?_
    refine j_istore_n 20 [(2, .int (0 : Int32)), (1, .int (0 : Int32)), (0, .ref (q 26))] dX6_comes_19 rfl (by decide) rfl ?_
    have hL20 : ∀ (zm20 : Nat) (zi : Nat), 33 - zi < zm20 → (zi ≤ 2 ^ Na 0 2) → gJ g mX6_comes 6 0 0 (fun k' j' rv ws' => k' ≤ 0 ∧ j' ≤ 0 ∧ (∃ (S9 : RS) (z9 : Int32), Gq S9 (Na, Ia, Ns, Is) ∧ (rM_comes  (Na, Ia, Ns, Is)) z9 ∧ rv = some (.int z9) ∧ ws' = wS g q S9)) 0 0 20 [(2, .int (nI zi)), (1, .int (nI (cmN (outQ (Na 0) (q0 (Na 0) (Ia 21) (Na 22)) ZK_1) zi))), (0, .ref (q 26))] [] (wM g q (va_up (va_up Na 0 Z1_1) 22 ((outQ (Na 0) (q0 (Na 0) (Ia 21) (Na 22)) ZK_1).2.1)) (va_up Ia 21 ((outQ (Na 0) (q0 (Na 0) (Ia 21) (Na 22)) ZK_1).1)) (va_up Ns 23 ((outQ (Na 0) (q0 (Na 0) (Ia 21) (Na 22)) ZK_1).2.2)) Is) := by
      intro zm20
      induction zm20 with
      | zero => intro zi zmh; exact absurd zmh (Nat.not_lt_zero _)
      | succ zm20 zih20 =>
        intro zi zmh20 hz
        refine j_aload_n 21 dX6_comes_20 rfl 2 rfl ?_
        refine j_iload_n 22 dX6_comes_21 rfl 0 rfl ?_
        refine j_callVW (rest := []) 25 (c_X6_areStands g q (va_up (va_up Na 0 Z1_1) 22 ((outQ (Na 0) (q0 (Na 0) (Ia 21) (Na 22)) ZK_1).2.1)) (va_up Ia 21 ((outQ (Na 0) (q0 (Na 0) (Ia 21) (Na 22)) ZK_1).1)) (va_up Ns 23 ((outQ (Na 0) (q0 (Na 0) (Ia 21) (Na 22)) ZK_1).2.2)) Is (nI zi)  (by show Z1_1 2 ≤ 5; rw [hZ1_1 2 (by decide)]; exact h8.2.1)) [.int (gB (inR (nI zi) (2 ^ Z1_1 2)))] dX6_comes_22 rfl cv_X6_211 rfl rfl 0 rfl rfl (gLe rfl) (gLe rfl) (gLe rfl) (gLe rfl) (wM_len _ _ _ _ _ _ _ _ _ _) rfl ?_
        refine j_topI _ (gB (zi < 2 ^ Na 0 2)) (gB_iff (by show inR (nI zi) (2 ^ Z1_1 2) ↔ _; rw [hZ1_1 2 (by decide)]; exact inR_nI (by omega))) ?_
        refine j_if_eqB 28 52 dX6_comes_25 rfl rfl (fun h25 => ?_) (fun h25 => ?_)
        ·
          refine j_iload_n 53 dX6_comes_52 rfl 1 rfl ?_
          refine j_iretI dX6_comes_53 rfl ⟨gLe rfl, gLe rfl, ?_⟩
          have ze : (rM_comes  (Na, Ia, Ns, Is)) (nI (cmN (outQ (Na 0) (q0 (Na 0) (Ia 21) (Na 22)) ZK_1) zi)) := by
            have ye : zi = 2 ^ Na 0 2 := by omega
            rw [rM_comes, if_neg h6]
            exact ⟨Ia 21, Na 22, ZK_1, ⟨hZK_1, hZM_1⟩, by rw [ye]⟩
          exact ⟨((va_up (va_up Na 0 Z1_1) 22 ((outQ (Na 0) (q0 (Na 0) (Ia 21) (Na 22)) ZK_1).2.1)), (va_up Ia 21 ((outQ (Na 0) (q0 (Na 0) (Ia 21) (Na 22)) ZK_1).1)), (va_up Ns 23 ((outQ (Na 0) (q0 (Na 0) (Ia 21) (Na 22)) ZK_1).2.2)), Is), (nI (cmN (outQ (Na 0) (q0 (Na 0) (Ia 21) (Na 22)) ZK_1) zi)), ⟨hZ1_1, ⟨rfl, rfl, rfl, rfl⟩, ⟨rfl, rfl⟩, ⟨rfl, rfl, rfl, rfl, rfl⟩, rfl⟩, ze, rfl, rfl⟩
        ·
          refine j_iload_n 29 dX6_comes_28 rfl 1 rfl ?_
          refine j_aload_n 30 dX6_comes_29 rfl 2 rfl ?_
          refine j_iload_n 31 dX6_comes_30 rfl 0 rfl ?_
          refine j_callVW (rest := [.int (nI (cmN (outQ (Na 0) (q0 (Na 0) (Ia 21) (Na 22)) ZK_1) zi))]) 34 (c_X6_soonest g q (va_up (va_up Na 0 Z1_1) 22 ((outQ (Na 0) (q0 (Na 0) (Ia 21) (Na 22)) ZK_1).2.1)) (va_up Ia 21 ((outQ (Na 0) (q0 (Na 0) (Ia 21) (Na 22)) ZK_1).1)) (va_up Ns 23 ((outQ (Na 0) (q0 (Na 0) (Ia 21) (Na 22)) ZK_1).2.2)) Is zi (Na 0 2) hokq (by omega)) [.int (sonF ((outQ (Na 0) (q0 (Na 0) (Ia 21) (Na 22)) ZK_1).1) ((outQ (Na 0) (q0 (Na 0) (Ia 21) (Na 22)) ZK_1).2.1) zi ((outQ (Na 0) (q0 (Na 0) (Ia 21) (Na 22)) ZK_1).2.2) 0), .int (nI (cmN (outQ (Na 0) (q0 (Na 0) (Ia 21) (Na 22)) ZK_1) zi))] dX6_comes_31 rfl cv_X6_254 rfl rfl 0 rfl rfl (gLe rfl) (gLe rfl) (gLe rfl) (gLe rfl) (wM_len _ _ _ _ _ _ _ _ _ _) rfl ?_
          refine j_ldc (v := (-1000000 : Int32)) 36 dX6_comes_34 rfl wd_4_47 ?_
          refine j_icmp_ne 39 43 dX6_comes_36 rfl rfl (fun h36 => ?_) (fun h36 => ?_)
          ·
            refine j_iconst (v := (1 : Int32)) 44 dX6_comes_43 rfl (by decide) ?_
            refine j_topN 1 (if sonF (outQ (Na 0) (q0 (Na 0) (Ia 21) (Na 22)) ZK_1).1 (outQ (Na 0) (q0 (Na 0) (Ia 21) (Na 22)) ZK_1).2.1 zi (outQ (Na 0) (q0 (Na 0) (Ia 21) (Na 22)) ZK_1).2.2 0 = -1000000 then 0 else 1) (by rw [if_neg h36]) ?_
            refine j_iaddN (cmN (outQ (Na 0) (q0 (Na 0) (Ia 21) (Na 22)) ZK_1) zi) (if sonF (outQ (Na 0) (q0 (Na 0) (Ia 21) (Na 22)) ZK_1).1 (outQ (Na 0) (q0 (Na 0) (Ia 21) (Na 22)) ZK_1).2.1 zi (outQ (Na 0) (q0 (Na 0) (Ia 21) (Na 22)) ZK_1).2.2 0 = -1000000 then 0 else 1) 45 dX6_comes_44 rfl ?_
            refine j_topN ((cmN (outQ (Na 0) (q0 (Na 0) (Ia 21) (Na 22)) ZK_1) zi) + (if sonF (outQ (Na 0) (q0 (Na 0) (Ia 21) (Na 22)) ZK_1).1 (outQ (Na 0) (q0 (Na 0) (Ia 21) (Na 22)) ZK_1).2.1 zi (outQ (Na 0) (q0 (Na 0) (Ia 21) (Na 22)) ZK_1).2.2 0 = -1000000 then 0 else 1)) (cmN (outQ (Na 0) (q0 (Na 0) (Ia 21) (Na 22)) ZK_1) (zi + 1)) rfl ?_
            refine j_istore_n 46 [(1, .int (nI (cmN (outQ (Na 0) (q0 (Na 0) (Ia 21) (Na 22)) ZK_1) (zi + 1)))), (2, .int (nI zi)), (0, .ref (q 26))] dX6_comes_45 rfl (by decide) rfl ?_
            refine j_iincN zi 1 49 [(2, .int (nI (zi + 1))), (1, .int (nI (cmN (outQ (Na 0) (q0 (Na 0) (Ia 21) (Na 22)) ZK_1) (zi + 1)))), (0, .ref (q 26))] dX6_comes_46 rfl 1 rfl (by decide) rfl ?_
            refine j_goto 20 dX6_comes_49 rfl ?_
            refine j_lv [0, 1, 2] rfl ?_
            exact zih20 (zi + 1) (by omega) (by omega)
          ·
            refine j_iconst (v := (0 : Int32)) 40 dX6_comes_39 rfl (by decide) ?_
            refine j_goto 44 dX6_comes_40 rfl ?_
            refine j_topN 0 (if sonF (outQ (Na 0) (q0 (Na 0) (Ia 21) (Na 22)) ZK_1).1 (outQ (Na 0) (q0 (Na 0) (Ia 21) (Na 22)) ZK_1).2.1 zi (outQ (Na 0) (q0 (Na 0) (Ia 21) (Na 22)) ZK_1).2.2 0 = -1000000 then 0 else 1) (by rw [if_pos h36]) ?_
            refine j_iaddN (cmN (outQ (Na 0) (q0 (Na 0) (Ia 21) (Na 22)) ZK_1) zi) (if sonF (outQ (Na 0) (q0 (Na 0) (Ia 21) (Na 22)) ZK_1).1 (outQ (Na 0) (q0 (Na 0) (Ia 21) (Na 22)) ZK_1).2.1 zi (outQ (Na 0) (q0 (Na 0) (Ia 21) (Na 22)) ZK_1).2.2 0 = -1000000 then 0 else 1) 45 dX6_comes_44 rfl ?_
            refine j_topN ((cmN (outQ (Na 0) (q0 (Na 0) (Ia 21) (Na 22)) ZK_1) zi) + (if sonF (outQ (Na 0) (q0 (Na 0) (Ia 21) (Na 22)) ZK_1).1 (outQ (Na 0) (q0 (Na 0) (Ia 21) (Na 22)) ZK_1).2.1 zi (outQ (Na 0) (q0 (Na 0) (Ia 21) (Na 22)) ZK_1).2.2 0 = -1000000 then 0 else 1)) (cmN (outQ (Na 0) (q0 (Na 0) (Ia 21) (Na 22)) ZK_1) (zi + 1)) rfl ?_
            refine j_istore_n 46 [(1, .int (nI (cmN (outQ (Na 0) (q0 (Na 0) (Ia 21) (Na 22)) ZK_1) (zi + 1)))), (2, .int (nI zi)), (0, .ref (q 26))] dX6_comes_45 rfl (by decide) rfl ?_
            refine j_iincN zi 1 49 [(2, .int (nI (zi + 1))), (1, .int (nI (cmN (outQ (Na 0) (q0 (Na 0) (Ia 21) (Na 22)) ZK_1) (zi + 1)))), (0, .ref (q 26))] dX6_comes_46 rfl 1 rfl (by decide) rfl ?_
            refine j_goto 20 dX6_comes_49 rfl ?_
            refine j_lv [0, 1, 2] rfl ?_
            exact zih20 (zi + 1) (by omega) (by omega)
    refine j_lv [0, 1, 2] rfl ?_
    exact hL20 _ 0 (Nat.lt_succ_self _) (Nat.zero_le _)
  ·
    refine j_ldc (v := (-1000002 : Int32)) 11 dX6_comes_9 rfl wd_5_47 ?_
    refine j_iretI dX6_comes_11 rfl ⟨gLe rfl, gLe rfl, ?_⟩
    have ze : (rM_comes  (Na, Ia, Ns, Is)) (-1000002 : Int32) := by
      rw [rM_comes, if_pos h6]
    exact ⟨(Na, Ia, Ns, Is), (-1000002 : Int32), ⟨(fun k _ => rfl), ⟨rfl, rfl, rfl, rfl⟩, ⟨rfl, rfl⟩, ⟨rfl, rfl, rfl, rfl, rfl⟩, rfl⟩, ze, rfl, rfl⟩
set_option maxRecDepth 20000 in
theorem c_X6_round (g : gG) (q : Nat → Nat) (Na : Nat → Nat → Nat) (Ia : Nat → Nat → Int32) (Ns : Nat → Nat) (Is : Nat → Int32) (b : Int32) (what : Int32) (hI : RI (Na, Ia, Ns, Is)) : gCon g mX6_round 5 0 0 [.ref (q 26), .int b, .int what] (wS g q (Na, Ia, Ns, Is)) (fun rv ws' => ∃ (S9 : RS) (z9 : Int32), Gq S9 (Na, Ia, Ns, Is) ∧ (rM_round b what (Na, Ia, Ns, Is)) z9 ∧ rv = some (.int z9) ∧ ws' = wS g q S9) := by
  refine gCon.of (lv := [(0, .ref (q 26)), (1, .int b), (2, .int what)]) (by decide) (gLe rfl) rfl ?_
  refine j_ws (wM g q Na Ia Ns Is) rfl ?_
  have h8 : Na 0 1 ≤ 6 ∧ Na 0 2 ≤ 5 ∧ Na 0 3 ≤ 8 ∧ Na 0 0 ≤ 1 := RI_3 hI
  have h40 : Na 0 40 < 32 ∧ (∀ j, j < 5 → Na 0 (41 + j) ≤ 9999) ∧ (∀ p, p < 6 → Na 0 (46 + p) ≤ 9999 ∧ Na 0 (52 + p) ≤ 989901) ∧ inP (Na 0) ≤ 9999 := RI_40 hI
  have hpm : Ns 2 ≤ 24 := hI.2.1
  have hsz : ∀ r, r < 8 → Na 8 r ≤ 40 := hI.2.2.2.2.2.2.2.1
  have htr : Ns 11 ≤ 16 := hI.2.2.2.2.2.2.2.2.1
  have hst : Is 12 = -1000000 := hI.2.2.2.2.2.2.2.2.2.1
  have htp : Ns 4 ≤ 400 := hI.2.2.2.2.1
  refine j_aload_n 1 dX6_round_0 rfl 0 rfl ?_
  refine j_iload_n 2 dX6_round_1 rfl 1 rfl ?_
  refine j_callVW (rest := []) 5 (c_X6_isBeast g q Na Ia Ns Is b  (by omega)) [.int (gB (inR b ((Na 0) 3)))] dX6_round_2 rfl cv_X6_190 rfl rfl 0 rfl rfl (gLe rfl) (gLe rfl) (gLe rfl) (gLe rfl) (wM_len _ _ _ _ _ _ _ _ _ _) rfl ?_
  refine j_if_eqB 8 18 dX6_round_5 rfl rfl (fun h5 => ?_) (fun h5 => ?_)
  ·
    refine j_ldc (v := (-1000001 : Int32)) 20 dX6_round_18 rfl wd_4_140 ?_
    refine j_iretI dX6_round_20 rfl ⟨gLe rfl, gLe rfl, ?_⟩
    have ze : (rM_round b what (Na, Ia, Ns, Is)) (-1000001 : Int32) := by
      rw [rM_round, if_pos (by first | exact Or.inl h5 | exact Or.inr h15)]
    exact ⟨(Na, Ia, Ns, Is), (-1000001 : Int32), ⟨(fun k _ => rfl), ⟨rfl, rfl, rfl, rfl⟩, ⟨rfl, rfl⟩, ⟨rfl, rfl, rfl, rfl, rfl⟩, rfl⟩, ze, rfl, rfl⟩
  ·
    refine j_iload_n 9 dX6_round_8 rfl 2 rfl ?_
    refine j_i2l 10 dX6_round_9 rfl ?_
    refine j_lconst (v := 0) 11 dX6_round_10 rfl (by decide) ?_
    refine j_lconst (v := 1) 12 dX6_round_11 rfl (by decide) ?_
    refine j_callSE (rest := []) 15 (c_inR g what 2 (1 : Int64) (1 : Int32) ⟨by decide, by decide⟩) [.int (gB (inR what 2))] dX6_round_12 rfl cs_X6_61 rfl rfl (gLe rfl) (gLe rfl) (gLe rfl) (gLe rfl) rfl ?_
    refine j_if_neB 18 21 dX6_round_15 rfl rfl (fun h15 => ?_) (fun h15 => ?_)
    ·
      obtain ⟨zb, hzb, rfl⟩ := inR_of h5
      obtain ⟨zv, hzv, rfl⟩ := inR_of h15
      have hq1 := RI_P hI (Or.inr (Or.inl (by show 0 < Na 0 3; omega)))
      have hokp : okP (Na 0) := hq1.2.1
      have hs40 : Na 0 40 < 2 ^ Na 0 2 := hq1.2.2.1
      have hum : ∀ k, uM (Na 0) 0 k ≤ 9999 := by
        intro k
        by_cases hk : k < 5
        · rw [uM_at hk, show 0 + 41 + k = 41 + k by omega]; exact h40.2.1 k hk
        · rw [Z5_uM _ _ k (by omega)]; exact Nat.zero_le _
      have hs32 := p32 hokp hs40
      have hak := aS_ok hokp (b := zb) (s0 := numA (Na 0) (Na 0 40) (uM (Na 0) 0)) (numA_lt hs32) (by rw [numA_mod hs32]; exact hs40)
      refine j_iconst (v := (0 : Int32)) 22 dX6_round_21 rfl (by decide) ?_
      refine j_istore_n 23 [(3, .int (0 : Int32)), (0, .ref (q 26)), (1, .int (nI zb)), (2, .int (nI zv))] dX6_round_22 rfl (by decide) rfl ?_
      have hL23 : ∀ (zm23 : Nat) (zi : Nat), 7776 - zi < zm23 → (zi ≤ 7776) → gJ g mX6_round 5 0 0 (fun k' j' rv ws' => k' ≤ 0 ∧ j' ≤ 0 ∧ (∃ (S9 : RS) (z9 : Int32), Gq S9 (Na, Ia, Ns, Is) ∧ (rM_round (nI zb) (nI zv) (Na, Ia, Ns, Is)) z9 ∧ rv = some (.int z9) ∧ ws' = wS g q S9)) 0 0 23 [(3, .int (nI zi)), (0, .ref (q 26)), (1, .int (nI zb)), (2, .int (nI zv))] [] (wM g q Na (va_up Ia 21 (va_cpy (fun _ => -1000000) (Ia 21) 0 0 zi)) Ns Is) := by
        intro zm23
        induction zm23 with
        | zero => intro zi zmh; exact absurd zmh (Nat.not_lt_zero _)
        | succ zm23 zih23 =>
          intro zi zmh23 hz
          refine j_iload_n 24 dX6_round_23 rfl 0 rfl ?_
          refine j_sipush (v := (7776 : Int32)) 27 dX6_round_24 rfl (by decide) ?_
          refine j_icmp_geN zi 7776 30 44 dX6_round_27 rfl rfl (by omega) (by decide) (fun h27 => ?_) (fun h27 => ?_)
          ·
            have ye : zi = 7776 := by omega
            subst ye
            refine j_aload_n 45 dX6_round_44 rfl 1 rfl ?_
            refine j_iconst (v := (0 : Int32)) 46 dX6_round_45 rfl (by decide) ?_
            refine j_sipush (v := (174 : Int32)) 49 dX6_round_46 rfl (by decide) ?_
            refine j_callVW (rest := []) 52 (c_X6_copyRow g q Na (va_up Ia 21 (va_cpy (fun _ => -1000000) (Ia 21) 0 0 7776)) Ns Is 0 174  (by decide) (by decide) (by decide)) [] dX6_round_49 rfl cv_X6_224 rfl rfl 0 rfl rfl (gLe rfl) (gLe rfl) (gLe rfl) (gLe rfl) (wM_len _ _ _ _ _ _ _ _ _ _) rfl ?_
            refine j_iconst (v := (0 : Int32)) 53 dX6_round_52 rfl (by decide) ?_
            refine j_istore_n 54 [(3, .int (0 : Int32)), (0, .ref (q 26)), (1, .int (nI zb)), (2, .int (nI zv))] dX6_round_53 rfl (by decide) rfl ?_
            refine j_aload_n 55 dX6_round_54 rfl 1 rfl ?_
            refine j_callVW (rest := []) 58 (c_X6_number_ g q (va_up Na 0 (va_cpy (Na 0) (Na 0) 0 174 58)) (va_up Ia 21 (va_cpy (fun _ => -1000000) (Ia 21) 0 0 7776)) Ns Is   (by show (va_cpy (Na 0) (Na 0) 0 174 58) 2 ≤ 5; rw [cpy_out (by omega)]; exact h8.2.1) (fun j hj => by have hj : j < (va_cpy (Na 0) (Na 0) 0 174 58) 2 := hj; rw [cpy_out (by omega)] at hj; show (va_cpy (Na 0) (Na 0) 0 174 58) (4 + 4 * j + 3) < _; rw [cpy_out (by omega)]; have := (hokp.2.2.2.2.1 j hj).2.2.2; omega) (fun k => by show uM (va_cpy (Na 0) (Na 0) 0 174 58) 174 k ≤ _; rw [cp0_uM]; have := hum k; omega)) [.int (nI (numA (va_cpy (Na 0) (Na 0) 0 174 58) ((va_cpy (Na 0) (Na 0) 0 174 58) 214) (uM (va_cpy (Na 0) (Na 0) 0 174 58) 174)))] dX6_round_55 rfl cv_X6_236 rfl rfl 0 rfl rfl (gLe rfl) (gLe rfl) (gLe rfl) (gLe rfl) (wM_len _ _ _ _ _ _ _ _ _ _) rfl ?_
            refine j_topN (numA (va_cpy (Na 0) (Na 0) 0 174 58) ((va_cpy (Na 0) (Na 0) 0 174 58) 214) (uM (va_cpy (Na 0) (Na 0) 0 174 58) 174)) (numA (Na 0) (Na 0 40) (uM (Na 0) 0)) (by show numA (va_cpy (Na 0) (Na 0) 0 174 58) ((va_cpy (Na 0) (Na 0) 0 174 58) 214) (uM (va_cpy (Na 0) (Na 0) 0 174 58) 174) = _; rw [cp0_214, cp0_uM, numA_eq (eqB_P eqB_cpy)]) ?_
            refine j_istore 60 [(4, .int (nI (numA (Na 0) (Na 0 40) (uM (Na 0) 0)))), (3, .int (0 : Int32)), (0, .ref (q 26)), (1, .int (nI zb)), (2, .int (nI zv))] dX6_round_58 rfl (by decide) rfl ?_
            have hL60 : ∀ (zm60 : Nat) (zn : Nat) (ZR : Nat → Nat) (ZF : Nat → Int32), 7777 - zn < zm60 → (eqB ZR (Na 0)) → (∀ t, t < zn → ZF ((aS (Na 0) zb (numA (Na 0) (Na 0 40) (uM (Na 0) 0))) t) = nI t) → (∀ x, x < 7776 → ZF x = -1000000 ∨ ∃ t, t < zn ∧ (aS (Na 0) zb (numA (Na 0) (Na 0 40) (uM (Na 0) 0))) t = x) → (zn + cN ZF 7776 = 7776) → gJ g mX6_round 5 0 0 (fun k' j' rv ws' => k' ≤ 0 ∧ j' ≤ 0 ∧ (∃ (S9 : RS) (z9 : Int32), Gq S9 (Na, Ia, Ns, Is) ∧ (rM_round (nI zb) (nI zv) (Na, Ia, Ns, Is)) z9 ∧ rv = some (.int z9) ∧ ws' = wS g q S9)) 0 0 60 [(4, .int (nI ((aS (Na 0) zb (numA (Na 0) (Na 0 40) (uM (Na 0) 0))) zn))), (3, .int (nI zn)), (0, .ref (q 26)), (1, .int (nI zb)), (2, .int (nI zv))] [] (wM g q (va_up Na 0 ZR) (va_up Ia 21 ZF) Ns Is) := by
              intro zm60
              induction zm60 with
              | zero => intro zn ZR ZF zmh; exact absurd zmh (Nat.not_lt_zero _)
              | succ zm60 zih60 =>
                intro zn ZR ZF zmh60 hzE hzF hzN hzC
                refine j_aload_n 61 dX6_round_60 rfl 2 rfl ?_
                refine j_getf 64 0 dX6_round_61 rfl fd_X6_42 rfl rfl ?_
                refine j_iload 66 dX6_round_64 rfl 0 rfl ?_
                refine j_ialdR ((aS (Na 0) zb (numA (Na 0) (Na 0 40) (uM (Na 0) 0))) zn) 67 10 dX6_round_66 rfl rfl (hak zn).1 (by decide) ?_
                refine j_ldc (v := (-1000000 : Int32)) 69 dX6_round_67 rfl wd_4_47 ?_
                refine j_icmp_ne 72 95 dX6_round_69 rfl rfl (fun h69 => ?_) (fun h69 => ?_)
                ·
                  obtain ⟨zt, hzt, hza⟩ := (hzN _ (hak zn).1).resolve_left h69
                  have hzv : ZF ((aS (Na 0) zb (numA (Na 0) (Na 0 40) (uM (Na 0) 0))) zn) = nI zt := by rw [← hza]; exact hzF zt hzt
                  refine j_iload_n 96 dX6_round_95 rfl 4 rfl ?_
                  refine j_if_neN zv 99 109 dX6_round_96 rfl rfl (by omega) (fun h96 => ?_) (fun h96 => ?_)
                  ·
                    refine j_iload_n 110 dX6_round_109 rfl 1 rfl ?_
                    refine j_aload_n 111 dX6_round_110 rfl 2 rfl ?_
                    refine j_getf 114 0 dX6_round_111 rfl fd_X6_42 rfl rfl ?_
                    refine j_iload 116 dX6_round_114 rfl 0 rfl ?_
                    refine j_ialdR ((aS (Na 0) zb (numA (Na 0) (Na 0 40) (uM (Na 0) 0))) zn) 117 10 dX6_round_116 rfl rfl (hak zn).1 (by decide) ?_
                    refine j_isub 118 dX6_round_117 rfl ?_
                    refine j_iretI dX6_round_118 rfl ⟨gLe rfl, gLe rfl, ?_⟩
                    have ze : (rM_round (nI zb) (nI zv) (Na, Ia, Ns, Is)) ((nI zn) - (ZF ((aS (Na 0) zb (numA (Na 0) (Na 0 40) (uM (Na 0) 0))) zn))) := by
                      rw [rM_round, if_neg (fun z => z.elim (fun z => z h5) (fun z => z h15)), cl_nI (by omega), cl_nI (by omega)]
                      refine ⟨zt, zn, hzt, by omega, fun i j hij hj y => ?_, hza.symm, ?_⟩
                      · have y1 := hzF i (by omega)
                        have y2 := hzF j hj
                        rw [y, y2] at y1
                        exact absurd (nI_inj (by omega) (by omega) y1) (by omega)
                      · rw [hzv, if_neg h96]
                    exact ⟨((va_up Na 0 ZR), (va_up Ia 21 ZF), Ns, Is), ((nI zn) - (ZF ((aS (Na 0) zb (numA (Na 0) (Na 0 40) (uM (Na 0) 0))) zn))), ⟨hzE, ⟨rfl, rfl, rfl, rfl⟩, ⟨rfl, rfl⟩, ⟨rfl, rfl, rfl, rfl, rfl⟩, rfl⟩, ze, rfl, rfl⟩
                  ·
                    refine j_aload_n 100 dX6_round_99 rfl 2 rfl ?_
                    refine j_getf 103 0 dX6_round_100 rfl fd_X6_42 rfl rfl ?_
                    refine j_iload 105 dX6_round_103 rfl 0 rfl ?_
                    refine j_ialdR ((aS (Na 0) zb (numA (Na 0) (Na 0 40) (uM (Na 0) 0))) zn) 106 10 dX6_round_105 rfl rfl (hak zn).1 (by decide) ?_
                    refine j_goto 118 dX6_round_106 rfl ?_
                    refine j_iretI dX6_round_118 rfl ⟨gLe rfl, gLe rfl, ?_⟩
                    have ze : (rM_round (nI zb) (nI zv) (Na, Ia, Ns, Is)) (ZF ((aS (Na 0) zb (numA (Na 0) (Na 0 40) (uM (Na 0) 0))) zn)) := by
                      rw [rM_round, if_neg (fun z => z.elim (fun z => z h5) (fun z => z h15)), cl_nI (by omega), cl_nI (by omega)]
                      refine ⟨zt, zn, hzt, by omega, fun i j hij hj y => ?_, hza.symm, ?_⟩
                      · have y1 := hzF i (by omega)
                        have y2 := hzF j hj
                        rw [y, y2] at y1
                        exact absurd (nI_inj (by omega) (by omega) y1) (by omega)
                      · rw [hzv, if_pos h96]
                    exact ⟨((va_up Na 0 ZR), (va_up Ia 21 ZF), Ns, Is), (ZF ((aS (Na 0) zb (numA (Na 0) (Na 0 40) (uM (Na 0) 0))) zn)), ⟨hzE, ⟨rfl, rfl, rfl, rfl⟩, ⟨rfl, rfl⟩, ⟨rfl, rfl, rfl, rfl, rfl⟩, rfl⟩, ze, rfl, rfl⟩
                ·
                  have h69z : ZF ((aS (Na 0) zb (numA (Na 0) (Na 0 40) (uM (Na 0) 0))) zn) = -1000000 := h69
                  have hzl : 0 < cN ZF 7776 := cN_pos h69z 7776 (hak zn).1
                  refine j_aload_n 73 dX6_round_72 rfl 2 rfl ?_
                  refine j_getf 76 0 dX6_round_73 rfl fd_X6_42 rfl rfl ?_
                  refine j_iload 78 dX6_round_76 rfl 0 rfl ?_
                  refine j_iload_n 79 dX6_round_78 rfl 1 rfl ?_
                  refine j_iastR ((aS (Na 0) zb (numA (Na 0) (Na 0 40) (uM (Na 0) 0))) zn) 80 10 (wM g q (va_up Na 0 ZR) (va_up Ia 21 (upd ZF ((aS (Na 0) zb (numA (Na 0) (Na 0 40) (uM (Na 0) 0))) zn) (nI zn))) Ns Is) dX6_round_79 rfl rfl (hak zn).1 (by decide) rfl ?_
                  refine j_iincN zn 1 83 [(3, .int (nI (zn + 1))), (4, .int (nI ((aS (Na 0) zb (numA (Na 0) (Na 0 40) (uM (Na 0) 0))) zn))), (0, .ref (q 26)), (1, .int (nI zb)), (2, .int (nI zv))] dX6_round_80 rfl 1 rfl (by decide) rfl ?_
                  refine j_aload_n 84 dX6_round_83 rfl 2 rfl ?_
                  refine j_iload 86 dX6_round_84 rfl 1 rfl ?_
                  refine j_iload_n 87 dX6_round_86 rfl 3 rfl ?_
                  refine j_callVX (rest := []) 90 (c_X6_after g q (va_up Na 0 ZR) (va_up Ia 21 (upd ZF ((aS (Na 0) zb (numA (Na 0) (Na 0 40) (uM (Na 0) 0))) zn) (nI zn))) Ns Is ((aS (Na 0) zb (numA (Na 0) (Na 0 40) (uM (Na 0) 0))) zn) zb  hst (okP_eq (eqB_P hzE) hokp) (hak zn).1 (by show _ < 2 ^ ZR 2; rw [hzE 2 (by decide)]; exact (hak zn).2) (by show zb < ZR 3; rw [hzE 3 (by decide)]; exact hzb)) dX6_round_87 rfl cv_X6_241 rfl rfl 0 rfl rfl (gLe rfl) (gLe rfl) (gLe rfl) (gLe rfl) (fun rv w1 hp => ?_)
                  obtain ⟨Z1_1, hZ1_1, rfl, rfl⟩ := hp
                  refine ⟨(wM_len _ _ _ _ _ _ _ _ _ _), ?_⟩
                  refine j_eq (lv2 := [(3, .int (nI (zn + 1))), (4, .int (nI ((aS (Na 0) zb (numA (Na 0) (Na 0 40) (uM (Na 0) 0))) zn))), (0, .ref (q 26)), (1, .int (nI zb)), (2, .int (nI zv))]) (st2 := [.int (nI (nxN ZR ((aS (Na 0) zb (numA (Na 0) (Na 0 40) (uM (Na 0) 0))) zn) zb))]) (ws2 := (wM g q (va_up Na 0 Z1_1) (va_up Ia 21 (upd ZF ((aS (Na 0) zb (numA (Na 0) (Na 0 40) (uM (Na 0) 0))) zn) (nI zn))) Ns Is)) rfl rfl rfl ?_
                  refine j_topN (nxN ZR ((aS (Na 0) zb (numA (Na 0) (Na 0 40) (uM (Na 0) 0))) zn) zb) ((aS (Na 0) zb (numA (Na 0) (Na 0 40) (uM (Na 0) 0))) (zn + 1)) (nxN_eq hokp hzE hzb) ?_
                  refine j_istore 92 [(4, .int (nI ((aS (Na 0) zb (numA (Na 0) (Na 0 40) (uM (Na 0) 0))) (zn + 1)))), (3, .int (nI (zn + 1))), (0, .ref (q 26)), (1, .int (nI zb)), (2, .int (nI zv))] dX6_round_90 rfl (by decide) rfl ?_
                  refine j_goto 60 dX6_round_92 rfl ?_
                  refine j_lv [0, 1, 2, 3, 4] rfl ?_
                  exact zih60 (zn + 1) Z1_1 (upd ZF ((aS (Na 0) zb (numA (Na 0) (Na 0 40) (uM (Na 0) 0))) zn) (nI zn)) (by omega) (eqB_trans hZ1_1 hzE) (rnd_F (A := (aS (Na 0) zb (numA (Na 0) (Na 0 40) (uM (Na 0) 0)))) (by omega) hzF h69z) (rnd_N (A := (aS (Na 0) zb (numA (Na 0) (Na 0 40) (uM (Na 0) 0)))) hzN) (rnd_C (A := (aS (Na 0) zb (numA (Na 0) (Na 0 40) (uM (Na 0) 0)))) (by omega) h69z (hak zn).1 hzC)
            refine j_lv [0, 1, 2, 3, 4] rfl ?_
            exact hL60 _ 0 (va_cpy (Na 0) (Na 0) 0 174 58) (va_cpy (fun _ => -1000000) (Ia 21) 0 0 7776) (Nat.lt_succ_self _) eqB_cpy (fun t ht => absurd ht (Nat.not_lt_zero t)) (fun x hx => Or.inl (by rw [cpy_in (by omega) (by omega)])) (by rw [cN_all 7776 (fun k hk => by rw [cpy_in (by omega) (by omega)])])
          ·
            refine j_aload_n 31 dX6_round_30 rfl 1 rfl ?_
            refine j_getf 34 0 dX6_round_31 rfl fd_X6_42 rfl rfl ?_
            refine j_iload_n 35 dX6_round_34 rfl 0 rfl ?_
            refine j_ldc (v := (-1000000 : Int32)) 37 dX6_round_35 rfl wd_4_47 ?_
            refine j_iastR zi 38 10 (wM g q Na (va_up Ia 21 (upd (va_cpy (fun _ => -1000000) (Ia 21) 0 0 zi) zi (-1000000 : Int32))) Ns Is) dX6_round_37 rfl rfl (by omega) (by decide) rfl ?_
            refine j_ws (wM g q Na (va_up Ia 21 (va_cpy (fun _ => -1000000) (Ia 21) 0 0 (zi + 1))) Ns Is) (congrArg (fun z => wM g q Na (va_up Ia 21 z) Ns Is) (cpy_s0 (fun _ => (-1000000 : Int32)) _ 0 zi)) ?_
            refine j_iincN zi 1 41 [(3, .int (nI (zi + 1))), (0, .ref (q 26)), (1, .int (nI zb)), (2, .int (nI zv))] dX6_round_38 rfl 0 rfl (by decide) rfl ?_
            refine j_goto 23 dX6_round_41 rfl ?_
            refine j_lv [0, 1, 2, 3] rfl ?_
            exact zih23 (zi + 1) (by omega) (by omega)
      refine j_ws (wM g q Na (va_up Ia 21 (va_cpy (fun _ => -1000000) (Ia 21) 0 0 0)) Ns Is) (by rw [cpy_0]; rfl) ?_
      refine j_lv [0, 1, 2, 3] rfl ?_
      exact hL23 _ 0 (Nat.lt_succ_self _) (by omega)
    ·
      refine j_ldc (v := (-1000001 : Int32)) 20 dX6_round_18 rfl wd_4_140 ?_
      refine j_iretI dX6_round_20 rfl ⟨gLe rfl, gLe rfl, ?_⟩
      have ze : (rM_round b what (Na, Ia, Ns, Is)) (-1000001 : Int32) := by
        rw [rM_round, if_pos (by first | exact Or.inl h5 | exact Or.inr h15)]
      exact ⟨(Na, Ia, Ns, Is), (-1000001 : Int32), ⟨(fun k _ => rfl), ⟨rfl, rfl, rfl, rfl⟩, ⟨rfl, rfl⟩, ⟨rfl, rfl, rfl, rfl, rfl⟩, rfl⟩, ze, rfl, rfl⟩
