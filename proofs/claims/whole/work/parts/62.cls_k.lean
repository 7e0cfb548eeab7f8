def hsK (r : Nat × Nat × Nat × (Nat → Nat)) : Nat := if r.1 ≠ 0 then r.1 else if r.2.2.1 = 0 then 1 else 0
def bsK (T : Nat → Nat) (n : Nat) (r : Nat × Nat × Nat × (Nat → Nat)) : Nat := if r.1 ≠ 0 then r.1 else if tP T n r.2.1 < n then 1 else 0
/-- the class's arrays of hurdles (of beasts) and the reference's -/
def hqR (L : Nat → Nat → Nat) (A : Nat → Nat) (H : Nat) : Prop := ∀ h, h < H → L 2 h = A (4 * h) ∧ L 3 h = A (4 * h + 1) ∧ L 4 h = A (4 * h + 2) ∧ L 1 h = A (4 * h + 3)
def bqR (L : Nat → Nat → Nat) (A : Nat → Nat) (B : Nat) : Prop := ∀ b, b < B → L 5 b = A (2 * b) ∧ L 6 b = A (2 * b + 1)
theorem hqR_s {L : Nat → Nat → Nat} {A : Nat → Nat} {H l r t s : Nat} (h : hqR L A H) (hH : L 0 1 = H) : hqR (hurL L l r t s) (upH A H l r t s) (H + 1) := by
  subst hH
  intro x hx
  show va_up (L 2) (L 0 1) l x = _ ∧ va_up (L 3) (L 0 1) r x = _ ∧ va_up (L 4) (L 0 1) t x = _ ∧ va_up (L 1) (L 0 1) s x = _
  simp only [upH]
  by_cases e : x = L 0 1
  · subst e
    refine ⟨?_, ?_, ?_, ?_⟩
    · rw [va_up_s, va_up_n (by omega), va_up_n (by omega), va_up_n (by omega), va_up_s]
    · rw [va_up_s, va_up_n (by omega), va_up_n (by omega), va_up_s]
    · rw [va_up_s, va_up_n (by omega), va_up_s]
    · rw [va_up_s, va_up_s]
  · obtain ⟨h1, h2, h3, h4⟩ := h x (by omega)
    refine ⟨?_, ?_, ?_, ?_⟩
    all_goals rw [va_up_n e, va_up_n (by omega), va_up_n (by omega), va_up_n (by omega), va_up_n (by omega)]
    all_goals assumption
theorem bqR_s {L : Nat → Nat → Nat} {A : Nat → Nat} {B kd hv : Nat} (h : bqR L A B) (hB : L 0 2 = B) : bqR (bstL L kd hv) (upB A B kd hv) (B + 1) := by
  subst hB
  intro x hx
  show va_up (L 5) (L 0 2) kd x = _ ∧ va_up (L 6) (L 0 2) hv x = _
  simp only [upB]
  by_cases e : x = L 0 2
  · subst e
    refine ⟨?_, ?_⟩
    · rw [va_up_s, va_up_n (by omega), va_up_s]
    · rw [va_up_s, va_up_s]
  · obtain ⟨h1, h2⟩ := h x (by omega)
    refine ⟨?_, ?_⟩
    all_goals rw [va_up_n e, va_up_n (by omega), va_up_n (by omega)]
    all_goals assumption
set_option maxRecDepth 20000 in
theorem c_X4_readHurdles (g : gG) (ka : Nat) (kb : Nat) (kl : Nat) (kv : Nat) (kf : Nat) (yT : Nat → Nat) (p0 : Nat) (p1 : Nat) (p2 : Nat) (p3 : Nat) (p4 : Nat) (p5 : Nat) (p6 : Nat) (yL : Nat → Nat → Nat)  (yc : Nat) (yA : Nat → Nat) (h4 : kl ≤ 400) (hT : ∀ x, yT x < 256) (hc : yc ≤ kl) (hv : tkK yT kl yc = 2 → kv = nmV yT kl yc) (h66 : yL 0 0 ≤ 6) (hH : yL 0 1 = 0) : gCon g mX4_readHurdles 7 0 0 [.ref ka, .ref p0] [(ka, .inr (4, [.ref kb, .int (nI kl), .int (nI (tP yT kl yc)), .int (nI (tE yT kl yc)), .int (nI (tkK yT kl yc)), .int (nI kv), .int (nI kf)])), (kb, .inl (g.2.1 1, 400, .inl (sgF yT))), (p0, .inr (0, [.int (nI (yL 0 0)), .int (nI (yL 0 1)), .int (nI (yL 0 2)), .ref p1, .ref p2, .ref p3, .ref p4, .ref p5, .ref p6])), (p1, .inl (g.2.1 0, 5, .inl (nF (yL 1)))), (p2, .inl (g.2.1 0, 5, .inl (nF (yL 2)))), (p3, .inl (g.2.1 0, 5, .inl (nF (yL 3)))), (p4, .inl (g.2.1 0, 5, .inl (nF (yL 4)))), (p5, .inl (g.2.1 0, 8, .inl (nF (yL 5)))), (p6, .inl (g.2.1 0, 8, .inl (nF (yL 6))))] (fun rv ws' => ∃ (zc : Nat) (zv : Nat) (zL : Nat → Nat → Nat), (zc = (pHs yT kl (yL 0 0) 6 yc 0 yA).2.1) ∧ (zc ≤ kl) ∧ (tkK yT kl zc = 2 → zv = nmV yT kl zc) ∧ (hsK (pHs yT kl (yL 0 0) 6 yc 0 yA) = 0 → zL 0 0 = yL 0 0 ∧ zL 0 1 = (pHs yT kl (yL 0 0) 6 yc 0 yA).2.2.1 ∧ zL 0 2 = yL 0 2 ∧ zL 5 = yL 5 ∧ zL 6 = yL 6 ∧ hqR zL (pHs yT kl (yL 0 0) 6 yc 0 yA).2.2.2 (pHs yT kl (yL 0 0) 6 yc 0 yA).2.2.1) ∧ rv = some (.int (gB (hsK (pHs yT kl (yL 0 0) 6 yc 0 yA) = 0))) ∧ ws' = [(ka, .inr (4, [.ref kb, .int (nI kl), .int (nI (tP yT kl zc)), .int (nI (tE yT kl zc)), .int (nI (tkK yT kl zc)), .int (nI zv), .int (nI (stsA kf (hsK (pHs yT kl (yL 0 0) 6 yc 0 yA))))])), (kb, .inl (g.2.1 1, 400, .inl (sgF yT))), (p0, .inr (0, [.int (nI (zL 0 0)), .int (nI (zL 0 1)), .int (nI (zL 0 2)), .ref p1, .ref p2, .ref p3, .ref p4, .ref p5, .ref p6])), (p1, .inl (g.2.1 0, 5, .inl (nF (zL 1)))), (p2, .inl (g.2.1 0, 5, .inl (nF (zL 2)))), (p3, .inl (g.2.1 0, 5, .inl (nF (zL 3)))), (p4, .inl (g.2.1 0, 5, .inl (nF (zL 4)))), (p5, .inl (g.2.1 0, 8, .inl (nF (zL 5)))), (p6, .inl (g.2.1 0, 8, .inl (nF (zL 6))))]) := by
  refine gCon.of (lv := [(0, .ref ka), (1, .ref p0)]) (by decide) (gLe rfl) rfl ?_
  have hte := tE_le (T := yT) hc
  have htk : tkK yT kl yc ≤ 4 := tkK_le
  refine j_aload_n 1 dX4_readHurdles_0 rfl 0 rfl ?_
  refine j_ldcS 3 1 dX4_readHurdles_1 rfl (by decide) rfl rfl ?_
  refine j_callV0 (rest := []) 6 [0, 1] (c_X4_isWord g ka kb kl kv kf yT (gK g 1) yc 1 h4 hT hc (by decide) rfl) [.int (gB (isWd yT (tP yT kl yc) (tE yT kl yc) 180505256 6))] [(ka, .inr (4, [.ref kb, .int (nI kl), .int (nI (tP yT kl yc)), .int (nI (tE yT kl yc)), .int (nI (tkK yT kl yc)), .int (nI kv), .int (nI kf)])), (kb, .inl (g.2.1 1, 400, .inl (sgF yT))), (p0, .inr (0, [.int (nI (yL 0 0)), .int (nI (yL 0 1)), .int (nI (yL 0 2)), .ref p1, .ref p2, .ref p3, .ref p4, .ref p5, .ref p6])), (p1, .inl (g.2.1 0, 5, .inl (nF (yL 1)))), (p2, .inl (g.2.1 0, 5, .inl (nF (yL 2)))), (p3, .inl (g.2.1 0, 5, .inl (nF (yL 3)))), (p4, .inl (g.2.1 0, 5, .inl (nF (yL 4)))), (p5, .inl (g.2.1 0, 8, .inl (nF (yL 5)))), (p6, .inl (g.2.1 0, 8, .inl (nF (yL 6))))] dX4_readHurdles_3 rfl cv_X4_52 rfl rfl rfl rfl 0 rfl rfl (gLe rfl) (gLe rfl) (gLe rfl) (gLe rfl) (gLe rfl) rfl rfl ?_
  refine j_if_neB 9 15 dX4_readHurdles_6 rfl rfl (fun h6 => ?_) (fun h6 => ?_)
  ·
    refine j_iconst (v := (0 : Int32)) 16 dX4_readHurdles_15 rfl (by decide) ?_
    refine j_istore_n 17 [(2, .int (0 : Int32)), (0, .ref ka), (1, .ref p0)] dX4_readHurdles_16 rfl (by decide) rfl ?_
    have hL17 : ∀ (zm17 : Nat) (zk : Nat) (zc : Nat) (zv : Nat) (zL : Nat → Nat → Nat) (zA : Nat → Nat), 5 - zk < zm17 → (zk ≤ 5) → (zc ≤ kl) → (tkK yT kl zc = 2 → zv = nmV yT kl zc) → (zL 0 1 = zk) → (zL 0 0 = yL 0 0) → (zL 0 2 = yL 0 2 ∧ zL 5 = yL 5 ∧ zL 6 = yL 6) → (hqR zL zA zk) → (pHs yT kl (yL 0 0) (6 - zk) zc zk zA = pHs yT kl (yL 0 0) 6 yc 0 yA) → (0 < zk ∨ isWd yT (tP yT kl zc) (tE yT kl zc) 180505256 6) → gJ g mX4_readHurdles 7 0 0 (fun k' j' rv ws' => k' ≤ 0 ∧ j' ≤ 0 ∧ (∃ (zc : Nat) (zv : Nat) (zL : Nat → Nat → Nat), (zc = (pHs yT kl (yL 0 0) 6 yc 0 yA).2.1) ∧ (zc ≤ kl) ∧ (tkK yT kl zc = 2 → zv = nmV yT kl zc) ∧ (hsK (pHs yT kl (yL 0 0) 6 yc 0 yA) = 0 → zL 0 0 = yL 0 0 ∧ zL 0 1 = (pHs yT kl (yL 0 0) 6 yc 0 yA).2.2.1 ∧ zL 0 2 = yL 0 2 ∧ zL 5 = yL 5 ∧ zL 6 = yL 6 ∧ hqR zL (pHs yT kl (yL 0 0) 6 yc 0 yA).2.2.2 (pHs yT kl (yL 0 0) 6 yc 0 yA).2.2.1) ∧ rv = some (.int (gB (hsK (pHs yT kl (yL 0 0) 6 yc 0 yA) = 0))) ∧ ws' = [(ka, .inr (4, [.ref kb, .int (nI kl), .int (nI (tP yT kl zc)), .int (nI (tE yT kl zc)), .int (nI (tkK yT kl zc)), .int (nI zv), .int (nI (stsA kf (hsK (pHs yT kl (yL 0 0) 6 yc 0 yA))))])), (kb, .inl (g.2.1 1, 400, .inl (sgF yT))), (p0, .inr (0, [.int (nI (zL 0 0)), .int (nI (zL 0 1)), .int (nI (zL 0 2)), .ref p1, .ref p2, .ref p3, .ref p4, .ref p5, .ref p6])), (p1, .inl (g.2.1 0, 5, .inl (nF (zL 1)))), (p2, .inl (g.2.1 0, 5, .inl (nF (zL 2)))), (p3, .inl (g.2.1 0, 5, .inl (nF (zL 3)))), (p4, .inl (g.2.1 0, 5, .inl (nF (zL 4)))), (p5, .inl (g.2.1 0, 8, .inl (nF (zL 5)))), (p6, .inl (g.2.1 0, 8, .inl (nF (zL 6))))])) 0 0 17 [(2, .int (nI zk)), (0, .ref ka), (1, .ref p0)] [] [(ka, .inr (4, [.ref kb, .int (nI kl), .int (nI (tP yT kl zc)), .int (nI (tE yT kl zc)), .int (nI (tkK yT kl zc)), .int (nI zv), .int (nI kf)])), (kb, .inl (g.2.1 1, 400, .inl (sgF yT))), (p0, .inr (0, [.int (nI (zL 0 0)), .int (nI (zL 0 1)), .int (nI (zL 0 2)), .ref p1, .ref p2, .ref p3, .ref p4, .ref p5, .ref p6])), (p1, .inl (g.2.1 0, 5, .inl (nF (zL 1)))), (p2, .inl (g.2.1 0, 5, .inl (nF (zL 2)))), (p3, .inl (g.2.1 0, 5, .inl (nF (zL 3)))), (p4, .inl (g.2.1 0, 5, .inl (nF (zL 4)))), (p5, .inl (g.2.1 0, 8, .inl (nF (zL 5)))), (p6, .inl (g.2.1 0, 8, .inl (nF (zL 6))))] := by
      intro zm17
      induction zm17 with
      | zero => intro zk zc zv zL zA zmh; exact absurd zmh (Nat.not_lt_zero _)
      | succ zm17 zih17 =>
        intro zk zc zv zL zA zmh17 hz5 hzl hzv hzk hzP hz2 hzq hzr hzw
        refine j_iload_n 18 dX4_readHurdles_17 rfl 0 rfl ?_
        refine j_iconst (v := (5 : Int32)) 19 dX4_readHurdles_18 rfl (by decide) ?_
        refine j_icmp_geN zk 5 22 55 dX4_readHurdles_19 rfl rfl (by omega) (by decide) (fun h19 => ?_) (fun h19 => ?_)
        ·
          refine j_aload_n 56 dX4_readHurdles_55 rfl 1 rfl ?_
          refine j_ldcS 58 1 dX4_readHurdles_56 rfl (by decide) rfl rfl ?_
          refine j_callV0 (rest := []) 61 [0, 1] (c_X4_isWord g ka kb kl zv kf yT (gK g 1) zc 1 h4 hT hzl (by decide) rfl) [.int (gB (isWd yT (tP yT kl zc) (tE yT kl zc) 180505256 6))] [(ka, .inr (4, [.ref kb, .int (nI kl), .int (nI (tP yT kl zc)), .int (nI (tE yT kl zc)), .int (nI (tkK yT kl zc)), .int (nI zv), .int (nI kf)])), (kb, .inl (g.2.1 1, 400, .inl (sgF yT))), (p0, .inr (0, [.int (nI (zL 0 0)), .int (nI (zL 0 1)), .int (nI (zL 0 2)), .ref p1, .ref p2, .ref p3, .ref p4, .ref p5, .ref p6])), (p1, .inl (g.2.1 0, 5, .inl (nF (zL 1)))), (p2, .inl (g.2.1 0, 5, .inl (nF (zL 2)))), (p3, .inl (g.2.1 0, 5, .inl (nF (zL 3)))), (p4, .inl (g.2.1 0, 5, .inl (nF (zL 4)))), (p5, .inl (g.2.1 0, 8, .inl (nF (zL 5)))), (p6, .inl (g.2.1 0, 8, .inl (nF (zL 6))))] dX4_readHurdles_58 rfl cv_X4_52 rfl rfl rfl rfl 0 rfl rfl (gLe rfl) (gLe rfl) (gLe rfl) (gLe rfl) (gLe rfl) rfl rfl ?_
          refine j_if_eqB 64 72 dX4_readHurdles_61 rfl rfl (fun h61 => ?_) (fun h61 => ?_)
          ·
            refine j_iconst (v := (1 : Int32)) 73 dX4_readHurdles_72 rfl (by decide) ?_
            refine j_goto 77 dX4_readHurdles_73 rfl ?_
            have h0 : ¬ zk = 0 := fun y => hzw.elim (fun y2 => by omega) h61
            have e1 : pHs yT kl (yL 0 0) 6 yc 0 yA = (0, zc, zk, zA) := by rw [← hzr, show 6 - zk = (5 - zk) + 1 by omega, pHs, if_neg h61]
            have e2 : hsK (pHs yT kl (yL 0 0) 6 yc 0 yA) = 0 := by rw [e1, hsK, if_neg (fun y => y rfl), if_neg h0]
            refine j_iret dX4_readHurdles_77 rfl (by decide) ⟨gLe rfl, gLe rfl, ?_⟩
            rw [e2, e1]
            exact ⟨zc, zv, zL, rfl, hzl, hzv, (fun _ => ⟨hzP, hzk, hz2.1, hz2.2.1, hz2.2.2, hzq⟩), rfl, rfl⟩
          ·
            refine j_aload_n 65 dX4_readHurdles_64 rfl 1 rfl ?_
            refine j_iconst (v := (3 : Int32)) 66 dX4_readHurdles_65 rfl (by decide) ?_
            refine j_callV0 (rest := []) 69 [0, 1] (c_X4_faulty g ka kb kl (tP yT kl zc) (tE yT kl zc) (tkK yT kl zc) zv kf yT 3 ) [.int (gB (False))] [(ka, .inr (4, [.ref kb, .int (nI kl), .int (nI (tP yT kl zc)), .int (nI (tE yT kl zc)), .int (nI (tkK yT kl zc)), .int (nI zv), .int (nI 3)])), (kb, .inl (g.2.1 1, 400, .inl (sgF yT))), (p0, .inr (0, [.int (nI (zL 0 0)), .int (nI (zL 0 1)), .int (nI (zL 0 2)), .ref p1, .ref p2, .ref p3, .ref p4, .ref p5, .ref p6])), (p1, .inl (g.2.1 0, 5, .inl (nF (zL 1)))), (p2, .inl (g.2.1 0, 5, .inl (nF (zL 2)))), (p3, .inl (g.2.1 0, 5, .inl (nF (zL 3)))), (p4, .inl (g.2.1 0, 5, .inl (nF (zL 4)))), (p5, .inl (g.2.1 0, 8, .inl (nF (zL 5)))), (p6, .inl (g.2.1 0, 8, .inl (nF (zL 6))))] dX4_readHurdles_66 rfl cv_X4_56 rfl rfl rfl rfl 0 rfl rfl (gLe rfl) (gLe rfl) (gLe rfl) (gLe rfl) (gLe rfl) rfl rfl ?_
            refine j_if_eqB 72 76 dX4_readHurdles_69 rfl rfl (fun h69 => ?_) (fun h69 => h69.elim)
            refine j_iconst (v := (0 : Int32)) 77 dX4_readHurdles_76 rfl (by decide) ?_
            have h5 : zk = 5 := by first | exact absurd h61 h28 | omega
            have e1 : pHs yT kl (yL 0 0) 6 yc 0 yA = (3, zc, 5, zA) := by rw [← hzr, h5, pHs, if_pos h61, show pHur yT kl (yL 0 0) 5 zc = (3, zc, 0, 0, 0, 0) from if_pos rfl, if_neg (show ¬ (3 : Nat) = 0 by decide)]
            have e2 : hsK (pHs yT kl (yL 0 0) 6 yc 0 yA) = 3 := by rw [e1]; rfl
            refine j_iret dX4_readHurdles_77 rfl (by decide) ⟨gLe rfl, gLe rfl, ?_⟩
            rw [e2, e1]
            exact ⟨zc, zv, zL, rfl, hzl, hzv, (fun y => absurd y (show ¬ (3 : Nat) = 0 by decide)), rfl, rfl⟩
        ·
          refine j_aload_n 23 dX4_readHurdles_22 rfl 1 rfl ?_
          refine j_ldcS 25 1 dX4_readHurdles_23 rfl (by decide) rfl rfl ?_
          refine j_callV0 (rest := []) 28 [0, 1] (c_X4_isWord g ka kb kl zv kf yT (gK g 1) zc 1 h4 hT hzl (by decide) rfl) [.int (gB (isWd yT (tP yT kl zc) (tE yT kl zc) 180505256 6))] [(ka, .inr (4, [.ref kb, .int (nI kl), .int (nI (tP yT kl zc)), .int (nI (tE yT kl zc)), .int (nI (tkK yT kl zc)), .int (nI zv), .int (nI kf)])), (kb, .inl (g.2.1 1, 400, .inl (sgF yT))), (p0, .inr (0, [.int (nI (zL 0 0)), .int (nI (zL 0 1)), .int (nI (zL 0 2)), .ref p1, .ref p2, .ref p3, .ref p4, .ref p5, .ref p6])), (p1, .inl (g.2.1 0, 5, .inl (nF (zL 1)))), (p2, .inl (g.2.1 0, 5, .inl (nF (zL 2)))), (p3, .inl (g.2.1 0, 5, .inl (nF (zL 3)))), (p4, .inl (g.2.1 0, 5, .inl (nF (zL 4)))), (p5, .inl (g.2.1 0, 8, .inl (nF (zL 5)))), (p6, .inl (g.2.1 0, 8, .inl (nF (zL 6))))] dX4_readHurdles_25 rfl cv_X4_52 rfl rfl rfl rfl 0 rfl rfl (gLe rfl) (gLe rfl) (gLe rfl) (gLe rfl) (gLe rfl) rfl rfl ?_
          refine j_if_eqB 31 55 dX4_readHurdles_28 rfl rfl (fun h28 => ?_) (fun h28 => ?_)
          ·
            refine j_aload_n 56 dX4_readHurdles_55 rfl 1 rfl ?_
            refine j_ldcS 58 1 dX4_readHurdles_56 rfl (by decide) rfl rfl ?_
            refine j_callV0 (rest := []) 61 [0, 1] (c_X4_isWord g ka kb kl zv kf yT (gK g 1) zc 1 h4 hT hzl (by decide) rfl) [.int (gB (isWd yT (tP yT kl zc) (tE yT kl zc) 180505256 6))] [(ka, .inr (4, [.ref kb, .int (nI kl), .int (nI (tP yT kl zc)), .int (nI (tE yT kl zc)), .int (nI (tkK yT kl zc)), .int (nI zv), .int (nI kf)])), (kb, .inl (g.2.1 1, 400, .inl (sgF yT))), (p0, .inr (0, [.int (nI (zL 0 0)), .int (nI (zL 0 1)), .int (nI (zL 0 2)), .ref p1, .ref p2, .ref p3, .ref p4, .ref p5, .ref p6])), (p1, .inl (g.2.1 0, 5, .inl (nF (zL 1)))), (p2, .inl (g.2.1 0, 5, .inl (nF (zL 2)))), (p3, .inl (g.2.1 0, 5, .inl (nF (zL 3)))), (p4, .inl (g.2.1 0, 5, .inl (nF (zL 4)))), (p5, .inl (g.2.1 0, 8, .inl (nF (zL 5)))), (p6, .inl (g.2.1 0, 8, .inl (nF (zL 6))))] dX4_readHurdles_58 rfl cv_X4_52 rfl rfl rfl rfl 0 rfl rfl (gLe rfl) (gLe rfl) (gLe rfl) (gLe rfl) (gLe rfl) rfl rfl ?_
            refine j_if_eqB 64 72 dX4_readHurdles_61 rfl rfl (fun h61 => ?_) (fun h61 => ?_)
            ·
              refine j_iconst (v := (1 : Int32)) 73 dX4_readHurdles_72 rfl (by decide) ?_
              refine j_goto 77 dX4_readHurdles_73 rfl ?_
              have h0 : ¬ zk = 0 := fun y => hzw.elim (fun y2 => by omega) h61
              have e1 : pHs yT kl (yL 0 0) 6 yc 0 yA = (0, zc, zk, zA) := by rw [← hzr, show 6 - zk = (5 - zk) + 1 by omega, pHs, if_neg h61]
              have e2 : hsK (pHs yT kl (yL 0 0) 6 yc 0 yA) = 0 := by rw [e1, hsK, if_neg (fun y => y rfl), if_neg h0]
              refine j_iret dX4_readHurdles_77 rfl (by decide) ⟨gLe rfl, gLe rfl, ?_⟩
              rw [e2, e1]
              exact ⟨zc, zv, zL, rfl, hzl, hzv, (fun _ => ⟨hzP, hzk, hz2.1, hz2.2.1, hz2.2.2, hzq⟩), rfl, rfl⟩
            ·
              refine j_aload_n 65 dX4_readHurdles_64 rfl 1 rfl ?_
              refine j_iconst (v := (3 : Int32)) 66 dX4_readHurdles_65 rfl (by decide) ?_
              refine j_callV0 (rest := []) 69 [0, 1] (c_X4_faulty g ka kb kl (tP yT kl zc) (tE yT kl zc) (tkK yT kl zc) zv kf yT 3 ) [.int (gB (False))] [(ka, .inr (4, [.ref kb, .int (nI kl), .int (nI (tP yT kl zc)), .int (nI (tE yT kl zc)), .int (nI (tkK yT kl zc)), .int (nI zv), .int (nI 3)])), (kb, .inl (g.2.1 1, 400, .inl (sgF yT))), (p0, .inr (0, [.int (nI (zL 0 0)), .int (nI (zL 0 1)), .int (nI (zL 0 2)), .ref p1, .ref p2, .ref p3, .ref p4, .ref p5, .ref p6])), (p1, .inl (g.2.1 0, 5, .inl (nF (zL 1)))), (p2, .inl (g.2.1 0, 5, .inl (nF (zL 2)))), (p3, .inl (g.2.1 0, 5, .inl (nF (zL 3)))), (p4, .inl (g.2.1 0, 5, .inl (nF (zL 4)))), (p5, .inl (g.2.1 0, 8, .inl (nF (zL 5)))), (p6, .inl (g.2.1 0, 8, .inl (nF (zL 6))))] dX4_readHurdles_66 rfl cv_X4_56 rfl rfl rfl rfl 0 rfl rfl (gLe rfl) (gLe rfl) (gLe rfl) (gLe rfl) (gLe rfl) rfl rfl ?_
              refine j_if_eqB 72 76 dX4_readHurdles_69 rfl rfl (fun h69 => ?_) (fun h69 => h69.elim)
              refine j_iconst (v := (0 : Int32)) 77 dX4_readHurdles_76 rfl (by decide) ?_
              have h5 : zk = 5 := by first | exact absurd h61 h28 | omega
              have e1 : pHs yT kl (yL 0 0) 6 yc 0 yA = (3, zc, 5, zA) := by rw [← hzr, h5, pHs, if_pos h61, show pHur yT kl (yL 0 0) 5 zc = (3, zc, 0, 0, 0, 0) from if_pos rfl, if_neg (show ¬ (3 : Nat) = 0 by decide)]
              have e2 : hsK (pHs yT kl (yL 0 0) 6 yc 0 yA) = 3 := by rw [e1]; rfl
              refine j_iret dX4_readHurdles_77 rfl (by decide) ⟨gLe rfl, gLe rfl, ?_⟩
              rw [e2, e1]
              exact ⟨zc, zv, zL, rfl, hzl, hzv, (fun y => absurd y (show ¬ (3 : Nat) = 0 by decide)), rfl, rfl⟩
          ·
            refine j_aload_n 32 dX4_readHurdles_31 rfl 1 rfl ?_
            refine j_callVe (rest := []) 35 [0, 1] (c_X4_next g ka kb kl (tP yT kl zc) (tE yT kl zc) (tkK yT kl zc) zv kf yT h4 hT (tE_le (T := yT) hzl).2.1) dX4_readHurdles_32 rfl cv_X4_37 rfl rfl rfl rfl 0 rfl rfl (gLe rfl) (gLe rfl) (gLe rfl) (gLe rfl) (fun rv w1 hp => ?_)
            obtain ⟨zv_1, hzv_1, rfl, rfl⟩ := hp
            refine ⟨gLe rfl, ?_⟩
            refine j_eq (lv2 := [(2, .int (nI zk)), (0, .ref ka), (1, .ref p0)]) (st2 := []) (ws2 := [(ka, .inr (4, [.ref kb, .int (nI kl), .int (nI (tP yT kl (tE yT kl zc))), .int (nI (tE yT kl (tE yT kl zc))), .int (nI (tkK yT kl (tE yT kl zc))), .int (nI zv_1), .int (nI kf)])), (kb, .inl (g.2.1 1, 400, .inl (sgF yT))), (p0, .inr (0, [.int (nI (zL 0 0)), .int (nI (zL 0 1)), .int (nI (zL 0 2)), .ref p1, .ref p2, .ref p3, .ref p4, .ref p5, .ref p6])), (p1, .inl (g.2.1 0, 5, .inl (nF (zL 1)))), (p2, .inl (g.2.1 0, 5, .inl (nF (zL 2)))), (p3, .inl (g.2.1 0, 5, .inl (nF (zL 3)))), (p4, .inl (g.2.1 0, 5, .inl (nF (zL 4)))), (p5, .inl (g.2.1 0, 8, .inl (nF (zL 5)))), (p6, .inl (g.2.1 0, 8, .inl (nF (zL 6))))]) rfl rfl rfl ?_
            refine j_aload_n 36 dX4_readHurdles_35 rfl 1 rfl ?_
            refine j_aload_n 37 dX4_readHurdles_36 rfl 2 rfl ?_
            refine j_callVe (rest := []) 40 [0, 1, 2, 3, 4, 5, 6, 7, 8] (c_X4_readHurdle g ka kb kl zv_1 kf yT p0 p1 p2 p3 p4 p5 p6 zL (tE yT kl zc) h4 hT (tE_le (T := yT) hzl).2.1 hzv_1 (by rw [hzP]; exact h66) (by omega)) dX4_readHurdles_37 rfl cv_X4_73 rfl rfl rfl rfl 0 rfl rfl (gLe rfl) (gLe rfl) (gLe rfl) (gLe rfl) (fun rv w1 hp => ?_)
            obtain ⟨zc_2, zv_2, zL_2, hz1_2, hz2_2, hzl_2, hzv_2, hzL_2, rfl, rfl⟩ := hp
            refine ⟨gLe rfl, ?_⟩
            refine j_eq (lv2 := [(2, .int (nI zk)), (0, .ref ka), (1, .ref p0)]) (st2 := [.int (gB ((pHuA yT kl (zL 0 0) (zL 0 1) (tE yT kl zc)).1 = 0))]) (ws2 := [(ka, .inr (4, [.ref kb, .int (nI kl), .int (nI (tP yT kl zc_2)), .int (nI (tE yT kl zc_2)), .int (nI (tkK yT kl zc_2)), .int (nI zv_2), .int (nI (stsA kf (pHuA yT kl (zL 0 0) (zL 0 1) (tE yT kl zc)).1))])), (kb, .inl (g.2.1 1, 400, .inl (sgF yT))), (p0, .inr (0, [.int (nI (zL_2 0 0)), .int (nI (zL_2 0 1)), .int (nI (zL_2 0 2)), .ref p1, .ref p2, .ref p3, .ref p4, .ref p5, .ref p6])), (p1, .inl (g.2.1 0, 5, .inl (nF (zL_2 1)))), (p2, .inl (g.2.1 0, 5, .inl (nF (zL_2 2)))), (p3, .inl (g.2.1 0, 5, .inl (nF (zL_2 3)))), (p4, .inl (g.2.1 0, 5, .inl (nF (zL_2 4)))), (p5, .inl (g.2.1 0, 8, .inl (nF (zL_2 5)))), (p6, .inl (g.2.1 0, 8, .inl (nF (zL_2 6))))]) rfl rfl rfl ?_
            refine j_if_neB 43 45 dX4_readHurdles_40 rfl rfl (fun h40 => ?_) (fun h40 => ?_)
            ·
              refine j_ws [(ka, .inr (4, [.ref kb, .int (nI kl), .int (nI (tP yT kl zc_2)), .int (nI (tE yT kl zc_2)), .int (nI (tkK yT kl zc_2)), .int (nI zv_2), .int (nI kf)])), (kb, .inl (g.2.1 1, 400, .inl (sgF yT))), (p0, .inr (0, [.int (nI (zL_2 0 0)), .int (nI (zL_2 0 1)), .int (nI (zL_2 0 2)), .ref p1, .ref p2, .ref p3, .ref p4, .ref p5, .ref p6])), (p1, .inl (g.2.1 0, 5, .inl (nF (zL_2 1)))), (p2, .inl (g.2.1 0, 5, .inl (nF (zL_2 2)))), (p3, .inl (g.2.1 0, 5, .inl (nF (zL_2 3)))), (p4, .inl (g.2.1 0, 5, .inl (nF (zL_2 4)))), (p5, .inl (g.2.1 0, 8, .inl (nF (zL_2 5)))), (p6, .inl (g.2.1 0, 8, .inl (nF (zL_2 6))))] (by rw [show (stsA kf (pHuA yT kl (zL 0 0) (zL 0 1) (tE yT kl zc)).1) = kf from stsA_0 h40]) ?_
              refine j_aload_n 46 dX4_readHurdles_45 rfl 1 rfl ?_
              refine j_callVe (rest := []) 49 [0, 1] (c_X4_next g ka kb kl (tP yT kl zc_2) (tE yT kl zc_2) (tkK yT kl zc_2) zv_2 kf yT h4 hT (tE_le (T := yT) hzl_2).2.1) dX4_readHurdles_46 rfl cv_X4_37 rfl rfl rfl rfl 0 rfl rfl (gLe rfl) (gLe rfl) (gLe rfl) (gLe rfl) (fun rv w1 hp => ?_)
              obtain ⟨zv_3, hzv_3, rfl, rfl⟩ := hp
              refine ⟨gLe rfl, ?_⟩
              refine j_eq (lv2 := [(2, .int (nI zk)), (0, .ref ka), (1, .ref p0)]) (st2 := []) (ws2 := [(ka, .inr (4, [.ref kb, .int (nI kl), .int (nI (tP yT kl (tE yT kl zc_2))), .int (nI (tE yT kl (tE yT kl zc_2))), .int (nI (tkK yT kl (tE yT kl zc_2))), .int (nI zv_3), .int (nI kf)])), (kb, .inl (g.2.1 1, 400, .inl (sgF yT))), (p0, .inr (0, [.int (nI (zL_2 0 0)), .int (nI (zL_2 0 1)), .int (nI (zL_2 0 2)), .ref p1, .ref p2, .ref p3, .ref p4, .ref p5, .ref p6])), (p1, .inl (g.2.1 0, 5, .inl (nF (zL_2 1)))), (p2, .inl (g.2.1 0, 5, .inl (nF (zL_2 2)))), (p3, .inl (g.2.1 0, 5, .inl (nF (zL_2 3)))), (p4, .inl (g.2.1 0, 5, .inl (nF (zL_2 4)))), (p5, .inl (g.2.1 0, 8, .inl (nF (zL_2 5)))), (p6, .inl (g.2.1 0, 8, .inl (nF (zL_2 6))))]) rfl rfl rfl ?_
              refine j_iincN zk 1 52 [(2, .int (nI (zk + 1))), (0, .ref ka), (1, .ref p0)] dX4_readHurdles_49 rfl 0 rfl (by decide) rfl ?_
              refine j_goto 17 dX4_readHurdles_52 rfl ?_
              refine j_lv [0, 1, 2] rfl ?_
              have ef : pHur yT kl (yL 0 0) zk zc = pHuA yT kl (yL 0 0) zk (tE yT kl zc) := if_neg (by omega)
              have hfk : (pHur yT kl (yL 0 0) zk zc).1 = 0 := by rw [ef, ← hzP, ← hzk]; exact h40
              have heL := hzL_2 h40
              have ecc : tE yT kl zc_2 = (pHur yT kl (yL 0 0) zk zc).2.1 := by rw [hz2_2 h40, hzP, hzk, ef]
              rw [hzP, hzk, ← ef] at heL
              refine j_ws [(ka, .inr (4, [.ref kb, .int (nI kl), .int (nI (tP yT kl ((pHur yT kl (yL 0 0) zk zc).2.1))), .int (nI (tE yT kl ((pHur yT kl (yL 0 0) zk zc).2.1))), .int (nI (tkK yT kl ((pHur yT kl (yL 0 0) zk zc).2.1))), .int (nI zv_3), .int (nI kf)])), (kb, .inl (g.2.1 1, 400, .inl (sgF yT))), (p0, .inr (0, [.int (nI (zL_2 0 0)), .int (nI (zL_2 0 1)), .int (nI (zL_2 0 2)), .ref p1, .ref p2, .ref p3, .ref p4, .ref p5, .ref p6])), (p1, .inl (g.2.1 0, 5, .inl (nF (zL_2 1)))), (p2, .inl (g.2.1 0, 5, .inl (nF (zL_2 2)))), (p3, .inl (g.2.1 0, 5, .inl (nF (zL_2 3)))), (p4, .inl (g.2.1 0, 5, .inl (nF (zL_2 4)))), (p5, .inl (g.2.1 0, 8, .inl (nF (zL_2 5)))), (p6, .inl (g.2.1 0, 8, .inl (nF (zL_2 6))))] (by rw [ecc]) ?_
              exact zih17 (zk + 1) ((pHur yT kl (yL 0 0) zk zc).2.1) zv_3 zL_2 (upH zA zk (pHur yT kl (yL 0 0) zk zc).2.2.1 (pHur yT kl (yL 0 0) zk zc).2.2.2.1 (pHur yT kl (yL 0 0) zk zc).2.2.2.2.1 (pHur yT kl (yL 0 0) zk zc).2.2.2.2.2) (by omega) (by omega) (by rw [← ecc]; exact (tE_le (T := yT) hzl_2).2.1) (by rw [← ecc]; exact hzv_3) (by rw [heL]; show zL 0 1 + 1 = _; omega) (by rw [heL]; exact hzP) (by rw [heL]; exact hz2) (by rw [heL]; exact hqR_s hzq hzk) (by rw [← hzr, show 6 - zk = (6 - (zk + 1)) + 1 by omega, pHs, if_pos h28, if_pos hfk]) (Or.inl (Nat.succ_pos _))
            ·
              refine j_iconst (v := (0 : Int32)) 44 dX4_readHurdles_43 rfl (by decide) ?_
              have ef : pHur yT kl (yL 0 0) zk zc = pHuA yT kl (yL 0 0) zk (tE yT kl zc) := if_neg (by omega)
              have hfk : ¬ (pHur yT kl (yL 0 0) zk zc).1 = 0 := by rw [ef, ← hzP, ← hzk]; exact h40
              have e1 : pHs yT kl (yL 0 0) 6 yc 0 yA = ((pHur yT kl (yL 0 0) zk zc).1, (pHur yT kl (yL 0 0) zk zc).2.1, zk, zA) := by rw [← hzr, show 6 - zk = (5 - zk) + 1 by omega, pHs, if_pos h28, if_neg hfk]
              have e2 : hsK (pHs yT kl (yL 0 0) 6 yc 0 yA) = (pHur yT kl (yL 0 0) zk zc).1 := by rw [e1, hsK, if_pos hfk]
              have ecc : zc_2 = (pHur yT kl (yL 0 0) zk zc).2.1 := by rw [hz1_2 h40, hzP, hzk, ef]
              have ek : (pHuA yT kl (zL 0 0) (zL 0 1) (tE yT kl zc)).1 = (pHur yT kl (yL 0 0) zk zc).1 := by rw [ef, hzP, hzk]
              refine j_iret dX4_readHurdles_44 rfl (by decide) ⟨gLe rfl, gLe rfl, ?_⟩
              rw [e2, ek, e1]
              exact ⟨zc_2, zv_2, zL_2, ecc, hzl_2, hzv_2, (fun y => absurd y hfk), congrArg (fun z => some (Value.int z)) (gB_f hfk).symm, rfl⟩
    refine j_lv [0, 1, 2] rfl ?_
    exact hL17 _ 0 yc kv yL yA (Nat.lt_succ_self _) (by decide) hc hv hH rfl ⟨rfl, rfl, rfl⟩ (fun h hh => absurd hh (Nat.not_lt_zero _)) rfl (Or.inr h6)
  ·
    refine j_aload_n 10 dX4_readHurdles_9 rfl 0 rfl ?_
    refine j_iconst (v := (1 : Int32)) 11 dX4_readHurdles_10 rfl (by decide) ?_
    refine j_callV0 (rest := []) 14 [0, 1] (c_X4_faulty g ka kb kl (tP yT kl yc) (tE yT kl yc) (tkK yT kl yc) kv kf yT 1 ) [.int (gB (False))] [(ka, .inr (4, [.ref kb, .int (nI kl), .int (nI (tP yT kl yc)), .int (nI (tE yT kl yc)), .int (nI (tkK yT kl yc)), .int (nI kv), .int (nI 1)])), (kb, .inl (g.2.1 1, 400, .inl (sgF yT))), (p0, .inr (0, [.int (nI (yL 0 0)), .int (nI (yL 0 1)), .int (nI (yL 0 2)), .ref p1, .ref p2, .ref p3, .ref p4, .ref p5, .ref p6])), (p1, .inl (g.2.1 0, 5, .inl (nF (yL 1)))), (p2, .inl (g.2.1 0, 5, .inl (nF (yL 2)))), (p3, .inl (g.2.1 0, 5, .inl (nF (yL 3)))), (p4, .inl (g.2.1 0, 5, .inl (nF (yL 4)))), (p5, .inl (g.2.1 0, 8, .inl (nF (yL 5)))), (p6, .inl (g.2.1 0, 8, .inl (nF (yL 6))))] dX4_readHurdles_11 rfl cv_X4_56 rfl rfl rfl rfl 0 rfl rfl (gLe rfl) (gLe rfl) (gLe rfl) (gLe rfl) (gLe rfl) rfl rfl ?_
    have e1 : pHs yT kl (yL 0 0) 6 yc 0 yA = (0, yc, 0, yA) := by rw [pHs, if_neg h6]
    refine j_iret dX4_readHurdles_14 rfl gB_nar ⟨gLe rfl, gLe rfl, ?_⟩
    rw [e1]
    exact ⟨yc, kv, yL, rfl, hc, hv, (fun y => absurd (show (1 : Nat) = 0 from y) (by decide)), rfl, rfl⟩
set_option maxRecDepth 20000 in
theorem c_X4_readBeasts (g : gG) (ka : Nat) (kb : Nat) (kl : Nat) (kv : Nat) (kf : Nat) (yT : Nat → Nat) (p0 : Nat) (p1 : Nat) (p2 : Nat) (p3 : Nat) (p4 : Nat) (p5 : Nat) (p6 : Nat) (yL : Nat → Nat → Nat)  (yc : Nat) (yA : Nat → Nat) (h4 : kl ≤ 400) (hT : ∀ x, yT x < 256) (hc : yc ≤ kl) (hv : tkK yT kl yc = 2 → kv = nmV yT kl yc) (hB : yL 0 2 = 0) : gCon g mX4_readBeasts 7 0 0 [.ref ka, .ref p0] [(ka, .inr (4, [.ref kb, .int (nI kl), .int (nI (tP yT kl yc)), .int (nI (tE yT kl yc)), .int (nI (tkK yT kl yc)), .int (nI kv), .int (nI kf)])), (kb, .inl (g.2.1 1, 400, .inl (sgF yT))), (p0, .inr (0, [.int (nI (yL 0 0)), .int (nI (yL 0 1)), .int (nI (yL 0 2)), .ref p1, .ref p2, .ref p3, .ref p4, .ref p5, .ref p6])), (p1, .inl (g.2.1 0, 5, .inl (nF (yL 1)))), (p2, .inl (g.2.1 0, 5, .inl (nF (yL 2)))), (p3, .inl (g.2.1 0, 5, .inl (nF (yL 3)))), (p4, .inl (g.2.1 0, 5, .inl (nF (yL 4)))), (p5, .inl (g.2.1 0, 8, .inl (nF (yL 5)))), (p6, .inl (g.2.1 0, 8, .inl (nF (yL 6))))] (fun rv ws' => ∃ (zc : Nat) (zv : Nat) (zL : Nat → Nat → Nat), (zc = (pBs yT kl 9 yc 0 yA).2.1) ∧ (zc ≤ kl) ∧ (tkK yT kl zc = 2 → zv = nmV yT kl zc) ∧ (bsK yT kl (pBs yT kl 9 yc 0 yA) = 0 → (zL 0 0 = yL 0 0 ∧ zL 0 1 = yL 0 1) ∧ zL 0 2 = (pBs yT kl 9 yc 0 yA).2.2.1 ∧ (zL 1 = yL 1 ∧ zL 2 = yL 2 ∧ zL 3 = yL 3 ∧ zL 4 = yL 4) ∧ bqR zL (pBs yT kl 9 yc 0 yA).2.2.2 (pBs yT kl 9 yc 0 yA).2.2.1) ∧ rv = some (.int (gB (bsK yT kl (pBs yT kl 9 yc 0 yA) = 0))) ∧ ws' = [(ka, .inr (4, [.ref kb, .int (nI kl), .int (nI (tP yT kl zc)), .int (nI (tE yT kl zc)), .int (nI (tkK yT kl zc)), .int (nI zv), .int (nI (stsA kf (bsK yT kl (pBs yT kl 9 yc 0 yA))))])), (kb, .inl (g.2.1 1, 400, .inl (sgF yT))), (p0, .inr (0, [.int (nI (zL 0 0)), .int (nI (zL 0 1)), .int (nI (zL 0 2)), .ref p1, .ref p2, .ref p3, .ref p4, .ref p5, .ref p6])), (p1, .inl (g.2.1 0, 5, .inl (nF (zL 1)))), (p2, .inl (g.2.1 0, 5, .inl (nF (zL 2)))), (p3, .inl (g.2.1 0, 5, .inl (nF (zL 3)))), (p4, .inl (g.2.1 0, 5, .inl (nF (zL 4)))), (p5, .inl (g.2.1 0, 8, .inl (nF (zL 5)))), (p6, .inl (g.2.1 0, 8, .inl (nF (zL 6))))]) := by
  refine gCon.of (lv := [(0, .ref ka), (1, .ref p0)]) (by decide) (gLe rfl) rfl ?_
  have hte := tE_le (T := yT) hc
  have htk : tkK yT kl yc ≤ 4 := tkK_le
  refine j_iconst (v := (0 : Int32)) 1 dX4_readBeasts_0 rfl (by decide) ?_
  refine j_istore_n 2 [(2, .int (0 : Int32)), (0, .ref ka), (1, .ref p0)] dX4_readBeasts_1 rfl (by decide) rfl ?_
  have hL2 : ∀ (zm2 : Nat) (zk : Nat) (zc : Nat) (zv : Nat) (zL : Nat → Nat → Nat) (zA : Nat → Nat), 8 - zk < zm2 → (zk ≤ 8) → (zc ≤ kl) → (tkK yT kl zc = 2 → zv = nmV yT kl zc) → (zL 0 2 = zk) → ((zL 0 0 = yL 0 0 ∧ zL 0 1 = yL 0 1) ∧ (zL 1 = yL 1 ∧ zL 2 = yL 2 ∧ zL 3 = yL 3 ∧ zL 4 = yL 4)) → (bqR zL zA zk) → (pBs yT kl (9 - zk) zc zk zA = pBs yT kl 9 yc 0 yA) → gJ g mX4_readBeasts 7 0 0 (fun k' j' rv ws' => k' ≤ 0 ∧ j' ≤ 0 ∧ (∃ (zc : Nat) (zv : Nat) (zL : Nat → Nat → Nat), (zc = (pBs yT kl 9 yc 0 yA).2.1) ∧ (zc ≤ kl) ∧ (tkK yT kl zc = 2 → zv = nmV yT kl zc) ∧ (bsK yT kl (pBs yT kl 9 yc 0 yA) = 0 → (zL 0 0 = yL 0 0 ∧ zL 0 1 = yL 0 1) ∧ zL 0 2 = (pBs yT kl 9 yc 0 yA).2.2.1 ∧ (zL 1 = yL 1 ∧ zL 2 = yL 2 ∧ zL 3 = yL 3 ∧ zL 4 = yL 4) ∧ bqR zL (pBs yT kl 9 yc 0 yA).2.2.2 (pBs yT kl 9 yc 0 yA).2.2.1) ∧ rv = some (.int (gB (bsK yT kl (pBs yT kl 9 yc 0 yA) = 0))) ∧ ws' = [(ka, .inr (4, [.ref kb, .int (nI kl), .int (nI (tP yT kl zc)), .int (nI (tE yT kl zc)), .int (nI (tkK yT kl zc)), .int (nI zv), .int (nI (stsA kf (bsK yT kl (pBs yT kl 9 yc 0 yA))))])), (kb, .inl (g.2.1 1, 400, .inl (sgF yT))), (p0, .inr (0, [.int (nI (zL 0 0)), .int (nI (zL 0 1)), .int (nI (zL 0 2)), .ref p1, .ref p2, .ref p3, .ref p4, .ref p5, .ref p6])), (p1, .inl (g.2.1 0, 5, .inl (nF (zL 1)))), (p2, .inl (g.2.1 0, 5, .inl (nF (zL 2)))), (p3, .inl (g.2.1 0, 5, .inl (nF (zL 3)))), (p4, .inl (g.2.1 0, 5, .inl (nF (zL 4)))), (p5, .inl (g.2.1 0, 8, .inl (nF (zL 5)))), (p6, .inl (g.2.1 0, 8, .inl (nF (zL 6))))])) 0 0 2 [(2, .int (nI zk)), (0, .ref ka), (1, .ref p0)] [] [(ka, .inr (4, [.ref kb, .int (nI kl), .int (nI (tP yT kl zc)), .int (nI (tE yT kl zc)), .int (nI (tkK yT kl zc)), .int (nI zv), .int (nI kf)])), (kb, .inl (g.2.1 1, 400, .inl (sgF yT))), (p0, .inr (0, [.int (nI (zL 0 0)), .int (nI (zL 0 1)), .int (nI (zL 0 2)), .ref p1, .ref p2, .ref p3, .ref p4, .ref p5, .ref p6])), (p1, .inl (g.2.1 0, 5, .inl (nF (zL 1)))), (p2, .inl (g.2.1 0, 5, .inl (nF (zL 2)))), (p3, .inl (g.2.1 0, 5, .inl (nF (zL 3)))), (p4, .inl (g.2.1 0, 5, .inl (nF (zL 4)))), (p5, .inl (g.2.1 0, 8, .inl (nF (zL 5)))), (p6, .inl (g.2.1 0, 8, .inl (nF (zL 6))))] := by
    intro zm2
    induction zm2 with
    | zero => intro zk zc zv zL zA zmh; exact absurd zmh (Nat.not_lt_zero _)
    | succ zm2 zih2 =>
      intro zk zc zv zL zA zmh2 hz5 hzl hzv hzk hz2 hzq hzr
      refine j_iload_n 3 dX4_readBeasts_2 rfl 0 rfl ?_
      refine j_bipush (v := (8 : Int32)) 5 dX4_readBeasts_3 rfl (by decide) ?_
      refine j_icmp_geN zk 8 8 41 dX4_readBeasts_5 rfl rfl (by omega) (by decide) (fun h5 => ?_) (fun h5 => ?_)
      ·
        refine j_aload_n 42 dX4_readBeasts_41 rfl 1 rfl ?_
        refine j_ldcS 44 2 dX4_readBeasts_42 rfl (by decide) rfl rfl ?_
        refine j_callV0 (rest := []) 47 [0, 1] (c_X4_isWord g ka kb kl zv kf yT (gK g 2) zc 2 h4 hT hzl (by decide) rfl) [.int (gB (isWd yT (tP yT kl zc) (tE yT kl zc) 21595298 5))] [(ka, .inr (4, [.ref kb, .int (nI kl), .int (nI (tP yT kl zc)), .int (nI (tE yT kl zc)), .int (nI (tkK yT kl zc)), .int (nI zv), .int (nI kf)])), (kb, .inl (g.2.1 1, 400, .inl (sgF yT))), (p0, .inr (0, [.int (nI (zL 0 0)), .int (nI (zL 0 1)), .int (nI (zL 0 2)), .ref p1, .ref p2, .ref p3, .ref p4, .ref p5, .ref p6])), (p1, .inl (g.2.1 0, 5, .inl (nF (zL 1)))), (p2, .inl (g.2.1 0, 5, .inl (nF (zL 2)))), (p3, .inl (g.2.1 0, 5, .inl (nF (zL 3)))), (p4, .inl (g.2.1 0, 5, .inl (nF (zL 4)))), (p5, .inl (g.2.1 0, 8, .inl (nF (zL 5)))), (p6, .inl (g.2.1 0, 8, .inl (nF (zL 6))))] dX4_readBeasts_44 rfl cv_X4_52 rfl rfl rfl rfl 0 rfl rfl (gLe rfl) (gLe rfl) (gLe rfl) (gLe rfl) (gLe rfl) rfl rfl ?_
        refine j_if_eqB 50 56 dX4_readBeasts_47 rfl rfl (fun h47 => ?_) (fun h47 => ?_)
        ·
          refine j_aload_n 57 dX4_readBeasts_56 rfl 1 rfl ?_
          refine j_getf 60 0 dX4_readBeasts_57 rfl fd_X4_25 rfl rfl ?_
          refine j_if_eqN (tkK yT kl zc) 63 71 dX4_readBeasts_60 rfl rfl (by have z0 := (tkK_le : tkK yT kl zc ≤ 4); omega) (fun h60 => ?_) (fun h60 => ?_)
          ·
            refine j_iconst (v := (1 : Int32)) 72 dX4_readBeasts_71 rfl (by decide) ?_
            refine j_goto 76 dX4_readBeasts_72 rfl ?_
            have e1 : pBs yT kl 9 yc 0 yA = (0, zc, zk, zA) := by rw [← hzr, show 9 - zk = (8 - zk) + 1 by omega, pBs, if_neg h47]
            have e2 : bsK yT kl (pBs yT kl 9 yc 0 yA) = 0 := by rw [e1, bsK, if_neg (fun y => y rfl), if_neg (tkK_0.mp h60)]
            refine j_iret dX4_readBeasts_76 rfl (by decide) ⟨gLe rfl, gLe rfl, ?_⟩
            rw [e2, e1]
            exact ⟨zc, zv, zL, rfl, hzl, hzv, (fun _ => ⟨hz2.1, hzk, hz2.2, hzq⟩), rfl, rfl⟩
          ·
            refine j_aload_n 64 dX4_readBeasts_63 rfl 1 rfl ?_
            refine j_iconst (v := (1 : Int32)) 65 dX4_readBeasts_64 rfl (by decide) ?_
            refine j_callV0 (rest := []) 68 [0, 1] (c_X4_faulty g ka kb kl (tP yT kl zc) (tE yT kl zc) (tkK yT kl zc) zv kf yT 1 ) [.int (gB (False))] [(ka, .inr (4, [.ref kb, .int (nI kl), .int (nI (tP yT kl zc)), .int (nI (tE yT kl zc)), .int (nI (tkK yT kl zc)), .int (nI zv), .int (nI 1)])), (kb, .inl (g.2.1 1, 400, .inl (sgF yT))), (p0, .inr (0, [.int (nI (zL 0 0)), .int (nI (zL 0 1)), .int (nI (zL 0 2)), .ref p1, .ref p2, .ref p3, .ref p4, .ref p5, .ref p6])), (p1, .inl (g.2.1 0, 5, .inl (nF (zL 1)))), (p2, .inl (g.2.1 0, 5, .inl (nF (zL 2)))), (p3, .inl (g.2.1 0, 5, .inl (nF (zL 3)))), (p4, .inl (g.2.1 0, 5, .inl (nF (zL 4)))), (p5, .inl (g.2.1 0, 8, .inl (nF (zL 5)))), (p6, .inl (g.2.1 0, 8, .inl (nF (zL 6))))] dX4_readBeasts_65 rfl cv_X4_56 rfl rfl rfl rfl 0 rfl rfl (gLe rfl) (gLe rfl) (gLe rfl) (gLe rfl) (gLe rfl) rfl rfl ?_
            refine j_if_eqB 71 75 dX4_readBeasts_68 rfl rfl (fun h68 => ?_) (fun h68 => h68.elim)
            refine j_iconst (v := (0 : Int32)) 76 dX4_readBeasts_75 rfl (by decide) ?_
            have e1 : pBs yT kl 9 yc 0 yA = (0, zc, zk, zA) := by rw [← hzr, show 9 - zk = (8 - zk) + 1 by omega, pBs, if_neg h47]
            have e2 : bsK yT kl (pBs yT kl 9 yc 0 yA) = 1 := by rw [e1, bsK, if_neg (fun y => y rfl), if_pos (Classical.byContradiction fun y => h60 (tkK_0.mpr y))]
            refine j_iret dX4_readBeasts_76 rfl (by decide) ⟨gLe rfl, gLe rfl, ?_⟩
            rw [e2, e1]
            exact ⟨zc, zv, zL, rfl, hzl, hzv, (fun y => absurd y (show ¬ (1 : Nat) = 0 by decide)), rfl, rfl⟩
        ·
          refine j_aload_n 51 dX4_readBeasts_50 rfl 1 rfl ?_
          refine j_iconst (v := (3 : Int32)) 52 dX4_readBeasts_51 rfl (by decide) ?_
          refine j_callV0 (rest := []) 55 [0, 1] (c_X4_faulty g ka kb kl (tP yT kl zc) (tE yT kl zc) (tkK yT kl zc) zv kf yT 3 ) [.int (gB (False))] [(ka, .inr (4, [.ref kb, .int (nI kl), .int (nI (tP yT kl zc)), .int (nI (tE yT kl zc)), .int (nI (tkK yT kl zc)), .int (nI zv), .int (nI 3)])), (kb, .inl (g.2.1 1, 400, .inl (sgF yT))), (p0, .inr (0, [.int (nI (zL 0 0)), .int (nI (zL 0 1)), .int (nI (zL 0 2)), .ref p1, .ref p2, .ref p3, .ref p4, .ref p5, .ref p6])), (p1, .inl (g.2.1 0, 5, .inl (nF (zL 1)))), (p2, .inl (g.2.1 0, 5, .inl (nF (zL 2)))), (p3, .inl (g.2.1 0, 5, .inl (nF (zL 3)))), (p4, .inl (g.2.1 0, 5, .inl (nF (zL 4)))), (p5, .inl (g.2.1 0, 8, .inl (nF (zL 5)))), (p6, .inl (g.2.1 0, 8, .inl (nF (zL 6))))] dX4_readBeasts_52 rfl cv_X4_56 rfl rfl rfl rfl 0 rfl rfl (gLe rfl) (gLe rfl) (gLe rfl) (gLe rfl) (gLe rfl) rfl rfl ?_
          have h5 : zk = 8 := by first | exact absurd h47 h14 | omega
          have e1 : pBs yT kl 9 yc 0 yA = (3, zc, 8, zA) := by rw [← hzr, h5, pBs, if_pos h47, show pBst yT kl 8 zc = (3, zc, 0, 0) from if_pos rfl, if_neg (show ¬ (3 : Nat) = 0 by decide)]
          have e2 : bsK yT kl (pBs yT kl 9 yc 0 yA) = 3 := by rw [e1]; rfl
          refine j_iret dX4_readBeasts_55 rfl gB_nar ⟨gLe rfl, gLe rfl, ?_⟩
          rw [e2, e1]
          exact ⟨zc, zv, zL, rfl, hzl, hzv, (fun y => absurd y (show ¬ (3 : Nat) = 0 by decide)), rfl, rfl⟩
      ·
        refine j_aload_n 9 dX4_readBeasts_8 rfl 1 rfl ?_
        refine j_ldcS 11 2 dX4_readBeasts_9 rfl (by decide) rfl rfl ?_
        refine j_callV0 (rest := []) 14 [0, 1] (c_X4_isWord g ka kb kl zv kf yT (gK g 2) zc 2 h4 hT hzl (by decide) rfl) [.int (gB (isWd yT (tP yT kl zc) (tE yT kl zc) 21595298 5))] [(ka, .inr (4, [.ref kb, .int (nI kl), .int (nI (tP yT kl zc)), .int (nI (tE yT kl zc)), .int (nI (tkK yT kl zc)), .int (nI zv), .int (nI kf)])), (kb, .inl (g.2.1 1, 400, .inl (sgF yT))), (p0, .inr (0, [.int (nI (zL 0 0)), .int (nI (zL 0 1)), .int (nI (zL 0 2)), .ref p1, .ref p2, .ref p3, .ref p4, .ref p5, .ref p6])), (p1, .inl (g.2.1 0, 5, .inl (nF (zL 1)))), (p2, .inl (g.2.1 0, 5, .inl (nF (zL 2)))), (p3, .inl (g.2.1 0, 5, .inl (nF (zL 3)))), (p4, .inl (g.2.1 0, 5, .inl (nF (zL 4)))), (p5, .inl (g.2.1 0, 8, .inl (nF (zL 5)))), (p6, .inl (g.2.1 0, 8, .inl (nF (zL 6))))] dX4_readBeasts_11 rfl cv_X4_52 rfl rfl rfl rfl 0 rfl rfl (gLe rfl) (gLe rfl) (gLe rfl) (gLe rfl) (gLe rfl) rfl rfl ?_
        refine j_if_eqB 17 41 dX4_readBeasts_14 rfl rfl (fun h14 => ?_) (fun h14 => ?_)
        ·
          refine j_aload_n 42 dX4_readBeasts_41 rfl 1 rfl ?_
          refine j_ldcS 44 2 dX4_readBeasts_42 rfl (by decide) rfl rfl ?_
          refine j_callV0 (rest := []) 47 [0, 1] (c_X4_isWord g ka kb kl zv kf yT (gK g 2) zc 2 h4 hT hzl (by decide) rfl) [.int (gB (isWd yT (tP yT kl zc) (tE yT kl zc) 21595298 5))] [(ka, .inr (4, [.ref kb, .int (nI kl), .int (nI (tP yT kl zc)), .int (nI (tE yT kl zc)), .int (nI (tkK yT kl zc)), .int (nI zv), .int (nI kf)])), (kb, .inl (g.2.1 1, 400, .inl (sgF yT))), (p0, .inr (0, [.int (nI (zL 0 0)), .int (nI (zL 0 1)), .int (nI (zL 0 2)), .ref p1, .ref p2, .ref p3, .ref p4, .ref p5, .ref p6])), (p1, .inl (g.2.1 0, 5, .inl (nF (zL 1)))), (p2, .inl (g.2.1 0, 5, .inl (nF (zL 2)))), (p3, .inl (g.2.1 0, 5, .inl (nF (zL 3)))), (p4, .inl (g.2.1 0, 5, .inl (nF (zL 4)))), (p5, .inl (g.2.1 0, 8, .inl (nF (zL 5)))), (p6, .inl (g.2.1 0, 8, .inl (nF (zL 6))))] dX4_readBeasts_44 rfl cv_X4_52 rfl rfl rfl rfl 0 rfl rfl (gLe rfl) (gLe rfl) (gLe rfl) (gLe rfl) (gLe rfl) rfl rfl ?_
          refine j_if_eqB 50 56 dX4_readBeasts_47 rfl rfl (fun h47 => ?_) (fun h47 => ?_)
          ·
            refine j_aload_n 57 dX4_readBeasts_56 rfl 1 rfl ?_
            refine j_getf 60 0 dX4_readBeasts_57 rfl fd_X4_25 rfl rfl ?_
            refine j_if_eqN (tkK yT kl zc) 63 71 dX4_readBeasts_60 rfl rfl (by have z0 := (tkK_le : tkK yT kl zc ≤ 4); omega) (fun h60 => ?_) (fun h60 => ?_)
            ·
              refine j_iconst (v := (1 : Int32)) 72 dX4_readBeasts_71 rfl (by decide) ?_
              refine j_goto 76 dX4_readBeasts_72 rfl ?_
              have e1 : pBs yT kl 9 yc 0 yA = (0, zc, zk, zA) := by rw [← hzr, show 9 - zk = (8 - zk) + 1 by omega, pBs, if_neg h47]
              have e2 : bsK yT kl (pBs yT kl 9 yc 0 yA) = 0 := by rw [e1, bsK, if_neg (fun y => y rfl), if_neg (tkK_0.mp h60)]
              refine j_iret dX4_readBeasts_76 rfl (by decide) ⟨gLe rfl, gLe rfl, ?_⟩
              rw [e2, e1]
              exact ⟨zc, zv, zL, rfl, hzl, hzv, (fun _ => ⟨hz2.1, hzk, hz2.2, hzq⟩), rfl, rfl⟩
            ·
              refine j_aload_n 64 dX4_readBeasts_63 rfl 1 rfl ?_
              refine j_iconst (v := (1 : Int32)) 65 dX4_readBeasts_64 rfl (by decide) ?_
              refine j_callV0 (rest := []) 68 [0, 1] (c_X4_faulty g ka kb kl (tP yT kl zc) (tE yT kl zc) (tkK yT kl zc) zv kf yT 1 ) [.int (gB (False))] [(ka, .inr (4, [.ref kb, .int (nI kl), .int (nI (tP yT kl zc)), .int (nI (tE yT kl zc)), .int (nI (tkK yT kl zc)), .int (nI zv), .int (nI 1)])), (kb, .inl (g.2.1 1, 400, .inl (sgF yT))), (p0, .inr (0, [.int (nI (zL 0 0)), .int (nI (zL 0 1)), .int (nI (zL 0 2)), .ref p1, .ref p2, .ref p3, .ref p4, .ref p5, .ref p6])), (p1, .inl (g.2.1 0, 5, .inl (nF (zL 1)))), (p2, .inl (g.2.1 0, 5, .inl (nF (zL 2)))), (p3, .inl (g.2.1 0, 5, .inl (nF (zL 3)))), (p4, .inl (g.2.1 0, 5, .inl (nF (zL 4)))), (p5, .inl (g.2.1 0, 8, .inl (nF (zL 5)))), (p6, .inl (g.2.1 0, 8, .inl (nF (zL 6))))] dX4_readBeasts_65 rfl cv_X4_56 rfl rfl rfl rfl 0 rfl rfl (gLe rfl) (gLe rfl) (gLe rfl) (gLe rfl) (gLe rfl) rfl rfl ?_
              refine j_if_eqB 71 75 dX4_readBeasts_68 rfl rfl (fun h68 => ?_) (fun h68 => h68.elim)
              refine j_iconst (v := (0 : Int32)) 76 dX4_readBeasts_75 rfl (by decide) ?_
              have e1 : pBs yT kl 9 yc 0 yA = (0, zc, zk, zA) := by rw [← hzr, show 9 - zk = (8 - zk) + 1 by omega, pBs, if_neg h47]
              have e2 : bsK yT kl (pBs yT kl 9 yc 0 yA) = 1 := by rw [e1, bsK, if_neg (fun y => y rfl), if_pos (Classical.byContradiction fun y => h60 (tkK_0.mpr y))]
              refine j_iret dX4_readBeasts_76 rfl (by decide) ⟨gLe rfl, gLe rfl, ?_⟩
              rw [e2, e1]
              exact ⟨zc, zv, zL, rfl, hzl, hzv, (fun y => absurd y (show ¬ (1 : Nat) = 0 by decide)), rfl, rfl⟩
          ·
            refine j_aload_n 51 dX4_readBeasts_50 rfl 1 rfl ?_
            refine j_iconst (v := (3 : Int32)) 52 dX4_readBeasts_51 rfl (by decide) ?_
            refine j_callV0 (rest := []) 55 [0, 1] (c_X4_faulty g ka kb kl (tP yT kl zc) (tE yT kl zc) (tkK yT kl zc) zv kf yT 3 ) [.int (gB (False))] [(ka, .inr (4, [.ref kb, .int (nI kl), .int (nI (tP yT kl zc)), .int (nI (tE yT kl zc)), .int (nI (tkK yT kl zc)), .int (nI zv), .int (nI 3)])), (kb, .inl (g.2.1 1, 400, .inl (sgF yT))), (p0, .inr (0, [.int (nI (zL 0 0)), .int (nI (zL 0 1)), .int (nI (zL 0 2)), .ref p1, .ref p2, .ref p3, .ref p4, .ref p5, .ref p6])), (p1, .inl (g.2.1 0, 5, .inl (nF (zL 1)))), (p2, .inl (g.2.1 0, 5, .inl (nF (zL 2)))), (p3, .inl (g.2.1 0, 5, .inl (nF (zL 3)))), (p4, .inl (g.2.1 0, 5, .inl (nF (zL 4)))), (p5, .inl (g.2.1 0, 8, .inl (nF (zL 5)))), (p6, .inl (g.2.1 0, 8, .inl (nF (zL 6))))] dX4_readBeasts_52 rfl cv_X4_56 rfl rfl rfl rfl 0 rfl rfl (gLe rfl) (gLe rfl) (gLe rfl) (gLe rfl) (gLe rfl) rfl rfl ?_
            have h5 : zk = 8 := by first | exact absurd h47 h14 | omega
            have e1 : pBs yT kl 9 yc 0 yA = (3, zc, 8, zA) := by rw [← hzr, h5, pBs, if_pos h47, show pBst yT kl 8 zc = (3, zc, 0, 0) from if_pos rfl, if_neg (show ¬ (3 : Nat) = 0 by decide)]
            have e2 : bsK yT kl (pBs yT kl 9 yc 0 yA) = 3 := by rw [e1]; rfl
            refine j_iret dX4_readBeasts_55 rfl gB_nar ⟨gLe rfl, gLe rfl, ?_⟩
            rw [e2, e1]
            exact ⟨zc, zv, zL, rfl, hzl, hzv, (fun y => absurd y (show ¬ (3 : Nat) = 0 by decide)), rfl, rfl⟩
        ·
          refine j_aload_n 18 dX4_readBeasts_17 rfl 1 rfl ?_
          refine j_callVe (rest := []) 21 [0, 1] (c_X4_next g ka kb kl (tP yT kl zc) (tE yT kl zc) (tkK yT kl zc) zv kf yT h4 hT (tE_le (T := yT) hzl).2.1) dX4_readBeasts_18 rfl cv_X4_37 rfl rfl rfl rfl 0 rfl rfl (gLe rfl) (gLe rfl) (gLe rfl) (gLe rfl) (fun rv w1 hp => ?_)
          obtain ⟨zv_1, hzv_1, rfl, rfl⟩ := hp
          refine ⟨gLe rfl, ?_⟩
          refine j_eq (lv2 := [(2, .int (nI zk)), (0, .ref ka), (1, .ref p0)]) (st2 := []) (ws2 := [(ka, .inr (4, [.ref kb, .int (nI kl), .int (nI (tP yT kl (tE yT kl zc))), .int (nI (tE yT kl (tE yT kl zc))), .int (nI (tkK yT kl (tE yT kl zc))), .int (nI zv_1), .int (nI kf)])), (kb, .inl (g.2.1 1, 400, .inl (sgF yT))), (p0, .inr (0, [.int (nI (zL 0 0)), .int (nI (zL 0 1)), .int (nI (zL 0 2)), .ref p1, .ref p2, .ref p3, .ref p4, .ref p5, .ref p6])), (p1, .inl (g.2.1 0, 5, .inl (nF (zL 1)))), (p2, .inl (g.2.1 0, 5, .inl (nF (zL 2)))), (p3, .inl (g.2.1 0, 5, .inl (nF (zL 3)))), (p4, .inl (g.2.1 0, 5, .inl (nF (zL 4)))), (p5, .inl (g.2.1 0, 8, .inl (nF (zL 5)))), (p6, .inl (g.2.1 0, 8, .inl (nF (zL 6))))]) rfl rfl rfl ?_
          refine j_aload_n 22 dX4_readBeasts_21 rfl 1 rfl ?_
          refine j_aload_n 23 dX4_readBeasts_22 rfl 2 rfl ?_
          refine j_callVe (rest := []) 26 [0, 1, 2, 3, 4, 5, 6, 7, 8] (c_X4_readBeast g ka kb kl zv_1 kf yT p0 p1 p2 p3 p4 p5 p6 zL (tE yT kl zc) h4 hT (tE_le (T := yT) hzl).2.1 hzv_1 (by omega)) dX4_readBeasts_23 rfl cv_X4_100 rfl rfl rfl rfl 0 rfl rfl (gLe rfl) (gLe rfl) (gLe rfl) (gLe rfl) (fun rv w1 hp => ?_)
          obtain ⟨zc_2, zv_2, zL_2, hz1_2, hz2_2, hzl_2, hzv_2, hzL_2, rfl, rfl⟩ := hp
          refine ⟨gLe rfl, ?_⟩
          refine j_eq (lv2 := [(2, .int (nI zk)), (0, .ref ka), (1, .ref p0)]) (st2 := [.int (gB ((pBsA yT kl (tE yT kl zc)).1 = 0))]) (ws2 := [(ka, .inr (4, [.ref kb, .int (nI kl), .int (nI (tP yT kl zc_2)), .int (nI (tE yT kl zc_2)), .int (nI (tkK yT kl zc_2)), .int (nI zv_2), .int (nI (stsA kf (pBsA yT kl (tE yT kl zc)).1))])), (kb, .inl (g.2.1 1, 400, .inl (sgF yT))), (p0, .inr (0, [.int (nI (zL_2 0 0)), .int (nI (zL_2 0 1)), .int (nI (zL_2 0 2)), .ref p1, .ref p2, .ref p3, .ref p4, .ref p5, .ref p6])), (p1, .inl (g.2.1 0, 5, .inl (nF (zL_2 1)))), (p2, .inl (g.2.1 0, 5, .inl (nF (zL_2 2)))), (p3, .inl (g.2.1 0, 5, .inl (nF (zL_2 3)))), (p4, .inl (g.2.1 0, 5, .inl (nF (zL_2 4)))), (p5, .inl (g.2.1 0, 8, .inl (nF (zL_2 5)))), (p6, .inl (g.2.1 0, 8, .inl (nF (zL_2 6))))]) rfl rfl rfl ?_
          refine j_if_neB 29 31 dX4_readBeasts_26 rfl rfl (fun h26 => ?_) (fun h26 => ?_)
          ·
            refine j_ws [(ka, .inr (4, [.ref kb, .int (nI kl), .int (nI (tP yT kl zc_2)), .int (nI (tE yT kl zc_2)), .int (nI (tkK yT kl zc_2)), .int (nI zv_2), .int (nI kf)])), (kb, .inl (g.2.1 1, 400, .inl (sgF yT))), (p0, .inr (0, [.int (nI (zL_2 0 0)), .int (nI (zL_2 0 1)), .int (nI (zL_2 0 2)), .ref p1, .ref p2, .ref p3, .ref p4, .ref p5, .ref p6])), (p1, .inl (g.2.1 0, 5, .inl (nF (zL_2 1)))), (p2, .inl (g.2.1 0, 5, .inl (nF (zL_2 2)))), (p3, .inl (g.2.1 0, 5, .inl (nF (zL_2 3)))), (p4, .inl (g.2.1 0, 5, .inl (nF (zL_2 4)))), (p5, .inl (g.2.1 0, 8, .inl (nF (zL_2 5)))), (p6, .inl (g.2.1 0, 8, .inl (nF (zL_2 6))))] (by rw [show (stsA kf (pBsA yT kl (tE yT kl zc)).1) = kf from stsA_0 h26]) ?_
            refine j_aload_n 32 dX4_readBeasts_31 rfl 1 rfl ?_
            refine j_callVe (rest := []) 35 [0, 1] (c_X4_next g ka kb kl (tP yT kl zc_2) (tE yT kl zc_2) (tkK yT kl zc_2) zv_2 kf yT h4 hT (tE_le (T := yT) hzl_2).2.1) dX4_readBeasts_32 rfl cv_X4_37 rfl rfl rfl rfl 0 rfl rfl (gLe rfl) (gLe rfl) (gLe rfl) (gLe rfl) (fun rv w1 hp => ?_)
            obtain ⟨zv_3, hzv_3, rfl, rfl⟩ := hp
            refine ⟨gLe rfl, ?_⟩
            refine j_eq (lv2 := [(2, .int (nI zk)), (0, .ref ka), (1, .ref p0)]) (st2 := []) (ws2 := [(ka, .inr (4, [.ref kb, .int (nI kl), .int (nI (tP yT kl (tE yT kl zc_2))), .int (nI (tE yT kl (tE yT kl zc_2))), .int (nI (tkK yT kl (tE yT kl zc_2))), .int (nI zv_3), .int (nI kf)])), (kb, .inl (g.2.1 1, 400, .inl (sgF yT))), (p0, .inr (0, [.int (nI (zL_2 0 0)), .int (nI (zL_2 0 1)), .int (nI (zL_2 0 2)), .ref p1, .ref p2, .ref p3, .ref p4, .ref p5, .ref p6])), (p1, .inl (g.2.1 0, 5, .inl (nF (zL_2 1)))), (p2, .inl (g.2.1 0, 5, .inl (nF (zL_2 2)))), (p3, .inl (g.2.1 0, 5, .inl (nF (zL_2 3)))), (p4, .inl (g.2.1 0, 5, .inl (nF (zL_2 4)))), (p5, .inl (g.2.1 0, 8, .inl (nF (zL_2 5)))), (p6, .inl (g.2.1 0, 8, .inl (nF (zL_2 6))))]) rfl rfl rfl ?_
            refine j_iincN zk 1 38 [(2, .int (nI (zk + 1))), (0, .ref ka), (1, .ref p0)] dX4_readBeasts_35 rfl 0 rfl (by decide) rfl ?_
            refine j_goto 2 dX4_readBeasts_38 rfl ?_
            refine j_lv [0, 1, 2] rfl ?_
            have ef : pBst yT kl zk zc = pBsA yT kl (tE yT kl zc) := if_neg (by omega)
            have hfk : (pBst yT kl zk zc).1 = 0 := by rw [ef]; exact h26
            have heL := hzL_2 h26
            have ecc : tE yT kl zc_2 = (pBst yT kl zk zc).2.1 := by rw [hz2_2 h26, ef]
            rw [← ef] at heL
            refine j_ws [(ka, .inr (4, [.ref kb, .int (nI kl), .int (nI (tP yT kl ((pBst yT kl zk zc).2.1))), .int (nI (tE yT kl ((pBst yT kl zk zc).2.1))), .int (nI (tkK yT kl ((pBst yT kl zk zc).2.1))), .int (nI zv_3), .int (nI kf)])), (kb, .inl (g.2.1 1, 400, .inl (sgF yT))), (p0, .inr (0, [.int (nI (zL_2 0 0)), .int (nI (zL_2 0 1)), .int (nI (zL_2 0 2)), .ref p1, .ref p2, .ref p3, .ref p4, .ref p5, .ref p6])), (p1, .inl (g.2.1 0, 5, .inl (nF (zL_2 1)))), (p2, .inl (g.2.1 0, 5, .inl (nF (zL_2 2)))), (p3, .inl (g.2.1 0, 5, .inl (nF (zL_2 3)))), (p4, .inl (g.2.1 0, 5, .inl (nF (zL_2 4)))), (p5, .inl (g.2.1 0, 8, .inl (nF (zL_2 5)))), (p6, .inl (g.2.1 0, 8, .inl (nF (zL_2 6))))] (by rw [ecc]) ?_
            exact zih2 (zk + 1) ((pBst yT kl zk zc).2.1) zv_3 zL_2 (upB zA zk (pBst yT kl zk zc).2.2.1 (pBst yT kl zk zc).2.2.2) (by omega) (by omega) (by rw [← ecc]; exact (tE_le (T := yT) hzl_2).2.1) (by rw [← ecc]; exact hzv_3) (by rw [heL]; show zL 0 2 + 1 = _; omega) (by rw [heL]; exact hz2) (by rw [heL]; exact bqR_s hzq hzk) (by rw [← hzr, show 9 - zk = (9 - (zk + 1)) + 1 by omega, pBs, if_pos h14, if_pos hfk])
          ·
            refine j_iconst (v := (0 : Int32)) 30 dX4_readBeasts_29 rfl (by decide) ?_
            have ef : pBst yT kl zk zc = pBsA yT kl (tE yT kl zc) := if_neg (by omega)
            have hfk : ¬ (pBst yT kl zk zc).1 = 0 := by rw [ef]; exact h26
            have e1 : pBs yT kl 9 yc 0 yA = ((pBst yT kl zk zc).1, (pBst yT kl zk zc).2.1, zk, zA) := by rw [← hzr, show 9 - zk = (8 - zk) + 1 by omega, pBs, if_pos h14, if_neg hfk]
            have e2 : bsK yT kl (pBs yT kl 9 yc 0 yA) = (pBst yT kl zk zc).1 := by rw [e1, bsK, if_pos hfk]
            have ecc : zc_2 = (pBst yT kl zk zc).2.1 := by rw [hz1_2 h26, ef]
            have ek : (pBsA yT kl (tE yT kl zc)).1 = (pBst yT kl zk zc).1 := by rw [ef]
            refine j_iret dX4_readBeasts_30 rfl (by decide) ⟨gLe rfl, gLe rfl, ?_⟩
            rw [e2, ek, e1]
            exact ⟨zc_2, zv_2, zL_2, ecc, hzl_2, hzv_2, (fun y => absurd y hfk), congrArg (fun z => some (Value.int z)) (gB_f hfk).symm, rfl⟩
  refine j_lv [0, 1, 2] rfl ?_
  exact hL2 _ 0 yc kv yL yA (Nat.lt_succ_self _) (by decide) hc hv hB ⟨⟨rfl, rfl⟩, rfl, rfl, rfl, rfl⟩ (fun h hh => absurd hh (Nat.not_lt_zero _)) rfl
