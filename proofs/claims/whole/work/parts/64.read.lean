def zL0 : Nat → Nat → Nat := fun _ _ => 0
/-- a plan as it was read -/
def rdOK (L : Nat → Nat → Nat) (r : Nat × Nat × Nat × Nat × Nat × (Nat → Nat) × (Nat → Nat)) : Prop := L 0 0 = r.2.2.1 ∧ L 0 1 = r.2.2.2.1 ∧ L 0 2 = r.2.2.2.2.1 ∧ hqR L r.2.2.2.2.2.1 r.2.2.2.1 ∧ bqR L r.2.2.2.2.2.2 r.2.2.2.2.1
section PAL
variable {T A B : Nat → Nat} {n : Nat}
theorem pAll_1 (h : ¬ (pLaw T n 0).1 = 0) : pAll T n A B = ((pLaw T n 0).1, (pLaw T n 0).2.1, 0, 0, 0, A, B) := if_pos h
theorem pAll_2 (h : (pLaw T n 0).1 = 0) (h2 : ¬ hsK (pHs T n (pLaw T n 0).2.2 6 (pLaw T n 0).2.1 0 A) = 0) : (pAll T n A B).1 = hsK (pHs T n (pLaw T n 0).2.2 6 (pLaw T n 0).2.1 0 A) ∧ (pAll T n A B).2.1 = (pHs T n (pLaw T n 0).2.2 6 (pLaw T n 0).2.1 0 A).2.1 := by
  unfold pAll
  rw [if_neg (fun y => y h)]
  unfold hsK at h2 ⊢
  by_cases c : (pHs T n (pLaw T n 0).2.2 6 (pLaw T n 0).2.1 0 A).1 ≠ 0
  · rw [if_pos c, if_pos c]; exact ⟨rfl, rfl⟩
  · rw [if_neg c] at h2
    rw [if_neg c, if_neg c]
    by_cases c2 : (pHs T n (pLaw T n 0).2.2 6 (pLaw T n 0).2.1 0 A).2.2.1 = 0
    · rw [if_pos c2, if_pos c2]; exact ⟨rfl, rfl⟩
    · rw [if_neg c2] at h2; exact absurd rfl h2
theorem pAll_3 (h : (pLaw T n 0).1 = 0) (h2 : hsK (pHs T n (pLaw T n 0).2.2 6 (pLaw T n 0).2.1 0 A) = 0) : (pAll T n A B).1 = bsK T n (pBs T n 9 (pHs T n (pLaw T n 0).2.2 6 (pLaw T n 0).2.1 0 A).2.1 0 B) ∧ (pAll T n A B).2.1 = (pBs T n 9 (pHs T n (pLaw T n 0).2.2 6 (pLaw T n 0).2.1 0 A).2.1 0 B).2.1 ∧
    (bsK T n (pBs T n 9 (pHs T n (pLaw T n 0).2.2 6 (pLaw T n 0).2.1 0 A).2.1 0 B) = 0 → pAll T n A B = (0, (pBs T n 9 (pHs T n (pLaw T n 0).2.2 6 (pLaw T n 0).2.1 0 A).2.1 0 B).2.1, (pLaw T n 0).2.2, (pHs T n (pLaw T n 0).2.2 6 (pLaw T n 0).2.1 0 A).2.2.1, (pBs T n 9 (pHs T n (pLaw T n 0).2.2 6 (pLaw T n 0).2.1 0 A).2.1 0 B).2.2.1, (pHs T n (pLaw T n 0).2.2 6 (pLaw T n 0).2.1 0 A).2.2.2, (pBs T n 9 (pHs T n (pLaw T n 0).2.2 6 (pLaw T n 0).2.1 0 A).2.1 0 B).2.2.2)) := by
  unfold pAll
  rw [if_neg (fun y => y h)]
  unfold hsK at h2
  by_cases c : (pHs T n (pLaw T n 0).2.2 6 (pLaw T n 0).2.1 0 A).1 ≠ 0
  · rw [if_pos c] at h2; exact absurd h2 c
  · rw [if_neg c] at h2
    by_cases c2 : (pHs T n (pLaw T n 0).2.2 6 (pLaw T n 0).2.1 0 A).2.2.1 = 0
    · rw [if_pos c2] at h2; exact absurd h2 (by decide)
    · rw [if_neg c, if_neg c2]
      unfold bsK
      by_cases c3 : (pBs T n 9 (pHs T n (pLaw T n 0).2.2 6 (pLaw T n 0).2.1 0 A).2.1 0 B).1 ≠ 0
      · rw [if_pos c3, if_pos c3]; exact ⟨rfl, rfl, fun y => absurd y c3⟩
      · rw [if_neg c3, if_neg c3]
        by_cases c4 : tP T n (pBs T n 9 (pHs T n (pLaw T n 0).2.2 6 (pLaw T n 0).2.1 0 A).2.1 0 B).2.1 < n
        · rw [if_pos c4, if_pos c4]; exact ⟨rfl, rfl, fun y => absurd y (by decide)⟩
        · rw [if_neg c4, if_neg c4]; exact ⟨rfl, rfl, fun _ => rfl⟩
theorem hqR_e {L L' : Nat → Nat → Nat} {A : Nat → Nat} {H : Nat} (e : L' 1 = L 1 ∧ L' 2 = L 2 ∧ L' 3 = L 3 ∧ L' 4 = L 4) (h : hqR L A H) : hqR L' A H := by
  obtain ⟨e1, e2, e3, e4⟩ := e
  intro x hx
  rw [e1, e2, e3, e4]
  exact h x hx
end PAL
set_option maxRecDepth 20000 in
theorem c_X4_read (g : gG) (ka : Nat) (kb : Nat) (kl : Nat) (ks : Nat) (ke : Nat) (kt : Nat) (kv : Nat) (kf : Nat) (yT : Nat → Nat) (yA yB : Nat → Nat) (h4 : kl ≤ 400) (hT : ∀ x, yT x < 256) : gCon g mX4_read 8 7 45 [.ref ka] [(ka, .inr (4, [.ref kb, .int (nI kl), .int (nI ks), .int (nI ke), .int (nI kt), .int (nI kv), .int (nI kf)])), (kb, .inl (g.2.1 1, 400, .inl (sgF yT)))] (fun rv ws' => ∃ (p0 p1 p2 p3 p4 p5 p6 zc ze zt zv zf : Nat) (zL : Nat → Nat → Nat), ((pAll yT kl yA yB).1 = 0 → rdOK zL (pAll yT kl yA yB)) ∧ zc = (pAll yT kl yA yB).2.1 ∧ ((pAll yT kl yA yB).1 ≠ 0 → zf = (pAll yT kl yA yB).1) ∧ (((pAll yT kl yA yB).1 = 0 ∧ rv = some (.ref p0)) ∨ ((pAll yT kl yA yB).1 ≠ 0 ∧ rv = some .null)) ∧ ws' = [(ka, .inr (4, [.ref kb, .int (0 : Int32), .int (nI (tP yT kl zc)), .int (nI ze), .int (nI zt), .int (nI zv), .int (nI zf)])), (kb, .inl (g.2.1 1, 400, .inl (sgF yT))), (p0, .inr (0, [.int (nI (zL 0 0)), .int (nI (zL 0 1)), .int (nI (zL 0 2)), .ref p1, .ref p2, .ref p3, .ref p4, .ref p5, .ref p6])), (p1, .inl (g.2.1 0, 5, .inl (nF (zL 1)))), (p2, .inl (g.2.1 0, 5, .inl (nF (zL 2)))), (p3, .inl (g.2.1 0, 5, .inl (nF (zL 3)))), (p4, .inl (g.2.1 0, 5, .inl (nF (zL 4)))), (p5, .inl (g.2.1 0, 8, .inl (nF (zL 5)))), (p6, .inl (g.2.1 0, 8, .inl (nF (zL 6))))]) := by
  refine gCon.of (lv := [(0, .ref ka)]) (by decide) (gLe rfl) rfl ?_
  refine j_new 3 dX4_read_0 rfl nw_X4_34 (gLe rfl) (gLe rfl) (fun zn1 => ?_)
  refine j_eq (lv2 := [(0, .ref ka)]) (st2 := [.ref zn1]) (ws2 := [(ka, .inr (4, [.ref kb, .int (nI kl), .int (nI ks), .int (nI ke), .int (nI kt), .int (nI kv), .int (nI kf)])), (kb, .inl (g.2.1 1, 400, .inl (sgF yT))), (zn1, .inr (0, [.int (0 : Int32), .int (0 : Int32), .int (0 : Int32), .null, .null, .null, .null, .null, .null]))]) rfl rfl rfl ?_
  refine j_dup 4 dX4_read_3 rfl rfl ?_
  refine j_callN (rest := [.ref zn1]) 7 [2] (c_X0_init g zn1) dX4_read_4 rfl cn_X4_36 rfl rfl rfl rfl (gLe rfl) (gLe rfl) (gLe rfl) (gLe rfl) (fun rv w1 hp => ?_)
  obtain ⟨p1_2, p2_2, p3_2, p4_2, p5_2, p6_2, rfl, rfl⟩ := hp
  refine ⟨gLe rfl, ?_⟩
  refine j_eq (lv2 := [(0, .ref ka)]) (st2 := [.ref zn1]) (ws2 := [(ka, .inr (4, [.ref kb, .int (nI kl), .int (nI ks), .int (nI ke), .int (nI kt), .int (nI kv), .int (nI kf)])), (kb, .inl (g.2.1 1, 400, .inl (sgF yT))), (zn1, .inr (0, [.int (0 : Int32), .int (0 : Int32), .int (0 : Int32), .ref p1_2, .ref p2_2, .ref p3_2, .ref p4_2, .ref p5_2, .ref p6_2])), (p1_2, .inl (g.2.1 0, 5, .inl (nF (fun _ => 0)))), (p2_2, .inl (g.2.1 0, 5, .inl (nF (fun _ => 0)))), (p3_2, .inl (g.2.1 0, 5, .inl (nF (fun _ => 0)))), (p4_2, .inl (g.2.1 0, 5, .inl (nF (fun _ => 0)))), (p5_2, .inl (g.2.1 0, 8, .inl (nF (fun _ => 0)))), (p6_2, .inl (g.2.1 0, 8, .inl (nF (fun _ => 0))))]) rfl rfl rfl ?_
  refine j_ws [(ka, .inr (4, [.ref kb, .int (nI kl), .int (nI ks), .int (nI ke), .int (nI kt), .int (nI kv), .int (nI kf)])), (kb, .inl (g.2.1 1, 400, .inl (sgF yT))), (zn1, .inr (0, [.int (nI (zL0 0 0)), .int (nI (zL0 0 1)), .int (nI (zL0 0 2)), .ref p1_2, .ref p2_2, .ref p3_2, .ref p4_2, .ref p5_2, .ref p6_2])), (p1_2, .inl (g.2.1 0, 5, .inl (nF (zL0 1)))), (p2_2, .inl (g.2.1 0, 5, .inl (nF (zL0 2)))), (p3_2, .inl (g.2.1 0, 5, .inl (nF (zL0 3)))), (p4_2, .inl (g.2.1 0, 5, .inl (nF (zL0 4)))), (p5_2, .inl (g.2.1 0, 8, .inl (nF (zL0 5)))), (p6_2, .inl (g.2.1 0, 8, .inl (nF (zL0 6))))] rfl ?_
  refine j_astore_n 8 [(1, .ref zn1), (0, .ref ka)] dX4_read_7 rfl (by decide) rfl ?_
  refine j_aload_n 9 dX4_read_8 rfl 1 rfl ?_
  refine j_iconst (v := (0 : Int32)) 10 dX4_read_9 rfl (by decide) ?_
  refine j_putf 13 0 [(ka, .inr (4, [.ref kb, .int (nI kl), .int (nI ks), .int (0 : Int32), .int (nI kt), .int (nI kv), .int (nI kf)])), (kb, .inl (g.2.1 1, 400, .inl (sgF yT))), (zn1, .inr (0, [.int (nI (zL0 0 0)), .int (nI (zL0 0 1)), .int (nI (zL0 0 2)), .ref p1_2, .ref p2_2, .ref p3_2, .ref p4_2, .ref p5_2, .ref p6_2])), (p1_2, .inl (g.2.1 0, 5, .inl (nF (zL0 1)))), (p2_2, .inl (g.2.1 0, 5, .inl (nF (zL0 2)))), (p3_2, .inl (g.2.1 0, 5, .inl (nF (zL0 3)))), (p4_2, .inl (g.2.1 0, 5, .inl (nF (zL0 4)))), (p5_2, .inl (g.2.1 0, 8, .inl (nF (zL0 5)))), (p6_2, .inl (g.2.1 0, 8, .inl (nF (zL0 6))))] dX4_read_10 rfl fd_X4_22 rfl rfl rfl (gLe rfl) rfl ?_
  refine j_aload_n 14 dX4_read_13 rfl 1 rfl ?_
  refine j_callVe (rest := []) 17 [0, 1] (c_X4_next g ka kb kl ks 0 kt kv kf yT h4 hT (Nat.zero_le _)) dX4_read_14 rfl cv_X4_37 rfl rfl rfl rfl 0 rfl rfl (gLe rfl) (gLe rfl) (gLe rfl) (gLe rfl) (fun rv w1 hp => ?_)
  obtain ⟨zv_3, hzv_3, rfl, rfl⟩ := hp
  refine ⟨gLe rfl, ?_⟩
  refine j_eq (lv2 := [(1, .ref zn1), (0, .ref ka)]) (st2 := []) (ws2 := [(ka, .inr (4, [.ref kb, .int (nI kl), .int (nI (tP yT kl 0)), .int (nI (tE yT kl 0)), .int (nI (tkK yT kl 0)), .int (nI zv_3), .int (nI kf)])), (kb, .inl (g.2.1 1, 400, .inl (sgF yT))), (zn1, .inr (0, [.int (nI (zL0 0 0)), .int (nI (zL0 0 1)), .int (nI (zL0 0 2)), .ref p1_2, .ref p2_2, .ref p3_2, .ref p4_2, .ref p5_2, .ref p6_2])), (p1_2, .inl (g.2.1 0, 5, .inl (nF (zL0 1)))), (p2_2, .inl (g.2.1 0, 5, .inl (nF (zL0 2)))), (p3_2, .inl (g.2.1 0, 5, .inl (nF (zL0 3)))), (p4_2, .inl (g.2.1 0, 5, .inl (nF (zL0 4)))), (p5_2, .inl (g.2.1 0, 8, .inl (nF (zL0 5)))), (p6_2, .inl (g.2.1 0, 8, .inl (nF (zL0 6))))]) rfl rfl rfl ?_
  refine j_aload_n 18 dX4_read_17 rfl 1 rfl ?_
  refine j_aload_n 19 dX4_read_18 rfl 0 rfl ?_
  refine j_callVe (rest := []) 22 [0, 1, 2, 3, 4, 5, 6, 7, 8] (c_X4_readLaw g ka kb kl zv_3 kf yT zn1 p1_2 p2_2 p3_2 p4_2 p5_2 p6_2 zL0 0 h4 hT (Nat.zero_le _) hzv_3) dX4_read_19 rfl cv_X4_40 rfl rfl rfl rfl 0 rfl rfl (gLe rfl) (gLe rfl) (gLe rfl) (gLe rfl) (fun rv w1 hp => ?_)
  obtain ⟨zc_4, zv_4, zp_4, hzc_4, hzl_4, hzv_4, hzp_4, rfl, rfl⟩ := hp
  refine ⟨gLe rfl, ?_⟩
  refine j_eq (lv2 := [(1, .ref zn1), (0, .ref ka)]) (st2 := [.int (gB ((pLaw yT kl 0).1 = 0))]) (ws2 := [(ka, .inr (4, [.ref kb, .int (nI kl), .int (nI (tP yT kl zc_4)), .int (nI (tE yT kl zc_4)), .int (nI (tkK yT kl zc_4)), .int (nI zv_4), .int (nI (stsA kf (pLaw yT kl 0).1))])), (kb, .inl (g.2.1 1, 400, .inl (sgF yT))), (zn1, .inr (0, [.int (nI ((va_up zL0 0 (va_up (zL0 0) 0 zp_4)) 0 0)), .int (nI ((va_up zL0 0 (va_up (zL0 0) 0 zp_4)) 0 1)), .int (nI ((va_up zL0 0 (va_up (zL0 0) 0 zp_4)) 0 2)), .ref p1_2, .ref p2_2, .ref p3_2, .ref p4_2, .ref p5_2, .ref p6_2])), (p1_2, .inl (g.2.1 0, 5, .inl (nF ((va_up zL0 0 (va_up (zL0 0) 0 zp_4)) 1)))), (p2_2, .inl (g.2.1 0, 5, .inl (nF ((va_up zL0 0 (va_up (zL0 0) 0 zp_4)) 2)))), (p3_2, .inl (g.2.1 0, 5, .inl (nF ((va_up zL0 0 (va_up (zL0 0) 0 zp_4)) 3)))), (p4_2, .inl (g.2.1 0, 5, .inl (nF ((va_up zL0 0 (va_up (zL0 0) 0 zp_4)) 4)))), (p5_2, .inl (g.2.1 0, 8, .inl (nF ((va_up zL0 0 (va_up (zL0 0) 0 zp_4)) 5)))), (p6_2, .inl (g.2.1 0, 8, .inl (nF ((va_up zL0 0 (va_up (zL0 0) 0 zp_4)) 6))))]) rfl rfl rfl ?_
  refine j_if_eqB 25 45 dX4_read_22 rfl rfl (fun h22 => ?_) (fun h22 => ?_)
  ·
    refine j_iconst (v := (0 : Int32)) 46 dX4_read_45 rfl (by decide) ?_
    refine j_istore_n 47 [(2, .int (0 : Int32)), (1, .ref zn1), (0, .ref ka)] dX4_read_46 rfl (by decide) rfl ?_
    refine j_aload_n 48 dX4_read_47 rfl 2 rfl ?_
    refine j_iconst (v := (0 : Int32)) 49 dX4_read_48 rfl (by decide) ?_
    refine j_putf 52 0 [(ka, .inr (4, [.ref kb, .int (0 : Int32), .int (nI (tP yT kl zc_4)), .int (nI (tE yT kl zc_4)), .int (nI (tkK yT kl zc_4)), .int (nI zv_4), .int (nI (stsA kf (pLaw yT kl 0).1))])), (kb, .inl (g.2.1 1, 400, .inl (sgF yT))), (zn1, .inr (0, [.int (nI ((va_up zL0 0 (va_up (zL0 0) 0 zp_4)) 0 0)), .int (nI ((va_up zL0 0 (va_up (zL0 0) 0 zp_4)) 0 1)), .int (nI ((va_up zL0 0 (va_up (zL0 0) 0 zp_4)) 0 2)), .ref p1_2, .ref p2_2, .ref p3_2, .ref p4_2, .ref p5_2, .ref p6_2])), (p1_2, .inl (g.2.1 0, 5, .inl (nF ((va_up zL0 0 (va_up (zL0 0) 0 zp_4)) 1)))), (p2_2, .inl (g.2.1 0, 5, .inl (nF ((va_up zL0 0 (va_up (zL0 0) 0 zp_4)) 2)))), (p3_2, .inl (g.2.1 0, 5, .inl (nF ((va_up zL0 0 (va_up (zL0 0) 0 zp_4)) 3)))), (p4_2, .inl (g.2.1 0, 5, .inl (nF ((va_up zL0 0 (va_up (zL0 0) 0 zp_4)) 4)))), (p5_2, .inl (g.2.1 0, 8, .inl (nF ((va_up zL0 0 (va_up (zL0 0) 0 zp_4)) 5)))), (p6_2, .inl (g.2.1 0, 8, .inl (nF ((va_up zL0 0 (va_up (zL0 0) 0 zp_4)) 6))))] dX4_read_49 rfl fd_X4_15 rfl rfl rfl (gLe rfl) rfl ?_
    refine j_iload_n 53 dX4_read_52 rfl 0 rfl ?_
    refine j_if_eqN 0 56 60 dX4_read_53 rfl rfl (by decide) (fun h53 => ?_) (fun h53 => absurd h53 (by decide))
    refine j_null 61 dX4_read_60 rfl ?_
    have e1 := pAll_1 (A := yA) (B := yB) h22
    have e2 : (pAll yT kl yA yB).1 = (pLaw yT kl 0).1 := by rw [e1]
    have e3 : zc_4 = (pAll yT kl yA yB).2.1 := by rw [e1]; exact hzc_4
    have h9 := h22
    rw [← e2] at h9
    refine j_aret dX4_read_61 rfl (Or.inl ⟨_, rfl⟩) (Or.inl rfl) ⟨gLe rfl, gLe rfl, ?_⟩
    exact ⟨zn1, p1_2, p2_2, p3_2, p4_2, p5_2, p6_2, zc_4, _, _, _, _, (va_up zL0 0 (va_up (zL0 0) 0 zp_4)), fun y => absurd y h9, e3, fun _ => by rw [e2]; exact if_neg (by rw [← e2]; exact h9), Or.inr ⟨h9, rfl⟩, rfl⟩
  ·
    have hzq := hzp_4 h22
    have hzq1 : va_up zL0 0 (va_up (zL0 0) 0 zp_4) 0 0 = (pLaw yT kl 0).2.2 := hzq.1
    refine j_ws [(ka, .inr (4, [.ref kb, .int (nI kl), .int (nI (tP yT kl zc_4)), .int (nI (tE yT kl zc_4)), .int (nI (tkK yT kl zc_4)), .int (nI zv_4), .int (nI kf)])), (kb, .inl (g.2.1 1, 400, .inl (sgF yT))), (zn1, .inr (0, [.int (nI ((va_up zL0 0 (va_up (zL0 0) 0 zp_4)) 0 0)), .int (nI ((va_up zL0 0 (va_up (zL0 0) 0 zp_4)) 0 1)), .int (nI ((va_up zL0 0 (va_up (zL0 0) 0 zp_4)) 0 2)), .ref p1_2, .ref p2_2, .ref p3_2, .ref p4_2, .ref p5_2, .ref p6_2])), (p1_2, .inl (g.2.1 0, 5, .inl (nF ((va_up zL0 0 (va_up (zL0 0) 0 zp_4)) 1)))), (p2_2, .inl (g.2.1 0, 5, .inl (nF ((va_up zL0 0 (va_up (zL0 0) 0 zp_4)) 2)))), (p3_2, .inl (g.2.1 0, 5, .inl (nF ((va_up zL0 0 (va_up (zL0 0) 0 zp_4)) 3)))), (p4_2, .inl (g.2.1 0, 5, .inl (nF ((va_up zL0 0 (va_up (zL0 0) 0 zp_4)) 4)))), (p5_2, .inl (g.2.1 0, 8, .inl (nF ((va_up zL0 0 (va_up (zL0 0) 0 zp_4)) 5)))), (p6_2, .inl (g.2.1 0, 8, .inl (nF ((va_up zL0 0 (va_up (zL0 0) 0 zp_4)) 6))))] (by rw [show (stsA kf (pLaw yT kl 0).1) = kf from stsA_0 h22]) ?_
    refine j_aload_n 26 dX4_read_25 rfl 1 rfl ?_
    refine j_aload_n 27 dX4_read_26 rfl 0 rfl ?_
    refine j_callVe (rest := []) 30 [0, 1, 2, 3, 4, 5, 6, 7, 8] (c_X4_readHurdles g ka kb kl zv_4 kf yT zn1 p1_2 p2_2 p3_2 p4_2 p5_2 p6_2 (va_up zL0 0 (va_up (zL0 0) 0 zp_4)) zc_4 yA h4 hT hzl_4 hzv_4 hzq.2.2 rfl) dX4_read_27 rfl cv_X4_44 rfl rfl rfl rfl 0 rfl rfl (gLe rfl) (gLe rfl) (gLe rfl) (gLe rfl) (fun rv w1 hp => ?_)
    obtain ⟨zc_5, zv_5, zL_5, hzc_5, hzl_5, hzv_5, hzL_5, rfl, rfl⟩ := hp
    refine ⟨gLe rfl, ?_⟩
    refine j_eq (lv2 := [(1, .ref zn1), (0, .ref ka)]) (st2 := [.int (gB (hsK (pHs yT kl ((va_up zL0 0 (va_up (zL0 0) 0 zp_4)) 0 0) 6 zc_4 0 yA) = 0))]) (ws2 := [(ka, .inr (4, [.ref kb, .int (nI kl), .int (nI (tP yT kl zc_5)), .int (nI (tE yT kl zc_5)), .int (nI (tkK yT kl zc_5)), .int (nI zv_5), .int (nI (stsA kf (hsK (pHs yT kl ((va_up zL0 0 (va_up (zL0 0) 0 zp_4)) 0 0) 6 zc_4 0 yA))))])), (kb, .inl (g.2.1 1, 400, .inl (sgF yT))), (zn1, .inr (0, [.int (nI (zL_5 0 0)), .int (nI (zL_5 0 1)), .int (nI (zL_5 0 2)), .ref p1_2, .ref p2_2, .ref p3_2, .ref p4_2, .ref p5_2, .ref p6_2])), (p1_2, .inl (g.2.1 0, 5, .inl (nF (zL_5 1)))), (p2_2, .inl (g.2.1 0, 5, .inl (nF (zL_5 2)))), (p3_2, .inl (g.2.1 0, 5, .inl (nF (zL_5 3)))), (p4_2, .inl (g.2.1 0, 5, .inl (nF (zL_5 4)))), (p5_2, .inl (g.2.1 0, 8, .inl (nF (zL_5 5)))), (p6_2, .inl (g.2.1 0, 8, .inl (nF (zL_5 6))))]) rfl rfl rfl ?_
    refine j_if_eqB 33 45 dX4_read_30 rfl rfl (fun h30 => ?_) (fun h30 => ?_)
    ·
      refine j_iconst (v := (0 : Int32)) 46 dX4_read_45 rfl (by decide) ?_
      refine j_istore_n 47 [(2, .int (0 : Int32)), (1, .ref zn1), (0, .ref ka)] dX4_read_46 rfl (by decide) rfl ?_
      refine j_aload_n 48 dX4_read_47 rfl 2 rfl ?_
      refine j_iconst (v := (0 : Int32)) 49 dX4_read_48 rfl (by decide) ?_
      refine j_putf 52 0 [(ka, .inr (4, [.ref kb, .int (0 : Int32), .int (nI (tP yT kl zc_5)), .int (nI (tE yT kl zc_5)), .int (nI (tkK yT kl zc_5)), .int (nI zv_5), .int (nI (stsA kf (hsK (pHs yT kl ((va_up zL0 0 (va_up (zL0 0) 0 zp_4)) 0 0) 6 zc_4 0 yA))))])), (kb, .inl (g.2.1 1, 400, .inl (sgF yT))), (zn1, .inr (0, [.int (nI (zL_5 0 0)), .int (nI (zL_5 0 1)), .int (nI (zL_5 0 2)), .ref p1_2, .ref p2_2, .ref p3_2, .ref p4_2, .ref p5_2, .ref p6_2])), (p1_2, .inl (g.2.1 0, 5, .inl (nF (zL_5 1)))), (p2_2, .inl (g.2.1 0, 5, .inl (nF (zL_5 2)))), (p3_2, .inl (g.2.1 0, 5, .inl (nF (zL_5 3)))), (p4_2, .inl (g.2.1 0, 5, .inl (nF (zL_5 4)))), (p5_2, .inl (g.2.1 0, 8, .inl (nF (zL_5 5)))), (p6_2, .inl (g.2.1 0, 8, .inl (nF (zL_5 6))))] dX4_read_49 rfl fd_X4_15 rfl rfl rfl (gLe rfl) rfl ?_
      refine j_iload_n 53 dX4_read_52 rfl 0 rfl ?_
      refine j_if_eqN 0 56 60 dX4_read_53 rfl rfl (by decide) (fun h53 => ?_) (fun h53 => absurd h53 (by decide))
      refine j_null 61 dX4_read_60 rfl ?_
      have e1 := pAll_2 (B := yB) h22 (by rw [← hzq1, ← hzc_4]; exact h30)
      rw [← hzq1, ← hzc_4] at e1
      have e2 := e1.1
      have e3 : zc_5 = (pAll yT kl yA yB).2.1 := by rw [e1.2]; exact hzc_5
      have h9 := h30
      rw [← e2] at h9
      refine j_aret dX4_read_61 rfl (Or.inl ⟨_, rfl⟩) (Or.inl rfl) ⟨gLe rfl, gLe rfl, ?_⟩
      exact ⟨zn1, p1_2, p2_2, p3_2, p4_2, p5_2, p6_2, zc_5, _, _, _, _, zL_5, fun y => absurd y h9, e3, fun _ => by rw [e2]; exact if_neg (by rw [← e2]; exact h9), Or.inr ⟨h9, rfl⟩, rfl⟩
    ·
      refine j_ws [(ka, .inr (4, [.ref kb, .int (nI kl), .int (nI (tP yT kl zc_5)), .int (nI (tE yT kl zc_5)), .int (nI (tkK yT kl zc_5)), .int (nI zv_5), .int (nI kf)])), (kb, .inl (g.2.1 1, 400, .inl (sgF yT))), (zn1, .inr (0, [.int (nI (zL_5 0 0)), .int (nI (zL_5 0 1)), .int (nI (zL_5 0 2)), .ref p1_2, .ref p2_2, .ref p3_2, .ref p4_2, .ref p5_2, .ref p6_2])), (p1_2, .inl (g.2.1 0, 5, .inl (nF (zL_5 1)))), (p2_2, .inl (g.2.1 0, 5, .inl (nF (zL_5 2)))), (p3_2, .inl (g.2.1 0, 5, .inl (nF (zL_5 3)))), (p4_2, .inl (g.2.1 0, 5, .inl (nF (zL_5 4)))), (p5_2, .inl (g.2.1 0, 8, .inl (nF (zL_5 5)))), (p6_2, .inl (g.2.1 0, 8, .inl (nF (zL_5 6))))] (by rw [show (stsA kf (hsK (pHs yT kl ((va_up zL0 0 (va_up (zL0 0) 0 zp_4)) 0 0) 6 zc_4 0 yA))) = kf from stsA_0 h30]) ?_
      refine j_aload_n 34 dX4_read_33 rfl 1 rfl ?_
      refine j_aload_n 35 dX4_read_34 rfl 0 rfl ?_
      refine j_callVe (rest := []) 38 [0, 1, 2, 3, 4, 5, 6, 7, 8] (c_X4_readBeasts g ka kb kl zv_5 kf yT zn1 p1_2 p2_2 p3_2 p4_2 p5_2 p6_2 zL_5 zc_5 yB h4 hT hzl_5 hzv_5 ((hzL_5 h30).2.2.1)) dX4_read_35 rfl cv_X4_47 rfl rfl rfl rfl 0 rfl rfl (gLe rfl) (gLe rfl) (gLe rfl) (gLe rfl) (fun rv w1 hp => ?_)
      obtain ⟨zc_6, zv_6, zL_6, hzc_6, hzl_6, hzv_6, hzL_6, rfl, rfl⟩ := hp
      refine ⟨gLe rfl, ?_⟩
      refine j_eq (lv2 := [(1, .ref zn1), (0, .ref ka)]) (st2 := [.int (gB (bsK yT kl (pBs yT kl 9 zc_5 0 yB) = 0))]) (ws2 := [(ka, .inr (4, [.ref kb, .int (nI kl), .int (nI (tP yT kl zc_6)), .int (nI (tE yT kl zc_6)), .int (nI (tkK yT kl zc_6)), .int (nI zv_6), .int (nI (stsA kf (bsK yT kl (pBs yT kl 9 zc_5 0 yB))))])), (kb, .inl (g.2.1 1, 400, .inl (sgF yT))), (zn1, .inr (0, [.int (nI (zL_6 0 0)), .int (nI (zL_6 0 1)), .int (nI (zL_6 0 2)), .ref p1_2, .ref p2_2, .ref p3_2, .ref p4_2, .ref p5_2, .ref p6_2])), (p1_2, .inl (g.2.1 0, 5, .inl (nF (zL_6 1)))), (p2_2, .inl (g.2.1 0, 5, .inl (nF (zL_6 2)))), (p3_2, .inl (g.2.1 0, 5, .inl (nF (zL_6 3)))), (p4_2, .inl (g.2.1 0, 5, .inl (nF (zL_6 4)))), (p5_2, .inl (g.2.1 0, 8, .inl (nF (zL_6 5)))), (p6_2, .inl (g.2.1 0, 8, .inl (nF (zL_6 6))))]) rfl rfl rfl ?_
      refine j_if_eqB 41 45 dX4_read_38 rfl rfl (fun h38 => ?_) (fun h38 => ?_)
      ·
        refine j_iconst (v := (0 : Int32)) 46 dX4_read_45 rfl (by decide) ?_
        refine j_istore_n 47 [(2, .int (0 : Int32)), (1, .ref zn1), (0, .ref ka)] dX4_read_46 rfl (by decide) rfl ?_
        refine j_aload_n 48 dX4_read_47 rfl 2 rfl ?_
        refine j_iconst (v := (0 : Int32)) 49 dX4_read_48 rfl (by decide) ?_
        refine j_putf 52 0 [(ka, .inr (4, [.ref kb, .int (0 : Int32), .int (nI (tP yT kl zc_6)), .int (nI (tE yT kl zc_6)), .int (nI (tkK yT kl zc_6)), .int (nI zv_6), .int (nI (stsA kf (bsK yT kl (pBs yT kl 9 zc_5 0 yB))))])), (kb, .inl (g.2.1 1, 400, .inl (sgF yT))), (zn1, .inr (0, [.int (nI (zL_6 0 0)), .int (nI (zL_6 0 1)), .int (nI (zL_6 0 2)), .ref p1_2, .ref p2_2, .ref p3_2, .ref p4_2, .ref p5_2, .ref p6_2])), (p1_2, .inl (g.2.1 0, 5, .inl (nF (zL_6 1)))), (p2_2, .inl (g.2.1 0, 5, .inl (nF (zL_6 2)))), (p3_2, .inl (g.2.1 0, 5, .inl (nF (zL_6 3)))), (p4_2, .inl (g.2.1 0, 5, .inl (nF (zL_6 4)))), (p5_2, .inl (g.2.1 0, 8, .inl (nF (zL_6 5)))), (p6_2, .inl (g.2.1 0, 8, .inl (nF (zL_6 6))))] dX4_read_49 rfl fd_X4_15 rfl rfl rfl (gLe rfl) rfl ?_
        refine j_iload_n 53 dX4_read_52 rfl 0 rfl ?_
        refine j_if_eqN 0 56 60 dX4_read_53 rfl rfl (by decide) (fun h53 => ?_) (fun h53 => absurd h53 (by decide))
        refine j_null 61 dX4_read_60 rfl ?_
        have e1 := pAll_3 (B := yB) h22 (by rw [← hzq1, ← hzc_4]; exact h30)
        rw [← hzq1, ← hzc_4, ← hzc_5] at e1
        have e2 := e1.1
        have e3 : zc_6 = (pAll yT kl yA yB).2.1 := by rw [e1.2.1]; exact hzc_6
        have h9 := h38
        rw [← e2] at h9
        refine j_aret dX4_read_61 rfl (Or.inl ⟨_, rfl⟩) (Or.inl rfl) ⟨gLe rfl, gLe rfl, ?_⟩
        exact ⟨zn1, p1_2, p2_2, p3_2, p4_2, p5_2, p6_2, zc_6, _, _, _, _, zL_6, fun y => absurd y h9, e3, fun _ => by rw [e2]; exact if_neg (by rw [← e2]; exact h9), Or.inr ⟨h9, rfl⟩, rfl⟩
      ·
        refine j_iconst (v := (1 : Int32)) 42 dX4_read_41 rfl (by decide) ?_
        refine j_goto 46 dX4_read_42 rfl ?_
        refine j_istore_n 47 [(2, .int (1 : Int32)), (1, .ref zn1), (0, .ref ka)] dX4_read_46 rfl (by decide) rfl ?_
        refine j_aload_n 48 dX4_read_47 rfl 2 rfl ?_
        refine j_iconst (v := (0 : Int32)) 49 dX4_read_48 rfl (by decide) ?_
        refine j_putf 52 0 [(ka, .inr (4, [.ref kb, .int (0 : Int32), .int (nI (tP yT kl zc_6)), .int (nI (tE yT kl zc_6)), .int (nI (tkK yT kl zc_6)), .int (nI zv_6), .int (nI (stsA kf (bsK yT kl (pBs yT kl 9 zc_5 0 yB))))])), (kb, .inl (g.2.1 1, 400, .inl (sgF yT))), (zn1, .inr (0, [.int (nI (zL_6 0 0)), .int (nI (zL_6 0 1)), .int (nI (zL_6 0 2)), .ref p1_2, .ref p2_2, .ref p3_2, .ref p4_2, .ref p5_2, .ref p6_2])), (p1_2, .inl (g.2.1 0, 5, .inl (nF (zL_6 1)))), (p2_2, .inl (g.2.1 0, 5, .inl (nF (zL_6 2)))), (p3_2, .inl (g.2.1 0, 5, .inl (nF (zL_6 3)))), (p4_2, .inl (g.2.1 0, 5, .inl (nF (zL_6 4)))), (p5_2, .inl (g.2.1 0, 8, .inl (nF (zL_6 5)))), (p6_2, .inl (g.2.1 0, 8, .inl (nF (zL_6 6))))] dX4_read_49 rfl fd_X4_15 rfl rfl rfl (gLe rfl) rfl ?_
        refine j_iload_n 53 dX4_read_52 rfl 0 rfl ?_
        refine j_if_eqN 1 56 60 dX4_read_53 rfl rfl (by decide) (fun h53 => absurd h53 (by decide)) (fun h53 => ?_)
        refine j_aload_n 57 dX4_read_56 rfl 1 rfl ?_
        refine j_goto 61 dX4_read_57 rfl ?_
        have e1 := pAll_3 (B := yB) h22 (by rw [← hzq1, ← hzc_4]; exact h30)
        rw [← hzq1, ← hzc_4, ← hzc_5] at e1
        have e4 := e1.2.2 h38
        have e3 : zc_6 = (pAll yT kl yA yB).2.1 := by rw [e1.2.1]; exact hzc_6
        have h9 : (pAll yT kl yA yB).1 = 0 := by rw [e4]
        refine j_aret dX4_read_61 rfl (Or.inl ⟨_, rfl⟩) (Or.inr ⟨_, rfl⟩) ⟨gLe rfl, gLe rfl, ?_⟩
        have g1 := hzL_5 h30
        have g2 := hzL_6 h38
        refine ⟨zn1, p1_2, p2_2, p3_2, p4_2, p5_2, p6_2, zc_6, _, _, _, _, zL_6, fun _ => ?_, e3, fun y => absurd h9 y, Or.inl ⟨h9, rfl⟩, rfl⟩
        rw [e4]
        exact ⟨g2.1.1.trans g1.1, g2.1.2.trans g1.2.1, g2.2.1, hqR_e g2.2.2.1 g1.2.2.2.2.2, g2.2.2.2⟩
