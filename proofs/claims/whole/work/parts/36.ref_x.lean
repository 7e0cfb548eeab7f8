theorem bT_ext {nx nx' : Nat → Nat → Nat} {B s0 c : Nat} {Q pr dp : Nat → Nat} {n : Nat} (e : ∀ v b, b < B → nx' v b = nx v b) (h : bT nx B s0 c Q pr dp n) : bT nx' B s0 c Q pr dp n := by
  obtain ⟨h1, h2, h3, h4, h5⟩ := h
  refine ⟨h1, fun p p0 p1 => ?_, h3, h4, fun a b ha hb hc => ?_⟩
  · obtain ⟨a1, a2, a3, a4, a5⟩ := h2 p p0 p1
    exact ⟨a1, a2, a3, by rw [e _ _ a2]; exact a4, a5⟩
  · obtain ⟨p, p1, p2, p3⟩ := h5 a b ha hb hc
    exact ⟨p, p1, by rw [e _ _ hb]; exact p2, p3⟩
theorem wyP_ext {nx nx' : Nat → Nat → Nat} {B : Nat} {F : Nat → Int32} {s e : Nat} (h : ∀ v b, b < B → nx' v b = nx v b) : ∀ m v, wyP nx' B F s e m v ↔ wyP nx B F s e m v := by
  intro m
  induction m with
  | zero => intro v; exact Iff.rfl
  | succ m ih =>
    intro v
    refine exists_congr fun b => ⟨fun y => ⟨y.1, ?_⟩, fun y => ⟨y.1, ?_⟩⟩
    · have y2 := y.2; rw [h v b y.1, ih] at y2; exact y2
    · rw [h v b y.1, ih]; exact y.2
theorem onW_ext {nx nx' : Nat → Nat → Nat} {B s0 : Nat} {Q pr dp : Nat → Nat} {n : Nat} {F : Nat → Int32} (_h : bT nx B s0 (8 * n) Q pr dp n) (_hF : farE F Q dp n) (_hB8 : B ≤ 8) (e : ∀ v b, b < B → nx' v b = nx v b) {s z p : Nat} (_hp : p < n) : onW nx' B F s z (Q p) ↔ onW nx B F s z (Q p) := exists_congr fun m => wyP_ext e m _
theorem bT_root {nx : Nat → Nat → Nat} {B s0 c : Nat} {Q pr dp : Nat → Nat} {n f : Nat} (h : bT nx B s0 c Q pr dp n) (hf : f < n) : anc pr f (dp f) = 0 := by
  obtain ⟨i1, i2, _⟩ := bT_anc h hf (dp f) (Nat.le_refl _)
  have d0 : dp (anc pr f (dp f)) = 0 := by omega
  rcases (show anc pr f (dp f) = 0 ∨ 0 < anc pr f (dp f) by omega) with q | q
  · exact q
  · have := (h.2.1 _ q i1).2.2.2.2
    omega
set_option maxRecDepth 20000 in
theorem c_X6_reached (g : gG) (q : Nat → Nat) (Na : Nat → Nat → Nat) (Ia : Nat → Nat → Int32) (Ns : Nat → Nat) (Is : Nat → Int32) (s : Int32) (k : Int32) (hI : RI (Na, Ia, Ns, Is)) : gCon g mX6_reached 7 0 0 [.ref (q 26), .int s, .int k] (wS g q (Na, Ia, Ns, Is)) (fun rv ws' => ∃ (S9 : RS) (z9 : Int32), Gq S9 (Na, Ia, Ns, Is) ∧ (rM_reached s k (Na, Ia, Ns, Is)) z9 ∧ rv = some (.int z9) ∧ ws' = wS g q S9) := by
  refine gCon.of (lv := [(0, .ref (q 26)), (1, .int s), (2, .int k)]) (by decide) (gLe rfl) rfl ?_
  refine j_ws (wM g q Na Ia Ns Is) rfl ?_
  have h8 : Na 0 1 ≤ 6 ∧ Na 0 2 ≤ 5 ∧ Na 0 3 ≤ 8 ∧ Na 0 0 ≤ 1 := RI_3 hI
  have h40 : Na 0 40 < 32 ∧ (∀ j, j < 5 → Na 0 (41 + j) ≤ 9999) ∧ (∀ p, p < 6 → Na 0 (46 + p) ≤ 9999 ∧ Na 0 (52 + p) ≤ 989901) ∧ inP (Na 0) ≤ 9999 := RI_40 hI
  have hpm : Ns 2 ≤ 24 := hI.2.1
  have hsz : ∀ r, r < 8 → Na 8 r ≤ 40 := hI.2.2.2.2.2.2.2.1
  have htr : Ns 11 ≤ 16 := hI.2.2.2.2.2.2.2.2.1
  have hst : Is 12 = -1000000 := hI.2.2.2.2.2.2.2.2.2.1
  have htp : Ns 4 ≤ 400 := hI.2.2.2.2.1
  refine j_aload_n 1 dX6_reached_0 rfl 0 rfl ?_
  refine j_getf 4 0 dX6_reached_1 rfl fd_X6_7 rfl rfl ?_
  refine j_iconst (v := (0 : Int32)) 5 dX6_reached_4 rfl (by decide) ?_
  refine j_ialdN 0 6 1 dX6_reached_5 rfl rfl (by decide) (by decide) ?_
  refine j_if_neN ((Na 0) 0) 9 12 dX6_reached_6 rfl rfl (by have z0 := h8.2.2.2; omega) (fun h6 => ?_) (fun h6 => ?_)
  ·
    refine j_aload_n 13 dX6_reached_12 rfl 0 rfl ?_
    refine j_iload_n 14 dX6_reached_13 rfl 1 rfl ?_
    refine j_callVW (rest := []) 17 (c_X6_areStands g q Na Ia Ns Is s  h8.2.1) [.int (gB (inR s (2 ^ (Na 0) 2)))] dX6_reached_14 rfl cv_X6_211 rfl rfl 0 rfl rfl (gLe rfl) (gLe rfl) (gLe rfl) (gLe rfl) (wM_len _ _ _ _ _ _ _ _ _ _) rfl ?_
    refine j_if_eqB 20 25 dX6_reached_17 rfl rfl (fun h17 => ?_) (fun h17 => ?_)
    ·
      refine j_ldc (v := (-1000001 : Int32)) 27 dX6_reached_25 rfl wd_4_140 ?_
      refine j_iretI dX6_reached_27 rfl ⟨gLe rfl, gLe rfl, ?_⟩
      have ze : (rM_reached s k (Na, Ia, Ns, Is)) (-1000001 : Int32) := by
        rw [rM_reached, if_neg h6, if_pos (by first | exact Or.inl h17 | exact Or.inr (Int32.not_le.mp h22))]
      exact ⟨(Na, Ia, Ns, Is), (-1000001 : Int32), ⟨(fun k _ => rfl), ⟨rfl, rfl, rfl, rfl⟩, ⟨rfl, rfl⟩, ⟨rfl, rfl, rfl, rfl, rfl⟩, rfl⟩, ze, rfl, rfl⟩
    ·
      refine j_iload_n 21 dX6_reached_20 rfl 2 rfl ?_
      refine j_iconst (v := (-1 : Int32)) 22 dX6_reached_21 rfl (by decide) ?_
      refine j_icmp_ge 25 28 dX6_reached_22 rfl rfl (fun h22 => ?_) (fun h22 => ?_)
      ·
        obtain ⟨zs, hzs, rfl⟩ := inR_of h17
        have hq1 := RI_P hI (Or.inr (Or.inr (Or.inr h6)))
        have hokp : okP (Na 0) := hq1.2.1
        have hs40 : Na 0 40 < 2 ^ Na 0 2 := hq1.2.2.1
        have hum : ∀ k, uM (Na 0) 0 k ≤ 9999 := by
          intro k
          by_cases hk : k < 5
          · rw [uM_at hk, show 0 + 41 + k = 41 + k by omega]; exact h40.2.1 k hk
          · rw [Z5_uM _ _ k (by omega)]; exact Nat.zero_le _
        have hp32 : 2 ^ Na 0 2 ≤ 2 ^ 5 := Nat.pow_le_pow_right (by decide) h8.2.1
        have hp8 := hokp.2.2.2.1
        refine j_aload_n 29 dX6_reached_28 rfl 0 rfl ?_
        refine j_callVX (rest := []) 32 (c_X6_layFars g q Na Ia Ns Is   hst hokp hs40 hum) dX6_reached_29 rfl cv_X6_251 rfl rfl 0 rfl rfl (gLe rfl) (gLe rfl) (gLe rfl) (gLe rfl) (fun rv w1 hp => ?_)
        obtain ⟨Z1_1, ZK_1, hZ1_1, hZK_1, hZM_1, rfl, rfl⟩ := hp
        refine ⟨(wM_len _ _ _ _ _ _ _ _ _ _), ?_⟩
        refine j_eq (lv2 := [(0, .ref (q 26)), (1, .int (nI zs)), (2, .int k)]) (st2 := []) (ws2 := (wM g q (va_up (va_up Na 0 Z1_1) 22 ((outQ (Na 0) (q0 (Na 0) (Ia 21) (Na 22)) ZK_1).2.1)) (va_up Ia 21 ((outQ (Na 0) (q0 (Na 0) (Ia 21) (Na 22)) ZK_1).1)) (va_up Ns 23 ((outQ (Na 0) (q0 (Na 0) (Ia 21) (Na 22)) ZK_1).2.2)) Is)) rfl rfl rfl ?_
        have hokq := outQ_ok hokp (q0_ok hokp hs40) ZK_1 hZK_1
        obtain ⟨zpr, zdp, hbt, hfe⟩ := bfsE_bT hokp hs40 ⟨hZK_1, hZM_1⟩
        have hqi : ∀ i, i < (outQ (Na 0) (q0 (Na 0) (Ia 21) (Na 22)) ZK_1).2.2 → (outQ (Na 0) (q0 (Na 0) (Ia 21) (Na 22)) ZK_1).2.1 i < 7776 ∧ (outQ (Na 0) (q0 (Na 0) (Ia 21) (Na 22)) ZK_1).2.1 i % 32 < 2 ^ Na 0 2 := fun i hi => ⟨(hokq.2.1 i hi).1, (hokq.2.1 i hi).2.1⟩
        refine j_aload_n 33 dX6_reached_32 rfl 0 rfl ?_
        refine j_iload_n 34 dX6_reached_33 rfl 1 rfl ?_
        refine j_callVW (rest := []) 37 (c_X6_soonest g q (va_up (va_up Na 0 Z1_1) 22 ((outQ (Na 0) (q0 (Na 0) (Ia 21) (Na 22)) ZK_1).2.1)) (va_up Ia 21 ((outQ (Na 0) (q0 (Na 0) (Ia 21) (Na 22)) ZK_1).1)) (va_up Ns 23 ((outQ (Na 0) (q0 (Na 0) (Ia 21) (Na 22)) ZK_1).2.2)) Is zs (Na 0 2) hokq (by omega)) [.int (sonF ((outQ (Na 0) (q0 (Na 0) (Ia 21) (Na 22)) ZK_1).1) ((outQ (Na 0) (q0 (Na 0) (Ia 21) (Na 22)) ZK_1).2.1) zs ((outQ (Na 0) (q0 (Na 0) (Ia 21) (Na 22)) ZK_1).2.2) 0)] dX6_reached_34 rfl cv_X6_254 rfl rfl 0 rfl rfl (gLe rfl) (gLe rfl) (gLe rfl) (gLe rfl) (wM_len _ _ _ _ _ _ _ _ _ _) rfl ?_
        refine j_istore_n 38 [(3, .int (sonF ((outQ (Na 0) (q0 (Na 0) (Ia 21) (Na 22)) ZK_1).1) ((outQ (Na 0) (q0 (Na 0) (Ia 21) (Na 22)) ZK_1).2.1) zs ((outQ (Na 0) (q0 (Na 0) (Ia 21) (Na 22)) ZK_1).2.2) 0)), (0, .ref (q 26)), (1, .int (nI zs)), (2, .int k)] dX6_reached_37 rfl (by decide) rfl ?_
        refine j_iload_n 39 dX6_reached_38 rfl 0 rfl ?_
        refine j_ldc (v := (-1000000 : Int32)) 41 dX6_reached_39 rfl wd_4_47 ?_
        refine j_icmp_eq 44 49 dX6_reached_41 rfl rfl (fun h41 => ?_) (fun h41 => ?_)
        ·
          refine j_iload_n 50 dX6_reached_49 rfl 0 rfl ?_
          refine j_iretI dX6_reached_50 rfl ⟨gLe rfl, gLe rfl, ?_⟩
          have ze : (rM_reached (nI zs) k (Na, Ia, Ns, Is)) (sonF ((outQ (Na 0) (q0 (Na 0) (Ia 21) (Na 22)) ZK_1).1) ((outQ (Na 0) (q0 (Na 0) (Ia 21) (Na 22)) ZK_1).2.1) zs ((outQ (Na 0) (q0 (Na 0) (Ia 21) (Na 22)) ZK_1).2.2) 0) := by
            rw [rM_reached, if_neg h6, if_neg (fun z => z.elim (fun z => z h17) (fun z => absurd z (Int32.not_lt.mpr h22))), cl_nI (by omega)]
            refine ⟨(outQ (Na 0) (q0 (Na 0) (Ia 21) (Na 22)) ZK_1).2.1, zpr, zdp, (outQ (Na 0) (q0 (Na 0) (Ia 21) (Na 22)) ZK_1).2.2, hbt, ?_⟩
            rcases sonF_s (F := (outQ (Na 0) (q0 (Na 0) (Ia 21) (Na 22)) ZK_1).1) (Q := (outQ (Na 0) (q0 (Na 0) (Ia 21) (Na 22)) ZK_1).2.1) (s := zs) (outQ (Na 0) (q0 (Na 0) (Ia 21) (Na 22)) ZK_1).2.2 0 with ⟨y1, y2⟩ | ⟨zf, hzf, hzf1, hzf2, hzf3⟩
            · simp only [Nat.zero_add] at y1
              exact Or.inl ⟨y1, y2⟩
            · simp only [Nat.zero_add] at hzf1 hzf2 hzf3
              refine Or.inr ⟨zf, hzf, hzf1, hzf2, ?_⟩
              have hend : sonF (outQ (Na 0) (q0 (Na 0) (Ia 21) (Na 22)) ZK_1).1 (outQ (Na 0) (q0 (Na 0) (Ia 21) (Na 22)) ZK_1).2.1 zs (outQ (Na 0) (q0 (Na 0) (Ia 21) (Na 22)) ZK_1).2.2 0 = nI (zdp zf) := by rw [hzf3]; exact hfe.2 zf hzf
              have hzd := (bT_dpm hbt zf hzf).1
              have hfe1 : (outQ (Na 0) (q0 (Na 0) (Ia 21) (Na 22)) ZK_1).2.2 ≤ 7776 := hfe.1
              first
                | (rw [if_pos h46]; exact hend)
                | exact absurd (hend.symm.trans h41) (nI_nN (by omega))
          exact ⟨((va_up (va_up Na 0 Z1_1) 22 ((outQ (Na 0) (q0 (Na 0) (Ia 21) (Na 22)) ZK_1).2.1)), (va_up Ia 21 ((outQ (Na 0) (q0 (Na 0) (Ia 21) (Na 22)) ZK_1).1)), (va_up Ns 23 ((outQ (Na 0) (q0 (Na 0) (Ia 21) (Na 22)) ZK_1).2.2)), Is), (sonF ((outQ (Na 0) (q0 (Na 0) (Ia 21) (Na 22)) ZK_1).1) ((outQ (Na 0) (q0 (Na 0) (Ia 21) (Na 22)) ZK_1).2.1) zs ((outQ (Na 0) (q0 (Na 0) (Ia 21) (Na 22)) ZK_1).2.2) 0), ⟨hZ1_1, ⟨rfl, rfl, rfl, rfl⟩, ⟨rfl, rfl⟩, ⟨rfl, rfl, rfl, rfl, rfl⟩, rfl⟩, ze, rfl, rfl⟩
        ·
          refine j_iload_n 45 dX6_reached_44 rfl 3 rfl ?_
          refine j_iconst (v := (-1 : Int32)) 46 dX6_reached_45 rfl (by decide) ?_
          refine j_icmp_ne 49 51 dX6_reached_46 rfl rfl (fun h46 => ?_) (fun h46 => ?_)
          ·
            obtain ⟨zf, hzf, hzf1, hzf2, hzf3⟩ := (sonF_s (F := (outQ (Na 0) (q0 (Na 0) (Ia 21) (Na 22)) ZK_1).1) (Q := (outQ (Na 0) (q0 (Na 0) (Ia 21) (Na 22)) ZK_1).2.1) (s := zs) (outQ (Na 0) (q0 (Na 0) (Ia 21) (Na 22)) ZK_1).2.2 0).resolve_left (fun z => h41 z.2)
            simp only [Nat.zero_add] at hzf1 hzf2 hzf3
            have hend : sonF (outQ (Na 0) (q0 (Na 0) (Ia 21) (Na 22)) ZK_1).1 (outQ (Na 0) (q0 (Na 0) (Ia 21) (Na 22)) ZK_1).2.1 zs (outQ (Na 0) (q0 (Na 0) (Ia 21) (Na 22)) ZK_1).2.2 0 = nI (zdp zf) := by rw [hzf3]; exact hfe.2 zf hzf
            have hzd : zdp zf ≤ zf := (bT_dpm hbt zf hzf).1
            have hfe1 : (outQ (Na 0) (q0 (Na 0) (Ia 21) (Na 22)) ZK_1).2.2 ≤ 7776 := hfe.1
            refine j_lvs [(3, .int (nI (zdp zf))), (0, .ref (q 26)), (1, .int (nI zs)), (2, .int k)] (by rw [hend]) ?_
            refine j_iload_n 52 dX6_reached_51 rfl 3 rfl ?_
            refine j_iload_n 53 dX6_reached_52 rfl 0 rfl ?_
            refine j_icmp_lt 56 59 dX6_reached_53 rfl rfl (fun h53 => ?_) (fun h53 => ?_)
            ·
              have hzi := i32_m1 (Int32.not_lt.mpr h22) h46 h53 (by omega)
              obtain ⟨zk, hzk, rfl⟩ := inR_of hzi
              refine j_aload_n 60 dX6_reached_59 rfl 1 rfl ?_
              refine j_iload_n 61 dX6_reached_60 rfl 2 rfl ?_
              refine j_iload_n 62 dX6_reached_61 rfl 0 rfl ?_
              refine j_callVX (rest := []) 65 (c_X6_layWays g q (va_up (va_up Na 0 Z1_1) 22 ((outQ (Na 0) (q0 (Na 0) (Ia 21) (Na 22)) ZK_1).2.1)) (va_up Ia 21 ((outQ (Na 0) (q0 (Na 0) (Ia 21) (Na 22)) ZK_1).1)) (va_up Ns 23 ((outQ (Na 0) (q0 (Na 0) (Ia 21) (Na 22)) ZK_1).2.2)) Is zs (zdp zf) (numA (Na 0) (Na 0 40) (uM (Na 0) 0)) zpr zdp hst (okP_eq (eqB_P hZ1_1) hokp) (by show okQ (Z1_1 2) (outQ (Na 0) (q0 (Na 0) (Ia 21) (Na 22)) ZK_1); rw [hZ1_1 2 (by decide)]; exact hokq) (by show bT (nxN Z1_1) (Z1_1 3) _ _ _ _ _ _; rw [hZ1_1 3 (by decide)]; exact bT_ext (fun v b hb => nxN_eq hokp hZ1_1 hb) hbt) hfe (by omega) (by omega)) dX6_reached_62 rfl cv_X6_257 rfl rfl 0 rfl rfl (gLe rfl) (gLe rfl) (gLe rfl) (gLe rfl) (fun rv w1 hp => ?_)
              obtain ⟨Z1_2, ZW_2, hZ1_2, hZW_2, hZB_2, rfl, rfl⟩ := hp
              refine ⟨(wM_len _ _ _ _ _ _ _ _ _ _), ?_⟩
              refine j_eq (lv2 := [(3, .int (nI (zdp zf))), (0, .ref (q 26)), (1, .int (nI zs)), (2, .int (nI zk))]) (st2 := []) (ws2 := (wM g q (va_up (va_up (va_up Na 0 Z1_2) 22 ((outQ (Na 0) (q0 (Na 0) (Ia 21) (Na 22)) ZK_1).2.1)) 24 ZW_2) (va_up Ia 21 ((outQ (Na 0) (q0 (Na 0) (Ia 21) (Na 22)) ZK_1).1)) (va_up Ns 23 ((outQ (Na 0) (q0 (Na 0) (Ia 21) (Na 22)) ZK_1).2.2)) Is)) rfl rfl rfl ?_
              have hE2 := eqB_trans hZ1_2 hZ1_1
              have hZWx : ∀ p, 0 ≤ p → p < (outQ (Na 0) (q0 (Na 0) (Ia 21) (Na 22)) ZK_1).2.2 → (ZW_2 ((outQ (Na 0) (q0 (Na 0) (Ia 21) (Na 22)) ZK_1).2.1 p) ≠ 0 ↔ onW (nxN (Na 0)) (Na 0 3) (outQ (Na 0) (q0 (Na 0) (Ia 21) (Na 22)) ZK_1).1 zs (zdp zf) ((outQ (Na 0) (q0 (Na 0) (Ia 21) (Na 22)) ZK_1).2.1 p)) := by
                intro p p0 p1
                refine (hZW_2 p p0 p1).trans ?_
                show onW (nxN Z1_1) (Z1_1 3) _ _ _ _ ↔ _
                rw [hZ1_1 3 (by decide)]
                exact onW_ext hbt hfe hp8 (fun v b hb => nxN_eq hokp hZ1_1 hb) p1
              refine j_aload_n 66 dX6_reached_65 rfl 1 rfl ?_
              refine j_getf 69 0 dX6_reached_66 rfl fd_X6_45 rfl rfl ?_
              refine j_iconst (v := (0 : Int32)) 70 dX6_reached_69 rfl (by decide) ?_
              refine j_ialdN 0 71 11 dX6_reached_70 rfl rfl (by decide) (by decide) ?_
              refine j_istore 73 [(4, .int (nI (((outQ (Na 0) (q0 (Na 0) (Ia 21) (Na 22)) ZK_1).2.1) 0))), (3, .int (nI (zdp zf))), (0, .ref (q 26)), (1, .int (nI zs)), (2, .int (nI zk))] dX6_reached_71 rfl (by decide) rfl ?_
              refine j_ldc (v := (-1000000 : Int32)) 75 dX6_reached_73 rfl wd_4_47 ?_
              refine j_istore 77 [(5, .int (-1000000 : Int32)), (4, .int (nI (((outQ (Na 0) (q0 (Na 0) (Ia 21) (Na 22)) ZK_1).2.1) 0))), (3, .int (nI (zdp zf))), (0, .ref (q 26)), (1, .int (nI zs)), (2, .int (nI zk))] dX6_reached_75 rfl (by decide) rfl ?_
              refine j_iconst (v := (0 : Int32)) 78 dX6_reached_77 rfl (by decide) ?_
              refine j_istore 80 [(6, .int (0 : Int32)), (5, .int (-1000000 : Int32)), (4, .int (nI (((outQ (Na 0) (q0 (Na 0) (Ia 21) (Na 22)) ZK_1).2.1) 0))), (3, .int (nI (zdp zf))), (0, .ref (q 26)), (1, .int (nI zs)), (2, .int (nI zk))] dX6_reached_78 rfl (by decide) rfl ?_
              have hL80 : ∀ (zm80 : Nat) (zi : Nat) (zl : Int32) (ZR : Nat → Nat), zk + 1 - zi < zm80 → (zi ≤ zk + 1) → (eqB ZR (Na 0)) → (0 < zi → zl = nI (zpr (anc zpr zf (zdp zf - zi)) % 8)) → gJ g mX6_reached 7 0 0 (fun k' j' rv ws' => k' ≤ 0 ∧ j' ≤ 0 ∧ (∃ (S9 : RS) (z9 : Int32), Gq S9 (Na, Ia, Ns, Is) ∧ (rM_reached (nI zs) (nI zk) (Na, Ia, Ns, Is)) z9 ∧ rv = some (.int z9) ∧ ws' = wS g q S9)) 0 0 80 [(6, .int (nI zi)), (5, .int zl), (4, .int (nI ((outQ (Na 0) (q0 (Na 0) (Ia 21) (Na 22)) ZK_1).2.1 (anc zpr zf (zdp zf - zi))))), (3, .int (nI (zdp zf))), (0, .ref (q 26)), (1, .int (nI zs)), (2, .int (nI zk))] [] (wM g q (va_up (va_up (va_up Na 0 ZR) 22 ((outQ (Na 0) (q0 (Na 0) (Ia 21) (Na 22)) ZK_1).2.1)) 24 ZW_2) (va_up Ia 21 ((outQ (Na 0) (q0 (Na 0) (Ia 21) (Na 22)) ZK_1).1)) (va_up Ns 23 ((outQ (Na 0) (q0 (Na 0) (Ia 21) (Na 22)) ZK_1).2.2)) Is) := by
                intro zm80
                induction zm80 with
                | zero => intro zi zl ZR zmh; exact absurd zmh (Nat.not_lt_zero _)
                | succ zm80 zih80 =>
                  intro zi zl ZR zmh80 hz hzE hzl
                  refine j_iload 82 dX6_reached_80 rfl 0 rfl ?_
                  refine j_iload_n 83 dX6_reached_82 rfl 6 rfl ?_
                  refine j_icmp_gtN zi zk 86 122 dX6_reached_83 rfl rfl (by omega) (by omega) (fun h83 => ?_) (fun h83 => ?_)
                  ·
                    refine j_iload 124 dX6_reached_122 rfl 1 rfl ?_
                    refine j_iretI dX6_reached_124 rfl ⟨gLe rfl, gLe rfl, ?_⟩
                    have ze : (rM_reached (nI zs) (nI zk) (Na, Ia, Ns, Is)) zl := by
                      have ye : zi = zk + 1 := by omega
                      subst ye
                      rw [rM_reached, if_neg h6, if_neg (fun z => z.elim (fun z => z h17) (fun z => absurd z (Int32.not_lt.mpr h22))), cl_nI (by omega)]
                      refine ⟨(outQ (Na 0) (q0 (Na 0) (Ia 21) (Na 22)) ZK_1).2.1, zpr, zdp, (outQ (Na 0) (q0 (Na 0) (Ia 21) (Na 22)) ZK_1).2.2, hbt, Or.inr ⟨zf, hzf, hzf1, hzf2, ?_⟩⟩
                      rw [if_neg h46, if_neg (Int32.not_le.mpr h53), cl_nI (by omega), hzl (Nat.succ_pos _), show zdp zf - (zk + 1) = zdp zf - 1 - zk by omega]
                    exact ⟨((va_up (va_up (va_up Na 0 ZR) 22 ((outQ (Na 0) (q0 (Na 0) (Ia 21) (Na 22)) ZK_1).2.1)) 24 ZW_2), (va_up Ia 21 ((outQ (Na 0) (q0 (Na 0) (Ia 21) (Na 22)) ZK_1).1)), (va_up Ns 23 ((outQ (Na 0) (q0 (Na 0) (Ia 21) (Na 22)) ZK_1).2.2)), Is), zl, ⟨hzE, ⟨rfl, rfl, rfl, rfl⟩, ⟨rfl, rfl⟩, ⟨rfl, rfl, rfl, rfl, rfl⟩, rfl⟩, ze, rfl, rfl⟩
                  ·
                    obtain ⟨zj, hzj⟩ : ∃ z, zdp zf - zi = z + 1 := ⟨zdp zf - zi - 1, by omega⟩
                    obtain ⟨hl1, hl2, hl3, hl4, hl5⟩ := bT_least hbt hfe hp8 hzf hzf1 hzf2 (j := zj) (by omega)
                    refine j_lvs [(6, .int (nI zi)), (5, .int zl), (4, .int (nI ((outQ (Na 0) (q0 (Na 0) (Ia 21) (Na 22)) ZK_1).2.1 (anc zpr zf (zj + 1))))), (3, .int (nI (zdp zf))), (0, .ref (q 26)), (1, .int (nI zs)), (2, .int (nI zk))] (by rw [hzj]) ?_
                    have hqz := hqi _ hl5
                    have hlw : ∀ b, b < Na 0 3 → ((ZW_2 (nxN (Na 0) ((outQ (Na 0) (q0 (Na 0) (Ia 21) (Na 22)) ZK_1).2.1 (anc zpr zf (zj + 1))) b) ≠ 0 ∧ (outQ (Na 0) (q0 (Na 0) (Ia 21) (Na 22)) ZK_1).1 (nxN (Na 0) ((outQ (Na 0) (q0 (Na 0) (Ia 21) (Na 22)) ZK_1).2.1 (anc zpr zf (zj + 1))) b) = (outQ (Na 0) (q0 (Na 0) (Ia 21) (Na 22)) ZK_1).1 ((outQ (Na 0) (q0 (Na 0) (Ia 21) (Na 22)) ZK_1).2.1 (anc zpr zf (zj + 1))) + 1) ↔ _) := fun b hb => lw_iff hbt hfe hp8 (fun p h1 h2 => hZWx p (Nat.zero_le _) h2) (by omega : 0 < (outQ (Na 0) (q0 (Na 0) (Ia 21) (Na 22)) ZK_1).2.2) (Nat.zero_le _) hl5 hb
                    refine j_iconst (v := (0 : Int32)) 87 dX6_reached_86 rfl (by decide) ?_
                    refine j_istore 89 [(5, .int (0 : Int32)), (6, .int (nI zi)), (4, .int (nI ((outQ (Na 0) (q0 (Na 0) (Ia 21) (Na 22)) ZK_1).2.1 (anc zpr zf (zj + 1))))), (3, .int (nI (zdp zf))), (0, .ref (q 26)), (1, .int (nI zs)), (2, .int (nI zk))] dX6_reached_87 rfl (by decide) rfl ?_
                    have hL89 : ∀ (zm89 : Nat) (zb : Nat) (ZS : Nat → Nat), 8 - zb < zm89 → (eqB ZS (Na 0)) → (zb ≤ (zpr (anc zpr zf zj) % 8)) → gJ g mX6_reached 7 0 0 (fun k' j' rv ws' => k' ≤ 0 ∧ j' ≤ 0 ∧ (∃ (S9 : RS) (z9 : Int32), Gq S9 (Na, Ia, Ns, Is) ∧ (rM_reached (nI zs) (nI zk) (Na, Ia, Ns, Is)) z9 ∧ rv = some (.int z9) ∧ ws' = wS g q S9)) 0 0 89 [(5, .int (nI zb)), (6, .int (nI zi)), (4, .int (nI ((outQ (Na 0) (q0 (Na 0) (Ia 21) (Na 22)) ZK_1).2.1 (anc zpr zf (zj + 1))))), (3, .int (nI (zdp zf))), (0, .ref (q 26)), (1, .int (nI zs)), (2, .int (nI zk))] [] (wM g q (va_up (va_up (va_up Na 0 ZS) 22 ((outQ (Na 0) (q0 (Na 0) (Ia 21) (Na 22)) ZK_1).2.1)) 24 ZW_2) (va_up Ia 21 ((outQ (Na 0) (q0 (Na 0) (Ia 21) (Na 22)) ZK_1).1)) (va_up Ns 23 ((outQ (Na 0) (q0 (Na 0) (Ia 21) (Na 22)) ZK_1).2.2)) Is) := by
                      intro zm89
                      induction zm89 with
                      | zero => intro zb ZS zmh; exact absurd zmh (Nat.not_lt_zero _)
                      | succ zm89 zih89 =>
                        intro zb ZS zmh89 hyE hyb
                        refine j_aload_n 90 dX6_reached_89 rfl 4 rfl ?_
                        refine j_iload 92 dX6_reached_90 rfl 2 rfl ?_
                        refine j_iload 94 dX6_reached_92 rfl 0 rfl ?_
                        refine j_callVX (rest := []) 97 (c_X6_leads g q (va_up (va_up (va_up Na 0 ZS) 22 ((outQ (Na 0) (q0 (Na 0) (Ia 21) (Na 22)) ZK_1).2.1)) 24 ZW_2) (va_up Ia 21 ((outQ (Na 0) (q0 (Na 0) (Ia 21) (Na 22)) ZK_1).1)) (va_up Ns 23 ((outQ (Na 0) (q0 (Na 0) (Ia 21) (Na 22)) ZK_1).2.2)) Is ((outQ (Na 0) (q0 (Na 0) (Ia 21) (Na 22)) ZK_1).2.1 (anc zpr zf (zj + 1))) zb  hst (okP_eq (eqB_P hyE) hokp) hqz.1 (by show _ < 2 ^ ZS 2; rw [hyE 2 (by decide)]; exact hqz.2) (by show zb < ZS 3; rw [hyE 3 (by decide)]; omega) hZB_2) dX6_reached_94 rfl cv_X6_248 rfl rfl 0 rfl rfl (gLe rfl) (gLe rfl) (gLe rfl) (gLe rfl) (fun rv w1 hp => ?_)
                        obtain ⟨Z1_3, hZ1_3, rfl, rfl⟩ := hp
                        refine ⟨(wM_len _ _ _ _ _ _ _ _ _ _), ?_⟩
                        refine j_eq (lv2 := [(5, .int (nI zb)), (6, .int (nI zi)), (4, .int (nI ((outQ (Na 0) (q0 (Na 0) (Ia 21) (Na 22)) ZK_1).2.1 (anc zpr zf (zj + 1))))), (3, .int (nI (zdp zf))), (0, .ref (q 26)), (1, .int (nI zs)), (2, .int (nI zk))]) (st2 := [.int (gB (ZW_2 (nxN ZS ((outQ (Na 0) (q0 (Na 0) (Ia 21) (Na 22)) ZK_1).2.1 (anc zpr zf (zj + 1))) zb) ≠ 0 ∧ ((outQ (Na 0) (q0 (Na 0) (Ia 21) (Na 22)) ZK_1).1) (nxN ZS ((outQ (Na 0) (q0 (Na 0) (Ia 21) (Na 22)) ZK_1).2.1 (anc zpr zf (zj + 1))) zb) = ((outQ (Na 0) (q0 (Na 0) (Ia 21) (Na 22)) ZK_1).1) ((outQ (Na 0) (q0 (Na 0) (Ia 21) (Na 22)) ZK_1).2.1 (anc zpr zf (zj + 1))) + 1))]) (ws2 := (wM g q (va_up (va_up (va_up Na 0 Z1_3) 22 ((outQ (Na 0) (q0 (Na 0) (Ia 21) (Na 22)) ZK_1).2.1)) 24 ZW_2) (va_up Ia 21 ((outQ (Na 0) (q0 (Na 0) (Ia 21) (Na 22)) ZK_1).1)) (va_up Ns 23 ((outQ (Na 0) (q0 (Na 0) (Ia 21) (Na 22)) ZK_1).2.2)) Is)) rfl rfl rfl ?_
                        refine j_topI _ (gB ((ZW_2 (nxN (Na 0) ((outQ (Na 0) (q0 (Na 0) (Ia 21) (Na 22)) ZK_1).2.1 (anc zpr zf (zj + 1))) zb) ≠ 0 ∧ (outQ (Na 0) (q0 (Na 0) (Ia 21) (Na 22)) ZK_1).1 (nxN (Na 0) ((outQ (Na 0) (q0 (Na 0) (Ia 21) (Na 22)) ZK_1).2.1 (anc zpr zf (zj + 1))) zb) = (outQ (Na 0) (q0 (Na 0) (Ia 21) (Na 22)) ZK_1).1 ((outQ (Na 0) (q0 (Na 0) (Ia 21) (Na 22)) ZK_1).2.1 (anc zpr zf (zj + 1))) + 1))) (gB_iff (by show (ZW_2 (nxN ZS _ zb) ≠ 0 ∧ (outQ (Na 0) (q0 (Na 0) (Ia 21) (Na 22)) ZK_1).1 (nxN ZS _ zb) = _) ↔ _; rw [nxN_eq hokp hyE (show zb < Na 0 3 by omega)])) ?_
                        refine j_if_neB 100 106 dX6_reached_97 rfl rfl (fun h97 => ?_) (fun h97 => ?_)
                        ·
                          have hzbb : zb = (zpr (anc zpr zf zj) % 8) := by
                            rcases Nat.lt_or_ge zb (zpr (anc zpr zf zj) % 8) with y | y
                            · exact absurd ((hlw zb (by omega)).mp h97) (hl2 zb y)
                            · omega
                          have hE3 := eqB_trans hZ1_3 hyE
                          refine j_aload_n 107 dX6_reached_106 rfl 4 rfl ?_
                          refine j_iload 109 dX6_reached_107 rfl 2 rfl ?_
                          refine j_iload 111 dX6_reached_109 rfl 0 rfl ?_
                          refine j_callVX (rest := []) 114 (c_X6_after g q (va_up (va_up (va_up Na 0 Z1_3) 22 ((outQ (Na 0) (q0 (Na 0) (Ia 21) (Na 22)) ZK_1).2.1)) 24 ZW_2) (va_up Ia 21 ((outQ (Na 0) (q0 (Na 0) (Ia 21) (Na 22)) ZK_1).1)) (va_up Ns 23 ((outQ (Na 0) (q0 (Na 0) (Ia 21) (Na 22)) ZK_1).2.2)) Is ((outQ (Na 0) (q0 (Na 0) (Ia 21) (Na 22)) ZK_1).2.1 (anc zpr zf (zj + 1))) zb  hst (okP_eq (eqB_P hE3) hokp) hqz.1 (by show _ < 2 ^ Z1_3 2; rw [hE3 2 (by decide)]; exact hqz.2) (by show zb < Z1_3 3; rw [hE3 3 (by decide)]; omega)) dX6_reached_111 rfl cv_X6_241 rfl rfl 0 rfl rfl (gLe rfl) (gLe rfl) (gLe rfl) (gLe rfl) (fun rv w1 hp => ?_)
                          obtain ⟨Z1_4, hZ1_4, rfl, rfl⟩ := hp
                          refine ⟨(wM_len _ _ _ _ _ _ _ _ _ _), ?_⟩
                          refine j_eq (lv2 := [(5, .int (nI zb)), (6, .int (nI zi)), (4, .int (nI ((outQ (Na 0) (q0 (Na 0) (Ia 21) (Na 22)) ZK_1).2.1 (anc zpr zf (zj + 1))))), (3, .int (nI (zdp zf))), (0, .ref (q 26)), (1, .int (nI zs)), (2, .int (nI zk))]) (st2 := [.int (nI (nxN Z1_3 ((outQ (Na 0) (q0 (Na 0) (Ia 21) (Na 22)) ZK_1).2.1 (anc zpr zf (zj + 1))) zb))]) (ws2 := (wM g q (va_up (va_up (va_up Na 0 Z1_4) 22 ((outQ (Na 0) (q0 (Na 0) (Ia 21) (Na 22)) ZK_1).2.1)) 24 ZW_2) (va_up Ia 21 ((outQ (Na 0) (q0 (Na 0) (Ia 21) (Na 22)) ZK_1).1)) (va_up Ns 23 ((outQ (Na 0) (q0 (Na 0) (Ia 21) (Na 22)) ZK_1).2.2)) Is)) rfl rfl rfl ?_
                          refine j_topN (nxN Z1_3 ((outQ (Na 0) (q0 (Na 0) (Ia 21) (Na 22)) ZK_1).2.1 (anc zpr zf (zj + 1))) zb) ((outQ (Na 0) (q0 (Na 0) (Ia 21) (Na 22)) ZK_1).2.1 (anc zpr zf (zdp zf - (zi + 1)))) (by show nxN Z1_3 _ zb = _; rw [nxN_eq hokp hE3 (show zb < Na 0 3 by omega), hzbb, hl3, show zdp zf - (zi + 1) = zj by omega]) ?_
                          refine j_istore 116 [(4, .int (nI ((outQ (Na 0) (q0 (Na 0) (Ia 21) (Na 22)) ZK_1).2.1 (anc zpr zf (zdp zf - (zi + 1)))))), (5, .int (nI zb)), (6, .int (nI zi)), (3, .int (nI (zdp zf))), (0, .ref (q 26)), (1, .int (nI zs)), (2, .int (nI zk))] dX6_reached_114 rfl (by decide) rfl ?_
                          refine j_iincN zi 1 119 [(6, .int (nI (zi + 1))), (4, .int (nI ((outQ (Na 0) (q0 (Na 0) (Ia 21) (Na 22)) ZK_1).2.1 (anc zpr zf (zdp zf - (zi + 1)))))), (5, .int (nI zb)), (3, .int (nI (zdp zf))), (0, .ref (q 26)), (1, .int (nI zs)), (2, .int (nI zk))] dX6_reached_116 rfl 2 rfl (by decide) rfl ?_
                          refine j_goto 80 dX6_reached_119 rfl ?_
                          refine j_lv [0, 2, 1, 3, 4, 5, 6] rfl ?_
                          exact zih80 (zi + 1) (nI zb) Z1_4 (by omega) (by omega) (eqB_trans hZ1_4 (eqB_trans hZ1_3 hyE)) (fun _ => by rw [show zdp zf - (zi + 1) = zj by omega, hzbb])
                        ·
                          have hyc : zb ≠ (zpr (anc zpr zf zj) % 8) := fun y => h97 ((hlw zb (by omega)).mpr (by rw [y]; exact hl1))
                          refine j_iincN zb 1 103 [(5, .int (nI (zb + 1))), (6, .int (nI zi)), (4, .int (nI ((outQ (Na 0) (q0 (Na 0) (Ia 21) (Na 22)) ZK_1).2.1 (anc zpr zf (zj + 1))))), (3, .int (nI (zdp zf))), (0, .ref (q 26)), (1, .int (nI zs)), (2, .int (nI zk))] dX6_reached_100 rfl 0 rfl (by decide) rfl ?_
                          refine j_goto 89 dX6_reached_103 rfl ?_
                          refine j_lv [0, 1, 2, 3, 4, 5, 6] rfl ?_
                          exact zih89 (zb + 1) Z1_3 (by omega) (eqB_trans hZ1_3 hyE) (by omega)
                    refine j_lv [0, 1, 2, 3, 4, 5, 6] rfl ?_
                    exact hL89 _ 0 ZR (Nat.lt_succ_self _) hzE (Nat.zero_le _)
              refine j_lvs [(6, .int (0 : Int32)), (5, .int (-1000000 : Int32)), (4, .int (nI ((outQ (Na 0) (q0 (Na 0) (Ia 21) (Na 22)) ZK_1).2.1 (anc zpr zf (zdp zf - 0))))), (3, .int (nI (zdp zf))), (0, .ref (q 26)), (1, .int (nI zs)), (2, .int (nI zk))] (by rw [show zdp zf - 0 = zdp zf by omega, bT_root hbt hzf]) ?_
              refine j_lv [0, 1, 2, 3, 4, 5, 6] rfl ?_
              exact hL80 _ 0 (-1000000) Z1_2 (Nat.lt_succ_self _) (Nat.zero_le _) hE2 (fun z => absurd z (Nat.lt_irrefl 0))
            ·
              refine j_ldc (v := (-1000000 : Int32)) 58 dX6_reached_56 rfl wd_4_47 ?_
              refine j_iretI dX6_reached_58 rfl ⟨gLe rfl, gLe rfl, ?_⟩
              have ze : (rM_reached (nI zs) k (Na, Ia, Ns, Is)) (-1000000 : Int32) := by
                rw [rM_reached, if_neg h6, if_neg (fun z => z.elim (fun z => z h17) (fun z => absurd z (Int32.not_lt.mpr h22))), cl_nI (by omega)]
                refine ⟨(outQ (Na 0) (q0 (Na 0) (Ia 21) (Na 22)) ZK_1).2.1, zpr, zdp, (outQ (Na 0) (q0 (Na 0) (Ia 21) (Na 22)) ZK_1).2.2, hbt, Or.inr ⟨zf, hzf, hzf1, hzf2, ?_⟩⟩
                rw [if_neg h46, if_pos (Int32.not_lt.mp h53)]
              exact ⟨((va_up (va_up Na 0 Z1_1) 22 ((outQ (Na 0) (q0 (Na 0) (Ia 21) (Na 22)) ZK_1).2.1)), (va_up Ia 21 ((outQ (Na 0) (q0 (Na 0) (Ia 21) (Na 22)) ZK_1).1)), (va_up Ns 23 ((outQ (Na 0) (q0 (Na 0) (Ia 21) (Na 22)) ZK_1).2.2)), Is), (-1000000 : Int32), ⟨hZ1_1, ⟨rfl, rfl, rfl, rfl⟩, ⟨rfl, rfl⟩, ⟨rfl, rfl, rfl, rfl, rfl⟩, rfl⟩, ze, rfl, rfl⟩
          ·
            refine j_iload_n 50 dX6_reached_49 rfl 0 rfl ?_
            refine j_iretI dX6_reached_50 rfl ⟨gLe rfl, gLe rfl, ?_⟩
            have ze : (rM_reached (nI zs) k (Na, Ia, Ns, Is)) (sonF ((outQ (Na 0) (q0 (Na 0) (Ia 21) (Na 22)) ZK_1).1) ((outQ (Na 0) (q0 (Na 0) (Ia 21) (Na 22)) ZK_1).2.1) zs ((outQ (Na 0) (q0 (Na 0) (Ia 21) (Na 22)) ZK_1).2.2) 0) := by
              rw [rM_reached, if_neg h6, if_neg (fun z => z.elim (fun z => z h17) (fun z => absurd z (Int32.not_lt.mpr h22))), cl_nI (by omega)]
              refine ⟨(outQ (Na 0) (q0 (Na 0) (Ia 21) (Na 22)) ZK_1).2.1, zpr, zdp, (outQ (Na 0) (q0 (Na 0) (Ia 21) (Na 22)) ZK_1).2.2, hbt, ?_⟩
              rcases sonF_s (F := (outQ (Na 0) (q0 (Na 0) (Ia 21) (Na 22)) ZK_1).1) (Q := (outQ (Na 0) (q0 (Na 0) (Ia 21) (Na 22)) ZK_1).2.1) (s := zs) (outQ (Na 0) (q0 (Na 0) (Ia 21) (Na 22)) ZK_1).2.2 0 with ⟨y1, y2⟩ | ⟨zf, hzf, hzf1, hzf2, hzf3⟩
              · simp only [Nat.zero_add] at y1
                exact Or.inl ⟨y1, y2⟩
              · simp only [Nat.zero_add] at hzf1 hzf2 hzf3
                refine Or.inr ⟨zf, hzf, hzf1, hzf2, ?_⟩
                have hend : sonF (outQ (Na 0) (q0 (Na 0) (Ia 21) (Na 22)) ZK_1).1 (outQ (Na 0) (q0 (Na 0) (Ia 21) (Na 22)) ZK_1).2.1 zs (outQ (Na 0) (q0 (Na 0) (Ia 21) (Na 22)) ZK_1).2.2 0 = nI (zdp zf) := by rw [hzf3]; exact hfe.2 zf hzf
                have hzd := (bT_dpm hbt zf hzf).1
                have hfe1 : (outQ (Na 0) (q0 (Na 0) (Ia 21) (Na 22)) ZK_1).2.2 ≤ 7776 := hfe.1
                first
                  | (rw [if_pos h46]; exact hend)
                  | exact absurd (hend.symm.trans h41) (nI_nN (by omega))
            exact ⟨((va_up (va_up Na 0 Z1_1) 22 ((outQ (Na 0) (q0 (Na 0) (Ia 21) (Na 22)) ZK_1).2.1)), (va_up Ia 21 ((outQ (Na 0) (q0 (Na 0) (Ia 21) (Na 22)) ZK_1).1)), (va_up Ns 23 ((outQ (Na 0) (q0 (Na 0) (Ia 21) (Na 22)) ZK_1).2.2)), Is), (sonF ((outQ (Na 0) (q0 (Na 0) (Ia 21) (Na 22)) ZK_1).1) ((outQ (Na 0) (q0 (Na 0) (Ia 21) (Na 22)) ZK_1).2.1) zs ((outQ (Na 0) (q0 (Na 0) (Ia 21) (Na 22)) ZK_1).2.2) 0), ⟨hZ1_1, ⟨rfl, rfl, rfl, rfl⟩, ⟨rfl, rfl⟩, ⟨rfl, rfl, rfl, rfl, rfl⟩, rfl⟩, ze, rfl, rfl⟩
      ·
        refine j_ldc (v := (-1000001 : Int32)) 27 dX6_reached_25 rfl wd_4_140 ?_
        refine j_iretI dX6_reached_27 rfl ⟨gLe rfl, gLe rfl, ?_⟩
        have ze : (rM_reached s k (Na, Ia, Ns, Is)) (-1000001 : Int32) := by
          rw [rM_reached, if_neg h6, if_pos (by first | exact Or.inl h17 | exact Or.inr (Int32.not_le.mp h22))]
        exact ⟨(Na, Ia, Ns, Is), (-1000001 : Int32), ⟨(fun k _ => rfl), ⟨rfl, rfl, rfl, rfl⟩, ⟨rfl, rfl⟩, ⟨rfl, rfl, rfl, rfl, rfl⟩, rfl⟩, ze, rfl, rfl⟩
  ·
    refine j_ldc (v := (-1000002 : Int32)) 11 dX6_reached_9 rfl wd_5_47 ?_
    refine j_iretI dX6_reached_11 rfl ⟨gLe rfl, gLe rfl, ?_⟩
    have ze : (rM_reached s k (Na, Ia, Ns, Is)) (-1000002 : Int32) := by
      rw [rM_reached, if_pos h6]
    exact ⟨(Na, Ia, Ns, Is), (-1000002 : Int32), ⟨(fun k _ => rfl), ⟨rfl, rfl, rfl, rfl⟩, ⟨rfl, rfl⟩, ⟨rfl, rfl, rfl, rfl, rfl⟩, rfl⟩, ze, rfl, rfl⟩
