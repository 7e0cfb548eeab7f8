theorem gB_n {c : Prop} [Decidable c] : gB c = nI (if c then 1 else 0) := by
  by_cases h : c
  · rw [gB_t h, if_pos h]; rfl
  · rw [gB_f h, if_neg h]; rfl
theorem pred_neL {k : Nat} (h : k < 100000) : nI k - 1 < 0 ↔ k = 0 := by
  cases k with
  | zero => decide
  | succ k =>
    rw [nI_pred]
    constructor
    · intro q
      rw [Int32.lt_iff_toInt_lt, nI_toInt (by omega)] at q
      have e0 : (0 : Int32).toInt = 0 := by decide
      omega
    · intro q; omega
theorem ite_le1 {c : Prop} [Decidable c] : (if c then (1 : Nat) else 0) ≤ 1 := by split <;> decide
theorem lw_end {z B zb : Nat} {C D : Prop} {L : Nat → Prop} (h : z ≠ 0 ↔ (C ∨ (D ∧ ∃ b, b < zb ∧ L b))) (hb : zb ≤ B) (hx : B ≤ zb ∨ z ≠ 0 ∨ ¬ D) : z ≠ 0 ↔ (C ∨ (D ∧ ∃ b, b < B ∧ L b)) := by
  rcases hx with hx | hx | hx
  · have e : zb = B := by omega
    subst e; exact h
  · refine ⟨fun _ => ?_, fun _ => hx⟩
    rcases h.mp hx with c | ⟨d, b, b1, b2⟩
    · exact Or.inl c
    · exact Or.inr ⟨d, b, by omega, b2⟩
  · refine ⟨fun y => ?_, fun y => h.mpr ?_⟩
    · rcases h.mp y with c | c
      · exact Or.inl c
      · exact absurd c.1 hx
    · rcases y with c | c
      · exact Or.inl c
      · exact absurd c.1 hx
theorem lw_next {z zb : Nat} {C D : Prop} {L : Nat → Prop} {ic : Decidable (L zb)} (h : z ≠ 0 ↔ (C ∨ (D ∧ ∃ b, b < zb ∧ L b))) (hz : z = 0) (hD : D) : (if L zb then (1 : Nat) else 0) ≠ 0 ↔ (C ∨ (D ∧ ∃ b, b < zb + 1 ∧ L b)) := by
  have h0 : ¬ (C ∨ (D ∧ ∃ b, b < zb ∧ L b)) := fun y => h.mpr y hz
  by_cases c : L zb
  · rw [if_pos c]; exact ⟨fun _ => Or.inr ⟨hD, zb, Nat.lt_succ_self _, c⟩, fun _ => by decide⟩
  · rw [if_neg c]
    refine ⟨fun y => absurd rfl y, fun y => ?_⟩
    exfalso
    rcases y with y | ⟨_, b, b1, b2⟩
    · exact h0 (Or.inl y)
    · rcases (show b < zb ∨ b = zb by omega) with e | e
      · exact h0 (Or.inr ⟨hD, b, e, b2⟩)
      · rw [e] at b2; exact c b2
theorem lw_iff {nx : Nat → Nat → Nat} {B s0 : Nat} {Q pr dp : Nat → Nat} {n : Nat} {F : Nat → Int32} (h : bT nx B s0 (8 * n) Q pr dp n) (hF : farE F Q dp n) (hB8 : B ≤ 8) {s e k : Nat} {W : Nat → Nat} (hW : ∀ p, k < p → p < n → (W (Q p) ≠ 0 ↔ onW nx B F s e (Q p))) (hk : k < n) {a b : Nat} (ha : k ≤ a) (han : a < n) (hb : b < B) :
    (W (nx (Q a) b) ≠ 0 ∧ F (nx (Q a) b) = F (Q a) + 1) ↔ (onW nx B F s e (nx (Q a) b) ∧ F (nx (Q a) b) = F (Q a) + 1) := by
  obtain ⟨p, p1, p2, p3, p4⟩ := bT_nx h hF hB8 han hb
  have hpk : F (nx (Q a) b) = F (Q a) + 1 → k < p := by
    intro y
    have y1 := p4.mp y
    rcases Nat.lt_or_ge k p with c | c
    · exact c
    · exfalso
      rcases (show p = a ∨ p < a by omega) with c1 | c1
      · rw [c1] at y1; omega
      · have := (bT_dpm h a han).2 p c1; omega
  constructor
  · rintro ⟨x1, x2⟩; rw [← p2] at x1; exact ⟨by rw [← p2]; exact (hW p (hpk x2) p1).mp x1, x2⟩
  · rintro ⟨x1, x2⟩; rw [← p2] at x1; exact ⟨by rw [← p2]; exact (hW p (hpk x2) p1).mpr x1, x2⟩
theorem lw_step {nx : Nat → Nat → Nat} {B s0 : Nat} {Q pr dp : Nat → Nat} {n : Nat} {F : Nat → Int32} (h : bT nx B s0 (8 * n) Q pr dp n) (hF : farE F Q dp n) (hB8 : B ≤ 8) {s e k z : Nat} (he : e < 8000) {W : Nat → Nat} (hW : ∀ p, k + 1 ≤ p → p < n → (W (Q p) ≠ 0 ↔ onW nx B F s e (Q p))) (hk : k < n)
    (hz : z ≠ 0 ↔ ((F (Q k) = nI e ∧ Q k % 32 = s) ∨ (F (Q k) < nI e ∧ ∃ b, b < B ∧ (W (nx (Q k) b) ≠ 0 ∧ F (nx (Q k) b) = F (Q k) + 1)))) : ∀ p, k ≤ p → p < n → (va_up W (Q k) z (Q p) ≠ 0 ↔ onW nx B F s e (Q p)) := by
  intro p hkp hp
  by_cases c : p = k
  · rw [c, va_up_s, hz, onW_iff h hF hB8 he hk]
    refine or_congr Iff.rfl (and_congr Iff.rfl (exists_congr fun b => ⟨fun y => ⟨y.1, ?_⟩, fun y => ⟨y.1, ?_⟩⟩))
    · exact (lw_iff h hF hB8 (fun p h1 h2 => hW p h1 h2) hk (Nat.le_refl k) hk y.1).mp y.2
    · exact (lw_iff h hF hB8 (fun p h1 h2 => hW p h1 h2) hk (Nat.le_refl k) hk y.1).mpr y.2
  · have hne : Q p ≠ Q k := fun y => h.2.2.2.1 k p (by omega) hp y.symm
    rw [va_up_n hne]
    exact hW p (by omega) hp
theorem up_le1 {W : Nat → Nat} {x z : Nat} (h : ∀ k, k < 7776 → W k ≤ 1) (hz : z ≤ 1) : ∀ k, k < 7776 → va_up W x z k ≤ 1 := by
  intro k hk
  by_cases c : k = x
  · rw [c, va_up_s]; exact hz
  · rw [va_up_n c]; exact h k hk
theorem i32_m1 {k : Int32} {d : Nat} (h1 : ¬ k < -1) (h2 : ¬ k = -1) (h3 : k < nI d) (hd : d < 100000) : inR k d := by
  have e1 : (-1 : Int32).toInt = -1 := by decide
  have a1 : ¬ k.toInt < -1 := fun y => h1 (Int32.lt_iff_toInt_lt.mpr (by rw [e1]; exact y))
  have a2 : k.toInt ≠ -1 := fun y => h2 (Int32.toInt_inj.mp (by rw [e1]; exact y))
  have a3 := Int32.lt_iff_toInt_lt.mp h3
  rw [nI_toInt (by omega)] at a3
  exact ⟨by omega, a3⟩
set_option maxRecDepth 20000 in
theorem c_X6_leads (g : gG) (q : Nat → Nat) (Na : Nat → Nat → Nat) (Ia : Nat → Nat → Int32) (Ns : Nat → Nat) (Is : Nat → Int32) (n : Nat) (b : Nat)  (hs : Is 12 = skI 99) (hP : okP (Na 0)) (hn : n < 7776) (hN : n % 32 < 2 ^ Na 0 2) (hB : b < Na 0 3) (hW : ∀ k, k < 7776 → Na 24 k ≤ 1) : gCon g mX6_leads 5 0 0 [.ref (q 26), .int (nI n), .int (nI b)] (wM g q Na Ia Ns Is) (fun rv ws' => ∃ (Z1 : Nat → Nat), (eqB Z1 (Na 0)) ∧ rv = some (.int (gB ((Na 24) (nxN (Na 0) n b) ≠ 0 ∧ (Ia 21) (nxN (Na 0) n b) = (Ia 21) n + 1))) ∧ ws' = (wM g q (va_up Na 0 Z1) Ia Ns Is)) := by
  refine gCon.of (lv := [(0, .ref (q 26)), (1, .int (nI n)), (2, .int (nI b))]) (by decide) (gLe rfl) rfl ?_
  have hnx := nxN_ok hP (b := b) hN
  have hw1 := hW _ hnx.1
  refine j_aload_n 1 dX6_leads_0 rfl 0 rfl ?_
  refine j_iload_n 2 dX6_leads_1 rfl 1 rfl ?_
  refine j_iload_n 3 dX6_leads_2 rfl 2 rfl ?_
  refine j_callVX (rest := []) 6 (c_X6_after g q Na Ia Ns Is n b  hs hP hn hN hB) dX6_leads_3 rfl cv_X6_241 rfl rfl 0 rfl rfl (gLe rfl) (gLe rfl) (gLe rfl) (gLe rfl) (fun rv w1 hp => ?_)
  obtain ⟨Z1_1, hZ1_1, rfl, rfl⟩ := hp
  refine ⟨(wM_len _ _ _ _ _ _ _ _ _ _), ?_⟩
  refine j_eq (lv2 := [(0, .ref (q 26)), (1, .int (nI n)), (2, .int (nI b))]) (st2 := [.int (nI (nxN (Na 0) n b))]) (ws2 := (wM g q (va_up Na 0 Z1_1) Ia Ns Is)) rfl rfl rfl ?_
  refine j_istore_n 7 [(3, .int (nI (nxN (Na 0) n b))), (0, .ref (q 26)), (1, .int (nI n)), (2, .int (nI b))] dX6_leads_6 rfl (by decide) rfl ?_
  refine j_aload_n 8 dX6_leads_7 rfl 1 rfl ?_
  refine j_getf 11 0 dX6_leads_8 rfl fd_X6_48 rfl rfl ?_
  refine j_iload_n 12 dX6_leads_11 rfl 0 rfl ?_
  refine j_zaldN (nxN (Na 0) n b) 13 12 dX6_leads_12 rfl rfl hnx.1 (by decide) ?_
  refine j_if_eqN ((Na 24) (nxN (Na 0) n b)) 16 37 dX6_leads_13 rfl rfl (by have z0 := hw1; omega) (fun h13 => ?_) (fun h13 => ?_)
  ·
    refine j_iconst (v := (0 : Int32)) 38 dX6_leads_37 rfl (by decide) ?_
    refine j_iret0 dX6_leads_38 rfl (by first | exact fun z => h30 z.2 | exact fun z => z.1 h13) ⟨gLe rfl, gLe rfl, Z1_1, hZ1_1, rfl, rfl⟩
  ·
    refine j_aload_n 17 dX6_leads_16 rfl 1 rfl ?_
    refine j_getf 20 0 dX6_leads_17 rfl fd_X6_42 rfl rfl ?_
    refine j_iload_n 21 dX6_leads_20 rfl 0 rfl ?_
    refine j_ialdR (nxN (Na 0) n b) 22 10 dX6_leads_21 rfl rfl hnx.1 (by decide) ?_
    refine j_aload_n 23 dX6_leads_22 rfl 1 rfl ?_
    refine j_getf 26 0 dX6_leads_23 rfl fd_X6_42 rfl rfl ?_
    refine j_iload_n 27 dX6_leads_26 rfl 2 rfl ?_
    refine j_ialdR n 28 10 dX6_leads_27 rfl rfl hn (by decide) ?_
    refine j_iconst (v := (1 : Int32)) 29 dX6_leads_28 rfl (by decide) ?_
    refine j_iadd 30 dX6_leads_29 rfl ?_
    refine j_icmp_ne 33 37 dX6_leads_30 rfl rfl (fun h30 => ?_) (fun h30 => ?_)
    ·
      refine j_iconst (v := (0 : Int32)) 38 dX6_leads_37 rfl (by decide) ?_
      refine j_iret0 dX6_leads_38 rfl (by first | exact fun z => h30 z.2 | exact fun z => z.1 h13) ⟨gLe rfl, gLe rfl, Z1_1, hZ1_1, rfl, rfl⟩
    ·
      refine j_iconst (v := (1 : Int32)) 34 dX6_leads_33 rfl (by decide) ?_
      refine j_goto 38 dX6_leads_34 rfl ?_
      refine j_iret1 dX6_leads_38 rfl ⟨h13, h30⟩ ⟨gLe rfl, gLe rfl, Z1_1, hZ1_1, rfl, rfl⟩
set_option maxRecDepth 20000 in
theorem c_X6_layWays (g : gG) (q : Nat → Nat) (Na : Nat → Nat → Nat) (Ia : Nat → Nat → Int32) (Ns : Nat → Nat) (Is : Nat → Int32) (s : Nat) (e : Nat) (zs0 : Nat) (zpr : Nat → Nat) (zdp : Nat → Nat) (hs : Is 12 = skI 99) (hP : okP (Na 0)) (hq : okQ (Na 0 2) (Ia 21, Na 22, Ns 23)) (hbt : bT (nxN (Na 0)) (Na 0 3) zs0 (8 * Ns 23) (Na 22) zpr zdp (Ns 23)) (hfe : farE (Ia 21) (Na 22) zdp (Ns 23)) (he : e < 8000) (hs1 : s < 1000) : gCon g mX6_layWays 6 0 0 [.ref (q 26), .int (nI s), .int (nI e)] (wM g q Na Ia Ns Is) (fun rv ws' => ∃ (Z1 : Nat → Nat) (ZW : Nat → Nat), (eqB Z1 (Na 0)) ∧ (∀ p, 0 ≤ p → p < Ns 23 → (ZW (Na 22 p) ≠ 0 ↔ onW (nxN (Na 0)) (Na 0 3) (Ia 21) s e (Na 22 p))) ∧ (∀ k, k < 7776 → ZW k ≤ 1) ∧ rv = none ∧ ws' = (wM g q (va_up (va_up Na 0 Z1) 24 ZW) Ia Ns Is)) := by
  refine gCon.of (lv := [(0, .ref (q 26)), (1, .int (nI s)), (2, .int (nI e))]) (by decide) (gLe rfl) rfl ?_
  have hm : Ns 23 + cN (Ia 21) 7776 = 7776 := hq.1
  have hqi : ∀ i, i < Ns 23 → Na 22 i < 7776 ∧ Na 22 i % 32 < 2 ^ Na 0 2 := fun i hi => ⟨(hq.2.1 i hi).1, (hq.2.1 i hi).2.1⟩
  have hp8 := hP.2.2.2.1
  refine j_iconst (v := (0 : Int32)) 1 dX6_layWays_0 rfl (by decide) ?_
  refine j_istore_n 2 [(3, .int (0 : Int32)), (0, .ref (q 26)), (1, .int (nI s)), (2, .int (nI e))] dX6_layWays_1 rfl (by decide) rfl ?_
  have hL2 : ∀ (zm2 : Nat) (zi : Nat), 7776 - zi < zm2 → (zi ≤ 7776) → gJ g mX6_layWays 6 0 0 (fun k' j' rv ws' => k' ≤ 0 ∧ j' ≤ 0 ∧ (∃ (Z1 : Nat → Nat) (ZW : Nat → Nat), (eqB Z1 (Na 0)) ∧ (∀ p, 0 ≤ p → p < Ns 23 → (ZW (Na 22 p) ≠ 0 ↔ onW (nxN (Na 0)) (Na 0 3) (Ia 21) s e (Na 22 p))) ∧ (∀ k, k < 7776 → ZW k ≤ 1) ∧ rv = none ∧ ws' = (wM g q (va_up (va_up Na 0 Z1) 24 ZW) Ia Ns Is))) 0 0 2 [(3, .int (nI zi)), (0, .ref (q 26)), (1, .int (nI s)), (2, .int (nI e))] [] (wM g q (va_up Na 24 (va_cpy (fun _ => 0) (Na 24) 0 0 zi)) Ia Ns Is) := by
    intro zm2
    induction zm2 with
    | zero => intro zi zmh; exact absurd zmh (Nat.not_lt_zero _)
    | succ zm2 zih2 =>
      intro zi zmh2 hz
      refine j_iload_n 3 dX6_layWays_2 rfl 0 rfl ?_
      refine j_sipush (v := (7776 : Int32)) 6 dX6_layWays_3 rfl (by decide) ?_
      refine j_icmp_geN zi 7776 9 22 dX6_layWays_6 rfl rfl (by omega) (by decide) (fun h6 => ?_) (fun h6 => ?_)
      ·
        have ye : zi = 7776 := by omega
        subst ye
        refine j_aload_n 23 dX6_layWays_22 rfl 1 rfl ?_
        refine j_getf 26 0 dX6_layWays_23 rfl fd_X6_233 rfl rfl ?_
        refine j_iconst (v := (1 : Int32)) 27 dX6_layWays_26 rfl (by decide) ?_
        refine j_isub 28 dX6_layWays_27 rfl ?_
        refine j_istore_n 29 [(3, .int ((nI (Ns 23)) - (1 : Int32))), (0, .ref (q 26)), (1, .int (nI s)), (2, .int (nI e))] dX6_layWays_28 rfl (by decide) rfl ?_
        have hL29 : ∀ (zm29 : Nat) (zk : Nat) (ZR : Nat → Nat) (ZW : Nat → Nat), zk < zm29 → (zk ≤ Ns 23) → (eqB ZR (Na 0)) → (∀ p, zk ≤ p → p < Ns 23 → (ZW (Na 22 p) ≠ 0 ↔ onW (nxN (Na 0)) (Na 0 3) (Ia 21) s e (Na 22 p))) → (∀ k, k < 7776 → ZW k ≤ 1) → gJ g mX6_layWays 6 0 0 (fun k' j' rv ws' => k' ≤ 0 ∧ j' ≤ 0 ∧ (∃ (Z1 : Nat → Nat) (ZW : Nat → Nat), (eqB Z1 (Na 0)) ∧ (∀ p, 0 ≤ p → p < Ns 23 → (ZW (Na 22 p) ≠ 0 ↔ onW (nxN (Na 0)) (Na 0 3) (Ia 21) s e (Na 22 p))) ∧ (∀ k, k < 7776 → ZW k ≤ 1) ∧ rv = none ∧ ws' = (wM g q (va_up (va_up Na 0 Z1) 24 ZW) Ia Ns Is))) 0 0 29 [(3, .int (nI zk - 1)), (0, .ref (q 26)), (1, .int (nI s)), (2, .int (nI e))] [] (wM g q (va_up (va_up Na 0 ZR) 24 ZW) Ia Ns Is) := by
          intro zm29
          induction zm29 with
          | zero => intro zk ZR ZW zmh; exact absurd zmh (Nat.not_lt_zero _)
          | succ zm29 zih29 =>
            intro zk ZR ZW zmh29 hzk hzE hzW hzB
            refine j_iload_n 30 dX6_layWays_29 rfl 0 rfl ?_
            refine j_if_lt 33 129 dX6_layWays_30 rfl rfl (fun h30 => ?_) (fun h30 => ?_)
            ·
              refine j_vret dX6_layWays_129 rfl ⟨gLe rfl, gLe rfl, ?_⟩
              have ye : zk = 0 := (pred_neL (by omega)).mp h30
              subst ye
              exact ⟨ZR, ZW, hzE, hzW, hzB, rfl, rfl⟩
            ·
              obtain ⟨zh, rfl⟩ : ∃ z, zk = z + 1 := ⟨zk - 1, by have := mt (pred_neL (by omega)).mpr h30; omega⟩
              refine j_lvs [(3, .int (nI zh)), (0, .ref (q 26)), (1, .int (nI s)), (2, .int (nI e))] (by rw [nI_pred]) ?_
              have hqz := hqi zh (by omega)
              refine j_aload_n 34 dX6_layWays_33 rfl 1 rfl ?_
              refine j_getf 37 0 dX6_layWays_34 rfl fd_X6_45 rfl rfl ?_
              refine j_iload_n 38 dX6_layWays_37 rfl 0 rfl ?_
              refine j_ialdN zh 39 11 dX6_layWays_38 rfl rfl (by omega) (by decide) ?_
              refine j_istore 41 [(4, .int (nI ((Na 22) zh))), (3, .int (nI zh)), (0, .ref (q 26)), (1, .int (nI s)), (2, .int (nI e))] dX6_layWays_39 rfl (by decide) rfl ?_
              have hC66 : ∀ (zit : Nat), (zit ≤ 1 ∧ (zit ≠ 0 ↔ (Ia 21 (Na 22 zh) = nI e ∧ (Na 22 zh) % 32 = s))) → gJ g mX6_layWays 6 0 0 (fun k' j' rv ws' => k' ≤ 0 ∧ j' ≤ 0 ∧ (∃ (Z1 : Nat → Nat) (ZW : Nat → Nat), (eqB Z1 (Na 0)) ∧ (∀ p, 0 ≤ p → p < Ns 23 → (ZW (Na 22 p) ≠ 0 ↔ onW (nxN (Na 0)) (Na 0 3) (Ia 21) s e (Na 22 p))) ∧ (∀ k, k < 7776 → ZW k ≤ 1) ∧ rv = none ∧ ws' = (wM g q (va_up (va_up Na 0 Z1) 24 ZW) Ia Ns Is))) 0 0 66 [(4, .int (nI (Na 22 zh))), (3, .int (nI zh)), (0, .ref (q 26)), (1, .int (nI s)), (2, .int (nI e))] [.int (nI zit)] (wM g q (va_up (va_up Na 0 ZR) 24 ZW) Ia Ns Is) := by
                intro zit hyt
                refine j_istore 68 [(5, .int (nI zit)), (4, .int (nI (Na 22 zh))), (3, .int (nI zh)), (0, .ref (q 26)), (1, .int (nI s)), (2, .int (nI e))] dX6_layWays_66 rfl (by decide) rfl ?_
                refine j_iconst (v := (0 : Int32)) 69 dX6_layWays_68 rfl (by decide) ?_
                refine j_istore 71 [(6, .int (0 : Int32)), (5, .int (nI zit)), (4, .int (nI (Na 22 zh))), (3, .int (nI zh)), (0, .ref (q 26)), (1, .int (nI s)), (2, .int (nI e))] dX6_layWays_69 rfl (by decide) rfl ?_
                have hL71 : ∀ (zm71 : Nat) (zb : Nat) (zis : Nat) (ZS : Nat → Nat), Na 0 3 - zb < zm71 → (eqB ZS (Na 0)) → (zb ≤ Na 0 3) → (zis ≤ 1 ∧ (zis ≠ 0 ↔ ((Ia 21 (Na 22 zh) = nI e ∧ (Na 22 zh) % 32 = s) ∨ (Ia 21 (Na 22 zh) < nI e ∧ ∃ b, b < zb ∧ (ZW (nxN (Na 0) (Na 22 zh) b) ≠ 0 ∧ Ia 21 (nxN (Na 0) (Na 22 zh) b) = Ia 21 (Na 22 zh) + 1))))) → gJ g mX6_layWays 6 0 0 (fun k' j' rv ws' => k' ≤ 0 ∧ j' ≤ 0 ∧ (∃ (Z1 : Nat → Nat) (ZW : Nat → Nat), (eqB Z1 (Na 0)) ∧ (∀ p, 0 ≤ p → p < Ns 23 → (ZW (Na 22 p) ≠ 0 ↔ onW (nxN (Na 0)) (Na 0 3) (Ia 21) s e (Na 22 p))) ∧ (∀ k, k < 7776 → ZW k ≤ 1) ∧ rv = none ∧ ws' = (wM g q (va_up (va_up Na 0 Z1) 24 ZW) Ia Ns Is))) 0 0 71 [(6, .int (nI zb)), (5, .int (nI zis)), (4, .int (nI (Na 22 zh))), (3, .int (nI zh)), (0, .ref (q 26)), (1, .int (nI s)), (2, .int (nI e))] [] (wM g q (va_up (va_up Na 0 ZS) 24 ZW) Ia Ns Is) := by
                  intro zm71
                  induction zm71 with
                  | zero => intro zb zis ZS zmh; exact absurd zmh (Nat.not_lt_zero _)
                  | succ zm71 zih71 =>
                    intro zb zis ZS zmh71 hyE hyb hyi
                    refine j_iload 73 dX6_layWays_71 rfl 0 rfl ?_
                    refine j_aload_n 74 dX6_layWays_73 rfl 4 rfl ?_
                    refine j_getf 77 0 dX6_layWays_74 rfl fd_X6_7 rfl rfl ?_
                    refine j_iconst (v := (3 : Int32)) 78 dX6_layWays_77 rfl (by decide) ?_
                    refine j_ialdN 3 79 1 dX6_layWays_78 rfl rfl (by decide) (by decide) ?_
                    refine j_topN (ZS 3) (Na 0 3) (hyE 3 (by decide)) ?_
                    refine j_icmp_geN zb (Na 0 3) 82 114 dX6_layWays_79 rfl rfl (by omega) (by have z0 := hp8; omega) (fun h79 => ?_) (fun h79 => ?_)
                    ·
                      have hfin := lw_end hyi.2 hyb (by first | exact Or.inl h79 | exact Or.inr (Or.inl h84) | exact Or.inr (Or.inr (Int32.not_lt.mpr h95)))
                      refine j_aload_n 115 dX6_layWays_114 rfl 4 rfl ?_
                      refine j_getf 118 0 dX6_layWays_115 rfl fd_X6_48 rfl rfl ?_
                      refine j_iload 120 dX6_layWays_118 rfl 2 rfl ?_
                      refine j_iload 122 dX6_layWays_120 rfl 1 rfl ?_
                      refine j_zastN zis (Na 22 zh) 123 12 (wM g q (va_up (va_up Na 0 ZS) 24 (va_up ZW (Na 22 zh) zis)) Ia Ns Is) dX6_layWays_122 rfl rfl hqz.1 (by decide) hyi.1 rfl ?_
                      refine j_iinc (v := (nI zh - 1)) 126 [(3, .int (nI zh - 1)), (6, .int (nI zb)), (5, .int (nI zis)), (4, .int (nI (Na 22 zh))), (0, .ref (q 26)), (1, .int (nI s)), (2, .int (nI e))] dX6_layWays_123 rfl 3 rfl (madd1 _) (by decide) rfl ?_
                      refine j_goto 29 dX6_layWays_126 rfl ?_
                      refine j_lv [0, 4, 5, 6] rfl ?_
                      exact zih29 zh ZS (va_up ZW (Na 22 zh) zis) (by omega) (by omega) hyE (lw_step hbt hfe hp8 he hzW (by omega) hfin) (up_le1 hzB hyi.1)
                    ·
                      refine j_iload 84 dX6_layWays_82 rfl 1 rfl ?_
                      refine j_if_neN zis 87 114 dX6_layWays_84 rfl rfl (by have z0 := hyi.1; omega) (fun h84 => ?_) (fun h84 => ?_)
                      ·
                        have hfin := lw_end hyi.2 hyb (by first | exact Or.inl h79 | exact Or.inr (Or.inl h84) | exact Or.inr (Or.inr (Int32.not_lt.mpr h95)))
                        refine j_aload_n 115 dX6_layWays_114 rfl 4 rfl ?_
                        refine j_getf 118 0 dX6_layWays_115 rfl fd_X6_48 rfl rfl ?_
                        refine j_iload 120 dX6_layWays_118 rfl 2 rfl ?_
                        refine j_iload 122 dX6_layWays_120 rfl 1 rfl ?_
                        refine j_zastN zis (Na 22 zh) 123 12 (wM g q (va_up (va_up Na 0 ZS) 24 (va_up ZW (Na 22 zh) zis)) Ia Ns Is) dX6_layWays_122 rfl rfl hqz.1 (by decide) hyi.1 rfl ?_
                        refine j_iinc (v := (nI zh - 1)) 126 [(3, .int (nI zh - 1)), (6, .int (nI zb)), (5, .int (nI zis)), (4, .int (nI (Na 22 zh))), (0, .ref (q 26)), (1, .int (nI s)), (2, .int (nI e))] dX6_layWays_123 rfl 3 rfl (madd1 _) (by decide) rfl ?_
                        refine j_goto 29 dX6_layWays_126 rfl ?_
                        refine j_lv [0, 4, 5, 6] rfl ?_
                        exact zih29 zh ZS (va_up ZW (Na 22 zh) zis) (by omega) (by omega) hyE (lw_step hbt hfe hp8 he hzW (by omega) hfin) (up_le1 hzB hyi.1)
                      ·
                        refine j_aload_n 88 dX6_layWays_87 rfl 4 rfl ?_
                        refine j_getf 91 0 dX6_layWays_88 rfl fd_X6_42 rfl rfl ?_
                        refine j_iload 93 dX6_layWays_91 rfl 2 rfl ?_
                        refine j_ialdR (Na 22 zh) 94 10 dX6_layWays_93 rfl rfl hqz.1 (by decide) ?_
                        refine j_iload_n 95 dX6_layWays_94 rfl 6 rfl ?_
                        refine j_icmp_ge 98 114 dX6_layWays_95 rfl rfl (fun h95 => ?_) (fun h95 => ?_)
                        ·
                          have hfin := lw_end hyi.2 hyb (by first | exact Or.inl h79 | exact Or.inr (Or.inl h84) | exact Or.inr (Or.inr (Int32.not_lt.mpr h95)))
                          refine j_aload_n 115 dX6_layWays_114 rfl 4 rfl ?_
                          refine j_getf 118 0 dX6_layWays_115 rfl fd_X6_48 rfl rfl ?_
                          refine j_iload 120 dX6_layWays_118 rfl 2 rfl ?_
                          refine j_iload 122 dX6_layWays_120 rfl 1 rfl ?_
                          refine j_zastN zis (Na 22 zh) 123 12 (wM g q (va_up (va_up Na 0 ZS) 24 (va_up ZW (Na 22 zh) zis)) Ia Ns Is) dX6_layWays_122 rfl rfl hqz.1 (by decide) hyi.1 rfl ?_
                          refine j_iinc (v := (nI zh - 1)) 126 [(3, .int (nI zh - 1)), (6, .int (nI zb)), (5, .int (nI zis)), (4, .int (nI (Na 22 zh))), (0, .ref (q 26)), (1, .int (nI s)), (2, .int (nI e))] dX6_layWays_123 rfl 3 rfl (madd1 _) (by decide) rfl ?_
                          refine j_goto 29 dX6_layWays_126 rfl ?_
                          refine j_lv [0, 4, 5, 6] rfl ?_
                          exact zih29 zh ZS (va_up ZW (Na 22 zh) zis) (by omega) (by omega) hyE (lw_step hbt hfe hp8 he hzW (by omega) hfin) (up_le1 hzB hyi.1)
                        ·
                          refine j_aload_n 99 dX6_layWays_98 rfl 4 rfl ?_
                          refine j_iload 101 dX6_layWays_99 rfl 2 rfl ?_
                          refine j_iload 103 dX6_layWays_101 rfl 0 rfl ?_
                          refine j_callVX (rest := []) 106 (c_X6_leads g q (va_up (va_up Na 0 ZS) 24 ZW) Ia Ns Is (Na 22 zh) zb  hs (okP_eq (eqB_P hyE) hP) hqz.1 (by show _ < 2 ^ ZS 2; rw [hyE 2 (by decide)]; exact hqz.2) (by show zb < ZS 3; rw [hyE 3 (by decide)]; omega) hzB) dX6_layWays_103 rfl cv_X6_248 rfl rfl 0 rfl rfl (gLe rfl) (gLe rfl) (gLe rfl) (gLe rfl) (fun rv w1 hp => ?_)
                          obtain ⟨Z1_1, hZ1_1, rfl, rfl⟩ := hp
                          refine ⟨(wM_len _ _ _ _ _ _ _ _ _ _), ?_⟩
                          refine j_eq (lv2 := [(6, .int (nI zb)), (5, .int (nI zis)), (4, .int (nI (Na 22 zh))), (3, .int (nI zh)), (0, .ref (q 26)), (1, .int (nI s)), (2, .int (nI e))]) (st2 := [.int (gB (ZW (nxN ZS (Na 22 zh) zb) ≠ 0 ∧ (Ia 21) (nxN ZS (Na 22 zh) zb) = (Ia 21) (Na 22 zh) + 1))]) (ws2 := (wM g q (va_up (va_up Na 0 Z1_1) 24 ZW) Ia Ns Is)) rfl rfl rfl ?_
                          refine j_topI (gB (ZW (nxN ZS (Na 22 zh) zb) ≠ 0 ∧ (Ia 21) (nxN ZS (Na 22 zh) zb) = (Ia 21) (Na 22 zh) + 1)) (nI (if (ZW (nxN (Na 0) (Na 22 zh) zb) ≠ 0 ∧ Ia 21 (nxN (Na 0) (Na 22 zh) zb) = Ia 21 (Na 22 zh) + 1) then 1 else 0)) (by rw [nxN_eq hP hyE (show zb < Na 0 3 by omega)]; exact gB_n) ?_
                          refine j_istore 108 [(5, .int (nI (if (ZW (nxN (Na 0) (Na 22 zh) zb) ≠ 0 ∧ Ia 21 (nxN (Na 0) (Na 22 zh) zb) = Ia 21 (Na 22 zh) + 1) then 1 else 0))), (6, .int (nI zb)), (4, .int (nI (Na 22 zh))), (3, .int (nI zh)), (0, .ref (q 26)), (1, .int (nI s)), (2, .int (nI e))] dX6_layWays_106 rfl (by decide) rfl ?_
                          refine j_iincN zb 1 111 [(6, .int (nI (zb + 1))), (5, .int (nI (if (ZW (nxN (Na 0) (Na 22 zh) zb) ≠ 0 ∧ Ia 21 (nxN (Na 0) (Na 22 zh) zb) = Ia 21 (Na 22 zh) + 1) then 1 else 0))), (4, .int (nI (Na 22 zh))), (3, .int (nI zh)), (0, .ref (q 26)), (1, .int (nI s)), (2, .int (nI e))] dX6_layWays_108 rfl 1 rfl (by decide) rfl ?_
                          refine j_goto 71 dX6_layWays_111 rfl ?_
                          refine j_lv [0, 1, 2, 3, 4, 5, 6] rfl ?_
                          exact zih71 (zb + 1) (if (ZW (nxN (Na 0) (Na 22 zh) zb) ≠ 0 ∧ Ia 21 (nxN (Na 0) (Na 22 zh) zb) = Ia 21 (Na 22 zh) + 1) then 1 else 0) Z1_1 (by omega) (eqB_trans hZ1_1 hyE) (by omega) ⟨ite_le1, lw_next hyi.2 h84 (Int32.not_le.mp h95)⟩
                refine j_lv [0, 1, 2, 3, 4, 5, 6] rfl ?_
                exact hL71 _ 0 zit ZR (Nat.lt_succ_self _) hzE (Nat.zero_le _) ⟨hyt.1, ⟨fun z => Or.inl (hyt.2.mp z), fun z => hyt.2.mpr (z.elim (fun z => z) (fun z => z.2.elim (fun b y => absurd y.1 (Nat.not_lt_zero b))))⟩⟩
              refine j_aload_n 42 dX6_layWays_41 rfl 2 rfl ?_
              refine j_getf 45 0 dX6_layWays_42 rfl fd_X6_42 rfl rfl ?_
              refine j_iload 47 dX6_layWays_45 rfl 0 rfl ?_
              refine j_ialdR ((Na 22) zh) 48 10 dX6_layWays_47 rfl rfl hqz.1 (by decide) ?_
              refine j_iload_n 49 dX6_layWays_48 rfl 4 rfl ?_
              refine j_icmp_ne 52 65 dX6_layWays_49 rfl rfl (fun h49 => ?_) (fun h49 => ?_)
              ·
                refine j_iconst (v := (0 : Int32)) 66 dX6_layWays_65 rfl (by decide) ?_
                refine j_lv [0, 1, 2, 3, 4] rfl ?_
                exact hC66 0 ⟨by decide, ⟨fun z => absurd rfl z, fun z => by first | exact absurd z.1 h49 | exact absurd z.2 h58⟩⟩
              ·
                refine j_iload 54 dX6_layWays_52 rfl 0 rfl ?_
                refine j_bipush (v := (32 : Int32)) 56 dX6_layWays_54 rfl (by decide) ?_
                refine j_iremN ((Na 22) zh) 32 57 dX6_layWays_56 rfl (by omega) (by decide) (by decide) ?_
                refine j_iload_n 58 dX6_layWays_57 rfl 3 rfl ?_
                refine j_icmp_neN (((Na 22) zh) % 32) s 61 65 dX6_layWays_58 rfl rfl (by omega) (by omega) (fun h58 => ?_) (fun h58 => ?_)
                ·
                  refine j_iconst (v := (0 : Int32)) 66 dX6_layWays_65 rfl (by decide) ?_
                  refine j_lv [0, 1, 2, 3, 4] rfl ?_
                  exact hC66 0 ⟨by decide, ⟨fun z => absurd rfl z, fun z => by first | exact absurd z.1 h49 | exact absurd z.2 h58⟩⟩
                ·
                  refine j_iconst (v := (1 : Int32)) 62 dX6_layWays_61 rfl (by decide) ?_
                  refine j_goto 66 dX6_layWays_62 rfl ?_
                  refine j_lv [0, 1, 2, 3, 4] rfl ?_
                  exact hC66 1 ⟨by decide, ⟨fun _ => ⟨h49, h58⟩, fun _ => by decide⟩⟩
        refine j_lv [0, 1, 2, 3] rfl ?_
        exact hL29 _ (Ns 23) (Na 0) (va_cpy (fun _ => 0) (Na 24) 0 0 7776) (Nat.lt_succ_self _) (Nat.le_refl _) (fun k _ => rfl) (fun p h1 h2 => absurd h2 (Nat.not_lt.mpr h1)) (fun k hk => by rw [cpy_in (by omega) (by omega)]; exact Nat.zero_le _)
      ·
        refine j_aload_n 10 dX6_layWays_9 rfl 1 rfl ?_
        refine j_getf 13 0 dX6_layWays_10 rfl fd_X6_48 rfl rfl ?_
        refine j_iload_n 14 dX6_layWays_13 rfl 0 rfl ?_
        refine j_iconst (v := (0 : Int32)) 15 dX6_layWays_14 rfl (by decide) ?_
        refine j_zastN 0 zi 16 12 (wM g q (va_up Na 24 (va_up (va_cpy (fun _ => 0) (Na 24) 0 0 zi) zi 0)) Ia Ns Is) dX6_layWays_15 rfl rfl (by omega) (by decide) (by decide) rfl ?_
        refine j_ws (wM g q (va_up Na 24 (va_cpy (fun _ => 0) (Na 24) 0 0 (zi + 1))) Ia Ns Is) (congrArg (fun z => wM g q (va_up Na 24 z) Ia Ns Is) (cpy_s0 (fun _ => 0) _ 0 zi)) ?_
        refine j_iincN zi 1 19 [(3, .int (nI (zi + 1))), (0, .ref (q 26)), (1, .int (nI s)), (2, .int (nI e))] dX6_layWays_16 rfl 0 rfl (by decide) rfl ?_
        refine j_goto 2 dX6_layWays_19 rfl ?_
        refine j_lv [0, 1, 2, 3] rfl ?_
        exact zih2 (zi + 1) (by omega) (by omega)
  refine j_ws (wM g q (va_up Na 24 (va_cpy (fun _ => 0) (Na 24) 0 0 0)) Ia Ns Is) (by rw [cpy_0]; rfl) ?_
  refine j_lv [0, 1, 2, 3] rfl ?_
  exact hL2 _ 0 (Nat.lt_succ_self _) (by omega)
