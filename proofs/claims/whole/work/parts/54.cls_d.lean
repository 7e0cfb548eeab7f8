/-- kinds that were met, and the first beast of each -/
def fkD (kd : Nat → Nat) : Nat → Nat × Nat
  | 0 => (0, 0)
  | b + 1 => ((fkD kd b).1 ||| 2 ^ kd b, if (fkD kd b).1 / 2 ^ kd b % 2 = 0 then (fkD kd b).2 ||| 2 ^ b else (fkD kd b).2)
theorem or2_lt {a b n : Nat} (h : a < 2 ^ n) (hb : b < n) : a ||| 2 ^ b < 2 ^ n := Nat.or_lt_two_pow h (Nat.pow_lt_pow_right (by decide) hb)
theorem fkD_lt {kd : Nat → Nat} {m : Nat} (hm : m ≤ 8) (hk : ∀ b, b < m → kd b < 6) : ∀ b, b ≤ m → (fkD kd b).1 < 64 ∧ (fkD kd b).2 < 256
  | 0, _ => ⟨(by decide : 0 < 64), (by decide : 0 < 256)⟩
  | b + 1, hb => by
    obtain ⟨h1, h2⟩ := fkD_lt hm hk b (by omega)
    refine ⟨or2_lt (n := 6) h1 (hk b (by omega)), ?_⟩
    show (if _ then (fkD kd b).2 ||| 2 ^ b else (fkD kd b).2) < 256
    split
    · exact or2_lt (n := 8) h2 (by omega)
    · exact h2
theorem fkD_1 {kd : Nat → Nat} : ∀ b k, ((fkD kd b).1.testBit k = true) ↔ ∃ j, j < b ∧ kd j = k
  | 0, k => by simp [fkD]
  | b + 1, k => by
    show ((fkD kd b).1 ||| 2 ^ kd b).testBit k = true ↔ _
    rw [Nat.testBit_or, Bool.or_eq_true, fkD_1 b k, Nat.testBit_two_pow]
    constructor
    · rintro (⟨j, h1, h2⟩ | h)
      · exact ⟨j, by omega, h2⟩
      · exact ⟨b, by omega, of_decide_eq_true h⟩
    · rintro ⟨j, h1, h2⟩
      by_cases e : j = b
      · exact Or.inr (by rw [← h2, e]; exact decide_eq_true rfl)
      · exact Or.inl ⟨j, by omega, h2⟩
theorem tb_0 {x k : Nat} : x / 2 ^ k % 2 = 0 ↔ ¬ x.testBit k = true := by
  rw [Nat.testBit_eq_decide_div_mod_eq, decide_eq_true_iff]
  omega
theorem fkD_2 {kd : Nat → Nat} : ∀ b k, ((fkD kd b).2.testBit k = true) ↔ k < b ∧ ∀ j, j < k → kd j ≠ kd k
  | 0, k => by simp [fkD]
  | b + 1, k => by
    show (if (fkD kd b).1 / 2 ^ kd b % 2 = 0 then (fkD kd b).2 ||| 2 ^ b else (fkD kd b).2).testBit k = true ↔ _
    by_cases c : (fkD kd b).1 / 2 ^ kd b % 2 = 0
    · rw [if_pos c, Nat.testBit_or, Bool.or_eq_true, fkD_2 b k, Nat.testBit_two_pow]
      rw [tb_0, fkD_1] at c
      constructor
      · rintro (⟨h1, h2⟩ | h)
        · exact ⟨by omega, h2⟩
        · have e : b = k := of_decide_eq_true h
          subst e
          exact ⟨by omega, fun j hj y => c ⟨j, hj, y⟩⟩
      · rintro ⟨h1, h2⟩
        by_cases e : k = b
        · exact Or.inr (by rw [e]; exact decide_eq_true rfl)
        · exact Or.inl ⟨by omega, h2⟩
    · rw [if_neg c, fkD_2 b k]
      rw [tb_0, fkD_1] at c
      constructor
      · rintro ⟨h1, h2⟩; exact ⟨by omega, h2⟩
      · rintro ⟨h1, h2⟩
        by_cases e : k = b
        · exfalso
          subst e
          exact c (fun ⟨j, hj, y⟩ => h2 j hj y)
        · exact ⟨by omega, h2⟩
set_option maxRecDepth 20000 in
theorem c_X3_send (g : gG) (sa : Nat) (p0 : Nat) (sb : Nat) (sc : Nat) (sd : Nat) (yD : Nat → Nat → Nat) (p1 : Nat) (p2 : Nat) (p3 : Nat) (p4 : Nat) (p5 : Nat) (p6 : Nat) (yL : Nat → Nat → Nat) (b : Nat) (k : Int32) (sk : Nat) (hP : okP (plP yL)) (hk : k = skC sk) (hb : b < yL 0 2) (h3 : yD 0 0 < 2 ^ yL 0 1) (hu : ∀ j, j < 5 → yD 1 j < 900000000) : gCon g mX3_send 2 0 0 [.ref sa, .int (nI b), .int k] [(sa, .inr (3, [.ref p0, .int (nI (yD 0 0)), .ref sb, .ref sc, .ref sd])), (sb, .inl (g.2.1 0, 5, .inl (nF (yD 1)))), (sc, .inl (g.2.1 0, 6, .inl (nF (yD 2)))), (sd, .inl (g.2.1 0, 6, .inl (nF (yD 3)))), (p0, .inr (0, [.int (nI (yL 0 0)), .int (nI (yL 0 1)), .int (nI (yL 0 2)), .ref p1, .ref p2, .ref p3, .ref p4, .ref p5, .ref p6])), (p1, .inl (g.2.1 0, 5, .inl (nF (yL 1)))), (p2, .inl (g.2.1 0, 5, .inl (nF (yL 2)))), (p3, .inl (g.2.1 0, 5, .inl (nF (yL 3)))), (p4, .inl (g.2.1 0, 5, .inl (nF (yL 4)))), (p5, .inl (g.2.1 0, 8, .inl (nF (yL 5)))), (p6, .inl (g.2.1 0, 8, .inl (nF (yL 6))))] (fun rv ws' => rv = some (.int (nI ((gOA (plP yL) sk b (yD 0 0) (yD 1)).1))) ∧ ws' = [(sa, .inr (3, [.ref p0, .int (nI ((putD yD (gOA (plP yL) sk b (yD 0 0) (yD 1)).2.1 (gOA (plP yL) sk b (yD 0 0) (yD 1)).2.2) 0 0)), .ref sb, .ref sc, .ref sd])), (sb, .inl (g.2.1 0, 5, .inl (nF ((putD yD (gOA (plP yL) sk b (yD 0 0) (yD 1)).2.1 (gOA (plP yL) sk b (yD 0 0) (yD 1)).2.2) 1)))), (sc, .inl (g.2.1 0, 6, .inl (nF ((putD yD (gOA (plP yL) sk b (yD 0 0) (yD 1)).2.1 (gOA (plP yL) sk b (yD 0 0) (yD 1)).2.2) 2)))), (sd, .inl (g.2.1 0, 6, .inl (nF ((putD yD (gOA (plP yL) sk b (yD 0 0) (yD 1)).2.1 (gOA (plP yL) sk b (yD 0 0) (yD 1)).2.2) 3)))), (p0, .inr (0, [.int (nI (yL 0 0)), .int (nI (yL 0 1)), .int (nI (yL 0 2)), .ref p1, .ref p2, .ref p3, .ref p4, .ref p5, .ref p6])), (p1, .inl (g.2.1 0, 5, .inl (nF (yL 1)))), (p2, .inl (g.2.1 0, 5, .inl (nF (yL 2)))), (p3, .inl (g.2.1 0, 5, .inl (nF (yL 3)))), (p4, .inl (g.2.1 0, 5, .inl (nF (yL 4)))), (p5, .inl (g.2.1 0, 8, .inl (nF (yL 5)))), (p6, .inl (g.2.1 0, 8, .inl (nF (yL 6))))]) := by
  refine gCon.of (lv := [(0, .ref sa), (1, .int (nI b)), (2, .int k)]) (by decide) (gLe rfl) rfl ?_
  have h8 : yL 0 2 ≤ 8 := hP.2.2.2.1
  have h2 : 1 ≤ yL 0 1 := hP.2.1
  have h25 : yL 0 1 ≤ 5 := hP.2.2.1
  have hkd : yL 5 b ≤ 5 := by have y := (okP_k hP hb).2; rwa [plP_k] at y
  have hGO : gOA (plP yL) sk b (yD 0 0) (yD 1) = goA (plP yL) sk (yL 5 b) 5 (yL 0 1 - 1) (yD 0 0) (yD 1) := by rw [gOA, plP_k, plP_2]
  have h32 := p32 hP h3
  refine j_aload_n 1 dX3_send_0 rfl 0 rfl ?_
  refine j_getf 4 0 dX3_send_1 rfl fd_X3_25 rfl rfl ?_
  refine j_iload_n 5 dX3_send_4 rfl 1 rfl ?_
  refine j_callV0 (rest := []) 8 [4, 5, 6, 7, 8, 9, 10] (c_X0_kindOf g p0 p1 p2 p3 p4 p5 p6 yL b h8 hb) [.int (nI (yL 5 b))] [(sa, .inr (3, [.ref p0, .int (nI (yD 0 0)), .ref sb, .ref sc, .ref sd])), (sb, .inl (g.2.1 0, 5, .inl (nF (yD 1)))), (sc, .inl (g.2.1 0, 6, .inl (nF (yD 2)))), (sd, .inl (g.2.1 0, 6, .inl (nF (yD 3)))), (p0, .inr (0, [.int (nI (yL 0 0)), .int (nI (yL 0 1)), .int (nI (yL 0 2)), .ref p1, .ref p2, .ref p3, .ref p4, .ref p5, .ref p6])), (p1, .inl (g.2.1 0, 5, .inl (nF (yL 1)))), (p2, .inl (g.2.1 0, 5, .inl (nF (yL 2)))), (p3, .inl (g.2.1 0, 5, .inl (nF (yL 3)))), (p4, .inl (g.2.1 0, 5, .inl (nF (yL 4)))), (p5, .inl (g.2.1 0, 8, .inl (nF (yL 5)))), (p6, .inl (g.2.1 0, 8, .inl (nF (yL 6))))] dX3_send_5 rfl cv_X3_41 rfl rfl rfl rfl 0 rfl rfl (gLe rfl) (gLe rfl) (gLe rfl) (gLe rfl) (gLe rfl) rfl rfl ?_
  refine j_istore_n 9 [(3, .int (nI (yL 5 b))), (0, .ref sa), (1, .int (nI b)), (2, .int k)] dX3_send_8 rfl (by decide) rfl ?_
  refine j_aload_n 10 dX3_send_9 rfl 1 rfl ?_
  refine j_getf 13 0 dX3_send_10 rfl fd_X3_25 rfl rfl ?_
  refine j_getf 16 4 dX3_send_13 rfl fd_X3_47 rfl rfl ?_
  refine j_iconst (v := (1 : Int32)) 17 dX3_send_16 rfl (by decide) ?_
  refine j_isubN (yL 0 1) 1 18 dX3_send_17 rfl h2 ?_
  refine j_istore 20 [(4, .int (nI ((yL 0 1) - 1))), (3, .int (nI (yL 5 b))), (0, .ref sa), (1, .int (nI b)), (2, .int k)] dX3_send_18 rfl (by decide) rfl ?_
  refine j_iconst (v := (0 : Int32)) 21 dX3_send_20 rfl (by decide) ?_
  refine j_istore 23 [(5, .int (0 : Int32)), (4, .int (nI ((yL 0 1) - 1))), (3, .int (nI (yL 5 b))), (0, .ref sa), (1, .int (nI b)), (2, .int k)] dX3_send_21 rfl (by decide) rfl ?_
  have hL23 : ∀ (zm23 : Nat) (zk : Nat) (zat : Nat) (zs : Nat) (zu : Nat → Nat), 5 - zk < zm23 → (zk ≤ 4) → (zat < 5 - zk) → (zat < yL 0 1) → (zs < 2 ^ yL 0 1) → (∀ j, j < 5 → zu j < 900000000 + zk) → (goA (plP yL) sk (yL 5 b) (5 - zk) zat zs zu = (gOA (plP yL) sk b (yD 0 0) (yD 1))) → gJ g mX3_send 2 0 0 (fun k' j' rv ws' => k' ≤ 0 ∧ j' ≤ 0 ∧ (rv = some (.int (nI ((gOA (plP yL) sk b (yD 0 0) (yD 1)).1))) ∧ ws' = [(sa, .inr (3, [.ref p0, .int (nI ((putD yD (gOA (plP yL) sk b (yD 0 0) (yD 1)).2.1 (gOA (plP yL) sk b (yD 0 0) (yD 1)).2.2) 0 0)), .ref sb, .ref sc, .ref sd])), (sb, .inl (g.2.1 0, 5, .inl (nF ((putD yD (gOA (plP yL) sk b (yD 0 0) (yD 1)).2.1 (gOA (plP yL) sk b (yD 0 0) (yD 1)).2.2) 1)))), (sc, .inl (g.2.1 0, 6, .inl (nF ((putD yD (gOA (plP yL) sk b (yD 0 0) (yD 1)).2.1 (gOA (plP yL) sk b (yD 0 0) (yD 1)).2.2) 2)))), (sd, .inl (g.2.1 0, 6, .inl (nF ((putD yD (gOA (plP yL) sk b (yD 0 0) (yD 1)).2.1 (gOA (plP yL) sk b (yD 0 0) (yD 1)).2.2) 3)))), (p0, .inr (0, [.int (nI (yL 0 0)), .int (nI (yL 0 1)), .int (nI (yL 0 2)), .ref p1, .ref p2, .ref p3, .ref p4, .ref p5, .ref p6])), (p1, .inl (g.2.1 0, 5, .inl (nF (yL 1)))), (p2, .inl (g.2.1 0, 5, .inl (nF (yL 2)))), (p3, .inl (g.2.1 0, 5, .inl (nF (yL 3)))), (p4, .inl (g.2.1 0, 5, .inl (nF (yL 4)))), (p5, .inl (g.2.1 0, 8, .inl (nF (yL 5)))), (p6, .inl (g.2.1 0, 8, .inl (nF (yL 6))))])) 0 0 23 [(3, .int (nI (yL 5 b))), (4, .int (nI zat)), (5, .int (nI zk)), (0, .ref sa), (1, .int (nI b)), (2, .int k)] [] [(sa, .inr (3, [.ref p0, .int (nI ((putD yD zs zu) 0 0)), .ref sb, .ref sc, .ref sd])), (sb, .inl (g.2.1 0, 5, .inl (nF ((putD yD zs zu) 1)))), (sc, .inl (g.2.1 0, 6, .inl (nF ((putD yD zs zu) 2)))), (sd, .inl (g.2.1 0, 6, .inl (nF ((putD yD zs zu) 3)))), (p0, .inr (0, [.int (nI (yL 0 0)), .int (nI (yL 0 1)), .int (nI (yL 0 2)), .ref p1, .ref p2, .ref p3, .ref p4, .ref p5, .ref p6])), (p1, .inl (g.2.1 0, 5, .inl (nF (yL 1)))), (p2, .inl (g.2.1 0, 5, .inl (nF (yL 2)))), (p3, .inl (g.2.1 0, 5, .inl (nF (yL 3)))), (p4, .inl (g.2.1 0, 5, .inl (nF (yL 4)))), (p5, .inl (g.2.1 0, 8, .inl (nF (yL 5)))), (p6, .inl (g.2.1 0, 8, .inl (nF (yL 6))))] := by
    intro zm23
    induction zm23 with
    | zero => intro zk zat zs zu zmh; exact absurd zmh (Nat.not_lt_zero _)
    | succ zm23 zih23 =>
      intro zk zat zs zu zmh23 hzk hza hzh hzs hzu hzg
      refine j_iload 25 dX3_send_23 rfl 2 rfl ?_
      refine j_iconst (v := (5 : Int32)) 26 dX3_send_25 rfl (by decide) ?_
      refine j_icmp_geN zk 5 29 99 dX3_send_26 rfl rfl (by have z0 := hzk; omega) (by decide) (fun h26 => absurd h26 (by omega)) (fun h26 => ?_)
      refine j_iload 31 dX3_send_29 rfl 1 rfl ?_
      refine j_if_ltN zat 34 dX3_send_31 rfl (t := 99) rfl (by have z0 := hza; omega) ?_
      refine j_iload 36 dX3_send_34 rfl 1 rfl ?_
      refine j_iconst (v := (5 : Int32)) 37 dX3_send_36 rfl (by decide) ?_
      have hz5 : zat < 5 := by omega
      have hwy := wayA_lt hP (sk := sk) (kd := yL 5 b) (s := zs) hzh
      have h66 := hP.1
      refine j_icmp_geN zat 5 40 99 dX3_send_37 rfl rfl (by have z0 := hza; omega) (by decide) (fun h37 => absurd h37 (by omega)) (fun h37 => ?_)
      refine j_aload_n 41 dX3_send_40 rfl 3 rfl ?_
      refine j_iload 43 dX3_send_41 rfl 1 rfl ?_
      refine j_iload_n 44 dX3_send_43 rfl 0 rfl ?_
      refine j_iload_n 45 dX3_send_44 rfl 5 rfl ?_
      refine j_callV0 (rest := []) 48 [0, 1, 2, 3, 4, 5, 6, 7, 8, 9, 10] (c_X3_pass g sa p0 sb sc sd (putD yD zs zu) p1 p2 p3 p4 p5 p6 yL zat (yL 5 b) k sk hP hk hzh (p32 hP hzs) hkd (fun j hj => by show zu j < _; have y := hzu j hj; omega)) [.int (nI (toA (plP yL) sk (yL 5 b) zat ((putD yD zs zu) 0 0)))] [(sa, .inr (3, [.ref p0, .int (nI ((putD (putD yD zs zu) (stA (plP yL) sk (yL 5 b) zat ((putD yD zs zu) 0 0) ((putD yD zs zu) 1)) (pushA (yL 5 b) zat ((putD yD zs zu) 1))) 0 0)), .ref sb, .ref sc, .ref sd])), (sb, .inl (g.2.1 0, 5, .inl (nF ((putD (putD yD zs zu) (stA (plP yL) sk (yL 5 b) zat ((putD yD zs zu) 0 0) ((putD yD zs zu) 1)) (pushA (yL 5 b) zat ((putD yD zs zu) 1))) 1)))), (sc, .inl (g.2.1 0, 6, .inl (nF ((putD (putD yD zs zu) (stA (plP yL) sk (yL 5 b) zat ((putD yD zs zu) 0 0) ((putD yD zs zu) 1)) (pushA (yL 5 b) zat ((putD yD zs zu) 1))) 2)))), (sd, .inl (g.2.1 0, 6, .inl (nF ((putD (putD yD zs zu) (stA (plP yL) sk (yL 5 b) zat ((putD yD zs zu) 0 0) ((putD yD zs zu) 1)) (pushA (yL 5 b) zat ((putD yD zs zu) 1))) 3)))), (p0, .inr (0, [.int (nI (yL 0 0)), .int (nI (yL 0 1)), .int (nI (yL 0 2)), .ref p1, .ref p2, .ref p3, .ref p4, .ref p5, .ref p6])), (p1, .inl (g.2.1 0, 5, .inl (nF (yL 1)))), (p2, .inl (g.2.1 0, 5, .inl (nF (yL 2)))), (p3, .inl (g.2.1 0, 5, .inl (nF (yL 3)))), (p4, .inl (g.2.1 0, 5, .inl (nF (yL 4)))), (p5, .inl (g.2.1 0, 8, .inl (nF (yL 5)))), (p6, .inl (g.2.1 0, 8, .inl (nF (yL 6))))] dX3_send_45 rfl cv_X3_50 rfl rfl rfl rfl 0 rfl rfl (gLe rfl) (gLe rfl) (gLe rfl) (gLe rfl) (gLe rfl) rfl rfl ?_
      refine j_topN (toA (plP yL) sk (yL 5 b) zat ((putD yD zs zu) 0 0)) (toA (plP yL) sk (yL 5 b) zat zs) rfl ?_
      refine j_ws [(sa, .inr (3, [.ref p0, .int (nI ((putD yD (stA (plP yL) sk (yL 5 b) zat zs zu) (pushA (yL 5 b) zat zu)) 0 0)), .ref sb, .ref sc, .ref sd])), (sb, .inl (g.2.1 0, 5, .inl (nF ((putD yD (stA (plP yL) sk (yL 5 b) zat zs zu) (pushA (yL 5 b) zat zu)) 1)))), (sc, .inl (g.2.1 0, 6, .inl (nF ((putD yD (stA (plP yL) sk (yL 5 b) zat zs zu) (pushA (yL 5 b) zat zu)) 2)))), (sd, .inl (g.2.1 0, 6, .inl (nF ((putD yD (stA (plP yL) sk (yL 5 b) zat zs zu) (pushA (yL 5 b) zat zu)) 3)))), (p0, .inr (0, [.int (nI (yL 0 0)), .int (nI (yL 0 1)), .int (nI (yL 0 2)), .ref p1, .ref p2, .ref p3, .ref p4, .ref p5, .ref p6])), (p1, .inl (g.2.1 0, 5, .inl (nF (yL 1)))), (p2, .inl (g.2.1 0, 5, .inl (nF (yL 2)))), (p3, .inl (g.2.1 0, 5, .inl (nF (yL 3)))), (p4, .inl (g.2.1 0, 5, .inl (nF (yL 4)))), (p5, .inl (g.2.1 0, 8, .inl (nF (yL 5)))), (p6, .inl (g.2.1 0, 8, .inl (nF (yL 6))))] rfl ?_
      refine j_if_neN (toA (plP yL) sk (yL 5 b) zat zs) 51 64 dX3_send_48 rfl rfl (by have z0 := (toA_le : toA (plP yL) sk (yL 5 b) zat zs ≤ 1); omega) (fun h48 => ?_) (fun h48 => ?_)
      ·
        refine j_aload_n 65 dX3_send_64 rfl 3 rfl ?_
        refine j_getf 68 0 dX3_send_65 rfl fd_X3_25 rfl rfl ?_
        refine j_getf 71 4 dX3_send_68 rfl fd_X3_57 rfl rfl ?_
        refine j_iload 73 dX3_send_71 rfl 1 rfl ?_
        refine j_ialdN zat 74 7 dX3_send_73 rfl rfl hz5 (by decide) ?_
        refine j_topN ((yL 3) zat) (plP yL (4 + 4 * zat + toA (plP yL) sk (yL 5 b) zat zs)) (by rw [show toA (plP yL) sk (yL 5 b) zat zs = 1 by have y : toA (plP yL) sk (yL 5 b) zat zs ≤ 1 := toA_le; omega]; exact (plP_r hz5).symm) ?_
        refine j_istore 76 [(6, .int (nI (plP yL (4 + 4 * zat + toA (plP yL) sk (yL 5 b) zat zs)))), (3, .int (nI (yL 5 b))), (4, .int (nI zat)), (5, .int (nI zk)), (0, .ref sa), (1, .int (nI b)), (2, .int k)] dX3_send_74 rfl (by decide) rfl ?_
        refine j_iload 78 dX3_send_76 rfl 0 rfl ?_
        refine j_bipush (v := (10 : Int32)) 80 dX3_send_78 rfl (by decide) ?_
        refine j_icmp_geN (plP yL (4 + 4 * zat + toA (plP yL) sk (yL 5 b) zat zs)) 10 83 86 dX3_send_80 rfl rfl (by have z0 := hwy; omega) (by decide) (fun h80 => ?_) (fun h80 => ?_)
        ·
          refine j_iload 88 dX3_send_86 rfl 0 rfl ?_
          refine j_bipush (v := (10 : Int32)) 90 dX3_send_88 rfl (by decide) ?_
          refine j_isubN (plP yL (4 + 4 * zat + toA (plP yL) sk (yL 5 b) zat zs)) 10 91 dX3_send_90 rfl (by omega) ?_
          refine j_istore 93 [(4, .int (nI ((plP yL (4 + 4 * zat + toA (plP yL) sk (yL 5 b) zat zs)) - 10))), (6, .int (nI (plP yL (4 + 4 * zat + toA (plP yL) sk (yL 5 b) zat zs)))), (3, .int (nI (yL 5 b))), (5, .int (nI zk)), (0, .ref sa), (1, .int (nI b)), (2, .int k)] dX3_send_91 rfl (by decide) rfl ?_
          refine j_iincN zk 1 96 [(5, .int (nI (zk + 1))), (4, .int (nI ((plP yL (4 + 4 * zat + toA (plP yL) sk (yL 5 b) zat zs)) - 10))), (6, .int (nI (plP yL (4 + 4 * zat + toA (plP yL) sk (yL 5 b) zat zs)))), (3, .int (nI (yL 5 b))), (0, .ref sa), (1, .int (nI b)), (2, .int k)] dX3_send_93 rfl 3 rfl (by decide) rfl ?_
          refine j_goto 23 dX3_send_96 rfl ?_
          refine j_lv [3, 1, 0, 4, 5, 6] rfl ?_
          exact zih23 (zk + 1) (plP yL (4 + 4 * zat + toA (plP yL) sk (yL 5 b) zat zs) - 10) (stA (plP yL) sk (yL 5 b) zat zs zu) (pushA (yL 5 b) zat zu) (by omega) (by omega) (by omega) (by omega) (stA_st hP hzh hzs) (fun j hj => by have y1 := pushA_1 (kd := (yL 5 b)) (h := zat) (k := j) (u := zu); have y2 := hzu j hj; omega) (by rw [← hzg, show 5 - zk = (5 - (zk + 1)) + 1 by omega, goA_s2 (by omega)])
        ·
          refine j_iload 85 dX3_send_83 rfl 0 rfl ?_
          refine j_iretI dX3_send_85 rfl ⟨gLe rfl, gLe rfl, ?_⟩
          have hge : (gOA (plP yL) sk b (yD 0 0) (yD 1)) = (plP yL (4 + 4 * zat + toA (plP yL) sk (yL 5 b) zat zs), stA (plP yL) sk (yL 5 b) zat zs zu, pushA (yL 5 b) zat zu) := by rw [← hzg, show 5 - zk = (5 - (zk + 1)) + 1 by omega, goA_s1 (by omega)]
          rw [hge]
          exact ⟨rfl, rfl⟩
      ·
        refine j_aload_n 52 dX3_send_51 rfl 3 rfl ?_
        refine j_getf 55 0 dX3_send_52 rfl fd_X3_25 rfl rfl ?_
        refine j_getf 58 4 dX3_send_55 rfl fd_X3_54 rfl rfl ?_
        refine j_iload 60 dX3_send_58 rfl 1 rfl ?_
        refine j_ialdN zat 61 6 dX3_send_60 rfl rfl hz5 (by decide) ?_
        refine j_goto 74 dX3_send_61 rfl ?_
        refine j_topN ((yL 2) zat) (plP yL (4 + 4 * zat + toA (plP yL) sk (yL 5 b) zat zs)) (by rw [h48]; exact (plP_l hz5).symm) ?_
        refine j_istore 76 [(6, .int (nI (plP yL (4 + 4 * zat + toA (plP yL) sk (yL 5 b) zat zs)))), (3, .int (nI (yL 5 b))), (4, .int (nI zat)), (5, .int (nI zk)), (0, .ref sa), (1, .int (nI b)), (2, .int k)] dX3_send_74 rfl (by decide) rfl ?_
        refine j_iload 78 dX3_send_76 rfl 0 rfl ?_
        refine j_bipush (v := (10 : Int32)) 80 dX3_send_78 rfl (by decide) ?_
        refine j_icmp_geN (plP yL (4 + 4 * zat + toA (plP yL) sk (yL 5 b) zat zs)) 10 83 86 dX3_send_80 rfl rfl (by have z0 := hwy; omega) (by decide) (fun h80 => ?_) (fun h80 => ?_)
        ·
          refine j_iload 88 dX3_send_86 rfl 0 rfl ?_
          refine j_bipush (v := (10 : Int32)) 90 dX3_send_88 rfl (by decide) ?_
          refine j_isubN (plP yL (4 + 4 * zat + toA (plP yL) sk (yL 5 b) zat zs)) 10 91 dX3_send_90 rfl (by omega) ?_
          refine j_istore 93 [(4, .int (nI ((plP yL (4 + 4 * zat + toA (plP yL) sk (yL 5 b) zat zs)) - 10))), (6, .int (nI (plP yL (4 + 4 * zat + toA (plP yL) sk (yL 5 b) zat zs)))), (3, .int (nI (yL 5 b))), (5, .int (nI zk)), (0, .ref sa), (1, .int (nI b)), (2, .int k)] dX3_send_91 rfl (by decide) rfl ?_
          refine j_iincN zk 1 96 [(5, .int (nI (zk + 1))), (4, .int (nI ((plP yL (4 + 4 * zat + toA (plP yL) sk (yL 5 b) zat zs)) - 10))), (6, .int (nI (plP yL (4 + 4 * zat + toA (plP yL) sk (yL 5 b) zat zs)))), (3, .int (nI (yL 5 b))), (0, .ref sa), (1, .int (nI b)), (2, .int k)] dX3_send_93 rfl 3 rfl (by decide) rfl ?_
          refine j_goto 23 dX3_send_96 rfl ?_
          refine j_lv [3, 1, 0, 4, 5, 6] rfl ?_
          exact zih23 (zk + 1) (plP yL (4 + 4 * zat + toA (plP yL) sk (yL 5 b) zat zs) - 10) (stA (plP yL) sk (yL 5 b) zat zs zu) (pushA (yL 5 b) zat zu) (by omega) (by omega) (by omega) (by omega) (stA_st hP hzh hzs) (fun j hj => by have y1 := pushA_1 (kd := (yL 5 b)) (h := zat) (k := j) (u := zu); have y2 := hzu j hj; omega) (by rw [← hzg, show 5 - zk = (5 - (zk + 1)) + 1 by omega, goA_s2 (by omega)])
        ·
          refine j_iload 85 dX3_send_83 rfl 0 rfl ?_
          refine j_iretI dX3_send_85 rfl ⟨gLe rfl, gLe rfl, ?_⟩
          have hge : (gOA (plP yL) sk b (yD 0 0) (yD 1)) = (plP yL (4 + 4 * zat + toA (plP yL) sk (yL 5 b) zat zs), stA (plP yL) sk (yL 5 b) zat zs zu, pushA (yL 5 b) zat zu) := by rw [← hzg, show 5 - zk = (5 - (zk + 1)) + 1 by omega, goA_s1 (by omega)]
          rw [hge]
          exact ⟨rfl, rfl⟩
  refine j_ws [(sa, .inr (3, [.ref p0, .int (nI ((putD yD (yD 0 0) (yD 1)) 0 0)), .ref sb, .ref sc, .ref sd])), (sb, .inl (g.2.1 0, 5, .inl (nF ((putD yD (yD 0 0) (yD 1)) 1)))), (sc, .inl (g.2.1 0, 6, .inl (nF ((putD yD (yD 0 0) (yD 1)) 2)))), (sd, .inl (g.2.1 0, 6, .inl (nF ((putD yD (yD 0 0) (yD 1)) 3)))), (p0, .inr (0, [.int (nI (yL 0 0)), .int (nI (yL 0 1)), .int (nI (yL 0 2)), .ref p1, .ref p2, .ref p3, .ref p4, .ref p5, .ref p6])), (p1, .inl (g.2.1 0, 5, .inl (nF (yL 1)))), (p2, .inl (g.2.1 0, 5, .inl (nF (yL 2)))), (p3, .inl (g.2.1 0, 5, .inl (nF (yL 3)))), (p4, .inl (g.2.1 0, 5, .inl (nF (yL 4)))), (p5, .inl (g.2.1 0, 8, .inl (nF (yL 5)))), (p6, .inl (g.2.1 0, 8, .inl (nF (yL 6))))] rfl ?_
  refine j_lv [2, 1, 0, 3, 4, 5] rfl ?_
  exact hL23 _ 0 (yL 0 1 - 1) (yD 0 0) (yD 1) (Nat.lt_succ_self _) (by decide) (by omega) (by omega) h3 hu hGO.symm
theorem tk_dg {P u : Nat → Nat} {s h : Nat} (hs : s < 32) (hh : h < 5) : tkU (numA P s u) h = dgA P u h := by
  have e : numA P s u / 32 = 3 * (3 * (3 * (3 * (3 * 0 + dgA P u 4) + dgA P u 3) + dgA P u 2) + dgA P u 1) + dgA P u 0 := by
    show (32 * (3 * (3 * (3 * (3 * (3 * 0 + dgA P u 4) + dgA P u 3) + dgA P u 2) + dgA P u 1) + dgA P u 0) + s) / 32 = _
    omega
  have d0 : dgA P u 0 < 3 := dgA_lt
  have d1 : dgA P u 1 < 3 := dgA_lt
  have d2 : dgA P u 2 < 3 := dgA_lt
  have d3 : dgA P u 3 < 3 := dgA_lt
  have d4 : dgA P u 4 < 3 := dgA_lt
  unfold tkU
  rw [if_pos hh, e]
  match h, hh with
  | 0, _ => show _ / 1 % 3 = _; omega
  | 1, _ => show _ / 3 % 3 = _; omega
  | 2, _ => show _ / 9 % 3 = _; omega
  | 3, _ => show _ / 27 % 3 = _; omega
  | 4, _ => show _ / 81 % 3 = _; omega
def eqU (P u v : Nat → Nat) : Prop := ∀ h, h < P 2 → P (4 + 4 * h + 3) = 1 → u h % 3 = v h % 3
theorem eqU_push {P u v : Nat → Nat} {kd h : Nat} (e : eqU P u v) : eqU P (pushA kd h u) (pushA kd h v) := by
  intro k hk h1
  have ek := e k hk h1
  unfold pushA
  by_cases c : kd = 1
  · rw [if_pos c, if_pos c]
    by_cases c2 : k = h
    · subst c2; rw [va_up_s, va_up_s]; omega
    · rw [va_up_n c2, va_up_n c2]; exact ek
  · rw [if_neg c, if_neg c]; exact ek
theorem eqU_st {P u v : Nat → Nat} (hP : okP P) {kd h s : Nat} (hh : h < P 2) (e : eqU P u v) : stA P 99 kd h s u = stA P 99 kd h s v := by
  have h5 := okP_5 hP hh
  have hs : srtO P 99 h = P (4 + 4 * h + 3) := if_neg (by omega)
  have ht : turnsA P 99 kd h s u ↔ turnsA P 99 kd h s v := by
    unfold turnsA
    rw [hs]
    by_cases c : P (4 + 4 * h + 3) = 1
    · have := e h hh c
      constructor
      · rintro (⟨a, b | b⟩ | a)
        · exact Or.inl ⟨a, Or.inl b⟩
        · exact Or.inl ⟨a, Or.inr ⟨b.1, by omega⟩⟩
        · exact Or.inr a
      · rintro (⟨a, b | b⟩ | a)
        · exact Or.inl ⟨a, Or.inl b⟩
        · exact Or.inl ⟨a, Or.inr ⟨b.1, by omega⟩⟩
        · exact Or.inr a
    · constructor
      · rintro (⟨a, b | b⟩ | a)
        · exact Or.inl ⟨a, Or.inl b⟩
        · exact absurd b.1 c
        · exact Or.inr a
      · rintro (⟨a, b | b⟩ | a)
        · exact Or.inl ⟨a, Or.inl b⟩
        · exact absurd b.1 c
        · exact Or.inr a
  unfold stA
  by_cases c : turnsA P 99 kd h s u
  · rw [if_pos c, if_pos (ht.mp c)]
  · rw [if_neg c, if_neg (fun y => c (ht.mpr y))]
theorem goA_eqU {P : Nat → Nat} (hP : okP P) {kd : Nat} : ∀ (n h s : Nat) (u v : Nat → Nat), h < P 2 → eqU P u v → (goA P 99 kd n h s u).1 = (goA P 99 kd n h s v).1 ∧ (goA P 99 kd n h s u).2.1 = (goA P 99 kd n h s v).2.1 ∧ eqU P (goA P 99 kd n h s u).2.2 (goA P 99 kd n h s v).2.2 := by
  intro n
  induction n with
  | zero => intro h s u v _ e; exact ⟨rfl, rfl, e⟩
  | succ n ih =>
    intro h s u v hh e
    have hw := wayA_lt hP (sk := 99) (kd := kd) (s := s) hh
    have h6 := hP.1
    have est := eqU_st hP (kd := kd) (s := s) hh e
    by_cases c : P (4 + 4 * h + toA P 99 kd h s) < 10
    · rw [goA_s1 c, goA_s1 c, est]; exact ⟨rfl, rfl, eqU_push e⟩
    · rw [goA_s2 c, goA_s2 c, est]
      exact ih _ _ _ _ (by omega) (eqU_push e)
theorem numD_eqU {P u v : Nat → Nat} (e : eqU P u v) : ∀ k, numD P u k = numD P v k
  | 0 => rfl
  | k + 1 => by
    have h1 : dgA P u (4 - k) = dgA P v (4 - k) := by
      unfold dgA
      by_cases c : 4 - k < P 2 ∧ P (4 + 4 * (4 - k) + 3) = 1
      · rw [if_pos c, if_pos c]; exact e _ c.1 c.2
      · rw [if_neg c, if_neg c]
    show 3 * numD P u k + _ = 3 * numD P v k + _
    rw [numD_eqU e k, h1]
/-- what a run brings about is told by the number alone -/
theorem nxN_num {P u : Nat → Nat} (hP : okP P) {s b : Nat} (hs : s < 2 ^ P 2) : numA P (gOA P 99 b s u).2.1 (gOA P 99 b s u).2.2 = nxN P (numA P s u) b := by
  have h32 := p32 hP hs
  have e : eqU P u (tkU (numA P s u)) := by
    intro h hh h1
    rw [tk_dg h32 (okP_5 hP hh), dgA, if_pos ⟨hh, h1⟩]
    omega
  have g := goA_eqU hP (kd := P (24 + 2 * b)) 5 (P 2 - 1) s u (tkU (numA P s u)) (by have := hP.2.1; omega) e
  unfold nxN
  rw [numA_mod h32]
  unfold gOA
  rw [g.2.1]
  unfold numA
  rw [numD_eqU g.2.2]
  rfl
/-! the class's own numbers: what 3 leaves over of the pushes of stiff hurdles alone, above how all stand -/
def pkD (P u : Nat → Nat) : Nat → Nat
  | 0 => 0
  | k + 1 => if 4 - k < P 2 ∧ P (4 + 4 * (4 - k) + 3) = 1 then pkD P u k * 3 + u (4 - k) % 3 else pkD P u k
def pkA (P : Nat → Nat) (s : Nat) (u : Nat → Nat) : Nat := pkD P u 5 * 2 ^ P 2 + s
/-- the class's number of what the reference numbers c -/
def pkN (P : Nat → Nat) (c : Nat) : Nat := pkA P (c % 32) (tkU c)
def tfN (P : Nat → Nat) : Nat → Nat
  | 0 => 1
  | k + 1 => if 4 - k < P 2 ∧ P (4 + 4 * (4 - k) + 3) = 1 then tfN P k * 3 else tfN P k
/-- how many numbers there are -/
def cdN (P : Nat → Nat) : Nat → Nat
  | 0 => 2 ^ P 2
  | m + 1 => if P (4 + 4 * m + 3) = 1 then cdN P m * 3 else cdN P m
def okN (P : Nat → Nat) (c : Nat) : Prop := ∃ (s : Nat) (u : Nat → Nat), s < 2 ^ P 2 ∧ c = numA P s u
theorem pkD_0 {P u : Nat → Nat} : ∀ k, k + P 2 ≤ 5 → pkD P u k = 0
  | 0, _ => rfl
  | k + 1, h => by
    show (if _ then _ else pkD P u k) = 0
    rw [if_neg (fun y => by have := y.1; omega)]
    exact pkD_0 k (by omega)
theorem tfN_0 {P : Nat → Nat} : ∀ k, k + P 2 ≤ 5 → tfN P k = 1
  | 0, _ => rfl
  | k + 1, h => by
    show (if _ then _ else tfN P k) = 1
    rw [if_neg (fun y => by have := y.1; omega)]
    exact tfN_0 k (by omega)
theorem pkD_lt (P u : Nat → Nat) : ∀ k, pkD P u k < tfN P k
  | 0 => Nat.zero_lt_one
  | k + 1 => by
    have h1 := pkD_lt P u k
    show (if _ then _ else pkD P u k) < (if _ then _ else tfN P k)
    by_cases c : 4 - k < P 2 ∧ P (4 + 4 * (4 - k) + 3) = 1
    · rw [if_pos c, if_pos c]; omega
    · rw [if_neg c, if_neg c]; exact h1
theorem tfN_le (P : Nat → Nat) : ∀ k, tfN P k ≤ 3 ^ k
  | 0 => Nat.le_refl 1
  | k + 1 => by
    have h1 := tfN_le P k
    show (if _ then _ else tfN P k) ≤ 3 ^ k * 3
    by_cases c : 4 - k < P 2 ∧ P (4 + 4 * (4 - k) + 3) = 1
    · rw [if_pos c]; omega
    · rw [if_neg c]; omega
theorem pkD_243 (P u : Nat → Nat) : ∀ k, k ≤ 5 → pkD P u k < 243 := fun k hk => by
  have h1 := pkD_lt P u k
  have h2 := tfN_le P k
  have h3 : 3 ^ k ≤ 3 ^ 5 := Nat.pow_le_pow_right (by decide) hk
  omega
theorem cd_tf {P : Nat → Nat} (h5 : P 2 ≤ 5) : ∀ m, m ≤ P 2 → cdN P m * tfN P (5 - m) = 2 ^ P 2 * tfN P 5
  | 0, _ => rfl
  | m + 1, h => by
    have ih := cd_tf h5 m (by omega)
    rw [show 5 - m = (5 - (m + 1)) + 1 by omega] at ih
    have e : tfN P (5 - (m + 1) + 1) = if m < P 2 ∧ P (4 + 4 * m + 3) = 1 then tfN P (5 - (m + 1)) * 3 else tfN P (5 - (m + 1)) := by
      show (if 4 - (5 - (m + 1)) < P 2 ∧ P (4 + 4 * (4 - (5 - (m + 1))) + 3) = 1 then _ else _) = _
      rw [show 4 - (5 - (m + 1)) = m by omega]
    rw [e] at ih
    show (if P (4 + 4 * m + 3) = 1 then cdN P m * 3 else cdN P m) * _ = _
    by_cases c : P (4 + 4 * m + 3) = 1
    · rw [if_pos c, ← ih, if_pos ⟨by omega, c⟩, Nat.mul_assoc, Nat.mul_comm 3]
    · rw [if_neg c, ← ih, if_neg (fun y => c y.2)]
theorem cdN_eq {P : Nat → Nat} (h5 : P 2 ≤ 5) : cdN P (P 2) = 2 ^ P 2 * tfN P 5 := by
  rw [← cd_tf h5 (P 2) (Nat.le_refl _), tfN_0 (5 - P 2) (by omega), Nat.mul_one]
theorem cdN_le {P : Nat → Nat} (h5 : P 2 ≤ 5) : cdN P (P 2) ≤ 7776 := by
  have h1 : 2 ^ P 2 ≤ 2 ^ 5 := Nat.pow_le_pow_right (by decide) h5
  have h2 := tfN_le P 5
  rw [cdN_eq h5]
  exact Nat.mul_le_mul h1 h2
theorem pkA_lt {P u : Nat → Nat} {s : Nat} (h5 : P 2 ≤ 5) (hs : s < 2 ^ P 2) : pkA P s u < cdN P (P 2) := by
  have h1 := pkD_lt P u 5
  rw [cdN_eq h5, Nat.mul_comm]
  have h2 : (pkD P u 5 + 1) * 2 ^ P 2 ≤ tfN P 5 * 2 ^ P 2 := Nat.mul_le_mul_right _ h1
  rw [Nat.add_mul, Nat.one_mul] at h2
  unfold pkA
  omega
theorem pkA_mod {P u : Nat → Nat} {s : Nat} (hs : s < 2 ^ P 2) : pkA P s u % 2 ^ P 2 = s := by
  unfold pkA
  rw [Nat.add_comm, Nat.add_mul_mod_self_right, Nat.mod_eq_of_lt hs]
theorem pkA_div {P u : Nat → Nat} {s : Nat} (hs : s < 2 ^ P 2) : pkA P s u / 2 ^ P 2 = pkD P u 5 := by
  unfold pkA
  rw [Nat.add_comm, Nat.add_mul_div_right _ _ (Nat.two_pow_pos _), Nat.div_eq_of_lt hs, Nat.zero_add]
theorem pkD_eqU {P u v : Nat → Nat} (e : eqU P u v) : ∀ k, pkD P u k = pkD P v k
  | 0 => rfl
  | k + 1 => by
    show (if _ then _ else pkD P u k) = (if _ then _ else pkD P v k)
    rw [pkD_eqU e k]
    by_cases c : 4 - k < P 2 ∧ P (4 + 4 * (4 - k) + 3) = 1
    · rw [if_pos c, if_pos c, e _ c.1 c.2]
    · rw [if_neg c, if_neg c]
theorem eqU_tk {P u : Nat → Nat} (hP : okP P) {s : Nat} (hs : s < 2 ^ P 2) : eqU P (tkU (numA P s u)) u := by
  intro h hh h1
  rw [tk_dg (p32 hP hs) (okP_5 hP hh), dgA, if_pos ⟨hh, h1⟩]
  omega
theorem pkN_num {P u : Nat → Nat} (hP : okP P) {s : Nat} (hs : s < 2 ^ P 2) : pkN P (numA P s u) = pkA P s u := by
  unfold pkN
  rw [numA_mod (p32 hP hs)]
  unfold pkA
  rw [pkD_eqU (eqU_tk hP hs)]
theorem pkN_or {P u : Nat → Nat} (hP : okP P) {s : Nat} (hs : s < 2 ^ P 2) : (pkD P u 5 * 2 ^ P 2 ||| s) = pkN P (numA P s u) := by
  rw [pkN_num hP hs, pkA, Nat.mul_comm]
  exact (Nat.two_pow_add_eq_or_of_lt hs _).symm
theorem pkD_sh {P u : Nat → Nat} (h5 : P 2 ≤ 5) : pkD P u 5 * 2 ^ P 2 < 4294967296 := by
  have h1 := pkD_243 P u 5 (Nat.le_refl _)
  have h2 : 2 ^ P 2 ≤ 2 ^ 5 := Nat.pow_le_pow_right (by decide) h5
  have h3 : pkD P u 5 * 2 ^ P 2 ≤ 243 * 2 ^ 5 := Nat.mul_le_mul (by omega) h2
  omega
theorem pkD_inj {P u v : Nat → Nat} : ∀ k, pkD P u k = pkD P v k → numD P u k = numD P v k
  | 0, _ => rfl
  | k + 1, e => by
    have e : (if 4 - k < P 2 ∧ P (4 + 4 * (4 - k) + 3) = 1 then pkD P u k * 3 + u (4 - k) % 3 else pkD P u k) = (if 4 - k < P 2 ∧ P (4 + 4 * (4 - k) + 3) = 1 then pkD P v k * 3 + v (4 - k) % 3 else pkD P v k) := e
    show 3 * numD P u k + dgA P u (4 - k) = 3 * numD P v k + dgA P v (4 - k)
    unfold dgA
    by_cases c : 4 - k < P 2 ∧ P (4 + 4 * (4 - k) + 3) = 1
    · rw [if_pos c, if_pos c] at e
      have ek : pkD P u k = pkD P v k := by omega
      rw [if_pos c, if_pos c, pkD_inj k ek]
      omega
    · rw [if_neg c, if_neg c] at e
      rw [if_neg c, if_neg c, pkD_inj k e]
theorem okN_m {P : Nat → Nat} (hP : okP P) {c : Nat} (h : okN P c) : c < 7776 ∧ c % 32 < 2 ^ P 2 := by
  obtain ⟨s, u, h1, rfl⟩ := h
  have h32 := p32 hP h1
  exact ⟨numA_lt h32, by rw [numA_mod h32]; exact h1⟩
theorem pkN_inj {P : Nat → Nat} (hP : okP P) {a b : Nat} (ha : okN P a) (hb : okN P b) (e : pkN P a = pkN P b) : a = b := by
  obtain ⟨s, u, h1, rfl⟩ := ha
  obtain ⟨t, v, h2, rfl⟩ := hb
  rw [pkN_num hP h1, pkN_num hP h2] at e
  have es : s = t := by rw [← pkA_mod (u := u) h1, ← pkA_mod (u := v) h2, e]
  have ed : pkD P u 5 = pkD P v 5 := by rw [← pkA_div (u := u) h1, ← pkA_div (u := v) h2, e]
  rw [numA, numA, pkD_inj 5 ed, es]
theorem pkN_lt {P : Nat → Nat} (hP : okP P) {c : Nat} (h : c % 32 < 2 ^ P 2) : pkN P c < cdN P (P 2) := pkA_lt hP.2.2.1 h
theorem pkN_7 {P : Nat → Nat} (hP : okP P) {c : Nat} (h : c % 32 < 2 ^ P 2) : pkN P c < 7776 := Nat.lt_of_lt_of_le (pkN_lt hP h) (cdN_le hP.2.2.1)
theorem pkN_mod {P : Nat → Nat} {c : Nat} (h : c % 32 < 2 ^ P 2) : pkN P c % 2 ^ P 2 = c % 32 := pkA_mod h
theorem okN_nx {P : Nat → Nat} (hP : okP P) {c b : Nat} (h : c % 32 < 2 ^ P 2) : okN P (nxN P c b) := ⟨_, _, (gOA_ok hP h (Z5_tk c)).2.1, rfl⟩
def stV (P : Nat → Nat) (H : Nat) (u v : Nat → Nat) : Nat → Nat := fun h => if h < H ∧ P (4 + 4 * h + 3) = 1 then u h % 3 else v h
theorem stV_0 {P u v : Nat → Nat} : stV P 0 u v = v := by funext h; exact if_neg (fun y => Nat.not_lt_zero _ y.1)
theorem stV_s {P u v : Nat → Nat} {z x : Nat} (c : P (4 + 4 * z + 3) = 1) (hx : x = u z % 3) : va_up (stV P z u v) z x = stV P (z + 1) u v := by
  funext h
  simp only [va_up, stV]
  by_cases e : h = z
  · rw [if_pos e, e, if_pos ⟨by omega, c⟩, hx]
  · rw [if_neg e]
    by_cases e2 : h < z ∧ P (4 + 4 * h + 3) = 1
    · rw [if_pos e2, if_pos ⟨by omega, e2.2⟩]
    · rw [if_neg e2, if_neg (fun y => e2 ⟨by omega, y.2⟩)]
theorem stV_n {P u v : Nat → Nat} {z : Nat} (c : ¬ P (4 + 4 * z + 3) = 1) : stV P z u v = stV P (z + 1) u v := by
  funext h
  simp only [stV]
  by_cases e2 : h < z ∧ P (4 + 4 * h + 3) = 1
  · rw [if_pos e2, if_pos ⟨by omega, e2.2⟩]
  · refine (if_neg e2).trans (if_neg (fun y => ?_)).symm
    by_cases e : h = z
    · rw [e] at y; exact c y.2
    · exact e2 ⟨by omega, y.2⟩
theorem pkD_s {P u : Nat → Nat} {z : Nat} (hz : z < P 2) (h5 : P 2 ≤ 5) (c : P (4 + 4 * z + 3) = 1) : pkD P u (5 - z) % 3 = u z % 3 ∧ pkD P u (5 - z) / 3 = pkD P u (5 - (z + 1)) := by
  have e : pkD P u (5 - z) = pkD P u (5 - (z + 1)) * 3 + u z % 3 := by
    rw [show 5 - z = (5 - (z + 1)) + 1 by omega]
    show (if 4 - (5 - (z + 1)) < P 2 ∧ P (4 + 4 * (4 - (5 - (z + 1))) + 3) = 1 then _ else _) = _
    rw [show 4 - (5 - (z + 1)) = z by omega, if_pos ⟨hz, c⟩]
  rw [e]
  exact ⟨by omega, by omega⟩
theorem pkD_n {P u : Nat → Nat} {z : Nat} (hz : z < 5) (c : ¬ P (4 + 4 * z + 3) = 1) : pkD P u (5 - z) = pkD P u (5 - (z + 1)) := by
  rw [show 5 - z = (5 - (z + 1)) + 1 by omega]
  show (if 4 - (5 - (z + 1)) < P 2 ∧ P (4 + 4 * (4 - (5 - (z + 1))) + 3) = 1 then _ else _) = _
  rw [show 4 - (5 - (z + 1)) = z by omega, if_neg (fun y => c y.2)]
theorem eqU_stV {P u v : Nat → Nat} : eqU P (stV P (P 2) u v) u := by
  intro h hh h1
  show (if h < P 2 ∧ P (4 + 4 * h + 3) = 1 then u h % 3 else v h) % 3 = _
  rw [if_pos ⟨hh, h1⟩]
  omega
theorem nxN_sv {P : Nat → Nat} (hP : okP P) {c b : Nat} {v : Nat → Nat} : numA P (gOA P 99 b (c % 32) (stV P (P 2) (tkU c) v)).2.1 (gOA P 99 b (c % 32) (stV P (P 2) (tkU c) v)).2.2 = nxN P c b := by
  have g := goA_eqU hP (kd := P (24 + 2 * b)) 5 (P 2 - 1) (c % 32) (stV P (P 2) (tkU c) v) (tkU c) (by have := hP.2.1; omega) eqU_stV
  unfold nxN gOA
  rw [g.2.1]
  unfold numA
  rw [numD_eqU g.2.2]
set_option maxRecDepth 20000 in
theorem c_X0_standsIn (g : gG) (p0 : Nat) (p1 : Nat) (p2 : Nat) (p3 : Nat) (p4 : Nat) (p5 : Nat) (p6 : Nat) (yL : Nat → Nat → Nat) (c : Nat)  (h25 : yL 0 1 ≤ 5) : gCon g mX0_standsIn 0 0 0 [.ref p0, .int (nI c)] [(p0, .inr (0, [.int (nI (yL 0 0)), .int (nI (yL 0 1)), .int (nI (yL 0 2)), .ref p1, .ref p2, .ref p3, .ref p4, .ref p5, .ref p6])), (p1, .inl (g.2.1 0, 5, .inl (nF (yL 1)))), (p2, .inl (g.2.1 0, 5, .inl (nF (yL 2)))), (p3, .inl (g.2.1 0, 5, .inl (nF (yL 3)))), (p4, .inl (g.2.1 0, 5, .inl (nF (yL 4)))), (p5, .inl (g.2.1 0, 8, .inl (nF (yL 5)))), (p6, .inl (g.2.1 0, 8, .inl (nF (yL 6))))] (fun rv ws' => rv = some (.int (nI (c % 2 ^ yL 0 1))) ∧ ws' = [(p0, .inr (0, [.int (nI (yL 0 0)), .int (nI (yL 0 1)), .int (nI (yL 0 2)), .ref p1, .ref p2, .ref p3, .ref p4, .ref p5, .ref p6])), (p1, .inl (g.2.1 0, 5, .inl (nF (yL 1)))), (p2, .inl (g.2.1 0, 5, .inl (nF (yL 2)))), (p3, .inl (g.2.1 0, 5, .inl (nF (yL 3)))), (p4, .inl (g.2.1 0, 5, .inl (nF (yL 4)))), (p5, .inl (g.2.1 0, 8, .inl (nF (yL 5)))), (p6, .inl (g.2.1 0, 8, .inl (nF (yL 6))))]) := by
  refine gCon.of (lv := [(0, .ref p0), (1, .int (nI c))]) (by decide) (gLe rfl) rfl ?_
  have h2p : 2 ^ yL 0 1 ≤ 2 ^ 5 := Nat.pow_le_pow_right (by decide) h25
  have h1p := Nat.two_pow_pos (yL 0 1)
  refine j_iload_n 1 dX0_standsIn_0 rfl 1 rfl ?_
  refine j_iconst (v := (1 : Int32)) 2 dX0_standsIn_1 rfl (by decide) ?_
  refine j_aload_n 3 dX0_standsIn_2 rfl 0 rfl ?_
  refine j_getf 6 0 dX0_standsIn_3 rfl fd_X0_15 rfl rfl ?_
  refine j_ishlN 1 (yL 0 1) 7 dX0_standsIn_6 rfl (by omega) (by omega) ?_
  refine j_topN (1 * 2 ^ (yL 0 1)) (2 ^ yL 0 1) (Nat.one_mul _) ?_
  refine j_iconst (v := (1 : Int32)) 8 dX0_standsIn_7 rfl (by decide) ?_
  refine j_isubN (2 ^ yL 0 1) 1 9 dX0_standsIn_8 rfl (by omega) ?_
  refine j_iandN c ((2 ^ yL 0 1) - 1) 10 dX0_standsIn_9 rfl ?_
  refine j_topN (c &&& ((2 ^ yL 0 1) - 1)) (c % 2 ^ yL 0 1) (Nat.and_two_pow_sub_one_eq_mod c (yL 0 1)) ?_
  refine j_iretI dX0_standsIn_10 rfl ⟨gLe rfl, gLe rfl, ?_⟩
  exact ⟨rfl, rfl⟩
set_option maxRecDepth 20000 in
theorem c_X3_code (g : gG) (sa : Nat) (p0 : Nat) (sb : Nat) (sc : Nat) (sd : Nat) (yD : Nat → Nat → Nat) (p1 : Nat) (p2 : Nat) (p3 : Nat) (p4 : Nat) (p5 : Nat) (p6 : Nat) (yL : Nat → Nat → Nat)   (hP : okP (plP yL)) (hs : yD 0 0 < 2 ^ yL 0 1) (hu : ∀ j, j < 5 → yD 1 j < 2000000000) : gCon g mX3_code 0 0 0 [.ref sa] [(sa, .inr (3, [.ref p0, .int (nI (yD 0 0)), .ref sb, .ref sc, .ref sd])), (sb, .inl (g.2.1 0, 5, .inl (nF (yD 1)))), (sc, .inl (g.2.1 0, 6, .inl (nF (yD 2)))), (sd, .inl (g.2.1 0, 6, .inl (nF (yD 3)))), (p0, .inr (0, [.int (nI (yL 0 0)), .int (nI (yL 0 1)), .int (nI (yL 0 2)), .ref p1, .ref p2, .ref p3, .ref p4, .ref p5, .ref p6])), (p1, .inl (g.2.1 0, 5, .inl (nF (yL 1)))), (p2, .inl (g.2.1 0, 5, .inl (nF (yL 2)))), (p3, .inl (g.2.1 0, 5, .inl (nF (yL 3)))), (p4, .inl (g.2.1 0, 5, .inl (nF (yL 4)))), (p5, .inl (g.2.1 0, 8, .inl (nF (yL 5)))), (p6, .inl (g.2.1 0, 8, .inl (nF (yL 6))))] (fun rv ws' => rv = some (.int (nI (pkN (plP yL) (numA (plP yL) (yD 0 0) (yD 1))))) ∧ ws' = [(sa, .inr (3, [.ref p0, .int (nI (yD 0 0)), .ref sb, .ref sc, .ref sd])), (sb, .inl (g.2.1 0, 5, .inl (nF (yD 1)))), (sc, .inl (g.2.1 0, 6, .inl (nF (yD 2)))), (sd, .inl (g.2.1 0, 6, .inl (nF (yD 3)))), (p0, .inr (0, [.int (nI (yL 0 0)), .int (nI (yL 0 1)), .int (nI (yL 0 2)), .ref p1, .ref p2, .ref p3, .ref p4, .ref p5, .ref p6])), (p1, .inl (g.2.1 0, 5, .inl (nF (yL 1)))), (p2, .inl (g.2.1 0, 5, .inl (nF (yL 2)))), (p3, .inl (g.2.1 0, 5, .inl (nF (yL 3)))), (p4, .inl (g.2.1 0, 5, .inl (nF (yL 4)))), (p5, .inl (g.2.1 0, 8, .inl (nF (yL 5)))), (p6, .inl (g.2.1 0, 8, .inl (nF (yL 6))))]) := by
  refine gCon.of (lv := [(0, .ref sa)]) (by decide) (gLe rfl) rfl ?_
  have h2 : 1 ≤ yL 0 1 := hP.2.1
  have h25 : yL 0 1 ≤ 5 := hP.2.2.1
  refine j_iconst (v := (0 : Int32)) 1 dX3_code_0 rfl (by decide) ?_
  refine j_istore_n 2 [(1, .int (0 : Int32)), (0, .ref sa)] dX3_code_1 rfl (by decide) rfl ?_
  refine j_aload_n 3 dX3_code_2 rfl 1 rfl ?_
  refine j_getf 6 0 dX3_code_3 rfl fd_X3_25 rfl rfl ?_
  refine j_getf 9 4 dX3_code_6 rfl fd_X3_47 rfl rfl ?_
  refine j_iconst (v := (1 : Int32)) 10 dX3_code_9 rfl (by decide) ?_
  refine j_isub 11 dX3_code_10 rfl ?_
  refine j_istore_n 12 [(2, .int ((nI (yL 0 1)) - (1 : Int32))), (1, .int (0 : Int32)), (0, .ref sa)] dX3_code_11 rfl (by decide) rfl ?_
  have hL12 : ∀ (zm12 : Nat) (zc : Nat) (zp : Nat), zc < zm12 → (zc ≤ yL 0 1) → (zp = pkD (plP yL) (yD 1) (5 - zc)) → gJ g mX3_code 0 0 0 (fun k' j' rv ws' => k' ≤ 0 ∧ j' ≤ 0 ∧ (rv = some (.int (nI (pkN (plP yL) (numA (plP yL) (yD 0 0) (yD 1))))) ∧ ws' = [(sa, .inr (3, [.ref p0, .int (nI (yD 0 0)), .ref sb, .ref sc, .ref sd])), (sb, .inl (g.2.1 0, 5, .inl (nF (yD 1)))), (sc, .inl (g.2.1 0, 6, .inl (nF (yD 2)))), (sd, .inl (g.2.1 0, 6, .inl (nF (yD 3)))), (p0, .inr (0, [.int (nI (yL 0 0)), .int (nI (yL 0 1)), .int (nI (yL 0 2)), .ref p1, .ref p2, .ref p3, .ref p4, .ref p5, .ref p6])), (p1, .inl (g.2.1 0, 5, .inl (nF (yL 1)))), (p2, .inl (g.2.1 0, 5, .inl (nF (yL 2)))), (p3, .inl (g.2.1 0, 5, .inl (nF (yL 3)))), (p4, .inl (g.2.1 0, 5, .inl (nF (yL 4)))), (p5, .inl (g.2.1 0, 8, .inl (nF (yL 5)))), (p6, .inl (g.2.1 0, 8, .inl (nF (yL 6))))])) 0 0 12 [(2, .int ((nI zc) - (1 : Int32))), (1, .int (nI zp)), (0, .ref sa)] [] [(sa, .inr (3, [.ref p0, .int (nI (yD 0 0)), .ref sb, .ref sc, .ref sd])), (sb, .inl (g.2.1 0, 5, .inl (nF (yD 1)))), (sc, .inl (g.2.1 0, 6, .inl (nF (yD 2)))), (sd, .inl (g.2.1 0, 6, .inl (nF (yD 3)))), (p0, .inr (0, [.int (nI (yL 0 0)), .int (nI (yL 0 1)), .int (nI (yL 0 2)), .ref p1, .ref p2, .ref p3, .ref p4, .ref p5, .ref p6])), (p1, .inl (g.2.1 0, 5, .inl (nF (yL 1)))), (p2, .inl (g.2.1 0, 5, .inl (nF (yL 2)))), (p3, .inl (g.2.1 0, 5, .inl (nF (yL 3)))), (p4, .inl (g.2.1 0, 5, .inl (nF (yL 4)))), (p5, .inl (g.2.1 0, 8, .inl (nF (yL 5)))), (p6, .inl (g.2.1 0, 8, .inl (nF (yL 6))))] := by
    intro zm12
    induction zm12 with
    | zero => intro zc zp zmh; exact absurd zmh (Nat.not_lt_zero _)
    | succ zm12 zih12 =>
      intro zc zp zmh12 hzc hzp
      refine j_iload_n 13 dX3_code_12 rfl 0 rfl ?_
      refine j_if_lt 16 48 dX3_code_13 rfl rfl (fun h13 => ?_) (fun h13 => ?_)
      ·
        have hz0 : zc = 0 := (pred_neg (by omega)).mp h13
        have hze : zp = pkD (plP yL) (yD 1) 5 := by rw [hzp, hz0]
        refine j_iload_n 49 dX3_code_48 rfl 1 rfl ?_
        refine j_topN zp (pkD (plP yL) (yD 1) 5) hze ?_
        refine j_aload_n 50 dX3_code_49 rfl 2 rfl ?_
        refine j_getf 53 0 dX3_code_50 rfl fd_X3_25 rfl rfl ?_
        refine j_getf 56 4 dX3_code_53 rfl fd_X3_47 rfl rfl ?_
        refine j_ishlN (pkD (plP yL) (yD 1) 5) (yL 0 1) 57 dX3_code_56 rfl (by omega) (pkD_sh (P := plP yL) h25) ?_
        refine j_aload_n 58 dX3_code_57 rfl 2 rfl ?_
        refine j_getf 61 0 dX3_code_58 rfl fd_X3_9 rfl rfl ?_
        refine j_iorN ((pkD (plP yL) (yD 1) 5) * 2 ^ (yL 0 1)) (yD 0 0) 62 dX3_code_61 rfl ?_
        refine j_topN (((pkD (plP yL) (yD 1) 5) * 2 ^ (yL 0 1)) ||| (yD 0 0)) (pkN (plP yL) (numA (plP yL) (yD 0 0) (yD 1))) (pkN_or hP hs) ?_
        refine j_iretI dX3_code_62 rfl ⟨gLe rfl, gLe rfl, ?_⟩
        exact ⟨rfl, rfl⟩
      ·
        have hz0 : ¬ zc = 0 := fun y => h13 ((pred_neg (by omega)).mpr y)
        have hz5 : zc - 1 < 5 := by omega
        have hs2 : yL 1 (zc - 1) ≤ 2 := by rw [← plP_s (L := yL) hz5]; exact (hP.2.2.2.2.1 (zc - 1) (by show zc - 1 < yL 0 1; omega)).2.2.2
        refine j_lvs [(2, .int (nI (zc - 1))), (1, .int (nI zp)), (0, .ref sa)] (by rw [nI_p (by omega)]) ?_
        refine j_aload_n 17 dX3_code_16 rfl 2 rfl ?_
        refine j_getf 20 0 dX3_code_17 rfl fd_X3_25 rfl rfl ?_
        refine j_getf 23 4 dX3_code_20 rfl fd_X3_78 rfl rfl ?_
        refine j_iload_n 24 dX3_code_23 rfl 0 rfl ?_
        refine j_ialdN (zc - 1) 25 5 dX3_code_24 rfl rfl hz5 (by decide) ?_
        refine j_iconst (v := (1 : Int32)) 26 dX3_code_25 rfl (by decide) ?_
        refine j_icmp_neN ((yL 1) (zc - 1)) 1 29 42 dX3_code_26 rfl rfl (by have z0 := hs2; omega) (by decide) (fun h26 => ?_) (fun h26 => ?_)
        ·
          refine j_iinc (v := ((nI (zc - 1)) - (1 : Int32))) 45 [(2, .int ((nI (zc - 1)) - (1 : Int32))), (1, .int (nI zp)), (0, .ref sa)] dX3_code_42 rfl 0 rfl (madd1 _) (by decide) rfl ?_
          refine j_goto 12 dX3_code_45 rfl ?_
          refine j_lv [0, 1, 2] rfl ?_
          exact zih12 (zc - 1) zp (by omega) (by omega) (by have y := pkD_n (P := plP yL) (u := yD 1) (z := zc - 1) hz5 (by rw [plP_s hz5]; exact h26); rw [show 5 - (zc - 1 + 1) = 5 - zc by omega, ← hzp] at y; exact y.symm)
        ·
          refine j_iload_n 30 dX3_code_29 rfl 1 rfl ?_
          refine j_iconst (v := (3 : Int32)) 31 dX3_code_30 rfl (by decide) ?_
          refine j_imulN zp 3 32 dX3_code_31 rfl ?_
          refine j_aload_n 33 dX3_code_32 rfl 2 rfl ?_
          refine j_getf 36 0 dX3_code_33 rfl fd_X3_15 rfl rfl ?_
          refine j_iload_n 37 dX3_code_36 rfl 0 rfl ?_
          refine j_ialdN (zc - 1) 38 1 dX3_code_37 rfl rfl hz5 (by decide) ?_
          refine j_iconst (v := (3 : Int32)) 39 dX3_code_38 rfl (by decide) ?_
          refine j_iremN ((yD 1) (zc - 1)) 3 40 dX3_code_39 rfl (by have z0 := hu (zc - 1) hz5; omega) (by decide) (by decide) ?_
          refine j_iaddN (zp * 3) (((yD 1) (zc - 1)) % 3) 41 dX3_code_40 rfl ?_
          refine j_istore_n 42 [(1, .int (nI ((zp * 3) + (((yD 1) (zc - 1)) % 3)))), (2, .int (nI (zc - 1))), (0, .ref sa)] dX3_code_41 rfl (by decide) rfl ?_
          refine j_iinc (v := ((nI (zc - 1)) - (1 : Int32))) 45 [(2, .int ((nI (zc - 1)) - (1 : Int32))), (1, .int (nI ((zp * 3) + (((yD 1) (zc - 1)) % 3)))), (0, .ref sa)] dX3_code_42 rfl 1 rfl (madd1 _) (by decide) rfl ?_
          refine j_goto 12 dX3_code_45 rfl ?_
          refine j_lv [0, 1, 2] rfl ?_
          exact zih12 (zc - 1) (zp * 3 + yD 1 (zc - 1) % 3) (by omega) (by omega) (by have y := pkD_s (P := plP yL) (u := yD 1) (z := zc - 1) (by show zc - 1 < yL 0 1; omega) h25 (by rw [plP_s hz5]; exact h26); rw [show 5 - (zc - 1 + 1) = 5 - zc by omega, ← hzp] at y; omega)
  refine j_lv [0, 1, 2] rfl ?_
  exact hL12 _ (yL 0 1) 0 (Nat.lt_succ_self _) (Nat.le_refl _) (pkD_0 _ (by show 5 - yL 0 1 + yL 0 1 ≤ 5; omega)).symm
set_option maxRecDepth 20000 in
theorem c_X3_standAs (g : gG) (sa : Nat) (p0 : Nat) (sb : Nat) (sc : Nat) (sd : Nat) (yD : Nat → Nat → Nat) (p1 : Nat) (p2 : Nat) (p3 : Nat) (p4 : Nat) (p5 : Nat) (p6 : Nat) (yL : Nat → Nat → Nat) (c : Nat) (s : Nat) (v : Nat → Nat) (hP : okP (plP yL)) (hs : s < 2 ^ yL 0 1) (hc : c = pkA (plP yL) s v) : gCon g mX3_standAs 1 0 0 [.ref sa, .int (nI c)] [(sa, .inr (3, [.ref p0, .int (nI (yD 0 0)), .ref sb, .ref sc, .ref sd])), (sb, .inl (g.2.1 0, 5, .inl (nF (yD 1)))), (sc, .inl (g.2.1 0, 6, .inl (nF (yD 2)))), (sd, .inl (g.2.1 0, 6, .inl (nF (yD 3)))), (p0, .inr (0, [.int (nI (yL 0 0)), .int (nI (yL 0 1)), .int (nI (yL 0 2)), .ref p1, .ref p2, .ref p3, .ref p4, .ref p5, .ref p6])), (p1, .inl (g.2.1 0, 5, .inl (nF (yL 1)))), (p2, .inl (g.2.1 0, 5, .inl (nF (yL 2)))), (p3, .inl (g.2.1 0, 5, .inl (nF (yL 3)))), (p4, .inl (g.2.1 0, 5, .inl (nF (yL 4)))), (p5, .inl (g.2.1 0, 8, .inl (nF (yL 5)))), (p6, .inl (g.2.1 0, 8, .inl (nF (yL 6))))] (fun rv ws' => rv = none ∧ ws' = [(sa, .inr (3, [.ref p0, .int (nI ((putD yD s (stV (plP yL) (yL 0 1) v (yD 1))) 0 0)), .ref sb, .ref sc, .ref sd])), (sb, .inl (g.2.1 0, 5, .inl (nF ((putD yD s (stV (plP yL) (yL 0 1) v (yD 1))) 1)))), (sc, .inl (g.2.1 0, 6, .inl (nF ((putD yD s (stV (plP yL) (yL 0 1) v (yD 1))) 2)))), (sd, .inl (g.2.1 0, 6, .inl (nF ((putD yD s (stV (plP yL) (yL 0 1) v (yD 1))) 3)))), (p0, .inr (0, [.int (nI (yL 0 0)), .int (nI (yL 0 1)), .int (nI (yL 0 2)), .ref p1, .ref p2, .ref p3, .ref p4, .ref p5, .ref p6])), (p1, .inl (g.2.1 0, 5, .inl (nF (yL 1)))), (p2, .inl (g.2.1 0, 5, .inl (nF (yL 2)))), (p3, .inl (g.2.1 0, 5, .inl (nF (yL 3)))), (p4, .inl (g.2.1 0, 5, .inl (nF (yL 4)))), (p5, .inl (g.2.1 0, 8, .inl (nF (yL 5)))), (p6, .inl (g.2.1 0, 8, .inl (nF (yL 6))))]) := by
  refine gCon.of (lv := [(0, .ref sa), (1, .int (nI c))]) (by decide) (gLe rfl) rfl ?_
  have h25 : yL 0 1 ≤ 5 := hP.2.2.1
  have hc7 : c < 7776 := by rw [hc]; exact Nat.lt_of_lt_of_le (pkA_lt h25 hs) (cdN_le h25)
  refine j_aload_n 1 dX3_standAs_0 rfl 0 rfl ?_
  refine j_aload_n 2 dX3_standAs_1 rfl 0 rfl ?_
  refine j_getf 5 0 dX3_standAs_2 rfl fd_X3_25 rfl rfl ?_
  refine j_iload_n 6 dX3_standAs_5 rfl 1 rfl ?_
  refine j_callV0 (rest := [.ref sa]) 9 [4, 5, 6, 7, 8, 9, 10] (c_X0_standsIn g p0 p1 p2 p3 p4 p5 p6 yL c h25) [.int (nI (c % 2 ^ yL 0 1)), .ref sa] [(sa, .inr (3, [.ref p0, .int (nI (yD 0 0)), .ref sb, .ref sc, .ref sd])), (sb, .inl (g.2.1 0, 5, .inl (nF (yD 1)))), (sc, .inl (g.2.1 0, 6, .inl (nF (yD 2)))), (sd, .inl (g.2.1 0, 6, .inl (nF (yD 3)))), (p0, .inr (0, [.int (nI (yL 0 0)), .int (nI (yL 0 1)), .int (nI (yL 0 2)), .ref p1, .ref p2, .ref p3, .ref p4, .ref p5, .ref p6])), (p1, .inl (g.2.1 0, 5, .inl (nF (yL 1)))), (p2, .inl (g.2.1 0, 5, .inl (nF (yL 2)))), (p3, .inl (g.2.1 0, 5, .inl (nF (yL 3)))), (p4, .inl (g.2.1 0, 5, .inl (nF (yL 4)))), (p5, .inl (g.2.1 0, 8, .inl (nF (yL 5)))), (p6, .inl (g.2.1 0, 8, .inl (nF (yL 6))))] dX3_standAs_6 rfl cv_X3_81 rfl rfl rfl rfl 0 rfl rfl (gLe rfl) (gLe rfl) (gLe rfl) (gLe rfl) (gLe rfl) rfl rfl ?_
  refine j_topN (c % 2 ^ yL 0 1) s (by rw [hc]; exact pkA_mod hs) ?_
  refine j_putf 12 0 [(sa, .inr (3, [.ref p0, .int (nI s), .ref sb, .ref sc, .ref sd])), (sb, .inl (g.2.1 0, 5, .inl (nF (yD 1)))), (sc, .inl (g.2.1 0, 6, .inl (nF (yD 2)))), (sd, .inl (g.2.1 0, 6, .inl (nF (yD 3)))), (p0, .inr (0, [.int (nI (yL 0 0)), .int (nI (yL 0 1)), .int (nI (yL 0 2)), .ref p1, .ref p2, .ref p3, .ref p4, .ref p5, .ref p6])), (p1, .inl (g.2.1 0, 5, .inl (nF (yL 1)))), (p2, .inl (g.2.1 0, 5, .inl (nF (yL 2)))), (p3, .inl (g.2.1 0, 5, .inl (nF (yL 3)))), (p4, .inl (g.2.1 0, 5, .inl (nF (yL 4)))), (p5, .inl (g.2.1 0, 8, .inl (nF (yL 5)))), (p6, .inl (g.2.1 0, 8, .inl (nF (yL 6))))] dX3_standAs_9 rfl fd_X3_9 rfl rfl rfl (gLe rfl) rfl ?_
  refine j_iload_n 13 dX3_standAs_12 rfl 1 rfl ?_
  refine j_aload_n 14 dX3_standAs_13 rfl 0 rfl ?_
  refine j_getf 17 0 dX3_standAs_14 rfl fd_X3_25 rfl rfl ?_
  refine j_getf 20 4 dX3_standAs_17 rfl fd_X3_47 rfl rfl ?_
  refine j_ishrN c (yL 0 1) 21 dX3_standAs_20 rfl (by omega) (by omega) ?_
  refine j_topN (c / 2 ^ (yL 0 1)) (pkD (plP yL) v 5) (by rw [hc]; exact pkA_div hs) ?_
  refine j_istore_n 22 [(2, .int (nI (pkD (plP yL) v 5))), (0, .ref sa), (1, .int (nI c))] dX3_standAs_21 rfl (by decide) rfl ?_
  refine j_iconst (v := (0 : Int32)) 23 dX3_standAs_22 rfl (by decide) ?_
  refine j_istore_n 24 [(3, .int (0 : Int32)), (2, .int (nI (pkD (plP yL) v 5))), (0, .ref sa), (1, .int (nI c))] dX3_standAs_23 rfl (by decide) rfl ?_
  have hL24 : ∀ (zm24 : Nat) (zi : Nat) (zp : Nat), yL 0 1 - zi < zm24 → (zi ≤ yL 0 1) → (zp = pkD (plP yL) v (5 - zi)) → (zp < 243) → gJ g mX3_standAs 1 0 0 (fun k' j' rv ws' => k' ≤ 0 ∧ j' ≤ 0 ∧ (rv = none ∧ ws' = [(sa, .inr (3, [.ref p0, .int (nI ((putD yD s (stV (plP yL) (yL 0 1) v (yD 1))) 0 0)), .ref sb, .ref sc, .ref sd])), (sb, .inl (g.2.1 0, 5, .inl (nF ((putD yD s (stV (plP yL) (yL 0 1) v (yD 1))) 1)))), (sc, .inl (g.2.1 0, 6, .inl (nF ((putD yD s (stV (plP yL) (yL 0 1) v (yD 1))) 2)))), (sd, .inl (g.2.1 0, 6, .inl (nF ((putD yD s (stV (plP yL) (yL 0 1) v (yD 1))) 3)))), (p0, .inr (0, [.int (nI (yL 0 0)), .int (nI (yL 0 1)), .int (nI (yL 0 2)), .ref p1, .ref p2, .ref p3, .ref p4, .ref p5, .ref p6])), (p1, .inl (g.2.1 0, 5, .inl (nF (yL 1)))), (p2, .inl (g.2.1 0, 5, .inl (nF (yL 2)))), (p3, .inl (g.2.1 0, 5, .inl (nF (yL 3)))), (p4, .inl (g.2.1 0, 5, .inl (nF (yL 4)))), (p5, .inl (g.2.1 0, 8, .inl (nF (yL 5)))), (p6, .inl (g.2.1 0, 8, .inl (nF (yL 6))))])) 0 0 24 [(3, .int (nI zi)), (2, .int (nI zp)), (0, .ref sa), (1, .int (nI c))] [] [(sa, .inr (3, [.ref p0, .int (nI s), .ref sb, .ref sc, .ref sd])), (sb, .inl (g.2.1 0, 5, .inl (nF (stV (plP yL) zi v (yD 1))))), (sc, .inl (g.2.1 0, 6, .inl (nF (yD 2)))), (sd, .inl (g.2.1 0, 6, .inl (nF (yD 3)))), (p0, .inr (0, [.int (nI (yL 0 0)), .int (nI (yL 0 1)), .int (nI (yL 0 2)), .ref p1, .ref p2, .ref p3, .ref p4, .ref p5, .ref p6])), (p1, .inl (g.2.1 0, 5, .inl (nF (yL 1)))), (p2, .inl (g.2.1 0, 5, .inl (nF (yL 2)))), (p3, .inl (g.2.1 0, 5, .inl (nF (yL 3)))), (p4, .inl (g.2.1 0, 5, .inl (nF (yL 4)))), (p5, .inl (g.2.1 0, 8, .inl (nF (yL 5)))), (p6, .inl (g.2.1 0, 8, .inl (nF (yL 6))))] := by
    intro zm24
    induction zm24 with
    | zero => intro zi zp zmh; exact absurd zmh (Nat.not_lt_zero _)
    | succ zm24 zih24 =>
      intro zi zp zmh24 hzi hzp hzl
      refine j_iload_n 25 dX3_standAs_24 rfl 0 rfl ?_
      refine j_aload_n 26 dX3_standAs_25 rfl 2 rfl ?_
      refine j_getf 29 0 dX3_standAs_26 rfl fd_X3_25 rfl rfl ?_
      refine j_getf 32 4 dX3_standAs_29 rfl fd_X3_47 rfl rfl ?_
      refine j_icmp_geN zi (yL 0 1) 35 70 dX3_standAs_32 rfl rfl (by omega) (by have z0 := h25; omega) (fun h32 => ?_) (fun h32 => ?_)
      ·
        refine j_vret dX3_standAs_70 rfl ⟨gLe rfl, gLe rfl, ?_⟩
        have ye : zi = yL 0 1 := by omega
        rw [ye]
        exact ⟨rfl, rfl⟩
      ·
        have hz5 : zi < 5 := by omega
        have hs2 : yL 1 (zi) ≤ 2 := by rw [← plP_s (L := yL) hz5]; exact (hP.2.2.2.2.1 (zi) (by show zi < yL 0 1; omega)).2.2.2
        refine j_aload_n 36 dX3_standAs_35 rfl 2 rfl ?_
        refine j_getf 39 0 dX3_standAs_36 rfl fd_X3_25 rfl rfl ?_
        refine j_getf 42 4 dX3_standAs_39 rfl fd_X3_78 rfl rfl ?_
        refine j_iload_n 43 dX3_standAs_42 rfl 0 rfl ?_
        refine j_ialdN zi 44 5 dX3_standAs_43 rfl rfl hz5 (by decide) ?_
        refine j_iconst (v := (1 : Int32)) 45 dX3_standAs_44 rfl (by decide) ?_
        refine j_icmp_eqN ((yL 1) zi) 1 48 51 dX3_standAs_45 rfl rfl (by have z0 := hs2; omega) (by decide) (fun h45 => ?_) (fun h45 => ?_)
        ·
          have hps := pkD_s (P := plP yL) (u := v) (z := zi) (by show zi < yL 0 1; omega) h25 (by rw [plP_s hz5]; exact h45)
          refine j_aload_n 52 dX3_standAs_51 rfl 2 rfl ?_
          refine j_getf 55 0 dX3_standAs_52 rfl fd_X3_15 rfl rfl ?_
          refine j_iload_n 56 dX3_standAs_55 rfl 0 rfl ?_
          refine j_iload_n 57 dX3_standAs_56 rfl 1 rfl ?_
          refine j_iconst (v := (3 : Int32)) 58 dX3_standAs_57 rfl (by decide) ?_
          refine j_iremN zp 3 59 dX3_standAs_58 rfl (by have z0 := hzl; omega) (by decide) (by decide) ?_
          refine j_iastN (zp % 3) zi 60 1 [(sa, .inr (3, [.ref p0, .int (nI s), .ref sb, .ref sc, .ref sd])), (sb, .inl (g.2.1 0, 5, .inl (nF (va_up (stV (plP yL) zi v (yD 1)) zi (zp % 3))))), (sc, .inl (g.2.1 0, 6, .inl (nF (yD 2)))), (sd, .inl (g.2.1 0, 6, .inl (nF (yD 3)))), (p0, .inr (0, [.int (nI (yL 0 0)), .int (nI (yL 0 1)), .int (nI (yL 0 2)), .ref p1, .ref p2, .ref p3, .ref p4, .ref p5, .ref p6])), (p1, .inl (g.2.1 0, 5, .inl (nF (yL 1)))), (p2, .inl (g.2.1 0, 5, .inl (nF (yL 2)))), (p3, .inl (g.2.1 0, 5, .inl (nF (yL 3)))), (p4, .inl (g.2.1 0, 5, .inl (nF (yL 4)))), (p5, .inl (g.2.1 0, 8, .inl (nF (yL 5)))), (p6, .inl (g.2.1 0, 8, .inl (nF (yL 6))))] dX3_standAs_59 rfl rfl hz5 (by decide) rfl ?_
          refine j_ws [(sa, .inr (3, [.ref p0, .int (nI s), .ref sb, .ref sc, .ref sd])), (sb, .inl (g.2.1 0, 5, .inl (nF (stV (plP yL) (zi + 1) v (yD 1))))), (sc, .inl (g.2.1 0, 6, .inl (nF (yD 2)))), (sd, .inl (g.2.1 0, 6, .inl (nF (yD 3)))), (p0, .inr (0, [.int (nI (yL 0 0)), .int (nI (yL 0 1)), .int (nI (yL 0 2)), .ref p1, .ref p2, .ref p3, .ref p4, .ref p5, .ref p6])), (p1, .inl (g.2.1 0, 5, .inl (nF (yL 1)))), (p2, .inl (g.2.1 0, 5, .inl (nF (yL 2)))), (p3, .inl (g.2.1 0, 5, .inl (nF (yL 3)))), (p4, .inl (g.2.1 0, 5, .inl (nF (yL 4)))), (p5, .inl (g.2.1 0, 8, .inl (nF (yL 5)))), (p6, .inl (g.2.1 0, 8, .inl (nF (yL 6))))] (by rw [stV_s (P := plP yL) (z := zi) (by rw [plP_s hz5]; exact h45) (by rw [hzp]; exact hps.1)]) ?_
          refine j_iload_n 61 dX3_standAs_60 rfl 1 rfl ?_
          refine j_iconst (v := (3 : Int32)) 62 dX3_standAs_61 rfl (by decide) ?_
          refine j_idivN zp 3 63 dX3_standAs_62 rfl (by have z0 := hzl; omega) (by decide) (by decide) ?_
          refine j_istore_n 64 [(2, .int (nI (zp / 3))), (3, .int (nI zi)), (0, .ref sa), (1, .int (nI c))] dX3_standAs_63 rfl (by decide) rfl ?_
          refine j_iincN zi 1 67 [(3, .int (nI (zi + 1))), (2, .int (nI (zp / 3))), (0, .ref sa), (1, .int (nI c))] dX3_standAs_64 rfl 1 rfl (by decide) rfl ?_
          refine j_goto 24 dX3_standAs_67 rfl ?_
          refine j_lv [0, 1, 2, 3] rfl ?_
          exact zih24 (zi + 1) (zp / 3) (by omega) (by omega) (by rw [hzp]; exact hps.2) (by omega)
        ·
          have hpn := pkD_n (P := plP yL) (u := v) hz5 (by rw [plP_s hz5]; exact h45)
          refine j_ws [(sa, .inr (3, [.ref p0, .int (nI s), .ref sb, .ref sc, .ref sd])), (sb, .inl (g.2.1 0, 5, .inl (nF (stV (plP yL) (zi + 1) v (yD 1))))), (sc, .inl (g.2.1 0, 6, .inl (nF (yD 2)))), (sd, .inl (g.2.1 0, 6, .inl (nF (yD 3)))), (p0, .inr (0, [.int (nI (yL 0 0)), .int (nI (yL 0 1)), .int (nI (yL 0 2)), .ref p1, .ref p2, .ref p3, .ref p4, .ref p5, .ref p6])), (p1, .inl (g.2.1 0, 5, .inl (nF (yL 1)))), (p2, .inl (g.2.1 0, 5, .inl (nF (yL 2)))), (p3, .inl (g.2.1 0, 5, .inl (nF (yL 3)))), (p4, .inl (g.2.1 0, 5, .inl (nF (yL 4)))), (p5, .inl (g.2.1 0, 8, .inl (nF (yL 5)))), (p6, .inl (g.2.1 0, 8, .inl (nF (yL 6))))] (by rw [stV_n (P := plP yL) (z := zi) (by rw [plP_s hz5]; exact h45)]) ?_
          refine j_goto 64 dX3_standAs_48 rfl ?_
          refine j_iincN zi 1 67 [(3, .int (nI (zi + 1))), (2, .int (nI zp)), (0, .ref sa), (1, .int (nI c))] dX3_standAs_64 rfl 0 rfl (by decide) rfl ?_
          refine j_goto 24 dX3_standAs_67 rfl ?_
          refine j_lv [0, 1, 2, 3] rfl ?_
          exact zih24 (zi + 1) zp (by omega) (by omega) (by rw [hzp]; exact hpn) (by omega)
  refine j_ws [(sa, .inr (3, [.ref p0, .int (nI s), .ref sb, .ref sc, .ref sd])), (sb, .inl (g.2.1 0, 5, .inl (nF (stV (plP yL) 0 v (yD 1))))), (sc, .inl (g.2.1 0, 6, .inl (nF (yD 2)))), (sd, .inl (g.2.1 0, 6, .inl (nF (yD 3)))), (p0, .inr (0, [.int (nI (yL 0 0)), .int (nI (yL 0 1)), .int (nI (yL 0 2)), .ref p1, .ref p2, .ref p3, .ref p4, .ref p5, .ref p6])), (p1, .inl (g.2.1 0, 5, .inl (nF (yL 1)))), (p2, .inl (g.2.1 0, 5, .inl (nF (yL 2)))), (p3, .inl (g.2.1 0, 5, .inl (nF (yL 3)))), (p4, .inl (g.2.1 0, 5, .inl (nF (yL 4)))), (p5, .inl (g.2.1 0, 8, .inl (nF (yL 5)))), (p6, .inl (g.2.1 0, 8, .inl (nF (yL 6))))] (by rw [stV_0]) ?_
  refine j_lv [0, 1, 2, 3] rfl ?_
  exact hL24 _ 0 (pkD (plP yL) v 5) (Nat.lt_succ_self _) (Nat.zero_le _) rfl (pkD_243 (plP yL) v 5 (Nat.le_refl _))
set_option maxRecDepth 20000 in
theorem c_X0_codes (g : gG) (p0 : Nat) (p1 : Nat) (p2 : Nat) (p3 : Nat) (p4 : Nat) (p5 : Nat) (p6 : Nat) (yL : Nat → Nat → Nat)   (hP : okP (plP yL)) : gCon g mX0_codes 0 0 0 [.ref p0] [(p0, .inr (0, [.int (nI (yL 0 0)), .int (nI (yL 0 1)), .int (nI (yL 0 2)), .ref p1, .ref p2, .ref p3, .ref p4, .ref p5, .ref p6])), (p1, .inl (g.2.1 0, 5, .inl (nF (yL 1)))), (p2, .inl (g.2.1 0, 5, .inl (nF (yL 2)))), (p3, .inl (g.2.1 0, 5, .inl (nF (yL 3)))), (p4, .inl (g.2.1 0, 5, .inl (nF (yL 4)))), (p5, .inl (g.2.1 0, 8, .inl (nF (yL 5)))), (p6, .inl (g.2.1 0, 8, .inl (nF (yL 6))))] (fun rv ws' => rv = some (.int (nI (cdN (plP yL) (yL 0 1)))) ∧ ws' = [(p0, .inr (0, [.int (nI (yL 0 0)), .int (nI (yL 0 1)), .int (nI (yL 0 2)), .ref p1, .ref p2, .ref p3, .ref p4, .ref p5, .ref p6])), (p1, .inl (g.2.1 0, 5, .inl (nF (yL 1)))), (p2, .inl (g.2.1 0, 5, .inl (nF (yL 2)))), (p3, .inl (g.2.1 0, 5, .inl (nF (yL 3)))), (p4, .inl (g.2.1 0, 5, .inl (nF (yL 4)))), (p5, .inl (g.2.1 0, 8, .inl (nF (yL 5)))), (p6, .inl (g.2.1 0, 8, .inl (nF (yL 6))))]) := by
  refine gCon.of (lv := [(0, .ref p0)]) (by decide) (gLe rfl) rfl ?_
  have h25 : yL 0 1 ≤ 5 := hP.2.2.1
  have h2p : 2 ^ yL 0 1 ≤ 2 ^ 5 := Nat.pow_le_pow_right (by decide) h25
  refine j_iconst (v := (1 : Int32)) 1 dX0_codes_0 rfl (by decide) ?_
  refine j_aload_n 2 dX0_codes_1 rfl 0 rfl ?_
  refine j_getf 5 0 dX0_codes_2 rfl fd_X0_15 rfl rfl ?_
  refine j_ishlN 1 (yL 0 1) 6 dX0_codes_5 rfl (by omega) (by omega) ?_
  refine j_topN (1 * 2 ^ (yL 0 1)) (cdN (plP yL) 0) (Nat.one_mul _) ?_
  refine j_istore_n 7 [(1, .int (nI (cdN (plP yL) 0))), (0, .ref p0)] dX0_codes_6 rfl (by decide) rfl ?_
  refine j_iconst (v := (0 : Int32)) 8 dX0_codes_7 rfl (by decide) ?_
  refine j_istore_n 9 [(2, .int (0 : Int32)), (1, .int (nI (cdN (plP yL) 0))), (0, .ref p0)] dX0_codes_8 rfl (by decide) rfl ?_
  have hL9 : ∀ (zm9 : Nat) (zi : Nat), yL 0 1 - zi < zm9 → (zi ≤ yL 0 1) → gJ g mX0_codes 0 0 0 (fun k' j' rv ws' => k' ≤ 0 ∧ j' ≤ 0 ∧ (rv = some (.int (nI (cdN (plP yL) (yL 0 1)))) ∧ ws' = [(p0, .inr (0, [.int (nI (yL 0 0)), .int (nI (yL 0 1)), .int (nI (yL 0 2)), .ref p1, .ref p2, .ref p3, .ref p4, .ref p5, .ref p6])), (p1, .inl (g.2.1 0, 5, .inl (nF (yL 1)))), (p2, .inl (g.2.1 0, 5, .inl (nF (yL 2)))), (p3, .inl (g.2.1 0, 5, .inl (nF (yL 3)))), (p4, .inl (g.2.1 0, 5, .inl (nF (yL 4)))), (p5, .inl (g.2.1 0, 8, .inl (nF (yL 5)))), (p6, .inl (g.2.1 0, 8, .inl (nF (yL 6))))])) 0 0 9 [(2, .int (nI zi)), (1, .int (nI (cdN (plP yL) zi))), (0, .ref p0)] [] [(p0, .inr (0, [.int (nI (yL 0 0)), .int (nI (yL 0 1)), .int (nI (yL 0 2)), .ref p1, .ref p2, .ref p3, .ref p4, .ref p5, .ref p6])), (p1, .inl (g.2.1 0, 5, .inl (nF (yL 1)))), (p2, .inl (g.2.1 0, 5, .inl (nF (yL 2)))), (p3, .inl (g.2.1 0, 5, .inl (nF (yL 3)))), (p4, .inl (g.2.1 0, 5, .inl (nF (yL 4)))), (p5, .inl (g.2.1 0, 8, .inl (nF (yL 5)))), (p6, .inl (g.2.1 0, 8, .inl (nF (yL 6))))] := by
    intro zm9
    induction zm9 with
    | zero => intro zi zmh; exact absurd zmh (Nat.not_lt_zero _)
    | succ zm9 zih9 =>
      intro zi zmh9 hzi
      refine j_iload_n 10 dX0_codes_9 rfl 0 rfl ?_
      refine j_aload_n 11 dX0_codes_10 rfl 2 rfl ?_
      refine j_getf 14 0 dX0_codes_11 rfl fd_X0_15 rfl rfl ?_
      refine j_icmp_geN zi (yL 0 1) 17 37 dX0_codes_14 rfl rfl (by omega) (by have z0 := h25; omega) (fun h14 => ?_) (fun h14 => ?_)
      ·
        refine j_iload_n 38 dX0_codes_37 rfl 1 rfl ?_
        refine j_iretI dX0_codes_38 rfl ⟨gLe rfl, gLe rfl, ?_⟩
        have ye : zi = yL 0 1 := by omega
        rw [ye]
        exact ⟨rfl, rfl⟩
      ·
        have hz5 : zi < 5 := by omega
        have hs2 : yL 1 (zi) ≤ 2 := by rw [← plP_s (L := yL) hz5]; exact (hP.2.2.2.2.1 (zi) (by show zi < yL 0 1; omega)).2.2.2
        refine j_aload_n 18 dX0_codes_17 rfl 2 rfl ?_
        refine j_getf 21 0 dX0_codes_18 rfl fd_X0_21 rfl rfl ?_
        refine j_iload_n 22 dX0_codes_21 rfl 0 rfl ?_
        refine j_ialdN zi 23 1 dX0_codes_22 rfl rfl hz5 (by decide) ?_
        refine j_iconst (v := (1 : Int32)) 24 dX0_codes_23 rfl (by decide) ?_
        refine j_icmp_neN ((yL 1) zi) 1 27 31 dX0_codes_24 rfl rfl (by have z0 := hs2; omega) (by decide) (fun h24 => ?_) (fun h24 => ?_)
        ·
          refine j_iincN zi 1 34 [(2, .int (nI (zi + 1))), (1, .int (nI (cdN (plP yL) zi))), (0, .ref p0)] dX0_codes_31 rfl 0 rfl (by decide) rfl ?_
          refine j_goto 9 dX0_codes_34 rfl ?_
          refine j_lv [0, 1, 2] rfl ?_
          refine j_lvs [(2, .int (nI (zi + 1))), (1, .int (nI (cdN (plP yL) (zi + 1)))), (0, .ref p0)] (by rw [show cdN (plP yL) (zi + 1) = cdN (plP yL) zi from if_neg (by rw [plP_s (L := yL) hz5]; exact h24)]; rfl) ?_
          exact zih9 (zi + 1) (by omega) (by omega)
        ·
          refine j_iload_n 28 dX0_codes_27 rfl 1 rfl ?_
          refine j_iconst (v := (3 : Int32)) 29 dX0_codes_28 rfl (by decide) ?_
          refine j_imulN (cdN (plP yL) zi) 3 30 dX0_codes_29 rfl ?_
          refine j_istore_n 31 [(1, .int (nI ((cdN (plP yL) zi) * 3))), (2, .int (nI zi)), (0, .ref p0)] dX0_codes_30 rfl (by decide) rfl ?_
          refine j_iincN zi 1 34 [(2, .int (nI (zi + 1))), (1, .int (nI ((cdN (plP yL) zi) * 3))), (0, .ref p0)] dX0_codes_31 rfl 1 rfl (by decide) rfl ?_
          refine j_goto 9 dX0_codes_34 rfl ?_
          refine j_lv [0, 1, 2] rfl ?_
          refine j_lvs [(2, .int (nI (zi + 1))), (1, .int (nI (cdN (plP yL) (zi + 1)))), (0, .ref p0)] (by rw [show cdN (plP yL) (zi + 1) = cdN (plP yL) zi * 3 from if_pos (by rw [plP_s (L := yL) hz5]; exact h24)]; rfl) ?_
          exact zih9 (zi + 1) (by omega) (by omega)
  refine j_lv [0, 1, 2] rfl ?_
  exact hL9 _ 0 (Nat.lt_succ_self _) (Nat.zero_le _)
set_option maxRecDepth 20000 in
theorem c_X0_firstOfKinds (g : gG) (p0 : Nat) (p1 : Nat) (p2 : Nat) (p3 : Nat) (p4 : Nat) (p5 : Nat) (p6 : Nat) (yL : Nat → Nat → Nat)   (h8 : yL 0 2 ≤ 8) (hkd : ∀ b, b < yL 0 2 → yL 5 b < 6) : gCon g mX0_firstOfKinds 1 0 0 [.ref p0] [(p0, .inr (0, [.int (nI (yL 0 0)), .int (nI (yL 0 1)), .int (nI (yL 0 2)), .ref p1, .ref p2, .ref p3, .ref p4, .ref p5, .ref p6])), (p1, .inl (g.2.1 0, 5, .inl (nF (yL 1)))), (p2, .inl (g.2.1 0, 5, .inl (nF (yL 2)))), (p3, .inl (g.2.1 0, 5, .inl (nF (yL 3)))), (p4, .inl (g.2.1 0, 5, .inl (nF (yL 4)))), (p5, .inl (g.2.1 0, 8, .inl (nF (yL 5)))), (p6, .inl (g.2.1 0, 8, .inl (nF (yL 6))))] (fun rv ws' => rv = some (.int (nI ((fkD (yL 5) (yL 0 2)).2))) ∧ ws' = [(p0, .inr (0, [.int (nI (yL 0 0)), .int (nI (yL 0 1)), .int (nI (yL 0 2)), .ref p1, .ref p2, .ref p3, .ref p4, .ref p5, .ref p6])), (p1, .inl (g.2.1 0, 5, .inl (nF (yL 1)))), (p2, .inl (g.2.1 0, 5, .inl (nF (yL 2)))), (p3, .inl (g.2.1 0, 5, .inl (nF (yL 3)))), (p4, .inl (g.2.1 0, 5, .inl (nF (yL 4)))), (p5, .inl (g.2.1 0, 8, .inl (nF (yL 5)))), (p6, .inl (g.2.1 0, 8, .inl (nF (yL 6))))]) := by
  refine gCon.of (lv := [(0, .ref p0)]) (by decide) (gLe rfl) rfl ?_
  refine j_iconst (v := (0 : Int32)) 1 dX0_firstOfKinds_0 rfl (by decide) ?_
  refine j_istore_n 2 [(1, .int (0 : Int32)), (0, .ref p0)] dX0_firstOfKinds_1 rfl (by decide) rfl ?_
  refine j_iconst (v := (0 : Int32)) 3 dX0_firstOfKinds_2 rfl (by decide) ?_
  refine j_istore_n 4 [(2, .int (0 : Int32)), (1, .int (0 : Int32)), (0, .ref p0)] dX0_firstOfKinds_3 rfl (by decide) rfl ?_
  refine j_iconst (v := (0 : Int32)) 5 dX0_firstOfKinds_4 rfl (by decide) ?_
  refine j_istore_n 6 [(3, .int (0 : Int32)), (2, .int (0 : Int32)), (1, .int (0 : Int32)), (0, .ref p0)] dX0_firstOfKinds_5 rfl (by decide) rfl ?_
  have hL6 : ∀ (zm6 : Nat) (zi : Nat), yL 0 2 - zi < zm6 → (zi ≤ yL 0 2) → gJ g mX0_firstOfKinds 1 0 0 (fun k' j' rv ws' => k' ≤ 0 ∧ j' ≤ 0 ∧ (rv = some (.int (nI ((fkD (yL 5) (yL 0 2)).2))) ∧ ws' = [(p0, .inr (0, [.int (nI (yL 0 0)), .int (nI (yL 0 1)), .int (nI (yL 0 2)), .ref p1, .ref p2, .ref p3, .ref p4, .ref p5, .ref p6])), (p1, .inl (g.2.1 0, 5, .inl (nF (yL 1)))), (p2, .inl (g.2.1 0, 5, .inl (nF (yL 2)))), (p3, .inl (g.2.1 0, 5, .inl (nF (yL 3)))), (p4, .inl (g.2.1 0, 5, .inl (nF (yL 4)))), (p5, .inl (g.2.1 0, 8, .inl (nF (yL 5)))), (p6, .inl (g.2.1 0, 8, .inl (nF (yL 6))))])) 0 0 6 [(3, .int (nI zi)), (2, .int (nI ((fkD (yL 5) zi).2))), (1, .int (nI ((fkD (yL 5) zi).1))), (0, .ref p0)] [] [(p0, .inr (0, [.int (nI (yL 0 0)), .int (nI (yL 0 1)), .int (nI (yL 0 2)), .ref p1, .ref p2, .ref p3, .ref p4, .ref p5, .ref p6])), (p1, .inl (g.2.1 0, 5, .inl (nF (yL 1)))), (p2, .inl (g.2.1 0, 5, .inl (nF (yL 2)))), (p3, .inl (g.2.1 0, 5, .inl (nF (yL 3)))), (p4, .inl (g.2.1 0, 5, .inl (nF (yL 4)))), (p5, .inl (g.2.1 0, 8, .inl (nF (yL 5)))), (p6, .inl (g.2.1 0, 8, .inl (nF (yL 6))))] := by
    intro zm6
    induction zm6 with
    | zero => intro zi zmh; exact absurd zmh (Nat.not_lt_zero _)
    | succ zm6 zih6 =>
      intro zi zmh6 hzi
      refine j_iload_n 7 dX0_firstOfKinds_6 rfl 0 rfl ?_
      refine j_aload_n 8 dX0_firstOfKinds_7 rfl 3 rfl ?_
      refine j_getf 11 0 dX0_firstOfKinds_8 rfl fd_X0_18 rfl rfl ?_
      refine j_icmp_geN zi (yL 0 2) 14 48 dX0_firstOfKinds_11 rfl rfl (by omega) (by have z0 := h8; omega) (fun h11 => ?_) (fun h11 => ?_)
      ·
        refine j_iload_n 49 dX0_firstOfKinds_48 rfl 1 rfl ?_
        refine j_iretI dX0_firstOfKinds_49 rfl ⟨gLe rfl, gLe rfl, ?_⟩
        have ye : zi = yL 0 2 := by omega
        rw [ye]
        exact ⟨rfl, rfl⟩
      ·
        refine j_iload_n 15 dX0_firstOfKinds_14 rfl 2 rfl ?_
        refine j_aload_n 16 dX0_firstOfKinds_15 rfl 3 rfl ?_
        refine j_iload_n 17 dX0_firstOfKinds_16 rfl 0 rfl ?_
        refine j_callV0 (rest := [.int (nI ((fkD (yL 5) zi).1))]) 20 [0, 1, 2, 3, 4, 5, 6] (c_X0_kindOf g p0 p1 p2 p3 p4 p5 p6 yL zi h8 (by omega)) [.int (nI (yL 5 zi)), .int (nI ((fkD (yL 5) zi).1))] [(p0, .inr (0, [.int (nI (yL 0 0)), .int (nI (yL 0 1)), .int (nI (yL 0 2)), .ref p1, .ref p2, .ref p3, .ref p4, .ref p5, .ref p6])), (p1, .inl (g.2.1 0, 5, .inl (nF (yL 1)))), (p2, .inl (g.2.1 0, 5, .inl (nF (yL 2)))), (p3, .inl (g.2.1 0, 5, .inl (nF (yL 3)))), (p4, .inl (g.2.1 0, 5, .inl (nF (yL 4)))), (p5, .inl (g.2.1 0, 8, .inl (nF (yL 5)))), (p6, .inl (g.2.1 0, 8, .inl (nF (yL 6))))] dX0_firstOfKinds_17 rfl cv_X0_40 rfl rfl rfl rfl 0 rfl rfl (gLe rfl) (gLe rfl) (gLe rfl) (gLe rfl) (gLe rfl) rfl rfl ?_
        have hk6 := hkd zi (by omega)
        have hfl := fkD_lt h8 hkd zi (by omega)
        refine j_ishrN ((fkD (yL 5) zi).1) (yL 5 zi) 21 dX0_firstOfKinds_20 rfl (by omega) (by omega) ?_
        refine j_iconst (v := (1 : Int32)) 22 dX0_firstOfKinds_21 rfl (by decide) ?_
        refine j_iandN (((fkD (yL 5) zi).1) / 2 ^ (yL 5 zi)) 1 23 dX0_firstOfKinds_22 rfl ?_
        refine j_topN ((((fkD (yL 5) zi).1) / 2 ^ (yL 5 zi)) &&& 1) ((fkD (yL 5) zi).1 / 2 ^ yL 5 zi % 2) (Nat.and_one_is_mod _) ?_
        refine j_if_neN ((fkD (yL 5) zi).1 / 2 ^ yL 5 zi % 2) 26 32 dX0_firstOfKinds_23 rfl rfl (by have z0 := (Nat.mod_lt ((fkD (yL 5) zi).1 / 2 ^ yL 5 zi) (by decide : 0 < 2)); omega) (fun h23 => ?_) (fun h23 => ?_)
        ·
          refine j_iload_n 33 dX0_firstOfKinds_32 rfl 2 rfl ?_
          refine j_iconst (v := (1 : Int32)) 34 dX0_firstOfKinds_33 rfl (by decide) ?_
          refine j_aload_n 35 dX0_firstOfKinds_34 rfl 3 rfl ?_
          refine j_iload_n 36 dX0_firstOfKinds_35 rfl 0 rfl ?_
          refine j_callV0 (rest := [.int (1 : Int32), .int (nI ((fkD (yL 5) zi).1))]) 39 [0, 1, 2, 3, 4, 5, 6] (c_X0_kindOf g p0 p1 p2 p3 p4 p5 p6 yL zi h8 (by omega)) [.int (nI (yL 5 zi)), .int (1 : Int32), .int (nI ((fkD (yL 5) zi).1))] [(p0, .inr (0, [.int (nI (yL 0 0)), .int (nI (yL 0 1)), .int (nI (yL 0 2)), .ref p1, .ref p2, .ref p3, .ref p4, .ref p5, .ref p6])), (p1, .inl (g.2.1 0, 5, .inl (nF (yL 1)))), (p2, .inl (g.2.1 0, 5, .inl (nF (yL 2)))), (p3, .inl (g.2.1 0, 5, .inl (nF (yL 3)))), (p4, .inl (g.2.1 0, 5, .inl (nF (yL 4)))), (p5, .inl (g.2.1 0, 8, .inl (nF (yL 5)))), (p6, .inl (g.2.1 0, 8, .inl (nF (yL 6))))] dX0_firstOfKinds_36 rfl cv_X0_40 rfl rfl rfl rfl 0 rfl rfl (gLe rfl) (gLe rfl) (gLe rfl) (gLe rfl) (gLe rfl) rfl rfl ?_
          refine j_ishlN 1 (yL 5 zi) 40 dX0_firstOfKinds_39 rfl (by omega) (by have := Nat.pow_lt_pow_right (a := 2) (by decide) hk6; omega) ?_
          refine j_topN (1 * 2 ^ (yL 5 zi)) (2 ^ yL 5 zi) (Nat.one_mul _) ?_
          refine j_iorN ((fkD (yL 5) zi).1) (2 ^ yL 5 zi) 41 dX0_firstOfKinds_40 rfl ?_
          refine j_istore_n 42 [(1, .int (nI (((fkD (yL 5) zi).1) ||| (2 ^ yL 5 zi)))), (3, .int (nI zi)), (2, .int (nI ((fkD (yL 5) zi).2))), (0, .ref p0)] dX0_firstOfKinds_41 rfl (by decide) rfl ?_
          refine j_iincN zi 1 45 [(3, .int (nI (zi + 1))), (1, .int (nI (((fkD (yL 5) zi).1) ||| (2 ^ yL 5 zi)))), (2, .int (nI ((fkD (yL 5) zi).2))), (0, .ref p0)] dX0_firstOfKinds_42 rfl 1 rfl (by decide) rfl ?_
          refine j_goto 6 dX0_firstOfKinds_45 rfl ?_
          refine j_lv [0, 2, 1, 3] rfl ?_
          refine j_lvs [(3, .int (nI (zi + 1))), (2, .int (nI ((fkD (yL 5) (zi + 1)).2))), (1, .int (nI ((fkD (yL 5) (zi + 1)).1))), (0, .ref p0)] (by rw [show (fkD (yL 5) (zi + 1)).2 = (fkD (yL 5) zi).2 from if_neg h23, show (fkD (yL 5) (zi + 1)).1 = (fkD (yL 5) zi).1 ||| 2 ^ yL 5 zi from rfl]; rfl) ?_
          exact zih6 (zi + 1) (by omega) (by omega)
        ·
          refine j_iload_n 27 dX0_firstOfKinds_26 rfl 1 rfl ?_
          refine j_iconst (v := (1 : Int32)) 28 dX0_firstOfKinds_27 rfl (by decide) ?_
          refine j_iload_n 29 dX0_firstOfKinds_28 rfl 0 rfl ?_
          refine j_ishlN 1 zi 30 dX0_firstOfKinds_29 rfl (by omega) (by have := Nat.pow_lt_pow_right (a := 2) (by decide) (show zi < 8 by omega); omega) ?_
          refine j_topN (1 * 2 ^ zi) (2 ^ zi) (Nat.one_mul _) ?_
          refine j_iorN ((fkD (yL 5) zi).2) (2 ^ zi) 31 dX0_firstOfKinds_30 rfl ?_
          refine j_istore_n 32 [(2, .int (nI (((fkD (yL 5) zi).2) ||| (2 ^ zi)))), (3, .int (nI zi)), (1, .int (nI ((fkD (yL 5) zi).1))), (0, .ref p0)] dX0_firstOfKinds_31 rfl (by decide) rfl ?_
          refine j_iload_n 33 dX0_firstOfKinds_32 rfl 2 rfl ?_
          refine j_iconst (v := (1 : Int32)) 34 dX0_firstOfKinds_33 rfl (by decide) ?_
          refine j_aload_n 35 dX0_firstOfKinds_34 rfl 3 rfl ?_
          refine j_iload_n 36 dX0_firstOfKinds_35 rfl 1 rfl ?_
          refine j_callV0 (rest := [.int (1 : Int32), .int (nI ((fkD (yL 5) zi).1))]) 39 [0, 1, 2, 3, 4, 5, 6] (c_X0_kindOf g p0 p1 p2 p3 p4 p5 p6 yL zi h8 (by omega)) [.int (nI (yL 5 zi)), .int (1 : Int32), .int (nI ((fkD (yL 5) zi).1))] [(p0, .inr (0, [.int (nI (yL 0 0)), .int (nI (yL 0 1)), .int (nI (yL 0 2)), .ref p1, .ref p2, .ref p3, .ref p4, .ref p5, .ref p6])), (p1, .inl (g.2.1 0, 5, .inl (nF (yL 1)))), (p2, .inl (g.2.1 0, 5, .inl (nF (yL 2)))), (p3, .inl (g.2.1 0, 5, .inl (nF (yL 3)))), (p4, .inl (g.2.1 0, 5, .inl (nF (yL 4)))), (p5, .inl (g.2.1 0, 8, .inl (nF (yL 5)))), (p6, .inl (g.2.1 0, 8, .inl (nF (yL 6))))] dX0_firstOfKinds_36 rfl cv_X0_40 rfl rfl rfl rfl 0 rfl rfl (gLe rfl) (gLe rfl) (gLe rfl) (gLe rfl) (gLe rfl) rfl rfl ?_
          refine j_ishlN 1 (yL 5 zi) 40 dX0_firstOfKinds_39 rfl (by omega) (by have := Nat.pow_lt_pow_right (a := 2) (by decide) hk6; omega) ?_
          refine j_topN (1 * 2 ^ (yL 5 zi)) (2 ^ yL 5 zi) (Nat.one_mul _) ?_
          refine j_iorN ((fkD (yL 5) zi).1) (2 ^ yL 5 zi) 41 dX0_firstOfKinds_40 rfl ?_
          refine j_istore_n 42 [(1, .int (nI (((fkD (yL 5) zi).1) ||| (2 ^ yL 5 zi)))), (2, .int (nI (((fkD (yL 5) zi).2) ||| (2 ^ zi)))), (3, .int (nI zi)), (0, .ref p0)] dX0_firstOfKinds_41 rfl (by decide) rfl ?_
          refine j_iincN zi 1 45 [(3, .int (nI (zi + 1))), (1, .int (nI (((fkD (yL 5) zi).1) ||| (2 ^ yL 5 zi)))), (2, .int (nI (((fkD (yL 5) zi).2) ||| (2 ^ zi)))), (0, .ref p0)] dX0_firstOfKinds_42 rfl 2 rfl (by decide) rfl ?_
          refine j_goto 6 dX0_firstOfKinds_45 rfl ?_
          refine j_lv [0, 2, 1, 3] rfl ?_
          refine j_lvs [(3, .int (nI (zi + 1))), (2, .int (nI ((fkD (yL 5) (zi + 1)).2))), (1, .int (nI ((fkD (yL 5) (zi + 1)).1))), (0, .ref p0)] (by rw [show (fkD (yL 5) (zi + 1)).2 = (fkD (yL 5) zi).2 ||| 2 ^ zi from if_pos h23, show (fkD (yL 5) (zi + 1)).1 = (fkD (yL 5) zi).1 ||| 2 ^ yL 5 zi from rfl]; rfl) ?_
          exact zih6 (zi + 1) (by omega) (by omega)
  refine j_lv [0, 1, 2, 3] rfl ?_
  exact hL6 _ 0 (Nat.lt_succ_self _) (Nat.zero_le _)
/-- how many of the first m hurdles turn at all -/
def tnN (P : Nat → Nat) : Nat → Nat
  | 0 => 0
  | h + 1 => tnN P h + (if P (4 + 4 * h + 3) = 2 then 0 else 1)
theorem tnN_le (P : Nat → Nat) : ∀ m, tnN P m ≤ m
  | 0 => Nat.le_refl 0
  | h + 1 => by
    have y := tnN_le P h
    show tnN P h + _ ≤ h + 1
    split <;> omega
theorem tnN_32 (P : Nat → Nat) {m : Nat} (h : m ≤ 5) : 2 ^ tnN P m ≤ 32 := Nat.pow_le_pow_right (n := 2) (by decide) (Nat.le_trans (tnN_le P m) h)
set_option maxRecDepth 20000 in
theorem c_X0_mostStandings (g : gG) (p0 : Nat) (p1 : Nat) (p2 : Nat) (p3 : Nat) (p4 : Nat) (p5 : Nat) (p6 : Nat) (yL : Nat → Nat → Nat)   (hP : okP (plP yL)) : gCon g mX0_mostStandings 0 0 0 [.ref p0] [(p0, .inr (0, [.int (nI (yL 0 0)), .int (nI (yL 0 1)), .int (nI (yL 0 2)), .ref p1, .ref p2, .ref p3, .ref p4, .ref p5, .ref p6])), (p1, .inl (g.2.1 0, 5, .inl (nF (yL 1)))), (p2, .inl (g.2.1 0, 5, .inl (nF (yL 2)))), (p3, .inl (g.2.1 0, 5, .inl (nF (yL 3)))), (p4, .inl (g.2.1 0, 5, .inl (nF (yL 4)))), (p5, .inl (g.2.1 0, 8, .inl (nF (yL 5)))), (p6, .inl (g.2.1 0, 8, .inl (nF (yL 6))))] (fun rv ws' => rv = some (.int (nI (2 ^ tnN (plP yL) (yL 0 1)))) ∧ ws' = [(p0, .inr (0, [.int (nI (yL 0 0)), .int (nI (yL 0 1)), .int (nI (yL 0 2)), .ref p1, .ref p2, .ref p3, .ref p4, .ref p5, .ref p6])), (p1, .inl (g.2.1 0, 5, .inl (nF (yL 1)))), (p2, .inl (g.2.1 0, 5, .inl (nF (yL 2)))), (p3, .inl (g.2.1 0, 5, .inl (nF (yL 3)))), (p4, .inl (g.2.1 0, 5, .inl (nF (yL 4)))), (p5, .inl (g.2.1 0, 8, .inl (nF (yL 5)))), (p6, .inl (g.2.1 0, 8, .inl (nF (yL 6))))]) := by
  refine gCon.of (lv := [(0, .ref p0)]) (by decide) (gLe rfl) rfl ?_
  have h25 : yL 0 1 ≤ 5 := hP.2.2.1
  refine j_iconst (v := (0 : Int32)) 1 dX0_mostStandings_0 rfl (by decide) ?_
  refine j_istore_n 2 [(1, .int (0 : Int32)), (0, .ref p0)] dX0_mostStandings_1 rfl (by decide) rfl ?_
  refine j_iconst (v := (0 : Int32)) 3 dX0_mostStandings_2 rfl (by decide) ?_
  refine j_istore_n 4 [(2, .int (0 : Int32)), (1, .int (0 : Int32)), (0, .ref p0)] dX0_mostStandings_3 rfl (by decide) rfl ?_
  have hL4 : ∀ (zm4 : Nat) (zi : Nat), yL 0 1 - zi < zm4 → (zi ≤ yL 0 1) → gJ g mX0_mostStandings 0 0 0 (fun k' j' rv ws' => k' ≤ 0 ∧ j' ≤ 0 ∧ (rv = some (.int (nI (2 ^ tnN (plP yL) (yL 0 1)))) ∧ ws' = [(p0, .inr (0, [.int (nI (yL 0 0)), .int (nI (yL 0 1)), .int (nI (yL 0 2)), .ref p1, .ref p2, .ref p3, .ref p4, .ref p5, .ref p6])), (p1, .inl (g.2.1 0, 5, .inl (nF (yL 1)))), (p2, .inl (g.2.1 0, 5, .inl (nF (yL 2)))), (p3, .inl (g.2.1 0, 5, .inl (nF (yL 3)))), (p4, .inl (g.2.1 0, 5, .inl (nF (yL 4)))), (p5, .inl (g.2.1 0, 8, .inl (nF (yL 5)))), (p6, .inl (g.2.1 0, 8, .inl (nF (yL 6))))])) 0 0 4 [(2, .int (nI zi)), (1, .int (nI (tnN (plP yL) zi))), (0, .ref p0)] [] [(p0, .inr (0, [.int (nI (yL 0 0)), .int (nI (yL 0 1)), .int (nI (yL 0 2)), .ref p1, .ref p2, .ref p3, .ref p4, .ref p5, .ref p6])), (p1, .inl (g.2.1 0, 5, .inl (nF (yL 1)))), (p2, .inl (g.2.1 0, 5, .inl (nF (yL 2)))), (p3, .inl (g.2.1 0, 5, .inl (nF (yL 3)))), (p4, .inl (g.2.1 0, 5, .inl (nF (yL 4)))), (p5, .inl (g.2.1 0, 8, .inl (nF (yL 5)))), (p6, .inl (g.2.1 0, 8, .inl (nF (yL 6))))] := by
    intro zm4
    induction zm4 with
    | zero => intro zi zmh; exact absurd zmh (Nat.not_lt_zero _)
    | succ zm4 zih4 =>
      intro zi zmh4 hzi
      refine j_iload_n 5 dX0_mostStandings_4 rfl 0 rfl ?_
      refine j_aload_n 6 dX0_mostStandings_5 rfl 2 rfl ?_
      refine j_getf 9 0 dX0_mostStandings_6 rfl fd_X0_15 rfl rfl ?_
      refine j_icmp_geN zi (yL 0 1) 12 31 dX0_mostStandings_9 rfl rfl (by omega) (by have z0 := h25; omega) (fun h9 => ?_) (fun h9 => ?_)
      ·
        have htz := tnN_le (plP yL) zi
        refine j_iconst (v := (1 : Int32)) 32 dX0_mostStandings_31 rfl (by decide) ?_
        refine j_iload_n 33 dX0_mostStandings_32 rfl 1 rfl ?_
        refine j_ishlN 1 (tnN (plP yL) zi) 34 dX0_mostStandings_33 rfl (by omega) (by have := Nat.pow_lt_pow_right (a := 2) (by decide) (show tnN (plP yL) zi < 6 by omega); omega) ?_
        refine j_topN (1 * 2 ^ (tnN (plP yL) zi)) (2 ^ tnN (plP yL) zi) (Nat.one_mul _) ?_
        refine j_iretI dX0_mostStandings_34 rfl ⟨gLe rfl, gLe rfl, ?_⟩
        have ye : zi = yL 0 1 := by omega
        rw [ye]
        exact ⟨rfl, rfl⟩
      ·
        have hz5 : zi < 5 := by omega
        have hs2 : yL 1 zi ≤ 2 := by rw [← plP_s (L := yL) hz5]; exact (hP.2.2.2.2.1 zi (by show zi < yL 0 1; omega)).2.2.2
        refine j_aload_n 13 dX0_mostStandings_12 rfl 2 rfl ?_
        refine j_getf 16 0 dX0_mostStandings_13 rfl fd_X0_21 rfl rfl ?_
        refine j_iload_n 17 dX0_mostStandings_16 rfl 0 rfl ?_
        refine j_ialdN zi 18 1 dX0_mostStandings_17 rfl rfl hz5 (by decide) ?_
        refine j_iconst (v := (2 : Int32)) 19 dX0_mostStandings_18 rfl (by decide) ?_
        refine j_icmp_eqN ((yL 1) zi) 2 22 25 dX0_mostStandings_19 rfl rfl (by have z0 := hs2; omega) (by decide) (fun h19 => ?_) (fun h19 => ?_)
        ·
          refine j_iincN zi 1 28 [(2, .int (nI (zi + 1))), (1, .int (nI (tnN (plP yL) zi))), (0, .ref p0)] dX0_mostStandings_25 rfl 0 rfl (by decide) rfl ?_
          refine j_goto 4 dX0_mostStandings_28 rfl ?_
          refine j_lv [0, 1, 2] rfl ?_
          refine j_lvs [(2, .int (nI (zi + 1))), (1, .int (nI (tnN (plP yL) (zi + 1)))), (0, .ref p0)] (by rw [show tnN (plP yL) (zi + 1) = tnN (plP yL) zi from congrArg (tnN (plP yL) zi + ·) (if_pos (by rw [plP_s (L := yL) hz5]; exact h19))]; rfl) ?_
          exact zih4 (zi + 1) (by omega) (by omega)
        ·
          refine j_iincN (tnN (plP yL) zi) 1 25 [(1, .int (nI (tnN (plP yL) zi + 1))), (2, .int (nI zi)), (0, .ref p0)] dX0_mostStandings_22 rfl 1 rfl (by decide) rfl ?_
          refine j_iincN zi 1 28 [(2, .int (nI (zi + 1))), (1, .int (nI (tnN (plP yL) zi + 1))), (0, .ref p0)] dX0_mostStandings_25 rfl 1 rfl (by decide) rfl ?_
          refine j_goto 4 dX0_mostStandings_28 rfl ?_
          refine j_lv [0, 1, 2] rfl ?_
          refine j_lvs [(2, .int (nI (zi + 1))), (1, .int (nI (tnN (plP yL) (zi + 1)))), (0, .ref p0)] (by rw [show tnN (plP yL) (zi + 1) = tnN (plP yL) zi + 1 from congrArg (tnN (plP yL) zi + ·) (if_neg (by rw [plP_s (L := yL) hz5]; exact h19))]; rfl) ?_
          exact zih4 (zi + 1) (by omega) (by omega)
  refine j_lv [0, 1, 2] rfl ?_
  exact hL4 _ 0 (Nat.lt_succ_self _) (Nat.zero_le _)
