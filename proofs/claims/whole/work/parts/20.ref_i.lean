/-- the foretold part of the row is free -/
def eqB (Z R : Nat → Nat) : Prop := ∀ k, k < 174 → Z k = R k
theorem eqB_P {Z R : Nat → Nat} (h : eqB Z R) : eqP Z R := fun k hk => h k (by omega)
theorem eqB_put {Z R : Nat → Nat} {s : Nat} {u : Nat → Nat} (h : eqB Z R) : eqB (putM Z 174 s u) R := fun k hk => by rw [putM_lo (by omega)]; exact h k hk
theorem eqB_up {Z R : Nat → Nat} {k v : Nat} (h : eqB Z R) (hk : 174 ≤ k) : eqB (va_up Z k v) R := fun j hj => by rw [va_up_n (by omega)]; exact h j hj
theorem eqB_cpy {R : Nat → Nat} {fr n : Nat} : eqB (va_cpy R R fr 174 n) R := fun k hk => cpy_out (Or.inl hk)
theorem eqB_trans {X Y Z : Nat → Nat} (h : eqB X Y) (h2 : eqB Y Z) : eqB X Z := fun k hk => (h k hk).trans (h2 k hk)
def gOA (R : Nat → Nat) (sk b s : Nat) (u : Nat → Nat) : Nat × Nat × (Nat → Nat) := goA R sk (R (24 + 2 * b)) 5 (R 2 - 1) s u
theorem gOA_eq {Z R : Nat → Nat} (hP : okP R) (h : eqB Z R) {sk b s : Nat} {u : Nat → Nat} (hb : b < R 3) : goA Z sk (Z (24 + 2 * b)) 5 (Z 2 - 1) s u = gOA R sk b s u := by
  have h8 := hP.2.2.2.1
  have h2 := hP.2.1
  have hz := okP_eq (eqB_P h) hP
  have e2 := h 2 (by decide)
  rw [h (24 + 2 * b) (by omega), e2]
  exact goA_eq hz (eqB_P h) 5 (R 2 - 1) s u (by rw [e2]; omega)
theorem gOA_ok {R : Nat → Nat} (hP : okP R) {sk b s : Nat} {u : Nat → Nat} (hs : s < 2 ^ R 2) (hu : Z5 u) : (gOA R sk b s u).1 < R 1 ∧ (gOA R sk b s u).2.1 < 2 ^ R 2 ∧ Z5 (gOA R sk b s u).2.2 ∧ ∀ k, (gOA R sk b s u).2.2 k ≤ u k + 1 := by
  have h2 := hP.2.1
  have h5 := hP.2.2.1
  have hs32 : s < 32 := Nat.lt_of_lt_of_le hs (Nat.pow_le_pow_right (n := 2) (by decide) h5)
  exact ⟨(goA_ok hP 5 _ _ _ (by omega) (by omega) hs32).1, goA_st hP 5 _ _ _ (by omega) hs, Z5_goA hP 5 _ _ _ (by omega) hu, fun k => (goA_pu hP 5 _ _ _ (by omega) k).1⟩
theorem p32 {R : Nat → Nat} (hP : okP R) {s : Nat} (hs : s < 2 ^ R 2) : s < 32 := Nat.lt_of_lt_of_le hs (Nat.pow_le_pow_right (n := 2) (by decide) hP.2.2.1)
/-- pairs: a beast, the pen into which it is to come; one behind the other -/
def cmA (R : Nat → Nat) (sk : Nat) (it : Nat → Int32) (base : Nat) : Nat → Nat → Nat → (Nat → Nat) → Bool
  | 0, _, _, _ => true
  | n + 1, k, s, u => if nI (gOA R sk (cl (it (base + 2 * k))) s u).1 = it (base + 2 * k + 1) then cmA R sk it base n (k + 1) (gOA R sk (cl (it (base + 2 * k))) s u).2.1 (gOA R sk (cl (it (base + 2 * k))) s u).2.2 else false
theorem madd1 (x : Int32) : x + Int32.ofInt (-1) = x - 1 := (Int32.sub_eq_add_neg x 1).symm
theorem pred_neg {k : Nat} (hk : k ≤ 1000) : nI k - 1 < 0 ↔ k = 0 := by
  rw [i32_neg, nI_pred_toInt (by omega)]
  omega
def tkU (n : Nat) : Nat → Nat := fun h => if h < 5 then n / 32 / 3 ^ h % 3 else 0
theorem Z5_tk (n : Nat) : Z5 (tkU n) := fun k hk => if_neg (by omega)
def dgA (P u : Nat → Nat) (h : Nat) : Nat := if h < P 2 ∧ P (4 + 4 * h + 3) = 1 then u h % 3 else 0
def numD (P u : Nat → Nat) : Nat → Nat
  | 0 => 0
  | k + 1 => 3 * numD P u k + dgA P u (4 - k)
def numA (P : Nat → Nat) (s : Nat) (u : Nat → Nat) : Nat := 32 * numD P u 5 + s
theorem dgA_lt {P u : Nat → Nat} {h : Nat} : dgA P u h < 3 := by
  unfold dgA
  split
  · exact Nat.mod_lt _ (by decide)
  · decide
theorem numD_lt (P u : Nat → Nat) : ∀ k, numD P u k < 3 ^ k
  | 0 => Nat.zero_lt_one
  | k + 1 => by
    have h1 := numD_lt P u k
    have h2 : dgA P u (4 - k) < 3 := dgA_lt
    show 3 * numD P u k + dgA P u (4 - k) < 3 ^ k * 3
    omega
theorem numA_lt {P u : Nat → Nat} {s : Nat} (hs : s < 32) : numA P s u < 7776 := by
  have h : numD P u 5 < 243 := numD_lt P u 5
  unfold numA
  omega
theorem tk_row {R : Nat → Nat} {n : Nat} : va_up (va_up (va_up (va_up (va_up (va_up R 214 (n % 32)) 215 (n / 32 % 3)) 216 (n / 32 / 3 % 3)) 217 (n / 32 / 3 / 3 % 3)) 218 (n / 32 / 3 / 3 / 3 % 3)) 219 (n / 32 / 3 / 3 / 3 / 3 % 3) = putM R 174 (n % 32) (tkU n) := by
  funext k
  simp only [putM, va_up, tkU]
  by_cases h0 : k = 214
  · subst h0; simp
  by_cases h1 : k = 215
  · subst h1; simp
  by_cases h2 : k = 216
  · subst h2; simp
  by_cases h3 : k = 217
  · subst h3; simp [Nat.div_div_eq_div_mul]
  by_cases h4 : k = 218
  · subst h4; simp [Nat.div_div_eq_div_mul]
  by_cases h5 : k = 219
  · subst h5; simp [Nat.div_div_eq_div_mul]
  rw [if_neg h5, if_neg h4, if_neg h3, if_neg h2, if_neg h1, if_neg h0, if_neg (by omega), if_neg (by omega)]
/-- the number behind a run -/
def nxN (R : Nat → Nat) (n b : Nat) : Nat := numA R (gOA R 99 b (n % 32) (tkU n)).2.1 (gOA R 99 b (n % 32) (tkU n)).2.2
theorem numD_eq {P R u : Nat → Nat} (e : eqP P R) : ∀ k, k ≤ 5 → numD P u k = numD R u k
  | 0, _ => rfl
  | k + 1, hk => by
    show 3 * numD P u k + dgA P u (4 - k) = 3 * numD R u k + dgA R u (4 - k)
    rw [numD_eq e k (by omega), dgA, dgA, e 2 (by decide), e (4 + 4 * (4 - k) + 3) (by omega)]
theorem numA_eq {P R u : Nat → Nat} {s : Nat} (e : eqP P R) : numA P s u = numA R s u := by rw [numA, numA, numD_eq e 5 (by decide)]
set_option maxRecDepth 20000 in
theorem c_X6_comeSo (g : gG) (q : Nat → Nat) (Na : Nat → Nat → Nat) (Ia : Nat → Nat → Int32) (Ns : Nat → Nat) (Is : Nat → Int32) (base : Nat) (n : Nat) (sk : Nat) (hs : Is 12 = skI sk) (hP : okP (Na 0)) (hS : Na 0 214 < 2 ^ Na 0 2) (hU : ∀ k, uM (Na 0) 174 k ≤ 100000) (hn : base + 2 * n ≤ 320) (hA : areP (Ia 9) base n (Na 0 3) (Na 0 1)) : gCon g mX6_comeSo 4 0 0 [.ref (q 26), .int (nI base), .int (nI n)] (wM g q Na Ia Ns Is) (fun rv ws' => ∃ (Z1 : Nat → Nat), (eqB Z1 (Na 0)) ∧ rv = some (.int (gB (cmA (Na 0) sk (Ia 9) base n 0 ((Na 0) 214) (uM (Na 0) 174) = true))) ∧ ws' = (wM g q (va_up Na 0 Z1) Ia Ns Is)) := by
  refine gCon.of (lv := [(0, .ref (q 26)), (1, .int (nI base)), (2, .int (nI n))]) (by decide) (gLe rfl) rfl ?_
  have hp8 := hP.2.2.2.1
  have hp6 := hP.1
  refine j_iconst (v := (1 : Int32)) 1 dX6_comeSo_0 rfl (by decide) ?_
  refine j_istore_n 2 [(3, .int (1 : Int32)), (0, .ref (q 26)), (1, .int (nI base)), (2, .int (nI n))] dX6_comeSo_1 rfl (by decide) rfl ?_
  refine j_iconst (v := (0 : Int32)) 3 dX6_comeSo_2 rfl (by decide) ?_
  refine j_istore 5 [(4, .int (0 : Int32)), (3, .int (1 : Int32)), (0, .ref (q 26)), (1, .int (nI base)), (2, .int (nI n))] dX6_comeSo_3 rfl (by decide) rfl ?_
  have hL5 : ∀ (zm5 : Nat) (zi : Nat) (zb : Nat) (ZR : Nat → Nat), n - zi < zm5 → (zi ≤ n) → ((zb = 1 ∧ cmA (Na 0) sk (Ia 9) base (n - zi) zi (ZR 214) (uM ZR 174) = cmA (Na 0) sk (Ia 9) base n 0 (Na 0 214) (uM (Na 0) 174)) ∨ (zb = 0 ∧ cmA (Na 0) sk (Ia 9) base n 0 (Na 0 214) (uM (Na 0) 174) = false)) → (eqB ZR (Na 0)) → (ZR 214 < 2 ^ Na 0 2) → (∀ k, uM ZR 174 k ≤ 100000 + zi) → gJ g mX6_comeSo 4 0 0 (fun k' j' rv ws' => k' ≤ 0 ∧ j' ≤ 0 ∧ (∃ (Z1 : Nat → Nat), (eqB Z1 (Na 0)) ∧ rv = some (.int (gB (cmA (Na 0) sk (Ia 9) base n 0 ((Na 0) 214) (uM (Na 0) 174) = true))) ∧ ws' = (wM g q (va_up Na 0 Z1) Ia Ns Is))) 0 0 5 [(4, .int (nI zi)), (3, .int (nI zb)), (0, .ref (q 26)), (1, .int (nI base)), (2, .int (nI n))] [] (wM g q (va_up Na 0 ZR) Ia Ns Is) := by
    intro zm5
    induction zm5 with
    | zero => intro zi zb ZR zmh; exact absurd zmh (Nat.not_lt_zero _)
    | succ zm5 zih5 =>
      intro zi zb ZR zmh5 hz hzb hzE hzS hzU
      refine j_iload_n 6 dX6_comeSo_5 rfl 1 rfl ?_
      have hzb1 : zb ≤ 1 := by omega
      refine j_if_eqN zb 9 61 dX6_comeSo_6 rfl rfl (by have z0 := hzb1; omega) (fun h6 => ?_) (fun h6 => ?_)
      ·
        refine j_iload_n 62 dX6_comeSo_61 rfl 1 rfl ?_
        have hze : cmA (Na 0) sk (Ia 9) base n 0 (Na 0 214) (uM (Na 0) 174) = true ↔ zb = 1 := by
          rcases hzb with z | z
          · rw [← z.2]
            have ye : n - zi = 0 := by omega
            rw [ye]; simp [cmA, z.1]
          · rw [z.2]; simp [z.1]
        have hzv : nI zb = gB (cmA (Na 0) sk (Ia 9) base n 0 (Na 0 214) (uM (Na 0) 174) = true) := by
          rcases hzb with z | z
          · rw [gB_t (hze.mpr z.1), z.1]; rfl
          · rw [gB_f (fun y => absurd (hze.mp y) (by omega)), z.1]; rfl
        refine j_topI _ _ hzv ?_
        exact j_iretB dX6_comeSo_62 rfl ⟨gLe rfl, gLe rfl, ZR, hzE, rfl, rfl⟩
      ·
        refine j_iload 11 dX6_comeSo_9 rfl 0 rfl ?_
        refine j_iload_n 12 dX6_comeSo_11 rfl 4 rfl ?_
        refine j_icmp_geN zi n 15 61 dX6_comeSo_12 rfl rfl (by omega) (by omega) (fun h12 => ?_) (fun h12 => ?_)
        ·
          refine j_iload_n 62 dX6_comeSo_61 rfl 1 rfl ?_
          have hze : cmA (Na 0) sk (Ia 9) base n 0 (Na 0 214) (uM (Na 0) 174) = true ↔ zb = 1 := by
            rcases hzb with z | z
            · rw [← z.2]
              have ye : n - zi = 0 := by omega
              rw [ye]; simp [cmA, z.1]
            · rw [z.2]; simp [z.1]
          have hzv : nI zb = gB (cmA (Na 0) sk (Ia 9) base n 0 (Na 0 214) (uM (Na 0) 174) = true) := by
            rcases hzb with z | z
            · rw [gB_t (hze.mpr z.1), z.1]; rfl
            · rw [gB_f (fun y => absurd (hze.mp y) (by omega)), z.1]; rfl
          refine j_topI _ _ hzv ?_
          exact j_iretB dX6_comeSo_62 rfl ⟨gLe rfl, gLe rfl, ZR, hzE, rfl, rfl⟩
        ·
          have hcm : cmA (Na 0) sk (Ia 9) base (n - zi) zi (ZR 214) (uM ZR 174) = cmA (Na 0) sk (Ia 9) base n 0 (Na 0 214) (uM (Na 0) 174) := by
            rcases hzb with z | z
            · exact z.2
            · exact absurd z.1 h6
          have hbt : Ia 9 (base + 2 * zi) = nI (cl (Ia 9 (base + 2 * zi))) ∧ cl (Ia 9 (base + 2 * zi)) < Na 0 3 := inR_cl (hA zi (by omega)).1 (by omega)
          have hgk := gOA_ok hP (sk := sk) (b := cl (Ia 9 (base + 2 * zi))) hzS (Z5_uM ZR 174)
          have hgz := gOA_eq hP hzE (sk := sk) (s := ZR 214) (u := uM ZR 174) hbt.2
          refine j_aload_n 16 dX6_comeSo_15 rfl 2 rfl ?_
          refine j_sipush (v := (174 : Int32)) 19 dX6_comeSo_16 rfl (by decide) ?_
          refine j_aload_n 20 dX6_comeSo_19 rfl 2 rfl ?_
          refine j_getf 23 0 dX6_comeSo_20 rfl fd_X6_26 rfl rfl ?_
          refine j_iload_n 24 dX6_comeSo_23 rfl 3 rfl ?_
          refine j_iconst (v := (2 : Int32)) 25 dX6_comeSo_24 rfl (by decide) ?_
          refine j_iload 27 dX6_comeSo_25 rfl 0 rfl ?_
          refine j_imulN 2 zi 28 dX6_comeSo_27 rfl ?_
          refine j_iaddN base (2 * zi) 29 dX6_comeSo_28 rfl ?_
          refine j_ialdR (base + (2 * zi)) 30 6 dX6_comeSo_29 rfl rfl (by omega) (by decide) ?_
          refine j_topI ((Ia 9) (base + (2 * zi))) (nI (cl (Ia 9 (base + 2 * zi)))) hbt.1 ?_
          refine j_callVW (rest := []) 33 (c_X6_go g q (va_up Na 0 ZR) Ia Ns Is 174 (cl (Ia 9 (base + 2 * zi))) sk hs (okP_eq (eqB_P hzE) hP) (Or.inr rfl) (p32 hP hzS) (fun k => by have := hzU k; show uM ZR 174 k ≤ _; omega) (by show cl (Ia 9 (base + 2 * zi)) < ZR 3; rw [hzE 3 (by decide)]; exact hbt.2)) [.int (nI ((goA ZR sk (ZR (24 + 2 * (cl (Ia 9 (base + 2 * zi))))) 5 (ZR 2 - 1) (ZR (174 + 40)) (uM ZR 174)).1))] dX6_comeSo_30 rfl cv_X6_187 rfl rfl 0 rfl rfl (gLe rfl) (gLe rfl) (gLe rfl) (gLe rfl) (wM_len _ _ _ _ _ _ _ _ _ _) rfl ?_
          refine j_topN ((goA ZR sk (ZR (24 + 2 * (cl (Ia 9 (base + 2 * zi))))) 5 (ZR 2 - 1) (ZR (174 + 40)) (uM ZR 174)).1) ((gOA (Na 0) sk (cl (Ia 9 (base + 2 * zi))) (ZR 214) (uM ZR 174)).1) (congrArg Prod.fst hgz) ?_
          refine j_ws (wM g q (va_up Na 0 (putM ZR 174 (gOA (Na 0) sk (cl (Ia 9 (base + 2 * zi))) (ZR 214) (uM ZR 174)).2.1 (gOA (Na 0) sk (cl (Ia 9 (base + 2 * zi))) (ZR 214) (uM ZR 174)).2.2)) Ia Ns Is) (congrArg (fun z : Nat × Nat × (Nat → Nat) => wM g q (va_up Na 0 (putM ZR 174 z.2.1 z.2.2)) Ia Ns Is) hgz) ?_
          refine j_aload_n 34 dX6_comeSo_33 rfl 2 rfl ?_
          refine j_getf 37 0 dX6_comeSo_34 rfl fd_X6_26 rfl rfl ?_
          refine j_iload_n 38 dX6_comeSo_37 rfl 3 rfl ?_
          refine j_iconst (v := (2 : Int32)) 39 dX6_comeSo_38 rfl (by decide) ?_
          refine j_iload 41 dX6_comeSo_39 rfl 0 rfl ?_
          refine j_imulN 2 zi 42 dX6_comeSo_41 rfl ?_
          refine j_iaddN base (2 * zi) 43 dX6_comeSo_42 rfl ?_
          refine j_iconst (v := (1 : Int32)) 44 dX6_comeSo_43 rfl (by decide) ?_
          refine j_iaddN (base + (2 * zi)) 1 45 dX6_comeSo_44 rfl ?_
          refine j_ialdR ((base + (2 * zi)) + 1) 46 6 dX6_comeSo_45 rfl rfl (by omega) (by decide) ?_
          refine j_icmp_ne 49 53 dX6_comeSo_46 rfl rfl (fun h46 => ?_) (fun h46 => ?_)
          ·
            refine j_iconst (v := (0 : Int32)) 54 dX6_comeSo_53 rfl (by decide) ?_
            refine j_istore_n 55 [(3, .int (0 : Int32)), (4, .int (nI zi)), (0, .ref (q 26)), (1, .int (nI base)), (2, .int (nI n))] dX6_comeSo_54 rfl (by decide) rfl ?_
            refine j_iincN zi 1 58 [(4, .int (nI (zi + 1))), (3, .int (0 : Int32)), (0, .ref (q 26)), (1, .int (nI base)), (2, .int (nI n))] dX6_comeSo_55 rfl 1 rfl (by decide) rfl ?_
            refine j_goto 5 dX6_comeSo_58 rfl ?_
            refine j_lv [0, 1, 2, 3, 4] rfl ?_
            exact zih5 (zi + 1) 0 (putM ZR 174 (gOA (Na 0) sk (cl (Ia 9 (base + 2 * zi))) (ZR 214) (uM ZR 174)).2.1 (gOA (Na 0) sk (cl (Ia 9 (base + 2 * zi))) (ZR 214) (uM ZR 174)).2.2) (by omega) (by omega) (Or.inr ⟨rfl, by rw [← hcm, show n - zi = n - (zi + 1) + 1 by omega, cmA, if_neg h46]⟩) (eqB_put hzE) (by rw [putM_at]; exact hgk.2.1) (fun k => by rw [uM_put hgk.2.2.1]; have z1 := hgk.2.2.2 k; have z2 := hzU k; omega)
          ·
            refine j_iconst (v := (1 : Int32)) 50 dX6_comeSo_49 rfl (by decide) ?_
            refine j_goto 54 dX6_comeSo_50 rfl ?_
            refine j_istore_n 55 [(3, .int (1 : Int32)), (4, .int (nI zi)), (0, .ref (q 26)), (1, .int (nI base)), (2, .int (nI n))] dX6_comeSo_54 rfl (by decide) rfl ?_
            refine j_iincN zi 1 58 [(4, .int (nI (zi + 1))), (3, .int (1 : Int32)), (0, .ref (q 26)), (1, .int (nI base)), (2, .int (nI n))] dX6_comeSo_55 rfl 1 rfl (by decide) rfl ?_
            refine j_goto 5 dX6_comeSo_58 rfl ?_
            refine j_lv [0, 1, 2, 3, 4] rfl ?_
            exact zih5 (zi + 1) 1 (putM ZR 174 (gOA (Na 0) sk (cl (Ia 9 (base + 2 * zi))) (ZR 214) (uM ZR 174)).2.1 (gOA (Na 0) sk (cl (Ia 9 (base + 2 * zi))) (ZR 214) (uM ZR 174)).2.2) (by omega) (by omega) (Or.inl ⟨rfl, by rw [putM_at, uM_put hgk.2.2.1, ← hcm, show n - zi = n - (zi + 1) + 1 by omega, cmA, if_pos h46]⟩) (eqB_put hzE) (by rw [putM_at]; exact hgk.2.1) (fun k => by rw [uM_put hgk.2.2.1]; have z1 := hgk.2.2.2 k; have z2 := hzU k; omega)
  refine j_lv [0, 1, 2, 3, 4] rfl ?_
  exact hL5 _ 0 1 (Na 0) (Nat.lt_succ_self _) (by omega) (Or.inl ⟨rfl, rfl⟩) (fun k _ => rfl) hS hU
