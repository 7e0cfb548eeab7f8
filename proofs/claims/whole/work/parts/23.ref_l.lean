/-- beasts one behind the other: how all stand behind k of them; the pen of each -/
def sqA (R : Nat → Nat) (it : Nat → Int32) (base s0 : Nat) (u0 : Nat → Nat) : Nat → Nat × (Nat → Nat)
  | 0 => (s0, u0)
  | k + 1 => (gOA R 99 (cl (it (base + k))) (sqA R it base s0 u0 k).1 (sqA R it base s0 u0 k).2).2
def pnA (R : Nat → Nat) (it : Nat → Int32) (base s0 : Nat) (u0 : Nat → Nat) (k : Nat) : Nat := (gOA R 99 (cl (it (base + k))) (sqA R it base s0 u0 k).1 (sqA R it base s0 u0 k).2).1
theorem sqA_ok {R : Nat → Nat} (hP : okP R) {it : Nat → Int32} {base s0 : Nat} {u0 : Nat → Nat} (hs : s0 < 2 ^ R 2) (hu : Z5 u0) {B : Nat} (hB : ∀ k, u0 k ≤ B) : ∀ k, (sqA R it base s0 u0 k).1 < 2 ^ R 2 ∧ Z5 (sqA R it base s0 u0 k).2 ∧ ∀ j, (sqA R it base s0 u0 k).2 j ≤ B + k
  | 0 => ⟨hs, hu, hB⟩
  | k + 1 => by
    have h := sqA_ok hP (it := it) (base := base) hs hu hB k
    have g1 := gOA_ok hP (sk := 99) (b := cl (it (base + k))) h.1 h.2.1
    exact ⟨g1.2.1, g1.2.2.1, fun j => by have a := g1.2.2.2 j; have b := h.2.2 j; show (gOA R 99 _ _ _).2.2 j ≤ _; omega⟩
theorem pnA_lt {R : Nat → Nat} (hP : okP R) {it : Nat → Int32} {base s0 : Nat} {u0 : Nat → Nat} (hs : s0 < 2 ^ R 2) (hu : Z5 u0) {B : Nat} (hB : ∀ k, u0 k ≤ B) (k : Nat) : pnA R it base s0 u0 k < R 1 := by
  have h := sqA_ok hP (it := it) (base := base) hs hu hB k
  exact (gOA_ok hP (sk := 99) (b := cl (it (base + k))) h.1 h.2.1).1
theorem cmA_eq {Z R : Nat → Nat} (hP : okP R) (h : eqB Z R) {sk : Nat} {it : Nat → Int32} {base : Nat} : ∀ (n k s : Nat) (u : Nat → Nat), (∀ j, k ≤ j → j < k + n → cl (it (base + 2 * j)) < R 3) → cmA Z sk it base n k s u = cmA R sk it base n k s u := by
  intro n
  induction n with
  | zero => intros; rfl
  | succ n ih =>
    intro k s u hb
    have e : gOA Z sk (cl (it (base + 2 * k))) s u = gOA R sk (cl (it (base + 2 * k))) s u := gOA_eq hP h (hb k (Nat.le_refl k) (by omega))
    rw [cmA, cmA, e]
    split
    · exact ih (k + 1) _ _ (fun j h1 h2 => hb j (by omega) (by omega))
    · rfl
theorem areP_cl {it : Nat → Int32} {base n B Q : Nat} (h : areP it base n B Q) (hB : B < 2147483648) : ∀ j, 0 ≤ j → j < 0 + n → cl (it (base + 2 * j)) < B := fun j _ h2 => (inR_cl (h j (by omega)).1 hB).2
theorem sqA_eq {Z R : Nat → Nat} (hP : okP R) (h : eqB Z R) {it : Nat → Int32} {base s0 : Nat} {u0 : Nat → Nat} : ∀ k, (∀ j, j < k → cl (it (base + j)) < R 3) → sqA Z it base s0 u0 k = sqA R it base s0 u0 k
  | 0, _ => rfl
  | k + 1, hb => by
    show (gOA Z 99 _ (sqA Z it base s0 u0 k).1 (sqA Z it base s0 u0 k).2).2 = (gOA R 99 _ (sqA R it base s0 u0 k).1 (sqA R it base s0 u0 k).2).2
    rw [sqA_eq hP h k (fun j hj => hb j (by omega))]
    exact congrArg Prod.snd (gOA_eq hP h (hb k (by omega)))
theorem pnA_eq {Z R : Nat → Nat} (hP : okP R) (h : eqB Z R) {it : Nat → Int32} {base s0 : Nat} {u0 : Nat → Nat} {k : Nat} (hb : ∀ j, j < k + 1 → cl (it (base + j)) < R 3) : pnA Z it base s0 u0 k = pnA R it base s0 u0 k := by
  show (gOA Z 99 _ (sqA Z it base s0 u0 k).1 (sqA Z it base s0 u0 k).2).1 = (gOA R 99 _ (sqA R it base s0 u0 k).1 (sqA R it base s0 u0 k).2).1
  rw [sqA_eq hP h k (fun j hj => hb j (by omega))]
  exact congrArg Prod.fst (gOA_eq hP h (hb k (by omega)))
theorem areB_cl {it : Nat → Int32} {base n B : Nat} (h : areB it base n B) (hB : B < 2147483648) : ∀ j, j < n → cl (it (base + j)) < B := fun j h2 => (inR_cl (h j h2) hB).2
theorem cpZ_214 {Z R : Nat → Nat} (h : eqB Z R) : va_cpy Z Z 0 174 58 214 = R 40 := by rw [cpy_in (by omega) (by omega)]; exact h 40 (by decide)
theorem cpZ_uM {Z R : Nat → Nat} (h : eqB Z R) : uM (va_cpy Z Z 0 174 58) 174 = uM R 0 := by
  funext k
  by_cases hk : k < 5
  · rw [uM_at hk, uM_at hk, cpy_in (by omega) (by omega), h _ (by omega)]
    exact congrArg R (by omega)
  · rw [Z5_uM _ _ k (by omega), Z5_uM _ _ k (by omega)]
theorem cpZ_E {Z R : Nat → Nat} (h : eqB Z R) : eqB (va_cpy Z Z 0 174 58) R := fun k hk => by rw [cpy_out (Or.inl hk)]; exact h k hk
def dfN (f f' : Nat → Nat) : Nat → Nat
  | 0 => 0
  | n + 1 => dfN f f' n + (if f' n = f n then 0 else 1)
theorem dfN_le (f f' : Nat → Nat) : ∀ n, dfN f f' n ≤ n
  | 0 => Nat.le_refl 0
  | n + 1 => by
    have h := dfN_le f f' n
    show dfN f f' n + (if f' n = f n then 0 else 1) ≤ n + 1
    split <;> omega
def rfW (r i n : Int32) (S : RS) : Nat := rfK (S.2.1 7 (cl r)) (S.1 8 (cl r)) i n
def pM_theft (b r i n : Int32) (S : RS) : Int32 × RS :=
  if S.1 0 0 = 0 then (-1000002, S) else if ¬ inR b (S.1 0 3) ∨ ¬ inR r 8 ∨ ¬ inR n 25 then (-1000001, S) else
  if rfW r i n S ≠ 0 then (fndA (rfW r i n S), stN S (rfW r i n S)) else if ¬ areB (S.2.1 9) (40 * cl r + cl i) (cl n) (S.1 0 3) then (-1000001, S) else
  (nI (dfN (pnA (S.1 0) (S.2.1 9) (40 * cl r + cl i) (S.1 0 40) (uM (S.1 0) 0)) (pnA (S.1 0) (S.2.1 9) (40 * cl r + cl i) (gOA (S.1 0) 99 (cl b) (S.1 0 40) (uM (S.1 0) 0)).2.1 (gOA (S.1 0) 99 (cl b) (S.1 0 40) (uM (S.1 0) 0)).2.2) (cl n)), stN S 0)
def mxO (kd pn : Nat → Nat) (k : Nat) : Nat → Nat → Nat
  | 0, acc => acc
  | o + 1, acc => mxO kd pn k o acc ||| (if kd k ≠ kd o ∧ pn k = pn o then 1 * 2 ^ pn k else 0)
def mxK (kd pn : Nat → Nat) : Nat → Nat
  | 0 => 0
  | k + 1 => mxO kd pn k k (mxK kd pn k)
def kdA (R : Nat → Nat) (it : Nat → Int32) (base k : Nat) : Nat := R (24 + 2 * cl (it (base + k)))
def pM_mixed (r i n : Int32) (S : RS) : Int32 × RS :=
  if S.1 0 0 = 0 then (-1000002, S) else if ¬ inR r 8 ∨ ¬ inR n 25 then (-1000001, S) else
  if rfW r i n S ≠ 0 then (fndA (rfW r i n S), stN S (rfW r i n S)) else if ¬ areB (S.2.1 9) (40 * cl r + cl i) (cl n) (S.1 0 3) then (-1000001, S) else
  (nI (mxK (kdA (S.1 0) (S.2.1 9) (40 * cl r + cl i)) (pnA (S.1 0) (S.2.1 9) (40 * cl r + cl i) (S.1 0 40) (uM (S.1 0) 0)) (cl n)), stN S 0)
def stC (f : Nat → Bool) : Nat → Nat × Int32
  | 0 => (0, -1000000)
  | n + 1 => if f n = true then ((stC f n).1 + 1, if (stC f n).1 = 0 then nI n else (stC f n).2) else stC f n
theorem stC_le (f : Nat → Bool) : ∀ n, (stC f n).1 ≤ n
  | 0 => Nat.le_refl 0
  | n + 1 => by
    have h := stC_le f n
    rw [stC]
    split
    · show (stC f n).1 + 1 ≤ n + 1; omega
    · omega
def rpW (r i n : Int32) (S : RS) : Int32 := rpA (rfK (S.2.1 7 (cl r)) (S.1 8 (cl r)) i (nI (2 * cl n))) (areP (S.2.1 9) (40 * cl r + cl i) (cl n) (S.1 0 3) (S.1 0 1))
def rpN (r i n : Int32) (S : RS) : Nat := stsA (S.2.2.1 6) (rfK (S.2.1 7 (cl r)) (S.1 8 (cl r)) i (nI (2 * cl n)))
def pM_stood (r i n what : Int32) (S : RS) : Int32 × RS :=
  if S.1 0 0 = 0 then (-1000002, S) else if ¬ inR r 8 ∨ ¬ inR n 13 ∨ ¬ inR what 2 then (-1000001, S) else if rpW r i n S ≠ 0 then (rpW r i n S, stN S (rpN r i n S)) else
  (if what = 0 then nI (stC (fun z => cmA (S.1 0) 99 (S.2.1 9) (40 * cl r + cl i) (cl n) 0 z (fun _ => 0)) (2 ^ S.1 0 2)).1 else (stC (fun z => cmA (S.1 0) 99 (S.2.1 9) (40 * cl r + cl i) (cl n) 0 z (fun _ => 0)) (2 ^ S.1 0 2)).2, stN S 0)
def skA (f : Nat → Bool) : Nat → Nat
  | 0 => 0
  | h + 1 => skA f h ||| (if f h = true then 1 * 2 ^ h else 0)
def pM_sticks (r i n : Int32) (S : RS) : Int32 × RS :=
  if S.1 0 0 = 0 then (-1000002, S) else if ¬ inR r 8 ∨ ¬ inR n 13 then (-1000001, S) else if rpW r i n S ≠ 0 then (rpW r i n S, stN S (rpN r i n S)) else
  (nI (skA (fun h => cmA (S.1 0) h (S.2.1 9) (40 * cl r + cl i) (cl n) 0 (S.1 0 40) (uM (S.1 0) 0)) (S.1 0 2)), stN S 0)
set_option maxRecDepth 20000 in
theorem c_X6_layPens (g : gG) (q : Nat → Nat) (Na : Nat → Nat → Nat) (Ia : Nat → Nat → Int32) (Ns : Nat → Nat) (Is : Nat → Int32) (base : Nat) (n : Nat)  (hst : Is 12 = skI 99) (hokp : okP (Na 0)) (hS : Na 0 214 < 2 ^ Na 0 2) (hU : ∀ k, uM (Na 0) 174 k ≤ 100000) (hn : base + n ≤ 320) (hn4 : n ≤ 24) (hA : areB (Ia 9) base n (Na 0 3)) : gCon g mX6_layPens 4 0 0 [.ref (q 26), .int (nI base), .int (nI n)] (wM g q Na Ia Ns Is) (fun rv ws' => ∃ (Z1 : Nat → Nat), (eqB Z1 (Na 0)) ∧ rv = none ∧ ws' = (wM g q (va_up (va_up Na 0 Z1) 25 (va_cpy (pnA (Na 0) (Ia 9) base ((Na 0) 214) (uM (Na 0) 174)) (Na 25) 0 0 n)) Ia Ns Is)) := by
  refine gCon.of (lv := [(0, .ref (q 26)), (1, .int (nI base)), (2, .int (nI n))]) (by decide) (gLe rfl) rfl ?_
  have hp8 := hokp.2.2.2.1
  refine j_iconst (v := (0 : Int32)) 1 dX6_layPens_0 rfl (by decide) ?_
  refine j_istore_n 2 [(3, .int (0 : Int32)), (0, .ref (q 26)), (1, .int (nI base)), (2, .int (nI n))] dX6_layPens_1 rfl (by decide) rfl ?_
  have hL2 : ∀ (zm2 : Nat) (zi : Nat) (ZR : Nat → Nat), n - zi < zm2 → (zi ≤ n) → (eqB ZR (Na 0)) → (ZR 214 < 2 ^ Na 0 2) → (∀ k, uM ZR 174 k ≤ 100000 + zi) → ((ZR 214, uM ZR 174) = sqA (Na 0) (Ia 9) base (Na 0 214) (uM (Na 0) 174) zi) → gJ g mX6_layPens 4 0 0 (fun k' j' rv ws' => k' ≤ 0 ∧ j' ≤ 0 ∧ (∃ (Z1 : Nat → Nat), (eqB Z1 (Na 0)) ∧ rv = none ∧ ws' = (wM g q (va_up (va_up Na 0 Z1) 25 (va_cpy (pnA (Na 0) (Ia 9) base ((Na 0) 214) (uM (Na 0) 174)) (Na 25) 0 0 n)) Ia Ns Is))) 0 0 2 [(3, .int (nI zi)), (0, .ref (q 26)), (1, .int (nI base)), (2, .int (nI n))] [] (wM g q (va_up (va_up Na 0 ZR) 25 (va_cpy (pnA (Na 0) (Ia 9) base (Na 0 214) (uM (Na 0) 174)) (Na 25) 0 0 zi)) Ia Ns Is) := by
    intro zm2
    induction zm2 with
    | zero => intro zi ZR zmh; exact absurd zmh (Nat.not_lt_zero _)
    | succ zm2 zih2 =>
      intro zi ZR zmh2 hz hzE hzS hzU hzQ
      refine j_iload_n 3 dX6_layPens_2 rfl 0 rfl ?_
      refine j_iload_n 4 dX6_layPens_3 rfl 3 rfl ?_
      refine j_icmp_geN zi n 7 34 dX6_layPens_4 rfl rfl (by omega) (by omega) (fun h4 => ?_) (fun h4 => ?_)
      ·
        refine j_vret dX6_layPens_34 rfl ⟨gLe rfl, gLe rfl, ?_⟩
        have ye : zi = n := by omega
        subst ye
        exact ⟨ZR, hzE, rfl, rfl⟩
      ·
        refine j_aload_n 8 dX6_layPens_7 rfl 1 rfl ?_
        refine j_getf 11 0 dX6_layPens_8 rfl fd_X6_52 rfl rfl ?_
        refine j_iload_n 12 dX6_layPens_11 rfl 0 rfl ?_
        refine j_aload_n 13 dX6_layPens_12 rfl 1 rfl ?_
        refine j_sipush (v := (174 : Int32)) 16 dX6_layPens_13 rfl (by decide) ?_
        refine j_aload_n 17 dX6_layPens_16 rfl 1 rfl ?_
        refine j_getf 20 0 dX6_layPens_17 rfl fd_X6_26 rfl rfl ?_
        refine j_iload_n 21 dX6_layPens_20 rfl 2 rfl ?_
        refine j_iload_n 22 dX6_layPens_21 rfl 0 rfl ?_
        refine j_iaddN base zi 23 dX6_layPens_22 rfl ?_
        refine j_ialdR (base + zi) 24 6 dX6_layPens_23 rfl rfl (by omega) (by decide) ?_
        have hbt : Ia 9 (base + zi) = nI (cl (Ia 9 (base + zi))) ∧ cl (Ia 9 (base + zi)) < Na 0 3 := inR_cl (hA zi (by omega)) (by omega)
        have hgk := gOA_ok hokp (sk := 99) (b := cl (Ia 9 (base + zi))) hzS (Z5_uM ZR 174)
        have hgz := gOA_eq hokp hzE (sk := 99) (s := ZR 214) (u := uM ZR 174) hbt.2
        refine j_topI ((Ia 9) (base + zi)) (nI (cl (Ia 9 (base + zi)))) hbt.1 ?_
        refine j_callVW (rest := [.int (nI zi), .ref (q 25)]) 27 (c_X6_go g q (va_up (va_up Na 0 ZR) 25 (va_cpy (pnA (Na 0) (Ia 9) base (Na 0 214) (uM (Na 0) 174)) (Na 25) 0 0 zi)) Ia Ns Is 174 (cl (Ia 9 (base + zi))) 99 hst (okP_eq (eqB_P hzE) hokp) (Or.inr rfl) (p32 hokp hzS) (fun k => by have := hzU k; show uM ZR 174 k ≤ _; omega) (by show cl (Ia 9 (base + zi)) < ZR 3; rw [hzE 3 (by decide)]; exact hbt.2)) [.int (nI ((goA ZR 99 (ZR (24 + 2 * (cl (Ia 9 (base + zi))))) 5 (ZR 2 - 1) (ZR (174 + 40)) (uM ZR 174)).1)), .int (nI zi), .ref (q 25)] dX6_layPens_24 rfl cv_X6_187 rfl rfl 0 rfl rfl (gLe rfl) (gLe rfl) (gLe rfl) (gLe rfl) (wM_len _ _ _ _ _ _ _ _ _ _) rfl ?_
        refine j_topN ((goA ZR 99 (ZR (24 + 2 * (cl (Ia 9 (base + zi))))) 5 (ZR 2 - 1) (ZR (174 + 40)) (uM ZR 174)).1) ((gOA (Na 0) 99 (cl (Ia 9 (base + zi))) (ZR 214) (uM ZR 174)).1) (congrArg Prod.fst hgz) ?_
        refine j_ws (wM g q (va_up (va_up Na 0 (putM ZR 174 (gOA (Na 0) 99 (cl (Ia 9 (base + zi))) (ZR 214) (uM ZR 174)).2.1 (gOA (Na 0) 99 (cl (Ia 9 (base + zi))) (ZR 214) (uM ZR 174)).2.2)) 25 (va_cpy (pnA (Na 0) (Ia 9) base (Na 0 214) (uM (Na 0) 174)) (Na 25) 0 0 zi)) Ia Ns Is) (congrArg (fun z : Nat × Nat × (Nat → Nat) => wM g q (va_up (va_up Na 0 (putM ZR 174 z.2.1 z.2.2)) 25 (va_cpy (pnA (Na 0) (Ia 9) base (Na 0 214) (uM (Na 0) 174)) (Na 25) 0 0 zi)) Ia Ns Is) hgz) ?_
        refine j_iastN ((gOA (Na 0) 99 (cl (Ia 9 (base + zi))) (ZR 214) (uM ZR 174)).1) zi 28 13 (wM g q (va_up (va_up Na 0 (putM ZR 174 (gOA (Na 0) 99 (cl (Ia 9 (base + zi))) (ZR 214) (uM ZR 174)).2.1 (gOA (Na 0) 99 (cl (Ia 9 (base + zi))) (ZR 214) (uM ZR 174)).2.2)) 25 (va_up (va_cpy (pnA (Na 0) (Ia 9) base (Na 0 214) (uM (Na 0) 174)) (Na 25) 0 0 zi) zi ((gOA (Na 0) 99 (cl (Ia 9 (base + zi))) (ZR 214) (uM ZR 174)).1))) Ia Ns Is) dX6_layPens_27 rfl rfl (by omega) (by decide) rfl ?_
        refine j_ws (wM g q (va_up (va_up Na 0 (putM ZR 174 (gOA (Na 0) 99 (cl (Ia 9 (base + zi))) (ZR 214) (uM ZR 174)).2.1 (gOA (Na 0) 99 (cl (Ia 9 (base + zi))) (ZR 214) (uM ZR 174)).2.2)) 25 (va_cpy (pnA (Na 0) (Ia 9) base (Na 0 214) (uM (Na 0) 174)) (Na 25) 0 0 (zi + 1))) Ia Ns Is) (congrArg (fun z => wM g q (va_up (va_up Na 0 (putM ZR 174 (gOA (Na 0) 99 (cl (Ia 9 (base + zi))) (ZR 214) (uM ZR 174)).2.1 (gOA (Na 0) 99 (cl (Ia 9 (base + zi))) (ZR 214) (uM ZR 174)).2.2)) 25 z) Ia Ns Is) (by have hv : (gOA (Na 0) 99 (cl (Ia 9 (base + zi))) (ZR 214) (uM ZR 174)).1 = (pnA (Na 0) (Ia 9) base (Na 0 214) (uM (Na 0) 174)) (0 + zi) := (by rw [Nat.zero_add, pnA, ← hzQ]); rw [hv]; exact cpy_s0 _ _ 0 zi)) ?_
        refine j_iincN zi 1 31 [(3, .int (nI (zi + 1))), (0, .ref (q 26)), (1, .int (nI base)), (2, .int (nI n))] dX6_layPens_28 rfl 0 rfl (by decide) rfl ?_
        refine j_goto 2 dX6_layPens_31 rfl ?_
        refine j_lv [0, 1, 2, 3] rfl ?_
        exact zih2 (zi + 1) (putM ZR 174 (gOA (Na 0) 99 (cl (Ia 9 (base + zi))) (ZR 214) (uM ZR 174)).2.1 (gOA (Na 0) 99 (cl (Ia 9 (base + zi))) (ZR 214) (uM ZR 174)).2.2) (by omega) (by omega) (eqB_put hzE) (by rw [putM_at]; exact hgk.2.1) (fun k => by rw [uM_put hgk.2.2.1]; have z1 := hgk.2.2.2 k; have z2 := hzU k; omega) (by rw [putM_at, uM_put hgk.2.2.1, sqA, ← hzQ])
  refine j_ws (wM g q (va_up (va_up Na 0 (Na 0)) 25 (va_cpy (pnA (Na 0) (Ia 9) base (Na 0 214) (uM (Na 0) 174)) (Na 25) 0 0 0)) Ia Ns Is) (by rw [cpy_0]; rfl) ?_
  refine j_lv [0, 1, 2, 3] rfl ?_
  exact hL2 _ 0 (Na 0) (Nat.lt_succ_self _) (by omega) (fun k _ => rfl) hS hU rfl
