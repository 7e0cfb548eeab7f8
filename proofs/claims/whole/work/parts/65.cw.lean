/-! the class's state beside the reference's -/
def plOK (L : Nat → Nat → Nat) (P : Nat → Nat) : Prop := L 0 0 = P 1 ∧ L 0 1 = P 2 ∧ L 0 2 = P 3 ∧ (∀ h, h < P 2 → L 2 h = P (4 + 4 * h) ∧ L 3 h = P (4 + 4 * h + 1) ∧ L 4 h = P (4 + 4 * h + 2) ∧ L 1 h = P (4 + 4 * h + 3)) ∧ (∀ b, b < P 3 → L 5 b = P (24 + 2 * b) ∧ L 6 b = P (24 + 2 * b + 1))
def stOK (D : Nat → Nat → Nat) (m : Nat → Nat) : Prop := D 0 0 = m 0 ∧ (D 1 = fun h => if h < 5 then m (1 + h) else 0) ∧ ∀ p, p < 6 → D 2 p = m (6 + p) ∧ D 3 p = m (12 + p)
theorem plOK_ext {L : Nat → Nat → Nat} {P P' : Nat → Nat} (e : ∀ k, k < 40 → P' k = P k) (hP : P 2 ≤ 5 ∧ P 3 ≤ 8) (h : plOK L P) : plOK L P' := by
  obtain ⟨h1, h2, h3, h4, h5⟩ := h
  have e2 := e 2 (by decide)
  have e3 := e 3 (by decide)
  refine ⟨h1.trans (e 1 (by decide)).symm, h2.trans e2.symm, h3.trans e3.symm, ?_, ?_⟩
  · intro x hx
    rw [e _ (by omega), e _ (by omega), e _ (by omega), e _ (by omega)]
    exact h4 x (by omega)
  · intro x hx
    rw [e _ (by omega), e _ (by omega)]
    exact h5 x (by omega)
theorem stOK_ext {D : Nat → Nat → Nat} {m m' : Nat → Nat} (e : ∀ k, k < 18 → m' k = m k) (h : stOK D m) : stOK D m' := by
  obtain ⟨h1, h2, h3⟩ := h
  refine ⟨h1.trans (e 0 (by decide)).symm, ?_, ?_⟩
  · rw [h2]
    funext x
    by_cases c : x < 5
    · rw [if_pos c, if_pos c, e _ (by omega)]
    · rw [if_neg c, if_neg c]
  · intro p hp
    rw [e _ (by omega), e _ (by omega)]
    exact h3 p hp
theorem stOK_Z {D : Nat → Nat → Nat} {m : Nat → Nat} (h : stOK D m) : Z5 (D 1) := by
  intro k hk
  rw [h.2.1]
  exact if_neg (by omega)
theorem stOK_u {D : Nat → Nat → Nat} {R : Nat → Nat} (h : stOK D (fun k => R (40 + k))) : D 1 = uM R 0 := by
  rw [h.2.1]
  funext x
  unfold uM
  by_cases c : x < 5
  · rw [if_pos c, if_pos c]; exact congrArg R (by omega)
  · rw [if_neg c, if_neg c]
section PLK
variable {L : Nat → Nat → Nat} {R : Nat → Nat}
theorem plOK_s (h : plOK L R) (hP : okP R) {x : Nat} (hx : x < R 2) : plP L (4 + 4 * x + 3) = R (4 + 4 * x + 3) := by
  rw [plP_s (okP_5 hP hx)]; exact (h.2.2.2.1 x hx).2.2.2
theorem plOK_t (h : plOK L R) (hP : okP R) {x : Nat} (hx : x < R 2) : plP L (4 + 4 * x + 2) = R (4 + 4 * x + 2) := by
  rw [plP_t (okP_5 hP hx)]; exact (h.2.2.2.1 x hx).2.2.1
theorem plOK_w (h : plOK L R) (hP : okP R) {x d : Nat} (hx : x < R 2) (hd : d ≤ 1) : plP L (4 + 4 * x + d) = R (4 + 4 * x + d) := by
  rcases (show d = 0 ∨ d = 1 by omega) with e | e <;> subst e
  · exact (plP_l (okP_5 hP hx)).trans (h.2.2.2.1 x hx).1
  · exact (plP_r (okP_5 hP hx)).trans (h.2.2.2.1 x hx).2.1
theorem plOK_k (h : plOK L R) {b : Nat} (hb : b < R 3) : plP L (24 + 2 * b) = R (24 + 2 * b) := plP_k.trans (h.2.2.2.2 b hb).1
theorem plOK_v (h : plOK L R) {b : Nat} (hb : b < R 3) : plP L (24 + 2 * b + 1) = R (24 + 2 * b + 1) := plP_v.trans (h.2.2.2.2 b hb).2
theorem plOK_P (h : plOK L R) (hP : okP R) : okP (plP L) := by
  have h1 : plP L 1 = R 1 := h.1
  have h2 : plP L 2 = R 2 := h.2.1
  have h3 : plP L 3 = R 3 := h.2.2.1
  refine ⟨by rw [h1]; exact hP.1, by rw [h2]; exact hP.2.1, by rw [h2]; exact hP.2.2.1, by rw [h3]; exact hP.2.2.2.1, ?_, ?_⟩
  · intro x hx
    rw [h2] at hx
    have w0 := plOK_w h hP hx (Nat.zero_le 1)
    have w1 := plOK_w h hP hx (Nat.le_refl 1)
    rw [Nat.add_zero] at w0
    rw [w0, w1, plOK_t h hP hx, plOK_s h hP hx, h1]
    exact hP.2.2.2.2.1 x hx
  · intro b hb
    rw [h3] at hb
    rw [plOK_k h hb, plOK_v h hb]
    exact hP.2.2.2.2.2 b hb
theorem srtO_L (h : plOK L R) (hP : okP R) {sk x : Nat} (hx : x < R 2) : srtO (plP L) sk x = srtO R sk x := by
  unfold srtO
  rw [plOK_s h hP hx]
theorem toA_L (h : plOK L R) (hP : okP R) {sk kd x s : Nat} (hx : x < R 2) : toA (plP L) sk kd x s = toA R sk kd x s := by
  unfold toA
  rw [srtO_L h hP hx]
theorem stA_L (h : plOK L R) (hP : okP R) {sk kd x s : Nat} {u : Nat → Nat} (hx : x < R 2) : stA (plP L) sk kd x s u = stA R sk kd x s u := by
  have ht := okP_t hP hx
  have e : turnA (plP L) sk x s = turnA R sk x s := by
    unfold turnA
    rw [plOK_t h hP hx]
    by_cases c : 0 < R (4 + 4 * x + 2)
    · rw [srtO_L h hP (show R (4 + 4 * x + 2) - 1 < R 2 by omega)]
    · rw [if_neg (fun y => c y.1), if_neg (fun y => c y.1)]
  unfold stA
  rw [e]
  simp only [turnsA, srtO_L h hP hx, toA_L h hP hx]
theorem goA_L (h : plOK L R) (hP : okP R) {sk kd : Nat} : ∀ (n x s : Nat) (u : Nat → Nat), x < R 2 → goA (plP L) sk kd n x s u = goA R sk kd n x s u := by
  intro n
  induction n with
  | zero => intro x s u _; rfl
  | succ n ih =>
    intro x s u hx
    have hw := wayA_lt hP (sk := sk) (kd := kd) (s := s) hx
    have h6 := hP.1
    have e : plP L (4 + 4 * x + toA (plP L) sk kd x s) = R (4 + 4 * x + toA R sk kd x s) := by
      rw [toA_L h hP hx]; exact plOK_w h hP hx toA_le
    by_cases c : R (4 + 4 * x + toA R sk kd x s) < 10
    · rw [goA_s1 c, goA_s1 (by rw [e]; exact c), e, stA_L h hP hx]
    · rw [goA_s2 c, goA_s2 (by rw [e]; exact c), e, stA_L h hP hx]
      exact ih _ _ _ (by omega)
theorem gOA_L (h : plOK L R) (hP : okP R) {sk b s : Nat} {u : Nat → Nat} (hb : b < R 3) : gOA (plP L) sk b s u = gOA R sk b s u := by
  unfold gOA
  rw [plOK_k h hb, show plP L 2 = R 2 from h.2.1]
  exact goA_L h hP 5 _ _ _ (by have := hP.2.1; omega)
theorem dgA_L (h : plOK L R) (hP : okP R) {u : Nat → Nat} {x : Nat} : dgA (plP L) u x = dgA R u x := by
  unfold dgA
  rw [show plP L 2 = R 2 from h.2.1]
  by_cases c : x < R 2
  · rw [plOK_s h hP c]
  · rw [if_neg (fun y => c y.1), if_neg (fun y => c y.1)]
theorem numA_L (h : plOK L R) (hP : okP R) {s : Nat} {u : Nat → Nat} : numA (plP L) s u = numA R s u := by
  have e : ∀ k, numD (plP L) u k = numD R u k := by
    intro k
    induction k with
    | zero => rfl
    | succ k ih => simp only [numD, dgA_L h hP, ih]
  unfold numA
  rw [e]
theorem nxN_L (h : plOK L R) (hP : okP R) {c b : Nat} (hb : b < R 3) : nxN (plP L) c b = nxN R c b := by
  unfold nxN
  rw [gOA_L h hP hb, numA_L h hP]
end PLK
/-! cells -/
def rwW (g : gG) (u : Nat → Nat) (r : Nat) (l z : Int32) (it : Nat → Int32) : va_W := [(u (30 + 2 * r), .inr (1, [.ref (u (31 + 2 * r)), .int l, .int z])), (u (31 + 2 * r), .inl (g.2.1 0, 40, .inl it))]
def stW (g : gG) (a b c d p : Nat) (D : Nat → Nat → Nat) : va_W := [(a, .inr (3, [.ref p, .int (nI (D 0 0)), .ref b, .ref c, .ref d])), (b, .inl (g.2.1 0, 5, .inl (nF (D 1)))), (c, .inl (g.2.1 0, 6, .inl (nF (D 2)))), (d, .inl (g.2.1 0, 6, .inl (nF (D 3))))]
def acW (g : gG) (u : Nat → Nat) (k p : Nat) (D : Nat → Nat → Nat) : va_W := stW g (u (100 + 4 * k)) (u (101 + 4 * k)) (u (102 + 4 * k)) (u (103 + 4 * k)) p D
def imW (g : gG) (u : Nat → Nat) (k p : Nat) (D : Nat → Nat → Nat) : va_W := stW g (u (200 + 4 * k)) (u (201 + 4 * k)) (u (202 + 4 * k)) (u (203 + 4 * k)) p D
def plW (g : gG) (p0 p1 p2 p3 p4 p5 p6 : Nat) (L : Nat → Nat → Nat) : va_W := [(p0, .inr (0, [.int (nI (L 0 0)), .int (nI (L 0 1)), .int (nI (L 0 2)), .ref p1, .ref p2, .ref p3, .ref p4, .ref p5, .ref p6])), (p1, .inl (g.2.1 0, 5, .inl (nF (L 1)))), (p2, .inl (g.2.1 0, 5, .inl (nF (L 2)))), (p3, .inl (g.2.1 0, 5, .inl (nF (L 3)))), (p4, .inl (g.2.1 0, 5, .inl (nF (L 4)))), (p5, .inl (g.2.1 0, 8, .inl (nF (L 5)))), (p6, .inl (g.2.1 0, 8, .inl (nF (L 6))))]
def seW (g : gG) (ea et es em en ew ec ep ef M : Nat) (el : Option Nat) (C : Nat → Nat) (Pr F : Nat → Int32) (tb tc td tp : Nat) (D : Nat → Nat → Nat) : va_W := [(ea, .inr (2, [.ref et, va_rf el, .int (nI es), .int (nI em), .int (nI en), .int (nI ew), .ref ec, .ref ep, .ref ef])), (ec, .inl (g.2.1 0, M, .inl (nF C))), (ep, .inl (g.2.1 0, M, .inl Pr)), (ef, .inl (g.2.1 0, 32, .inl F))] ++ stW g et tb tc td tp D
/-- the cells that are always there -/
def mnW (g : gG) (u : Nat → Nat) (so : Option Nat) (xi xj xe xf xg : Nat) (rf af mf : Nat → Option Nat) (T : Nat → Nat) (kl ks ke kt kv kf : Nat) (yT : Nat → Nat) (s0 s1 s2 : Nat) (D0 D1 D2 : Nat → Nat → Nat) : va_W :=
  [(u 0, .inr (5, [.ref (u 1), .ref (u 5), .ref (u 10), .ref (u 14), .ref (u 18), .ref (u 2), .int (nI xi), .int (nI xj), .ref (u 3), va_rf so, .ref (u 4), .int (nI xe), .int (nI xf), .int (nI xg)])),
   (u 1, .inl (g.2.1 3, 8, .inr (.inr (.inr (.inr rf))))), (u 2, .inl (g.2.1 4, 24, .inr (.inr (.inr (.inr af))))), (u 3, .inl (g.2.1 4, 2, .inr (.inr (.inr (.inr mf))))), (u 4, .inl (g.2.1 0, 16, .inl (nF T))),
   (u 5, .inr (4, [.ref (u 6), .int (nI kl), .int (nI ks), .int (nI ke), .int (nI kt), .int (nI kv), .int (nI kf)])), (u 6, .inl (g.2.1 1, 400, .inl (sgF yT))),
   (u 10, .inr (3, [.ref s0, .int (nI (D0 0 0)), .ref (u 11), .ref (u 12), .ref (u 13)])), (u 11, .inl (g.2.1 0, 5, .inl (nF (D0 1)))), (u 12, .inl (g.2.1 0, 6, .inl (nF (D0 2)))), (u 13, .inl (g.2.1 0, 6, .inl (nF (D0 3)))),
   (u 14, .inr (3, [.ref s1, .int (nI (D1 0 0)), .ref (u 15), .ref (u 16), .ref (u 17)])), (u 15, .inl (g.2.1 0, 5, .inl (nF (D1 1)))), (u 16, .inl (g.2.1 0, 6, .inl (nF (D1 2)))), (u 17, .inl (g.2.1 0, 6, .inl (nF (D1 3)))),
   (u 18, .inr (3, [.ref s2, .int (nI (D2 0 0)), .ref (u 19), .ref (u 20), .ref (u 21)])), (u 19, .inl (g.2.1 0, 5, .inl (nF (D2 1)))), (u 20, .inl (g.2.1 0, 6, .inl (nF (D2 2)))), (u 21, .inl (g.2.1 0, 6, .inl (nF (D2 3))))]
/-- the rest: rows, acts, images, plans, the search -/
def tlW (R4 A4 I4 : Nat → va_W) (np : Nat) (Pl : Nat → va_W) (Sr : va_W) : va_W := fl 8 R4 ++ (fl 24 A4 ++ (fl 2 I4 ++ (fl np Pl ++ Sr)))
section TLW
variable {R4 A4 I4 Pl : Nat → va_W} {np : Nat} {Sr : va_W}
theorem mv2 {α : Type} (A x B : List α) : List.Perm (A ++ (x ++ B)) (x ++ (A ++ B)) := by
  rw [← List.append_assoc, ← List.append_assoc]
  exact List.perm_append_comm.append_right B
theorem fl_o {n : Nat} {c : Nat → va_W} {k : Nat} {Z : va_W} (hk : k < n) : List.Perm (fl n c ++ Z) (c k ++ (fl n (va_up c k []) ++ Z)) := by
  rw [← List.append_assoc]
  exact (fl_out hk).append_right Z
theorem fl_i {n : Nat} {c : Nat → va_W} {k : Nat} {x Z : va_W} (hk : k < n) : List.Perm (x ++ (fl n (va_up c k []) ++ Z)) (fl n (va_up c k x) ++ Z) := by
  rw [← List.append_assoc]
  exact (fl_in hk).symm.append_right Z
theorem tl_row {r : Nat} (h : r < 8) : List.Perm (tlW R4 A4 I4 np Pl Sr) (R4 r ++ tlW (va_up R4 r []) A4 I4 np Pl Sr) := fl_o h
theorem tl_row' {r : Nat} (x : va_W) (h : r < 8) : List.Perm (x ++ tlW (va_up R4 r []) A4 I4 np Pl Sr) (tlW (va_up R4 r x) A4 I4 np Pl Sr) := fl_i h
theorem tl_act {r : Nat} (h : r < 24) : List.Perm (tlW R4 A4 I4 np Pl Sr) (A4 r ++ tlW R4 (va_up A4 r []) I4 np Pl Sr) := (((fl_o h).append_left _).trans (mv2 _ _ _))
theorem tl_act' {r : Nat} (x : va_W) (h : r < 24) : List.Perm (x ++ tlW R4 (va_up A4 r []) I4 np Pl Sr) (tlW R4 (va_up A4 r x) I4 np Pl Sr) := (mv2 _ _ _).symm.trans ((fl_i h).append_left _)
theorem tl_img {r : Nat} (h : r < 2) : List.Perm (tlW R4 A4 I4 np Pl Sr) (I4 r ++ tlW R4 A4 (va_up I4 r []) np Pl Sr) := ((((fl_o h).append_left _).trans (mv2 _ _ _)).append_left _).trans (mv2 _ _ _)
theorem tl_img' {r : Nat} (x : va_W) (h : r < 2) : List.Perm (x ++ tlW R4 A4 (va_up I4 r []) np Pl Sr) (tlW R4 A4 (va_up I4 r x) np Pl Sr) := (mv2 _ _ _).symm.trans (((mv2 _ _ _).symm.trans ((fl_i h).append_left _)).append_left _)
theorem tl_pl {r : Nat} (h : r < np) : List.Perm (tlW R4 A4 I4 np Pl Sr) (Pl r ++ tlW R4 A4 I4 np (va_up Pl r []) Sr) := ((((((fl_o h).append_left _).trans (mv2 _ _ _)).append_left _).trans (mv2 _ _ _)).append_left _).trans (mv2 _ _ _)
theorem tl_pl' {r : Nat} (x : va_W) (h : r < np) : List.Perm (x ++ tlW R4 A4 I4 np (va_up Pl r []) Sr) (tlW R4 A4 I4 np (va_up Pl r x) Sr) := (mv2 _ _ _).symm.trans (((mv2 _ _ _).symm.trans (((mv2 _ _ _).symm.trans ((fl_i h).append_left _)).append_left _)).append_left _)
theorem tl_new (x : va_W) : List.Perm (x ++ tlW R4 A4 I4 np Pl Sr) (tlW R4 A4 I4 (np + 1) (va_up Pl np x) Sr) := by
  refine (mv2 _ _ _).symm.trans (List.Perm.append_left _ ((mv2 _ _ _).symm.trans (List.Perm.append_left _ ((mv2 _ _ _).symm.trans (List.Perm.append_left _ ?_)))))
  rw [fl_s, va_up_s, fl_ext (c := va_up Pl np x) (c' := Pl) (fun i hi => va_up_n (by omega)), List.append_assoc]
  exact mv2 _ _ _ |>.symm
theorem tl_sr : List.Perm (tlW R4 A4 I4 np Pl Sr) (Sr ++ tlW R4 A4 I4 np Pl []) := by
  unfold tlW
  rw [List.append_nil]
  refine List.Perm.trans ?_ List.perm_append_comm
  simp only [List.append_assoc]
  exact List.Perm.refl _
theorem up_self {α : Type} {f : Nat → α} {k : Nat} : va_up f k (f k) = f := by
  funext j
  simp only [va_up]
  split
  · rename_i e; rw [e]
  · rfl
end TLW
/-! the relation -/
def rowR (g : gG) (u : Nat → Nat) (S : RS) (r : Nat) (ws : va_W) : Prop := ∃ (l z : Int32) (it : Nat → Int32), ws = rwW g u r l z it ∧ (S.2.1 7 r = -1000000 → z = -1) ∧ (S.2.1 7 r ≠ -1000000 → l = S.2.1 7 r ∧ z = nI (S.1 8 r) ∧ ∀ i, i < S.1 8 r → it i = S.2.1 9 (40 * r + i))
def hasP (g : gG) (np : Nat) (Pl : Nat → va_W) (pL : Nat → Nat → Nat → Nat) (i a : Nat) : Prop := i < np ∧ ∃ p1 p2 p3 p4 p5 p6 : Nat, Pl i = plW g a p1 p2 p3 p4 p5 p6 (pL i)
def nowR (g : gG) (S : RS) (np : Nat) (Pl : Nat → va_W) (pL : Nat → Nat → Nat → Nat) (s0 : Nat) (D0 : Nat → Nat → Nat) : Prop := (∃ i : Nat, hasP g np Pl pL i s0 ∧ plOK (pL i) (S.1 0)) ∧ stOK D0 (fun k => S.1 0 (40 + k))
def actR (g : gG) (u : Nat → Nat) (S : RS) (xi : Nat) (A4 : Nat → va_W) (s0 : Nat) : Prop := xi < 24 ∧ (∀ k, k < 24 → ∃ (p : Nat) (D : Nat → Nat → Nat), A4 k = acW g u k p D ∧ Z5 (D 1)) ∧ ∀ j, j < S.2.2.1 2 → ∃ D : Nat → Nat → Nat, A4 ((xi + 24 - S.2.2.1 2 + j) % 24) = acW g u ((xi + 24 - S.2.2.1 2 + j) % 24) s0 D ∧ stOK D (fun k => S.1 1 (18 * j + k))
def imgR (g : gG) (u : Nat → Nat) (S : RS) (np : Nat) (Pl : Nat → va_W) (pL : Nat → Nat → Nat → Nat) (k : Nat) (ws : va_W) : Prop := ∃ (i a : Nat) (D : Nat → Nat → Nat), hasP g np Pl pL i a ∧ ws = imW g u k a D ∧ Z5 (D 1) ∧ (S.1 0 (58 * (1 + k)) = 0 → pL i 0 1 = 0) ∧ (S.1 0 (58 * (1 + k)) ≠ 0 → plOK (pL i) (fun j => S.1 0 (58 * (1 + k) + j)) ∧ stOK D (fun j => S.1 0 (58 * (1 + k) + 40 + j)))
def schR (g : gG) (np : Nat) (Pl : Nat → va_W) (pL : Nat → Nat → Nat → Nat) (so : Option Nat) (Sr : va_W) : Prop := (so = none ∧ Sr = []) ∨ ∃ (ea et es em en ew ec ep ef M : Nat) (el : Option Nat) (C : Nat → Nat) (Pr F : Nat → Int32) (tb tc td tp : Nat) (D : Nat → Nat → Nat), so = some ea ∧ Sr = seW g ea et es em en ew ec ep ef M el C Pr F tb tc td tp D ∧ (es < 7776 ∧ M ≤ 7776) ∧ (el = none ∨ ∃ i a : Nat, hasP g np Pl pL i a ∧ el = some a ∧ (∃ s9 : Nat, okN (plP (pL i)) s9 ∧ es = pkN (plP (pL i)) s9 ∧ srE (plP (pL i)) s9 en M C Pr F) ∧ ew = sfN F 32)
def arrR (u : Nat → Nat) (rf af mf : Nat → Option Nat) : Prop := (∀ i, i < 8 → rf i = some (u (30 + 2 * i))) ∧ (∀ i, i < 24 → af i = some (u (100 + 4 * i))) ∧ (∀ i, i < 2 → mf i = some (u (200 + 4 * i)))
def numR (S : RS) (xj xe xf xg kl : Nat) (T yT : Nat → Nat) : Prop := xj = S.2.2.1 2 ∧ xe = S.2.2.1 11 ∧ xf = S.2.2.1 5 ∧ xg = S.2.2.1 6 ∧ kl = S.2.2.1 4 ∧ T = S.1 10 ∧ yT = S.1 3
/-- ws is a world of the class that stands as the reference's S -/
def cR (g : gG) (u : Nat → Nat) (S : RS) (ws : va_W) : Prop := ∃ (so : Option Nat) (xi xj xe xf xg : Nat) (rf af mf : Nat → Option Nat) (T : Nat → Nat) (kl ks ke kt kv kf : Nat) (yT : Nat → Nat) (s0 s1 s2 : Nat) (D0 D1 D2 : Nat → Nat → Nat) (R4 A4 I4 : Nat → va_W) (np : Nat) (Pl : Nat → va_W) (pL : Nat → Nat → Nat → Nat) (Sr : va_W),
  arrR u rf af mf ∧ numR S xj xe xf xg kl T yT ∧ (∀ r, r < 8 → rowR g u S r (R4 r)) ∧ nowR g S np Pl pL s0 D0 ∧ actR g u S xi A4 s0 ∧ (∀ k, k < 2 → imgR g u S np Pl pL k (I4 k)) ∧ schR g np Pl pL so Sr ∧ Z5 (D1 1) ∧ Z5 (D2 1) ∧
  List.Perm ws (mnW g u so xi xj xe xf xg rf af mf T kl ks ke kt kv kf yT s0 s1 s2 D0 D1 D2 ++ tlW R4 A4 I4 np Pl Sr)
theorem hasP_new {g : gG} {np : Nat} {Pl : Nat → va_W} {pL : Nat → Nat → Nat → Nat} {i a : Nat} {x : va_W} {L : Nat → Nat → Nat} (h : hasP g np Pl pL i a) : hasP g (np + 1) (va_up Pl np x) (va_up pL np L) i a := by
  obtain ⟨h1, h2⟩ := h
  refine ⟨by omega, ?_⟩
  rw [va_up_n (by omega), va_up_n (by omega)]
  exact h2
theorem rowR_ext {g : gG} {u : Nat → Nat} {S S' : RS} {r : Nat} {ws : va_W} (e1 : S'.2.1 7 r = S.2.1 7 r) (e2 : S'.1 8 r = S.1 8 r) (e3 : ∀ i, i < S.1 8 r → S'.2.1 9 (40 * r + i) = S.2.1 9 (40 * r + i)) (h : rowR g u S r ws) : rowR g u S' r ws := by
  obtain ⟨l, z, it, h1, h2, h3⟩ := h
  refine ⟨l, z, it, h1, ?_, ?_⟩
  · rw [e1]; exact h2
  · rw [e1, e2]
    intro y
    obtain ⟨a, b, c⟩ := h3 y
    exact ⟨a, b, fun i hi => by rw [e3 i hi]; exact c i hi⟩
theorem imgR_ext {g : gG} {u : Nat → Nat} {S S' : RS} {np : Nat} {Pl : Nat → va_W} {pL : Nat → Nat → Nat → Nat} {k : Nat} {ws : va_W} (hk : k < 2) (hR : okR (S.1 0)) (e : ∀ j, j < 58 → S'.1 0 (58 * (1 + k) + j) = S.1 0 (58 * (1 + k) + j)) (h : imgR g u S np Pl pL k ws) : imgR g u S' np Pl pL k ws := by
  obtain ⟨i, a, D, h1, h2, h3, h4, h5⟩ := h
  have e0 : S'.1 0 (58 * (1 + k)) = S.1 0 (58 * (1 + k)) := e 0 (by decide)
  refine ⟨i, a, D, h1, h2, h3, by rw [e0]; exact h4, ?_⟩
  rw [e0]
  intro y
  obtain ⟨a1, a2⟩ := h5 y
  have hok : okP (fun j => S.1 0 (58 * (1 + k) + j)) := by
    rcases hR.2 k hk with y2 | y2
    · exact y2.2.1
    · exact absurd y2 y
  refine ⟨plOK_ext (fun j hj => e j (by omega)) ⟨hok.2.2.1, hok.2.2.2.1⟩ a1, stOK_ext (fun j hj => ?_) a2⟩
  show S'.1 0 (58 * (1 + k) + 40 + j) = S.1 0 (58 * (1 + k) + 40 + j)
  rw [show 58 * (1 + k) + 40 + j = 58 * (1 + k) + (40 + j) by omega]
  exact e _ (by omega)
theorem imgR_new {g : gG} {u : Nat → Nat} {S : RS} {np : Nat} {Pl : Nat → va_W} {pL : Nat → Nat → Nat → Nat} {k : Nat} {ws x : va_W} {L : Nat → Nat → Nat} (h : imgR g u S np Pl pL k ws) : imgR g u S (np + 1) (va_up Pl np x) (va_up pL np L) k ws := by
  obtain ⟨i, a, D, h1, h2, h3, h4, h5⟩ := h
  have e : va_up pL np L i = pL i := va_up_n (by have := h1.1; omega)
  exact ⟨i, a, D, hasP_new h1, h2, h3, by rw [e]; exact h4, by rw [e]; exact h5⟩
theorem schR_new {g : gG} {np : Nat} {Pl : Nat → va_W} {pL : Nat → Nat → Nat → Nat} {so : Option Nat} {Sr x : va_W} {L : Nat → Nat → Nat} (h : schR g np Pl pL so Sr) : schR g (np + 1) (va_up Pl np x) (va_up pL np L) so Sr := by
  rcases h with h | ⟨ea, et, es, em, en, ew, ec, ep, ef, M, el, C, Pr, F, tb, tc, td, tp, D, h1, h2, h3, h4⟩
  · exact Or.inl h
  · refine Or.inr ⟨ea, et, es, em, en, ew, ec, ep, ef, M, el, C, Pr, F, tb, tc, td, tp, D, h1, h2, h3, ?_⟩
    rcases h4 with h4 | ⟨i, a, a1, a2, a3⟩
    · exact Or.inl h4
    · refine Or.inr ⟨i, a, hasP_new a1, a2, ?_⟩
      rw [show va_up pL np L i = pL i from va_up_n (by have := a1.1; omega)]
      exact a3
theorem cR_Gq {g : gG} {u : Nat → Nat} {S S' : RS} {ws : va_W} (hI : RI S) (hG : Gq S' S) (h : cR g u S ws) : cR g u S' ws := by
  obtain ⟨so, xi, xj, xe, xf, xg, rf, af, mf, T, kl, ks, ke, kt, kv, kf, yT, s0, s1, s2, D0, D1, D2, R4, A4, I4, np, Pl, pL, Sr, hA, hN, hR, hW, hC, hM, hS, hZ1, hZ2, hp⟩ := h
  obtain ⟨g1, ⟨g2, g3, g4, g5⟩, ⟨g6, g7⟩, ⟨g8, g9, g10, g11, g12⟩, g13⟩ := hG
  refine ⟨so, xi, xj, xe, xf, xg, rf, af, mf, T, kl, ks, ke, kt, kv, kf, yT, s0, s1, s2, D0, D1, D2, R4, A4, I4, np, Pl, pL, Sr, hA, ?_, ?_, ?_, ?_, ?_, hS, hZ1, hZ2, hp⟩
  · obtain ⟨a, b, c, d, e, f, i⟩ := hN
    exact ⟨by rw [g8]; exact a, by rw [g12]; exact b, by rw [g10]; exact c, by rw [g11]; exact d, by rw [g9]; exact e, by rw [g5]; exact f, by rw [g3]; exact i⟩
  · exact fun r hr => rowR_ext (by rw [g6]) (by rw [g4]) (fun i _ => by rw [g7]) (hR r hr)
  · obtain ⟨⟨i, a1, a2⟩, a3⟩ := hW
    have hb : S.1 0 2 ≤ 5 ∧ S.1 0 3 ≤ 8 := by
      rcases hI.1.1 with y | y
      · exact ⟨y.2.1.2.2.1, y.2.1.2.2.2.1⟩
      · exact ⟨by omega, by omega⟩
    exact ⟨⟨i, a1, plOK_ext (fun k hk => g1 k (by omega)) hb a2⟩, stOK_ext (fun k hk => g1 _ (by omega)) a3⟩
  · obtain ⟨a1, a2, a3⟩ := hC
    refine ⟨a1, a2, ?_⟩
    rw [g8, g2]
    exact a3
  · exact fun k hk => imgR_ext hk hI.1 (fun j hj => g1 _ (by omega)) (hM k hk)
