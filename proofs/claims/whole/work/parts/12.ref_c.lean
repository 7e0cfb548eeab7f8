def putM (R : Nat → Nat) (base s : Nat) (u : Nat → Nat) : Nat → Nat := fun k => if k = base + 40 then s else if base + 41 ≤ k ∧ k < base + 46 then u (k - (base + 41)) else R k
theorem putM_id (R : Nat → Nat) (base : Nat) : putM R base (R (base + 40)) (fun h => R (base + 41 + h)) = R := by
  funext k
  simp only [putM]
  split
  · rename_i h; rw [h]
  · split
    · rename_i h; show R (base + 41 + (k - (base + 41))) = R k; congr 1; omega
    · rfl
/-- how often the hurdles were pushed, as the row tells it from base on -/
def uM (R : Nat → Nat) (base : Nat) : Nat → Nat := fun h => if h < 5 then R (base + 41 + h) else 0
theorem uM_at {R : Nat → Nat} {base h : Nat} (hh : h < 5) : uM R base h = R (base + 41 + h) := if_pos hh
theorem putM_idu (R : Nat → Nat) (base : Nat) : putM R base (R (base + 40)) (uM R base) = R := by
  have h0 : putM R base (R (base + 40)) (uM R base) = putM R base (R (base + 40)) (fun h => R (base + 41 + h)) := by
    funext k
    simp only [putM, uM]
    split
    · rfl
    · split
      · rename_i h2
        rw [if_pos (by omega)]
      · rfl
  rw [h0, putM_id]
theorem putM_s (R : Nat → Nat) (base s s' : Nat) (u : Nat → Nat) : va_up (putM R base s u) (base + 40) s' = putM R base s' u := by
  funext k
  simp only [putM, va_up]
  split <;> rfl
theorem putM_u (R : Nat → Nat) (base s h v : Nat) (u : Nat → Nat) (hh : h < 5) : va_up (putM R base s u) (base + 41 + h) v = putM R base s (va_up u h v) := by
  funext k
  simp only [putM, va_up]
  by_cases h1 : k = base + 40
  · rw [if_pos h1, if_neg (by omega), if_pos h1]
  · rw [if_neg h1]
    by_cases h2 : base + 41 ≤ k ∧ k < base + 46
    · rw [if_pos h2, if_neg h1, if_pos h2]
      by_cases h3 : k = base + 41 + h
      · rw [if_pos h3, if_pos (by omega)]
      · rw [if_neg h3, if_neg (by omega)]
    · rw [if_neg h2, if_neg (by omega), if_neg h1, if_neg h2]
theorem putM_lo {R : Nat → Nat} {base s : Nat} {u : Nat → Nat} {k : Nat} (hk : k < base + 40) : putM R base s u k = R k := by
  simp only [putM]
  rw [if_neg (by omega), if_neg (by omega)]
theorem putM_hi {R : Nat → Nat} {base s : Nat} {u : Nat → Nat} {k : Nat} (hk : base + 46 ≤ k) : putM R base s u k = R k := by
  simp only [putM]
  rw [if_neg (by omega), if_neg (by omega)]
theorem putM_at {R : Nat → Nat} {base s : Nat} {u : Nat → Nat} : putM R base s u (base + 40) = s := if_pos rfl
theorem putM_pu {R : Nat → Nat} {base s : Nat} {u : Nat → Nat} {h : Nat} (hh : h < 5) : putM R base s u (base + 41 + h) = u h := by
  simp only [putM]
  rw [if_neg (by omega), if_pos (by omega)]
  congr 1; omega
theorem putM_2 (R : Nat → Nat) (base s s' : Nat) (u u' : Nat → Nat) : putM (putM R base s u) base s' u' = putM R base s' u' := by
  funext k
  simp only [putM]
  split
  · rfl
  · split <;> rfl
theorem putM_lt {R : Nat → Nat} {base s : Nat} {u : Nat → Nat} {B : Nat} (hR : ∀ k, R k < B) (hs : s < B) (hu : ∀ k, u k < B) : ∀ k, putM R base s u k < B := by
  intro k
  simp only [putM]
  split
  · exact hs
  · split
    · exact hu _
    · exact hR _
theorem srtO_eq {P R : Nat → Nat} (h : eqP P R) {sk j : Nat} (hj : j < 5) : srtO P sk j = srtO R sk j := by
  unfold srtO
  rw [h _ (by omega)]
theorem turnA_eq {P R : Nat → Nat} (e : eqP P R) {sk h s : Nat} (hh : h < 5) (ht : P (4 + 4 * h + 2) ≤ h) : turnA P sk h s = turnA R sk h s := by
  unfold turnA
  rw [← e (4 + 4 * h + 2) (by omega)]
  rw [srtO_eq e (by omega)]
theorem toA_eq {P R : Nat → Nat} (e : eqP P R) {sk kd h s : Nat} (hh : h < 5) : toA P sk kd h s = toA R sk kd h s := by
  unfold toA
  rw [srtO_eq e hh]
theorem turnsA_eq {P R : Nat → Nat} (e : eqP P R) {sk kd h s : Nat} {u : Nat → Nat} (hh : h < 5) : turnsA P sk kd h s u ↔ turnsA R sk kd h s u := by
  unfold turnsA
  rw [srtO_eq e hh, toA_eq e hh]
theorem stA_eq {P R : Nat → Nat} (e : eqP P R) {sk kd h s : Nat} {u : Nat → Nat} (hh : h < 5) (ht : P (4 + 4 * h + 2) ≤ h) : stA P sk kd h s u = stA R sk kd h s u := by
  unfold stA
  by_cases c : turnsA P sk kd h s u
  · rw [if_pos c, if_pos ((turnsA_eq e hh).mp c), turnA_eq e hh ht]
  · rw [if_neg c, if_neg (fun q => c ((turnsA_eq e hh).mpr q))]
theorem goA_eq {P R : Nat → Nat} (hP : okP P) (e : eqP P R) {sk kd : Nat} : ∀ (n h s : Nat) (u : Nat → Nat), h < P 2 → goA P sk kd n h s u = goA R sk kd n h s u := by
  intro n
  induction n with
  | zero => intros; rfl
  | succ n ih =>
    intro h s u hh
    have h5 : h < 5 := by have := hP.2.2.1; omega
    have ht := (hP.2.2.2.2.1 h hh).2.2.1
    have hw := wayA_lt hP (sk := sk) (kd := kd) (s := s) hh
    have hto : toA P sk kd h s ≤ 1 := toA_le
    have h6 := hP.1
    unfold goA
    rw [← toA_eq e h5, ← e (4 + 4 * h + toA P sk kd h s) (by omega), ← stA_eq e h5 ht]
    split
    · rfl
    · exact ih _ _ _ (by omega)
theorem eqP_put {R : Nat → Nat} {base s : Nat} {u : Nat → Nat} : eqP (putM R base s u) R := fun k hk => putM_lo (by omega)
/-- what a passing writes, when the ewe pushes, when it turns -/
theorem passR1 {R : Nat → Nat} {sk base kd h : Nat} (hh : h < 5) (ht : R (4 + 4 * h + 2) ≤ h) (hk : kd = 1) (c : srtO R sk h = 0 ∨ (srtO R sk h = 1 ∧ (R (base + 41 + h) + 1) % 3 = 0)) : va_up (va_up R (base + 41 + h) (R (base + 41 + h) + 1)) (base + 40) (turnA (va_up R (base + 41 + h) (R (base + 41 + h) + 1)) sk h (va_up R (base + 41 + h) (R (base + 41 + h) + 1) (base + 40))) = putM R base (stA R sk kd h (R (base + 40)) (uM R base)) (pushA kd h (uM R base)) := by
  have e1 : va_up R (base + 41 + h) (R (base + 41 + h) + 1) = putM R base (R (base + 40)) (pushA kd h (uM R base)) := by
    rw [pushA, if_pos hk, uM_at hh, ← putM_u _ _ _ _ _ _ hh, putM_idu]
  rw [e1, putM_s, putM_at, turnA_eq eqP_put hh (by rw [putM_lo (by omega)]; exact ht)]
  congr 1
  rw [stA, if_pos (Or.inl ⟨hk, by rw [uM_at hh]; exact c⟩)]
theorem passR2 {R : Nat → Nat} {sk base kd h : Nat} (hh : h < 5) (hk : kd = 1) (c : ¬ (srtO R sk h = 0 ∨ (srtO R sk h = 1 ∧ (R (base + 41 + h) + 1) % 3 = 0))) : va_up R (base + 41 + h) (R (base + 41 + h) + 1) = putM R base (stA R sk kd h (R (base + 40)) (uM R base)) (pushA kd h (uM R base)) := by
  rw [pushA, if_pos hk, uM_at hh, ← putM_u _ _ _ _ _ _ hh, stA, if_neg (fun q => q.elim (fun q => c (by have := q.2; rw [uM_at hh] at this; exact this)) (fun q => q.1 hk)), putM_idu]
theorem passR3 {R : Nat → Nat} {sk base kd h : Nat} (hk : ¬ kd = 1) (c : toA R sk kd h (R (base + 40)) ≠ R (base + 40) / 2 ^ h % 2) : va_up R (base + 40) (turnA R sk h (R (base + 40))) = putM R base (stA R sk kd h (R (base + 40)) (uM R base)) (pushA kd h (uM R base)) := by
  rw [pushA, if_neg hk, ← putM_s R base (R (base + 40)), putM_idu, stA, if_pos (Or.inr ⟨hk, c⟩)]
theorem passR4 {R : Nat → Nat} {sk base kd h : Nat} (hk : ¬ kd = 1) (c : toA R sk kd h (R (base + 40)) = R (base + 40) / 2 ^ h % 2) : R = putM R base (stA R sk kd h (R (base + 40)) (uM R base)) (pushA kd h (uM R base)) := by
  rw [pushA, if_neg hk, stA, if_neg (fun q => q.elim (fun q => hk q.1) (fun q => q.2 c)), putM_idu]
/-- numbers of pushes are told for five hurdles only -/
def Z5 (u : Nat → Nat) : Prop := ∀ k, 5 ≤ k → u k = 0
theorem Z5_uM (R : Nat → Nat) (base : Nat) : Z5 (uM R base) := fun k hk => if_neg (by omega)
theorem Z5_push {kd h : Nat} {u : Nat → Nat} (hh : h < 5) (hu : Z5 u) : Z5 (pushA kd h u) := by
  intro k hk
  unfold pushA
  split
  · show (if k = h then u h + 1 else u k) = 0
    rw [if_neg (by omega)]
    exact hu k hk
  · exact hu k hk
theorem uM_put {R : Nat → Nat} {base s : Nat} {u : Nat → Nat} (hu : Z5 u) : uM (putM R base s u) base = u := by
  funext k
  by_cases hk : k < 5
  · rw [uM_at hk, putM_pu hk]
  · rw [hu k (by omega)]
    exact if_neg hk
theorem Z5_goA {P : Nat → Nat} (hP : okP P) {sk kd : Nat} : ∀ (n h s : Nat) (u : Nat → Nat), h < P 2 → Z5 u → Z5 (goA P sk kd n h s u).2.2 := by
  intro n
  induction n with
  | zero => intro h s u _ hu; exact hu
  | succ n ih =>
    intro h s u hh hu
    have hw := wayA_lt hP (sk := sk) (kd := kd) (s := s) hh
    have h6 := hP.1
    unfold goA
    split
    · exact Z5_push (okP_5 hP hh) hu
    · exact ih _ _ _ (by omega) (Z5_push (okP_5 hP hh) hu)
theorem passR_put {R : Nat → Nat} (hP : okP R) {sk base kd h s : Nat} {u : Nat → Nat} (hh : h < R 2) (hu : Z5 u) : putM (putM R base s u) base (stA (putM R base s u) sk kd h (putM R base s u (base + 40)) (uM (putM R base s u) base)) (pushA kd h (uM (putM R base s u) base)) = putM R base (stA R sk kd h s u) (pushA kd h u) := by
  rw [putM_2, uM_put hu, putM_at, stA_eq eqP_put (okP_5 hP hh) (by rw [putM_lo (by have := okP_5 hP hh; omega)]; exact okP_t hP hh)]
theorem pushA_le5 {kd h : Nat} {u : Nat → Nat} {B : Nat} (hu : ∀ k, u k ≤ B) : ∀ k, pushA kd h u k ≤ B + 1 := pushA_le hu
theorem goA_le {P : Nat → Nat} {sk kd : Nat} : ∀ (n h s : Nat) (u : Nat → Nat) (B : Nat), (∀ k, u k ≤ B) → ∀ k, (goA P sk kd n h s u).2.2 k ≤ B + n := by
  intro n
  induction n with
  | zero => intro h s u B hu; exact hu
  | succ n ih =>
    intro h s u B hu k
    unfold goA
    split
    · exact Nat.le_trans (pushA_le hu k) (by omega)
    · have := ih (P (4 + 4 * h + toA P sk kd h s) - 10) (stA P sk kd h s u) (pushA kd h u) (B + 1) (pushA_le hu) k
      omega
set_option maxRecDepth 20000 in
theorem c_X6_pass (g : gG) (q : Nat → Nat) (Na : Nat → Nat → Nat) (Ia : Nat → Nat → Int32) (Ns : Nat → Nat) (Is : Nat → Int32) (base : Nat) (h : Nat) (kd : Nat) (sk : Nat) (hs : Is 12 = skI sk) (hP : okP (Na 0)) (hb : base = 0 ∨ base = 174) (hh : h < Na 0 2) (hu : Na 0 (base + 41 + h) < 2000000000) (hS : Na 0 (base + 40) < 32) (hk : kd ≤ 5) : gCon g mX6_pass 2 0 0 [.ref (q 26), .int (nI base), .int (nI h), .int (nI kd)] (wM g q Na Ia Ns Is) (fun rv ws' => rv = some (.int (nI (toA (Na 0) sk kd h ((Na 0) (base + 40))))) ∧ ws' = (wM g q (va_up Na 0 (putM (Na 0) base (stA (Na 0) sk kd h ((Na 0) (base + 40)) (uM (Na 0) base)) (pushA kd h (uM (Na 0) base)))) Ia Ns Is)) := by
  refine gCon.of (lv := [(0, .ref (q 26)), (1, .int (nI base)), (2, .int (nI h)), (3, .int (nI kd))]) (by decide) (gLe rfl) rfl ?_
  have h5 := okP_5 hP hh
  have ht := okP_t hP hh
  refine j_aload_n 1 dX6_pass_0 rfl 0 rfl ?_
  refine j_getf 4 0 dX6_pass_1 rfl fd_X6_7 rfl rfl ?_
  refine j_iload_n 5 dX6_pass_4 rfl 1 rfl ?_
  refine j_bipush (v := (40 : Int32)) 7 dX6_pass_5 rfl (by decide) ?_
  refine j_iaddN base 40 8 dX6_pass_7 rfl ?_
  refine j_ialdN (base + 40) 9 1 dX6_pass_8 rfl rfl (by omega) (by decide) ?_
  refine j_iload_n 10 dX6_pass_9 rfl 2 rfl ?_
  refine j_ishrN ((Na 0) (base + 40)) h 11 dX6_pass_10 rfl (by omega) (by omega) ?_
  refine j_iconst (v := (1 : Int32)) 12 dX6_pass_11 rfl (by decide) ?_
  refine j_iandN (((Na 0) (base + 40)) / 2 ^ h) 1 13 dX6_pass_12 rfl ?_
  refine j_topN ((((Na 0) (base + 40)) / 2 ^ h) &&& 1) (Na 0 (base + 40) / 2 ^ h % 2) (by rw [Nat.and_one_is_mod]) ?_
  refine j_istore 15 [(4, .int (nI (Na 0 (base + 40) / 2 ^ h % 2))), (0, .ref (q 26)), (1, .int (nI base)), (2, .int (nI h)), (3, .int (nI kd))] dX6_pass_13 rfl (by decide) rfl ?_
  have hC73 : ∀ (zto : Nat), (zto = toA (Na 0) sk kd h (Na 0 (base + 40))) → gJ g mX6_pass 2 0 0 (fun k' j' rv ws' => k' ≤ 0 ∧ j' ≤ 0 ∧ (rv = some (.int (nI (toA (Na 0) sk kd h ((Na 0) (base + 40))))) ∧ ws' = (wM g q (va_up Na 0 (putM (Na 0) base (stA (Na 0) sk kd h ((Na 0) (base + 40)) (uM (Na 0) base)) (pushA kd h (uM (Na 0) base)))) Ia Ns Is))) 0 0 73 [(4, .int (nI (Na 0 (base + 40) / 2 ^ h % 2))), (0, .ref (q 26)), (1, .int (nI base)), (2, .int (nI h)), (3, .int (nI kd))] [.int (nI zto)] (wM g q Na Ia Ns Is) := by
    intro zto hto
    refine j_istore 75 [(6, .int (nI zto)), (4, .int (nI (Na 0 (base + 40) / 2 ^ h % 2))), (0, .ref (q 26)), (1, .int (nI base)), (2, .int (nI h)), (3, .int (nI kd))] dX6_pass_73 rfl (by decide) rfl ?_
    refine j_iload_n 76 dX6_pass_75 rfl 5 rfl ?_
    refine j_iconst (v := (1 : Int32)) 77 dX6_pass_76 rfl (by decide) ?_
    refine j_icmp_neN kd 1 80 89 dX6_pass_77 rfl rfl (by omega) (by decide) (fun h77 => ?_) (fun h77 => ?_)
    ·
      refine j_iload 91 dX6_pass_89 rfl 0 rfl ?_
      refine j_iload 93 dX6_pass_91 rfl 1 rfl ?_
      refine j_icmp_eqN zto (Na 0 (base + 40) / 2 ^ h % 2) 96 100 dX6_pass_93 rfl rfl (by have z0 := (toA_le : toA (Na 0) sk kd h (Na 0 (base + 40)) ≤ 1); have z1 := hto; omega) (by have z0 := (Nat.mod_lt (Na 0 (base + 40) / 2 ^ h) (by decide : 0 < 2)); omega) (fun h93 => ?_) (fun h93 => ?_)
      ·
        refine j_iconst (v := (0 : Int32)) 101 dX6_pass_100 rfl (by decide) ?_
        refine j_istore 103 [(7, .int (0 : Int32)), (6, .int (nI zto)), (4, .int (nI (Na 0 (base + 40) / 2 ^ h % 2))), (0, .ref (q 26)), (1, .int (nI base)), (2, .int (nI h)), (3, .int (nI kd))] dX6_pass_101 rfl (by decide) rfl ?_
        refine j_iload 105 dX6_pass_103 rfl 0 rfl ?_
        refine j_if_eqN 0 108 114 dX6_pass_105 rfl rfl (by decide) (fun h105 => ?_) (fun h105 => absurd h105 (by decide))
        refine j_iload 116 dX6_pass_114 rfl 1 rfl ?_
        refine j_iretI dX6_pass_116 rfl ⟨gLe rfl, gLe rfl, ?_⟩
        refine ⟨by rw [hto], congrArg (fun z => wM g q (va_up Na 0 z) Ia Ns Is) ?_⟩
        first
          | exact passR1 h5 ht h77 h105
          | exact passR2 h5 h77 h105
          | exact passR3 h77 (by rw [← hto]; exact h93)
          | exact passR4 h77 (by rw [← hto]; exact h93)
      ·
        refine j_iconst (v := (1 : Int32)) 97 dX6_pass_96 rfl (by decide) ?_
        refine j_goto 101 dX6_pass_97 rfl ?_
        refine j_istore 103 [(7, .int (1 : Int32)), (6, .int (nI zto)), (4, .int (nI (Na 0 (base + 40) / 2 ^ h % 2))), (0, .ref (q 26)), (1, .int (nI base)), (2, .int (nI h)), (3, .int (nI kd))] dX6_pass_101 rfl (by decide) rfl ?_
        refine j_iload 105 dX6_pass_103 rfl 0 rfl ?_
        refine j_if_eqN 1 108 114 dX6_pass_105 rfl rfl (by decide) (fun h105 => absurd h105 (by decide)) (fun h105 => ?_)
        refine j_aload_n 109 dX6_pass_108 rfl 3 rfl ?_
        refine j_iload_n 110 dX6_pass_109 rfl 4 rfl ?_
        refine j_iload_n 111 dX6_pass_110 rfl 5 rfl ?_
        refine j_callVW (rest := []) 114 (c_X6_turn g q Na Ia Ns Is base h sk hs hP hb hh) [] dX6_pass_111 rfl cv_X6_176 rfl rfl 0 rfl rfl (gLe rfl) (gLe rfl) (gLe rfl) (gLe rfl) (wM_len _ _ _ _ _ _ _ _ _ _) rfl ?_
        refine j_iload 116 dX6_pass_114 rfl 1 rfl ?_
        refine j_iretI dX6_pass_116 rfl ⟨gLe rfl, gLe rfl, ?_⟩
        refine ⟨by rw [hto], congrArg (fun z => wM g q (va_up Na 0 z) Ia Ns Is) ?_⟩
        first
          | exact passR1 h5 ht h77 h105
          | exact passR2 h5 h77 h105
          | exact passR3 h77 (by rw [← hto]; exact h93)
          | exact passR4 h77 (by rw [← hto]; exact h93)
    ·
      refine j_aload_n 81 dX6_pass_80 rfl 2 rfl ?_
      refine j_iload_n 82 dX6_pass_81 rfl 3 rfl ?_
      refine j_iload_n 83 dX6_pass_82 rfl 4 rfl ?_
      refine j_callVW (rest := []) 86 (c_X6_push g q Na Ia Ns Is base h sk (by first | assumption | omega) (by first | assumption | omega) (by first | assumption | omega) (by first | assumption | omega) (by first | assumption | omega)) [.int (gB (srtO (Na 0) sk h = 0 ∨ (srtO (Na 0) sk h = 1 ∧ ((Na 0) (base + 41 + h) + 1) % 3 = 0)))] dX6_pass_83 rfl cv_X6_173 rfl rfl 0 rfl rfl (gLe rfl) (gLe rfl) (gLe rfl) (gLe rfl) (wM_len _ _ _ _ _ _ _ _ _ _) rfl ?_
      refine j_goto 101 dX6_pass_86 rfl ?_
      refine j_istore 103 [(7, .int (gB (srtO (Na 0) sk h = 0 ∨ (srtO (Na 0) sk h = 1 ∧ ((Na 0) (base + 41 + h) + 1) % 3 = 0)))), (6, .int (nI zto)), (4, .int (nI (Na 0 (base + 40) / 2 ^ h % 2))), (0, .ref (q 26)), (1, .int (nI base)), (2, .int (nI h)), (3, .int (nI kd))] dX6_pass_101 rfl (by decide) rfl ?_
      refine j_iload 105 dX6_pass_103 rfl 0 rfl ?_
      refine j_if_eqB 108 114 dX6_pass_105 rfl rfl (fun h105 => ?_) (fun h105 => ?_)
      ·
        refine j_iload 116 dX6_pass_114 rfl 1 rfl ?_
        refine j_iretI dX6_pass_116 rfl ⟨gLe rfl, gLe rfl, ?_⟩
        refine ⟨by rw [hto], congrArg (fun z => wM g q (va_up Na 0 z) Ia Ns Is) ?_⟩
        first
          | exact passR1 h5 ht h77 h105
          | exact passR2 h5 h77 h105
          | exact passR3 h77 (by rw [← hto]; exact h93)
          | exact passR4 h77 (by rw [← hto]; exact h93)
      ·
        refine j_aload_n 109 dX6_pass_108 rfl 3 rfl ?_
        refine j_iload_n 110 dX6_pass_109 rfl 4 rfl ?_
        refine j_iload_n 111 dX6_pass_110 rfl 5 rfl ?_
        refine j_callVW (rest := []) 114 (c_X6_turn g q (va_up Na 0 (va_up (Na 0) (base + 41 + h) ((Na 0) (base + 41 + h) + 1))) Ia Ns Is base h sk hs (okP_eq (eqP_up (by omega)) hP) hb (by show h < va_up (Na 0) _ _ 2; rw [va_up_n (by omega)]; exact hh)) [] dX6_pass_111 rfl cv_X6_176 rfl rfl 0 rfl rfl (gLe rfl) (gLe rfl) (gLe rfl) (gLe rfl) (wM_len _ _ _ _ _ _ _ _ _ _) rfl ?_
        refine j_iload 116 dX6_pass_114 rfl 1 rfl ?_
        refine j_iretI dX6_pass_116 rfl ⟨gLe rfl, gLe rfl, ?_⟩
        refine ⟨by rw [hto], congrArg (fun z => wM g q (va_up Na 0 z) Ia Ns Is) ?_⟩
        first
          | exact passR1 h5 ht h77 h105
          | exact passR2 h5 h77 h105
          | exact passR3 h77 (by rw [← hto]; exact h93)
          | exact passR4 h77 (by rw [← hto]; exact h93)
  refine j_aload_n 16 dX6_pass_15 rfl 1 rfl ?_
  refine j_iload_n 17 dX6_pass_16 rfl 3 rfl ?_
  refine j_callVW (rest := []) 20 (c_X6_sortOf g q Na Ia Ns Is h sk (by first | assumption | omega) (by first | assumption | omega)) [.int (nI (srtO (Na 0) sk h))] dX6_pass_17 rfl cv_X6_170 rfl rfl 0 rfl rfl (gLe rfl) (gLe rfl) (gLe rfl) (gLe rfl) (wM_len _ _ _ _ _ _ _ _ _ _) rfl ?_
  refine j_iconst (v := (2 : Int32)) 21 dX6_pass_20 rfl (by decide) ?_
  refine j_icmp_neN (srtO (Na 0) sk h) 2 24 28 dX6_pass_21 rfl rfl (by have z0 := (okP_s hP hh : srtO (Na 0) sk h ≤ 2); omega) (by decide) (fun h21 => ?_) (fun h21 => ?_)
  ·
    refine j_iconst (v := (0 : Int32)) 29 dX6_pass_28 rfl (by decide) ?_
    refine j_istore 31 [(5, .int (0 : Int32)), (4, .int (nI (Na 0 (base + 40) / 2 ^ h % 2))), (0, .ref (q 26)), (1, .int (nI base)), (2, .int (nI h)), (3, .int (nI kd))] dX6_pass_29 rfl (by decide) rfl ?_
    refine j_iload 33 dX6_pass_31 rfl 0 rfl ?_
    refine j_if_eqN 0 36 41 dX6_pass_33 rfl rfl (by decide) (fun h33 => ?_) (fun h33 => absurd h33 (by decide))
    refine j_iload_n 42 dX6_pass_41 rfl 5 rfl ?_
    refine j_iconst (v := (2 : Int32)) 43 dX6_pass_42 rfl (by decide) ?_
    refine j_icmp_neN kd 2 46 53 dX6_pass_43 rfl rfl (by omega) (by decide) (fun h43 => ?_) (fun h43 => ?_)
    ·
      refine j_iload_n 54 dX6_pass_53 rfl 5 rfl ?_
      refine j_iconst (v := (4 : Int32)) 55 dX6_pass_54 rfl (by decide) ?_
      refine j_icmp_neN kd 4 58 62 dX6_pass_55 rfl rfl (by omega) (by decide) (fun h55 => ?_) (fun h55 => ?_)
      ·
        refine j_iload_n 63 dX6_pass_62 rfl 5 rfl ?_
        refine j_iconst (v := (5 : Int32)) 64 dX6_pass_63 rfl (by decide) ?_
        refine j_icmp_neN kd 5 67 71 dX6_pass_64 rfl rfl (by omega) (by decide) (fun h64 => ?_) (fun h64 => ?_)
        ·
          refine j_iload 73 dX6_pass_71 rfl 1 rfl ?_
          refine j_lv [1, 2, 3, 4, 5] rfl ?_
          exact hC73 (Na 0 (base + 40) / 2 ^ h % 2) (by rw [toA, if_neg h21, if_neg h43, if_neg h55, if_neg h64])
        ·
          refine j_iconst (v := (1 : Int32)) 68 dX6_pass_67 rfl (by decide) ?_
          refine j_goto 73 dX6_pass_68 rfl ?_
          refine j_lv [1, 2, 3, 4, 5] rfl ?_
          exact hC73 1 (by rw [toA, if_neg h21, if_neg h43, if_neg h55, if_pos h64])
      ·
        refine j_iconst (v := (0 : Int32)) 59 dX6_pass_58 rfl (by decide) ?_
        refine j_goto 73 dX6_pass_59 rfl ?_
        refine j_lv [1, 2, 3, 4, 5] rfl ?_
        exact hC73 0 (by rw [toA, if_neg h21, if_neg h43, if_pos h55])
    ·
      refine j_iconst (v := (1 : Int32)) 47 dX6_pass_46 rfl (by decide) ?_
      refine j_iload 49 dX6_pass_47 rfl 1 rfl ?_
      refine j_isubN 1 (Na 0 (base + 40) / 2 ^ h % 2) 50 dX6_pass_49 rfl (by have := Nat.mod_lt (Na 0 (base + 40) / 2 ^ h) (by decide : 0 < 2); omega) ?_
      refine j_goto 73 dX6_pass_50 rfl ?_
      refine j_lv [1, 2, 3, 4, 5] rfl ?_
      exact hC73 (1 - (Na 0 (base + 40) / 2 ^ h % 2)) (by rw [toA, if_neg h21, if_pos h43])
  ·
    refine j_iconst (v := (1 : Int32)) 25 dX6_pass_24 rfl (by decide) ?_
    refine j_goto 29 dX6_pass_25 rfl ?_
    refine j_istore 31 [(5, .int (1 : Int32)), (4, .int (nI (Na 0 (base + 40) / 2 ^ h % 2))), (0, .ref (q 26)), (1, .int (nI base)), (2, .int (nI h)), (3, .int (nI kd))] dX6_pass_29 rfl (by decide) rfl ?_
    refine j_iload 33 dX6_pass_31 rfl 0 rfl ?_
    refine j_if_eqN 1 36 41 dX6_pass_33 rfl rfl (by decide) (fun h33 => absurd h33 (by decide)) (fun h33 => ?_)
    refine j_iload 38 dX6_pass_36 rfl 1 rfl ?_
    refine j_goto 73 dX6_pass_38 rfl ?_
    refine j_lv [1, 2, 3, 4, 5] rfl ?_
    exact hC73 (Na 0 (base + 40) / 2 ^ h % 2) (by rw [toA, if_pos h21])
