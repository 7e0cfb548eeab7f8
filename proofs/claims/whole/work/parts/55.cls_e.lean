section GBY
variable {g : gG} {y : gM} {d rc rs : Nat} {Post : Nat → Nat → Option Value → va_W → Prop} {k j pc : Nat} {lv : List (Nat × Value)} {st : List Value} {ws : va_W}
theorem nar_b : ∀ x : Nat, x < 128 → vp_nar .byte (nI x) = nI x := by decide
theorem j_bastN {a N : Nat} {f : Nat → Nat} (x i : Nat) (n q0 : Nat) (ws2 : va_W) (hd : decode y.2.1 pc = .ok (.bastore, 1)) (hn : pc + 1 = n) (he : ws[q0]? = some (a, .inl (g.2.1 1, N, .inl (nF f)))) (hi : i < N) (hN : N < 2147483648) (hx : x < 128) (hw2 : ws.set q0 (a, .inl (g.2.1 1, N, .inl (nF (va_up f i x)))) = ws2) (kk : gJ g y d rc rs Post k j n lv st ws2) : gJ g y d rc rs Post k j pc lv (.int (nI x) :: .int (nI i) :: .ref a :: st) ws :=
  j_bast n q0 ws2 hd hn he (vp_in_nI hi hN) (by rw [nI_clamp (by omega), nar_b x hx, nF_up]; exact hw2) kk
end GBY
def sfN (F : Nat → Int32) : Nat → Nat
  | 0 => 0
  | s + 1 => sfN F s + (if ¬ F s < 0 then 1 else 0)
theorem sfN_le (F : Nat → Int32) : ∀ s, sfN F s ≤ s
  | 0 => Nat.le_refl 0
  | s + 1 => by
    have h := sfN_le F s
    show sfN F s + _ ≤ s + 1
    split <;> omega
theorem sfN_up {F : Nat → Int32} {x n : Nat} (h : F x < 0) (hn : ¬ nI n < 0) : ∀ m, sfN (upd F x (nI n)) m = sfN F m + (if x < m then 1 else 0)
  | 0 => by rw [if_neg (Nat.not_lt_zero _)]; rfl
  | m + 1 => by
    have ih := sfN_up h hn m
    show sfN (upd F x (nI n)) m + (if ¬ upd F x (nI n) m < 0 then 1 else 0) = sfN F m + (if ¬ F m < 0 then 1 else 0) + (if x < m + 1 then 1 else 0)
    rw [ih]
    by_cases e : m = x
    · have e1 : upd F x (nI n) m = nI n := if_pos e
      have e2 : F m < 0 := by rw [e]; exact h
      rw [e1, if_pos hn, if_neg (show ¬ ¬ F m < 0 from fun y => y e2), if_neg (show ¬ x < m by omega), if_pos (show x < m + 1 by omega)]
    · have e1 : upd F x (nI n) m = F m := if_neg e
      have e2 : (if x < m then 1 else 0) = (if x < m + 1 then 1 else 0 : Nat) := by split <;> split <;> omega
      rw [e1, e2, Nat.add_right_comm]
theorem sfN_m1 {F : Nat → Int32} : ∀ m, (∀ s, s < m → F s < 0) → sfN F m = 0
  | 0, _ => rfl
  | m + 1, h => by
    show sfN F m + (if ¬ F m < 0 then 1 else 0) = 0
    rw [sfN_m1 m (fun s hs => h s (by omega)), if_neg (fun y => y (h m (by omega)))]
/-- a state is noted, if it is new -/
def ntN (Pr : Nat → Int32) (c n : Nat) : Nat := if Pr c = -1 then n + 1 else n
def ntC (Pr : Nat → Int32) (C : Nat → Nat) (c n x : Nat) : Nat → Nat := if Pr c = -1 then va_up C n x else C
def ntP (Pr : Nat → Int32) (c : Nat) (x : Int32) : Nat → Int32 := if Pr c = -1 then upd Pr c x else Pr
def ntF (Pr F : Nat → Int32) (c s : Nat) : Nat → Int32 := if Pr c = -1 then (if F s = -1 then upd F s (nI c) else F) else F
section GTK
variable {g : gG} {y : gM} {d rc rs : Nat} {Post : Nat → Nat → Option Value → va_W → Prop} {k j pc : Nat} {lv : List (Nat × Value)} {st : List Value}
/-- cells that nobody needs any more are left out -/
theorem j_drop (W1 W2 : va_W) (kk : gJ g y d rc rs Post k j pc lv st W1) : gJ g y d rc rs Post k j pc lv st (W1 ++ W2) := by
  intro p l e R s m args below meth c A Q X ex H locs ls hlv hP hD hS
  refine kk p l e R s m args below meth c A Q X ex H locs ls hlv (va_P_mem.mpr fun q hq => va_P_mem.mp hP q (List.mem_append_left _ hq)) ?_ hS
  rw [va_D_nd] at hD ⊢
  refine ⟨?_, fun q hq => hD.2 q (List.mem_append_left _ hq)⟩
  have h := hD.1
  rw [List.map_append, List.nodup_append] at h
  exact h.1
theorem perm6 {α : Type} (a b c e f x : α) : List.Perm [a, b, c, e, f, x] ([a, f, x, e] ++ [b, c]) :=
  List.Perm.cons a ((List.perm_append_comm (l₁ := [b, c, e]) (l₂ := [f, x])).trans (List.Perm.append_left [f, x] (List.perm_append_comm (l₁ := [b, c]) (l₂ := [e]))))
theorem nI_nn {n : Nat} (h : n ≤ 100000) : ¬ nI n < 0 := fun q => by
  have := i32_neg.mp q
  rw [nI_toInt (by omega)] at this
  omega
end GTK
set_option maxRecDepth 20000 in
theorem c_X2_isCode (g : gG) (ea : Nat) (et : Nat) (el : Option Nat) (es : Nat) (em : Nat) (en : Nat) (ew : Nat) (ec : Nat) (ep : Nat) (ef : Nat) (eM : Nat) (zeC : Nat → Nat) (zeP : Nat → Int32) (zeF : Nat → Int32) (c : Nat)  (hM : eM ≤ 7776) (hc : c < eM) : gCon g mX2_isCode 0 0 0 [.ref ea, .int (nI c)] [(ea, .inr (2, [.ref et, va_rf el, .int (nI es), .int (nI em), .int (nI en), .int (nI ew), .ref ec, .ref ep, .ref ef])), (ec, .inl (g.2.1 0, eM, .inl (nF zeC))), (ep, .inl (g.2.1 0, eM, .inl zeP)), (ef, .inl (g.2.1 0, 32, .inl zeF))] (fun rv ws' => rv = some (.int (1 : Int32)) ∧ ws' = [(ea, .inr (2, [.ref et, va_rf el, .int (nI es), .int (nI em), .int (nI en), .int (nI ew), .ref ec, .ref ep, .ref ef])), (ec, .inl (g.2.1 0, eM, .inl (nF zeC))), (ep, .inl (g.2.1 0, eM, .inl zeP)), (ef, .inl (g.2.1 0, 32, .inl zeF))]) := by
  refine gCon.of (lv := [(0, .ref ea), (1, .int (nI c))]) (by decide) (gLe rfl) rfl ?_
  refine j_iload_n 1 dX2_isCode_0 rfl 1 rfl ?_
  refine j_if_ltN c 4 dX2_isCode_1 rfl (t := 17) rfl (by have z0 := hc; have z1 := hM; omega) ?_
  refine j_iload_n 5 dX2_isCode_4 rfl 1 rfl ?_
  refine j_aload_n 6 dX2_isCode_5 rfl 0 rfl ?_
  refine j_getf 9 0 dX2_isCode_6 rfl fd_X2_32 rfl rfl ?_
  refine j_alen (t0 := 0) (v := nI eM) 10 2 dX2_isCode_9 rfl rfl rfl rfl ?_
  refine j_icmp_geN c eM 13 17 dX2_isCode_10 rfl rfl (by have z0 := hc; have z1 := hM; omega) (by have z0 := hM; omega) (fun h10 => absurd h10 (by omega)) (fun h10 => ?_)
  refine j_iconst (v := (1 : Int32)) 14 dX2_isCode_13 rfl (by decide) ?_
  refine j_goto 18 dX2_isCode_14 rfl ?_
  exact j_iret dX2_isCode_18 rfl (by decide) ⟨gLe rfl, gLe rfl, rfl, rfl⟩
set_option maxRecDepth 20000 in
theorem c_X2_isBehindOther (g : gG) (ea : Nat) (et : Nat) (el : Option Nat) (es : Nat) (em : Nat) (en : Nat) (ew : Nat) (ec : Nat) (ep : Nat) (ef : Nat) (eM : Nat) (zeC : Nat → Nat) (zeP : Nat → Int32) (zeF : Nat → Int32) (c : Nat)  (hM : eM ≤ 7776) (hc : c < eM) : gCon g mX2_isBehindOther 1 0 0 [.ref ea, .int (nI c)] [(ea, .inr (2, [.ref et, va_rf el, .int (nI es), .int (nI em), .int (nI en), .int (nI ew), .ref ec, .ref ep, .ref ef])), (ec, .inl (g.2.1 0, eM, .inl (nF zeC))), (ep, .inl (g.2.1 0, eM, .inl zeP)), (ef, .inl (g.2.1 0, 32, .inl zeF))] (fun rv ws' => rv = some (.int (gB (¬ zeP c < 0))) ∧ ws' = [(ea, .inr (2, [.ref et, va_rf el, .int (nI es), .int (nI em), .int (nI en), .int (nI ew), .ref ec, .ref ep, .ref ef])), (ec, .inl (g.2.1 0, eM, .inl (nF zeC))), (ep, .inl (g.2.1 0, eM, .inl zeP)), (ef, .inl (g.2.1 0, 32, .inl zeF))]) := by
  refine gCon.of (lv := [(0, .ref ea), (1, .int (nI c))]) (by decide) (gLe rfl) rfl ?_
  refine j_aload_n 1 dX2_isBehindOther_0 rfl 0 rfl ?_
  refine j_iload_n 2 dX2_isBehindOther_1 rfl 1 rfl ?_
  refine j_callV0 (rest := []) 5 [0, 1, 2, 3] (c_X2_isCode g ea et el es em en ew ec ep ef eM zeC zeP zeF c hM hc) [.int (1 : Int32)] [(ea, .inr (2, [.ref et, va_rf el, .int (nI es), .int (nI em), .int (nI en), .int (nI ew), .ref ec, .ref ep, .ref ef])), (ec, .inl (g.2.1 0, eM, .inl (nF zeC))), (ep, .inl (g.2.1 0, eM, .inl zeP)), (ef, .inl (g.2.1 0, 32, .inl zeF))] dX2_isBehindOther_2 rfl cv_X2_94 rfl rfl rfl rfl 0 rfl rfl (gLe rfl) (gLe rfl) (gLe rfl) (gLe rfl) (gLe rfl) rfl rfl ?_
  refine j_if_eqN 1 8 21 dX2_isBehindOther_5 rfl rfl (by decide) (fun h5 => absurd h5 (by decide)) (fun h5 => ?_)
  refine j_aload_n 9 dX2_isBehindOther_8 rfl 0 rfl ?_
  refine j_getf 12 0 dX2_isBehindOther_9 rfl fd_X2_32 rfl rfl ?_
  refine j_iload_n 13 dX2_isBehindOther_12 rfl 1 rfl ?_
  refine j_ialdR c 14 2 dX2_isBehindOther_13 rfl rfl hc (by omega) ?_
  refine j_if_lt 17 21 dX2_isBehindOther_14 rfl rfl (fun h14 => ?_) (fun h14 => ?_)
  ·
    refine j_iconst (v := (0 : Int32)) 22 dX2_isBehindOther_21 rfl (by decide) ?_
    refine j_iret0 (c := ¬ zeP c < 0) dX2_isBehindOther_22 rfl ?_ ⟨gLe rfl, gLe rfl, rfl, rfl⟩
    first
      | exact h14
      | exact fun y => y h14
  ·
    refine j_iconst (v := (1 : Int32)) 18 dX2_isBehindOther_17 rfl (by decide) ?_
    refine j_goto 22 dX2_isBehindOther_18 rfl ?_
    refine j_iret1 (c := ¬ zeP c < 0) dX2_isBehindOther_22 rfl ?_ ⟨gLe rfl, gLe rfl, rfl, rfl⟩
    first
      | exact h14
      | exact fun y => y h14
set_option maxRecDepth 20000 in
theorem c_X2_note (g : gG) (ea : Nat) (et : Nat) (p0 : Nat) (es : Nat) (em : Nat) (en : Nat) (ec : Nat) (ep : Nat) (ef : Nat) (eM : Nat) (zeC : Nat → Nat) (zeP : Nat → Int32) (zeF : Nat → Int32) (p1 : Nat) (p2 : Nat) (p3 : Nat) (p4 : Nat) (p5 : Nat) (p6 : Nat) (yL : Nat → Nat → Nat) (c : Nat) (x : Int32)  (h25 : yL 0 1 ≤ 5) (hM : eM ≤ 7776) (hc : c < eM) (hn : zeP c = -1 → en < eM) (hn2 : en ≤ eM) : gCon g mX2_note 1 0 0 [.ref ea, .int (nI c), .int x] [(ea, .inr (2, [.ref et, .ref p0, .int (nI es), .int (nI em), .int (nI en), .int (nI (sfN zeF 32)), .ref ec, .ref ep, .ref ef])), (ec, .inl (g.2.1 0, eM, .inl (nF zeC))), (ep, .inl (g.2.1 0, eM, .inl zeP)), (ef, .inl (g.2.1 0, 32, .inl zeF)), (p0, .inr (0, [.int (nI (yL 0 0)), .int (nI (yL 0 1)), .int (nI (yL 0 2)), .ref p1, .ref p2, .ref p3, .ref p4, .ref p5, .ref p6])), (p1, .inl (g.2.1 0, 5, .inl (nF (yL 1)))), (p2, .inl (g.2.1 0, 5, .inl (nF (yL 2)))), (p3, .inl (g.2.1 0, 5, .inl (nF (yL 3)))), (p4, .inl (g.2.1 0, 5, .inl (nF (yL 4)))), (p5, .inl (g.2.1 0, 8, .inl (nF (yL 5)))), (p6, .inl (g.2.1 0, 8, .inl (nF (yL 6))))] (fun rv ws' => rv = none ∧ ws' = [(ea, .inr (2, [.ref et, .ref p0, .int (nI es), .int (nI em), .int (nI (ntN zeP c en)), .int (nI (sfN (ntF zeP zeF c (c % 2 ^ yL 0 1)) 32)), .ref ec, .ref ep, .ref ef])), (ec, .inl (g.2.1 0, eM, .inl (nF (ntC zeP zeC c en c)))), (ep, .inl (g.2.1 0, eM, .inl (ntP zeP c x))), (ef, .inl (g.2.1 0, 32, .inl (ntF zeP zeF c (c % 2 ^ yL 0 1)))), (p0, .inr (0, [.int (nI (yL 0 0)), .int (nI (yL 0 1)), .int (nI (yL 0 2)), .ref p1, .ref p2, .ref p3, .ref p4, .ref p5, .ref p6])), (p1, .inl (g.2.1 0, 5, .inl (nF (yL 1)))), (p2, .inl (g.2.1 0, 5, .inl (nF (yL 2)))), (p3, .inl (g.2.1 0, 5, .inl (nF (yL 3)))), (p4, .inl (g.2.1 0, 5, .inl (nF (yL 4)))), (p5, .inl (g.2.1 0, 8, .inl (nF (yL 5)))), (p6, .inl (g.2.1 0, 8, .inl (nF (yL 6))))]) := by
  refine gCon.of (lv := [(0, .ref ea), (1, .int (nI c)), (2, .int x)]) (by decide) (gLe rfl) rfl ?_
  have hs32 : c % 2 ^ yL 0 1 < 32 := Nat.lt_of_lt_of_le (Nat.mod_lt _ (Nat.two_pow_pos _)) (Nat.pow_le_pow_right (n := 2) (by decide) h25)
  refine j_aload_n 1 dX2_note_0 rfl 0 rfl ?_
  refine j_iload_n 2 dX2_note_1 rfl 1 rfl ?_
  refine j_callV0 (rest := []) 5 [0, 1, 2, 3] (c_X2_isCode g ea et p0 es em en (sfN zeF 32) ec ep ef eM zeC zeP zeF c hM hc) [.int (1 : Int32)] [(ea, .inr (2, [.ref et, .ref p0, .int (nI es), .int (nI em), .int (nI en), .int (nI (sfN zeF 32)), .ref ec, .ref ep, .ref ef])), (ec, .inl (g.2.1 0, eM, .inl (nF zeC))), (ep, .inl (g.2.1 0, eM, .inl zeP)), (ef, .inl (g.2.1 0, 32, .inl zeF)), (p0, .inr (0, [.int (nI (yL 0 0)), .int (nI (yL 0 1)), .int (nI (yL 0 2)), .ref p1, .ref p2, .ref p3, .ref p4, .ref p5, .ref p6])), (p1, .inl (g.2.1 0, 5, .inl (nF (yL 1)))), (p2, .inl (g.2.1 0, 5, .inl (nF (yL 2)))), (p3, .inl (g.2.1 0, 5, .inl (nF (yL 3)))), (p4, .inl (g.2.1 0, 5, .inl (nF (yL 4)))), (p5, .inl (g.2.1 0, 8, .inl (nF (yL 5)))), (p6, .inl (g.2.1 0, 8, .inl (nF (yL 6))))] dX2_note_2 rfl cv_X2_94 rfl rfl rfl rfl 0 rfl rfl (gLe rfl) (gLe rfl) (gLe rfl) (gLe rfl) (gLe rfl) rfl rfl ?_
  refine j_if_eqN 1 8 30 dX2_note_5 rfl rfl (by decide) (fun h5 => absurd h5 (by decide)) (fun h5 => ?_)
  refine j_aload_n 9 dX2_note_8 rfl 0 rfl ?_
  refine j_getf 12 0 dX2_note_9 rfl fd_X2_22 rfl rfl ?_
  refine j_aload_n 13 dX2_note_12 rfl 0 rfl ?_
  refine j_getf 16 0 dX2_note_13 rfl fd_X2_28 rfl rfl ?_
  refine j_alen (t0 := 0) (v := nI eM) 17 1 dX2_note_16 rfl rfl rfl rfl ?_
  refine j_icmp_geN en eM 20 30 dX2_note_17 rfl rfl (by have z0 := hn2; have z1 := hM; omega) (by have z0 := hM; omega) (fun h17 => ?_) (fun h17 => ?_)
  ·
    have h27x : ¬ zeP c = -1 := by first | exact h27 | exact fun y => by have y2 := hn y; omega
    refine j_vret dX2_note_30 rfl ⟨gLe rfl, gLe rfl, ?_⟩
    rw [show ntN zeP c en = en from if_neg h27x, show ntC zeP zeC c en c = zeC from if_neg h27x, show ntP zeP c x = zeP from if_neg h27x, show ntF zeP zeF c (c % 2 ^ yL 0 1) = zeF from if_neg h27x]
    exact ⟨rfl, rfl⟩
  ·
    refine j_aload_n 21 dX2_note_20 rfl 0 rfl ?_
    refine j_getf 24 0 dX2_note_21 rfl fd_X2_32 rfl rfl ?_
    refine j_iload_n 25 dX2_note_24 rfl 1 rfl ?_
    refine j_ialdR c 26 2 dX2_note_25 rfl rfl hc (by omega) ?_
    refine j_iconst (v := (-1 : Int32)) 27 dX2_note_26 rfl (by decide) ?_
    refine j_icmp_eq 30 31 dX2_note_27 rfl rfl (fun h27 => ?_) (fun h27 => ?_)
    ·
      have hn5 := hn h27
      refine j_aload_n 32 dX2_note_31 rfl 0 rfl ?_
      refine j_getf 35 0 dX2_note_32 rfl fd_X2_32 rfl rfl ?_
      refine j_iload_n 36 dX2_note_35 rfl 1 rfl ?_
      refine j_iload_n 37 dX2_note_36 rfl 2 rfl ?_
      refine j_iastR c 38 2 [(ea, .inr (2, [.ref et, .ref p0, .int (nI es), .int (nI em), .int (nI en), .int (nI (sfN zeF 32)), .ref ec, .ref ep, .ref ef])), (ec, .inl (g.2.1 0, eM, .inl (nF zeC))), (ep, .inl (g.2.1 0, eM, .inl (upd zeP c x))), (ef, .inl (g.2.1 0, 32, .inl zeF)), (p0, .inr (0, [.int (nI (yL 0 0)), .int (nI (yL 0 1)), .int (nI (yL 0 2)), .ref p1, .ref p2, .ref p3, .ref p4, .ref p5, .ref p6])), (p1, .inl (g.2.1 0, 5, .inl (nF (yL 1)))), (p2, .inl (g.2.1 0, 5, .inl (nF (yL 2)))), (p3, .inl (g.2.1 0, 5, .inl (nF (yL 3)))), (p4, .inl (g.2.1 0, 5, .inl (nF (yL 4)))), (p5, .inl (g.2.1 0, 8, .inl (nF (yL 5)))), (p6, .inl (g.2.1 0, 8, .inl (nF (yL 6))))] dX2_note_37 rfl rfl hc (by omega) rfl ?_
      refine j_aload_n 39 dX2_note_38 rfl 0 rfl ?_
      refine j_getf 42 0 dX2_note_39 rfl fd_X2_28 rfl rfl ?_
      refine j_aload_n 43 dX2_note_42 rfl 0 rfl ?_
      refine j_getf 46 0 dX2_note_43 rfl fd_X2_22 rfl rfl ?_
      refine j_iload_n 47 dX2_note_46 rfl 1 rfl ?_
      refine j_iastN c en 48 1 [(ea, .inr (2, [.ref et, .ref p0, .int (nI es), .int (nI em), .int (nI en), .int (nI (sfN zeF 32)), .ref ec, .ref ep, .ref ef])), (ec, .inl (g.2.1 0, eM, .inl (nF (va_up zeC en c)))), (ep, .inl (g.2.1 0, eM, .inl (upd zeP c x))), (ef, .inl (g.2.1 0, 32, .inl zeF)), (p0, .inr (0, [.int (nI (yL 0 0)), .int (nI (yL 0 1)), .int (nI (yL 0 2)), .ref p1, .ref p2, .ref p3, .ref p4, .ref p5, .ref p6])), (p1, .inl (g.2.1 0, 5, .inl (nF (yL 1)))), (p2, .inl (g.2.1 0, 5, .inl (nF (yL 2)))), (p3, .inl (g.2.1 0, 5, .inl (nF (yL 3)))), (p4, .inl (g.2.1 0, 5, .inl (nF (yL 4)))), (p5, .inl (g.2.1 0, 8, .inl (nF (yL 5)))), (p6, .inl (g.2.1 0, 8, .inl (nF (yL 6))))] dX2_note_47 rfl rfl hn5 (by omega) rfl ?_
      refine j_aload_n 49 dX2_note_48 rfl 0 rfl ?_
      refine j_dup 50 dX2_note_49 rfl rfl ?_
      refine j_getf 53 0 dX2_note_50 rfl fd_X2_22 rfl rfl ?_
      refine j_iconst (v := (1 : Int32)) 54 dX2_note_53 rfl (by decide) ?_
      refine j_iaddN en 1 55 dX2_note_54 rfl ?_
      refine j_putf 58 0 [(ea, .inr (2, [.ref et, .ref p0, .int (nI es), .int (nI em), .int (nI (en + 1)), .int (nI (sfN zeF 32)), .ref ec, .ref ep, .ref ef])), (ec, .inl (g.2.1 0, eM, .inl (nF (va_up zeC en c)))), (ep, .inl (g.2.1 0, eM, .inl (upd zeP c x))), (ef, .inl (g.2.1 0, 32, .inl zeF)), (p0, .inr (0, [.int (nI (yL 0 0)), .int (nI (yL 0 1)), .int (nI (yL 0 2)), .ref p1, .ref p2, .ref p3, .ref p4, .ref p5, .ref p6])), (p1, .inl (g.2.1 0, 5, .inl (nF (yL 1)))), (p2, .inl (g.2.1 0, 5, .inl (nF (yL 2)))), (p3, .inl (g.2.1 0, 5, .inl (nF (yL 3)))), (p4, .inl (g.2.1 0, 5, .inl (nF (yL 4)))), (p5, .inl (g.2.1 0, 8, .inl (nF (yL 5)))), (p6, .inl (g.2.1 0, 8, .inl (nF (yL 6))))] dX2_note_55 rfl fd_X2_22 rfl rfl rfl (gLe rfl) rfl ?_
      refine j_aload_n 59 dX2_note_58 rfl 0 rfl ?_
      refine j_getf 62 0 dX2_note_59 rfl fd_X2_9 rfl rfl ?_
      refine j_iload_n 63 dX2_note_62 rfl 1 rfl ?_
      refine j_callV0 (rest := []) 66 [4, 5, 6, 7, 8, 9, 10] (c_X0_standsIn g p0 p1 p2 p3 p4 p5 p6 yL c h25) [.int (nI (c % 2 ^ yL 0 1))] [(ea, .inr (2, [.ref et, .ref p0, .int (nI es), .int (nI em), .int (nI (en + 1)), .int (nI (sfN zeF 32)), .ref ec, .ref ep, .ref ef])), (ec, .inl (g.2.1 0, eM, .inl (nF (va_up zeC en c)))), (ep, .inl (g.2.1 0, eM, .inl (upd zeP c x))), (ef, .inl (g.2.1 0, 32, .inl zeF)), (p0, .inr (0, [.int (nI (yL 0 0)), .int (nI (yL 0 1)), .int (nI (yL 0 2)), .ref p1, .ref p2, .ref p3, .ref p4, .ref p5, .ref p6])), (p1, .inl (g.2.1 0, 5, .inl (nF (yL 1)))), (p2, .inl (g.2.1 0, 5, .inl (nF (yL 2)))), (p3, .inl (g.2.1 0, 5, .inl (nF (yL 3)))), (p4, .inl (g.2.1 0, 5, .inl (nF (yL 4)))), (p5, .inl (g.2.1 0, 8, .inl (nF (yL 5)))), (p6, .inl (g.2.1 0, 8, .inl (nF (yL 6))))] dX2_note_63 rfl cv_X2_98 rfl rfl rfl rfl 0 rfl rfl (gLe rfl) (gLe rfl) (gLe rfl) (gLe rfl) (gLe rfl) rfl rfl ?_
      refine j_istore_n 67 [(3, .int (nI (c % 2 ^ yL 0 1))), (0, .ref ea), (1, .int (nI c)), (2, .int x)] dX2_note_66 rfl (by decide) rfl ?_
      refine j_aload_n 68 dX2_note_67 rfl 1 rfl ?_
      refine j_getf 71 0 dX2_note_68 rfl fd_X2_35 rfl rfl ?_
      refine j_iload_n 72 dX2_note_71 rfl 0 rfl ?_
      refine j_ialdR (c % 2 ^ yL 0 1) 73 3 dX2_note_72 rfl rfl hs32 (by decide) ?_
      refine j_iconst (v := (-1 : Int32)) 74 dX2_note_73 rfl (by decide) ?_
      refine j_icmp_ne 77 94 dX2_note_74 rfl rfl (fun h74 => ?_) (fun h74 => ?_)
      ·
        refine j_vret dX2_note_94 rfl ⟨gLe rfl, gLe rfl, ?_⟩
        rw [show ntN zeP c en = en + 1 from if_pos h27, show ntC zeP zeC c en c = va_up zeC en c from if_pos h27, show ntP zeP c x = upd zeP c x from if_pos h27, show ntF zeP zeF c (c % 2 ^ yL 0 1) = zeF from (if_pos h27).trans (if_neg h74)]
        exact ⟨rfl, rfl⟩
      ·
        refine j_aload_n 78 dX2_note_77 rfl 1 rfl ?_
        refine j_getf 81 0 dX2_note_78 rfl fd_X2_35 rfl rfl ?_
        refine j_iload_n 82 dX2_note_81 rfl 0 rfl ?_
        refine j_iload_n 83 dX2_note_82 rfl 2 rfl ?_
        refine j_iastR (c % 2 ^ yL 0 1) 84 3 [(ea, .inr (2, [.ref et, .ref p0, .int (nI es), .int (nI em), .int (nI (en + 1)), .int (nI (sfN zeF 32)), .ref ec, .ref ep, .ref ef])), (ec, .inl (g.2.1 0, eM, .inl (nF (va_up zeC en c)))), (ep, .inl (g.2.1 0, eM, .inl (upd zeP c x))), (ef, .inl (g.2.1 0, 32, .inl (upd zeF (c % 2 ^ yL 0 1) (nI c)))), (p0, .inr (0, [.int (nI (yL 0 0)), .int (nI (yL 0 1)), .int (nI (yL 0 2)), .ref p1, .ref p2, .ref p3, .ref p4, .ref p5, .ref p6])), (p1, .inl (g.2.1 0, 5, .inl (nF (yL 1)))), (p2, .inl (g.2.1 0, 5, .inl (nF (yL 2)))), (p3, .inl (g.2.1 0, 5, .inl (nF (yL 3)))), (p4, .inl (g.2.1 0, 5, .inl (nF (yL 4)))), (p5, .inl (g.2.1 0, 8, .inl (nF (yL 5)))), (p6, .inl (g.2.1 0, 8, .inl (nF (yL 6))))] dX2_note_83 rfl rfl hs32 (by decide) rfl ?_
        refine j_aload_n 85 dX2_note_84 rfl 1 rfl ?_
        refine j_dup 86 dX2_note_85 rfl rfl ?_
        refine j_getf 89 0 dX2_note_86 rfl fd_X2_25 rfl rfl ?_
        refine j_iconst (v := (1 : Int32)) 90 dX2_note_89 rfl (by decide) ?_
        refine j_iaddN (sfN zeF 32) 1 91 dX2_note_90 rfl ?_
        refine j_putf 94 0 [(ea, .inr (2, [.ref et, .ref p0, .int (nI es), .int (nI em), .int (nI (en + 1)), .int (nI ((sfN zeF 32) + 1)), .ref ec, .ref ep, .ref ef])), (ec, .inl (g.2.1 0, eM, .inl (nF (va_up zeC en c)))), (ep, .inl (g.2.1 0, eM, .inl (upd zeP c x))), (ef, .inl (g.2.1 0, 32, .inl (upd zeF (c % 2 ^ yL 0 1) (nI c)))), (p0, .inr (0, [.int (nI (yL 0 0)), .int (nI (yL 0 1)), .int (nI (yL 0 2)), .ref p1, .ref p2, .ref p3, .ref p4, .ref p5, .ref p6])), (p1, .inl (g.2.1 0, 5, .inl (nF (yL 1)))), (p2, .inl (g.2.1 0, 5, .inl (nF (yL 2)))), (p3, .inl (g.2.1 0, 5, .inl (nF (yL 3)))), (p4, .inl (g.2.1 0, 5, .inl (nF (yL 4)))), (p5, .inl (g.2.1 0, 8, .inl (nF (yL 5)))), (p6, .inl (g.2.1 0, 8, .inl (nF (yL 6))))] dX2_note_91 rfl fd_X2_25 rfl rfl rfl (gLe rfl) rfl ?_
        refine j_vret dX2_note_94 rfl ⟨gLe rfl, gLe rfl, ?_⟩
        rw [show ntN zeP c en = en + 1 from if_pos h27, show ntC zeP zeC c en c = va_up zeC en c from if_pos h27, show ntP zeP c x = upd zeP c x from if_pos h27, show ntF zeP zeF c (c % 2 ^ yL 0 1) = upd zeF (c % 2 ^ yL 0 1) (nI c) from (if_pos h27).trans (if_pos h74)]
        rw [sfN_up (show zeF (c % 2 ^ yL 0 1) < 0 by rw [h74]; decide) (nI_nn (show c ≤ 100000 by omega)) 32, if_pos hs32]
        exact ⟨rfl, rfl⟩
    ·
      have h27x : ¬ zeP c = -1 := by first | exact h27 | exact fun y => by have y2 := hn y; omega
      refine j_vret dX2_note_30 rfl ⟨gLe rfl, gLe rfl, ?_⟩
      rw [show ntN zeP c en = en from if_neg h27x, show ntC zeP zeC c en c = zeC from if_neg h27x, show ntP zeP c x = zeP from if_neg h27x, show ntF zeP zeF c (c % 2 ^ yL 0 1) = zeF from if_neg h27x]
      exact ⟨rfl, rfl⟩
