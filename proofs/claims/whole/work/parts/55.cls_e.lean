section GBY
variable {g : gG} {y : gM} {d rc rs : Nat} {Post : Nat → Nat → Option Value → va_W → Prop} {k j pc : Nat} {lv : List (Nat × Value)} {st : List Value} {ws : va_W}
theorem nar_b : ∀ x : Nat, x < 128 → vp_nar .byte (nI x) = nI x := by decide
theorem j_bastN {a N : Nat} {f : Nat → Nat} (x i : Nat) (n q0 : Nat) (ws2 : va_W) (hd : decode y.2.1 pc = .ok (.bastore, 1)) (hn : pc + 1 = n) (he : ws[q0]? = some (a, .inl (g.2.1 1, N, .inl (nF f)))) (hi : i < N) (hN : N < 2147483648) (hx : x < 128) (hw2 : ws.set q0 (a, .inl (g.2.1 1, N, .inl (nF (va_up f i x)))) = ws2) (kk : gJ g y d rc rs Post k j n lv st ws2) : gJ g y d rc rs Post k j pc lv (.int (nI x) :: .int (nI i) :: .ref a :: st) ws :=
  j_bast n q0 ws2 hd hn he (vp_in_nI hi hN) (by rw [nI_clamp (by omega), nar_b x hx, nF_up]; exact hw2) kk
end GBY
set_option maxRecDepth 20000 in
theorem c_fillB (g : gG) (fa : Nat) (fn : Nat) (ff : Nat → Nat) (v : Nat)  (hn : fn < 100000) (hv : v < 128) : gCon g mJ7_fill_031fb 0 0 0 [.ref fa, .int (nI v)] [(fa, .inl (g.2.1 1, fn, .inl (nF ff)))] (fun rv ws' => rv = none ∧ ws' = [(fa, .inl (g.2.1 1, fn, .inl (nF (va_cpy (fun _ => v) ff 0 0 fn))))]) := by
  refine gCon.of (lv := [(0, .ref fa), (1, .int (nI v))]) (by decide) (gLe rfl) rfl ?_
  refine j_iconst (v := (0 : Int32)) 1 dJ7_fill_031fb_0 rfl (by decide) ?_
  refine j_istore_n 2 [(2, .int (0 : Int32)), (0, .ref fa), (1, .int (nI v))] dJ7_fill_031fb_1 rfl (by decide) rfl ?_
  refine j_aload_n 3 dJ7_fill_031fb_2 rfl 1 rfl ?_
  refine j_alen (t0 := 1) (v := nI fn) 4 0 dJ7_fill_031fb_3 rfl rfl rfl rfl ?_
  refine j_istore_n 5 [(3, .int (nI fn)), (2, .int (0 : Int32)), (0, .ref fa), (1, .int (nI v))] dJ7_fill_031fb_4 rfl (by decide) rfl ?_
  have hL5 : ∀ (zm5 : Nat) (zi : Nat), fn - zi < zm5 → (zi ≤ fn) → gJ g mJ7_fill_031fb 0 0 0 (fun k' j' rv ws' => k' ≤ 0 ∧ j' ≤ 0 ∧ (rv = none ∧ ws' = [(fa, .inl (g.2.1 1, fn, .inl (nF (va_cpy (fun _ => v) ff 0 0 fn))))])) 0 0 5 [(2, .int (nI zi)), (3, .int (nI fn)), (0, .ref fa), (1, .int (nI v))] [] [(fa, .inl (g.2.1 1, fn, .inl (nF (va_cpy (fun _ => v) ff 0 0 zi))))] := by
    intro zm5
    induction zm5 with
    | zero => intro zi zmh; exact absurd zmh (Nat.not_lt_zero _)
    | succ zm5 zih5 =>
      intro zi zmh5 hz
      refine j_iload_n 6 dJ7_fill_031fb_5 rfl 0 rfl ?_
      refine j_iload_n 7 dJ7_fill_031fb_6 rfl 1 rfl ?_
      refine j_icmp_geN zi fn 10 20 dJ7_fill_031fb_7 rfl rfl (by omega) (by have z0 := hn; omega) (fun h7 => ?_) (fun h7 => ?_)
      ·
        refine j_vret dJ7_fill_031fb_20 rfl ⟨gLe rfl, gLe rfl, ?_⟩
        have ye : zi = fn := by omega
        subst ye
        exact ⟨rfl, rfl⟩
      ·
        refine j_aload_n 11 dJ7_fill_031fb_10 rfl 2 rfl ?_
        refine j_iload_n 12 dJ7_fill_031fb_11 rfl 0 rfl ?_
        refine j_iload_n 13 dJ7_fill_031fb_12 rfl 3 rfl ?_
        refine j_bastN v zi 14 0 [(fa, .inl (g.2.1 1, fn, .inl (nF (va_up (va_cpy (fun _ => v) ff 0 0 zi) zi v))))] dJ7_fill_031fb_13 rfl rfl (by omega) (by omega) hv rfl ?_
        refine j_ws [(fa, .inl (g.2.1 1, fn, .inl (nF (va_cpy (fun _ => v) ff 0 0 (zi + 1)))))] (by rw [show va_up (va_cpy (fun _ => v) ff 0 0 zi) zi v = _ from cpy_s0 (fun _ => v) ff 0 zi]) ?_
        refine j_iincN zi 1 17 [(2, .int (nI (zi + 1))), (3, .int (nI fn)), (0, .ref fa), (1, .int (nI v))] dJ7_fill_031fb_14 rfl 0 rfl (by decide) rfl ?_
        refine j_goto 5 dJ7_fill_031fb_17 rfl ?_
        refine j_lv [0, 1, 2, 3] rfl ?_
        exact zih5 (zi + 1) (by omega) (by omega)
  refine j_ws [(fa, .inl (g.2.1 1, fn, .inl (nF (va_cpy (fun _ => v) ff 0 0 0))))] (by rw [cpy_0]) ?_
  refine j_lv [1, 0, 2, 3] rfl ?_
  exact hL5 _ 0 (Nat.lt_succ_self _) (Nat.zero_le _)
def sfN (F : Nat → Int32) : Nat → Nat
  | 0 => 0
  | s + 1 => sfN F s + (if ¬ F s < 0 then 1 else 0)
theorem sfN_le (F : Nat → Int32) : ∀ s, sfN F s ≤ s
  | 0 => Nat.le_refl 0
  | s + 1 => by
    have h := sfN_le F s
    show sfN F s + _ ≤ s + 1
    split <;> omega
theorem sfN_up {F : Nat → Int32} {x n : Nat} (h : F x < 0) (hn : ¬ nI n < 0) : ∀ m, sfN (upd F x (nI n)) m = sfN F m + (if x < m then 1 else 0)
  | 0 => by rw [if_neg (Nat.not_lt_zero _)]; rfl
  | m + 1 => by
    have ih := sfN_up h hn m
    show sfN (upd F x (nI n)) m + (if ¬ upd F x (nI n) m < 0 then 1 else 0) = sfN F m + (if ¬ F m < 0 then 1 else 0) + (if x < m + 1 then 1 else 0)
    rw [ih]
    by_cases e : m = x
    · have e1 : upd F x (nI n) m = nI n := if_pos e
      have e2 : F m < 0 := by rw [e]; exact h
      rw [e1, if_pos hn, if_neg (show ¬ ¬ F m < 0 from fun y => y e2), if_neg (show ¬ x < m by omega), if_pos (show x < m + 1 by omega)]
    · have e1 : upd F x (nI n) m = F m := if_neg e
      have e2 : (if x < m then 1 else 0) = (if x < m + 1 then 1 else 0 : Nat) := by split <;> split <;> omega
      rw [e1, e2, Nat.add_right_comm]
theorem sfN_m1 {F : Nat → Int32} : ∀ m, (∀ s, s < m → F s < 0) → sfN F m = 0
  | 0, _ => rfl
  | m + 1, h => by
    show sfN F m + (if ¬ F m < 0 then 1 else 0) = 0
    rw [sfN_m1 m (fun s hs => h s (by omega)), if_neg (fun y => y (h m (by omega)))]
/-- a state is noted, if it is new -/
def ntN (B : Nat → Nat) (c n : Nat) : Nat := if B c = 0 then n + 1 else n
def ntC (B C : Nat → Nat) (c n : Nat) : Nat → Nat := if B c = 0 then va_up C n c else C
def ntP (B : Nat → Nat) (Pr : Nat → Int32) (c n : Nat) (x : Int32) : Nat → Int32 := if B c = 0 then upd Pr n x else Pr
def ntB (B : Nat → Nat) (c : Nat) : Nat → Nat := if B c = 0 then va_up B c 1 else B
def ntF (B : Nat → Nat) (F : Nat → Int32) (c n : Nat) : Nat → Int32 := if B c = 0 then (if F (c % 32) < 0 then upd F (c % 32) (nI n) else F) else F
set_option maxRecDepth 20000 in
theorem c_X2_note (g : gG) (ea : Nat) (et : Nat) (el : Option Nat) (es : Nat) (em : Nat) (en : Nat) (ec : Nat) (ep : Nat) (eb : Nat) (ef : Nat) (zeC : Nat → Nat) (zeP : Nat → Int32) (zeB : Nat → Nat) (zeF : Nat → Int32) (c : Nat) (x : Int32)  (hc : c < 7776) (hb : zeB c ≤ 1) (hn : zeB c = 0 → en < 7776) (hn2 : en ≤ 7776) : gCon g mX2_note 0 0 0 [.ref ea, .int (nI c), .int x] [(ea, .inr (2, [.ref et, va_rf el, .int (nI es), .int (nI em), .int (nI en), .int (nI (sfN zeF 32)), .ref ec, .ref ep, .ref eb, .ref ef])), (ec, .inl (g.2.1 0, 7776, .inl (nF zeC))), (ep, .inl (g.2.1 0, 7776, .inl zeP)), (eb, .inl (g.2.1 1, 7776, .inl (nF zeB))), (ef, .inl (g.2.1 0, 32, .inl zeF))] (fun rv ws' => rv = none ∧ ws' = [(ea, .inr (2, [.ref et, va_rf el, .int (nI es), .int (nI em), .int (nI (ntN zeB c en)), .int (nI (sfN (ntF zeB zeF c en) 32)), .ref ec, .ref ep, .ref eb, .ref ef])), (ec, .inl (g.2.1 0, 7776, .inl (nF (ntC zeB zeC c en)))), (ep, .inl (g.2.1 0, 7776, .inl (ntP zeB zeP c en x))), (eb, .inl (g.2.1 1, 7776, .inl (nF (ntB zeB c)))), (ef, .inl (g.2.1 0, 32, .inl (ntF zeB zeF c en)))]) := by
  refine gCon.of (lv := [(0, .ref ea), (1, .int (nI c)), (2, .int x)]) (by decide) (gLe rfl) rfl ?_
  refine j_iload_n 1 dX2_note_0 rfl 1 rfl ?_
  refine j_if_ltN c 4 dX2_note_1 rfl (t := 30) rfl (by omega) ?_
  refine j_iload_n 5 dX2_note_4 rfl 1 rfl ?_
  refine j_sipush (v := (7776 : Int32)) 8 dX2_note_5 rfl (by decide) ?_
  refine j_icmp_geN c 7776 11 30 dX2_note_8 rfl rfl (by omega) (by decide) (fun h8 => absurd h8 (by omega)) (fun h8 => ?_)
  refine j_aload_n 12 dX2_note_11 rfl 0 rfl ?_
  refine j_getf 15 0 dX2_note_12 rfl fd_X2_22 rfl rfl ?_
  refine j_sipush (v := (7776 : Int32)) 18 dX2_note_15 rfl (by decide) ?_
  refine j_icmp_geN en 7776 21 30 dX2_note_18 rfl rfl (by have z0 := hn2; omega) (by decide) (fun h18 => ?_) (fun h18 => ?_)
  ·
    have h27x : ¬ zeB c = 0 := fun y => by have y2 := hn y; omega
    refine j_vret dX2_note_30 rfl ⟨gLe rfl, gLe rfl, ?_⟩
    rw [show ntN zeB c en = en from if_neg h27x, show ntC zeB zeC c en = zeC from if_neg h27x, show ntP zeB zeP c en x = zeP from if_neg h27x, show ntB zeB c = zeB from if_neg h27x, show ntF zeB zeF c en = zeF from if_neg h27x]
    exact ⟨rfl, rfl⟩
  ·
    refine j_aload_n 22 dX2_note_21 rfl 0 rfl ?_
    refine j_getf 25 0 dX2_note_22 rfl fd_X2_35 rfl rfl ?_
    refine j_iload_n 26 dX2_note_25 rfl 1 rfl ?_
    refine j_baldN c 27 3 dX2_note_26 rfl rfl hc (by decide) ?_
    refine j_if_eqN (zeB c) 30 31 dX2_note_27 rfl rfl (by have z0 := hb; omega) (fun h27 => ?_) (fun h27 => ?_)
    ·
      have hn5 := hn h27
      refine j_aload_n 32 dX2_note_31 rfl 0 rfl ?_
      refine j_getf 35 0 dX2_note_32 rfl fd_X2_35 rfl rfl ?_
      refine j_iload_n 36 dX2_note_35 rfl 1 rfl ?_
      refine j_iconst (v := (1 : Int32)) 37 dX2_note_36 rfl (by decide) ?_
      refine j_bastN 1 c 38 3 [(ea, .inr (2, [.ref et, va_rf el, .int (nI es), .int (nI em), .int (nI en), .int (nI (sfN zeF 32)), .ref ec, .ref ep, .ref eb, .ref ef])), (ec, .inl (g.2.1 0, 7776, .inl (nF zeC))), (ep, .inl (g.2.1 0, 7776, .inl zeP)), (eb, .inl (g.2.1 1, 7776, .inl (nF (va_up zeB c 1)))), (ef, .inl (g.2.1 0, 32, .inl zeF))] dX2_note_37 rfl rfl hc (by decide) (by decide) rfl ?_
      refine j_aload_n 39 dX2_note_38 rfl 0 rfl ?_
      refine j_getf 42 0 dX2_note_39 rfl fd_X2_28 rfl rfl ?_
      refine j_aload_n 43 dX2_note_42 rfl 0 rfl ?_
      refine j_getf 46 0 dX2_note_43 rfl fd_X2_22 rfl rfl ?_
      refine j_iload_n 47 dX2_note_46 rfl 1 rfl ?_
      refine j_iastN c en 48 1 [(ea, .inr (2, [.ref et, va_rf el, .int (nI es), .int (nI em), .int (nI en), .int (nI (sfN zeF 32)), .ref ec, .ref ep, .ref eb, .ref ef])), (ec, .inl (g.2.1 0, 7776, .inl (nF (va_up zeC en c)))), (ep, .inl (g.2.1 0, 7776, .inl zeP)), (eb, .inl (g.2.1 1, 7776, .inl (nF (va_up zeB c 1)))), (ef, .inl (g.2.1 0, 32, .inl zeF))] dX2_note_47 rfl rfl hn5 (by decide) rfl ?_
      refine j_aload_n 49 dX2_note_48 rfl 0 rfl ?_
      refine j_getf 52 0 dX2_note_49 rfl fd_X2_32 rfl rfl ?_
      refine j_aload_n 53 dX2_note_52 rfl 0 rfl ?_
      refine j_getf 56 0 dX2_note_53 rfl fd_X2_22 rfl rfl ?_
      refine j_iload_n 57 dX2_note_56 rfl 2 rfl ?_
      refine j_iastR en 58 2 [(ea, .inr (2, [.ref et, va_rf el, .int (nI es), .int (nI em), .int (nI en), .int (nI (sfN zeF 32)), .ref ec, .ref ep, .ref eb, .ref ef])), (ec, .inl (g.2.1 0, 7776, .inl (nF (va_up zeC en c)))), (ep, .inl (g.2.1 0, 7776, .inl (upd zeP en x))), (eb, .inl (g.2.1 1, 7776, .inl (nF (va_up zeB c 1)))), (ef, .inl (g.2.1 0, 32, .inl zeF))] dX2_note_57 rfl rfl hn5 (by decide) rfl ?_
      refine j_aload_n 59 dX2_note_58 rfl 0 rfl ?_
      refine j_getf 62 0 dX2_note_59 rfl fd_X2_39 rfl rfl ?_
      refine j_iload_n 63 dX2_note_62 rfl 1 rfl ?_
      refine j_bipush (v := (32 : Int32)) 65 dX2_note_63 rfl (by decide) ?_
      refine j_iremN c 32 66 dX2_note_65 rfl (by omega) (by decide) (by decide) ?_
      refine j_ialdR (c % 32) 67 4 dX2_note_66 rfl rfl (Nat.mod_lt _ (by decide)) (by decide) ?_
      refine j_if_ge 70 93 dX2_note_67 rfl rfl (fun h67 => ?_) (fun h67 => ?_)
      ·
        refine j_aload_n 94 dX2_note_93 rfl 0 rfl ?_
        refine j_dup 95 dX2_note_94 rfl rfl ?_
        refine j_getf 98 0 dX2_note_95 rfl fd_X2_22 rfl rfl ?_
        refine j_iconst (v := (1 : Int32)) 99 dX2_note_98 rfl (by decide) ?_
        refine j_iaddN en 1 100 dX2_note_99 rfl ?_
        refine j_putf 103 0 [(ea, .inr (2, [.ref et, va_rf el, .int (nI es), .int (nI em), .int (nI (en + 1)), .int (nI (sfN zeF 32)), .ref ec, .ref ep, .ref eb, .ref ef])), (ec, .inl (g.2.1 0, 7776, .inl (nF (va_up zeC en c)))), (ep, .inl (g.2.1 0, 7776, .inl (upd zeP en x))), (eb, .inl (g.2.1 1, 7776, .inl (nF (va_up zeB c 1)))), (ef, .inl (g.2.1 0, 32, .inl zeF))] dX2_note_100 rfl fd_X2_22 rfl rfl rfl (gLe rfl) rfl ?_
        refine j_vret dX2_note_103 rfl ⟨gLe rfl, gLe rfl, ?_⟩
        rw [show ntN zeB c en = en + 1 from if_pos h27, show ntC zeB zeC c en = va_up zeC en c from if_pos h27, show ntP zeB zeP c en x = upd zeP en x from if_pos h27, show ntB zeB c = va_up zeB c 1 from if_pos h27, show ntF zeB zeF c en = zeF from (if_pos h27).trans (if_neg (fun y => absurd h67 (Int32.not_le.mpr y)))]
        exact ⟨rfl, rfl⟩
      ·
        refine j_aload_n 71 dX2_note_70 rfl 0 rfl ?_
        refine j_getf 74 0 dX2_note_71 rfl fd_X2_39 rfl rfl ?_
        refine j_iload_n 75 dX2_note_74 rfl 1 rfl ?_
        refine j_bipush (v := (32 : Int32)) 77 dX2_note_75 rfl (by decide) ?_
        refine j_iremN c 32 78 dX2_note_77 rfl (by omega) (by decide) (by decide) ?_
        refine j_aload_n 79 dX2_note_78 rfl 0 rfl ?_
        refine j_getf 82 0 dX2_note_79 rfl fd_X2_22 rfl rfl ?_
        refine j_iastR (c % 32) 83 4 [(ea, .inr (2, [.ref et, va_rf el, .int (nI es), .int (nI em), .int (nI en), .int (nI (sfN zeF 32)), .ref ec, .ref ep, .ref eb, .ref ef])), (ec, .inl (g.2.1 0, 7776, .inl (nF (va_up zeC en c)))), (ep, .inl (g.2.1 0, 7776, .inl (upd zeP en x))), (eb, .inl (g.2.1 1, 7776, .inl (nF (va_up zeB c 1)))), (ef, .inl (g.2.1 0, 32, .inl (upd zeF (c % 32) (nI en))))] dX2_note_82 rfl rfl (Nat.mod_lt _ (by decide)) (by decide) rfl ?_
        refine j_aload_n 84 dX2_note_83 rfl 0 rfl ?_
        refine j_dup 85 dX2_note_84 rfl rfl ?_
        refine j_getf 88 0 dX2_note_85 rfl fd_X2_25 rfl rfl ?_
        refine j_iconst (v := (1 : Int32)) 89 dX2_note_88 rfl (by decide) ?_
        refine j_iaddN (sfN zeF 32) 1 90 dX2_note_89 rfl ?_
        refine j_putf 93 0 [(ea, .inr (2, [.ref et, va_rf el, .int (nI es), .int (nI em), .int (nI en), .int (nI ((sfN zeF 32) + 1)), .ref ec, .ref ep, .ref eb, .ref ef])), (ec, .inl (g.2.1 0, 7776, .inl (nF (va_up zeC en c)))), (ep, .inl (g.2.1 0, 7776, .inl (upd zeP en x))), (eb, .inl (g.2.1 1, 7776, .inl (nF (va_up zeB c 1)))), (ef, .inl (g.2.1 0, 32, .inl (upd zeF (c % 32) (nI en))))] dX2_note_90 rfl fd_X2_25 rfl rfl rfl (gLe rfl) rfl ?_
        refine j_aload_n 94 dX2_note_93 rfl 0 rfl ?_
        refine j_dup 95 dX2_note_94 rfl rfl ?_
        refine j_getf 98 0 dX2_note_95 rfl fd_X2_22 rfl rfl ?_
        refine j_iconst (v := (1 : Int32)) 99 dX2_note_98 rfl (by decide) ?_
        refine j_iaddN en 1 100 dX2_note_99 rfl ?_
        refine j_putf 103 0 [(ea, .inr (2, [.ref et, va_rf el, .int (nI es), .int (nI em), .int (nI (en + 1)), .int (nI ((sfN zeF 32) + 1)), .ref ec, .ref ep, .ref eb, .ref ef])), (ec, .inl (g.2.1 0, 7776, .inl (nF (va_up zeC en c)))), (ep, .inl (g.2.1 0, 7776, .inl (upd zeP en x))), (eb, .inl (g.2.1 1, 7776, .inl (nF (va_up zeB c 1)))), (ef, .inl (g.2.1 0, 32, .inl (upd zeF (c % 32) (nI en))))] dX2_note_100 rfl fd_X2_22 rfl rfl rfl (gLe rfl) rfl ?_
        refine j_vret dX2_note_103 rfl ⟨gLe rfl, gLe rfl, ?_⟩
        rw [show ntN zeB c en = en + 1 from if_pos h27, show ntC zeB zeC c en = va_up zeC en c from if_pos h27, show ntP zeB zeP c en x = upd zeP en x from if_pos h27, show ntB zeB c = va_up zeB c 1 from if_pos h27, show ntF zeB zeF c en = upd zeF (c % 32) (nI en) from (if_pos h27).trans (if_pos (Int32.not_le.mp h67))]
        rw [sfN_up (Int32.not_le.mp h67) (nI_pos (by omega)) 32, if_pos (Nat.mod_lt _ (by decide))]
        exact ⟨rfl, rfl⟩
    ·
      have h27x : ¬ zeB c = 0 := fun y => by have y2 := hn y; omega
      refine j_vret dX2_note_30 rfl ⟨gLe rfl, gLe rfl, ?_⟩
      rw [show ntN zeB c en = en from if_neg h27x, show ntC zeB zeC c en = zeC from if_neg h27x, show ntP zeB zeP c en x = zeP from if_neg h27x, show ntB zeB c = zeB from if_neg h27x, show ntF zeB zeF c en = zeF from if_neg h27x]
      exact ⟨rfl, rfl⟩
