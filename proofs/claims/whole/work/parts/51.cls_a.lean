section GCR
variable {g : gG} {y : gM} {d rc rs : Nat} {Post : Nat → Nat → Option Value → va_W → Prop} {k j pc : Nat} {lv : List (Nat × Value)} {st : List Value} {ws : va_W}
theorem j_copyR {idx a0 a1 n0 n1 : Nat} {f f1 : Nat → Int32} (sp dp cn : Nat) (n q0 q1 : Nat) (ws2 : va_W) (hd : decode y.2.1 pc = .ok (.invokestatic idx, 3)) (hn : pc + 3 = n) (hw : Cond.methodLink y.1.cls idx arraycopyName ∈ gWS ∧ Cond.native arraycopyName ∈ gWS ∧ Cond.static arraycopyName ∈ gWS ∧ Cond.initialized "java/lang/System" ∈ gWS) (h0 : ws[q0]? = some (a0, .inl (g.2.1 0, n0, .inl f))) (h1 : ws[q1]? = some (a1, .inl (g.2.1 0, n1, .inl f1))) (hp4 : sp + cn ≤ n0) (hp5 : dp + cn ≤ n1) (hb : n0 < 100000 ∧ n1 < 100000) (hdp : 1 ≤ d) (hst : (st.map fun v => v.category).sum ≤ 8)
    (hw2 : ws.set q1 (a1, .inl (g.2.1 0, n1, .inl (va_cpy f f1 sp dp cn))) = ws2) (kk : gJ g y d rc rs Post k j n lv st ws2) : gJ g y d rc rs Post k j pc lv (.int (nI cn) :: .int (nI dp) :: .ref a1 :: .int (nI sp) :: .ref a0 :: st) ws := by
  have e1 : (nI sp).toNatClampNeg = sp := nI_clamp (by omega)
  have e2 : (nI dp).toNatClampNeg = dp := nI_clamp (by omega)
  have e3 : (nI cn).toNatClampNeg = cn := nI_clamp (by omega)
  have z : ∀ m : Nat, m < 100001 → ¬ nI m < 0 := fun m hm q => by
    have := i32_neg.mp q
    rw [nI_toInt (by omega)] at this
    omega
  exact j_copy n q0 q1 ws2 hd hn hw h0 h1 (z sp (by omega)) (z dp (by omega)) (z cn (by omega)) (by rw [e1, e3]; exact hp4) (by rw [e2, e3]; exact hp5) hdp hst (by rw [e1, e2, e3]; exact hw2) kk
end GCR
theorem cpyR_s (x : Int32) (f : Nat → Int32) (i : Nat) : upd (va_cpy (fun _ => x) f 0 0 i) i x = va_cpy (fun _ => x) f 0 0 (i + 1) := by
  funext k
  simp only [upd, va_cpy]
  by_cases h : k = i
  · rw [if_pos h, if_pos (by omega)]
  · rw [if_neg h]
    by_cases h2 : k < i
    · rw [if_pos (by omega), if_pos (by omega)]
    · rw [if_neg (by omega), if_neg (by omega)]
set_option maxRecDepth 20000 in
theorem c_fillR (g : gG) (fa : Nat) (fn : Nat) (ff : Nat → Int32) (v : Int32)  (hn : fn < 100000) : gCon g mJ7_fill_53178 0 0 0 [.ref fa, .int v] [(fa, .inl (g.2.1 0, fn, .inl ff))] (fun rv ws' => rv = none ∧ ws' = [(fa, .inl (g.2.1 0, fn, .inl (va_cpy (fun _ => v) ff 0 0 fn)))]) := by
  refine gCon.of (lv := [(0, .ref fa), (1, .int v)]) (by decide) (gLe rfl) rfl ?_
  refine j_iconst (v := (0 : Int32)) 1 dJ7_fill_53178_0 rfl (by decide) ?_
  refine j_istore_n 2 [(2, .int (0 : Int32)), (0, .ref fa), (1, .int v)] dJ7_fill_53178_1 rfl (by decide) rfl ?_
  refine j_aload_n 3 dJ7_fill_53178_2 rfl 1 rfl ?_
  refine j_alen (t0 := 0) (v := nI fn) 4 0 dJ7_fill_53178_3 rfl rfl rfl rfl ?_
  refine j_istore_n 5 [(3, .int (nI fn)), (2, .int (0 : Int32)), (0, .ref fa), (1, .int v)] dJ7_fill_53178_4 rfl (by decide) rfl ?_
  have hL5 : ∀ (zm5 : Nat) (zi : Nat), fn - zi < zm5 → (zi ≤ fn) → gJ g mJ7_fill_53178 0 0 0 (fun k' j' rv ws' => k' ≤ 0 ∧ j' ≤ 0 ∧ (rv = none ∧ ws' = [(fa, .inl (g.2.1 0, fn, .inl (va_cpy (fun _ => v) ff 0 0 fn)))])) 0 0 5 [(2, .int (nI zi)), (3, .int (nI fn)), (0, .ref fa), (1, .int v)] [] [(fa, .inl (g.2.1 0, fn, .inl (va_cpy (fun _ => v) ff 0 0 zi)))] := by
    intro zm5
    induction zm5 with
    | zero => intro zi zmh; exact absurd zmh (Nat.not_lt_zero _)
    | succ zm5 zih5 =>
      intro zi zmh5 hz
      refine j_iload_n 6 dJ7_fill_53178_5 rfl 0 rfl ?_
      refine j_iload_n 7 dJ7_fill_53178_6 rfl 1 rfl ?_
      refine j_icmp_geN zi fn 10 20 dJ7_fill_53178_7 rfl rfl (by omega) (by have z0 := hn; omega) (fun h7 => ?_) (fun h7 => ?_)
      ·
        refine j_vret dJ7_fill_53178_20 rfl ⟨gLe rfl, gLe rfl, ?_⟩
        have ye : zi = fn := by omega
        subst ye
        exact ⟨rfl, rfl⟩
      ·
        refine j_aload_n 11 dJ7_fill_53178_10 rfl 2 rfl ?_
        refine j_iload_n 12 dJ7_fill_53178_11 rfl 0 rfl ?_
        refine j_iload_n 13 dJ7_fill_53178_12 rfl 3 rfl ?_
        refine j_iastR zi 14 0 [(fa, .inl (g.2.1 0, fn, .inl (upd (va_cpy (fun _ => v) ff 0 0 zi) zi v)))] dJ7_fill_53178_13 rfl rfl (by omega) (by omega) rfl ?_
        refine j_ws [(fa, .inl (g.2.1 0, fn, .inl (va_cpy (fun _ => v) ff 0 0 (zi + 1))))] (by rw [cpyR_s v ff zi]) ?_
        refine j_iincN zi 1 17 [(2, .int (nI (zi + 1))), (3, .int (nI fn)), (0, .ref fa), (1, .int v)] dJ7_fill_53178_14 rfl 0 rfl (by decide) rfl ?_
        refine j_goto 5 dJ7_fill_53178_17 rfl ?_
        refine j_lv [0, 1, 2, 3] rfl ?_
        exact zih5 (zi + 1) (by omega) (by omega)
  refine j_ws [(fa, .inl (g.2.1 0, fn, .inl (va_cpy (fun _ => v) ff 0 0 0)))] (by rw [cpy_0]) ?_
  refine j_lv [1, 0, 2, 3] rfl ?_
  exact hL5 _ 0 (Nat.lt_succ_self _) (Nat.zero_le _)
set_option maxRecDepth 20000 in
theorem c_fillN (g : gG) (fa : Nat) (fn : Nat) (ff : Nat → Nat) (v : Nat)  (hn : fn < 100000) : gCon g mJ7_fill_53178 0 0 0 [.ref fa, .int (nI v)] [(fa, .inl (g.2.1 0, fn, .inl (nF ff)))] (fun rv ws' => rv = none ∧ ws' = [(fa, .inl (g.2.1 0, fn, .inl (nF (va_cpy (fun _ => v) ff 0 0 fn))))]) := by
  refine gCon.of (lv := [(0, .ref fa), (1, .int (nI v))]) (by decide) (gLe rfl) rfl ?_
  refine j_iconst (v := (0 : Int32)) 1 dJ7_fill_53178_0 rfl (by decide) ?_
  refine j_istore_n 2 [(2, .int (0 : Int32)), (0, .ref fa), (1, .int (nI v))] dJ7_fill_53178_1 rfl (by decide) rfl ?_
  refine j_aload_n 3 dJ7_fill_53178_2 rfl 1 rfl ?_
  refine j_alen (t0 := 0) (v := nI fn) 4 0 dJ7_fill_53178_3 rfl rfl rfl rfl ?_
  refine j_istore_n 5 [(3, .int (nI fn)), (2, .int (0 : Int32)), (0, .ref fa), (1, .int (nI v))] dJ7_fill_53178_4 rfl (by decide) rfl ?_
  have hL5 : ∀ (zm5 : Nat) (zi : Nat), fn - zi < zm5 → (zi ≤ fn) → gJ g mJ7_fill_53178 0 0 0 (fun k' j' rv ws' => k' ≤ 0 ∧ j' ≤ 0 ∧ (rv = none ∧ ws' = [(fa, .inl (g.2.1 0, fn, .inl (nF (va_cpy (fun _ => v) ff 0 0 fn))))])) 0 0 5 [(2, .int (nI zi)), (3, .int (nI fn)), (0, .ref fa), (1, .int (nI v))] [] [(fa, .inl (g.2.1 0, fn, .inl (nF (va_cpy (fun _ => v) ff 0 0 zi))))] := by
    intro zm5
    induction zm5 with
    | zero => intro zi zmh; exact absurd zmh (Nat.not_lt_zero _)
    | succ zm5 zih5 =>
      intro zi zmh5 hz
      refine j_iload_n 6 dJ7_fill_53178_5 rfl 0 rfl ?_
      refine j_iload_n 7 dJ7_fill_53178_6 rfl 1 rfl ?_
      refine j_icmp_geN zi fn 10 20 dJ7_fill_53178_7 rfl rfl (by omega) (by have z0 := hn; omega) (fun h7 => ?_) (fun h7 => ?_)
      ·
        refine j_vret dJ7_fill_53178_20 rfl ⟨gLe rfl, gLe rfl, ?_⟩
        have ye : zi = fn := by omega
        subst ye
        exact ⟨rfl, rfl⟩
      ·
        refine j_aload_n 11 dJ7_fill_53178_10 rfl 2 rfl ?_
        refine j_iload_n 12 dJ7_fill_53178_11 rfl 0 rfl ?_
        refine j_iload_n 13 dJ7_fill_53178_12 rfl 3 rfl ?_
        refine j_iastN v zi 14 0 [(fa, .inl (g.2.1 0, fn, .inl (nF (va_up (va_cpy (fun _ => v) ff 0 0 zi) zi v))))] dJ7_fill_53178_13 rfl rfl (by omega) (by omega) rfl ?_
        refine j_ws [(fa, .inl (g.2.1 0, fn, .inl (nF (va_cpy (fun _ => v) ff 0 0 (zi + 1)))))] (by rw [show va_up (va_cpy (fun _ => v) ff 0 0 zi) zi v = _ from cpy_s0 (fun _ => v) ff 0 zi]) ?_
        refine j_iincN zi 1 17 [(2, .int (nI (zi + 1))), (3, .int (nI fn)), (0, .ref fa), (1, .int (nI v))] dJ7_fill_53178_14 rfl 0 rfl (by decide) rfl ?_
        refine j_goto 5 dJ7_fill_53178_17 rfl ?_
        refine j_lv [0, 1, 2, 3] rfl ?_
        exact zih5 (zi + 1) (by omega) (by omega)
  refine j_ws [(fa, .inl (g.2.1 0, fn, .inl (nF (va_cpy (fun _ => v) ff 0 0 0))))] (by rw [cpy_0]) ?_
  refine j_lv [1, 0, 2, 3] rfl ?_
  exact hL5 _ 0 (Nat.lt_succ_self _) (Nat.zero_le _)
set_option maxRecDepth 20000 in
theorem c_X1_isMissing (g : gG) (ra : Nat) (rb : Nat) (rl : Int32) (rz : Int32) (ri : Nat → Int32)    : gCon g mX1_isMissing 0 0 0 [.ref ra] [(ra, .inr (1, [.ref rb, .int rl, .int rz])), (rb, .inl (g.2.1 0, 40, .inl ri))] (fun rv ws' => rv = some (.int (gB (rz = -1))) ∧ ws' = [(ra, .inr (1, [.ref rb, .int rl, .int rz])), (rb, .inl (g.2.1 0, 40, .inl ri))]) := by
  refine gCon.of (lv := [(0, .ref ra)]) (by decide) (gLe rfl) rfl ?_
  refine j_aload_n 1 dX1_isMissing_0 rfl 0 rfl ?_
  refine j_getf 4 0 dX1_isMissing_1 rfl fd_X1_19 rfl rfl ?_
  refine j_iconst (v := (-1 : Int32)) 5 dX1_isMissing_4 rfl (by decide) ?_
  refine j_icmp_ne 8 12 dX1_isMissing_5 rfl rfl (fun h5 => ?_) (fun h5 => ?_)
  ·
    refine j_iconst (v := (0 : Int32)) 13 dX1_isMissing_12 rfl (by decide) ?_
    refine j_iret0 (c := rz = -1) dX1_isMissing_13 rfl ?_ ⟨gLe rfl, gLe rfl, rfl, rfl⟩
    first | exact h5 | exact fun y => h5 y
  ·
    refine j_iconst (v := (1 : Int32)) 9 dX1_isMissing_8 rfl (by decide) ?_
    refine j_goto 13 dX1_isMissing_9 rfl ?_
    refine j_iret1 (c := rz = -1) dX1_isMissing_13 rfl ?_ ⟨gLe rfl, gLe rfl, rfl, rfl⟩
    first | exact h5 | exact fun y => h5 y
theorem has_iff {i n z : Int32} (hz : -2 < z.toInt ∧ z.toInt ≤ 40) : (¬ i < 0 ∧ ¬ n < 0 ∧ ¬ z < n ∧ ¬ z - n < i) ↔ (0 ≤ i.toInt ∧ 0 ≤ n.toInt ∧ i.toInt + n.toInt ≤ z.toInt) := by
  rw [i32_neg, i32_neg, Int32.lt_iff_toInt_lt, Int32.lt_iff_toInt_lt]
  constructor
  · rintro ⟨a, b, c, e⟩
    have e1 : (z - n).toInt = z.toInt - n.toInt := by rw [Int32.toInt_sub, Int.bmod_eq_of_le (by omega) (by omega)]
    omega
  · rintro ⟨a, b, c⟩
    have e1 : (z - n).toInt = z.toInt - n.toInt := by rw [Int32.toInt_sub, Int.bmod_eq_of_le (by omega) (by omega)]
    omega
set_option maxRecDepth 20000 in
theorem c_X1_has (g : gG) (ra : Nat) (rb : Nat) (rl : Int32) (rz : Int32) (ri : Nat → Int32) (i : Int32) (n : Int32)  (hz : -2 < rz.toInt ∧ rz.toInt ≤ 40) : gCon g mX1_has 0 0 0 [.ref ra, .int i, .int n] [(ra, .inr (1, [.ref rb, .int rl, .int rz])), (rb, .inl (g.2.1 0, 40, .inl ri))] (fun rv ws' => rv = some (.int (gB ((0 ≤ i.toInt ∧ 0 ≤ n.toInt ∧ i.toInt + n.toInt ≤ rz.toInt)))) ∧ ws' = [(ra, .inr (1, [.ref rb, .int rl, .int rz])), (rb, .inl (g.2.1 0, 40, .inl ri))]) := by
  refine gCon.of (lv := [(0, .ref ra), (1, .int i), (2, .int n)]) (by decide) (gLe rfl) rfl ?_
  refine j_iload_n 1 dX1_has_0 rfl 1 rfl ?_
  refine j_if_lt 4 30 dX1_has_1 rfl rfl (fun h1 => ?_) (fun h1 => ?_)
  ·
    refine j_iconst (v := (0 : Int32)) 31 dX1_has_30 rfl (by decide) ?_
    refine j_iret0 (c := (0 ≤ i.toInt ∧ 0 ≤ n.toInt ∧ i.toInt + n.toInt ≤ rz.toInt)) dX1_has_31 rfl ?_ ⟨gLe rfl, gLe rfl, rfl, rfl⟩
    first
      | exact (has_iff hz).mp ⟨h1, h5, h13, h23⟩
      | exact fun y => ((has_iff hz).mpr y).1 h1
      | exact fun y => ((has_iff hz).mpr y).2.1 h5
      | exact fun y => ((has_iff hz).mpr y).2.2.1 h13
      | exact fun y => ((has_iff hz).mpr y).2.2.2 h23
  ·
    refine j_iload_n 5 dX1_has_4 rfl 2 rfl ?_
    refine j_if_lt 8 30 dX1_has_5 rfl rfl (fun h5 => ?_) (fun h5 => ?_)
    ·
      refine j_iconst (v := (0 : Int32)) 31 dX1_has_30 rfl (by decide) ?_
      refine j_iret0 (c := (0 ≤ i.toInt ∧ 0 ≤ n.toInt ∧ i.toInt + n.toInt ≤ rz.toInt)) dX1_has_31 rfl ?_ ⟨gLe rfl, gLe rfl, rfl, rfl⟩
      first
        | exact (has_iff hz).mp ⟨h1, h5, h13, h23⟩
        | exact fun y => ((has_iff hz).mpr y).1 h1
        | exact fun y => ((has_iff hz).mpr y).2.1 h5
        | exact fun y => ((has_iff hz).mpr y).2.2.1 h13
        | exact fun y => ((has_iff hz).mpr y).2.2.2 h23
    ·
      refine j_iload_n 9 dX1_has_8 rfl 2 rfl ?_
      refine j_aload_n 10 dX1_has_9 rfl 0 rfl ?_
      refine j_getf 13 0 dX1_has_10 rfl fd_X1_19 rfl rfl ?_
      refine j_icmp_gt 16 30 dX1_has_13 rfl rfl (fun h13 => ?_) (fun h13 => ?_)
      ·
        refine j_iconst (v := (0 : Int32)) 31 dX1_has_30 rfl (by decide) ?_
        refine j_iret0 (c := (0 ≤ i.toInt ∧ 0 ≤ n.toInt ∧ i.toInt + n.toInt ≤ rz.toInt)) dX1_has_31 rfl ?_ ⟨gLe rfl, gLe rfl, rfl, rfl⟩
        first
          | exact (has_iff hz).mp ⟨h1, h5, h13, h23⟩
          | exact fun y => ((has_iff hz).mpr y).1 h1
          | exact fun y => ((has_iff hz).mpr y).2.1 h5
          | exact fun y => ((has_iff hz).mpr y).2.2.1 h13
          | exact fun y => ((has_iff hz).mpr y).2.2.2 h23
      ·
        refine j_iload_n 17 dX1_has_16 rfl 1 rfl ?_
        refine j_aload_n 18 dX1_has_17 rfl 0 rfl ?_
        refine j_getf 21 0 dX1_has_18 rfl fd_X1_19 rfl rfl ?_
        refine j_iload_n 22 dX1_has_21 rfl 2 rfl ?_
        refine j_isub 23 dX1_has_22 rfl ?_
        refine j_icmp_gt 26 30 dX1_has_23 rfl rfl (fun h23 => ?_) (fun h23 => ?_)
        ·
          refine j_iconst (v := (0 : Int32)) 31 dX1_has_30 rfl (by decide) ?_
          refine j_iret0 (c := (0 ≤ i.toInt ∧ 0 ≤ n.toInt ∧ i.toInt + n.toInt ≤ rz.toInt)) dX1_has_31 rfl ?_ ⟨gLe rfl, gLe rfl, rfl, rfl⟩
          first
            | exact (has_iff hz).mp ⟨h1, h5, h13, h23⟩
            | exact fun y => ((has_iff hz).mpr y).1 h1
            | exact fun y => ((has_iff hz).mpr y).2.1 h5
            | exact fun y => ((has_iff hz).mpr y).2.2.1 h13
            | exact fun y => ((has_iff hz).mpr y).2.2.2 h23
        ·
          refine j_iconst (v := (1 : Int32)) 27 dX1_has_26 rfl (by decide) ?_
          refine j_goto 31 dX1_has_27 rfl ?_
          refine j_iret1 (c := (0 ≤ i.toInt ∧ 0 ≤ n.toInt ∧ i.toInt + n.toInt ≤ rz.toInt)) dX1_has_31 rfl ?_ ⟨gLe rfl, gLe rfl, rfl, rfl⟩
          first
            | exact (has_iff hz).mp ⟨h1, h5, h13, h23⟩
            | exact fun y => ((has_iff hz).mpr y).1 h1
            | exact fun y => ((has_iff hz).mpr y).2.1 h5
            | exact fun y => ((has_iff hz).mpr y).2.2.1 h13
            | exact fun y => ((has_iff hz).mpr y).2.2.2 h23
