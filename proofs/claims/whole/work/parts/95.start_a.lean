def zFl : List Cond := flatC (Jvm.Cond.and given_1 narrow_1)
def zTm (i : Nat) : Term := Term.string "FoldGates$Tape" (gKi.getD i 0)
theorem zf_ex : ∀ i : Nat, i < 11 → Cond.exactly (zTm i) "java/lang/String" ∈ zFl := by decide +kernel
theorem zf_co : ∀ i : Nat, i < 11 → Cond.eq (.field (zTm i) "java/lang/String" "coder" "B") (.int 0) ∈ zFl := by decide +kernel
theorem zf_ar : ∀ i : Nat, i < 11 → Cond.arrayOf (.field (zTm i) "java/lang/String" "value" "[B") .byte ∈ zFl := by decide +kernel
theorem zf_le : ∀ i : Nat, i < 11 → Cond.eq (.length (.field (zTm i) "java/lang/String" "value" "[B")) (.int (Int32.ofNat (gKl.getD i 0))) ∈ zFl := by decide +kernel
theorem zf_el : ∀ i : Nat, i < 11 → ∀ j : Nat, j < gKl.getD i 0 → Cond.eq (.elem (.field (zTm i) "java/lang/String" "value" "[B") (.int (Int32.ofNat j))) (.int ((gKb.getD i []).getD j 0)) ∈ zFl := by decide +kernel
theorem zf_ne : ∀ i : Nat, i < 11 → ∀ j : Nat, j < 11 → i ≠ j → (Cond.not (Cond.eq (zTm i) (zTm j)) ∈ zFl ∨ Cond.not (Cond.eq (zTm j) (zTm i)) ∈ zFl) := by decide +kernel
theorem zf_sr : ∀ i : Nat, i < 11 → Cond.stringRef "FoldGates$Tape" (gKi.getD i 0) (gKt.getD i "") ∈ tables_1 := by decide +kernel
theorem zf_a0 : ∀ j : Nat, j < 6 → Cond.eq (.elem (.static "FoldGates" "KIND_ABOVE" "[I") (.int (Int32.ofNat j))) (.int (gAbove.getD j 0)) ∈ zFl := by decide +kernel
theorem zf_a1 : ∀ j : Nat, j < 6 → Cond.eq (.elem (.static "FoldGates" "SIZE_BODIES" "[I") (.int (Int32.ofNat j))) (.int (gSizeB.getD j 0)) ∈ zFl := by decide +kernel
theorem zf_a2 : ∀ j : Nat, j < 6 → Cond.eq (.elem (.static "FoldGates" "MARK_BODIES" "[I") (.int (Int32.ofNat j))) (.int (gMarkB.getD j 0)) ∈ zFl := by decide +kernel
theorem zf_nest : ∀ w ∈ gNest, w ∈ tables_1 ∧ w.onTables = true := by decide +kernel
theorem zl_tab {w : Cond} (h : w ∈ tables_1) : w ∈ lw_tbl := List.mem_append_right _ h
theorem zl_good {w : Cond} (h : w ∈ gWS) : w ∈ lw_tbl := (List.mem_filter.mp h).1
/-- an array class that the tables name -/
theorem zl_arr {s : State} {args : Array Value} {ty : FieldType} (hp : ty = .int ∨ ty = .byte ∨ ty = .boolean) (h : (Cond.arrayClass ty).before args s = true) : ∃ cA : ClassId, ArrOfT s cA ty ∧ va_RA s cA ty := by
  obtain ⟨cA, kA, comp, h1, h2, h3⟩ := Cond.arrayClass_spec h
  refine ⟨cA, fun n z => ⟨fun k h => (by cases h), kA, h2, comp, h3⟩, ?_⟩
  rcases hp with rfl | rfl | rfl <;> exact h1
theorem zl_arrO {s : State} {args : Array Value} {C : String} (h : (Cond.arrayOver (.object C)).before args s = true) : ∃ cA : ClassId, ArrOfT s cA (.object C) ∧ va_RA s cA (.object C) := by
  obtain ⟨comp, cA, kA, h0, -, h2, h3, h1⟩ := Cond.arrayOver_spec h
  exact ⟨cA, fun n z => ⟨fun k h => (by cases h), kA, h2, comp, h3⟩, kA, comp, h2, h3, h0, h1⟩
set_option maxHeartbeats 4000000 in
theorem zl_K {s : State} {args : Array Value} (hts : ∀ w ∈ lw_tbl, w.before args s = true) : ∃ (D : va_G) (ca : Nat → ClassId), ∀ (r : (Nat → Nat) × Nat × (Nat → Int32)), va_K ((D, ca, r) : gG).1 vwCl (gT (D, ca, r)) s := by
  obtain ⟨c0, i0, k0⟩ := u_known (C := RX0) (T := TX0) (N := 9) (n := 9) hts (fun w hw => zl_good (inX_X0 w hw)) (hts (.instantiable RX0 9) (by decide +kernel))
  obtain ⟨c1, i1, k1⟩ := u_known (C := RX1) (T := TX1) (N := 3) (n := 3) hts (fun w hw => zl_good (inX_X1 w hw)) (hts (.instantiable RX1 3) (by decide +kernel))
  obtain ⟨c2, i2, k2⟩ := u_known (C := RX2) (T := TX2) (N := 9) (n := 9) hts (fun w hw => zl_good (inX_X2 w hw)) (hts (.instantiable RX2 9) (by decide +kernel))
  obtain ⟨c3, i3, k3⟩ := u_known (C := RX3) (T := TX3) (N := 5) (n := 5) hts (fun w hw => zl_good (inX_X3 w hw)) (hts (.instantiable RX3 5) (by decide +kernel))
  obtain ⟨c4, i4, k4⟩ := u_known (C := RX4) (T := TX4) (N := 7) (n := 7) hts (fun w hw => zl_good (inX_X4 w hw)) (hts (.instantiable RX4 7) (by decide +kernel))
  obtain ⟨c5, i5, k5⟩ := u_known (C := RX5) (T := TX5) (N := 14) (n := 14) hts (fun w hw => zl_good (inX_X5 w hw)) (hts (.instantiable RX5 14) (by decide +kernel))
  obtain ⟨c6, i6, k6⟩ := u_known (C := RX6) (T := TX6) (N := 26) (n := 26) hts (fun w hw => zl_good (inX_X6 w hw)) (hts (.instantiable RX6 26) (by decide +kernel))
  obtain ⟨a0, b0⟩ := zl_arr (ty := .int) (Or.inl rfl) (hts (.arrayClass .int) (by decide +kernel))
  obtain ⟨a1, b1⟩ := zl_arr (ty := .byte) (Or.inr (Or.inl rfl)) (hts (.arrayClass .byte) (by decide +kernel))
  obtain ⟨a2, b2⟩ := zl_arr (ty := .boolean) (Or.inr (Or.inr rfl)) (hts (.arrayClass .boolean) (by decide +kernel))
  obtain ⟨a3, b3⟩ := zl_arrO (C := RX1) (hts (.arrayOver (.object RX1)) (by decide +kernel))
  obtain ⟨a4, b4⟩ := zl_arrO (C := RX3) (hts (.arrayOver (.object RX3)) (by decide +kernel))
  refine ⟨(fun k => match k with | 0 => c0 | 1 => c1 | 2 => c2 | 3 => c3 | 4 => c4 | 5 => c5 | _ => c6, fun k => match k with | 0 => i0 | 1 => i1 | 2 => i2 | 3 => i3 | 4 => i4 | 5 => i5 | _ => i6), fun k => match k with | 0 => a0 | 1 => a1 | 2 => a2 | 3 => a3 | _ => a4, fun r => ⟨?_, ?_⟩⟩
  · intro k q hq
    match k, hq with
    | 0, hq => cases hq; exact k0
    | 1, hq => cases hq; exact k1
    | 2, hq => cases hq; exact k2
    | 3, hq => cases hq; exact k3
    | 4, hq => cases hq; exact k4
    | 5, hq => cases hq; exact k5
    | 6, hq => cases hq; exact k6
    | k + 7, hq => simp [vwCl] at hq
  · intro k q hq
    match k, hq with
    | 0, hq => cases hq; exact b0
    | 1, hq => cases hq; exact b1
    | 2, hq => cases hq; exact b2
    | 3, hq => cases hq; exact b3
    | 4, hq => cases hq; exact b4
    | k + 5, hq => simp [gT] at hq
/-- a static array of the class, by what is given of the start -/
theorem zl_sta {s : State} {args : Array Value} {A : Nat → Prop} {n : String} {f : List Int32} (hs : ∀ w ∈ zFl, w.before args s = true) (hts : ∀ w ∈ lw_tbl, w.before args s = true) (hA : ∀ a : Nat, a < s.heap.size → ¬ A a)
    (h0 : Cond.laysStatic "FoldGates" n "[I" ∈ tables_1) (h1 : Cond.arrayOf (.static "FoldGates" n "[I") .int ∈ zFl) (h2 : Cond.eq (.length (.static "FoldGates" n "[I")) (.int 6) ∈ zFl) (h3 : ∀ j : Nat, j < 6 → Cond.eq (.elem (.static "FoldGates" n "[I") (.int (Int32.ofNat j))) (.int (f.getD j 0)) ∈ zFl) :
    ∃ t : Nat, va_Z RX5 n "[I" (.ref t) A s s.heap ∧ va_T .int t 6 (fun j => .int (f.getD j 0)) A s s.heap := by
  obtain ⟨t, ht, hT⟩ := va_Tof (ty := .int) (N := 6) (f := fun j => .int (f.getD j 0)) (A := A) (by decide) (hs _ h1) (va_eqt (hs _ h2)) (fun j hj => va_eqt (hs _ (h3 j hj))) hA
  exact ⟨t, va_Zref (hts _ (zl_tab h0)) (hts (.initialized "FoldGates") (by decide +kernel)) ht hA, hT⟩
set_option maxHeartbeats 4000000 in
theorem zl_C {s : State} {args : Array Value} {b L : Nat} {xs : Nat → Int32} {A : Nat → Prop} (hs : ∀ w ∈ zFl, w.before args s = true) (hts : ∀ w ∈ lw_tbl, w.before args s = true) (hA : ∀ a : Nat, a < s.heap.size → ¬ A a) (hX : va_X b L xs s s.heap) (D : va_G) (ca : Nat → ClassId) :
    ∃ ad : Nat → Nat, ad 45 = b ∧ gC (D, ca, ad, L, xs) A s := by
  obtain ⟨adK, adV, hS, hev⟩ := vk_Sof (args := args) (s := s) (N := 11) (tm := zTm) (len := gKl) (byt := gKb) (A := A) (by decide) (fun i hi => hs _ (zf_ex i hi)) (fun i hi => hs _ (zf_co i hi)) (fun i hi => hs _ (zf_ar i hi)) (fun i hi => hs _ (zf_le i hi)) (fun i hi j hj => hs _ (zf_el i hi j hj)) (fun i j hi hj hij => (zf_ne i hi j hj hij).imp (hs _) (hs _)) hA
  obtain ⟨t0, z0, y0⟩ := zl_sta (n := "KIND_ABOVE") (f := gAbove) hs hts hA (by decide +kernel) (by decide +kernel) (by decide +kernel) zf_a0
  obtain ⟨t1, z1, y1⟩ := zl_sta (n := "SIZE_BODIES") (f := gSizeB) hs hts hA (by decide +kernel) (by decide +kernel) (by decide +kernel) zf_a1
  obtain ⟨t2, z2, y2⟩ := zl_sta (n := "MARK_BODIES") (f := gMarkB) hs hts hA (by decide +kernel) (by decide +kernel) (by decide +kernel) zf_a2
  have hcs : va_Z RJ0 "COMPACT_STRINGS" "Z" (.int 1) A s s.heap := va_Zof (hts (.laysStatic RJ0 "COMPACT_STRINGS" "Z") (by decide +kernel)) (hts (.initialized RJ0) (by decide +kernel)) (va_eqi (hs (Cond.eq (.static RJ0 "COMPACT_STRINGS" "Z") (.int 1)) (by decide +kernel))) hA
  have hsf : va_Zq RJ3 "SIOOBE_FORMATTER" "Ljava/util/function/BiFunction;" A s s.heap := va_Zqof (hts (.laysStatic RJ3 "SIOOBE_FORMATTER" "Ljava/util/function/BiFunction;") (by decide +kernel)) (hts (.initialized RJ3) (by decide +kernel)) (hs (Cond.isRef (.static RJ3 "SIOOBE_FORMATTER" "Ljava/util/function/BiFunction;")) (by decide +kernel)) hA
  have ao1 : va_AO RX1 s := va_AO.of (hts (.arrayOver (.object RX1)) (by decide +kernel))
  have ao3 : va_AO RX3 s := va_AO.of (hts (.arrayOver (.object RX3)) (by decide +kernel))
  obtain ⟨scr, x1, x2, x3, x4, x5⟩ := hX
  have hT : va_T .int b L (fun j => .int (xs j)) A s s.heap := ⟨scr, x1, x2, x3, by omega, by rw [x4], x5, hA b (Array.getElem?_eq_some_iff.mp x1).1⟩
  refine ⟨fun i => if i < 20 then adK i else if i < 40 then adV (i - 20) else if i = 40 then t0 else if i = 41 then t1 else if i = 42 then t2 else b, rfl, ?_, ?_, z0, y0, z1, y1, z2, y2, hcs, hsf, ⟨ao1, ao3, hT⟩, ?_⟩
  · have e1 : ∀ i : Nat, i < 11 → gK (D, ca, (fun i => if i < 20 then adK i else if i < 40 then adV (i - 20) else if i = 40 then t0 else if i = 41 then t1 else if i = 42 then t2 else b), L, xs) i = adK i := fun i hi => if_pos (show i < 20 by omega)
    have e2 : ∀ i : Nat, i < 11 → gV (D, ca, (fun i => if i < 20 then adK i else if i < 40 then adV (i - 20) else if i = 40 then t0 else if i = 41 then t1 else if i = 42 then t2 else b), L, xs) i = adV i := fun i hi => by
      show (if 20 + i < 20 then adK (20 + i) else if 20 + i < 40 then adV (20 + i - 20) else _) = _
      rw [if_neg (by omega), if_pos (by omega), Nat.add_sub_cancel_left]
    refine ⟨fun i hi => ?_, fun i j hi hj hij => ?_⟩
    · rw [e1 i hi, e2 i hi]
      exact hS.1 i hi
    · rw [e1 i hi, e1 j hj] at hij
      exact hS.2 i j hi hj hij
  · intro i hi
    have e1 : gK (D, ca, (fun i => if i < 20 then adK i else if i < 40 then adV (i - 20) else if i = 40 then t0 else if i = 41 then t1 else if i = 42 then t2 else b), L, xs) i = adK i := if_pos (show i < 20 by omega)
    rw [e1]
    exact vk_R.of (hts _ (zl_tab (zf_sr i hi))) (hev i hi)
  · exact fun w hw => va_Nw.of (zf_nest w hw).2 (hts w (zl_tab (zf_nest w hw).1))
