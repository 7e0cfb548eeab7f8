section GN
variable {g : gG} {y : gM} {d rc rs : Nat} {Post : Nat → Nat → Option Value → va_W → Prop} {k j pc : Nat} {lv : List (Nat × Value)} {st : List Value} {ws : va_W}
/-- a class of ours can be made from a place of the pool -/
def gNw (own : String) (idx ci N : Nat) (fs : List Value) : Prop := ∃ (C : String) (T : u_T) (ty0 : Nat → FieldType), vwCl[ci]? = some (C, T, N) ∧ (∀ w ∈ u_ws C T N, w ∈ gWS) ∧ (∀ k, k < N → parseFieldDescriptor (T k).2.2.1 = some (ty0 k)) ∧ Cond.classLink own idx C ∈ gWS ∧ Cond.instantiable C N ∈ gWS ∧ Cond.initialized C ∈ gWS ∧ ∀ jj, jj < N → defaultValue (ty0 jj) = vp_V fs jj
theorem j_new {idx ci N : Nat} {fs : List Value} (n : Nat) (hd : decode y.2.1 pc = .ok (.new idx, 3)) (hn : pc + 3 = n) (hN : gNw y.1.cls idx ci N fs) (hk : k + 1 ≤ rc) (hj : j + N ≤ rs) (kk : ∀ q : Nat, gJ g y d rc rs Post (k + 1) (j + N) n lv (.ref q :: st) (ws ++ [(q, .inr (ci, fs))])) : gJ g y d rc rs Post k j pc lv st ws := by
  subst hn
  intro p l e R s m args below meth c A Q X ex H locs ls hlv hP hD hS
  obtain ⟨hx, hb, hml, hown, hts, hK, hC, hA, hfr, hlo, hrc, hrs, hnm⟩ := id X
  obtain ⟨C, T, ty0, hc, hin, hty, h1, h2, h3, hfs⟩ := hN
  exact va_new hx hb hts hin ty0 hty hown (hts _ h1) (hts _ h2) (hts _ h3) hK hP hD hS hA hc hfs (by rw [hrc]; exact hk) (by rw [hrs]; exact hj) hd (fun q H1 hP1 hD1 hS1 => kk q p l e R s m args below meth c A Q X ex H1 locs ls hlv hP1 hD1 hS1)
theorem gRA_eq {s : State} {c1 c2 : ClassId} {ty : FieldType} (hp : ty = .int ∨ ty = .byte ∨ ty = .boolean) (h1 : va_RA s c1 ty) (h2 : va_RA s c2 ty) : c1 = c2 := by
  rcases hp with rfl | rfl | rfl
  all_goals
    have h1' : s.vm.findClass _ = some c1 := h1
    have h2' : s.vm.findClass _ = some c2 := h2
    rw [h1'] at h2'
    exact Option.some.inj h2'
theorem gRA_eqO {s : State} {c1 c2 : ClassId} {C : String} (h1 : va_RA s c1 (.object C)) (h2 : va_RA s c2 (.object C)) : c1 = c2 := by
  obtain ⟨_, _, _, _, _, h1'⟩ := h1
  obtain ⟨_, _, _, _, _, h2'⟩ := h2
  rw [h1'] at h2'
  exact Option.some.inj h2'
theorem j_newa {at0 : ArrayType} {ty : FieldType} {N t0 : Nat} {cA : ClassId} {i : Int32} (n : Nat) (hd : decode y.2.1 pc = .ok (.newarray at0, 2)) (hn : pc + 2 = n) (hty : newarray.typeOf at0 = ty) (ht0 : (gT g)[t0]? = some (cA, ty)) (hpr : ty = .int ∨ ty = .byte ∨ ty = .boolean) (hw : Cond.arrayClass ty ∈ gWS) (hi : ¬ i < 0) (hN : i.toNatClampNeg = N) (hbig : N ≤ 100000) (hk : k + 1 ≤ rc) (hj : j + N ≤ rs) (kk : ∀ q : Nat, gJ g y d rc rs Post (k + 1) (j + N) n lv (.ref q :: st) (ws ++ [(q, .inl (cA, N, .inl (fun _ => 0)))])) : gJ g y d rc rs Post k j pc lv (.int i :: st) ws := by
  subst hn
  intro p l e R s m args below meth c A Q X ex H locs ls hlv hP hD hS
  obtain ⟨hx, hb, hml, hown, hts, hK, hC, hA, hfr, hlo, hrc, hrs, hnm⟩ := id X
  have hdef : defaultValue ty = .int 0 := by rcases hpr with rfl | rfl | rfl <;> rfl
  have hcb : componentBytes ty ≤ 8 := by rcases hpr with rfl | rfl | rfl <;> decide
  refine va_newa (ty := ty) (a0 := (N, .inl (fun _ => 0))) hx hb (by rw [hty]; exact hts _ hw) hty hK hP hD hS hA (fun cB => by rw [hdef]; rfl) hi hN ?_ (by rw [hrc]; exact hk) (by rw [hrs]; exact hj) hd ?_
  · have : N * componentBytes ty ≤ 100000 * 8 := Nat.mul_le_mul hbig hcb
    omega
  · intro q cB H1 hK1 hP1 hD1 hS1
    have h1 := (hK1.2 (gT g).length (cB, ty) (by simp)).2
    have h2 := (hK.2 t0 (cA, ty) ht0).2
    have := gRA_eq hpr h1 h2
    subst this
    exact kk q p l e R s m args below meth c A Q X ex H1 locs ls hlv hP1 hD1 hS1
theorem j_newq {C : String} {idx N t0 : Nat} {cA : ClassId} {i : Int32} (n : Nat) (hd : decode y.2.1 pc = .ok (.anewarray idx, 3)) (hn : pc + 3 = n) (ht0 : (gT g)[t0]? = some (cA, .object C)) (hC : C = RX1 ∨ C = RX3) (hw : Cond.classLink y.1.cls idx C ∈ gWS) (hi : ¬ i < 0) (hN : i.toNatClampNeg = N) (hbig : N ≤ 100000) (hk : k + 1 ≤ rc) (hj : j + N ≤ rs) (kk : ∀ q : Nat, gJ g y d rc rs Post (k + 1) (j + N) n lv (.ref q :: st) (ws ++ [(q, .inl (cA, N, .inr (.inr (.inr (.inr (fun _ => none))))))])) : gJ g y d rc rs Post k j pc lv (.int i :: st) ws := by
  subst hn
  intro p l e R s m args below meth c A Q X ex H locs ls hlv hP hD hS
  obtain ⟨hx, hb, hml, hown, hts, hK, hCc, hA, hfr, hlo, hrc, hrs, hnm⟩ := id X
  have hao : va_AO C s := by
    rcases hC with rfl | rfl
    · exact hCc.2.2.2.2.2.2.2.2.2.2.1.1
    · exact hCc.2.2.2.2.2.2.2.2.2.2.1.2.1
  refine va_newq hx hb hown (hts _ hw) hao hK hP hD hS hA hi hN (by omega) (by rw [hrc]; exact hk) (by rw [hrs]; exact hj) hd ?_
  intro q cB H1 hK1 hP1 hD1 hS1
  have h1 := (hK1.2 (gT g).length (cB, .object C) (by simp)).2
  have h2 := (hK.2 t0 (cA, .object C) ht0).2
  have := gRA_eqO h1 h2
  subst this
  exact kk q p l e R s m args below meth c A Q X ex H1 locs ls hlv hP1 hD1 hS1
/-- System.arraycopy over ints -/
theorem j_copy {idx a0 a1 n0 n1 : Nat} {f f1 : Nat → Int32} {sp dp cn : Int32} (n q0 q1 : Nat) (ws2 : va_W) (hd : decode y.2.1 pc = .ok (.invokestatic idx, 3)) (hn : pc + 3 = n) (hw : Cond.methodLink y.1.cls idx arraycopyName ∈ gWS ∧ Cond.native arraycopyName ∈ gWS ∧ Cond.static arraycopyName ∈ gWS ∧ Cond.initialized "java/lang/System" ∈ gWS) (h0 : ws[q0]? = some (a0, .inl (g.2.1 0, n0, .inl f))) (h1 : ws[q1]? = some (a1, .inl (g.2.1 0, n1, .inl f1))) (hp1 : ¬ sp < 0) (hp2 : ¬ dp < 0) (hp3 : ¬ cn < 0) (hp4 : sp.toNatClampNeg + cn.toNatClampNeg ≤ n0) (hp5 : dp.toNatClampNeg + cn.toNatClampNeg ≤ n1) (hdp : 1 ≤ d) (hst : (st.map fun v => v.category).sum ≤ 8)
    (hw2 : ws.set q1 (a1, .inl (g.2.1 0, n1, .inl (va_cpy f f1 sp.toNatClampNeg dp.toNatClampNeg cn.toNatClampNeg))) = ws2) (kk : gJ g y d rc rs Post k j n lv st ws2) : gJ g y d rc rs Post k j pc lv (.int cn :: .int dp :: .ref a1 :: .int sp :: .ref a0 :: st) ws := by
  subst hn; subst hw2
  intro p l e R s m args below meth c A Q X ex H locs ls hlv hP hD hS
  obtain ⟨hx, hb, hml, hown, hts, hK, hCc, hA, hfr, hlo, hrc, hrs, hnm⟩ := id X
  refine va_copyi (ty := .int) hx hb (by rw [hml]; exact hlv.1.symm) hown (hts _ hw.1) (hts _ hw.2.1) (hts _ hw.2.2.1) (hts _ hw.2.2.2) hK hP hD hS q0 q1 0 0 h0 h1 rfl rfl rfl hp1 hp2 hp3 hp4 hp5 (fun i _ => rfl) (by omega) ?_ hd (fun H1 locs1 hP1 hD1 hS1 => kk p l e R s m args below meth c A Q X ex H1 locs1 ls hlv hP1 hD1 hS1)
  have : nativeFrameWords "java/lang/System" "arraycopy" 5 = 7 := by decide +kernel
  rw [this]
  omega
/-- the static arrays of FoldGates -/
theorem j_gsta {idx : Nat} {nm : String} (n i : Nat) (hd : decode y.2.1 pc = .ok (.getstatic idx, 3)) (hn : pc + 3 = n) (hi : (i = 0 ∧ nm = "KIND_ABOVE") ∨ (i = 1 ∧ nm = "SIZE_BODIES") ∨ (i = 2 ∧ nm = "MARK_BODIES")) (hw : Cond.fieldLink y.1.cls idx RX5 nm "[I" ∈ gWS) (kk : gJ g y d rc rs Post k j n lv (.ref (gA g i) :: st) ws) : gJ g y d rc rs Post k j pc lv st ws := by
  subst hn
  intro p l e R s m args below meth c A Q X ex H locs ls hlv hP hD hS
  obtain ⟨hx, hb, hml, hown, hts, hK, hCc, hA, hfr, hlo, hrc, hrs, hnm⟩ := id X
  have hZ : va_Z RX5 nm "[I" (.ref (gA g i)) A s s.heap := by
    rcases hi with ⟨rfl, rfl⟩ | ⟨rfl, rfl⟩ | ⟨rfl, rfl⟩
    · exact hCc.2.2.1
    · exact hCc.2.2.2.2.1
    · exact hCc.2.2.2.2.2.2.1
  exact va_gets hx hb hZ hS hown (hts _ hw) (fun _ h => h) hd (kk p l e R s m args below meth c A Q X ex H locs ls hlv hP hD hS)
def gSta (i : Nat) : List Int32 := match i with
  | 0 => gAbove
  | 1 => gSizeB
  | _ => gMarkB
theorem j_tald {i : Int32} (n t : Nat) (hd : decode y.2.1 pc = .ok (.iaload, 1)) (hn : pc + 1 = n) (ht : t < 3) (hin : vp_in i 6) (kk : gJ g y d rc rs Post k j n lv (.int ((gSta t).getD i.toNatClampNeg 0) :: st) ws) : gJ g y d rc rs Post k j pc lv (.int i :: .ref (gA g t) :: st) ws := by
  subst hn
  intro p l e R s m args below meth c A Q X ex H locs ls hlv hP hD hS
  obtain ⟨hx, hb, hml, hown, hts, hK, hCc, hA, hfr, hlo, hrc, hrs, hnm⟩ := id X
  have hT : va_T .int (gA g t) 6 (fun j => .int ((gSta t).getD j 0)) A s s.heap := by
    match t, ht with
    | 0, _ => exact hCc.2.2.2.1
    | 1, _ => exact hCc.2.2.2.2.2.1
    | 2, _ => exact hCc.2.2.2.2.2.2.2.1
  exact va_ti hx hb hT hS hin rfl hd (kk p l e R s m args below meth c A Q X ex H locs ls hlv hP hD hS)
/-- the law's own script -/
theorem j_sld {i : Int32} (n : Nat) (hd : decode y.2.1 pc = .ok (.iaload, 1)) (hn : pc + 1 = n) (hin : vp_in i g.2.2.2.1) (kk : gJ g y d rc rs Post k j n lv (.int (g.2.2.2.2 i.toNatClampNeg) :: st) ws) : gJ g y d rc rs Post k j pc lv (.int i :: .ref (gA g 5) :: st) ws := by
  subst hn
  intro p l e R s m args below meth c A Q X ex H locs ls hlv hP hD hS
  obtain ⟨hx, hb, hml, hown, hts, hK, hCc, hA, hfr, hlo, hrc, hrs, hnm⟩ := id X
  exact va_ti hx hb hCc.2.2.2.2.2.2.2.2.2.2.1.2.2 hS hin rfl hd (kk p l e R s m args below meth c A Q X ex H locs ls hlv hP hD hS)
theorem j_slen (n : Nat) (hd : decode y.2.1 pc = .ok (.arraylength, 1)) (hn : pc + 1 = n) (kk : gJ g y d rc rs Post k j n lv (.int (Int32.ofNat g.2.2.2.1) :: st) ws) : gJ g y d rc rs Post k j pc lv (.ref (gA g 5) :: st) ws := by
  subst hn
  intro p l e R s m args below meth c A Q X ex H locs ls hlv hP hD hS
  obtain ⟨hx, hb, hml, hown, hts, hK, hCc, hA, hfr, hlo, hrc, hrs, hnm⟩ := id X
  exact va_tlen hx hb hCc.2.2.2.2.2.2.2.2.2.2.1.2.2 hS rfl hd (kk p l e R s m args below meth c A Q X ex H locs ls hlv hP hD hS)
end GN
