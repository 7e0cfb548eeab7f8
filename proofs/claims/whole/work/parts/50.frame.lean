/-! worlds up to order -/
theorem va_P_mem {D : va_G} {cl : List vw_C} {ws : va_W} {H : Heap} : va_P D cl ws H ↔ ∀ q ∈ ws, va_at D cl q H := by
  constructor
  · intro h q hq
    obtain ⟨k, hk⟩ := List.getElem?_of_mem hq
    exact h k q hk
  · intro h k q hq
    exact h q (List.mem_of_getElem? hq)
theorem va_P_perm {D : va_G} {cl : List vw_C} {ws ws2 : va_W} {H : Heap} (hp : List.Perm ws ws2) (h : va_P D cl ws H) : va_P D cl ws2 H :=
  va_P_mem.mpr fun q hq => va_P_mem.mp h q (hp.mem_iff.mpr hq)
theorem va_D_nd {A : Nat → Prop} {ws : va_W} : va_D A ws ↔ (ws.map (fun q => q.1)).Nodup ∧ ∀ q ∈ ws, A q.1 := by
  constructor
  · intro h
    refine ⟨?_, fun q hq => ?_⟩
    · refine List.pairwise_iff_getElem.mpr ?_
      intro i j hi hj hij e
      have li : i < ws.length := by rwa [List.length_map] at hi
      have lj : j < ws.length := by rwa [List.length_map] at hj
      rw [List.getElem_map, List.getElem_map] at e
      have := h.1 i j ws[i] ws[j] (List.getElem?_eq_getElem li) (List.getElem?_eq_getElem lj) e
      omega
    · obtain ⟨k, hk⟩ := List.getElem?_of_mem hq
      exact h.2 k q hk
  · rintro ⟨h1, h2⟩
    refine ⟨fun i j p q hi hj e => ?_, fun k q hq => h2 q (List.mem_of_getElem? hq)⟩
    have h1 := List.pairwise_iff_getElem.mp h1
    obtain ⟨li, ei⟩ := List.getElem?_eq_some_iff.mp hi
    obtain ⟨lj, ej⟩ := List.getElem?_eq_some_iff.mp hj
    rcases Nat.lt_trichotomy i j with c | c | c
    · exact absurd (by rw [List.getElem_map, List.getElem_map, ei, ej]; exact e) (h1 i j (by rw [List.length_map]; exact li) (by rw [List.length_map]; exact lj) c)
    · exact c
    · exact absurd (by rw [List.getElem_map, List.getElem_map, ei, ej]; exact e.symm) (h1 j i (by rw [List.length_map]; exact lj) (by rw [List.length_map]; exact li) c)
theorem va_D_perm {A : Nat → Prop} {ws ws2 : va_W} (hp : List.Perm ws ws2) (h : va_D A ws) : va_D A ws2 := by
  rw [va_D_nd] at h ⊢
  exact ⟨(hp.map _).nodup_iff.mp h.1, fun q hq => h.2 q (hp.mem_iff.mpr hq)⟩
section GPERM
variable {g : gG} {y : gM} {d rc rs : Nat} {Post : Nat → Nat → Option Value → va_W → Prop} {k j pc : Nat} {lv : List (Nat × Value)} {st : List Value} {ws : va_W}
theorem j_perm (ws2 : va_W) (h : List.Perm ws ws2) (kk : gJ g y d rc rs Post k j pc lv st ws2) : gJ g y d rc rs Post k j pc lv st ws := by
  intro p l e R s m args below meth c A Q X ex H locs ls hlv hP hD hS
  exact kk p l e R s m args below meth c A Q X ex H locs ls hlv (va_P_perm h hP) (va_D_perm h hD) hS
/-- the cells of a world are apart -/
theorem j_nd (kk : (ws.map (fun q => q.1)).Nodup → gJ g y d rc rs Post k j pc lv st ws) : gJ g y d rc rs Post k j pc lv st ws := by
  intro p l e R s m args below meth c A Q X ex H locs ls hlv hP hD hS
  exact kk (va_D_nd.mp hD).1 p l e R s m args below meth c A Q X ex H locs ls hlv hP hD hS
theorem nF_cpy {f f1 : Nat → Nat} {sp dp n : Nat} : va_cpy (nF f) (nF f1) sp dp n = nF (va_cpy f f1 sp dp n) := by
  funext k
  simp only [va_cpy, nF]
  split <;> rfl
theorem j_copyN {idx a0 a1 n0 n1 : Nat} {f f1 : Nat → Nat} (sp dp cn : Nat) (n q0 q1 : Nat) (ws2 : va_W) (hd : decode y.2.1 pc = .ok (.invokestatic idx, 3)) (hn : pc + 3 = n) (hw : Cond.methodLink y.1.cls idx arraycopyName ∈ gWS ∧ Cond.native arraycopyName ∈ gWS ∧ Cond.static arraycopyName ∈ gWS ∧ Cond.initialized "java/lang/System" ∈ gWS) (h0 : ws[q0]? = some (a0, .inl (g.2.1 0, n0, .inl (nF f)))) (h1 : ws[q1]? = some (a1, .inl (g.2.1 0, n1, .inl (nF f1)))) (hp4 : sp + cn ≤ n0) (hp5 : dp + cn ≤ n1) (hb : n0 < 100000 ∧ n1 < 100000) (hdp : 1 ≤ d) (hst : (st.map fun v => v.category).sum ≤ 8)
    (hw2 : ws.set q1 (a1, .inl (g.2.1 0, n1, .inl (nF (va_cpy f f1 sp dp cn)))) = ws2) (kk : gJ g y d rc rs Post k j n lv st ws2) : gJ g y d rc rs Post k j pc lv (.int (nI cn) :: .int (nI dp) :: .ref a1 :: .int (nI sp) :: .ref a0 :: st) ws := by
  have e1 : (nI sp).toNatClampNeg = sp := nI_clamp (by omega)
  have e2 : (nI dp).toNatClampNeg = dp := nI_clamp (by omega)
  have e3 : (nI cn).toNatClampNeg = cn := nI_clamp (by omega)
  have z : ∀ m : Nat, m < 100001 → ¬ nI m < 0 := fun m hm q => by
    have := i32_neg.mp q
    rw [nI_toInt (by omega)] at this
    omega
  exact j_copy n q0 q1 ws2 hd hn hw h0 h1 (z sp (by omega)) (z dp (by omega)) (z cn (by omega)) (by rw [e1, e3]; exact hp4) (by rw [e2, e3]; exact hp5) hdp hst (by rw [e1, e2, e3, nF_cpy]; exact hw2) kk
end GPERM
/-- cells in a row of n groups -/
def fl (n : Nat) (c : Nat → va_W) : va_W := (List.range n).flatMap c
theorem fl_0 (c : Nat → va_W) : fl 0 c = [] := rfl
theorem fl_s (n : Nat) (c : Nat → va_W) : fl (n + 1) c = fl n c ++ c n := by simp [fl, List.range_succ]
theorem fl_ext {n : Nat} {c c' : Nat → va_W} (h : ∀ i, i < n → c i = c' i) : fl n c = fl n c' := by
  induction n with
  | zero => rfl
  | succ n ih => rw [fl_s, fl_s, ih (fun i hi => h i (by omega)), h n (by omega)]
theorem fl_out {n : Nat} {c : Nat → va_W} {k : Nat} (hk : k < n) : List.Perm (fl n c) (c k ++ fl n (va_up c k [])) := by
  induction n with
  | zero => omega
  | succ n ih =>
    rw [fl_s, fl_s]
    by_cases e : k = n
    · subst e
      rw [va_up_s, List.append_nil, fl_ext (c := va_up c k []) (c' := c) (fun i hi => va_up_n (by omega))]
      exact List.perm_append_comm
    · rw [va_up_n (fun q => e q.symm), ← List.append_assoc]
      exact (ih (by omega)).append_right _
theorem up_up {α : Type} {f : Nat → α} {k : Nat} {a b : α} : va_up (va_up f k a) k b = va_up f k b := by
  funext j
  simp only [va_up]
  split <;> rfl
theorem fl_in {n : Nat} {c : Nat → va_W} {k : Nat} {x : va_W} (hk : k < n) : List.Perm (fl n (va_up c k x)) (x ++ fl n (va_up c k [])) := by
  have h := fl_out (c := va_up c k x) hk
  rwa [va_up_s, up_up] at h
theorem fl_len {n m : Nat} {c : Nat → va_W} (h : ∀ i, i < n → (c i).length = m) : (fl n c).length = n * m := by
  induction n with
  | zero => simp [fl]
  | succ n ih => rw [fl_s, List.length_append, ih (fun i hi => h i (by omega)), h n (by omega), Nat.succ_mul]
