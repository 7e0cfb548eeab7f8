theorem gGI {ws : List Cond} (h : ∀ w ∈ ws, w ∈ gWS) : GoodIn gWS ws := fun w hw => ⟨h w hw, good_of_word (List.mem_filter.mp (h w hw)).2⟩
/-- the callee's cells, changed, come back to their places; what it made comes behind -/
def gPut : va_W → List Nat → va_W → va_W
  | ws, [], w1 => ws ++ w1
  | ws, i :: is, x :: w1 => gPut (ws.set i x) is w1
  | ws, _ :: _, [] => ws
theorem gPut_at : ∀ (is : List Nat) (ws w1 : va_W), is.length ≤ w1.length → (∀ i ∈ is, i < ws.length) → va_nd is = true → ∀ (k : Nat) (x : Nat × va_E), (gPut ws is w1)[k]? = some x →
    (∃ jj : Nat, w1[jj]? = some x ∧ ((jj < is.length ∧ is[jj]? = some k) ∨ (is.length ≤ jj ∧ k = ws.length + (jj - is.length)))) ∨ (k ∉ is ∧ ws[k]? = some x)
  | [], ws, w1, _, _, _, k, x, h => by
    simp only [gPut] at h
    by_cases hk : k < ws.length
    · rw [List.getElem?_append_left hk] at h
      exact Or.inr ⟨by simp, h⟩
    · rw [List.getElem?_append_right (by omega)] at h
      exact Or.inl ⟨k - ws.length, h, Or.inr ⟨by simp, by simp; omega⟩⟩
  | i :: is, ws, [], hl, _, _, k, x, h => by simp at hl
  | i :: is, ws, e :: w1, hl, hi, hn, k, x, h => by
    simp only [gPut] at h
    simp only [va_nd, Bool.and_eq_true, decide_eq_true_eq] at hn
    have hl' : is.length ≤ w1.length := by simpa using hl
    rcases gPut_at is (ws.set i e) w1 hl' (fun a ha => by rw [List.length_set]; exact hi a (List.mem_cons_of_mem _ ha)) hn.2 k x h with ⟨jj, h1, h2⟩ | ⟨h1, h2⟩
    · refine Or.inl ⟨jj + 1, by simpa using h1, ?_⟩
      rcases h2 with ⟨a, b⟩ | ⟨a, b⟩
      · exact Or.inl ⟨by simpa using a, by simpa using b⟩
      · refine Or.inr ⟨by simpa using a, ?_⟩
        rw [List.length_set] at b
        rw [b, List.length_cons]
        omega
    · by_cases hk : k = i
      · subst hk
        have hlt : k < ws.length := hi k (List.mem_cons_self)
        rw [List.getElem?_set_self hlt] at h2
        cases h2
        exact Or.inl ⟨0, rfl, Or.inl ⟨by simp, rfl⟩⟩
      · rw [List.getElem?_set_ne (fun q => hk q.symm)] at h2
        exact Or.inr ⟨by simp [hk, h1], h2⟩
theorem gPut_join {A : Nat → Prop} {D : va_G} {cl : List vw_C} {ws wc w1 : va_W} {H H1 : Heap} (hP : va_P D cl ws H) (hD : va_D A ws) (is : List Nat) (hC : is.map (fun i => ws[i]?) = wc.map some) (hn : va_nd is = true) (hlen : is.length ≤ w1.length)
    (hk : ∀ q : Nat, q < H.size → ¬ va_A wc H.size q → H1[q]? = H[q]?) (hF : ∀ q, va_A wc H.size q → A q) (hP1 : va_P D cl w1 H1) (hD1 : va_D (va_A wc H.size) w1) : va_P D cl (gPut ws is w1) H1 ∧ va_D A (gPut ws is w1) := by
  have at' : ∀ (kk : Nat) (q : Nat × va_E), wc[kk]? = some q → ∃ i, is[kk]? = some i ∧ ws[i]? = some q := by
    intro kk q hq
    have h1 : (is.map (fun i => ws[i]?))[kk]? = some (some q) := by rw [hC, List.getElem?_map, hq]; rfl
    rw [List.getElem?_map] at h1
    cases hi : is[kk]? with
    | none => rw [hi] at h1; cases h1
    | some i => rw [hi] at h1; exact ⟨i, rfl, Option.some.inj h1⟩
  have hin : ∀ i ∈ is, i < ws.length := by
    intro i hi
    obtain ⟨kk, hkk⟩ := List.getElem?_of_mem hi
    have h1 : (is.map (fun i => ws[i]?))[kk]? = some (ws[i]?) := by rw [List.getElem?_map, hkk]; rfl
    rw [hC, List.getElem?_map] at h1
    cases hw : wc[kk]? with
    | none => rw [hw] at h1; cases h1
    | some q =>
      rw [hw] at h1
      have h2 : ws[i]? = some q := (Option.some.inj h1).symm
      exact (List.getElem?_eq_some_iff.mp h2).1
  have apart : ∀ (kk : Nat) (q : Nat × va_E), kk ∉ is → ws[kk]? = some q → q.1 < H.size ∧ ¬ va_A wc H.size q.1 := by
    intro kk q hni hq
    have hlt := (hP kk q hq).lt
    refine ⟨hlt, ?_⟩
    rintro (⟨k2, e2, h2⟩ | h2)
    · obtain ⟨i, hi1, hi2⟩ := at' k2 _ h2
      have := hD.1 kk i q _ hq hi2 rfl
      subst this
      exact hni (List.mem_of_getElem? hi1)
    · omega
  have key := gPut_at is ws w1 hlen hin hn
  refine ⟨?_, ?_, ?_⟩
  · intro kk q hq
    rcases key kk q hq with ⟨jj, h1, -⟩ | ⟨h1, h2⟩
    · exact hP1 jj q h1
    · have := apart kk q h1 h2
      exact (hP kk q h2).kept (hk _ this.1 this.2)
  · intro a b qa qb ha hb e
    rcases key a qa ha with ⟨ja, a1, a2⟩ | ⟨a1, a2⟩ <;> rcases key b qb hb with ⟨jb, b1, b2⟩ | ⟨b1, b2⟩
    · have hjj := hD1.1 ja jb qa qb a1 b1 e
      subst hjj
      rcases a2 with ⟨x1, x2⟩ | ⟨x1, x2⟩ <;> rcases b2 with ⟨y1, y2⟩ | ⟨y1, y2⟩
      · rw [x2] at y2; exact Option.some.inj y2
      · omega
      · omega
      · rw [x2, y2]
    · exact absurd (by rw [← e]; exact hD1.2 ja qa a1) (apart b qb b1 b2).2
    · exact absurd (by rw [e]; exact hD1.2 jb qb b1) (apart a qa a1 a2).2
    · exact hD.1 a b qa qb a2 b2 e
  · intro kk q hq
    rcases key kk q hq with ⟨jj, h1, -⟩ | ⟨h1, h2⟩
    · exact hF _ (hD1.2 jj q h1)
    · exact hD.2 kk q h2
/-- how a method is called from a place of the pool (virtual, static, a constructor, a private constructor of a nest mate) -/
def gCb (yc : gM) (na : Nat) : Prop := Cond.initialized yc.1.cls ∈ gWS ∧ Cond.code yc.1 yc.2.1 yc.2.2.1 yc.2.2.2 ∈ gWS ∧ yc.1.cls ≠ "java/lang/invoke/MethodHandle" ∧ yc.1.cls ≠ "java/lang/invoke/VarHandle" ∧ (parseMethodDescriptor yc.1.desc).map (fun d => d.parameters.length) = some na ∧ yc.2.2.1 ≤ 29
def gCv (own : String) (idx : Nat) (yc : gM) (na : Nat) : Prop := Cond.methodLink own idx yc.1 ∈ gWS ∧ Cond.instanceMethod yc.1 ∈ gWS ∧ Cond.selects yc.1.cls yc.1 yc.1 ∈ gWS ∧ gCb yc na
def gCs (own : String) (idx : Nat) (yc : gM) (na : Nat) : Prop := Cond.methodLink own idx yc.1 ∈ gWS ∧ Cond.static yc.1 ∈ gWS ∧ gCb yc na
def gCi (own : String) (idx : Nat) (yc : gM) (na : Nat) : Prop := Cond.methodLink own idx yc.1 ∈ gWS ∧ Cond.instanceMethod yc.1 ∈ gWS ∧ yc.1.name = "<init>" ∧ yc.2.2.2 = none ∧ gCb yc na
def gCn (own : String) (idx : Nat) (yc : gM) (na : Nat) : Prop := (∃ host : String, Cond.methodLinkNest own idx yc.1 host ∈ gNest) ∧ Cond.instanceMethod yc.1 ∈ gWS ∧ yc.1.name = "<init>" ∧ yc.2.2.2 = none ∧ gCb yc na
section GC
variable {g : gG} {y : gM} {d rc rs : Nat} {Post : Nat → Nat → Option Value → va_W → Prop} {k j pc : Nat} {lv : List (Nat × Value)} {st : List Value} {ws : va_W}
/-- behind a call -/
theorem gBack {p : Program} {l : Launch} {e : Env} {R : Room} {s : State} {m : MethodId} {args : Array Value} {below : List Frame} {meth : Method} {c : Code} {A : Nat → Prop} {Q : State → Prop} {H : Heap} {locs : List Loc} {mc ms : Nat} {ls : Array Slot} {st0 rest : List Value} {a : Array Value} {wc : va_W} {PostC : Option Value → va_W → Prop} {is : List Nat}
    (hr : va_Run p l e R s m args below meth c H locs k j mc ms (F0 m pc ls st0) rest (gQc g wc H.size PostC a) (va_A wc H.size)) (hP : va_P g.1 vwCl ws H) (hD : va_D A ws) (hS : va_S A s.heap H locs) (hA : ∀ q, s.heap.size ≤ q → A q) (hC : is.map (fun i => ws[i]?) = wc.map some) (hn : va_nd is = true)
    (kk : ∀ (rv : Option Value) (w1 : va_W), PostC rv w1 → is.length ≤ w1.length ∧ ∀ (H1 : Heap) (locs1 : List Loc), va_P g.1 vwCl (gPut ws is w1) H1 → va_D A (gPut ws is w1) → va_S A s.heap H1 locs1 → W p l e R s m args below meth c H1 locs1 (k + mc) (j + ms) Q (F0 m (pc + 3) ls (rv.toList ++ rest))) :
    W p l e R s m args below meth c H locs k j Q (F0 m pc ls st0) := by
  have hF := va_free (wc := wc) hD hS hA is hC
  intro T hT X
  obtain ⟨v, st₀, t, T', L, h0, X', hL, e1, e2, ⟨rv, w1, hv, hp, hP1, hD1, hz, hk⟩, stp⟩ := hr T hT X
  cases hv
  rw [h0] at hz hk
  obtain ⟨hlen, kk⟩ := kk v w1 hp
  have hjoin := gPut_join (H1 := t.heap) hP hD is hC hn hlen hk hF hP1 hD1
  obtain ⟨t2, a1, b1⟩ := kk T'.heap (locs ++ L) (by rw [e1]; exact hjoin.1) hjoin.2
    ⟨Nat.le_trans hS.1 (by rw [e1]; exact hz), fun q h1 h2 => by rw [e1, hk q (Nat.lt_of_lt_of_le h1 hS.1) (fun z => h2 (hF q z))]; exact hS.2.1 q h1 h2, fun q hq => by
      rcases List.mem_append.mp hq with h | h
      · exact hS.2.2 q h
      · exact hF _ (hL q h)⟩ T' rfl X'
  exact ⟨t2, stp t2 a1, b1⟩
theorem gPre_blind {av : List Value} {sz : Nat} : FrameBlind (va_Pc av (gPre g ws sz)) := fun a U f mk q => by
  obtain ⟨q0, q1, qP, qK, qD, qC⟩ := q
  exact ⟨q0, q1, qP, va_K.moved (u := U) (U := U.calling f mk a) (Vm.Alike.refl U.vm) qK, qD, qC.calling⟩
theorem gPre_at {s U : State} {A : Nat → Prop} {H : Heap} {locs : List Loc} {wc : va_W} {tys : List (ClassId × FieldType)} {is : List Nat} (htys : tys = gT g) (hK : va_K g.1 vwCl tys s) (hCs : gC g A s) (hP : va_P g.1 vwCl ws H) (hD : va_D A ws) (hS : va_S A s.heap H locs) (hA : ∀ q, s.heap.size ≤ q → A q) (hC : is.map (fun i => ws[i]?) = wc.map some) (hn : va_nd is = true) (hU : U.heap = H) (hW : s.WarmedH U.vm) : gPre g wc H.size U := by
  subst htys
  have hF := va_free (wc := wc) hD hS hA is hC
  refine ⟨by rw [hU], ?_, va_K.moved hW.alike hK, (hD.sub is hn hC).weaken (fun _ _ _ _ => trivial), hCs.go hS hU hW hF⟩
  rw [hU]
  intro kk q hq
  have h1 : (is.map (fun i => ws[i]?))[kk]? = some (some q) := by rw [hC, List.getElem?_map, hq]; rfl
  rw [List.getElem?_map] at h1
  cases hi : is[kk]? with
  | none => rw [hi] at h1; cases h1
  | some i => rw [hi] at h1; exact hP i q (Option.some.inj h1)
theorem gRoom {d dc : Nat} {R : Room} {yc : gM} {na mc ms : Nat} (hb : gCb yc na) (hdp : dc + 1 ≤ d) (h1 : d ≤ R.frames) (h2 : 48 * d ≤ R.locals) : (gR dc mc ms).frames + 1 ≤ R.frames ∧ 8 + (yc.2.2.1 + 11) + (gR dc mc ms).locals ≤ R.locals := by
  have h3 := hb.2.2.2.2.2
  simp only [gR]
  omega
theorem j_callV {yc : gM} {dc mc ms idx b na ci : Nat} {As rest : List Value} {wc : va_W} {fs : List Value} {PostC : Option Value → va_W → Prop} (n : Nat) (is : List Nat) (hc : gCon g yc dc mc ms (.ref b :: As) wc PostC) (hd : decode y.2.1 pc = .ok (.invokevirtual idx, 3)) (hn : pc + 3 = n) (hl : gCv y.1.cls idx yc na) (hs : st = As.reverse ++ .ref b :: rest) (hna : As.length = na) (hw : is.map (fun i => ws[i]?) = wc.map some) (hnd : va_nd is = true) (q0 : Nat) (hq : wc[q0]? = some (b, .inr (ci, fs))) (hci : (vwCl[ci]?).map (fun q => q.1) = some yc.1.cls)
    (hdp : dc + 1 ≤ d) (hst : (rest.map fun v => v.category).sum ≤ 8) (hk : k + mc ≤ rc) (hj : j + ms ≤ rs) (kk : ∀ (rv : Option Value) (w1 : va_W), PostC rv w1 → is.length ≤ w1.length ∧ gJ g y d rc rs Post (k + mc) (j + ms) n lv (rv.toList ++ rest) (gPut ws is w1)) : gJ g y d rc rs Post k j pc lv st ws := by
  subst hn; subst hs
  intro p l e R s m args below meth c A Q X ex H locs ls hlv hP hD hS
  obtain ⟨hx, hb, hml, hown, hts, hK, hC, hA, hfr, hlo, hrc, hrs, hnm⟩ := id X
  obtain ⟨hl1, hl2, hl3, hl4⟩ := hl
  have hR := gRoom (mc := mc) (ms := ms) hl4 hdp hfr hlo
  obtain ⟨hb1, hb2, hb3, hb4, hb5, hb6⟩ := hl4
  have hcw : CallW R s args y.1.cls yc.1.cls idx yc.1 yc.2.1 yc.2.2.1 yc.2.2.2 (gW yc) (gR dc mc ms) mc ms na := cwV na hts (gGI (fun w hw => by
    simp only [wsV, gW, List.cons_append, List.nil_append, List.mem_cons] at hw
    rcases hw with rfl | rfl | rfl | rfl | rfl | hw
    · exact hl1
    · exact hl2
    · exact hl3
    · exact hb1
    · exact hb2
    · exact hw)) rfl rfl rfl ⟨rfl, hb3, hb4, hb5⟩ hR
  have hPc : va_P g.1 vwCl wc H := fun kq q hq2 => by
    have h1 : (is.map (fun i => ws[i]?))[kq]? = some (some q) := by rw [hw, List.getElem?_map, hq2]; rfl
    rw [List.getElem?_map] at h1
    cases hi : is[kq]? with
    | none => rw [hi] at h1; cases h1
    | some i => rw [hi] at h1; exact hP i q (Option.some.inj h1)
  have hrecv : ∃ cellB : Cell, H[b]? = some cellB ∧ cellB.vm.isStatics = false ∧ s.vm.findClass yc.1.cls = some cellB.cls := by
    cases hcc : vwCl[ci]? with
    | none => rw [hcc] at hci; cases hci
    | some q =>
      rw [hcc] at hci
      have h2 : q.1 = yc.1.cls := Option.some.inj hci
      rw [← h2]
      exact va_recv hK hPc hcc hq
  refine gBack (is := is) (wc := wc) (va_runV (As := As) (rest := rest) ⟨hx, hb, hml, hown, hts⟩ (hc l H.size) hcw ⟨gPre_blind, hrecv, fun U hU hW => ⟨rfl, gPre_at rfl hK hC hP hD hS hA hw hnd hU hW⟩⟩ rfl hna hlv.1 rfl (lv_room hst) hd ⟨by rw [hrc]; exact hk, by rw [hrs]; exact hj⟩) hP hD hS hA hw hnd ?_
  intro rv w1 hp
  obtain ⟨h1, h2⟩ := kk rv w1 hp
  exact ⟨h1, fun H1 locs1 hP1 hD1 hS1 => h2 p l e R s m args below meth c A Q X ex H1 locs1 ls hlv hP1 hD1 hS1⟩
theorem j_callS {yc : gM} {dc mc ms idx na : Nat} {As rest : List Value} {wc : va_W} {PostC : Option Value → va_W → Prop} (n : Nat) (is : List Nat) (hc : gCon g yc dc mc ms As wc PostC) (hd : decode y.2.1 pc = .ok (.invokestatic idx, 3)) (hn : pc + 3 = n) (hl : gCs y.1.cls idx yc na) (hs : st = As.reverse ++ rest) (hna : As.length = na) (hw : is.map (fun i => ws[i]?) = wc.map some) (hnd : va_nd is = true)
    (hdp : dc + 1 ≤ d) (hst : (rest.map fun v => v.category).sum ≤ 8) (hk : k + mc ≤ rc) (hj : j + ms ≤ rs) (kk : ∀ (rv : Option Value) (w1 : va_W), PostC rv w1 → is.length ≤ w1.length ∧ gJ g y d rc rs Post (k + mc) (j + ms) n lv (rv.toList ++ rest) (gPut ws is w1)) : gJ g y d rc rs Post k j pc lv st ws := by
  subst hn; subst hs
  intro p l e R s m args below meth c A Q X ex H locs ls hlv hP hD hS
  obtain ⟨hx, hb, hml, hown, hts, hK, hC, hA, hfr, hlo, hrc, hrs, hnm⟩ := id X
  obtain ⟨hl1, hl2, hl4⟩ := hl
  have hR := gRoom (mc := mc) (ms := ms) hl4 hdp hfr hlo
  obtain ⟨hb1, hb2, hb3, hb4, hb5, hb6⟩ := hl4
  have hcw : CallB R s args y.1.cls idx yc.1 yc.2.1 yc.2.2.1 yc.2.2.2 (gW yc) (gR dc mc ms) mc ms na ∧ (Cond.static yc.1).before args s = true := ⟨callB_of na hts (gGI (fun w hw => by
    simp only [gW, List.mem_cons] at hw
    rcases hw with rfl | hw
    · exact hb2
    · exact hw)) rfl rfl rfl (hts _ hb1) (hts _ hl1) ⟨hb3, hb4, hb5⟩ hR, hts _ hl2⟩
  refine gBack (is := is) (wc := wc) (va_runS (As := As) (rest := rest) ⟨hx, hb, hml, hown, hts⟩ (hc l H.size) hcw ⟨gPre_blind, fun U hU hW => ⟨rfl, gPre_at rfl hK hC hP hD hS hA hw hnd hU hW⟩⟩ rfl hna hlv.1 rfl (lv_room hst) hd ⟨by rw [hrc]; exact hk, by rw [hrs]; exact hj⟩) hP hD hS hA hw hnd ?_
  intro rv w1 hp
  obtain ⟨h1, h2⟩ := kk rv w1 hp
  exact ⟨h1, fun H1 locs1 hP1 hD1 hS1 => h2 p l e R s m args below meth c A Q X ex H1 locs1 ls hlv hP1 hD1 hS1⟩
theorem j_callI {yc : gM} {dc mc ms idx b na : Nat} {As rest : List Value} {wc : va_W} {PostC : Option Value → va_W → Prop} (n : Nat) (is : List Nat) (hc : gCon g yc dc mc ms (.ref b :: As) wc PostC) (hd : decode y.2.1 pc = .ok (.invokespecial idx, 3)) (hn : pc + 3 = n) (hl : gCi y.1.cls idx yc na) (hs : st = As.reverse ++ .ref b :: rest) (hna : As.length = na) (hw : is.map (fun i => ws[i]?) = wc.map some) (hnd : va_nd is = true)
    (hdp : dc + 1 ≤ d) (hst : (rest.map fun v => v.category).sum ≤ 8) (hk : k + mc ≤ rc) (hj : j + ms ≤ rs) (kk : ∀ (rv : Option Value) (w1 : va_W), PostC rv w1 → is.length ≤ w1.length ∧ gJ g y d rc rs Post (k + mc) (j + ms) n lv (rv.toList ++ rest) (gPut ws is w1)) : gJ g y d rc rs Post k j pc lv st ws := by
  subst hn; subst hs
  intro p l e R s m args below meth c A Q X ex H locs ls hlv hP hD hS
  obtain ⟨hx, hb, hml, hown, hts, hK, hC, hA, hfr, hlo, hrc, hrs, hnm⟩ := id X
  obtain ⟨hl1, hl2, hl3, hl5, hl4⟩ := hl
  have hR := gRoom (mc := mc) (ms := ms) hl4 hdp hfr hlo
  obtain ⟨hb1, hb2, hb3, hb4, hb5, hb6⟩ := hl4
  rw [hl5] at hb2
  have hcw : CallB R s args y.1.cls idx yc.1 yc.2.1 yc.2.2.1 none (gW yc) (gR dc mc ms) mc ms na ∧ yc.1.name = "<init>" ∧ (Cond.instanceMethod yc.1).before args s = true := ⟨callB_of na hts (gGI (fun w hw => by
    simp only [gW, List.mem_cons, hl5] at hw
    rcases hw with rfl | hw
    · exact hb2
    · exact hw)) (by rw [← hl5]; rfl) rfl rfl (hts _ hb1) (hts _ hl1) ⟨hb3, hb4, hb5⟩ hR, hl3, hts _ hl2⟩
  refine gBack (is := is) (wc := wc) (va_runI (As := As) (rest := rest) ⟨hx, hb, hml, hown, hts⟩ (hc l H.size) hcw ⟨gPre_blind, fun U hU hW => ⟨rfl, gPre_at rfl hK hC hP hD hS hA hw hnd hU hW⟩⟩ rfl hna hlv.1 rfl (lv_room hst) hd ⟨by rw [hrc]; exact hk, by rw [hrs]; exact hj⟩) hP hD hS hA hw hnd ?_
  intro rv w1 hp
  obtain ⟨h1, h2⟩ := kk rv w1 hp
  exact ⟨h1, fun H1 locs1 hP1 hD1 hS1 => h2 p l e R s m args below meth c A Q X ex H1 locs1 ls hlv hP1 hD1 hS1⟩
theorem j_callN {yc : gM} {dc mc ms idx b na : Nat} {As rest : List Value} {wc : va_W} {PostC : Option Value → va_W → Prop} (n : Nat) (is : List Nat) (hc : gCon g yc dc mc ms (.ref b :: As) wc PostC) (hd : decode y.2.1 pc = .ok (.invokespecial idx, 3)) (hn : pc + 3 = n) (hl : gCn y.1.cls idx yc na) (hs : st = As.reverse ++ .ref b :: rest) (hna : As.length = na) (hw : is.map (fun i => ws[i]?) = wc.map some) (hnd : va_nd is = true)
    (hdp : dc + 1 ≤ d) (hst : (rest.map fun v => v.category).sum ≤ 8) (hk : k + mc ≤ rc) (hj : j + ms ≤ rs) (kk : ∀ (rv : Option Value) (w1 : va_W), PostC rv w1 → is.length ≤ w1.length ∧ gJ g y d rc rs Post (k + mc) (j + ms) n lv (rv.toList ++ rest) (gPut ws is w1)) : gJ g y d rc rs Post k j pc lv st ws := by
  subst hn; subst hs
  intro p l e R s m args below meth c A Q X ex H locs ls hlv hP hD hS
  obtain ⟨hx, hb, hml, hown, hts, hK, hC, hA, hfr, hlo, hrc, hrs, hnm⟩ := id X
  obtain ⟨⟨host, hl1⟩, hl2, hl3, hl5, hl4⟩ := hl
  have hR := gRoom (mc := mc) (ms := ms) hl4 hdp hfr hlo
  obtain ⟨hb1, hb2, hb3, hb4, hb5, hb6⟩ := hl4
  rw [hl5] at hb2
  have hcw : va_CN R s args y.1.cls idx yc.1 host yc.2.1 yc.2.2.1 none (gW yc) (gR dc mc ms) mc ms na ∧ yc.1.name = "<init>" ∧ (Cond.instanceMethod yc.1).before args s = true := ⟨va_cnB na hts (gGI (fun w hw => by
    simp only [gW, List.mem_cons, hl5] at hw
    rcases hw with rfl | hw
    · exact hb2
    · exact hw)) (by rw [← hl5]; rfl) rfl rfl (hC.2.2.2.2.2.2.2.2.2.2.2 _ hl1) (hts _ hb1) ⟨hb3, hb4, hb5⟩ hR, hl3, hts _ hl2⟩
  refine gBack (is := is) (wc := wc) (va_runIN (As := As) (rest := rest) ⟨hx, hb, hml, hown, hts⟩ (hc l H.size) hcw ⟨gPre_blind, fun U hU hW => ⟨rfl, gPre_at rfl hK hC hP hD hS hA hw hnd hU hW⟩⟩ rfl hna hlv.1 rfl (lv_room hst) hd ⟨by rw [hrc]; exact hk, by rw [hrs]; exact hj⟩) hP hD hS hA hw hnd ?_
  intro rv w1 hp
  obtain ⟨h1, h2⟩ := kk rv w1 hp
  exact ⟨h1, fun H1 locs1 hP1 hD1 hS1 => h2 p l e R s m args below meth c A Q X ex H1 locs1 ls hlv hP1 hD1 hS1⟩
/-- a call whose answer and world are told outright -/
theorem j_callVd {yc : gM} {dc mc ms idx b na ci : Nat} {As rest : List Value} {wc : va_W} {fs : List Value} {r : Option Value} {w1 : va_W} (n : Nat) (is : List Nat) (hc : gCon g yc dc mc ms (.ref b :: As) wc (fun rv ws' => rv = r ∧ ws' = w1)) (st2 : List Value) (ws2 : va_W) (hd : decode y.2.1 pc = .ok (.invokevirtual idx, 3)) (hn : pc + 3 = n) (hl : gCv y.1.cls idx yc na) (hs : st = As.reverse ++ .ref b :: rest) (hna : As.length = na) (hw : is.map (fun i => ws[i]?) = wc.map some) (hnd : va_nd is = true) (q0 : Nat) (hq : wc[q0]? = some (b, .inr (ci, fs))) (hci : (vwCl[ci]?).map (fun q => q.1) = some yc.1.cls)
    (hdp : dc + 1 ≤ d) (hst : (rest.map fun v => v.category).sum ≤ 8) (hk : k + mc ≤ rc) (hj : j + ms ≤ rs) (hle : is.length ≤ w1.length) (hst2 : r.toList ++ rest = st2) (hw2 : gPut ws is w1 = ws2) (kk : gJ g y d rc rs Post (k + mc) (j + ms) n lv st2 ws2) : gJ g y d rc rs Post k j pc lv st ws :=
  j_callV n is hc hd hn hl hs hna hw hnd q0 hq hci hdp hst hk hj (fun rv w1 hp => by obtain ⟨rfl, rfl⟩ := hp; exact ⟨hle, by rw [hst2, hw2]; exact kk⟩)
theorem j_callSd {yc : gM} {dc mc ms idx na : Nat} {As rest : List Value} {wc : va_W} {r : Option Value} {w1 : va_W} (n : Nat) (is : List Nat) (hc : gCon g yc dc mc ms As wc (fun rv ws' => rv = r ∧ ws' = w1)) (st2 : List Value) (ws2 : va_W) (hd : decode y.2.1 pc = .ok (.invokestatic idx, 3)) (hn : pc + 3 = n) (hl : gCs y.1.cls idx yc na) (hs : st = As.reverse ++ rest) (hna : As.length = na) (hw : is.map (fun i => ws[i]?) = wc.map some) (hnd : va_nd is = true)
    (hdp : dc + 1 ≤ d) (hst : (rest.map fun v => v.category).sum ≤ 8) (hk : k + mc ≤ rc) (hj : j + ms ≤ rs) (hle : is.length ≤ w1.length) (hst2 : r.toList ++ rest = st2) (hw2 : gPut ws is w1 = ws2) (kk : gJ g y d rc rs Post (k + mc) (j + ms) n lv st2 ws2) : gJ g y d rc rs Post k j pc lv st ws :=
  j_callS n is hc hd hn hl hs hna hw hnd hdp hst hk hj (fun rv w1 hp => by obtain ⟨rfl, rfl⟩ := hp; exact ⟨hle, by rw [hst2, hw2]; exact kk⟩)
/-- Object's own constructor -/
theorem j_obj {a idx : Nat} (n : Nat) (hd : decode y.2.1 pc = .ok (.invokespecial idx, 3)) (hn : pc + 3 = n) (hl : Cond.methodLink y.1.cls idx objectInit ∈ gWS ∧ Cond.instanceMethod objectInit ∈ gWS ∧ Cond.code objectInit ⟨#[0xb1]⟩ 1 none ∈ gWS) (hdp : 1 ≤ d) (hst : (st.map fun v => v.category).sum ≤ 8) (kk : gJ g y d rc rs Post k j n lv st ws) : gJ g y d rc rs Post k j pc lv (.ref a :: st) ws := by
  subst hn
  intro p l e R s m args below meth c A Q X ex H locs ls hlv hP hD hS
  obtain ⟨hx, hb, hml, hown, hts, hK, hC, hA, hfr, hlo, hrc, hrs, hnm⟩ := id X
  exact W.objInit hx hb hown (hts _ hl.1) (hts _ hl.2.1) (hts _ hl.2.2) rfl (by rw [hml]; exact hlv.1) rfl hd (by omega) (by have := lv_room (m := m) (pc := pc) (ls := ls) (rest := .ref a :: st) hst; omega) (kk p l e R s m args below meth c A Q X ex H locs ls hlv hP hD hS)
/-- a method's end -/
theorem j_iret {x : Int32} {rt : FieldType} (hd : decode y.2.1 pc = .ok (.ireturn, 1)) (hr : y.2.2.2 = some rt) (hn : narrow rt (.int x) = .int x) (hp : Post k j (some (.int x)) ws) : gJ g y d rc rs Post k j pc lv [.int x] ws := by
  intro p l e R s m args below meth c A Q X ex H locs ls hlv hP hD hS
  exact ex H locs k j ls pc (some (.int x)) ws hp (Or.inr (Or.inl ⟨x, rt, rfl, hr, hn, hd⟩)) hP hD hS
theorem j_vret (hd : decode y.2.1 pc = .ok (.return_, 1)) (hr : y.2.2.2 = none) (hp : Post k j none ws) : gJ g y d rc rs Post k j pc lv [] ws := by
  intro p l e R s m args below meth c A Q X ex H locs ls hlv hP hD hS
  exact ex H locs k j ls pc none ws hp (Or.inl ⟨rfl, hr, hd⟩) hP hD hS
theorem j_aret {v : Value} {rt : FieldType} (hd : decode y.2.1 pc = .ok (.areturn, 1)) (hr : y.2.2.2 = some rt) (h2 : (∃ n, rt = .object n) ∨ ∃ t, rt = .array t) (h3 : v = .null ∨ ∃ a, v = .ref a) (hp : Post k j (some v) ws) : gJ g y d rc rs Post k j pc lv [v] ws := by
  intro p l e R s m args below meth c A Q X ex H locs ls hlv hP hD hS
  exact ex H locs k j ls pc (some v) ws hp (Or.inr (Or.inr ⟨v, rt, rfl, hr, h2, h3, hd⟩)) hP hD hS
/-- a value gets a simpler name -/
theorem j_eq {lv2 : List (Nat × Value)} {st2 : List Value} {ws2 : va_W} (h1 : lv = lv2) (h2 : st = st2) (h3 : ws = ws2) (kk : gJ g y d rc rs Post k j pc lv2 st2 ws2) : gJ g y d rc rs Post k j pc lv st ws := by
  subst h1; subst h2; subst h3; exact kk
/-- fewer cells of the world, fewer locals; more room than was used -/
theorem j_lv {lv2 : List (Nat × Value)} (ks : List Nat) (h : lv_pick lv ks = lv2) (kk : gJ g y d rc rs Post k j pc lv2 st ws) : gJ g y d rc rs Post k j pc lv st ws := by
  intro p l e R s m args below meth c A Q X ex H locs ls hlv hP hD hS
  exact kk p l e R s m args below meth c A Q X ex H locs ls (lv_sub hlv ks h) hP hD hS
theorem j_post {P2 : Nat → Nat → Option Value → va_W → Prop} (h : ∀ k' j' rv ws', P2 k' j' rv ws' → Post k' j' rv ws') (kk : gJ g y d rc rs P2 k j pc lv st ws) : gJ g y d rc rs Post k j pc lv st ws := by
  intro p l e R s m args below meth c A Q X ex H locs ls hlv hP hD hS
  exact kk p l e R s m args below meth c A Q X (fun H locs k' j' ls pc' rv ws' hp => ex H locs k' j' ls pc' rv ws' (h _ _ _ _ hp)) H locs ls hlv hP hD hS
theorem j_widen (k2 j2 : Nat) (h1 : k ≤ k2) (h2 : j ≤ j2) (kk : gJ g y d rc rs Post k2 j2 pc lv st ws) : gJ g y d rc rs Post k j pc lv st ws := by
  intro p l e R s m args below meth c A Q X ex H locs ls hlv hP hD hS
  exact W.widen h1 h2 (kk p l e R s m args below meth c A Q X ex H locs ls hlv hP hD hS)
end GC
