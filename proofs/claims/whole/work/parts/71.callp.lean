theorem map_pre (wc wr : va_W) : (List.range' 0 wc.length).map (fun i => (wc ++ wr)[i]?) = wc.map some := by
  rw [← map_all wc]
  apply List.map_congr_left
  intro i hi
  rw [List.mem_range'_1] at hi
  exact List.getElem?_append_left (by omega)
theorem gJoinP {A : Nat → Prop} {D : va_G} {cl : List vw_C} {wc wr w1 : va_W} {H H1 : Heap} (hP : va_P D cl (wc ++ wr) H) (hD : va_D A (wc ++ wr)) (hk : ∀ q : Nat, q < H.size → ¬ va_A wc H.size q → H1[q]? = H[q]?) (hF : ∀ q, va_A wc H.size q → A q) (hP1 : va_P D cl w1 H1) (hD1 : va_D (va_A wc H.size) w1) : va_P D cl (w1 ++ wr) H1 ∧ va_D A (w1 ++ wr) := by
  rw [va_D_nd] at hD hD1
  rw [va_P_mem] at hP hP1
  have apart : ∀ q ∈ wr, q.1 < H.size ∧ ¬ va_A wc H.size q.1 := by
    intro q hq
    have hlt := (hP q (List.mem_append_right _ hq)).lt
    refine ⟨hlt, ?_⟩
    rintro (⟨k2, e2, h2⟩ | h2)
    · have hm : (q.1, e2) ∈ wc := List.mem_of_getElem? h2
      have hn := hD.1
      rw [List.map_append, List.nodup_append] at hn
      exact hn.2.2 q.1 (List.mem_map.mpr ⟨_, hm, rfl⟩) q.1 (List.mem_map.mpr ⟨q, hq, rfl⟩) rfl
    · omega
  constructor
  · rw [va_P_mem]
    intro q hq
    rcases List.mem_append.mp hq with h | h
    · exact hP1 q h
    · exact (hP q (List.mem_append_right _ h)).kept (hk _ (apart q h).1 (apart q h).2)
  · rw [va_D_nd]
    constructor
    · have hn := hD.1
      rw [List.map_append, List.nodup_append] at hn ⊢
      refine ⟨hD1.1, hn.2.1, ?_⟩
      intro a ha b hb e
      obtain ⟨x, hx, rfl⟩ := List.mem_map.mp ha
      obtain ⟨y, hy, rfl⟩ := List.mem_map.mp hb
      exact (apart y hy).2 (by rw [← e]; exact hD1.2 x hx)
    · intro q hq
      rcases List.mem_append.mp hq with h | h
      · exact hF _ (hD1.2 q h)
      · exact hD.2 q (List.mem_append_right _ h)
section GCP
variable {g : gG} {y : gM} {d rc rs : Nat} {Post : Nat → Nat → Option Value → va_W → Prop} {k j pc : Nat} {lv : List (Nat × Value)} {st : List Value}
theorem gBackP {p : Program} {l : Launch} {e : Env} {R : Room} {s : State} {m : MethodId} {args : Array Value} {below : List Frame} {meth : Method} {c : Code} {A : Nat → Prop} {Q : State → Prop} {H : Heap} {locs : List Loc} {mc ms : Nat} {ls : Array Slot} {st0 rest : List Value} {a : Array Value} {wc wr : va_W} {PostC : Option Value → va_W → Prop}
    (hr : va_Run p l e R s m args below meth c H locs k j mc ms (F0 m pc ls st0) rest (gQc g wc H.size PostC a) (va_A wc H.size)) (hP : va_P g.1 vwCl (wc ++ wr) H) (hD : va_D A (wc ++ wr)) (hS : va_S A s.heap H locs) (hA : ∀ q, s.heap.size ≤ q → A q)
    (kk : ∀ (rv : Option Value) (w1 : va_W), PostC rv w1 → ∀ (H1 : Heap) (locs1 : List Loc), va_P g.1 vwCl (w1 ++ wr) H1 → va_D A (w1 ++ wr) → va_S A s.heap H1 locs1 → W p l e R s m args below meth c H1 locs1 (k + mc) (j + ms) Q (F0 m (pc + 3) ls (rv.toList ++ rest))) :
    W p l e R s m args below meth c H locs k j Q (F0 m pc ls st0) := by
  have hF := va_free (wc := wc) hD hS hA _ (map_pre wc wr)
  intro T hT X
  obtain ⟨v, st₀, t, T', L, h0, X', hL, e1, e2, ⟨rv, w1, hv, hp, hP1, hD1, hz, hk⟩, stp⟩ := hr T hT X
  cases hv
  rw [h0] at hz hk
  have hjoin := gJoinP (H1 := t.heap) hP hD hk hF hP1 hD1
  obtain ⟨t2, a1, b1⟩ := kk v w1 hp T'.heap (locs ++ L) (by rw [e1]; exact hjoin.1) hjoin.2
    ⟨Nat.le_trans hS.1 (by rw [e1]; exact hz), fun q h1 h2 => by rw [e1, hk q (Nat.lt_of_lt_of_le h1 hS.1) (fun z => h2 (hF q z))]; exact hS.2.1 q h1 h2, fun q hq => by
      rcases List.mem_append.mp hq with h | h
      · exact hS.2.2 q h
      · exact hF _ (hL q h)⟩ T' rfl X'
  exact ⟨t2, stp t2 a1, b1⟩
theorem j_callVP {yc : gM} {dc mc ms idx b na ci : Nat} {As rest : List Value} {wc wr : va_W} {fs : List Value} {PostC : Option Value → va_W → Prop} (n : Nat) (hc : gCon g yc dc mc ms (.ref b :: As) wc PostC) (hd : decode y.2.1 pc = .ok (.invokevirtual idx, 3)) (hn : pc + 3 = n) (hl : gCv y.1.cls idx yc na) (hs : st = As.reverse ++ .ref b :: rest) (hna : As.length = na) (hq : (b, .inr (ci, fs)) ∈ wc) (hci : (vwCl[ci]?).map (fun q => q.1) = some yc.1.cls)
    (hdp : dc + 1 ≤ d) (hst : (rest.map fun v => v.category).sum ≤ 8) (hk : k + mc ≤ rc) (hj : j + ms ≤ rs) (kk : ∀ (rv : Option Value) (w1 : va_W), PostC rv w1 → gJ g y d rc rs Post (k + mc) (j + ms) n lv (rv.toList ++ rest) (w1 ++ wr)) : gJ g y d rc rs Post k j pc lv st (wc ++ wr) := by
  subst hn; subst hs
  intro p l e R s m args below meth c A Q X ex H locs ls hlv hP hD hS
  obtain ⟨hx, hb, hml, hown, hts, hK, hC, hA, hfr, hlo, hrc, hrs, hnm⟩ := id X
  obtain ⟨hl1, hl2, hl3, hl4⟩ := hl
  have hR := gRoom (mc := mc) (ms := ms) hl4 hdp hfr hlo
  obtain ⟨hb1, hb2, hb3, hb4, hb5, hb6⟩ := hl4
  have hcw : CallW R s args y.1.cls yc.1.cls idx yc.1 yc.2.1 yc.2.2.1 yc.2.2.2 (gW yc) (gR dc mc ms) mc ms na := cwV na hts (gGI (fun w hw => by
    simp only [wsV, gW, List.cons_append, List.nil_append, List.mem_cons] at hw
    rcases hw with rfl | rfl | rfl | rfl | rfl | hw
    · exact hl1
    · exact hl2
    · exact hl3
    · exact hb1
    · exact hb2
    · exact hw)) rfl rfl rfl ⟨rfl, hb3, hb4, hb5⟩ hR
  have hPc : va_P g.1 vwCl wc H := va_P_mem.mpr fun q hq2 => va_P_mem.mp hP q (List.mem_append_left _ hq2)
  obtain ⟨q0, hq0⟩ := List.getElem?_of_mem hq
  have hrecv : ∃ cellB : Cell, H[b]? = some cellB ∧ cellB.vm.isStatics = false ∧ s.vm.findClass yc.1.cls = some cellB.cls := by
    cases hcc : vwCl[ci]? with
    | none => rw [hcc] at hci; cases hci
    | some q =>
      rw [hcc] at hci
      have h2 : q.1 = yc.1.cls := Option.some.inj hci
      rw [← h2]
      exact va_recv hK hPc hcc hq0
  refine gBackP (wc := wc) (wr := wr) (va_runV (As := As) (rest := rest) ⟨hx, hb, hml, hown, hts⟩ (hc l H.size) hcw ⟨gPre_blind, hrecv, fun U hU hW => ⟨rfl, gPre_at rfl hK hC hP hD hS hA (map_pre wc wr) (va_nd_range _ _) hU hW⟩⟩ rfl hna hlv.1 rfl (lv_room hst) hd ⟨by rw [hrc]; exact hk, by rw [hrs]; exact hj⟩) hP hD hS hA ?_
  intro rv w1 hp H1 locs1 hP1 hD1 hS1
  exact kk rv w1 hp p l e R s m args below meth c A Q X ex H1 locs1 ls hlv hP1 hD1 hS1
theorem j_callIP {yc : gM} {dc mc ms idx b na : Nat} {As rest : List Value} {wc wr : va_W} {PostC : Option Value → va_W → Prop} (n : Nat) (hc : gCon g yc dc mc ms (.ref b :: As) wc PostC) (hd : decode y.2.1 pc = .ok (.invokespecial idx, 3)) (hn : pc + 3 = n) (hl : gCi y.1.cls idx yc na) (hs : st = As.reverse ++ .ref b :: rest) (hna : As.length = na)
    (hdp : dc + 1 ≤ d) (hst : (rest.map fun v => v.category).sum ≤ 8) (hk : k + mc ≤ rc) (hj : j + ms ≤ rs) (kk : ∀ (rv : Option Value) (w1 : va_W), PostC rv w1 → gJ g y d rc rs Post (k + mc) (j + ms) n lv (rv.toList ++ rest) (w1 ++ wr)) : gJ g y d rc rs Post k j pc lv st (wc ++ wr) := by
  subst hn; subst hs
  intro p l e R s m args below meth c A Q X ex H locs ls hlv hP hD hS
  obtain ⟨hx, hb, hml, hown, hts, hK, hC, hA, hfr, hlo, hrc, hrs, hnm⟩ := id X
  obtain ⟨hl1, hl2, hl3, hl5, hl4⟩ := hl
  have hR := gRoom (mc := mc) (ms := ms) hl4 hdp hfr hlo
  obtain ⟨hb1, hb2, hb3, hb4, hb5, hb6⟩ := hl4
  rw [hl5] at hb2
  have hcw : CallB R s args y.1.cls idx yc.1 yc.2.1 yc.2.2.1 none (gW yc) (gR dc mc ms) mc ms na ∧ yc.1.name = "<init>" ∧ (Cond.instanceMethod yc.1).before args s = true := ⟨callB_of na hts (gGI (fun w hw => by
    simp only [gW, List.mem_cons, hl5] at hw
    rcases hw with rfl | hw
    · exact hb2
    · exact hw)) (by rw [← hl5]; rfl) rfl rfl (hts _ hb1) (hts _ hl1) ⟨hb3, hb4, hb5⟩ hR, hl3, hts _ hl2⟩
  refine gBackP (wc := wc) (wr := wr) (va_runI (As := As) (rest := rest) ⟨hx, hb, hml, hown, hts⟩ (hc l H.size) hcw ⟨gPre_blind, fun U hU hW => ⟨rfl, gPre_at rfl hK hC hP hD hS hA (map_pre wc wr) (va_nd_range _ _) hU hW⟩⟩ rfl hna hlv.1 rfl (lv_room hst) hd ⟨by rw [hrc]; exact hk, by rw [hrs]; exact hj⟩) hP hD hS hA ?_
  intro rv w1 hp H1 locs1 hP1 hD1 hS1
  exact kk rv w1 hp p l e R s m args below meth c A Q X ex H1 locs1 ls hlv hP1 hD1 hS1
/-- a call that takes the whole world -/
theorem j_callVA {yc : gM} {dc mc ms idx b na ci : Nat} {As rest : List Value} {wc : va_W} {fs : List Value} {PostC : Option Value → va_W → Prop} (n : Nat) (hc : gCon g yc dc mc ms (.ref b :: As) wc PostC) (hd : decode y.2.1 pc = .ok (.invokevirtual idx, 3)) (hn : pc + 3 = n) (hl : gCv y.1.cls idx yc na) (hs : st = As.reverse ++ .ref b :: rest) (hna : As.length = na) (hq : (b, .inr (ci, fs)) ∈ wc) (hci : (vwCl[ci]?).map (fun q => q.1) = some yc.1.cls)
    (hdp : dc + 1 ≤ d) (hst : (rest.map fun v => v.category).sum ≤ 8) (hk : k + mc ≤ rc) (hj : j + ms ≤ rs) (kk : ∀ (rv : Option Value) (w1 : va_W), PostC rv w1 → gJ g y d rc rs Post (k + mc) (j + ms) n lv (rv.toList ++ rest) w1) : gJ g y d rc rs Post k j pc lv st wc := by
  rw [← List.append_nil wc]
  refine j_callVP n hc hd hn hl hs hna hq hci hdp hst hk hj (fun rv w1 hp => ?_)
  rw [List.append_nil]
  exact kk rv w1 hp
end GCP
theorem cR_mem {g : gG} {u : Nat → Nat} {S : RS} {ws : va_W} (h : cR g u S ws) : ∃ fs : List Value, (u 0, .inr (5, fs)) ∈ ws := by
  obtain ⟨so, xi, xj, xe, xf, xg, rf, af, mf, T, kl, ks, ke, kt, kv, kf, yT, s0, s1, s2, D0, D1, D2, R4, A4, I4, np, Pl, pL, Sr, hA, hN, hR, hW, hC, hM, hS, hZ1, hZ2, hp⟩ := h
  exact ⟨_, hp.mem_iff.mpr (List.mem_append_left _ (List.mem_cons_self))⟩
