theorem gPut_app : ∀ (post pre w1 : va_W), post.length ≤ w1.length → gPut (pre ++ post) (List.range' pre.length post.length) w1 = pre ++ w1
  | [], pre, w1, _ => by simp [gPut]
  | a :: post, pre, [], h => by simp at h
  | a :: post, pre, x :: w1, h => by
    have ih := gPut_app post (pre ++ [x]) w1 (by simpa using h)
    simp only [List.length_cons, List.range'_succ, gPut]
    rw [List.set_append_right _ _ (Nat.le_refl _)]
    simp only [Nat.sub_self, List.set_cons_zero]
    simpa using ih
theorem gPut_all {ws w1 : va_W} (h : ws.length ≤ w1.length) : gPut ws (List.range' 0 ws.length) w1 = w1 := by simpa using gPut_app ws [] w1 h
theorem va_nd_range : ∀ (n s : Nat), va_nd (List.range' s n) = true
  | 0, _ => rfl
  | n + 1, s => by
    simp only [List.range'_succ, va_nd, Bool.and_eq_true, decide_eq_true_eq]
    exact ⟨by simp only [List.mem_range'_1]; omega, va_nd_range n (s + 1)⟩
theorem map_all (ws : va_W) : (List.range' 0 ws.length).map (fun i => ws[i]?) = ws.map some := by
  apply List.ext_getElem?
  intro i
  simp only [List.getElem?_map]
  by_cases h : i < ws.length
  · rw [List.getElem?_range' h, List.getElem?_eq_getElem h]
    simp [h]
  · have h1 : (List.range' 0 ws.length)[i]? = none := by simp; omega
    have h2 : ws[i]? = none := by simp; omega
    rw [h1, h2]; rfl
section GCW
variable {g : gG} {y : gM} {d rc rs : Nat} {Post : Nat → Nat → Option Value → va_W → Prop} {k j pc : Nat} {lv : List (Nat × Value)} {st : List Value} {ws : va_W}
/-- a call that takes the whole world -/
theorem j_callVW {yc : gM} {dc idx b na ci : Nat} {As rest : List Value} {fs : List Value} {r : Option Value} {w1 : va_W} (n : Nat) (hc : gCon g yc dc 0 0 (.ref b :: As) ws (fun rv ws' => rv = r ∧ ws' = w1)) (st2 : List Value) (hd : decode y.2.1 pc = .ok (.invokevirtual idx, 3)) (hn : pc + 3 = n) (hl : gCv y.1.cls idx yc na) (hs : st = As.reverse ++ .ref b :: rest) (hna : As.length = na) (q0 : Nat) (hq : ws[q0]? = some (b, .inr (ci, fs))) (hci : (vwCl[ci]?).map (fun q => q.1) = some yc.1.cls)
    (hdp : dc + 1 ≤ d) (hst : (rest.map fun v => v.category).sum ≤ 8) (hk : k ≤ rc) (hj : j ≤ rs) (hle : ws.length ≤ w1.length) (hst2 : r.toList ++ rest = st2) (kk : gJ g y d rc rs Post k j n lv st2 w1) : gJ g y d rc rs Post k j pc lv st ws :=
  j_callV0 n (List.range' 0 ws.length) hc st2 w1 hd hn hl hs hna (map_all ws) (va_nd_range _ _) q0 hq hci hdp hst hk hj (by simpa using hle) hst2 (gPut_all hle) kk
theorem j_callVX {yc : gM} {dc idx b na ci : Nat} {As rest : List Value} {fs : List Value} {PostC : Option Value → va_W → Prop} (n : Nat) (hc : gCon g yc dc 0 0 (.ref b :: As) ws PostC) (hd : decode y.2.1 pc = .ok (.invokevirtual idx, 3)) (hn : pc + 3 = n) (hl : gCv y.1.cls idx yc na) (hs : st = As.reverse ++ .ref b :: rest) (hna : As.length = na) (q0 : Nat) (hq : ws[q0]? = some (b, .inr (ci, fs))) (hci : (vwCl[ci]?).map (fun q => q.1) = some yc.1.cls)
    (hdp : dc + 1 ≤ d) (hst : (rest.map fun v => v.category).sum ≤ 8) (hk : k ≤ rc) (hj : j ≤ rs) (kk : ∀ (rv : Option Value) (w1 : va_W), PostC rv w1 → ws.length ≤ w1.length ∧ gJ g y d rc rs Post k j n lv (rv.toList ++ rest) w1) : gJ g y d rc rs Post k j pc lv st ws :=
  j_callVe n (List.range' 0 ws.length) hc hd hn hl hs hna (map_all ws) (va_nd_range _ _) q0 hq hci hdp hst hk hj (fun rv w1 hp => by
    obtain ⟨h1, h2⟩ := kk rv w1 hp
    exact ⟨by simpa using h1, by rw [gPut_all h1]; exact h2⟩)
/-- a static call that needs no world -/
theorem j_callSE {yc : gM} {dc idx na : Nat} {As rest : List Value} {r : Option Value} (n : Nat) (hc : gCon g yc dc 0 0 As [] (fun rv ws' => rv = r ∧ ws' = [])) (st2 : List Value) (hd : decode y.2.1 pc = .ok (.invokestatic idx, 3)) (hn : pc + 3 = n) (hl : gCs y.1.cls idx yc na) (hs : st = As.reverse ++ rest) (hna : As.length = na)
    (hdp : dc + 1 ≤ d) (hst : (rest.map fun v => v.category).sum ≤ 8) (hk : k ≤ rc) (hj : j ≤ rs) (hst2 : r.toList ++ rest = st2) (kk : gJ g y d rc rs Post k j n lv st2 ws) : gJ g y d rc rs Post k j pc lv st ws :=
  j_callS0 n [] hc st2 ws hd hn hl hs hna rfl rfl hdp hst hk hj (Nat.le_refl 0) hst2 (by simp [gPut]) kk
end GCW
theorem wM_len (g : gG) (q : Nat → Nat) (Na Na' : Nat → Nat → Nat) (Ia Ia' : Nat → Nat → Int32) (Ns Ns' : Nat → Nat) (Is Is' : Nat → Int32) : (wM g q Na Ia Ns Is).length ≤ (wM g q Na' Ia' Ns' Is').length := Nat.le_refl 14
