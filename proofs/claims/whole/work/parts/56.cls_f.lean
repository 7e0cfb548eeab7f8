theorem nxN_k {P : Nat → Nat} {c b b' : Nat} (h : P (24 + 2 * b) = P (24 + 2 * b')) : nxN P c b = nxN P c b' := by
  unfold nxN gOA
  rw [h]
/-- for each standing the number with which it was found first -/
def srF (P : Nat → Nat) (n : Nat) (Q : Nat → Nat) (F : Nat → Int32) : Prop := ∀ s, s < 32 → (F s = -1 ∧ ∀ i, i < n → Q i % 32 ≠ s) ∨ ∃ f, f < n ∧ F s = nI (pkN P (Q f)) ∧ Q f % 32 = s ∧ ∀ t, t < f → Q t % 32 ≠ s
/-- the class's search, under way: Q the reference's numbers in the order in which they are found, O the class's -/
def srI (P : Nat → Nat) (s0 c n : Nat) (Q : Nat → Nat) (M : Nat) (O : Nat → Nat) (Pr F : Nat → Int32) : Prop :=
  ∃ pr dp : Nat → Nat, bT (nxN P) (P 3) s0 c Q pr dp n ∧ n ≤ M ∧ Pr (pkN P (Q 0)) = -2 ∧ (∀ i, 0 < i → i < n → Pr (pkN P (Q i)) = nI (pkN P (Q (pr i / 8)) * 8 + pr i % 8)) ∧ (∀ i, i < n → okN P (Q i)) ∧ srF P n Q F ∧ ∀ i, i < n → O i = pkN P (Q i)
def sbI (P : Nat → Nat) (Pr : Nat → Int32) (Q : Nat → Nat) (n M : Nat) : Prop := (∀ x, x < M → (Pr x = -1 ↔ ∀ i, i < n → pkN P (Q i) ≠ x)) ∧ n + cN (fun x => if Pr x = -1 then -1000000 else 0) M = M
theorem sbI_room {P : Nat → Nat} {Pr : Nat → Int32} {Q : Nat → Nat} {n M x : Nat} (h : sbI P Pr Q n M) (hx : x < M) (h0 : Pr x = -1) : n < M := by
  have := cN_pos (F := fun x => if Pr x = -1 then -1000000 else 0) (x := x) (by show (if Pr x = -1 then (-1000000 : Int32) else 0) = _; rw [if_pos h0]) M hx
  have := h.2
  omega
theorem sbI_new {P : Nat → Nat} {Pr : Nat → Int32} {Q : Nat → Nat} {n M x c : Nat} {v : Int32} (h : sbI P Pr Q n M) (e : pkN P x = c) (hc : c < M) (h0 : Pr c = -1) (hv : v ≠ -1) : sbI P (upd Pr c v) (va_up Q n x) (n + 1) M := by
  obtain ⟨h2, h3⟩ := h
  refine ⟨fun z hz => ?_, ?_⟩
  · by_cases ez : z = c
    · have e1 : upd Pr c v z = v := if_pos ez
      rw [e1]
      exact ⟨fun y => absurd y hv, fun y => absurd (by rw [va_up_s, e, ez]) (y n (by omega))⟩
    · have e1 : upd Pr c v z = Pr z := if_neg ez
      rw [e1, h2 z hz]
      constructor
      · intro y i hi
        by_cases ei : i = n
        · rw [ei, va_up_s, e]; exact fun q => ez q.symm
        · rw [va_up_n ei]; exact y i (by omega)
      · intro y i hi
        have := y i (by omega)
        rwa [va_up_n (by omega)] at this
  · have ef : (fun z => if upd Pr c v z = -1 then (-1000000 : Int32) else 0) = upd (fun z => if Pr z = -1 then (-1000000 : Int32) else 0) c 0 := by
      funext z
      show (if (if z = c then v else Pr z) = -1 then (-1000000 : Int32) else 0) = if z = c then 0 else _
      by_cases ez : z = c
      · rw [if_pos ez, if_pos ez, if_neg hv]
      · rw [if_neg ez, if_neg ez]
    have := cN_up (F := fun z => if Pr z = -1 then (-1000000 : Int32) else 0) (x := c) (v := 0) (by decide) (by show (if Pr c = -1 then (-1000000 : Int32) else 0) = _; rw [if_pos h0]) M
    rw [if_pos hc] at this
    rw [ef]
    omega
theorem nI_m1 {n : Nat} (h : n ≤ 100000) : nI n ≠ -1 := fun e => nI_nn h (by rw [e]; decide)
theorem srF_new {P : Nat → Nat} {n x : Nat} {Q : Nat → Nat} {F : Nat → Int32} (hq : ∀ i, i < n → pkN P (Q i) ≤ 100000) (hF : srF P n Q F) : srF P (n + 1) (va_up Q n x) (if F (x % 32) = -1 then upd F (x % 32) (nI (pkN P x)) else F) := by
  intro s hs
  have uo : ∀ p, p < n → va_up Q n x p = Q p := fun p hp => va_up_n (by omega)
  have hx := hF (x % 32) (Nat.mod_lt _ (by decide))
  by_cases e : s = x % 32
  · subst e
    rcases hx with ⟨a1, a2⟩ | ⟨f, a1, a2, a3, a4⟩
    · rw [if_pos a1]
      exact Or.inr ⟨n, by omega, by rw [va_up_s]; exact if_pos rfl, by rw [va_up_s], fun t ht => by rw [uo t ht]; exact a2 t ht⟩
    · have c : ¬ F (x % 32) = -1 := by rw [a2]; exact nI_m1 (hq f a1)
      rw [if_neg c]
      exact Or.inr ⟨f, by omega, by rw [uo f a1]; exact a2, by rw [uo f a1]; exact a3, fun t ht => by rw [uo t (by omega)]; exact a4 t ht⟩
  · have ev : (if F (x % 32) = -1 then upd F (x % 32) (nI (pkN P x)) else F) s = F s := by
      split
      · exact if_neg e
      · rfl
    rw [ev]
    rcases hF s hs with ⟨a1, a2⟩ | ⟨f, a1, a2, a3, a4⟩
    · refine Or.inl ⟨a1, fun i hi => ?_⟩
      by_cases ei : i = n
      · rw [ei, va_up_s]; exact fun q => e q.symm
      · rw [uo i (by omega)]; exact a2 i (by omega)
    · exact Or.inr ⟨f, by omega, by rw [uo f a1]; exact a2, by rw [uo f a1]; exact a3, fun t ht => by rw [uo t (by omega)]; exact a4 t ht⟩
theorem okN_7 {P : Nat → Nat} (hP : okP P) {c : Nat} (h : okN P c) : pkN P c < 7776 := pkN_7 hP (okN_m hP h).2
theorem srI_note {P : Nat → Nat} (hP : okP P) {s0 k b n x c M : Nat} {Q O : Nat → Nat} {Pr F : Nat → Int32} (hM : cdN P (P 2) ≤ M) (h : srI P s0 (8 * k + b) n Q M O Pr F) (hB : sbI P Pr Q n M) (hk : k < n) (hb : b < P 3) (e : x = nxN P (Q k) b) (ec : c = pkN P x) :
    (srI P s0 (8 * k + (b + 1)) (ntN Pr c n) (ntC Pr Q c n x) M (ntC Pr O c n c) (ntP Pr c (nI (pkN P (Q k) * 8 + b))) (ntF Pr F c (c % 2 ^ P 2)) ∧ sbI P (ntP Pr c (nI (pkN P (Q k) * 8 + b))) (ntC Pr Q c n x) (ntN Pr c n) M) ∧ n ≤ ntN Pr c n ∧ ntC Pr Q c n x k = Q k := by
  obtain ⟨pr, dp, h1, h2, h3, h4, h5, h6, h7⟩ := h
  have h8 := hP.2.2.2.1
  have hck := okN_m hP (h5 k hk)
  have hx : okN P x := by rw [e]; exact okN_nx hP hck.2
  have hx2 := okN_m hP hx
  have hcM : c < M := by rw [ec]; exact Nat.lt_of_lt_of_le (pkN_lt hP hx2.2) hM
  have hcm : c % 2 ^ P 2 = x % 32 := by rw [ec]; exact pkN_mod hx2.2
  have hk7 := okN_7 hP (h5 k hk)
  by_cases cc : Pr c = -1
  · rw [show ntN Pr c n = n + 1 from if_pos cc, show ntC Pr Q c n x = va_up Q n x from if_pos cc, show ntC Pr O c n c = va_up O n c from if_pos cc, show ntP Pr c (nI (pkN P (Q k) * 8 + b)) = upd Pr c (nI (pkN P (Q k) * 8 + b)) from if_pos cc, show ntF Pr F c (c % 2 ^ P 2) = _ from if_pos cc, hcm]
    have hroom := sbI_room hB hcM cc
    have hne := (hB.1 c hcM).mp cc
    have hqx : ∀ p, p < n → Q p ≠ x := fun p hp y => hne p hp (by rw [y, ec])
    have uo : ∀ p, p < n → va_up Q n x p = Q p := fun p hp => va_up_n (by omega)
    refine ⟨⟨⟨_, _, bT_new h1 hk hb h8 e hqx, by omega, ?_, ?_, ?_, ?_, ?_⟩, sbI_new hB ec.symm hcM cc (nI_m1 (by omega))⟩, by omega, va_up_n (by omega)⟩
    · rw [uo 0 (by omega)]
      show (if pkN P (Q 0) = c then _ else Pr _) = _
      rw [if_neg (hne 0 (by omega))]; exact h3
    · intro i hi hn
      by_cases ei : i = n
      · subst ei
        rw [va_up_s, va_up_s, ← ec, show (8 * k + b) / 8 = k by omega, show (8 * k + b) % 8 = b by omega, uo k hk]
        exact if_pos rfl
      · have hin : i < n := by omega
        have hpi := (h1.2.1 i hi hin).2.2.1
        rw [uo i hin, va_up_n (f := pr) ei, uo (pr i / 8) (by omega)]
        show (if pkN P (Q i) = c then _ else Pr _) = _
        rw [if_neg (hne i hin)]; exact h4 i hi hin
    · intro i hi
      by_cases ei : i = n
      · rw [ei, va_up_s]; exact hx
      · rw [va_up_n ei]; exact h5 i (by omega)
    · rw [ec]
      exact srF_new (fun i hi => by have := okN_7 hP (h5 i hi); omega) h6
    · intro i hi
      by_cases ei : i = n
      · rw [ei, va_up_s, va_up_s, ec]
      · rw [va_up_n ei, va_up_n ei]; exact h7 i (by omega)
  · rw [show ntN Pr c n = n from if_neg cc, show ntC Pr Q c n x = Q from if_neg cc, show ntC Pr O c n c = O from if_neg cc, show ntP Pr c (nI (pkN P (Q k) * 8 + b)) = Pr from if_neg cc, show ntF Pr F c (c % 2 ^ P 2) = F from if_neg cc]
    have hex : ∃ p, p < n ∧ Q p = nxN P (Q k) b := Classical.byContradiction fun y => cc ((hB.1 c hcM).mpr fun i hi q => y ⟨i, hi, (pkN_inj hP (h5 i hi) hx (q.trans ec)).trans e⟩)
    obtain ⟨p, p1, p2⟩ := hex
    exact ⟨⟨⟨pr, dp, bT_old h1 p1 p2 (by omega) h8, h2, h3, h4, h5, h6, h7⟩, hB⟩, Nat.le_refl _, rfl⟩
theorem srI_skip {P : Nat → Nat} (hP : okP P) {s0 k b b' n M : Nat} {Q O : Nat → Nat} {Pr F : Nat → Int32} (h : srI P s0 (8 * k + b) n Q M O Pr F) (hk : k < n) (hb : b < P 3) (hb' : b' < b) (e : P (24 + 2 * b) = P (24 + 2 * b')) : srI P s0 (8 * k + (b + 1)) n Q M O Pr F := by
  obtain ⟨pr, dp, h1, h2⟩ := h
  have h8 := hP.2.2.2.1
  obtain ⟨p, p1, p2, _⟩ := h1.2.2.2.2 k b' hk (by omega) (by omega)
  exact ⟨pr, dp, bT_old h1 p1 (p2.trans (nxN_k e.symm)) (by omega) h8, h2⟩
theorem srI_next {P : Nat → Nat} (hP : okP P) {s0 k n M : Nat} {Q O : Nat → Nat} {Pr F : Nat → Int32} (h : srI P s0 (8 * k + P 3) n Q M O Pr F) : srI P s0 (8 * (k + 1) + 0) n Q M O Pr F := by
  obtain ⟨pr, dp, h1, h2⟩ := h
  exact ⟨pr, dp, bT_next h1 hP.2.2.2.1, h2⟩
theorem srI_n {P : Nat → Nat} {s0 c n M : Nat} {Q O : Nat → Nat} {Pr F : Nat → Int32} (h : srI P s0 c n Q M O Pr F) : n ≤ M := by
  obtain ⟨_, _, _, y, _⟩ := h
  exact y
theorem srI_k {P : Nat → Nat} {s0 c n M k : Nat} {Q O : Nat → Nat} {Pr F : Nat → Int32} (h : srI P s0 c n Q M O Pr F) (hk : k < n) : okN P (Q k) ∧ O k = pkN P (Q k) := by
  obtain ⟨_, _, _, _, _, _, h5, _, h7⟩ := h
  exact ⟨h5 k hk, h7 k hk⟩
theorem fkD_0 {L : Nat → Nat → Nat} {b : Nat} (hb : b < L 0 2) (h : (fkD (L 5) (L 0 2)).2 / 2 ^ b % 2 = 0) : ∃ b', b' < b ∧ plP L (24 + 2 * b) = plP L (24 + 2 * b') := by
  rw [tb_0, fkD_2] at h
  refine Classical.byContradiction fun y => h ⟨hb, fun j hj e => y ⟨j, hj, ?_⟩⟩
  rw [plP_k, plP_k, e]
theorem srI_0 {P : Nat → Nat} (hP : okP P) {x M : Nat} {Q O : Nat → Nat} {Pr F0 : Nat → Int32} (hx : okN P x) (hM : cdN P (P 2) ≤ M) (hB : ∀ z, z < M → Pr z = -1) (hF : ∀ s, s < 32 → F0 s = -1) :
    (srI P x (8 * 0 + 0) (ntN Pr (pkN P x) 0) (ntC Pr Q (pkN P x) 0 x) M (ntC Pr O (pkN P x) 0 (pkN P x)) (ntP Pr (pkN P x) (-2)) (ntF Pr F0 (pkN P x) (pkN P x % 2 ^ P 2)) ∧ sbI P (ntP Pr (pkN P x) (-2)) (ntC Pr Q (pkN P x) 0 x) (ntN Pr (pkN P x) 0) M) ∧ 0 < ntN Pr (pkN P x) 0 := by
  have hx2 := okN_m hP hx
  have hcM : pkN P x < M := Nat.lt_of_lt_of_le (pkN_lt hP hx2.2) hM
  have c := hB _ hcM
  rw [show ntN Pr (pkN P x) 0 = 0 + 1 from if_pos c, show ntC Pr Q (pkN P x) 0 x = va_up Q 0 x from if_pos c, show ntC Pr O (pkN P x) 0 (pkN P x) = va_up O 0 (pkN P x) from if_pos c, show ntP Pr (pkN P x) (-2) = upd Pr (pkN P x) (-2) from if_pos c, show ntF Pr F0 (pkN P x) (pkN P x % 2 ^ P 2) = _ from if_pos c, pkN_mod hx2.2]
  refine ⟨⟨⟨fun _ => 0, fun _ => 0, ⟨⟨Nat.le_refl 1, va_up_s, rfl⟩, ?_, ?_, ?_, ?_⟩, by omega, ?_, ?_, ?_, srF_new (fun i hi => absurd hi (Nat.not_lt_zero _)) (fun s hs => Or.inl ⟨hF s hs, fun i hi => absurd hi (Nat.not_lt_zero _)⟩), ?_⟩, sbI_new ⟨fun z hz => ⟨fun _ i hi => absurd hi (Nat.not_lt_zero _), fun _ => hB z hz⟩, by rw [Nat.zero_add]; exact cN_all M (fun z hz => by show (if Pr z = -1 then (-1000000 : Int32) else 0) = _; rw [if_pos (hB z hz)])⟩ rfl hcM c (by decide)⟩, by decide⟩
  · intro p p0 p1; omega
  · intro p r p0 p1 p2; omega
  · intro p r p1 p2; omega
  · intro a b _ _ hc; omega
  · rw [va_up_s]; exact if_pos rfl
  · intro i hi hn; omega
  · intro i hi
    rw [show i = 0 by omega, va_up_s]; exact hx
  · intro i hi
    rw [show i = 0 by omega, va_up_s, va_up_s]
set_option maxRecDepth 20000 in
theorem c_X2_spread (g : gG) (ea : Nat) (sa : Nat) (p0 : Nat) (es : Nat) (em : Nat) (en : Nat) (ec : Nat) (ep : Nat) (ef : Nat) (eM : Nat) (zeC : Nat → Nat) (zeP : Nat → Int32) (zeF : Nat → Int32) (sb : Nat) (sc : Nat) (sd : Nat) (yD : Nat → Nat → Nat) (p1 : Nat) (p2 : Nat) (p3 : Nat) (p4 : Nat) (p5 : Nat) (p6 : Nat) (yL : Nat → Nat → Nat) (c : Nat) (s0 : Nat) (k : Nat) (zeQ : Nat → Nat) (pb : Nat) (hP : okP (plP yL)) (hm : em = (fkD (yL 5) (yL 0 2)).2) (hM : eM ≤ 7776) (hcd : cdN (plP yL) (yL 0 1) ≤ eM) (hk : k < en) (hc : c = pkN (plP yL) (zeQ k)) (hS : srI (plP yL) s0 (8 * k + 0) en zeQ eM zeC zeP zeF) (hB : sbI (plP yL) zeP zeQ en eM) (hD : ∀ j, j < 5 → yD 1 j ≤ pb + 3) (hpb : pb ≤ 100000) : gCon g mX2_spread 3 0 0 [.ref ea, .int (nI c)] [(ea, .inr (2, [.ref sa, .ref p0, .int (nI es), .int (nI em), .int (nI en), .int (nI (sfN zeF 32)), .ref ec, .ref ep, .ref ef])), (ec, .inl (g.2.1 0, eM, .inl (nF zeC))), (ep, .inl (g.2.1 0, eM, .inl zeP)), (ef, .inl (g.2.1 0, 32, .inl zeF)), (sa, .inr (3, [.ref p0, .int (nI (yD 0 0)), .ref sb, .ref sc, .ref sd])), (sb, .inl (g.2.1 0, 5, .inl (nF (yD 1)))), (sc, .inl (g.2.1 0, 6, .inl (nF (yD 2)))), (sd, .inl (g.2.1 0, 6, .inl (nF (yD 3)))), (p0, .inr (0, [.int (nI (yL 0 0)), .int (nI (yL 0 1)), .int (nI (yL 0 2)), .ref p1, .ref p2, .ref p3, .ref p4, .ref p5, .ref p6])), (p1, .inl (g.2.1 0, 5, .inl (nF (yL 1)))), (p2, .inl (g.2.1 0, 5, .inl (nF (yL 2)))), (p3, .inl (g.2.1 0, 5, .inl (nF (yL 3)))), (p4, .inl (g.2.1 0, 5, .inl (nF (yL 4)))), (p5, .inl (g.2.1 0, 8, .inl (nF (yL 5)))), (p6, .inl (g.2.1 0, 8, .inl (nF (yL 6))))] (fun rv ws' => ∃ (zD : Nat → Nat → Nat) (zn : Nat) (zQ : Nat → Nat) (zC : Nat → Nat) (zP : Nat → Int32) (zF : Nat → Int32), (srI (plP yL) s0 (8 * (k + 1) + 0) zn zQ eM zC zP zF) ∧ (sbI (plP yL) zP zQ zn eM) ∧ (∀ j, j < 5 → zD 1 j ≤ pb + 8 + 3) ∧ (en ≤ zn) ∧ rv = none ∧ ws' = [(ea, .inr (2, [.ref sa, .ref p0, .int (nI es), .int (nI em), .int (nI zn), .int (nI (sfN zF 32)), .ref ec, .ref ep, .ref ef])), (ec, .inl (g.2.1 0, eM, .inl (nF zC))), (ep, .inl (g.2.1 0, eM, .inl zP)), (ef, .inl (g.2.1 0, 32, .inl zF)), (sa, .inr (3, [.ref p0, .int (nI (zD 0 0)), .ref sb, .ref sc, .ref sd])), (sb, .inl (g.2.1 0, 5, .inl (nF (zD 1)))), (sc, .inl (g.2.1 0, 6, .inl (nF (zD 2)))), (sd, .inl (g.2.1 0, 6, .inl (nF (zD 3)))), (p0, .inr (0, [.int (nI (yL 0 0)), .int (nI (yL 0 1)), .int (nI (yL 0 2)), .ref p1, .ref p2, .ref p3, .ref p4, .ref p5, .ref p6])), (p1, .inl (g.2.1 0, 5, .inl (nF (yL 1)))), (p2, .inl (g.2.1 0, 5, .inl (nF (yL 2)))), (p3, .inl (g.2.1 0, 5, .inl (nF (yL 3)))), (p4, .inl (g.2.1 0, 5, .inl (nF (yL 4)))), (p5, .inl (g.2.1 0, 8, .inl (nF (yL 5)))), (p6, .inl (g.2.1 0, 8, .inl (nF (yL 6))))]) := by
  refine gCon.of (lv := [(0, .ref ea), (1, .int (nI c))]) (by decide) (gLe rfl) rfl ?_
  have h8 : yL 0 2 ≤ 8 := hP.2.2.2.1
  have h2 : 1 ≤ yL 0 1 := hP.2.1
  have h25 : yL 0 1 ≤ 5 := hP.2.2.1
  have hem : em < 256 := by rw [hm]; exact (fkD_lt h8 (fun b hb => by have y := (okP_k hP hb).2; rw [plP_k] at y; omega) _ (Nat.le_refl _)).2
  have hen := srI_n hS
  have hc7 : c < 7776 := by rw [hc]; exact okN_7 hP (srI_k hS hk).1
  refine j_iconst (v := (0 : Int32)) 1 dX2_spread_0 rfl (by decide) ?_
  refine j_istore_n 2 [(2, .int (0 : Int32)), (0, .ref ea), (1, .int (nI c))] dX2_spread_1 rfl (by decide) rfl ?_
  have hL2 : ∀ (zm2 : Nat) (zb : Nat) (zD : Nat → Nat → Nat) (zn : Nat) (zQ : Nat → Nat) (zC : Nat → Nat) (zP : Nat → Int32) (zF : Nat → Int32), yL 0 2 - zb < zm2 → (zb ≤ yL 0 2) → (srI (plP yL) s0 (8 * k + zb) zn zQ eM zC zP zF) → (sbI (plP yL) zP zQ zn eM) → (∀ j, j < 5 → zD 1 j ≤ pb + zb + 3) → (k < zn) → (en ≤ zn) → (zn ≤ eM) → (c = pkN (plP yL) (zQ k)) → gJ g mX2_spread 3 0 0 (fun k' j' rv ws' => k' ≤ 0 ∧ j' ≤ 0 ∧ (∃ (zD : Nat → Nat → Nat) (zn : Nat) (zQ : Nat → Nat) (zC : Nat → Nat) (zP : Nat → Int32) (zF : Nat → Int32), (srI (plP yL) s0 (8 * (k + 1) + 0) zn zQ eM zC zP zF) ∧ (sbI (plP yL) zP zQ zn eM) ∧ (∀ j, j < 5 → zD 1 j ≤ pb + 8 + 3) ∧ (en ≤ zn) ∧ rv = none ∧ ws' = [(ea, .inr (2, [.ref sa, .ref p0, .int (nI es), .int (nI em), .int (nI zn), .int (nI (sfN zF 32)), .ref ec, .ref ep, .ref ef])), (ec, .inl (g.2.1 0, eM, .inl (nF zC))), (ep, .inl (g.2.1 0, eM, .inl zP)), (ef, .inl (g.2.1 0, 32, .inl zF)), (sa, .inr (3, [.ref p0, .int (nI (zD 0 0)), .ref sb, .ref sc, .ref sd])), (sb, .inl (g.2.1 0, 5, .inl (nF (zD 1)))), (sc, .inl (g.2.1 0, 6, .inl (nF (zD 2)))), (sd, .inl (g.2.1 0, 6, .inl (nF (zD 3)))), (p0, .inr (0, [.int (nI (yL 0 0)), .int (nI (yL 0 1)), .int (nI (yL 0 2)), .ref p1, .ref p2, .ref p3, .ref p4, .ref p5, .ref p6])), (p1, .inl (g.2.1 0, 5, .inl (nF (yL 1)))), (p2, .inl (g.2.1 0, 5, .inl (nF (yL 2)))), (p3, .inl (g.2.1 0, 5, .inl (nF (yL 3)))), (p4, .inl (g.2.1 0, 5, .inl (nF (yL 4)))), (p5, .inl (g.2.1 0, 8, .inl (nF (yL 5)))), (p6, .inl (g.2.1 0, 8, .inl (nF (yL 6))))])) 0 0 2 [(2, .int (nI zb)), (0, .ref ea), (1, .int (nI c))] [] [(ea, .inr (2, [.ref sa, .ref p0, .int (nI es), .int (nI em), .int (nI zn), .int (nI (sfN zF 32)), .ref ec, .ref ep, .ref ef])), (ec, .inl (g.2.1 0, eM, .inl (nF zC))), (ep, .inl (g.2.1 0, eM, .inl zP)), (ef, .inl (g.2.1 0, 32, .inl zF)), (sa, .inr (3, [.ref p0, .int (nI (zD 0 0)), .ref sb, .ref sc, .ref sd])), (sb, .inl (g.2.1 0, 5, .inl (nF (zD 1)))), (sc, .inl (g.2.1 0, 6, .inl (nF (zD 2)))), (sd, .inl (g.2.1 0, 6, .inl (nF (zD 3)))), (p0, .inr (0, [.int (nI (yL 0 0)), .int (nI (yL 0 1)), .int (nI (yL 0 2)), .ref p1, .ref p2, .ref p3, .ref p4, .ref p5, .ref p6])), (p1, .inl (g.2.1 0, 5, .inl (nF (yL 1)))), (p2, .inl (g.2.1 0, 5, .inl (nF (yL 2)))), (p3, .inl (g.2.1 0, 5, .inl (nF (yL 3)))), (p4, .inl (g.2.1 0, 5, .inl (nF (yL 4)))), (p5, .inl (g.2.1 0, 8, .inl (nF (yL 5)))), (p6, .inl (g.2.1 0, 8, .inl (nF (yL 6))))] := by
    intro zm2
    induction zm2 with
    | zero => intro zb zD zn zQ zC zP zF zmh; exact absurd zmh (Nat.not_lt_zero _)
    | succ zm2 zih2 =>
      intro zb zD zn zQ zC zP zF zmh2 hzt hzi hzb hzd hzk hze hzn hzc
      refine j_iload_n 3 dX2_spread_2 rfl 0 rfl ?_
      refine j_aload_n 4 dX2_spread_3 rfl 1 rfl ?_
      refine j_getf 7 0 dX2_spread_4 rfl fd_X2_9 rfl rfl ?_
      refine j_getf 10 8 dX2_spread_7 rfl fd_X2_84 rfl rfl ?_
      refine j_icmp_geN zb (yL 0 2) 13 68 dX2_spread_10 rfl rfl (by omega) (by have z0 := h8; omega) (fun h10 => ?_) (fun h10 => ?_)
      ·
        refine j_vret dX2_spread_68 rfl ⟨gLe rfl, gLe rfl, ?_⟩
        have ye : zb = yL 0 2 := by omega
        rw [ye] at hzi
        exact ⟨zD, zn, zQ, zC, zP, zF, srI_next hP hzi, hzb, (fun j hj => by have y := hzd j hj; omega), hze, rfl, rfl⟩
      ·
        refine j_aload_n 14 dX2_spread_13 rfl 1 rfl ?_
        refine j_getf 17 0 dX2_spread_14 rfl fd_X2_19 rfl rfl ?_
        refine j_iload_n 18 dX2_spread_17 rfl 0 rfl ?_
        refine j_ishrN em zb 19 dX2_spread_18 rfl (by omega) (by omega) ?_
        refine j_iconst (v := (1 : Int32)) 20 dX2_spread_19 rfl (by decide) ?_
        refine j_iandN (em / 2 ^ zb) 1 21 dX2_spread_20 rfl ?_
        refine j_topN ((em / 2 ^ zb) &&& 1) (em / 2 ^ zb % 2) (Nat.and_one_is_mod _) ?_
        refine j_if_neN (em / 2 ^ zb % 2) 24 27 dX2_spread_21 rfl rfl (by have z0 := (Nat.mod_lt (em / 2 ^ zb) (by decide : 0 < 2)); omega) (fun h21 => ?_) (fun h21 => ?_)
        ·
          have hok := srI_k hzi hzk
          have hck := okN_m hP hok.1
          refine j_aload_n 28 dX2_spread_27 rfl 1 rfl ?_
          refine j_getf 31 0 dX2_spread_28 rfl fd_X2_44 rfl rfl ?_
          refine j_iload_n 32 dX2_spread_31 rfl 2 rfl ?_
          refine j_callV0 (rest := []) 35 [4, 5, 6, 7, 8, 9, 10, 11, 12, 13, 14] (c_X3_standAs g sa p0 sb sc sd zD p1 p2 p3 p4 p5 p6 yL c (zQ k % 32) (tkU (zQ k)) hP hck.2 hzc) [] [(ea, .inr (2, [.ref sa, .ref p0, .int (nI es), .int (nI em), .int (nI zn), .int (nI (sfN zF 32)), .ref ec, .ref ep, .ref ef])), (ec, .inl (g.2.1 0, eM, .inl (nF zC))), (ep, .inl (g.2.1 0, eM, .inl zP)), (ef, .inl (g.2.1 0, 32, .inl zF)), (sa, .inr (3, [.ref p0, .int (nI ((putD zD (zQ k % 32) (stV (plP yL) (yL 0 1) (tkU (zQ k)) (zD 1))) 0 0)), .ref sb, .ref sc, .ref sd])), (sb, .inl (g.2.1 0, 5, .inl (nF ((putD zD (zQ k % 32) (stV (plP yL) (yL 0 1) (tkU (zQ k)) (zD 1))) 1)))), (sc, .inl (g.2.1 0, 6, .inl (nF ((putD zD (zQ k % 32) (stV (plP yL) (yL 0 1) (tkU (zQ k)) (zD 1))) 2)))), (sd, .inl (g.2.1 0, 6, .inl (nF ((putD zD (zQ k % 32) (stV (plP yL) (yL 0 1) (tkU (zQ k)) (zD 1))) 3)))), (p0, .inr (0, [.int (nI (yL 0 0)), .int (nI (yL 0 1)), .int (nI (yL 0 2)), .ref p1, .ref p2, .ref p3, .ref p4, .ref p5, .ref p6])), (p1, .inl (g.2.1 0, 5, .inl (nF (yL 1)))), (p2, .inl (g.2.1 0, 5, .inl (nF (yL 2)))), (p3, .inl (g.2.1 0, 5, .inl (nF (yL 3)))), (p4, .inl (g.2.1 0, 5, .inl (nF (yL 4)))), (p5, .inl (g.2.1 0, 8, .inl (nF (yL 5)))), (p6, .inl (g.2.1 0, 8, .inl (nF (yL 6))))] dX2_spread_32 rfl cv_X2_87 rfl rfl rfl rfl 0 rfl rfl (gLe rfl) (gLe rfl) (gLe rfl) (gLe rfl) (gLe rfl) rfl rfl ?_
          have hsv : ∀ j, j < 5 → (stV (plP yL) (yL 0 1) (tkU (zQ k)) (zD 1)) j ≤ pb + zb + 3 := by
            intro j hj
            have y2 := hzd j hj
            unfold stV
            split <;> omega
          refine j_aload_n 36 dX2_spread_35 rfl 1 rfl ?_
          refine j_getf 39 0 dX2_spread_36 rfl fd_X2_44 rfl rfl ?_
          refine j_iload_n 40 dX2_spread_39 rfl 0 rfl ?_
          refine j_iconst (v := (-1 : Int32)) 41 dX2_spread_40 rfl (by decide) ?_
          refine j_callV0 (rest := []) 44 [4, 5, 6, 7, 8, 9, 10, 11, 12, 13, 14] (c_X3_send g sa p0 sb sc sd (putD zD (zQ k % 32) (stV (plP yL) (yL 0 1) (tkU (zQ k)) (zD 1))) p1 p2 p3 p4 p5 p6 yL zb (-1 : Int32) 99 hP rfl (by omega) hck.2 (fun j hj => by show (stV (plP yL) (yL 0 1) (tkU (zQ k)) (zD 1)) j < _; have y := hsv j hj; omega)) [.int (nI ((gOA (plP yL) 99 zb ((putD zD (zQ k % 32) (stV (plP yL) (yL 0 1) (tkU (zQ k)) (zD 1))) 0 0) ((putD zD (zQ k % 32) (stV (plP yL) (yL 0 1) (tkU (zQ k)) (zD 1))) 1)).1))] [(ea, .inr (2, [.ref sa, .ref p0, .int (nI es), .int (nI em), .int (nI zn), .int (nI (sfN zF 32)), .ref ec, .ref ep, .ref ef])), (ec, .inl (g.2.1 0, eM, .inl (nF zC))), (ep, .inl (g.2.1 0, eM, .inl zP)), (ef, .inl (g.2.1 0, 32, .inl zF)), (sa, .inr (3, [.ref p0, .int (nI ((putD (putD zD (zQ k % 32) (stV (plP yL) (yL 0 1) (tkU (zQ k)) (zD 1))) (gOA (plP yL) 99 zb ((putD zD (zQ k % 32) (stV (plP yL) (yL 0 1) (tkU (zQ k)) (zD 1))) 0 0) ((putD zD (zQ k % 32) (stV (plP yL) (yL 0 1) (tkU (zQ k)) (zD 1))) 1)).2.1 (gOA (plP yL) 99 zb ((putD zD (zQ k % 32) (stV (plP yL) (yL 0 1) (tkU (zQ k)) (zD 1))) 0 0) ((putD zD (zQ k % 32) (stV (plP yL) (yL 0 1) (tkU (zQ k)) (zD 1))) 1)).2.2) 0 0)), .ref sb, .ref sc, .ref sd])), (sb, .inl (g.2.1 0, 5, .inl (nF ((putD (putD zD (zQ k % 32) (stV (plP yL) (yL 0 1) (tkU (zQ k)) (zD 1))) (gOA (plP yL) 99 zb ((putD zD (zQ k % 32) (stV (plP yL) (yL 0 1) (tkU (zQ k)) (zD 1))) 0 0) ((putD zD (zQ k % 32) (stV (plP yL) (yL 0 1) (tkU (zQ k)) (zD 1))) 1)).2.1 (gOA (plP yL) 99 zb ((putD zD (zQ k % 32) (stV (plP yL) (yL 0 1) (tkU (zQ k)) (zD 1))) 0 0) ((putD zD (zQ k % 32) (stV (plP yL) (yL 0 1) (tkU (zQ k)) (zD 1))) 1)).2.2) 1)))), (sc, .inl (g.2.1 0, 6, .inl (nF ((putD (putD zD (zQ k % 32) (stV (plP yL) (yL 0 1) (tkU (zQ k)) (zD 1))) (gOA (plP yL) 99 zb ((putD zD (zQ k % 32) (stV (plP yL) (yL 0 1) (tkU (zQ k)) (zD 1))) 0 0) ((putD zD (zQ k % 32) (stV (plP yL) (yL 0 1) (tkU (zQ k)) (zD 1))) 1)).2.1 (gOA (plP yL) 99 zb ((putD zD (zQ k % 32) (stV (plP yL) (yL 0 1) (tkU (zQ k)) (zD 1))) 0 0) ((putD zD (zQ k % 32) (stV (plP yL) (yL 0 1) (tkU (zQ k)) (zD 1))) 1)).2.2) 2)))), (sd, .inl (g.2.1 0, 6, .inl (nF ((putD (putD zD (zQ k % 32) (stV (plP yL) (yL 0 1) (tkU (zQ k)) (zD 1))) (gOA (plP yL) 99 zb ((putD zD (zQ k % 32) (stV (plP yL) (yL 0 1) (tkU (zQ k)) (zD 1))) 0 0) ((putD zD (zQ k % 32) (stV (plP yL) (yL 0 1) (tkU (zQ k)) (zD 1))) 1)).2.1 (gOA (plP yL) 99 zb ((putD zD (zQ k % 32) (stV (plP yL) (yL 0 1) (tkU (zQ k)) (zD 1))) 0 0) ((putD zD (zQ k % 32) (stV (plP yL) (yL 0 1) (tkU (zQ k)) (zD 1))) 1)).2.2) 3)))), (p0, .inr (0, [.int (nI (yL 0 0)), .int (nI (yL 0 1)), .int (nI (yL 0 2)), .ref p1, .ref p2, .ref p3, .ref p4, .ref p5, .ref p6])), (p1, .inl (g.2.1 0, 5, .inl (nF (yL 1)))), (p2, .inl (g.2.1 0, 5, .inl (nF (yL 2)))), (p3, .inl (g.2.1 0, 5, .inl (nF (yL 3)))), (p4, .inl (g.2.1 0, 5, .inl (nF (yL 4)))), (p5, .inl (g.2.1 0, 8, .inl (nF (yL 5)))), (p6, .inl (g.2.1 0, 8, .inl (nF (yL 6))))] dX2_spread_41 rfl cv_X2_90 rfl rfl rfl rfl 0 rfl rfl (gLe rfl) (gLe rfl) (gLe rfl) (gLe rfl) (gLe rfl) rfl rfl ?_
          refine j_ws [(ea, .inr (2, [.ref sa, .ref p0, .int (nI es), .int (nI em), .int (nI zn), .int (nI (sfN zF 32)), .ref ec, .ref ep, .ref ef])), (ec, .inl (g.2.1 0, eM, .inl (nF zC))), (ep, .inl (g.2.1 0, eM, .inl zP)), (ef, .inl (g.2.1 0, 32, .inl zF)), (sa, .inr (3, [.ref p0, .int (nI ((putD zD (gOA (plP yL) 99 zb (zQ k % 32) (stV (plP yL) (yL 0 1) (tkU (zQ k)) (zD 1))).2.1 (gOA (plP yL) 99 zb (zQ k % 32) (stV (plP yL) (yL 0 1) (tkU (zQ k)) (zD 1))).2.2) 0 0)), .ref sb, .ref sc, .ref sd])), (sb, .inl (g.2.1 0, 5, .inl (nF ((putD zD (gOA (plP yL) 99 zb (zQ k % 32) (stV (plP yL) (yL 0 1) (tkU (zQ k)) (zD 1))).2.1 (gOA (plP yL) 99 zb (zQ k % 32) (stV (plP yL) (yL 0 1) (tkU (zQ k)) (zD 1))).2.2) 1)))), (sc, .inl (g.2.1 0, 6, .inl (nF ((putD zD (gOA (plP yL) 99 zb (zQ k % 32) (stV (plP yL) (yL 0 1) (tkU (zQ k)) (zD 1))).2.1 (gOA (plP yL) 99 zb (zQ k % 32) (stV (plP yL) (yL 0 1) (tkU (zQ k)) (zD 1))).2.2) 2)))), (sd, .inl (g.2.1 0, 6, .inl (nF ((putD zD (gOA (plP yL) 99 zb (zQ k % 32) (stV (plP yL) (yL 0 1) (tkU (zQ k)) (zD 1))).2.1 (gOA (plP yL) 99 zb (zQ k % 32) (stV (plP yL) (yL 0 1) (tkU (zQ k)) (zD 1))).2.2) 3)))), (p0, .inr (0, [.int (nI (yL 0 0)), .int (nI (yL 0 1)), .int (nI (yL 0 2)), .ref p1, .ref p2, .ref p3, .ref p4, .ref p5, .ref p6])), (p1, .inl (g.2.1 0, 5, .inl (nF (yL 1)))), (p2, .inl (g.2.1 0, 5, .inl (nF (yL 2)))), (p3, .inl (g.2.1 0, 5, .inl (nF (yL 3)))), (p4, .inl (g.2.1 0, 5, .inl (nF (yL 4)))), (p5, .inl (g.2.1 0, 8, .inl (nF (yL 5)))), (p6, .inl (g.2.1 0, 8, .inl (nF (yL 6))))] rfl ?_
          have hzd2 : ∀ j, j < 5 → (gOA (plP yL) 99 zb (zQ k % 32) (stV (plP yL) (yL 0 1) (tkU (zQ k)) (zD 1))).2.2 j ≤ pb + zb + 3 + 1 := by
            intro j hj
            have y1 := (goA_pu hP (sk := 99) (kd := plP yL (24 + 2 * zb)) 5 (yL 0 1 - 1) (zQ k % 32) (stV (plP yL) (yL 0 1) (tkU (zQ k)) (zD 1)) (by show yL 0 1 - 1 < yL 0 1; omega) j).1
            have y4 := hsv j hj
            show (goA _ _ _ _ _ _ _).2.2 j ≤ _
            exact Nat.le_trans y1 (by omega)
          have hgk := (gOA_ok hP (sk := 99) (b := zb) hck.2 (Z5_tk (zQ k)))
          have hg3 : (gOA (plP yL) 99 zb (zQ k % 32) (stV (plP yL) (yL 0 1) (tkU (zQ k)) (zD 1))).2.1 < 2 ^ yL 0 1 := goA_st hP 5 _ _ _ (by show yL 0 1 - 1 < yL 0 1; omega) hck.2
          refine j_pop 45 dX2_spread_44 rfl rfl ?_
          refine j_aload_n 46 dX2_spread_45 rfl 1 rfl ?_
          refine j_aload_n 47 dX2_spread_46 rfl 1 rfl ?_
          refine j_getf 50 0 dX2_spread_47 rfl fd_X2_44 rfl rfl ?_
          refine j_callV0 (rest := [.ref ea]) 53 [4, 5, 6, 7, 8, 9, 10, 11, 12, 13, 14] (c_X3_code g sa p0 sb sc sd (putD zD (gOA (plP yL) 99 zb (zQ k % 32) (stV (plP yL) (yL 0 1) (tkU (zQ k)) (zD 1))).2.1 (gOA (plP yL) 99 zb (zQ k % 32) (stV (plP yL) (yL 0 1) (tkU (zQ k)) (zD 1))).2.2) p1 p2 p3 p4 p5 p6 yL hP hg3 (fun j hj => by show (gOA (plP yL) 99 zb (zQ k % 32) (stV (plP yL) (yL 0 1) (tkU (zQ k)) (zD 1))).2.2 j < _; have y := hzd2 j hj; omega)) [.int (nI (pkN (plP yL) (numA (plP yL) ((putD zD (gOA (plP yL) 99 zb (zQ k % 32) (stV (plP yL) (yL 0 1) (tkU (zQ k)) (zD 1))).2.1 (gOA (plP yL) 99 zb (zQ k % 32) (stV (plP yL) (yL 0 1) (tkU (zQ k)) (zD 1))).2.2) 0 0) ((putD zD (gOA (plP yL) 99 zb (zQ k % 32) (stV (plP yL) (yL 0 1) (tkU (zQ k)) (zD 1))).2.1 (gOA (plP yL) 99 zb (zQ k % 32) (stV (plP yL) (yL 0 1) (tkU (zQ k)) (zD 1))).2.2) 1)))), .ref ea] [(ea, .inr (2, [.ref sa, .ref p0, .int (nI es), .int (nI em), .int (nI zn), .int (nI (sfN zF 32)), .ref ec, .ref ep, .ref ef])), (ec, .inl (g.2.1 0, eM, .inl (nF zC))), (ep, .inl (g.2.1 0, eM, .inl zP)), (ef, .inl (g.2.1 0, 32, .inl zF)), (sa, .inr (3, [.ref p0, .int (nI ((putD zD (gOA (plP yL) 99 zb (zQ k % 32) (stV (plP yL) (yL 0 1) (tkU (zQ k)) (zD 1))).2.1 (gOA (plP yL) 99 zb (zQ k % 32) (stV (plP yL) (yL 0 1) (tkU (zQ k)) (zD 1))).2.2) 0 0)), .ref sb, .ref sc, .ref sd])), (sb, .inl (g.2.1 0, 5, .inl (nF ((putD zD (gOA (plP yL) 99 zb (zQ k % 32) (stV (plP yL) (yL 0 1) (tkU (zQ k)) (zD 1))).2.1 (gOA (plP yL) 99 zb (zQ k % 32) (stV (plP yL) (yL 0 1) (tkU (zQ k)) (zD 1))).2.2) 1)))), (sc, .inl (g.2.1 0, 6, .inl (nF ((putD zD (gOA (plP yL) 99 zb (zQ k % 32) (stV (plP yL) (yL 0 1) (tkU (zQ k)) (zD 1))).2.1 (gOA (plP yL) 99 zb (zQ k % 32) (stV (plP yL) (yL 0 1) (tkU (zQ k)) (zD 1))).2.2) 2)))), (sd, .inl (g.2.1 0, 6, .inl (nF ((putD zD (gOA (plP yL) 99 zb (zQ k % 32) (stV (plP yL) (yL 0 1) (tkU (zQ k)) (zD 1))).2.1 (gOA (plP yL) 99 zb (zQ k % 32) (stV (plP yL) (yL 0 1) (tkU (zQ k)) (zD 1))).2.2) 3)))), (p0, .inr (0, [.int (nI (yL 0 0)), .int (nI (yL 0 1)), .int (nI (yL 0 2)), .ref p1, .ref p2, .ref p3, .ref p4, .ref p5, .ref p6])), (p1, .inl (g.2.1 0, 5, .inl (nF (yL 1)))), (p2, .inl (g.2.1 0, 5, .inl (nF (yL 2)))), (p3, .inl (g.2.1 0, 5, .inl (nF (yL 3)))), (p4, .inl (g.2.1 0, 5, .inl (nF (yL 4)))), (p5, .inl (g.2.1 0, 8, .inl (nF (yL 5)))), (p6, .inl (g.2.1 0, 8, .inl (nF (yL 6))))] dX2_spread_50 rfl cv_X2_48 rfl rfl rfl rfl 0 rfl rfl (gLe rfl) (gLe rfl) (gLe rfl) (gLe rfl) (gLe rfl) rfl rfl ?_
          refine j_topN (pkN (plP yL) (numA (plP yL) ((putD zD (gOA (plP yL) 99 zb (zQ k % 32) (stV (plP yL) (yL 0 1) (tkU (zQ k)) (zD 1))).2.1 (gOA (plP yL) 99 zb (zQ k % 32) (stV (plP yL) (yL 0 1) (tkU (zQ k)) (zD 1))).2.2) 0 0) ((putD zD (gOA (plP yL) 99 zb (zQ k % 32) (stV (plP yL) (yL 0 1) (tkU (zQ k)) (zD 1))).2.1 (gOA (plP yL) 99 zb (zQ k % 32) (stV (plP yL) (yL 0 1) (tkU (zQ k)) (zD 1))).2.2) 1))) (pkN (plP yL) (nxN (plP yL) (zQ k) zb)) (congrArg (pkN (plP yL)) (nxN_sv (P := plP yL) hP (c := zQ k) (b := zb) (v := zD 1))) ?_
          have hxk := okN_nx hP (P := plP yL) (b := zb) hck.2
          have hx7 : (pkN (plP yL) (nxN (plP yL) (zQ k) zb)) < eM := Nat.lt_of_lt_of_le (pkN_lt hP (okN_m hP hxk).2) hcd
          have hnt := srI_note (c := (pkN (plP yL) (nxN (plP yL) (zQ k) zb))) (x := nxN (plP yL) (zQ k) zb) hP hcd hzi hzb hzk (by show zb < yL 0 2; omega) rfl rfl
          refine j_iload_n 54 dX2_spread_53 rfl 2 rfl ?_
          refine j_bipush (v := (8 : Int32)) 56 dX2_spread_54 rfl (by decide) ?_
          refine j_imulN c 8 57 dX2_spread_56 rfl ?_
          refine j_iload_n 58 dX2_spread_57 rfl 0 rfl ?_
          refine j_iaddN (c * 8) zb 59 dX2_spread_58 rfl ?_
          refine j_topN ((c * 8) + zb) (pkN (plP yL) (zQ k) * 8 + zb) (by rw [hzc]) ?_
          refine j_callV0 (rest := []) 62 [0, 1, 2, 3, 8, 9, 10, 11, 12, 13, 14] (c_X2_note g ea sa p0 es em zn ec ep ef eM zC zP zF p1 p2 p3 p4 p5 p6 yL (pkN (plP yL) (nxN (plP yL) (zQ k) zb)) (nI (pkN (plP yL) (zQ k) * 8 + zb)) h25 hM hx7 (fun y => sbI_room hzb hx7 y) hzn) [] [(ea, .inr (2, [.ref sa, .ref p0, .int (nI es), .int (nI em), .int (nI (ntN zP (pkN (plP yL) (nxN (plP yL) (zQ k) zb)) zn)), .int (nI (sfN (ntF zP zF (pkN (plP yL) (nxN (plP yL) (zQ k) zb)) ((pkN (plP yL) (nxN (plP yL) (zQ k) zb)) % 2 ^ yL 0 1)) 32)), .ref ec, .ref ep, .ref ef])), (ec, .inl (g.2.1 0, eM, .inl (nF (ntC zP zC (pkN (plP yL) (nxN (plP yL) (zQ k) zb)) zn (pkN (plP yL) (nxN (plP yL) (zQ k) zb)))))), (ep, .inl (g.2.1 0, eM, .inl (ntP zP (pkN (plP yL) (nxN (plP yL) (zQ k) zb)) (nI (pkN (plP yL) (zQ k) * 8 + zb))))), (ef, .inl (g.2.1 0, 32, .inl (ntF zP zF (pkN (plP yL) (nxN (plP yL) (zQ k) zb)) ((pkN (plP yL) (nxN (plP yL) (zQ k) zb)) % 2 ^ yL 0 1)))), (sa, .inr (3, [.ref p0, .int (nI ((putD zD (gOA (plP yL) 99 zb (zQ k % 32) (stV (plP yL) (yL 0 1) (tkU (zQ k)) (zD 1))).2.1 (gOA (plP yL) 99 zb (zQ k % 32) (stV (plP yL) (yL 0 1) (tkU (zQ k)) (zD 1))).2.2) 0 0)), .ref sb, .ref sc, .ref sd])), (sb, .inl (g.2.1 0, 5, .inl (nF ((putD zD (gOA (plP yL) 99 zb (zQ k % 32) (stV (plP yL) (yL 0 1) (tkU (zQ k)) (zD 1))).2.1 (gOA (plP yL) 99 zb (zQ k % 32) (stV (plP yL) (yL 0 1) (tkU (zQ k)) (zD 1))).2.2) 1)))), (sc, .inl (g.2.1 0, 6, .inl (nF ((putD zD (gOA (plP yL) 99 zb (zQ k % 32) (stV (plP yL) (yL 0 1) (tkU (zQ k)) (zD 1))).2.1 (gOA (plP yL) 99 zb (zQ k % 32) (stV (plP yL) (yL 0 1) (tkU (zQ k)) (zD 1))).2.2) 2)))), (sd, .inl (g.2.1 0, 6, .inl (nF ((putD zD (gOA (plP yL) 99 zb (zQ k % 32) (stV (plP yL) (yL 0 1) (tkU (zQ k)) (zD 1))).2.1 (gOA (plP yL) 99 zb (zQ k % 32) (stV (plP yL) (yL 0 1) (tkU (zQ k)) (zD 1))).2.2) 3)))), (p0, .inr (0, [.int (nI (yL 0 0)), .int (nI (yL 0 1)), .int (nI (yL 0 2)), .ref p1, .ref p2, .ref p3, .ref p4, .ref p5, .ref p6])), (p1, .inl (g.2.1 0, 5, .inl (nF (yL 1)))), (p2, .inl (g.2.1 0, 5, .inl (nF (yL 2)))), (p3, .inl (g.2.1 0, 5, .inl (nF (yL 3)))), (p4, .inl (g.2.1 0, 5, .inl (nF (yL 4)))), (p5, .inl (g.2.1 0, 8, .inl (nF (yL 5)))), (p6, .inl (g.2.1 0, 8, .inl (nF (yL 6))))] dX2_spread_59 rfl cv_X2_74 rfl rfl rfl rfl 0 rfl rfl (gLe rfl) (gLe rfl) (gLe rfl) (gLe rfl) (gLe rfl) rfl rfl ?_
          refine j_iincN zb 1 65 [(2, .int (nI (zb + 1))), (0, .ref ea), (1, .int (nI c))] dX2_spread_62 rfl 0 rfl (by decide) rfl ?_
          refine j_goto 2 dX2_spread_65 rfl ?_
          refine j_lv [0, 1, 2] rfl ?_
          exact zih2 (zb + 1) (putD zD (gOA (plP yL) 99 zb (zQ k % 32) (stV (plP yL) (yL 0 1) (tkU (zQ k)) (zD 1))).2.1 (gOA (plP yL) 99 zb (zQ k % 32) (stV (plP yL) (yL 0 1) (tkU (zQ k)) (zD 1))).2.2) (ntN zP (pkN (plP yL) (nxN (plP yL) (zQ k) zb)) zn) (ntC zP zQ (pkN (plP yL) (nxN (plP yL) (zQ k) zb)) zn (nxN (plP yL) (zQ k) zb)) (ntC zP zC (pkN (plP yL) (nxN (plP yL) (zQ k) zb)) zn (pkN (plP yL) (nxN (plP yL) (zQ k) zb))) (ntP zP (pkN (plP yL) (nxN (plP yL) (zQ k) zb)) (nI (pkN (plP yL) (zQ k) * 8 + zb))) (ntF zP zF (pkN (plP yL) (nxN (plP yL) (zQ k) zb)) ((pkN (plP yL) (nxN (plP yL) (zQ k) zb)) % 2 ^ yL 0 1)) (by omega) (by omega) hnt.1.1 hnt.1.2 (fun j hj => by have y : (gOA (plP yL) 99 zb (zQ k % 32) (stV (plP yL) (yL 0 1) (tkU (zQ k)) (zD 1))).2.2 j ≤ _ := hzd2 j hj; show (gOA (plP yL) 99 zb (zQ k % 32) (stV (plP yL) (yL 0 1) (tkU (zQ k)) (zD 1))).2.2 j ≤ _; omega) (by have y := hnt.2.1; omega) (by have y := hnt.2.1; omega) (srI_n hnt.1.1) (by rw [hnt.2.2]; exact hzc)
        ·
          obtain ⟨zb1, hzy1, hzy2⟩ := fkD_0 (L := yL) (b := zb) (by omega) (by rw [← hm]; exact h21)
          refine j_goto 62 dX2_spread_24 rfl ?_
          refine j_iincN zb 1 65 [(2, .int (nI (zb + 1))), (0, .ref ea), (1, .int (nI c))] dX2_spread_62 rfl 0 rfl (by decide) rfl ?_
          refine j_goto 2 dX2_spread_65 rfl ?_
          refine j_lv [0, 1, 2] rfl ?_
          exact zih2 (zb + 1) zD zn zQ zC zP zF (by omega) (by omega) (srI_skip hP hzi hzk (by show zb < yL 0 2; omega) hzy1 hzy2) hzb (fun j hj => by have y := hzd j hj; omega) hzk hze hzn hzc
  refine j_lv [0, 1, 2] rfl ?_
  exact hL2 _ 0 yD en zeQ zeC zeP zeF (Nat.lt_succ_self _) (Nat.zero_le _) hS hB hD hk (Nat.le_refl _) hen hc
