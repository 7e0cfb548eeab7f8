theorem nxN_st {P : Nat → Nat} (hP : okP P) {c b : Nat} {u : Nat → Nat} : numA P (gOA P 99 b (c % 32) (stU (P 2) c u)).2.1 (gOA P 99 b (c % 32) (stU (P 2) c u)).2.2 = nxN P c b := by
  have h2 := hP.2.1
  have h5 := hP.2.2.1
  have h := goA_u hP (sk := 99) (kd := P (24 + 2 * b)) 5 (P 2 - 1) (c % 32) (stU (P 2) c u) (tkU c) (by omega) (fun k hk => by rw [stU, tkU, if_pos hk, if_pos (by omega)])
  unfold nxN gOA
  rw [h.2.1]
  exact numA_u h.2.2
theorem nxN_k {P : Nat → Nat} {c b b' : Nat} (h : P (24 + 2 * b) = P (24 + 2 * b')) : nxN P c b = nxN P c b' := by
  unfold nxN gOA
  rw [h]
/-- the class's search, under way -/
def srI (P : Nat → Nat) (s0 c n : Nat) (C : Nat → Nat) (Pr F : Nat → Int32) : Prop :=
  ∃ pr dp : Nat → Nat, bT (nxN P) (P 3) s0 c C pr dp n ∧ n ≤ 7776 ∧ Pr 0 = -1 ∧ (∀ i, 0 < i → i < n → Pr i = nI (pr i)) ∧ (∀ i, i < n → C i < 7776 ∧ C i % 32 < 2 ^ P 2) ∧
    ∀ s, s < 32 → (F s = -1 ∧ ∀ i, i < n → C i % 32 ≠ s) ∨ ∃ f, f < n ∧ F s = nI f ∧ C f % 32 = s ∧ ∀ t, t < f → C t % 32 ≠ s
def sbI (B C : Nat → Nat) (n : Nat) : Prop := (∀ x, x < 7776 → B x ≤ 1) ∧ (∀ x, x < 7776 → (B x = 0 ↔ ∀ i, i < n → C i ≠ x)) ∧ n + cN (fun x => if B x = 0 then -1000000 else 0) 7776 = 7776
theorem sbI_room {B C : Nat → Nat} {n x : Nat} (h : sbI B C n) (hx : x < 7776) (h0 : B x = 0) : n < 7776 := by
  have := cN_pos (F := fun x => if B x = 0 then -1000000 else 0) (x := x) (by show (if B x = 0 then (-1000000 : Int32) else 0) = _; rw [if_pos h0]) 7776 hx
  have := h.2.2
  omega
theorem sbI_new {B C : Nat → Nat} {n x : Nat} (h : sbI B C n) (hx : x < 7776) (h0 : B x = 0) : sbI (va_up B x 1) (va_up C n x) (n + 1) := by
  obtain ⟨h1, h2, h3⟩ := h
  refine ⟨fun z hz => ?_, fun z hz => ?_, ?_⟩
  · by_cases e : z = x
    · rw [e, va_up_s]; exact Nat.le_refl 1
    · rw [va_up_n e]; exact h1 z hz
  · by_cases e : z = x
    · rw [e, va_up_s]
      exact ⟨fun y => absurd y (by decide), fun y => absurd va_up_s (y n (by omega))⟩
    · rw [va_up_n e, h2 z hz]
      constructor
      · intro y i hi
        by_cases ei : i = n
        · rw [ei, va_up_s]; exact fun q => e q.symm
        · rw [va_up_n ei]; exact y i (by omega)
      · intro y i hi
        have := y i (by omega)
        rwa [va_up_n (by omega)] at this
  · have ef : (fun z => if va_up B x 1 z = 0 then (-1000000 : Int32) else 0) = upd (fun z => if B z = 0 then (-1000000 : Int32) else 0) x 0 := by
      funext z
      show (if va_up B x 1 z = 0 then (-1000000 : Int32) else 0) = if z = x then 0 else _
      by_cases e : z = x
      · rw [if_pos e, e, va_up_s, if_neg (by decide)]
      · rw [if_neg e, va_up_n e]
    have := cN_up (F := fun z => if B z = 0 then (-1000000 : Int32) else 0) (x := x) (v := 0) (by decide) (by show (if B x = 0 then (-1000000 : Int32) else 0) = _; rw [if_pos h0]) 7776
    rw [if_pos hx] at this
    rw [ef]
    omega
theorem srF_new {n x : Nat} {C : Nat → Nat} {F : Nat → Int32} (hn : n < 7776) (hF : ∀ s, s < 32 → (F s = -1 ∧ ∀ i, i < n → C i % 32 ≠ s) ∨ ∃ f, f < n ∧ F s = nI f ∧ C f % 32 = s ∧ ∀ t, t < f → C t % 32 ≠ s) :
    ∀ s, s < 32 → ((if F (x % 32) < 0 then upd F (x % 32) (nI n) else F) s = -1 ∧ ∀ i, i < n + 1 → va_up C n x i % 32 ≠ s) ∨ ∃ f, f < n + 1 ∧ (if F (x % 32) < 0 then upd F (x % 32) (nI n) else F) s = nI f ∧ va_up C n x f % 32 = s ∧ ∀ t, t < f → va_up C n x t % 32 ≠ s := by
  intro s hs
  have uo : ∀ p, p < n → va_up C n x p = C p := fun p hp => va_up_n (by omega)
  have hx := hF (x % 32) (Nat.mod_lt _ (by decide))
  by_cases e : s = x % 32
  · subst e
    rcases hx with ⟨a1, a2⟩ | ⟨f, a1, a2, a3, a4⟩
    · have c : F (x % 32) < 0 := by rw [a1]; decide
      rw [if_pos c]
      exact Or.inr ⟨n, by omega, if_pos rfl, by rw [va_up_s], fun t ht => by rw [uo t ht]; exact a2 t ht⟩
    · have c : ¬ F (x % 32) < 0 := by rw [a2]; exact nI_pos (by omega)
      rw [if_neg c]
      exact Or.inr ⟨f, by omega, a2, by rw [uo f a1]; exact a3, fun t ht => by rw [uo t (by omega)]; exact a4 t ht⟩
  · have ev : (if F (x % 32) < 0 then upd F (x % 32) (nI n) else F) s = F s := by
      split
      · exact if_neg e
      · rfl
    rw [ev]
    rcases hF s hs with ⟨a1, a2⟩ | ⟨f, a1, a2, a3, a4⟩
    · refine Or.inl ⟨a1, fun i hi => ?_⟩
      by_cases ei : i = n
      · rw [ei, va_up_s]; exact fun q => e q.symm
      · rw [uo i (by omega)]; exact a2 i (by omega)
    · exact Or.inr ⟨f, by omega, a2, by rw [uo f a1]; exact a3, fun t ht => by rw [uo t (by omega)]; exact a4 t ht⟩
theorem srI_note {P : Nat → Nat} (hP : okP P) {s0 k b n x : Nat} {C B : Nat → Nat} {Pr F : Nat → Int32} (h : srI P s0 (8 * k + b) n C Pr F) (hB : sbI B C n) (hk : k < n) (hb : b < P 3) (e : x = nxN P (C k) b) :
    srI P s0 (8 * k + (b + 1)) (ntN B x n) (ntC B C x n) (ntP B Pr x n (nI (k * 8 + b))) (ntF B F x n) ∧ sbI (ntB B x) (ntC B C x n) (ntN B x n) ∧ n ≤ ntN B x n ∧ ntC B C x n k = C k := by
  obtain ⟨pr, dp, h1, h2, h3, h4, h5, h6⟩ := h
  have h8 := hP.2.2.2.1
  have hx := nxN_ok hP (n := C k) (b := b) (h5 k hk).2
  rw [← e] at hx
  by_cases c : B x = 0
  · rw [show ntN B x n = n + 1 from if_pos c, show ntC B C x n = va_up C n x from if_pos c, show ntP B Pr x n (nI (k * 8 + b)) = upd Pr n (nI (k * 8 + b)) from if_pos c, show ntB B x = va_up B x 1 from if_pos c, show ntF B F x n = _ from if_pos c]
    have hroom := sbI_room hB hx.1 c
    have hne := (hB.2.1 x hx.1).mp c
    refine ⟨⟨_, _, bT_new h1 hk hb h8 e hne, by omega, ?_, ?_, ?_, srF_new hroom h6⟩, sbI_new hB hx.1 c, by omega, va_up_n (by omega)⟩
    · show (if 0 = n then _ else Pr 0) = _
      rw [if_neg (by omega)]; exact h3
    · intro i hi hn
      show (if i = n then nI (k * 8 + b) else Pr i) = nI (if i = n then 8 * k + b else pr i)
      by_cases ei : i = n
      · rw [if_pos ei, if_pos ei, Nat.mul_comm]
      · rw [if_neg ei, if_neg ei]; exact h4 i hi (by omega)
    · intro i hi
      by_cases ei : i = n
      · rw [ei, va_up_s]; exact hx
      · rw [va_up_n ei]; exact h5 i (by omega)
  · rw [show ntN B x n = n from if_neg c, show ntC B C x n = C from if_neg c, show ntP B Pr x n (nI (k * 8 + b)) = Pr from if_neg c, show ntB B x = B from if_neg c, show ntF B F x n = F from if_neg c]
    have hex : ∃ p, p < n ∧ C p = nxN P (C k) b := Classical.byContradiction fun y => c ((hB.2.1 x hx.1).mpr fun i hi q => y ⟨i, hi, q.trans e⟩)
    obtain ⟨p, p1, p2⟩ := hex
    exact ⟨⟨pr, dp, bT_old h1 p1 p2 (by omega) h8, h2, h3, h4, h5, h6⟩, hB, Nat.le_refl _, rfl⟩
theorem srI_skip {P : Nat → Nat} (hP : okP P) {s0 k b b' n : Nat} {C : Nat → Nat} {Pr F : Nat → Int32} (h : srI P s0 (8 * k + b) n C Pr F) (hk : k < n) (hb : b < P 3) (hb' : b' < b) (e : P (24 + 2 * b) = P (24 + 2 * b')) : srI P s0 (8 * k + (b + 1)) n C Pr F := by
  obtain ⟨pr, dp, h1, h2⟩ := h
  have h8 := hP.2.2.2.1
  obtain ⟨p, p1, p2, _⟩ := h1.2.2.2.2 k b' hk (by omega) (by omega)
  exact ⟨pr, dp, bT_old h1 p1 (p2.trans (nxN_k e.symm)) (by omega) h8, h2⟩
theorem srI_next {P : Nat → Nat} (hP : okP P) {s0 k n : Nat} {C : Nat → Nat} {Pr F : Nat → Int32} (h : srI P s0 (8 * k + P 3) n C Pr F) : srI P s0 (8 * (k + 1) + 0) n C Pr F := by
  obtain ⟨pr, dp, h1, h2⟩ := h
  exact ⟨pr, dp, bT_next h1 hP.2.2.2.1, h2⟩
theorem fkD_0 {L : Nat → Nat → Nat} {b : Nat} (hb : b < L 0 2) (h : (fkD (L 5) (L 0 2)).2 / 2 ^ b % 2 = 0) : ∃ b', b' < b ∧ plP L (24 + 2 * b) = plP L (24 + 2 * b') := by
  rw [tb_0, fkD_2] at h
  refine Classical.byContradiction fun y => h ⟨hb, fun j hj e => y ⟨j, hj, ?_⟩⟩
  rw [plP_k, plP_k, e]
theorem srI_0 {P : Nat → Nat} {x : Nat} {C B0 : Nat → Nat} {Pr F0 : Nat → Int32} (hx : x < 7776) (hs : x % 32 < 2 ^ P 2) (hB : ∀ z, z < 7776 → B0 z = 0) (hF : ∀ s, s < 32 → F0 s = -1) :
    srI P x (8 * 0 + 0) (ntN B0 x 0) (ntC B0 C x 0) (ntP B0 Pr x 0 (-1)) (ntF B0 F0 x 0) ∧ sbI (ntB B0 x) (ntC B0 C x 0) (ntN B0 x 0) ∧ 0 < ntN B0 x 0 := by
  have c := hB x hx
  rw [show ntN B0 x 0 = 0 + 1 from if_pos c, show ntC B0 C x 0 = va_up C 0 x from if_pos c, show ntP B0 Pr x 0 (-1) = upd Pr 0 (-1) from if_pos c, show ntB B0 x = va_up B0 x 1 from if_pos c, show ntF B0 F0 x 0 = _ from if_pos c]
  refine ⟨⟨fun _ => 0, fun _ => 0, ⟨⟨Nat.le_refl 1, va_up_s, rfl⟩, ?_, ?_, ?_, ?_⟩, by decide, if_pos rfl, ?_, ?_, srF_new (by decide) (fun s hs => Or.inl ⟨hF s hs, fun i hi => absurd hi (Nat.not_lt_zero _)⟩)⟩, sbI_new ⟨fun z hz => by rw [hB z hz]; decide, fun z hz => ⟨fun _ i hi => absurd hi (Nat.not_lt_zero _), fun _ => hB z hz⟩, by rw [Nat.zero_add]; exact cN_all 7776 (fun z hz => by show (if B0 z = 0 then (-1000000 : Int32) else 0) = _; rw [if_pos (hB z hz)])⟩ hx c, by decide⟩
  · intro p p0 p1; omega
  · intro p r p0 p1 p2; omega
  · intro p r p1 p2; omega
  · intro a b _ _ hc; omega
  · intro i hi hn; omega
  · intro i hi
    rw [show i = 0 by omega, va_up_s]; exact ⟨hx, hs⟩
set_option maxRecDepth 20000 in
theorem c_X2_spread (g : gG) (ea : Nat) (sa : Nat) (p0 : Nat) (es : Nat) (em : Nat) (en : Nat) (ec : Nat) (ep : Nat) (eb : Nat) (ef : Nat) (zeC : Nat → Nat) (zeP : Nat → Int32) (zeB : Nat → Nat) (zeF : Nat → Int32) (sb : Nat) (sc : Nat) (sd : Nat) (yD : Nat → Nat → Nat) (p1 : Nat) (p2 : Nat) (p3 : Nat) (p4 : Nat) (p5 : Nat) (p6 : Nat) (yL : Nat → Nat → Nat) (k : Nat) (s0 : Nat) (hP : okP (plP yL)) (hm : em = (fkD (yL 5) (yL 0 2)).2) (hk : k < en) (hS : srI (plP yL) s0 (8 * k + 0) en zeC zeP zeF) (hB : sbI zeB zeC en) (hD : ∀ j, j < 5 → yD 1 j ≤ 3) : gCon g mX2_spread 3 0 0 [.ref ea, .int (nI k)] [(ea, .inr (2, [.ref sa, .ref p0, .int (nI es), .int (nI em), .int (nI en), .int (nI (sfN zeF 32)), .ref ec, .ref ep, .ref eb, .ref ef])), (ec, .inl (g.2.1 0, 7776, .inl (nF zeC))), (ep, .inl (g.2.1 0, 7776, .inl zeP)), (eb, .inl (g.2.1 1, 7776, .inl (nF zeB))), (ef, .inl (g.2.1 0, 32, .inl zeF)), (sa, .inr (3, [.ref p0, .int (nI (yD 0 0)), .ref sb, .ref sc, .ref sd])), (sb, .inl (g.2.1 0, 5, .inl (nF (yD 1)))), (sc, .inl (g.2.1 0, 6, .inl (nF (yD 2)))), (sd, .inl (g.2.1 0, 6, .inl (nF (yD 3)))), (p0, .inr (0, [.int (nI (yL 0 0)), .int (nI (yL 0 1)), .int (nI (yL 0 2)), .ref p1, .ref p2, .ref p3, .ref p4, .ref p5, .ref p6])), (p1, .inl (g.2.1 0, 5, .inl (nF (yL 1)))), (p2, .inl (g.2.1 0, 5, .inl (nF (yL 2)))), (p3, .inl (g.2.1 0, 5, .inl (nF (yL 3)))), (p4, .inl (g.2.1 0, 5, .inl (nF (yL 4)))), (p5, .inl (g.2.1 0, 8, .inl (nF (yL 5)))), (p6, .inl (g.2.1 0, 8, .inl (nF (yL 6))))] (fun rv ws' => ∃ (zD : Nat → Nat → Nat) (zn : Nat) (zC : Nat → Nat) (zP : Nat → Int32) (zB : Nat → Nat) (zF : Nat → Int32), (srI (plP yL) s0 (8 * (k + 1) + 0) zn zC zP zF) ∧ (sbI zB zC zn) ∧ (∀ j, j < 5 → zD 1 j ≤ 3) ∧ (en ≤ zn) ∧ rv = none ∧ ws' = [(ea, .inr (2, [.ref sa, .ref p0, .int (nI es), .int (nI em), .int (nI zn), .int (nI (sfN zF 32)), .ref ec, .ref ep, .ref eb, .ref ef])), (ec, .inl (g.2.1 0, 7776, .inl (nF zC))), (ep, .inl (g.2.1 0, 7776, .inl zP)), (eb, .inl (g.2.1 1, 7776, .inl (nF zB))), (ef, .inl (g.2.1 0, 32, .inl zF)), (sa, .inr (3, [.ref p0, .int (nI (zD 0 0)), .ref sb, .ref sc, .ref sd])), (sb, .inl (g.2.1 0, 5, .inl (nF (zD 1)))), (sc, .inl (g.2.1 0, 6, .inl (nF (zD 2)))), (sd, .inl (g.2.1 0, 6, .inl (nF (zD 3)))), (p0, .inr (0, [.int (nI (yL 0 0)), .int (nI (yL 0 1)), .int (nI (yL 0 2)), .ref p1, .ref p2, .ref p3, .ref p4, .ref p5, .ref p6])), (p1, .inl (g.2.1 0, 5, .inl (nF (yL 1)))), (p2, .inl (g.2.1 0, 5, .inl (nF (yL 2)))), (p3, .inl (g.2.1 0, 5, .inl (nF (yL 3)))), (p4, .inl (g.2.1 0, 5, .inl (nF (yL 4)))), (p5, .inl (g.2.1 0, 8, .inl (nF (yL 5)))), (p6, .inl (g.2.1 0, 8, .inl (nF (yL 6))))]) := by
  refine gCon.of (lv := [(0, .ref ea), (1, .int (nI k))]) (by decide) (gLe rfl) rfl ?_
  have h8 : yL 0 2 ≤ 8 := hP.2.2.2.1
  have h2 : 1 ≤ yL 0 1 := hP.2.1
  have h25 : yL 0 1 ≤ 5 := hP.2.2.1
  have hem : em < 256 := by rw [hm]; exact (fkD_lt h8 (fun b hb => by have y := (okP_k hP hb).2; rw [plP_k] at y; omega) _ (Nat.le_refl _)).2
  have hen : en ≤ 7776 := by obtain ⟨_, _, _, y, _⟩ := hS; exact y
  refine j_iconst (v := (0 : Int32)) 1 dX2_spread_0 rfl (by decide) ?_
  refine j_istore_n 2 [(2, .int (0 : Int32)), (0, .ref ea), (1, .int (nI k))] dX2_spread_1 rfl (by decide) rfl ?_
  have hL2 : ∀ (zm2 : Nat) (zb : Nat) (zD : Nat → Nat → Nat) (zn : Nat) (zC : Nat → Nat) (zP : Nat → Int32) (zB : Nat → Nat) (zF : Nat → Int32), yL 0 2 - zb < zm2 → (zb ≤ yL 0 2) → (srI (plP yL) s0 (8 * k + zb) zn zC zP zF) → (sbI zB zC zn) → (∀ j, j < 5 → zD 1 j ≤ 3) → (k < zn) → (en ≤ zn) → (zn ≤ 7776) → gJ g mX2_spread 3 0 0 (fun k' j' rv ws' => k' ≤ 0 ∧ j' ≤ 0 ∧ (∃ (zD : Nat → Nat → Nat) (zn : Nat) (zC : Nat → Nat) (zP : Nat → Int32) (zB : Nat → Nat) (zF : Nat → Int32), (srI (plP yL) s0 (8 * (k + 1) + 0) zn zC zP zF) ∧ (sbI zB zC zn) ∧ (∀ j, j < 5 → zD 1 j ≤ 3) ∧ (en ≤ zn) ∧ rv = none ∧ ws' = [(ea, .inr (2, [.ref sa, .ref p0, .int (nI es), .int (nI em), .int (nI zn), .int (nI (sfN zF 32)), .ref ec, .ref ep, .ref eb, .ref ef])), (ec, .inl (g.2.1 0, 7776, .inl (nF zC))), (ep, .inl (g.2.1 0, 7776, .inl zP)), (eb, .inl (g.2.1 1, 7776, .inl (nF zB))), (ef, .inl (g.2.1 0, 32, .inl zF)), (sa, .inr (3, [.ref p0, .int (nI (zD 0 0)), .ref sb, .ref sc, .ref sd])), (sb, .inl (g.2.1 0, 5, .inl (nF (zD 1)))), (sc, .inl (g.2.1 0, 6, .inl (nF (zD 2)))), (sd, .inl (g.2.1 0, 6, .inl (nF (zD 3)))), (p0, .inr (0, [.int (nI (yL 0 0)), .int (nI (yL 0 1)), .int (nI (yL 0 2)), .ref p1, .ref p2, .ref p3, .ref p4, .ref p5, .ref p6])), (p1, .inl (g.2.1 0, 5, .inl (nF (yL 1)))), (p2, .inl (g.2.1 0, 5, .inl (nF (yL 2)))), (p3, .inl (g.2.1 0, 5, .inl (nF (yL 3)))), (p4, .inl (g.2.1 0, 5, .inl (nF (yL 4)))), (p5, .inl (g.2.1 0, 8, .inl (nF (yL 5)))), (p6, .inl (g.2.1 0, 8, .inl (nF (yL 6))))])) 0 0 2 [(2, .int (nI zb)), (0, .ref ea), (1, .int (nI k))] [] [(ea, .inr (2, [.ref sa, .ref p0, .int (nI es), .int (nI em), .int (nI zn), .int (nI (sfN zF 32)), .ref ec, .ref ep, .ref eb, .ref ef])), (ec, .inl (g.2.1 0, 7776, .inl (nF zC))), (ep, .inl (g.2.1 0, 7776, .inl zP)), (eb, .inl (g.2.1 1, 7776, .inl (nF zB))), (ef, .inl (g.2.1 0, 32, .inl zF)), (sa, .inr (3, [.ref p0, .int (nI (zD 0 0)), .ref sb, .ref sc, .ref sd])), (sb, .inl (g.2.1 0, 5, .inl (nF (zD 1)))), (sc, .inl (g.2.1 0, 6, .inl (nF (zD 2)))), (sd, .inl (g.2.1 0, 6, .inl (nF (zD 3)))), (p0, .inr (0, [.int (nI (yL 0 0)), .int (nI (yL 0 1)), .int (nI (yL 0 2)), .ref p1, .ref p2, .ref p3, .ref p4, .ref p5, .ref p6])), (p1, .inl (g.2.1 0, 5, .inl (nF (yL 1)))), (p2, .inl (g.2.1 0, 5, .inl (nF (yL 2)))), (p3, .inl (g.2.1 0, 5, .inl (nF (yL 3)))), (p4, .inl (g.2.1 0, 5, .inl (nF (yL 4)))), (p5, .inl (g.2.1 0, 8, .inl (nF (yL 5)))), (p6, .inl (g.2.1 0, 8, .inl (nF (yL 6))))] := by
    intro zm2
    induction zm2 with
    | zero => intro zb zD zn zC zP zB zF zmh; exact absurd zmh (Nat.not_lt_zero _)
    | succ zm2 zih2 =>
      intro zb zD zn zC zP zB zF zmh2 hzt hzi hzb hzd hzk hze hzn
      refine j_iload_n 3 dX2_spread_2 rfl 0 rfl ?_
      refine j_aload_n 4 dX2_spread_3 rfl 1 rfl ?_
      refine j_getf 7 0 dX2_spread_4 rfl fd_X2_9 rfl rfl ?_
      refine j_getf 10 9 dX2_spread_7 rfl fd_X2_85 rfl rfl ?_
      refine j_icmp_geN zb (yL 0 2) 13 73 dX2_spread_10 rfl rfl (by omega) (by have z0 := h8; omega) (fun h10 => ?_) (fun h10 => ?_)
      ·
        refine j_vret dX2_spread_73 rfl ⟨gLe rfl, gLe rfl, ?_⟩
        have ye : zb = yL 0 2 := by omega
        rw [ye] at hzi
        exact ⟨zD, zn, zC, zP, zB, zF, srI_next hP hzi, hzb, hzd, hze, rfl, rfl⟩
      ·
        refine j_aload_n 14 dX2_spread_13 rfl 1 rfl ?_
        refine j_getf 17 0 dX2_spread_14 rfl fd_X2_19 rfl rfl ?_
        refine j_iload_n 18 dX2_spread_17 rfl 0 rfl ?_
        refine j_ishrN em zb 19 dX2_spread_18 rfl (by omega) (by omega) ?_
        refine j_iconst (v := (1 : Int32)) 20 dX2_spread_19 rfl (by decide) ?_
        refine j_iandN (em / 2 ^ zb) 1 21 dX2_spread_20 rfl ?_
        refine j_topN ((em / 2 ^ zb) &&& 1) (em / 2 ^ zb % 2) (Nat.and_one_is_mod _) ?_
        refine j_if_neN (em / 2 ^ zb % 2) 24 27 dX2_spread_21 rfl rfl (by have z0 := (Nat.mod_lt (em / 2 ^ zb) (by decide : 0 < 2)); omega) (fun h21 => ?_) (fun h21 => ?_)
        ·
          refine j_aload_n 28 dX2_spread_27 rfl 1 rfl ?_
          refine j_getf 31 0 dX2_spread_28 rfl fd_X2_48 rfl rfl ?_
          refine j_aload_n 32 dX2_spread_31 rfl 1 rfl ?_
          refine j_getf 35 0 dX2_spread_32 rfl fd_X2_28 rfl rfl ?_
          refine j_iload_n 36 dX2_spread_35 rfl 2 rfl ?_
          obtain ⟨zpr, zdp, ya1, ya2, ya3, ya4, ya5, ya6⟩ := id hzi
          have hck := ya5 k hzk
          refine j_ialdN k 37 1 dX2_spread_36 rfl rfl (by omega) (by decide) ?_
          refine j_callV0 (rest := []) 40 [5, 6, 7, 8, 9, 10, 11, 12, 13, 14, 15] (c_X3_standAs g sa p0 sb sc sd zD p1 p2 p3 p4 p5 p6 yL (zC k) hck.1 h25) [] [(ea, .inr (2, [.ref sa, .ref p0, .int (nI es), .int (nI em), .int (nI zn), .int (nI (sfN zF 32)), .ref ec, .ref ep, .ref eb, .ref ef])), (ec, .inl (g.2.1 0, 7776, .inl (nF zC))), (ep, .inl (g.2.1 0, 7776, .inl zP)), (eb, .inl (g.2.1 1, 7776, .inl (nF zB))), (ef, .inl (g.2.1 0, 32, .inl zF)), (sa, .inr (3, [.ref p0, .int (nI ((putD zD ((zC k) % 32) (stU (yL 0 1) (zC k) (zD 1))) 0 0)), .ref sb, .ref sc, .ref sd])), (sb, .inl (g.2.1 0, 5, .inl (nF ((putD zD ((zC k) % 32) (stU (yL 0 1) (zC k) (zD 1))) 1)))), (sc, .inl (g.2.1 0, 6, .inl (nF ((putD zD ((zC k) % 32) (stU (yL 0 1) (zC k) (zD 1))) 2)))), (sd, .inl (g.2.1 0, 6, .inl (nF ((putD zD ((zC k) % 32) (stU (yL 0 1) (zC k) (zD 1))) 3)))), (p0, .inr (0, [.int (nI (yL 0 0)), .int (nI (yL 0 1)), .int (nI (yL 0 2)), .ref p1, .ref p2, .ref p3, .ref p4, .ref p5, .ref p6])), (p1, .inl (g.2.1 0, 5, .inl (nF (yL 1)))), (p2, .inl (g.2.1 0, 5, .inl (nF (yL 2)))), (p3, .inl (g.2.1 0, 5, .inl (nF (yL 3)))), (p4, .inl (g.2.1 0, 5, .inl (nF (yL 4)))), (p5, .inl (g.2.1 0, 8, .inl (nF (yL 5)))), (p6, .inl (g.2.1 0, 8, .inl (nF (yL 6))))] dX2_spread_37 rfl cv_X2_88 rfl rfl rfl rfl 0 rfl rfl (gLe rfl) (gLe rfl) (gLe rfl) (gLe rfl) (gLe rfl) rfl rfl ?_
          refine j_aload_n 41 dX2_spread_40 rfl 1 rfl ?_
          refine j_getf 44 0 dX2_spread_41 rfl fd_X2_48 rfl rfl ?_
          refine j_iload_n 45 dX2_spread_44 rfl 0 rfl ?_
          refine j_iconst (v := (-1 : Int32)) 46 dX2_spread_45 rfl (by decide) ?_
          refine j_callV0 (rest := []) 49 [5, 6, 7, 8, 9, 10, 11, 12, 13, 14, 15] (c_X3_send g sa p0 sb sc sd (putD zD ((zC k) % 32) (stU (yL 0 1) (zC k) (zD 1))) p1 p2 p3 p4 p5 p6 yL zb (-1 : Int32) 99 hP rfl (by omega) hck.2 (fun j hj => by show (if j < yL 0 1 then zC k / 32 / 3 ^ j % 3 else zD 1 j) < _; have y := hzd j hj; split <;> omega)) [.int (nI ((gOA (plP yL) 99 zb ((putD zD ((zC k) % 32) (stU (yL 0 1) (zC k) (zD 1))) 0 0) ((putD zD ((zC k) % 32) (stU (yL 0 1) (zC k) (zD 1))) 1)).1))] [(ea, .inr (2, [.ref sa, .ref p0, .int (nI es), .int (nI em), .int (nI zn), .int (nI (sfN zF 32)), .ref ec, .ref ep, .ref eb, .ref ef])), (ec, .inl (g.2.1 0, 7776, .inl (nF zC))), (ep, .inl (g.2.1 0, 7776, .inl zP)), (eb, .inl (g.2.1 1, 7776, .inl (nF zB))), (ef, .inl (g.2.1 0, 32, .inl zF)), (sa, .inr (3, [.ref p0, .int (nI ((putD (putD zD ((zC k) % 32) (stU (yL 0 1) (zC k) (zD 1))) (gOA (plP yL) 99 zb ((putD zD ((zC k) % 32) (stU (yL 0 1) (zC k) (zD 1))) 0 0) ((putD zD ((zC k) % 32) (stU (yL 0 1) (zC k) (zD 1))) 1)).2.1 (gOA (plP yL) 99 zb ((putD zD ((zC k) % 32) (stU (yL 0 1) (zC k) (zD 1))) 0 0) ((putD zD ((zC k) % 32) (stU (yL 0 1) (zC k) (zD 1))) 1)).2.2) 0 0)), .ref sb, .ref sc, .ref sd])), (sb, .inl (g.2.1 0, 5, .inl (nF ((putD (putD zD ((zC k) % 32) (stU (yL 0 1) (zC k) (zD 1))) (gOA (plP yL) 99 zb ((putD zD ((zC k) % 32) (stU (yL 0 1) (zC k) (zD 1))) 0 0) ((putD zD ((zC k) % 32) (stU (yL 0 1) (zC k) (zD 1))) 1)).2.1 (gOA (plP yL) 99 zb ((putD zD ((zC k) % 32) (stU (yL 0 1) (zC k) (zD 1))) 0 0) ((putD zD ((zC k) % 32) (stU (yL 0 1) (zC k) (zD 1))) 1)).2.2) 1)))), (sc, .inl (g.2.1 0, 6, .inl (nF ((putD (putD zD ((zC k) % 32) (stU (yL 0 1) (zC k) (zD 1))) (gOA (plP yL) 99 zb ((putD zD ((zC k) % 32) (stU (yL 0 1) (zC k) (zD 1))) 0 0) ((putD zD ((zC k) % 32) (stU (yL 0 1) (zC k) (zD 1))) 1)).2.1 (gOA (plP yL) 99 zb ((putD zD ((zC k) % 32) (stU (yL 0 1) (zC k) (zD 1))) 0 0) ((putD zD ((zC k) % 32) (stU (yL 0 1) (zC k) (zD 1))) 1)).2.2) 2)))), (sd, .inl (g.2.1 0, 6, .inl (nF ((putD (putD zD ((zC k) % 32) (stU (yL 0 1) (zC k) (zD 1))) (gOA (plP yL) 99 zb ((putD zD ((zC k) % 32) (stU (yL 0 1) (zC k) (zD 1))) 0 0) ((putD zD ((zC k) % 32) (stU (yL 0 1) (zC k) (zD 1))) 1)).2.1 (gOA (plP yL) 99 zb ((putD zD ((zC k) % 32) (stU (yL 0 1) (zC k) (zD 1))) 0 0) ((putD zD ((zC k) % 32) (stU (yL 0 1) (zC k) (zD 1))) 1)).2.2) 3)))), (p0, .inr (0, [.int (nI (yL 0 0)), .int (nI (yL 0 1)), .int (nI (yL 0 2)), .ref p1, .ref p2, .ref p3, .ref p4, .ref p5, .ref p6])), (p1, .inl (g.2.1 0, 5, .inl (nF (yL 1)))), (p2, .inl (g.2.1 0, 5, .inl (nF (yL 2)))), (p3, .inl (g.2.1 0, 5, .inl (nF (yL 3)))), (p4, .inl (g.2.1 0, 5, .inl (nF (yL 4)))), (p5, .inl (g.2.1 0, 8, .inl (nF (yL 5)))), (p6, .inl (g.2.1 0, 8, .inl (nF (yL 6))))] dX2_spread_46 rfl cv_X2_91 rfl rfl rfl rfl 0 rfl rfl (gLe rfl) (gLe rfl) (gLe rfl) (gLe rfl) (gLe rfl) rfl rfl ?_
          refine j_ws [(ea, .inr (2, [.ref sa, .ref p0, .int (nI es), .int (nI em), .int (nI zn), .int (nI (sfN zF 32)), .ref ec, .ref ep, .ref eb, .ref ef])), (ec, .inl (g.2.1 0, 7776, .inl (nF zC))), (ep, .inl (g.2.1 0, 7776, .inl zP)), (eb, .inl (g.2.1 1, 7776, .inl (nF zB))), (ef, .inl (g.2.1 0, 32, .inl zF)), (sa, .inr (3, [.ref p0, .int (nI ((putD zD (gOA (plP yL) 99 zb (zC k % 32) (stU (yL 0 1) (zC k) (zD 1))).2.1 (gOA (plP yL) 99 zb (zC k % 32) (stU (yL 0 1) (zC k) (zD 1))).2.2) 0 0)), .ref sb, .ref sc, .ref sd])), (sb, .inl (g.2.1 0, 5, .inl (nF ((putD zD (gOA (plP yL) 99 zb (zC k % 32) (stU (yL 0 1) (zC k) (zD 1))).2.1 (gOA (plP yL) 99 zb (zC k % 32) (stU (yL 0 1) (zC k) (zD 1))).2.2) 1)))), (sc, .inl (g.2.1 0, 6, .inl (nF ((putD zD (gOA (plP yL) 99 zb (zC k % 32) (stU (yL 0 1) (zC k) (zD 1))).2.1 (gOA (plP yL) 99 zb (zC k % 32) (stU (yL 0 1) (zC k) (zD 1))).2.2) 2)))), (sd, .inl (g.2.1 0, 6, .inl (nF ((putD zD (gOA (plP yL) 99 zb (zC k % 32) (stU (yL 0 1) (zC k) (zD 1))).2.1 (gOA (plP yL) 99 zb (zC k % 32) (stU (yL 0 1) (zC k) (zD 1))).2.2) 3)))), (p0, .inr (0, [.int (nI (yL 0 0)), .int (nI (yL 0 1)), .int (nI (yL 0 2)), .ref p1, .ref p2, .ref p3, .ref p4, .ref p5, .ref p6])), (p1, .inl (g.2.1 0, 5, .inl (nF (yL 1)))), (p2, .inl (g.2.1 0, 5, .inl (nF (yL 2)))), (p3, .inl (g.2.1 0, 5, .inl (nF (yL 3)))), (p4, .inl (g.2.1 0, 5, .inl (nF (yL 4)))), (p5, .inl (g.2.1 0, 8, .inl (nF (yL 5)))), (p6, .inl (g.2.1 0, 8, .inl (nF (yL 6))))] rfl ?_
          refine j_pop 50 dX2_spread_49 rfl rfl ?_
          have hzd2 : ∀ j, j < 5 → (gOA (plP yL) 99 zb (zC k % 32) (stU (yL 0 1) (zC k) (zD 1))).2.2 j ≤ 3 := by
            intro j hj
            have y1 := goA_pu hP (sk := 99) (kd := plP yL (24 + 2 * zb)) 5 (yL 0 1 - 1) (zC k % 32) (stU (yL 0 1) (zC k) (zD 1)) (by show yL 0 1 - 1 < yL 0 1; omega) j
            have y2 := hzd j hj
            by_cases y3 : j < yL 0 1
            · have y4 : stU (yL 0 1) (zC k) (zD 1) j ≤ 2 := by rw [stU, if_pos y3]; omega
              have y5 := y1.1
              show (goA _ _ _ _ _ _ _).2.2 j ≤ 3
              exact Nat.le_trans y5 (by omega)
            · have y4 : stU (yL 0 1) (zC k) (zD 1) j ≤ 3 := by rw [stU, if_neg y3]; exact y2
              have y5 := y1.2 (by omega)
              show (goA _ _ _ _ _ _ _).2.2 j ≤ 3
              exact Nat.le_trans (Nat.le_of_eq y5) y4
          refine j_aload_n 51 dX2_spread_50 rfl 1 rfl ?_
          refine j_aload_n 52 dX2_spread_51 rfl 1 rfl ?_
          refine j_getf 55 0 dX2_spread_52 rfl fd_X2_48 rfl rfl ?_
          refine j_callV0 (rest := [.ref ea]) 58 [5, 6, 7, 8, 9, 10, 11, 12, 13, 14, 15] (c_X3_code g sa p0 sb sc sd (putD zD (gOA (plP yL) 99 zb (zC k % 32) (stU (yL 0 1) (zC k) (zD 1))).2.1 (gOA (plP yL) 99 zb (zC k % 32) (stU (yL 0 1) (zC k) (zD 1))).2.2) p1 p2 p3 p4 p5 p6 yL hP (fun j hj => by show (gOA (plP yL) 99 zb (zC k % 32) (stU (yL 0 1) (zC k) (zD 1))).2.2 j < _; have y := hzd2 j hj; omega)) [.int (nI (numA (plP yL) ((putD zD (gOA (plP yL) 99 zb (zC k % 32) (stU (yL 0 1) (zC k) (zD 1))).2.1 (gOA (plP yL) 99 zb (zC k % 32) (stU (yL 0 1) (zC k) (zD 1))).2.2) 0 0) ((putD zD (gOA (plP yL) 99 zb (zC k % 32) (stU (yL 0 1) (zC k) (zD 1))).2.1 (gOA (plP yL) 99 zb (zC k % 32) (stU (yL 0 1) (zC k) (zD 1))).2.2) 1))), .ref ea] [(ea, .inr (2, [.ref sa, .ref p0, .int (nI es), .int (nI em), .int (nI zn), .int (nI (sfN zF 32)), .ref ec, .ref ep, .ref eb, .ref ef])), (ec, .inl (g.2.1 0, 7776, .inl (nF zC))), (ep, .inl (g.2.1 0, 7776, .inl zP)), (eb, .inl (g.2.1 1, 7776, .inl (nF zB))), (ef, .inl (g.2.1 0, 32, .inl zF)), (sa, .inr (3, [.ref p0, .int (nI ((putD zD (gOA (plP yL) 99 zb (zC k % 32) (stU (yL 0 1) (zC k) (zD 1))).2.1 (gOA (plP yL) 99 zb (zC k % 32) (stU (yL 0 1) (zC k) (zD 1))).2.2) 0 0)), .ref sb, .ref sc, .ref sd])), (sb, .inl (g.2.1 0, 5, .inl (nF ((putD zD (gOA (plP yL) 99 zb (zC k % 32) (stU (yL 0 1) (zC k) (zD 1))).2.1 (gOA (plP yL) 99 zb (zC k % 32) (stU (yL 0 1) (zC k) (zD 1))).2.2) 1)))), (sc, .inl (g.2.1 0, 6, .inl (nF ((putD zD (gOA (plP yL) 99 zb (zC k % 32) (stU (yL 0 1) (zC k) (zD 1))).2.1 (gOA (plP yL) 99 zb (zC k % 32) (stU (yL 0 1) (zC k) (zD 1))).2.2) 2)))), (sd, .inl (g.2.1 0, 6, .inl (nF ((putD zD (gOA (plP yL) 99 zb (zC k % 32) (stU (yL 0 1) (zC k) (zD 1))).2.1 (gOA (plP yL) 99 zb (zC k % 32) (stU (yL 0 1) (zC k) (zD 1))).2.2) 3)))), (p0, .inr (0, [.int (nI (yL 0 0)), .int (nI (yL 0 1)), .int (nI (yL 0 2)), .ref p1, .ref p2, .ref p3, .ref p4, .ref p5, .ref p6])), (p1, .inl (g.2.1 0, 5, .inl (nF (yL 1)))), (p2, .inl (g.2.1 0, 5, .inl (nF (yL 2)))), (p3, .inl (g.2.1 0, 5, .inl (nF (yL 3)))), (p4, .inl (g.2.1 0, 5, .inl (nF (yL 4)))), (p5, .inl (g.2.1 0, 8, .inl (nF (yL 5)))), (p6, .inl (g.2.1 0, 8, .inl (nF (yL 6))))] dX2_spread_55 rfl cv_X2_52 rfl rfl rfl rfl 0 rfl rfl (gLe rfl) (gLe rfl) (gLe rfl) (gLe rfl) (gLe rfl) rfl rfl ?_
          refine j_topN (numA (plP yL) ((putD zD (gOA (plP yL) 99 zb (zC k % 32) (stU (yL 0 1) (zC k) (zD 1))).2.1 (gOA (plP yL) 99 zb (zC k % 32) (stU (yL 0 1) (zC k) (zD 1))).2.2) 0 0) ((putD zD (gOA (plP yL) 99 zb (zC k % 32) (stU (yL 0 1) (zC k) (zD 1))).2.1 (gOA (plP yL) 99 zb (zC k % 32) (stU (yL 0 1) (zC k) (zD 1))).2.2) 1)) (nxN (plP yL) (zC k) zb) (nxN_st hP (c := zC k) (b := zb) (u := zD 1)) ?_
          have hx7 := nxN_ok hP (n := zC k) (b := zb) hck.2
          have hnt := srI_note hP hzi hzb hzk (by show zb < yL 0 2; omega) (x := nxN (plP yL) (zC k) zb) rfl
          have hnt7 : ntN zB (nxN (plP yL) (zC k) zb) zn ≤ 7776 := by obtain ⟨_, _, _, y, _⟩ := hnt.1; exact y
          refine j_iload_n 59 dX2_spread_58 rfl 2 rfl ?_
          refine j_bipush (v := (8 : Int32)) 61 dX2_spread_59 rfl (by decide) ?_
          refine j_imulN k 8 62 dX2_spread_61 rfl ?_
          refine j_iload_n 63 dX2_spread_62 rfl 0 rfl ?_
          refine j_iaddN (k * 8) zb 64 dX2_spread_63 rfl ?_
          refine j_callV0 (rest := []) 67 [0, 1, 2, 3, 4] (c_X2_note g ea sa p0 es em zn ec ep eb ef zC zP zB zF (nxN (plP yL) (zC k) zb) (nI ((k * 8) + zb)) hx7.1 (hzb.1 _ hx7.1) (fun y => sbI_room hzb hx7.1 y) hzn) [] [(ea, .inr (2, [.ref sa, va_rf p0, .int (nI es), .int (nI em), .int (nI (ntN zB (nxN (plP yL) (zC k) zb) zn)), .int (nI (sfN (ntF zB zF (nxN (plP yL) (zC k) zb) zn) 32)), .ref ec, .ref ep, .ref eb, .ref ef])), (ec, .inl (g.2.1 0, 7776, .inl (nF (ntC zB zC (nxN (plP yL) (zC k) zb) zn)))), (ep, .inl (g.2.1 0, 7776, .inl (ntP zB zP (nxN (plP yL) (zC k) zb) zn (nI ((k * 8) + zb))))), (eb, .inl (g.2.1 1, 7776, .inl (nF (ntB zB (nxN (plP yL) (zC k) zb))))), (ef, .inl (g.2.1 0, 32, .inl (ntF zB zF (nxN (plP yL) (zC k) zb) zn))), (sa, .inr (3, [.ref p0, .int (nI ((putD zD (gOA (plP yL) 99 zb (zC k % 32) (stU (yL 0 1) (zC k) (zD 1))).2.1 (gOA (plP yL) 99 zb (zC k % 32) (stU (yL 0 1) (zC k) (zD 1))).2.2) 0 0)), .ref sb, .ref sc, .ref sd])), (sb, .inl (g.2.1 0, 5, .inl (nF ((putD zD (gOA (plP yL) 99 zb (zC k % 32) (stU (yL 0 1) (zC k) (zD 1))).2.1 (gOA (plP yL) 99 zb (zC k % 32) (stU (yL 0 1) (zC k) (zD 1))).2.2) 1)))), (sc, .inl (g.2.1 0, 6, .inl (nF ((putD zD (gOA (plP yL) 99 zb (zC k % 32) (stU (yL 0 1) (zC k) (zD 1))).2.1 (gOA (plP yL) 99 zb (zC k % 32) (stU (yL 0 1) (zC k) (zD 1))).2.2) 2)))), (sd, .inl (g.2.1 0, 6, .inl (nF ((putD zD (gOA (plP yL) 99 zb (zC k % 32) (stU (yL 0 1) (zC k) (zD 1))).2.1 (gOA (plP yL) 99 zb (zC k % 32) (stU (yL 0 1) (zC k) (zD 1))).2.2) 3)))), (p0, .inr (0, [.int (nI (yL 0 0)), .int (nI (yL 0 1)), .int (nI (yL 0 2)), .ref p1, .ref p2, .ref p3, .ref p4, .ref p5, .ref p6])), (p1, .inl (g.2.1 0, 5, .inl (nF (yL 1)))), (p2, .inl (g.2.1 0, 5, .inl (nF (yL 2)))), (p3, .inl (g.2.1 0, 5, .inl (nF (yL 3)))), (p4, .inl (g.2.1 0, 5, .inl (nF (yL 4)))), (p5, .inl (g.2.1 0, 8, .inl (nF (yL 5)))), (p6, .inl (g.2.1 0, 8, .inl (nF (yL 6))))] dX2_spread_64 rfl cv_X2_74 rfl rfl rfl rfl 0 rfl rfl (gLe rfl) (gLe rfl) (gLe rfl) (gLe rfl) (gLe rfl) rfl rfl ?_
          refine j_iincN zb 1 70 [(2, .int (nI (zb + 1))), (0, .ref ea), (1, .int (nI k))] dX2_spread_67 rfl 0 rfl (by decide) rfl ?_
          refine j_goto 2 dX2_spread_70 rfl ?_
          refine j_lv [0, 1, 2] rfl ?_
          exact zih2 (zb + 1) (putD zD (gOA (plP yL) 99 zb (zC k % 32) (stU (yL 0 1) (zC k) (zD 1))).2.1 (gOA (plP yL) 99 zb (zC k % 32) (stU (yL 0 1) (zC k) (zD 1))).2.2) (ntN zB (nxN (plP yL) (zC k) zb) zn) (ntC zB zC (nxN (plP yL) (zC k) zb) zn) (ntP zB zP (nxN (plP yL) (zC k) zb) zn (nI (k * 8 + zb))) (ntB zB (nxN (plP yL) (zC k) zb)) (ntF zB zF (nxN (plP yL) (zC k) zb) zn) (by omega) (by omega) hnt.1 hnt.2.1 hzd2 (by have y := hnt.2.2.1; omega) (by have y := hnt.2.2.1; omega) hnt7
        ·
          obtain ⟨zb1, hzy1, hzy2⟩ := fkD_0 (L := yL) (b := zb) (by omega) (by rw [← hm]; exact h21)
          refine j_goto 67 dX2_spread_24 rfl ?_
          refine j_iincN zb 1 70 [(2, .int (nI (zb + 1))), (0, .ref ea), (1, .int (nI k))] dX2_spread_67 rfl 0 rfl (by decide) rfl ?_
          refine j_goto 2 dX2_spread_70 rfl ?_
          refine j_lv [0, 1, 2] rfl ?_
          exact zih2 (zb + 1) zD zn zC zP zB zF (by omega) (by omega) (srI_skip hP hzi hzk (by show zb < yL 0 2; omega) hzy1 hzy2) hzb hzd hzk hze hzn
  refine j_lv [0, 1, 2] rfl ?_
  exact hL2 _ 0 yD en zeC zeP zeB zeF (Nat.lt_succ_self _) (Nat.zero_le _) hS hB hD hk (Nat.le_refl _) hen
