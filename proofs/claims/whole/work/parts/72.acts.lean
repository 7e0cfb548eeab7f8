theorem goR_L {L D : Nat → Nat → Nat} {R : Nat → Nat} (hl : plOK L R) (hP : okP R) (hs : stOK D (fun k => R (40 + k))) {sk b : Nat} (hb : b < R 3) : gOA (plP L) sk b (D 0 0) (D 1) = goR R sk b := by
  rw [gOA_L hl hP hb, stOK_u hs, show D 0 0 = R 40 from hs.1]
  rfl
theorem stOK_of {D : Nat → Nat → Nat} {m : Nat → Nat} (h0 : D 0 0 = m 0) (hZ : Z5 (D 1)) (h1 : ∀ h, h < 5 → D 1 h = m (1 + h)) (h2 : ∀ p, p < 6 → D 2 p = m (6 + p) ∧ D 3 p = m (12 + p)) : stOK D m := by
  refine ⟨h0, ?_, h2⟩
  funext x
  by_cases c : x < 5
  · rw [if_pos c]; exact h1 x c
  · rw [if_neg c]; exact hZ x (by omega)
theorem now_run {L D : Nat → Nat → Nat} {R : Nat → Nat} (hl : plOK L R) (hP : okP R) (hm : R 40 < 2 ^ R 2) (hs : stOK D (fun k => R (40 + k))) {b : Nat} (hb : b < R 3) : stOK (adD (sndD (plP L) 99 b D) (gOA (plP L) 99 b (D 0 0) (D 1)).1 (L 6 b)) (fun k => runR R b (40 + k)) := by
  have e := goR_L hl hP hs (sk := 99) hb
  have hg := goR_1 hP hm 99 b
  have h6 := hP.1
  unfold sndD
  rw [e]
  refine stOK_of ?_ ?_ ?_ ?_
  · show (goR R 99 b).2.1 = runR R b 40
    exact runR_40.symm
  · exact hg.2.2.1
  · intro h hh
    show (goR R 99 b).2.2 h = runR R b (40 + (1 + h))
    rw [show 40 + (1 + h) = 41 + h by omega]
    exact (runR_pu hh).symm
  · intro p hp
    have e2 := hs.2.2 p hp
    refine ⟨?_, ?_⟩
    · show va_up (D 2) (goR R 99 b).1 (D 2 (goR R 99 b).1 + 1) p = runR R b (40 + (6 + p))
      rw [show 40 + (6 + p) = 46 + p by omega, runR_ct hp]
      by_cases c : p = (goR R 99 b).1
      · rw [if_pos c, ← c, va_up_s, e2.1]
        show R (40 + (6 + p)) + 1 = _
        rw [show 40 + (6 + p) = 46 + p by omega]
      · rw [if_neg c, va_up_n c, e2.1]
        show R (40 + (6 + p)) = _
        rw [show 40 + (6 + p) = 46 + p by omega]
    · show va_up (D 3) (goR R 99 b).1 (D 3 (goR R 99 b).1 + L 6 b) p = runR R b (40 + (12 + p))
      rw [show 40 + (12 + p) = 52 + p by omega, runR_hv hp (by omega), (hl.2.2.2.2 b hb).2]
      by_cases c : p = (goR R 99 b).1
      · rw [if_pos c, ← c, va_up_s, e2.2]
        show R (40 + (12 + p)) + _ = _
        rw [show 40 + (12 + p) = 52 + p by omega]
      · rw [if_neg c, va_up_n c, e2.2]
        show R (40 + (12 + p)) = _
        rw [show 40 + (12 + p) = 52 + p by omega]
theorem act_keep {g : gG} {u : Nat → Nat} {S S' : RS} {xi s0 : Nat} {A4 : Nat → va_W} {D0 yA : Nat → Nat → Nat} (hC : actR g u S xi A4 s0) (hn : S.2.2.1 2 ≤ 24) (hy : Z5 (yA 1)) (hs : stOK D0 (fun k => S.1 0 (40 + k))) (e1 : S'.1 1 = kpP (S.1 1) (S.1 0) (S.2.2.1 2)) (e2 : S'.2.2.1 2 = kpN (S.2.2.1 2)) : actR g u S' ((xi + 1) % 24) (va_up A4 xi (acW g u xi s0 (tkD yA D0))) s0 := by
  obtain ⟨h1, h2, h3⟩ := hC
  refine ⟨Nat.mod_lt _ (by decide), ?_, ?_⟩
  · intro k hk
    by_cases c : k = xi
    · subst c; rw [va_up_s]; exact ⟨s0, _, rfl, tkD_Z hy (stOK_Z hs)⟩
    · rw [va_up_n c]; exact h2 k hk
  · rw [e2, e1]
    intro j hj
    have old : ∀ i, i < S.2.2.1 2 → (xi + 24 - S.2.2.1 2 + i) % 24 ≠ xi → ∃ D : Nat → Nat → Nat, va_up A4 xi (acW g u xi s0 (tkD yA D0)) ((xi + 24 - S.2.2.1 2 + i) % 24) = acW g u ((xi + 24 - S.2.2.1 2 + i) % 24) s0 D ∧ stOK D (fun k => S.1 1 (18 * i + k)) := by
      intro i hi hne
      rw [va_up_n hne]
      exact h3 i hi
    have new : ∃ D : Nat → Nat → Nat, va_up A4 xi (acW g u xi s0 (tkD yA D0)) xi = acW g u xi s0 D ∧ stOK D (fun k => S.1 0 (40 + k)) := ⟨_, va_up_s, tkD_ok hy hs⟩
    by_cases c : S.2.2.1 2 = 24
    · have hkn : kpN (S.2.2.1 2) = 24 := if_pos c
      rw [hkn] at hj ⊢
      by_cases c2 : j = 23
      · subst c2
        rw [show ((xi + 1) % 24 + 24 - 24 + 23) % 24 = xi by omega]
        obtain ⟨D, d1, d2⟩ := new
        refine ⟨D, d1, stOK_ext (fun k hk => ?_) d2⟩
        show kpP (S.1 1) (S.1 0) (S.2.2.1 2) (18 * 23 + k) = _
        rw [kpP, if_pos c, cpy_in (by omega) (by omega)]
        exact congrArg (S.1 0) (by omega)
      · have o := old (j + 1) (by omega) (by omega)
        rw [show (xi + 24 - S.2.2.1 2 + (j + 1)) % 24 = ((xi + 1) % 24 + 24 - 24 + j) % 24 by omega] at o
        obtain ⟨D, d1, d2⟩ := o
        refine ⟨D, d1, stOK_ext (fun k hk => ?_) d2⟩
        show kpP (S.1 1) (S.1 0) (S.2.2.1 2) (18 * j + k) = _
        rw [kpP, if_pos c, cpy_out (by omega), cpy_in (by omega) (by omega)]
        exact congrArg (S.1 1) (by omega)
    · have hkn : kpN (S.2.2.1 2) = S.2.2.1 2 + 1 := if_neg c
      rw [hkn] at hj ⊢
      by_cases c2 : j = S.2.2.1 2
      · subst c2
        rw [show ((xi + 1) % 24 + 24 - (S.2.2.1 2 + 1) + S.2.2.1 2) % 24 = xi by omega]
        obtain ⟨D, d1, d2⟩ := new
        refine ⟨D, d1, stOK_ext (fun k hk => ?_) d2⟩
        show kpP (S.1 1) (S.1 0) (S.2.2.1 2) (18 * S.2.2.1 2 + k) = _
        rw [kpP, if_neg c, cpy_in (by omega) (by omega)]
        exact congrArg (S.1 0) (by omega)
      · have o := old j (by omega) (by omega)
        rw [show (xi + 24 - S.2.2.1 2 + j) % 24 = ((xi + 1) % 24 + 24 - (S.2.2.1 2 + 1) + j) % 24 by omega] at o
        obtain ⟨D, d1, d2⟩ := o
        refine ⟨D, d1, stOK_ext (fun k hk => ?_) d2⟩
        show kpP (S.1 1) (S.1 0) (S.2.2.1 2) (18 * j + k) = _
        rw [kpP, if_neg c, cpy_out (by omega)]
theorem bgD_ok {D : Nat → Nat → Nat} {s : Nat} {m : Nat → Nat} (hZ : Z5 (D 1)) (h0 : m 0 = s) (hm : ∀ k, 1 ≤ k → k < 18 → m k = 0) : stOK (bgD D s) m := by
  refine stOK_of (by rw [h0]; rfl) (by rw [bgD_1 hZ]; exact fun _ _ => rfl) (fun h hh => by rw [bgD_1 hZ, hm _ (by omega) (by omega)]) (fun p hp => ?_)
  rw [hm _ (by omega) (by omega), hm _ (by omega) (by omega)]
  refine ⟨?_, ?_⟩
  · show va_cpy (fun _ => 0) (D 2) 0 0 6 p = 0
    rw [cpy_in (Nat.zero_le _) (by omega)]
  · show va_cpy (fun _ => 0) (D 3) 0 0 6 p = 0
    rw [cpy_in (Nat.zero_le _) (by omega)]
theorem dawn_ok {R D : Nat → Nat → Nat} {Q : Nat → Nat} {s : Nat} (hZ : Z5 (D 1)) : stOK (bgD D s) (fun k => dawnR Q s (40 + k)) := by
  refine bgD_ok hZ va_up_s (fun k h1 h2 => ?_)
  show dawnR Q s (40 + k) = 0
  rw [dawnR, va_up_n (by omega), cpy_in (by omega) (by omega)]
theorem dawnR_lo {Q : Nat → Nat} {s k : Nat} (hk : k < 40) : dawnR Q s k = Q k := by rw [dawnR, va_up_n (by omega), cpy_out (by omega)]
theorem dawnR_hi {Q : Nat → Nat} {s k : Nat} (hk : 58 ≤ k) : dawnR Q s k = Q k := by rw [dawnR, va_up_n (by omega), cpy_out (by omega)]
theorem actR_0 {g : gG} {u : Nat → Nat} {S S' : RS} {xi s0 s1 : Nat} {A4 : Nat → va_W} (hC : actR g u S xi A4 s0) (e : S'.2.2.1 2 = 0) : actR g u S' xi A4 s1 := ⟨hC.1, hC.2.1, fun j hj => by rw [e] at hj; omega⟩
theorem act_undo {g : gG} {u : Nat → Nat} {S S' : RS} {xi s0 : Nat} {A4 : Nat → va_W} (hC : actR g u S xi A4 s0) (hn : S.2.2.1 2 ≤ 24) (h0 : ¬ S.2.2.1 2 = 0) (e1 : S'.1 1 = S.1 1) (e2 : S'.2.2.1 2 = S.2.2.1 2 - 1) : actR g u S' ((xi + 24 - 1) % 24) A4 s0 := by
  obtain ⟨h1, h2, h3⟩ := hC
  refine ⟨Nat.mod_lt _ (by decide), h2, ?_⟩
  rw [e1, e2]
  intro j hj
  have o := h3 j (by omega)
  rwa [show (xi + 24 - S.2.2.1 2 + j) % 24 = ((xi + 24 - 1) % 24 + 24 - (S.2.2.1 2 - 1) + j) % 24 by omega] at o
theorem nowR_lo {g : gG} {S S' : RS} {np : Nat} {Pl : Nat → va_W} {pL : Nat → Nat → Nat → Nat} {i s0 : Nat} {D : Nat → Nat → Nat} (hI : RI S) (hh : hasP g np Pl pL i s0) (hl : plOK (pL i) (S.1 0)) (e : ∀ k, k < 40 → S'.1 0 k = S.1 0 k) (hs : stOK D (fun k => S'.1 0 (40 + k))) : nowR g S' np Pl pL s0 D := by
  have hb : S.1 0 2 ≤ 5 ∧ S.1 0 3 ≤ 8 := by
    rcases hI.1.1 with y | y
    · exact ⟨y.2.1.2.2.1, y.2.1.2.2.2.1⟩
    · exact ⟨by omega, by omega⟩
  exact ⟨⟨i, hh, plOK_ext e hb hl⟩, hs⟩
theorem rows_e {g : gG} {u : Nat → Nat} {S S' : RS} {R4 : Nat → va_W} (hR : ∀ r, r < 8 → rowR g u S r (R4 r)) (e : S'.2.1 = S.2.1) (e2 : S'.1 8 = S.1 8) : ∀ r, r < 8 → rowR g u S' r (R4 r) := fun r hr => rowR_ext (by rw [e]) (by rw [e2]) (fun _ _ => by rw [e]) (hR r hr)
def pM_act (b : Nat) (S : RS) : Int32 × RS := (nI (goR (S.1 0) 99 b).1, runS b S)
def pM_thr (S : RS) : Int32 × RS := (nI (thrA (S.2.1 7)), S)
theorem cntD_in {D : Nat → Nat → Nat} {R : Nat → Nat} (h : stOK D (fun k => R (40 + k))) : cntD D = inP R := by
  have e := fun p hp => (h.2.2 p hp).1
  unfold cntD inP
  rw [e 0 (by decide), e 1 (by decide), e 2 (by decide), e 3 (by decide), e 4 (by decide), e 5 (by decide)]
theorem inP_le {S : RS} (hI : RI S) : inP (S.1 0) ≤ 9999 := by
  rcases hI.1.1 with y | y
  · have h : cntM (fun k => S.1 0 (40 + k)) ≤ 9999 := y.2.2.2.2.1
    have e : inP (S.1 0) = cntM (fun k => S.1 0 (40 + k)) := by
      show 0 + S.1 0 46 + S.1 0 47 + S.1 0 48 + S.1 0 49 + S.1 0 50 + S.1 0 51 = S.1 0 46 + S.1 0 47 + S.1 0 48 + S.1 0 49 + S.1 0 50 + S.1 0 51
      omega
    omega
  · have e := y.2.2.2.2
    unfold inP
    rw [show S.1 0 46 = 0 from e 6 (by decide), show S.1 0 47 = 0 from e 7 (by decide), show S.1 0 48 = 0 from e 8 (by decide), show S.1 0 49 = 0 from e 9 (by decide), show S.1 0 50 = 0 from e 10 (by decide), show S.1 0 51 = 0 from e 11 (by decide)]
    decide
theorem pu_b {S : RS} {D : Nat → Nat → Nat} (hI : RI S) (h : stOK D (fun k => S.1 0 (40 + k))) : ∀ j, j < 5 → D 1 j < 900000000 := by
  intro j hj
  have y3 : D 1 j = S.1 0 (40 + (1 + j)) := by rw [h.2.1]; exact if_pos hj
  rcases hI.1.1 with y | y
  · have a : S.1 0 (40 + (1 + j)) ≤ cntM (fun k => S.1 0 (40 + k)) := y.2.2.2.1 j hj
    have b : cntM (fun k => S.1 0 (40 + k)) ≤ 9999 := y.2.2.2.2.1
    omega
  · have a := y.2.2.2.2 (1 + j) (by omega)
    omega
theorem pu_c {S : RS} {D : Nat → Nat → Nat} (hI : RI S) (h : stOK D (fun k => S.1 0 (40 + k))) : ∀ j, D 1 j ≤ 20000 := by
  intro j
  by_cases hj : j < 5
  · have y3 : D 1 j = S.1 0 (40 + (1 + j)) := by rw [h.2.1]; exact if_pos hj
    rcases hI.1.1 with y | y
    · have a : S.1 0 (40 + (1 + j)) ≤ cntM (fun k => S.1 0 (40 + k)) := y.2.2.2.1 j hj
      have b : cntM (fun k => S.1 0 (40 + k)) ≤ 9999 := y.2.2.2.2.1
      omega
    · have a := y.2.2.2.2 (1 + j) (by omega)
      omega
  · rw [stOK_Z h j (by omega)]; exact Nat.zero_le _
