/-! the class's reader -/
def sg (x : Nat) : Int32 := if x < 128 then nI x else nI x - 256
def sgF (T : Nat → Nat) : Nat → Int32 := fun k => sg (T k)
theorem sg_blank : ∀ x, x < 256 → ((sg x = 32 ∨ sg x = 10) ↔ (x = 32 ∨ x = 10)) := by decide +kernel
theorem sg_let : ∀ x, x < 256 → ((97 ≤ sg x ∧ sg x ≤ 122) ↔ srt x = 1) := by decide +kernel
theorem sg_fig : ∀ x, x < 256 → ((48 ≤ sg x ∧ sg x ≤ 57) ↔ srt x = 2) := by decide +kernel
theorem sg_59 : ∀ x, x < 256 → (sg x = 59 ↔ x = 59) := by decide +kernel
theorem sg_lo {x : Nat} (h : x < 128) : sg x = nI x := if_pos h
theorem sg_hi : ∀ x, x < 256 → ¬ x < 128 → sg x < 0 := by decide +kernel
theorem sg_eq {x m : Nat} (hx : x < 256) (hm : m < 128) : sg x = nI m ↔ x = m := by
  by_cases h : x < 128
  · rw [sg_lo h, nI_eq (by omega) (by omega)]
  · have h1 := sg_hi x hx h
    constructor
    · intro y; rw [y] at h1; exact absurd h1 (nI_pos (by omega))
    · intro y; omega
/-- what kind of token stands behind c -/
def tkK (T : Nat → Nat) (n c : Nat) : Nat := if ¬ tP T n c < n then 0 else if srt (T (tP T n c)) = 1 then 1 else if srt (T (tP T n c)) = 2 then (if tE T n c - tP T n c ≤ 3 then 2 else 4) else if T (tP T n c) = 59 then 3 else 4
theorem tkK_le {T : Nat → Nat} {n c : Nat} : tkK T n c ≤ 4 := by
  unfold tkK
  repeat' split
  all_goals decide
theorem tkK_0 {T : Nat → Nat} {n c : Nat} : tkK T n c = 0 ↔ ¬ tP T n c < n := by
  unfold tkK
  split
  · rename_i h; exact ⟨fun _ => h, fun _ => rfl⟩
  · rename_i h
    refine ⟨fun y => ?_, fun y => absurd y h⟩
    repeat' split at y
    all_goals exact absurd y (by decide)
theorem tkK_1 {T : Nat → Nat} {n c : Nat} : tkK T n c = 1 ↔ tP T n c < n ∧ srt (T (tP T n c)) = 1 := by
  unfold tkK
  by_cases h1 : tP T n c < n
  · rw [if_neg (fun y => y h1)]
    by_cases h2 : srt (T (tP T n c)) = 1
    · rw [if_pos h2]; exact ⟨fun _ => ⟨h1, h2⟩, fun _ => rfl⟩
    · rw [if_neg h2]
      refine ⟨fun y => ?_, fun y => absurd y.2 h2⟩
      repeat' split at y
      all_goals exact absurd y (by decide)
  · rw [if_pos h1]; exact ⟨fun y => absurd y (by decide), fun y => absurd y.1 h1⟩
theorem tkK_2 {T : Nat → Nat} {n c : Nat} : tkK T n c = 2 ↔ tP T n c < n ∧ srt (T (tP T n c)) = 2 ∧ tE T n c - tP T n c ≤ 3 := by
  unfold tkK
  by_cases h1 : tP T n c < n
  · rw [if_neg (fun y => y h1)]
    by_cases h2 : srt (T (tP T n c)) = 1
    · rw [if_pos h2]; exact ⟨fun y => absurd y (by decide), fun y => by rw [h2] at y; exact absurd y.2.1 (by decide)⟩
    · rw [if_neg h2]
      by_cases h3 : srt (T (tP T n c)) = 2
      · rw [if_pos h3]
        by_cases h4 : tE T n c - tP T n c ≤ 3
        · rw [if_pos h4]; exact ⟨fun _ => ⟨h1, h3, h4⟩, fun _ => rfl⟩
        · rw [if_neg h4]; exact ⟨fun y => absurd y (by decide), fun y => absurd y.2.2 h4⟩
      · rw [if_neg h3]
        refine ⟨fun y => ?_, fun y => absurd y.2.1 h3⟩
        repeat' split at y
        all_goals exact absurd y (by decide)
  · rw [if_pos h1]; exact ⟨fun y => absurd y (by decide), fun y => absurd y.1 h1⟩
theorem srt_59 : srt 59 = 0 := by decide
theorem tkK_3 {T : Nat → Nat} {n c : Nat} : tkK T n c = 3 ↔ sgK T n c = 0 := by
  unfold tkK sgK
  by_cases h1 : tP T n c < n
  · rw [if_neg (fun y => y h1)]
    by_cases h5 : T (tP T n c) = 59
    · have h6 : srt (T (tP T n c)) = 0 := by rw [h5]; exact srt_59
      have e : (if tP T n c < n ∧ T (tP T n c) = 59 then 0 else 1) = 0 := if_pos ⟨h1, h5⟩
      rw [e, h6, if_neg (by decide), if_neg (by decide), if_pos h5]
      exact ⟨fun _ => rfl, fun _ => rfl⟩
    · have e : (if tP T n c < n ∧ T (tP T n c) = 59 then 0 else 1) = 1 := if_neg (fun y => h5 y.2)
      rw [e, if_neg h5]
      refine ⟨fun y => ?_, fun y => absurd y (by decide)⟩
      repeat' split at y
      all_goals exact absurd y (by decide)
  · have e : (if tP T n c < n ∧ T (tP T n c) = 59 then 0 else 1) = 1 := if_neg (fun y => h1 y.1)
    rw [if_pos h1, e]
    exact ⟨fun y => absurd y (by decide), fun y => absurd y (by decide)⟩
theorem decV_s {T : Nat → Nat} : ∀ m i v, decV T (m + 1) i v = 10 * decV T m i v + T (i + m) - 48
  | 0, i, v => rfl
  | m + 1, i, v => by
    show decV T (m + 1) (i + 1) (10 * v + T i - 48) = _
    rw [decV_s m (i + 1), show i + 1 + m = i + (m + 1) by omega]
    rfl
theorem rnS_f {T : Nat → Nat} {n s i : Nat} (hi : i < n) (h0 : 0 < s) (hs : srt (T i) = s) : rnS T n s (n - i) i = rnS T n s (n - (i + 1)) (i + 1) := by
  rw [show n - i = (n - (i + 1)) + 1 by omega, rnS, if_pos ⟨hi, h0, hs⟩]
theorem rnS_x {T : Nat → Nat} {n s i : Nat} (h : ¬ (i < n ∧ srt (T i) = s)) : rnS T n s (n - i) i = i := by
  cases hf : n - i with
  | zero => rfl
  | succ f => rw [rnS, if_neg (fun y => h ⟨y.1, y.2.2⟩)]
theorem tE_s {T : Nat → Nat} {n c s : Nat} (hp : tP T n c < n) (hs : srt (T (tP T n c)) = s) (h0 : 0 < s) : tE T n c = rnS T n s (n - tP T n c) (tP T n c) := by
  rw [rnS_f hp h0 hs, tE, if_pos hp, hs]
theorem tE_0 {T : Nat → Nat} {n c : Nat} (hp : tP T n c < n) (hs : srt (T (tP T n c)) = 0) : tE T n c = tP T n c + 1 := by
  rw [tE, if_pos hp, hs]
  cases n - (tP T n c + 1) with
  | zero => rfl
  | succ f => rw [rnS, if_neg (fun y => absurd y.2.1 (by decide))]
theorem tE_n {T : Nat → Nat} {n c : Nat} (hp : ¬ tP T n c < n) : tE T n c = tP T n c := if_neg hp
theorem skB_f {T : Nat → Nat} {n i : Nat} (hi : i < n) (hs : T i = 32 ∨ T i = 10) : skB T n (n - i) i = skB T n (n - (i + 1)) (i + 1) := by
  rw [show n - i = (n - (i + 1)) + 1 by omega, skB, if_pos ⟨hi, hs⟩]
theorem skB_x {T : Nat → Nat} {n i : Nat} (h : ¬ (i < n ∧ (T i = 32 ∨ T i = 10))) : skB T n (n - i) i = i := by
  cases hf : n - i with
  | zero => rfl
  | succ f => rw [skB, if_neg h]
set_option maxRecDepth 20000 in
theorem c_X4_isLetter (g : gG)  (b : Int32)   : gCon g mX4_isLetter 0 0 0 [.int b] [] (fun rv ws' => rv = some (.int (gB (97 ≤ b ∧ b ≤ 122))) ∧ ws' = []) := by
  refine gCon.of (lv := [(0, .int b)]) (by decide) (gLe rfl) rfl ?_
  refine j_iload_n 1 dX4_isLetter_0 rfl 0 rfl ?_
  refine j_bipush (v := (97 : Int32)) 3 dX4_isLetter_1 rfl (by decide) ?_
  refine j_icmp_lt 6 16 dX4_isLetter_3 rfl rfl (fun h3 => ?_) (fun h3 => ?_)
  ·
    refine j_iconst (v := (0 : Int32)) 17 dX4_isLetter_16 rfl (by decide) ?_
    refine j_iret0 (c := 97 ≤ b ∧ b ≤ 122) dX4_isLetter_17 rfl ?_ ⟨gLe rfl, gLe rfl, rfl, rfl⟩
    first
      | exact ⟨Int32.not_lt.mp h3, Int32.not_lt.mp h9⟩
      | exact fun y => absurd h3 (Int32.not_lt.mpr y.1)
      | exact fun y => absurd h9 (Int32.not_lt.mpr y.2)
  ·
    refine j_iload_n 7 dX4_isLetter_6 rfl 0 rfl ?_
    refine j_bipush (v := (122 : Int32)) 9 dX4_isLetter_7 rfl (by decide) ?_
    refine j_icmp_gt 12 16 dX4_isLetter_9 rfl rfl (fun h9 => ?_) (fun h9 => ?_)
    ·
      refine j_iconst (v := (0 : Int32)) 17 dX4_isLetter_16 rfl (by decide) ?_
      refine j_iret0 (c := 97 ≤ b ∧ b ≤ 122) dX4_isLetter_17 rfl ?_ ⟨gLe rfl, gLe rfl, rfl, rfl⟩
      first
        | exact ⟨Int32.not_lt.mp h3, Int32.not_lt.mp h9⟩
        | exact fun y => absurd h3 (Int32.not_lt.mpr y.1)
        | exact fun y => absurd h9 (Int32.not_lt.mpr y.2)
    ·
      refine j_iconst (v := (1 : Int32)) 13 dX4_isLetter_12 rfl (by decide) ?_
      refine j_goto 17 dX4_isLetter_13 rfl ?_
      refine j_iret1 (c := 97 ≤ b ∧ b ≤ 122) dX4_isLetter_17 rfl ?_ ⟨gLe rfl, gLe rfl, rfl, rfl⟩
      first
        | exact ⟨Int32.not_lt.mp h3, Int32.not_lt.mp h9⟩
        | exact fun y => absurd h3 (Int32.not_lt.mpr y.1)
        | exact fun y => absurd h9 (Int32.not_lt.mpr y.2)
set_option maxRecDepth 20000 in
theorem c_X4_isFigure (g : gG)  (b : Int32)   : gCon g mX4_isFigure 0 0 0 [.int b] [] (fun rv ws' => rv = some (.int (gB (48 ≤ b ∧ b ≤ 57))) ∧ ws' = []) := by
  refine gCon.of (lv := [(0, .int b)]) (by decide) (gLe rfl) rfl ?_
  refine j_iload_n 1 dX4_isFigure_0 rfl 0 rfl ?_
  refine j_bipush (v := (48 : Int32)) 3 dX4_isFigure_1 rfl (by decide) ?_
  refine j_icmp_lt 6 16 dX4_isFigure_3 rfl rfl (fun h3 => ?_) (fun h3 => ?_)
  ·
    refine j_iconst (v := (0 : Int32)) 17 dX4_isFigure_16 rfl (by decide) ?_
    refine j_iret0 (c := 48 ≤ b ∧ b ≤ 57) dX4_isFigure_17 rfl ?_ ⟨gLe rfl, gLe rfl, rfl, rfl⟩
    first
      | exact ⟨Int32.not_lt.mp h3, Int32.not_lt.mp h9⟩
      | exact fun y => absurd h3 (Int32.not_lt.mpr y.1)
      | exact fun y => absurd h9 (Int32.not_lt.mpr y.2)
  ·
    refine j_iload_n 7 dX4_isFigure_6 rfl 0 rfl ?_
    refine j_bipush (v := (57 : Int32)) 9 dX4_isFigure_7 rfl (by decide) ?_
    refine j_icmp_gt 12 16 dX4_isFigure_9 rfl rfl (fun h9 => ?_) (fun h9 => ?_)
    ·
      refine j_iconst (v := (0 : Int32)) 17 dX4_isFigure_16 rfl (by decide) ?_
      refine j_iret0 (c := 48 ≤ b ∧ b ≤ 57) dX4_isFigure_17 rfl ?_ ⟨gLe rfl, gLe rfl, rfl, rfl⟩
      first
        | exact ⟨Int32.not_lt.mp h3, Int32.not_lt.mp h9⟩
        | exact fun y => absurd h3 (Int32.not_lt.mpr y.1)
        | exact fun y => absurd h9 (Int32.not_lt.mpr y.2)
    ·
      refine j_iconst (v := (1 : Int32)) 13 dX4_isFigure_12 rfl (by decide) ?_
      refine j_goto 17 dX4_isFigure_13 rfl ?_
      refine j_iret1 (c := 48 ≤ b ∧ b ≤ 57) dX4_isFigure_17 rfl ?_ ⟨gLe rfl, gLe rfl, rfl, rfl⟩
      first
        | exact ⟨Int32.not_lt.mp h3, Int32.not_lt.mp h9⟩
        | exact fun y => absurd h3 (Int32.not_lt.mpr y.1)
        | exact fun y => absurd h9 (Int32.not_lt.mpr y.2)
set_option maxRecDepth 20000 in
theorem c_X4_isBlank (g : gG)  (b : Int32)   : gCon g mX4_isBlank 0 0 0 [.int b] [] (fun rv ws' => rv = some (.int (gB (b = 32 ∨ b = 10))) ∧ ws' = []) := by
  refine gCon.of (lv := [(0, .int b)]) (by decide) (gLe rfl) rfl ?_
  refine j_iload_n 1 dX4_isBlank_0 rfl 0 rfl ?_
  refine j_bipush (v := (32 : Int32)) 3 dX4_isBlank_1 rfl (by decide) ?_
  refine j_icmp_eq 6 12 dX4_isBlank_3 rfl rfl (fun h3 => ?_) (fun h3 => ?_)
  ·
    refine j_iconst (v := (1 : Int32)) 13 dX4_isBlank_12 rfl (by decide) ?_
    refine j_goto 17 dX4_isBlank_13 rfl ?_
    refine j_iret1 (c := b = 32 ∨ b = 10) dX4_isBlank_17 rfl ?_ ⟨gLe rfl, gLe rfl, rfl, rfl⟩
    first
      | exact Or.inl h3
      | exact Or.inr h9
      | exact fun y => y.elim h3 h9
  ·
    refine j_iload_n 7 dX4_isBlank_6 rfl 0 rfl ?_
    refine j_bipush (v := (10 : Int32)) 9 dX4_isBlank_7 rfl (by decide) ?_
    refine j_icmp_ne 12 16 dX4_isBlank_9 rfl rfl (fun h9 => ?_) (fun h9 => ?_)
    ·
      refine j_iconst (v := (0 : Int32)) 17 dX4_isBlank_16 rfl (by decide) ?_
      refine j_iret0 (c := b = 32 ∨ b = 10) dX4_isBlank_17 rfl ?_ ⟨gLe rfl, gLe rfl, rfl, rfl⟩
      first
        | exact Or.inl h3
        | exact Or.inr h9
        | exact fun y => y.elim h3 h9
    ·
      refine j_iconst (v := (1 : Int32)) 13 dX4_isBlank_12 rfl (by decide) ?_
      refine j_goto 17 dX4_isBlank_13 rfl ?_
      refine j_iret1 (c := b = 32 ∨ b = 10) dX4_isBlank_17 rfl ?_ ⟨gLe rfl, gLe rfl, rfl, rfl⟩
      first
        | exact Or.inl h3
        | exact Or.inr h9
        | exact fun y => y.elim h3 h9
set_option maxRecDepth 20000 in
theorem c_X4_byteAt (g : gG) (ka : Nat) (kb : Nat) (kl : Nat) (ks : Nat) (ke : Nat) (kt : Nat) (kv : Nat) (kf : Nat) (yT : Nat → Nat) (p : Nat)  (h4 : kl ≤ 400) (hp : p < kl) : gCon g mX4_byteAt 0 0 0 [.ref ka, .int (nI p)] [(ka, .inr (4, [.ref kb, .int (nI kl), .int (nI ks), .int (nI ke), .int (nI kt), .int (nI kv), .int (nI kf)])), (kb, .inl (g.2.1 1, 400, .inl (sgF yT)))] (fun rv ws' => rv = some (.int (sg (yT p))) ∧ ws' = [(ka, .inr (4, [.ref kb, .int (nI kl), .int (nI ks), .int (nI ke), .int (nI kt), .int (nI kv), .int (nI kf)])), (kb, .inl (g.2.1 1, 400, .inl (sgF yT)))]) := by
  refine gCon.of (lv := [(0, .ref ka), (1, .int (nI p))]) (by decide) (gLe rfl) rfl ?_
  refine j_iload_n 1 dX4_byteAt_0 rfl 1 rfl ?_
  refine j_if_ltN p 4 dX4_byteAt_1 rfl (t := 21) rfl (by omega) ?_
  refine j_iload_n 5 dX4_byteAt_4 rfl 1 rfl ?_
  refine j_aload_n 6 dX4_byteAt_5 rfl 0 rfl ?_
  refine j_getf 9 0 dX4_byteAt_6 rfl fd_X4_15 rfl rfl ?_
  refine j_icmp_geN p kl 12 21 dX4_byteAt_9 rfl rfl (by omega) (by have z0 := h4; omega) (fun h9 => absurd h9 (by omega)) (fun h9 => ?_)
  refine j_aload_n 13 dX4_byteAt_12 rfl 0 rfl ?_
  refine j_getf 16 0 dX4_byteAt_13 rfl fd_X4_9 rfl rfl ?_
  refine j_iload_n 17 dX4_byteAt_16 rfl 1 rfl ?_
  refine j_baldR p 18 1 dX4_byteAt_17 rfl rfl (by omega) (by decide) ?_
  refine j_goto 22 dX4_byteAt_18 rfl ?_
  refine j_iretI dX4_byteAt_22 rfl ⟨gLe rfl, gLe rfl, ?_⟩
  exact ⟨rfl, rfl⟩
set_option maxRecDepth 20000 in
theorem c_X4_faulty (g : gG) (ka : Nat) (kb : Nat) (kl : Nat) (ks : Nat) (ke : Nat) (kt : Nat) (kv : Nat) (kf : Nat) (yT : Nat → Nat) (m : Nat)   : gCon g mX4_faulty 0 0 0 [.ref ka, .int (nI m)] [(ka, .inr (4, [.ref kb, .int (nI kl), .int (nI ks), .int (nI ke), .int (nI kt), .int (nI kv), .int (nI kf)])), (kb, .inl (g.2.1 1, 400, .inl (sgF yT)))] (fun rv ws' => rv = some (.int (gB (False))) ∧ ws' = [(ka, .inr (4, [.ref kb, .int (nI kl), .int (nI ks), .int (nI ke), .int (nI kt), .int (nI kv), .int (nI m)])), (kb, .inl (g.2.1 1, 400, .inl (sgF yT)))]) := by
  refine gCon.of (lv := [(0, .ref ka), (1, .int (nI m))]) (by decide) (gLe rfl) rfl ?_
  refine j_aload_n 1 dX4_faulty_0 rfl 0 rfl ?_
  refine j_iload_n 2 dX4_faulty_1 rfl 1 rfl ?_
  refine j_putf 5 0 [(ka, .inr (4, [.ref kb, .int (nI kl), .int (nI ks), .int (nI ke), .int (nI kt), .int (nI kv), .int (nI m)])), (kb, .inl (g.2.1 1, 400, .inl (sgF yT)))] dX4_faulty_2 rfl fd_X4_31 rfl rfl rfl (gLe rfl) rfl ?_
  refine j_iconst (v := (0 : Int32)) 6 dX4_faulty_5 rfl (by decide) ?_
  refine j_iret0 (c := False) dX4_faulty_6 rfl ?_ ⟨gLe rfl, gLe rfl, rfl, rfl⟩
  exact fun y => y
set_option maxRecDepth 20000 in
theorem c_X4_nextNumber (g : gG) (ka : Nat) (kb : Nat) (kl : Nat) (ks : Nat) (ke : Nat) (kt : Nat) (kv : Nat) (kf : Nat) (yT : Nat → Nat)   (h4 : kl ≤ 400) (hT : ∀ x, yT x < 256) (hs : ke = ks) (hk : ks < kl) (hf : srt (yT ks) = 2) : gCon g mX4_nextNumber 1 0 0 [.ref ka] [(ka, .inr (4, [.ref kb, .int (nI kl), .int (nI ks), .int (nI ke), .int (nI kt), .int (nI kv), .int (nI kf)])), (kb, .inl (g.2.1 1, 400, .inl (sgF yT)))] (fun rv ws' => rv = none ∧ ws' = [(ka, .inr (4, [.ref kb, .int (nI kl), .int (nI ks), .int (nI (rnS yT kl 2 (kl - ks) ks)), .int (nI (if rnS yT kl 2 (kl - ks) ks - ks ≤ 3 then 2 else 4)), .int (nI (decV yT (min (rnS yT kl 2 (kl - ks) ks - ks) 3) ks 0)), .int (nI kf)])), (kb, .inl (g.2.1 1, 400, .inl (sgF yT)))]) := by
  refine gCon.of (lv := [(0, .ref ka)]) (by decide) (gLe rfl) rfl ?_
  refine j_aload_n 1 dX4_nextNumber_0 rfl 0 rfl ?_
  refine j_iconst (v := (0 : Int32)) 2 dX4_nextNumber_1 rfl (by decide) ?_
  refine j_putf 5 0 [(ka, .inr (4, [.ref kb, .int (nI kl), .int (nI ks), .int (nI ke), .int (nI kt), .int (0 : Int32), .int (nI kf)])), (kb, .inl (g.2.1 1, 400, .inl (sgF yT)))] dX4_nextNumber_2 rfl fd_X4_28 rfl rfl rfl (gLe rfl) rfl ?_
  have hL5 : ∀ (zm5 : Nat) (ze : Nat) (zv : Nat), kl - ze < zm5 → (ks ≤ ze) → (ze ≤ kl) → (rnS yT kl 2 (kl - ze) ze = rnS yT kl 2 (kl - ks) ks) → (zv = decV yT (min (ze - ks) 3) ks 0) → (zv < 1000) → (∀ k, ks ≤ k → k < ze → srt (yT k) = 2) → gJ g mX4_nextNumber 1 0 0 (fun k' j' rv ws' => k' ≤ 0 ∧ j' ≤ 0 ∧ (rv = none ∧ ws' = [(ka, .inr (4, [.ref kb, .int (nI kl), .int (nI ks), .int (nI (rnS yT kl 2 (kl - ks) ks)), .int (nI (if rnS yT kl 2 (kl - ks) ks - ks ≤ 3 then 2 else 4)), .int (nI (decV yT (min (rnS yT kl 2 (kl - ks) ks - ks) 3) ks 0)), .int (nI kf)])), (kb, .inl (g.2.1 1, 400, .inl (sgF yT)))])) 0 0 5 [(0, .ref ka)] [] [(ka, .inr (4, [.ref kb, .int (nI kl), .int (nI ks), .int (nI ze), .int (nI kt), .int (nI zv), .int (nI kf)])), (kb, .inl (g.2.1 1, 400, .inl (sgF yT)))] := by
    intro zm5
    induction zm5 with
    | zero => intro ze zv zmh; exact absurd zmh (Nat.not_lt_zero _)
    | succ zm5 zih5 =>
      intro ze zv zmh5 hz1 hz2 hzr hzd hzv hza
      refine j_aload_n 6 dX4_nextNumber_5 rfl 0 rfl ?_
      refine j_getf 9 0 dX4_nextNumber_6 rfl fd_X4_22 rfl rfl ?_
      refine j_aload_n 10 dX4_nextNumber_9 rfl 0 rfl ?_
      refine j_getf 13 0 dX4_nextNumber_10 rfl fd_X4_15 rfl rfl ?_
      refine j_icmp_geN ze kl 16 79 dX4_nextNumber_13 rfl rfl (by have z0 := hz2; have z1 := h4; omega) (by have z0 := h4; omega) (fun h13 => ?_) (fun h13 => ?_)
      ·
        have hze : rnS yT kl 2 (kl - ks) ks = ze := by rw [← hzr]; exact rnS_x (fun y => by first | exact hfi y.2 | omega)
        refine j_aload_n 80 dX4_nextNumber_79 rfl 0 rfl ?_
        refine j_aload_n 81 dX4_nextNumber_80 rfl 0 rfl ?_
        refine j_getf 84 0 dX4_nextNumber_81 rfl fd_X4_22 rfl rfl ?_
        refine j_aload_n 85 dX4_nextNumber_84 rfl 0 rfl ?_
        refine j_getf 88 0 dX4_nextNumber_85 rfl fd_X4_19 rfl rfl ?_
        refine j_isubN ze ks 89 dX4_nextNumber_88 rfl hz1 ?_
        refine j_iconst (v := (3 : Int32)) 90 dX4_nextNumber_89 rfl (by decide) ?_
        refine j_icmp_leN (ze - ks) 3 93 97 dX4_nextNumber_90 rfl rfl (by have z0 := hz2; have z1 := h4; omega) (by decide) (fun h90 => ?_) (fun h90 => ?_)
        ·
          refine j_iconst (v := (2 : Int32)) 98 dX4_nextNumber_97 rfl (by decide) ?_
          refine j_putf 101 0 [(ka, .inr (4, [.ref kb, .int (nI kl), .int (nI ks), .int (nI ze), .int (2 : Int32), .int (nI zv), .int (nI kf)])), (kb, .inl (g.2.1 1, 400, .inl (sgF yT)))] dX4_nextNumber_98 rfl fd_X4_25 rfl rfl rfl (gLe rfl) rfl ?_
          refine j_vret dX4_nextNumber_101 rfl ⟨gLe rfl, gLe rfl, ?_⟩
          rw [hze, ← hzd]
          rw [if_pos h90]
          exact ⟨rfl, rfl⟩
        ·
          refine j_iconst (v := (4 : Int32)) 94 dX4_nextNumber_93 rfl (by decide) ?_
          refine j_goto 98 dX4_nextNumber_94 rfl ?_
          refine j_putf 101 0 [(ka, .inr (4, [.ref kb, .int (nI kl), .int (nI ks), .int (nI ze), .int (4 : Int32), .int (nI zv), .int (nI kf)])), (kb, .inl (g.2.1 1, 400, .inl (sgF yT)))] dX4_nextNumber_98 rfl fd_X4_25 rfl rfl rfl (gLe rfl) rfl ?_
          refine j_vret dX4_nextNumber_101 rfl ⟨gLe rfl, gLe rfl, ?_⟩
          rw [hze, ← hzd]
          rw [if_neg h90]
          exact ⟨rfl, rfl⟩
      ·
        have h13x : ze < kl := by omega
        refine j_aload_n 17 dX4_nextNumber_16 rfl 0 rfl ?_
        refine j_aload_n 18 dX4_nextNumber_17 rfl 0 rfl ?_
        refine j_getf 21 0 dX4_nextNumber_18 rfl fd_X4_22 rfl rfl ?_
        refine j_callV0 (rest := []) 24 [0, 1] (c_X4_byteAt g ka kb kl ks ze kt zv kf yT ze h4 h13x) [.int (sg (yT ze))] [(ka, .inr (4, [.ref kb, .int (nI kl), .int (nI ks), .int (nI ze), .int (nI kt), .int (nI zv), .int (nI kf)])), (kb, .inl (g.2.1 1, 400, .inl (sgF yT)))] dX4_nextNumber_21 rfl cv_X4_136 rfl rfl rfl rfl 0 rfl rfl (gLe rfl) (gLe rfl) (gLe rfl) (gLe rfl) (gLe rfl) rfl rfl ?_
        refine j_callSE (rest := []) 27 (c_X4_isFigure g (sg (yT ze)) ) [.int (gB (48 ≤ (sg (yT ze)) ∧ (sg (yT ze)) ≤ 57))] dX4_nextNumber_24 rfl cs_X4_150 rfl rfl (gLe rfl) (gLe rfl) (gLe rfl) (gLe rfl) rfl ?_
        refine j_topI _ (gB (srt (yT ze) = 2)) (gB_iff (sg_fig _ (hT ze))) ?_
        refine j_if_eqB 30 79 dX4_nextNumber_27 rfl rfl (fun hfi => ?_) (fun hfi => ?_)
        ·
          have hze : rnS yT kl 2 (kl - ks) ks = ze := by rw [← hzr]; exact rnS_x (fun y => by first | exact hfi y.2 | omega)
          refine j_aload_n 80 dX4_nextNumber_79 rfl 0 rfl ?_
          refine j_aload_n 81 dX4_nextNumber_80 rfl 0 rfl ?_
          refine j_getf 84 0 dX4_nextNumber_81 rfl fd_X4_22 rfl rfl ?_
          refine j_aload_n 85 dX4_nextNumber_84 rfl 0 rfl ?_
          refine j_getf 88 0 dX4_nextNumber_85 rfl fd_X4_19 rfl rfl ?_
          refine j_isubN ze ks 89 dX4_nextNumber_88 rfl hz1 ?_
          refine j_iconst (v := (3 : Int32)) 90 dX4_nextNumber_89 rfl (by decide) ?_
          refine j_icmp_leN (ze - ks) 3 93 97 dX4_nextNumber_90 rfl rfl (by have z0 := hz2; have z1 := h4; omega) (by decide) (fun h90 => ?_) (fun h90 => ?_)
          ·
            refine j_iconst (v := (2 : Int32)) 98 dX4_nextNumber_97 rfl (by decide) ?_
            refine j_putf 101 0 [(ka, .inr (4, [.ref kb, .int (nI kl), .int (nI ks), .int (nI ze), .int (2 : Int32), .int (nI zv), .int (nI kf)])), (kb, .inl (g.2.1 1, 400, .inl (sgF yT)))] dX4_nextNumber_98 rfl fd_X4_25 rfl rfl rfl (gLe rfl) rfl ?_
            refine j_vret dX4_nextNumber_101 rfl ⟨gLe rfl, gLe rfl, ?_⟩
            rw [hze, ← hzd]
            rw [if_pos h90]
            exact ⟨rfl, rfl⟩
          ·
            refine j_iconst (v := (4 : Int32)) 94 dX4_nextNumber_93 rfl (by decide) ?_
            refine j_goto 98 dX4_nextNumber_94 rfl ?_
            refine j_putf 101 0 [(ka, .inr (4, [.ref kb, .int (nI kl), .int (nI ks), .int (nI ze), .int (4 : Int32), .int (nI zv), .int (nI kf)])), (kb, .inl (g.2.1 1, 400, .inl (sgF yT)))] dX4_nextNumber_98 rfl fd_X4_25 rfl rfl rfl (gLe rfl) rfl ?_
            refine j_vret dX4_nextNumber_101 rfl ⟨gLe rfl, gLe rfl, ?_⟩
            rw [hze, ← hzd]
            rw [if_neg h90]
            exact ⟨rfl, rfl⟩
        ·
          refine j_aload_n 31 dX4_nextNumber_30 rfl 0 rfl ?_
          refine j_getf 34 0 dX4_nextNumber_31 rfl fd_X4_22 rfl rfl ?_
          refine j_aload_n 35 dX4_nextNumber_34 rfl 0 rfl ?_
          refine j_getf 38 0 dX4_nextNumber_35 rfl fd_X4_19 rfl rfl ?_
          refine j_isubN ze ks 39 dX4_nextNumber_38 rfl hz1 ?_
          refine j_iconst (v := (3 : Int32)) 40 dX4_nextNumber_39 rfl (by decide) ?_
          refine j_icmp_geN (ze - ks) 3 43 66 dX4_nextNumber_40 rfl rfl (by have z0 := hz2; have z1 := h4; omega) (by decide) (fun h40 => ?_) (fun h40 => ?_)
          ·
            refine j_aload_n 67 dX4_nextNumber_66 rfl 0 rfl ?_
            refine j_dup 68 dX4_nextNumber_67 rfl rfl ?_
            refine j_getf 71 0 dX4_nextNumber_68 rfl fd_X4_22 rfl rfl ?_
            refine j_iconst (v := (1 : Int32)) 72 dX4_nextNumber_71 rfl (by decide) ?_
            refine j_iaddN ze 1 73 dX4_nextNumber_72 rfl ?_
            refine j_putf 76 0 [(ka, .inr (4, [.ref kb, .int (nI kl), .int (nI ks), .int (nI (ze + 1)), .int (nI kt), .int (nI zv), .int (nI kf)])), (kb, .inl (g.2.1 1, 400, .inl (sgF yT)))] dX4_nextNumber_73 rfl fd_X4_22 rfl rfl rfl (gLe rfl) rfl ?_
            refine j_goto 5 dX4_nextNumber_76 rfl ?_
            refine j_lv [0] rfl ?_
            exact zih5 (ze + 1) zv (by omega) (by omega) (by omega) (by rw [← hzr, rnS_f h13x (by decide) hfi]) (by rw [hzd, show min (ze + 1 - ks) 3 = min (ze - ks) 3 by omega]) hzv (fun k h1 h2 => by by_cases e : k = ze; (rw [e]; exact hfi); exact hza k h1 (by omega))
          ·
            have h57 := srt_2 hfi
            refine j_aload_n 44 dX4_nextNumber_43 rfl 0 rfl ?_
            refine j_aload_n 45 dX4_nextNumber_44 rfl 0 rfl ?_
            refine j_getf 48 0 dX4_nextNumber_45 rfl fd_X4_28 rfl rfl ?_
            refine j_bipush (v := (10 : Int32)) 50 dX4_nextNumber_48 rfl (by decide) ?_
            refine j_imulN zv 10 51 dX4_nextNumber_50 rfl ?_
            refine j_aload_n 52 dX4_nextNumber_51 rfl 0 rfl ?_
            refine j_aload_n 53 dX4_nextNumber_52 rfl 0 rfl ?_
            refine j_getf 56 0 dX4_nextNumber_53 rfl fd_X4_22 rfl rfl ?_
            refine j_callV0 (rest := [.int (nI (zv * 10)), .ref ka]) 59 [0, 1] (c_X4_byteAt g ka kb kl ks ze kt zv kf yT ze h4 h13x) [.int (sg (yT ze)), .int (nI (zv * 10)), .ref ka] [(ka, .inr (4, [.ref kb, .int (nI kl), .int (nI ks), .int (nI ze), .int (nI kt), .int (nI zv), .int (nI kf)])), (kb, .inl (g.2.1 1, 400, .inl (sgF yT)))] dX4_nextNumber_56 rfl cv_X4_136 rfl rfl rfl rfl 0 rfl rfl (gLe rfl) (gLe rfl) (gLe rfl) (gLe rfl) (gLe rfl) rfl rfl ?_
            refine j_topI (sg (yT ze)) (nI (yT ze)) (sg_lo (by omega)) ?_
            refine j_iaddN (zv * 10) (yT ze) 60 dX4_nextNumber_59 rfl ?_
            refine j_bipush (v := (48 : Int32)) 62 dX4_nextNumber_60 rfl (by decide) ?_
            refine j_isubN ((zv * 10) + (yT ze)) 48 63 dX4_nextNumber_62 rfl (by omega) ?_
            have hvb : zv * 10 + yT ze - 48 < 1000 := by
              have y1 := nuV_lt (T := yT) (p := ks) (e := ze + 1) (fun k h1 h2 => by by_cases e : k = ze; (rw [e]; exact hfi); exact hza k h1 (by omega)) (by omega) (by omega)
              have y2 : nuV yT ks (ze + 1) = zv * 10 + yT ze - 48 := by rw [nuV, show ze + 1 - ks = (ze - ks) + 1 by omega, decV_s, hzd, show min (ze - ks) 3 = ze - ks by omega, show ks + (ze - ks) = ze by omega, Nat.mul_comm]
              omega
            refine j_putf 66 0 [(ka, .inr (4, [.ref kb, .int (nI kl), .int (nI ks), .int (nI ze), .int (nI kt), .int (nI (((zv * 10) + (yT ze)) - 48)), .int (nI kf)])), (kb, .inl (g.2.1 1, 400, .inl (sgF yT)))] dX4_nextNumber_63 rfl fd_X4_28 rfl rfl rfl (gLe rfl) rfl ?_
            refine j_aload_n 67 dX4_nextNumber_66 rfl 0 rfl ?_
            refine j_dup 68 dX4_nextNumber_67 rfl rfl ?_
            refine j_getf 71 0 dX4_nextNumber_68 rfl fd_X4_22 rfl rfl ?_
            refine j_iconst (v := (1 : Int32)) 72 dX4_nextNumber_71 rfl (by decide) ?_
            refine j_iaddN ze 1 73 dX4_nextNumber_72 rfl ?_
            refine j_putf 76 0 [(ka, .inr (4, [.ref kb, .int (nI kl), .int (nI ks), .int (nI (ze + 1)), .int (nI kt), .int (nI (((zv * 10) + (yT ze)) - 48)), .int (nI kf)])), (kb, .inl (g.2.1 1, 400, .inl (sgF yT)))] dX4_nextNumber_73 rfl fd_X4_22 rfl rfl rfl (gLe rfl) rfl ?_
            refine j_goto 5 dX4_nextNumber_76 rfl ?_
            refine j_lv [0] rfl ?_
            exact zih5 (ze + 1) (((zv * 10) + (yT ze)) - 48) (by omega) (by omega) (by omega) (by rw [← hzr, rnS_f h13x (by decide) hfi]) (by rw [hzd, show min (ze + 1 - ks) 3 = min (ze - ks) 3 + 1 by omega, decV_s, show ks + min (ze - ks) 3 = ze by omega, Nat.mul_comm]) hvb (fun k h1 h2 => by by_cases e : k = ze; (rw [e]; exact hfi); exact hza k h1 (by omega))
  refine j_ws [(ka, .inr (4, [.ref kb, .int (nI kl), .int (nI ks), .int (nI ks), .int (nI kt), .int (0 : Int32), .int (nI kf)])), (kb, .inl (g.2.1 1, 400, .inl (sgF yT)))] (by rw [hs]) ?_
  refine j_lv [0] rfl ?_
  exact hL5 _ ks 0 (Nat.lt_succ_self _) (Nat.le_refl _) (by omega) rfl (by rw [Nat.sub_self]; rfl) (by decide) (fun k h1 h2 => absurd h2 (by omega))
