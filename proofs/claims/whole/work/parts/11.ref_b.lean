def skI (sk : Nat) : Int32 := if sk < 5 then nI sk else -1000000
theorem skI_eq {h sk : Nat} (hh : h < 5) : nI h = skI sk ↔ h = sk := by
  unfold skI
  split
  · rw [nI_eq (by omega) (by omega)]
  · constructor
    · intro q
      exfalso
      have : ∀ h, h < 5 → ¬ nI h = -1000000 := by decide
      exact this h hh q
    · intro q; omega
theorem srtO_up {P : Nat → Nat} {sk h k v : Nat} (hk : 4 + 4 * h + 3 ≠ k) : srtO (va_up P k v) sk h = srtO P sk h := by
  unfold srtO va_up
  split
  · rfl
  · simp [hk]
theorem srtO_lt {P : Nat → Nat} {sk h : Nat} (hR : ∀ k, P k < 1000000) : srtO P sk h < 1000000 := by
  unfold srtO
  split
  · decide
  · exact hR _
theorem va_up_s {α : Type} {f : Nat → α} {k : Nat} {v : α} : va_up f k v k = v := if_pos rfl
theorem va_up_n {α : Type} {f : Nat → α} {k j : Nat} {v : α} (h : j ≠ k) : va_up f k v j = f j := if_neg h
set_option maxRecDepth 20000 in
theorem c_X6_sortOf (g : gG) (q : Nat → Nat) (Na : Nat → Nat → Nat) (Ia : Nat → Nat → Int32) (Ns : Nat → Nat) (Is : Nat → Int32) (h : Nat) (sk : Nat) (hs : Is 12 = skI sk) (h5 : h < 5) : gCon g mX6_sortOf 0 0 0 [.ref (q 26), .int (nI h)] (wM g q Na Ia Ns Is) (fun rv ws' => rv = some (.int (nI (srtO (Na 0) sk h))) ∧ ws' = (wM g q Na Ia Ns Is)) := by
  refine gCon.of (lv := [(0, .ref (q 26)), (1, .int (nI h))]) (by decide) (gLe rfl) rfl ?_
  refine j_iload_n 1 dX6_sortOf_0 rfl 1 rfl ?_
  refine j_aload_n 2 dX6_sortOf_1 rfl 0 rfl ?_
  refine j_getf 5 0 dX6_sortOf_2 rfl fd_X6_32 rfl rfl ?_
  refine j_icmp_ne 8 12 dX6_sortOf_5 rfl rfl (fun hx => ?_) (fun hx => ?_)
  ·
    refine j_aload_n 13 dX6_sortOf_12 rfl 0 rfl ?_
    refine j_getf 16 0 dX6_sortOf_13 rfl fd_X6_7 rfl rfl ?_
    refine j_iconst (v := (4 : Int32)) 17 dX6_sortOf_16 rfl (by decide) ?_
    refine j_iconst (v := (4 : Int32)) 18 dX6_sortOf_17 rfl (by decide) ?_
    refine j_iload_n 19 dX6_sortOf_18 rfl 1 rfl ?_
    refine j_imulN 4 h 20 dX6_sortOf_19 rfl ?_
    refine j_iaddN 4 (4 * h) 21 dX6_sortOf_20 rfl ?_
    refine j_iconst (v := (3 : Int32)) 22 dX6_sortOf_21 rfl (by decide) ?_
    refine j_iaddN (4 + (4 * h)) 3 23 dX6_sortOf_22 rfl ?_
    refine j_ialdN ((4 + (4 * h)) + 3) 24 1 dX6_sortOf_23 rfl rfl (by omega) (by decide) ?_
    refine j_iretI dX6_sortOf_24 rfl ⟨gLe rfl, gLe rfl, ?_⟩
    rw [hs] at hx
    first
      | exact ⟨by rw [srtO, if_pos ((skI_eq h5).mp hx)]; rfl, rfl⟩
      | exact ⟨by rw [srtO, if_neg (fun e => hx ((skI_eq h5).mpr e))], rfl⟩
  ·
    refine j_iconst (v := (2 : Int32)) 9 dX6_sortOf_8 rfl (by decide) ?_
    refine j_goto 24 dX6_sortOf_9 rfl ?_
    refine j_iretI dX6_sortOf_24 rfl ⟨gLe rfl, gLe rfl, ?_⟩
    rw [hs] at hx
    first
      | exact ⟨by rw [srtO, if_pos ((skI_eq h5).mp hx)]; rfl, rfl⟩
      | exact ⟨by rw [srtO, if_neg (fun e => hx ((skI_eq h5).mpr e))], rfl⟩
set_option maxRecDepth 20000 in
theorem c_X6_push (g : gG) (q : Nat → Nat) (Na : Nat → Nat → Nat) (Ia : Nat → Nat → Int32) (Ns : Nat → Nat) (Is : Nat → Int32) (base : Nat) (h : Nat) (sk : Nat) (hs : Is 12 = skI sk) (hP : okP (Na 0)) (hb : base = 0 ∨ base = 174) (hh : h < Na 0 2) (hu : Na 0 (base + 41 + h) < 2000000000) : gCon g mX6_push 1 0 0 [.ref (q 26), .int (nI base), .int (nI h)] (wM g q Na Ia Ns Is) (fun rv ws' => rv = some (.int (gB (srtO (Na 0) sk h = 0 ∨ (srtO (Na 0) sk h = 1 ∧ ((Na 0) (base + 41 + h) + 1) % 3 = 0)))) ∧ ws' = (wM g q (va_up Na 0 (va_up (Na 0) (base + 41 + h) ((Na 0) (base + 41 + h) + 1))) Ia Ns Is)) := by
  refine gCon.of (lv := [(0, .ref (q 26)), (1, .int (nI base)), (2, .int (nI h))]) (by decide) (gLe rfl) rfl ?_
  have h5 := okP_5 hP hh
  refine j_aload_n 1 dX6_push_0 rfl 0 rfl ?_
  refine j_getf 4 0 dX6_push_1 rfl fd_X6_7 rfl rfl ?_
  refine j_iload_n 5 dX6_push_4 rfl 1 rfl ?_
  refine j_bipush (v := (41 : Int32)) 7 dX6_push_5 rfl (by decide) ?_
  refine j_iaddN base 41 8 dX6_push_7 rfl ?_
  refine j_iload_n 9 dX6_push_8 rfl 2 rfl ?_
  refine j_iaddN (base + 41) h 10 dX6_push_9 rfl ?_
  refine j_dup2 11 dX6_push_10 rfl rfl rfl ?_
  refine j_ialdN ((base + 41) + h) 12 1 dX6_push_11 rfl rfl (by omega) (by decide) ?_
  refine j_iconst (v := (1 : Int32)) 13 dX6_push_12 rfl (by decide) ?_
  refine j_iaddN ((Na 0) ((base + 41) + h)) 1 14 dX6_push_13 rfl ?_
  refine j_iastN (((Na 0) ((base + 41) + h)) + 1) ((base + 41) + h) 15 1 (wM g q (va_up Na 0 (va_up (Na 0) ((base + 41) + h) (((Na 0) ((base + 41) + h)) + 1))) Ia Ns Is) dX6_push_14 rfl rfl (by omega) (by decide) rfl ?_
  refine j_aload_n 16 dX6_push_15 rfl 0 rfl ?_
  refine j_iload_n 17 dX6_push_16 rfl 2 rfl ?_
  refine j_callVW (rest := []) 20 (c_X6_sortOf g q (va_up Na 0 (va_up (Na 0) ((base + 41) + h) (((Na 0) ((base + 41) + h)) + 1))) Ia Ns Is h sk (by first | assumption | omega) (by first | assumption | omega)) [.int (nI (srtO (va_up (Na 0) ((base + 41) + h) (((Na 0) ((base + 41) + h)) + 1)) sk h))] dX6_push_17 rfl cv_X6_170 rfl rfl 0 rfl rfl (gLe rfl) (gLe rfl) (gLe rfl) (gLe rfl) (wM_len _ _ _ _ _ _ _ _ _ _) rfl ?_
  refine j_topN (srtO (va_up (Na 0) ((base + 41) + h) (((Na 0) ((base + 41) + h)) + 1)) sk h) (srtO (Na 0) sk h) (srtO_up (by omega)) ?_
  refine j_istore_n 21 [(3, .int (nI (srtO (Na 0) sk h))), (0, .ref (q 26)), (1, .int (nI base)), (2, .int (nI h))] dX6_push_20 rfl (by decide) rfl ?_
  refine j_iload_n 22 dX6_push_21 rfl 0 rfl ?_
  refine j_if_eqN (srtO (Na 0) sk h) 25 46 dX6_push_22 rfl rfl (by have z0 := (okP_s hP hh : srtO (Na 0) sk h ≤ 2); omega) (fun h22 => ?_) (fun h22 => ?_)
  ·
    refine j_iconst (v := (1 : Int32)) 47 dX6_push_46 rfl (by decide) ?_
    refine j_goto 51 dX6_push_47 rfl ?_
    refine j_iret1 (c := srtO (Na 0) sk h = 0 ∨ (srtO (Na 0) sk h = 1 ∧ ((Na 0) (base + 41 + h) + 1) % 3 = 0)) dX6_push_51 rfl ?_ ⟨gLe rfl, gLe rfl, rfl, rfl⟩
    first
      | exact Or.inl h22
      | exact Or.inr ⟨h27, h43⟩
      | exact fun q => q.elim h22 (fun q => h27 q.1)
      | exact fun q => q.elim h22 (fun q => h43 q.2)
  ·
    refine j_iload_n 26 dX6_push_25 rfl 0 rfl ?_
    refine j_iconst (v := (1 : Int32)) 27 dX6_push_26 rfl (by decide) ?_
    refine j_icmp_neN (srtO (Na 0) sk h) 1 30 50 dX6_push_27 rfl rfl (by have z0 := (okP_s hP hh : srtO (Na 0) sk h ≤ 2); omega) (by decide) (fun h27 => ?_) (fun h27 => ?_)
    ·
      refine j_iconst (v := (0 : Int32)) 51 dX6_push_50 rfl (by decide) ?_
      refine j_iret0 (c := srtO (Na 0) sk h = 0 ∨ (srtO (Na 0) sk h = 1 ∧ ((Na 0) (base + 41 + h) + 1) % 3 = 0)) dX6_push_51 rfl ?_ ⟨gLe rfl, gLe rfl, rfl, rfl⟩
      first
        | exact Or.inl h22
        | exact Or.inr ⟨h27, h43⟩
        | exact fun q => q.elim h22 (fun q => h27 q.1)
        | exact fun q => q.elim h22 (fun q => h43 q.2)
    ·
      refine j_aload_n 31 dX6_push_30 rfl 1 rfl ?_
      refine j_getf 34 0 dX6_push_31 rfl fd_X6_7 rfl rfl ?_
      refine j_iload_n 35 dX6_push_34 rfl 2 rfl ?_
      refine j_bipush (v := (41 : Int32)) 37 dX6_push_35 rfl (by decide) ?_
      refine j_iaddN base 41 38 dX6_push_37 rfl ?_
      refine j_iload_n 39 dX6_push_38 rfl 3 rfl ?_
      refine j_iaddN (base + 41) h 40 dX6_push_39 rfl ?_
      refine j_ialdN ((base + 41) + h) 41 1 dX6_push_40 rfl rfl (by omega) (by decide) ?_
      refine j_topN ((va_up (Na 0) ((base + 41) + h) (((Na 0) ((base + 41) + h)) + 1)) ((base + 41) + h)) (Na 0 (base + 41 + h) + 1) va_up_s ?_
      refine j_iconst (v := (3 : Int32)) 42 dX6_push_41 rfl (by decide) ?_
      refine j_iremN (Na 0 (base + 41 + h) + 1) 3 43 dX6_push_42 rfl (by have z0 := hu; omega) (by decide) (by decide) ?_
      refine j_if_neN ((Na 0 (base + 41 + h) + 1) % 3) 46 50 dX6_push_43 rfl rfl (by have z0 := hu; omega) (fun h43 => ?_) (fun h43 => ?_)
      ·
        refine j_iconst (v := (0 : Int32)) 51 dX6_push_50 rfl (by decide) ?_
        refine j_iret0 (c := srtO (Na 0) sk h = 0 ∨ (srtO (Na 0) sk h = 1 ∧ ((Na 0) (base + 41 + h) + 1) % 3 = 0)) dX6_push_51 rfl ?_ ⟨gLe rfl, gLe rfl, rfl, rfl⟩
        first
          | exact Or.inl h22
          | exact Or.inr ⟨h27, h43⟩
          | exact fun q => q.elim h22 (fun q => h27 q.1)
          | exact fun q => q.elim h22 (fun q => h43 q.2)
      ·
        refine j_iconst (v := (1 : Int32)) 47 dX6_push_46 rfl (by decide) ?_
        refine j_goto 51 dX6_push_47 rfl ?_
        refine j_iret1 (c := srtO (Na 0) sk h = 0 ∨ (srtO (Na 0) sk h = 1 ∧ ((Na 0) (base + 41 + h) + 1) % 3 = 0)) dX6_push_51 rfl ?_ ⟨gLe rfl, gLe rfl, rfl, rfl⟩
        first
          | exact Or.inl h22
          | exact Or.inr ⟨h27, h43⟩
          | exact fun q => q.elim h22 (fun q => h27 q.1)
          | exact fun q => q.elim h22 (fun q => h43 q.2)
set_option maxRecDepth 20000 in
theorem c_X6_turn (g : gG) (q : Nat → Nat) (Na : Nat → Nat → Nat) (Ia : Nat → Nat → Int32) (Ns : Nat → Nat) (Is : Nat → Int32) (base : Nat) (h : Nat) (sk : Nat) (hs : Is 12 = skI sk) (hP : okP (Na 0)) (hb : base = 0 ∨ base = 174) (hh : h < Na 0 2) : gCon g mX6_turn 1 0 0 [.ref (q 26), .int (nI base), .int (nI h)] (wM g q Na Ia Ns Is) (fun rv ws' => rv = none ∧ ws' = (wM g q (va_up Na 0 (va_up (Na 0) (base + 40) (turnA (Na 0) sk h ((Na 0) (base + 40))))) Ia Ns Is)) := by
  refine gCon.of (lv := [(0, .ref (q 26)), (1, .int (nI base)), (2, .int (nI h))]) (by decide) (gLe rfl) rfl ?_
  have h5 := okP_5 hP hh
  have ht := okP_t hP hh
  refine j_aload_n 1 dX6_turn_0 rfl 0 rfl ?_
  refine j_getf 4 0 dX6_turn_1 rfl fd_X6_7 rfl rfl ?_
  refine j_iload_n 5 dX6_turn_4 rfl 1 rfl ?_
  refine j_bipush (v := (40 : Int32)) 7 dX6_turn_5 rfl (by decide) ?_
  refine j_iaddN base 40 8 dX6_turn_7 rfl ?_
  refine j_dup2 9 dX6_turn_8 rfl rfl rfl ?_
  refine j_ialdN (base + 40) 10 1 dX6_turn_9 rfl rfl (by omega) (by decide) ?_
  refine j_iconst (v := (1 : Int32)) 11 dX6_turn_10 rfl (by decide) ?_
  refine j_iload_n 12 dX6_turn_11 rfl 2 rfl ?_
  refine j_ishlN 1 h 13 dX6_turn_12 rfl (by omega) (by rw [Nat.one_mul]; exact Nat.lt_trans (pow_lt32 h5) (by decide)) ?_
  refine j_ixorN ((Na 0) (base + 40)) (1 * 2 ^ h) 14 dX6_turn_13 rfl ?_
  refine j_iastN (((Na 0) (base + 40)) ^^^ (1 * 2 ^ h)) (base + 40) 15 1 (wM g q (va_up Na 0 (va_up (Na 0) (base + 40) (((Na 0) (base + 40)) ^^^ (1 * 2 ^ h)))) Ia Ns Is) dX6_turn_14 rfl rfl (by omega) (by decide) rfl ?_
  refine j_aload_n 16 dX6_turn_15 rfl 0 rfl ?_
  refine j_getf 19 0 dX6_turn_16 rfl fd_X6_7 rfl rfl ?_
  refine j_iconst (v := (4 : Int32)) 20 dX6_turn_19 rfl (by decide) ?_
  refine j_iconst (v := (4 : Int32)) 21 dX6_turn_20 rfl (by decide) ?_
  refine j_iload_n 22 dX6_turn_21 rfl 2 rfl ?_
  refine j_imulN 4 h 23 dX6_turn_22 rfl ?_
  refine j_iaddN 4 (4 * h) 24 dX6_turn_23 rfl ?_
  refine j_iconst (v := (2 : Int32)) 25 dX6_turn_24 rfl (by decide) ?_
  refine j_iaddN (4 + (4 * h)) 2 26 dX6_turn_25 rfl ?_
  refine j_ialdN ((4 + (4 * h)) + 2) 27 1 dX6_turn_26 rfl rfl (by omega) (by decide) ?_
  refine j_topN ((va_up (Na 0) (base + 40) (((Na 0) (base + 40)) ^^^ (1 * 2 ^ h))) ((4 + (4 * h)) + 2)) (Na 0 (4 + 4 * h + 2)) (va_up_n (by omega)) ?_
  refine j_istore_n 28 [(3, .int (nI (Na 0 (4 + 4 * h + 2)))), (0, .ref (q 26)), (1, .int (nI base)), (2, .int (nI h))] dX6_turn_27 rfl (by decide) rfl ?_
  refine j_iload_n 29 dX6_turn_28 rfl 0 rfl ?_
  refine j_if_leN (Na 0 (4 + 4 * h + 2)) 32 60 dX6_turn_29 rfl rfl (by have z0 := ht; omega) (fun h29 => ?_) (fun h29 => ?_)
  ·
    refine j_vret dX6_turn_60 rfl ⟨gLe rfl, gLe rfl, ?_⟩
    refine ⟨rfl, congrArg (fun z => wM g q (va_up Na 0 z) Ia Ns Is) ?_⟩
    first
      | (rw [bx_uu, turnA, if_pos ⟨Nat.not_le.mp h29, h40⟩, Nat.one_mul, Nat.one_mul])
      | (rw [turnA, if_neg (fun q => absurd q.1 (Nat.not_lt.mpr h29)), Nat.one_mul])
      | (rw [turnA, if_neg (fun q => q.2 h40), Nat.one_mul])
  ·
    refine j_aload_n 33 dX6_turn_32 rfl 1 rfl ?_
    refine j_iload_n 34 dX6_turn_33 rfl 0 rfl ?_
    refine j_iconst (v := (1 : Int32)) 35 dX6_turn_34 rfl (by decide) ?_
    refine j_isubN (Na 0 (4 + 4 * h + 2)) 1 36 dX6_turn_35 rfl (by omega) ?_
    refine j_callVW (rest := []) 39 (c_X6_sortOf g q (va_up Na 0 (va_up (Na 0) (base + 40) (((Na 0) (base + 40)) ^^^ (1 * 2 ^ h)))) Ia Ns Is ((Na 0 (4 + 4 * h + 2)) - 1) sk hs (by omega)) [.int (nI (srtO (va_up (Na 0) (base + 40) (((Na 0) (base + 40)) ^^^ (1 * 2 ^ h))) sk ((Na 0 (4 + 4 * h + 2)) - 1)))] dX6_turn_36 rfl cv_X6_170 rfl rfl 0 rfl rfl (gLe rfl) (gLe rfl) (gLe rfl) (gLe rfl) (wM_len _ _ _ _ _ _ _ _ _ _) rfl ?_
    refine j_topN (srtO (va_up (Na 0) (base + 40) (((Na 0) (base + 40)) ^^^ (1 * 2 ^ h))) sk ((Na 0 (4 + 4 * h + 2)) - 1)) (srtO (Na 0) sk (Na 0 (4 + 4 * h + 2) - 1)) (srtO_up (by omega)) ?_
    refine j_iconst (v := (2 : Int32)) 40 dX6_turn_39 rfl (by decide) ?_
    refine j_icmp_eqN (srtO (Na 0) sk (Na 0 (4 + 4 * h + 2) - 1)) 2 43 60 dX6_turn_40 rfl rfl (by have z0 := (okP_s hP (by omega) : srtO (Na 0) sk (Na 0 (4 + 4 * h + 2) - 1) ≤ 2); omega) (by decide) (fun h40 => ?_) (fun h40 => ?_)
    ·
      refine j_vret dX6_turn_60 rfl ⟨gLe rfl, gLe rfl, ?_⟩
      refine ⟨rfl, congrArg (fun z => wM g q (va_up Na 0 z) Ia Ns Is) ?_⟩
      first
        | (rw [bx_uu, turnA, if_pos ⟨Nat.not_le.mp h29, h40⟩, Nat.one_mul, Nat.one_mul])
        | (rw [turnA, if_neg (fun q => absurd q.1 (Nat.not_lt.mpr h29)), Nat.one_mul])
        | (rw [turnA, if_neg (fun q => q.2 h40), Nat.one_mul])
    ·
      refine j_aload_n 44 dX6_turn_43 rfl 1 rfl ?_
      refine j_getf 47 0 dX6_turn_44 rfl fd_X6_7 rfl rfl ?_
      refine j_iload_n 48 dX6_turn_47 rfl 2 rfl ?_
      refine j_bipush (v := (40 : Int32)) 50 dX6_turn_48 rfl (by decide) ?_
      refine j_iaddN base 40 51 dX6_turn_50 rfl ?_
      refine j_dup2 52 dX6_turn_51 rfl rfl rfl ?_
      refine j_ialdN (base + 40) 53 1 dX6_turn_52 rfl rfl (by omega) (by decide) ?_
      refine j_topN ((va_up (Na 0) (base + 40) (((Na 0) (base + 40)) ^^^ (1 * 2 ^ h))) (base + 40)) (Na 0 (base + 40) ^^^ 1 * 2 ^ h) va_up_s ?_
      refine j_iconst (v := (1 : Int32)) 54 dX6_turn_53 rfl (by decide) ?_
      refine j_iload_n 55 dX6_turn_54 rfl 0 rfl ?_
      refine j_iconst (v := (1 : Int32)) 56 dX6_turn_55 rfl (by decide) ?_
      refine j_isubN (Na 0 (4 + 4 * h + 2)) 1 57 dX6_turn_56 rfl (by omega) ?_
      refine j_ishlN 1 ((Na 0 (4 + 4 * h + 2)) - 1) 58 dX6_turn_57 rfl (by omega) (by rw [Nat.one_mul]; exact Nat.lt_trans (pow_lt32 (by omega)) (by decide)) ?_
      refine j_ixorN (Na 0 (base + 40) ^^^ 1 * 2 ^ h) (1 * 2 ^ ((Na 0 (4 + 4 * h + 2)) - 1)) 59 dX6_turn_58 rfl ?_
      refine j_iastN ((Na 0 (base + 40) ^^^ 1 * 2 ^ h) ^^^ (1 * 2 ^ ((Na 0 (4 + 4 * h + 2)) - 1))) (base + 40) 60 1 (wM g q (va_up Na 0 (va_up (va_up (Na 0) (base + 40) (((Na 0) (base + 40)) ^^^ (1 * 2 ^ h))) (base + 40) ((Na 0 (base + 40) ^^^ 1 * 2 ^ h) ^^^ (1 * 2 ^ ((Na 0 (4 + 4 * h + 2)) - 1))))) Ia Ns Is) dX6_turn_59 rfl rfl (by omega) (by decide) rfl ?_
      refine j_vret dX6_turn_60 rfl ⟨gLe rfl, gLe rfl, ?_⟩
      refine ⟨rfl, congrArg (fun z => wM g q (va_up Na 0 z) Ia Ns Is) ?_⟩
      first
        | (rw [bx_uu, turnA, if_pos ⟨Nat.not_le.mp h29, h40⟩, Nat.one_mul, Nat.one_mul])
        | (rw [turnA, if_neg (fun q => absurd q.1 (Nat.not_lt.mpr h29)), Nat.one_mul])
        | (rw [turnA, if_neg (fun q => q.2 h40), Nat.one_mul])
