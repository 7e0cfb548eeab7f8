def rgW (g : gG) (rA rB : Nat → Nat) (i : Nat) : va_W := [(rA i, .inr (1, [.ref (rB i), .int 0, .int (-1)])), (rB i, .inl (g.2.1 0, 40, .inl (fun _ => 0)))]
def sgW (g : gG) (p : Nat) (a b c d : Nat → Nat) (i : Nat) : va_W := stW g (a i) (b i) (c i) (d i) p zL0
theorem rgW_s {g : gG} {rA rB : Nat → Nat} {k q r : Nat} : fl k (rgW g rA rB) ++ [(q, .inr (1, [.ref r, .int 0, .int (-1)])), (r, .inl (g.2.1 0, 40, .inl (fun _ => 0)))] = fl (k + 1) (rgW g (va_up rA k q) (va_up rB k r)) := by
  rw [fl_s]
  congr 1
  · exact fl_ext (fun i hi => by unfold rgW; rw [va_up_n (by omega), va_up_n (by omega)])
  · unfold rgW; rw [va_up_s, va_up_s]
theorem sgW_s {g : gG} {a b c d : Nat → Nat} {k p q r s t : Nat} : fl k (sgW g p a b c d) ++ stW g q r s t p zL0 = fl (k + 1) (sgW g p (va_up a k q) (va_up b k r) (va_up c k s) (va_up d k t)) := by
  rw [fl_s]
  congr 1
  · exact fl_ext (fun i hi => by unfold sgW; rw [va_up_n (by omega), va_up_n (by omega), va_up_n (by omega), va_up_n (by omega)])
  · unfold sgW; rw [va_up_s, va_up_s, va_up_s, va_up_s]
theorem perm_end (E X T : va_W) : List.Perm ((E ++ X) ++ T) (E ++ (T ++ X)) := by
  rw [List.append_assoc]; exact List.Perm.append_left E List.perm_append_comm
theorem perm_end2 (E X T F : va_W) : List.Perm ((E ++ X) ++ (T ++ F)) (E ++ (T ++ (F ++ X))) := by
  rw [List.append_assoc, ← List.append_assoc T F X]; exact List.Perm.append_left E List.perm_append_comm
theorem perm_ini (A T M Pp S F1 F2 F3 : va_W) : List.Perm ((A ++ (T ++ (M ++ (Pp ++ S)))) ++ ((F1 ++ F2) ++ F3)) ((A ++ (M ++ (T ++ S))) ++ (F1 ++ (F2 ++ (F3 ++ (Pp ++ []))))) := by
  simp only [List.append_assoc, List.append_nil]
  refine List.Perm.append_left A ?_
  refine (mv2 T M _).trans (List.Perm.append_left M (List.Perm.append_left T ?_))
  refine List.perm_append_comm.trans ?_
  simp only [List.append_assoc]
  exact List.Perm.refl _
/-- the addresses of a new object of the class -/
def iniU (F rA rB a b c d a2 b2 c2 d2 : Nat → Nat) : Nat → Nat := fun k => if k < 30 then F k else if k < 100 then (if (k - 30) % 2 = 0 then rA ((k - 30) / 2) else rB ((k - 30) / 2)) else if k < 200 then (if (k - 100) % 4 = 0 then a ((k - 100) / 4) else if (k - 100) % 4 = 1 then b ((k - 100) / 4) else if (k - 100) % 4 = 2 then c ((k - 100) / 4) else d ((k - 100) / 4)) else (if (k - 200) % 4 = 0 then a2 ((k - 200) / 4) else if (k - 200) % 4 = 1 then b2 ((k - 200) / 4) else if (k - 200) % 4 = 2 then c2 ((k - 200) / 4) else d2 ((k - 200) / 4))
section INU
variable {F rA rB a b c d a2 b2 c2 d2 : Nat → Nat}
theorem iniU_r {r : Nat} (h : r < 8) : iniU F rA rB a b c d a2 b2 c2 d2 (30 + 2 * r) = rA r ∧ iniU F rA rB a b c d a2 b2 c2 d2 (31 + 2 * r) = rB r := by
  unfold iniU
  constructor
  · rw [if_neg (by omega), if_pos (by omega), if_pos (by omega)]; exact congrArg rA (by omega)
  · rw [if_neg (by omega), if_pos (by omega), if_neg (by omega)]; exact congrArg rB (by omega)
theorem iniU_a {k : Nat} (h : k < 24) : iniU F rA rB a b c d a2 b2 c2 d2 (100 + 4 * k) = a k ∧ iniU F rA rB a b c d a2 b2 c2 d2 (101 + 4 * k) = b k ∧ iniU F rA rB a b c d a2 b2 c2 d2 (102 + 4 * k) = c k ∧ iniU F rA rB a b c d a2 b2 c2 d2 (103 + 4 * k) = d k := by
  unfold iniU
  refine ⟨?_, ?_, ?_, ?_⟩
  · rw [if_neg (by omega), if_neg (by omega), if_pos (by omega), if_pos (by omega)]; exact congrArg a (by omega)
  · rw [if_neg (by omega), if_neg (by omega), if_pos (by omega), if_neg (by omega), if_pos (by omega)]; exact congrArg b (by omega)
  · rw [if_neg (by omega), if_neg (by omega), if_pos (by omega), if_neg (by omega), if_neg (by omega), if_pos (by omega)]; exact congrArg c (by omega)
  · rw [if_neg (by omega), if_neg (by omega), if_pos (by omega), if_neg (by omega), if_neg (by omega), if_neg (by omega)]; exact congrArg d (by omega)
theorem iniU_i {k : Nat} (h : k < 2) : iniU F rA rB a b c d a2 b2 c2 d2 (200 + 4 * k) = a2 k ∧ iniU F rA rB a b c d a2 b2 c2 d2 (201 + 4 * k) = b2 k ∧ iniU F rA rB a b c d a2 b2 c2 d2 (202 + 4 * k) = c2 k ∧ iniU F rA rB a b c d a2 b2 c2 d2 (203 + 4 * k) = d2 k := by
  unfold iniU
  refine ⟨?_, ?_, ?_, ?_⟩
  · rw [if_neg (by omega), if_neg (by omega), if_neg (by omega), if_pos (by omega)]; exact congrArg a2 (by omega)
  · rw [if_neg (by omega), if_neg (by omega), if_neg (by omega), if_neg (by omega), if_pos (by omega)]; exact congrArg b2 (by omega)
  · rw [if_neg (by omega), if_neg (by omega), if_neg (by omega), if_neg (by omega), if_neg (by omega), if_pos (by omega)]; exact congrArg c2 (by omega)
  · rw [if_neg (by omega), if_neg (by omega), if_neg (by omega), if_neg (by omega), if_neg (by omega), if_neg (by omega)]; exact congrArg d2 (by omega)
end INU
abbrev S0 : RS := (fun _ _ => 0, va_up (fun _ _ => 0) 7 lnZ, fun _ => 0, va_up (fun _ => 0) 12 (-1000000))
theorem stOK_0 : stOK zL0 (fun _ => 0) := ⟨rfl, by funext x; show (0 : Nat) = if x < 5 then 0 else 0; split <;> rfl, fun _ _ => ⟨rfl, rfl⟩⟩
theorem ini_cR {g : gG} {F rA rB a b c d a2 b2 c2 d2 : Nat → Nat} {rf af mf : Nat → Option Nat} {p0 p1 p2 p3 p4 p5 p6 : Nat} {ws : va_W} (hr : ∀ i, i < 8 → rf i = some (rA i)) (ha : ∀ i, i < 24 → af i = some (a i)) (hm : ∀ i, i < 2 → mf i = some (a2 i))
    (hp : List.Perm ws (mnW g (iniU F rA rB a b c d a2 b2 c2 d2) none 0 0 0 0 0 rf af mf (fun _ => 0) 0 0 0 0 0 0 (fun _ => 0) p0 p0 p0 zL0 zL0 zL0 ++ (fl 8 (rgW g rA rB) ++ (fl 24 (sgW g p0 a b c d) ++ (fl 2 (sgW g p0 a2 b2 c2 d2) ++ (plW g p0 p1 p2 p3 p4 p5 p6 zL0 ++ [])))))) : cR g (iniU F rA rB a b c d a2 b2 c2 d2) S0 ws := by
  have hh : hasP g 1 (fun _ => plW g p0 p1 p2 p3 p4 p5 p6 zL0) (fun _ => zL0) 0 p0 := ⟨by decide, p1, p2, p3, p4, p5, p6, rfl⟩
  have hz : Z5 (zL0 1) := fun _ _ => rfl
  refine ⟨none, 0, 0, 0, 0, 0, rf, af, mf, fun _ => 0, 0, 0, 0, 0, 0, 0, fun _ => 0, p0, p0, p0, zL0, zL0, zL0, rgW g rA rB, sgW g p0 a b c d, sgW g p0 a2 b2 c2 d2, 1, fun _ => plW g p0 p1 p2 p3 p4 p5 p6 zL0, fun _ => zL0, [], ⟨fun i hi => ?_, fun i hi => ?_, fun i hi => ?_⟩, ⟨rfl, rfl, rfl, rfl, rfl, rfl, rfl⟩, fun r hr2 => ?_, ⟨⟨0, hh, ?_⟩, stOK_0⟩, ⟨by decide, fun k hk => ?_, fun j hj => absurd hj (Nat.not_lt_zero _)⟩, fun k hk => ?_, Or.inl ⟨rfl, rfl⟩, hz, hz, ?_⟩
  · rw [(iniU_r hi).1]; exact hr i hi
  · rw [(iniU_a hi).1]; exact ha i hi
  · rw [(iniU_i hi).1]; exact hm i hi
  · refine ⟨0, -1, fun _ => 0, ?_, fun _ => rfl, fun y => absurd (lnZ_at r hr2) y⟩
    unfold rgW rwW
    rw [(iniU_r hr2).1, (iniU_r hr2).2]
  · exact ⟨rfl, rfl, rfl, fun h hh2 => absurd hh2 (Nat.not_lt_zero _), fun h hh2 => absurd hh2 (Nat.not_lt_zero _)⟩
  · refine ⟨p0, zL0, ?_, hz⟩
    unfold sgW acW
    rw [(iniU_a hk).1, (iniU_a hk).2.1, (iniU_a hk).2.2.1, (iniU_a hk).2.2.2]
  · refine ⟨0, p0, zL0, hh, ?_, hz, fun _ => rfl, fun y => absurd rfl y⟩
    unfold sgW imW
    rw [(iniU_i hk).1, (iniU_i hk).2.1, (iniU_i hk).2.2.1, (iniU_i hk).2.2.2]
  · have e : fl 1 (fun _ => plW g p0 p1 p2 p3 p4 p5 p6 zL0) = plW g p0 p1 p2 p3 p4 p5 p6 zL0 := by rw [fl_s, fl_0, List.nil_append]
    unfold tlW
    rw [e]
    exact hp
