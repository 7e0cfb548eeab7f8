def nF (f : Nat → Nat) : Nat → Int32 := fun k => nI (f k)
theorem nF_up (f : Nat → Nat) (i v : Nat) : upd (nF f) i (nI v) = nF (va_up f i v) := by
  funext k
  simp only [upd, nF, va_up]
  split <;> rfl
theorem vin {i c : Int32} {N : Nat} (hc : c.toInt = N) (h : 0 ≤ i ∧ i < c) : vp_in i N := by
  rw [vp_in_iff]
  have h1 := Int32.le_iff_toInt_le.mp h.1
  have h2 := Int32.lt_iff_toInt_lt.mp h.2
  rw [hc] at h2
  exact ⟨h1, h2⟩
theorem gI_of {x c : Int32} {n : Nat} (hc : c.toInt = n) (h0 : 0 ≤ x) (h1 : x < c) : ∃ a : Nat, a < n ∧ x = nI a := by
  have h2 := Int32.le_iff_toInt_le.mp h0
  have h3 := Int32.lt_iff_toInt_lt.mp h1
  have e0 : (0 : Int32).toInt = 0 := by decide
  rw [e0] at h2
  rw [hc] at h3
  refine ⟨x.toInt.toNat, by omega, ?_⟩
  apply Int32.toInt_inj.mp
  rw [nI_toInt]
  · omega
  · have := Int32.toInt_lt x
    omega
def gB (c : Prop) [Decidable c] : Int32 := if c then 1 else 0
theorem gB_t {c : Prop} [Decidable c] (h : c) : gB c = 1 := if_pos h
theorem gB_f {c : Prop} [Decidable c] (h : ¬ c) : gB c = 0 := if_neg h
theorem gB_1 {c : Prop} [Decidable c] : gB c = 1 ↔ c := by unfold gB; split <;> simp_all
theorem gB_0 {c : Prop} [Decidable c] : gB c = 0 ↔ ¬ c := by unfold gB; split <;> simp_all
theorem gB_nar {c : Prop} [Decidable c] : narrow .boolean (.int (gB c)) = .int (gB c) := by unfold gB; split <;> decide
theorem gB_iff {c c' : Prop} [Decidable c] [Decidable c'] (h : c ↔ c') : gB c = gB c' := by
  by_cases hc : c
  · rw [gB_t hc, gB_t (h.mp hc)]
  · rw [gB_f hc, gB_f (fun q => hc (h.mpr q))]
theorem nB_nar {a : Nat} (h : a ≤ 1) : vp_nar .boolean (nI a) = nI a := by
  rcases (show a = 0 ∨ a = 1 by omega) with rfl | rfl <;> decide
theorem gm_and (a b : Nat) : nI a &&& nI b = nI (a &&& b) := by
  apply Int32.toBitVec_inj.mp
  simp only [nI, Int32.toBitVec_and]
  apply BitVec.eq_of_toNat_eq
  simp [Int32.toBitVec_ofNat', Nat.and_mod_two_pow]
theorem gm_xor (a b : Nat) : nI a ^^^ nI b = nI (a ^^^ b) := by
  apply Int32.toBitVec_inj.mp
  simp only [nI, Int32.toBitVec_xor]
  apply BitVec.eq_of_toNat_eq
  simp [Int32.toBitVec_ofNat', Nat.xor_mod_two_pow]
theorem gm_or (a b : Nat) : nI a ||| nI b = nI (a ||| b) := by
  apply Int32.toBitVec_inj.mp
  simp only [nI, Int32.toBitVec_or]
  apply BitVec.eq_of_toNat_eq
  simp [Int32.toBitVec_ofNat', Nat.or_mod_two_pow]
theorem gm_s : ∀ n, n < 32 → ((nI n &&& 31).toBitVec.smod 32).toNat = n := by decide
theorem gm_shl {a b : Nat} (hb : b < 32) (h : a * 2 ^ b < 2 ^ 32) : nI a <<< (nI b &&& 31) = nI (a * 2 ^ b) := pk_shlN _ b (gm_s b hb) h
theorem gm_shr {a b : Nat} (hb : b < 32) (h : a < 2 ^ 31) : nI a >>> (nI b &&& 31) = nI (a / 2 ^ b) := pk_shrN h _ b (gm_s b hb)
section GNN
variable {g : gG} {y : gM} {d rc rs : Nat} {Post : Nat → Nat → Option Value → va_W → Prop} {k j pc : Nat} {lv : List (Nat × Value)} {st : List Value} {ws : va_W}
theorem j_iaddN (a b : Nat) (n : Nat) (hd : decode y.2.1 pc = .ok (.iadd, 1)) (hn : pc + 1 = n)  (kk : gJ g y d rc rs Post k j n lv (.int (nI (a + b)) :: st) ws) : gJ g y d rc rs Post k j pc lv (.int (nI b) :: .int (nI a) :: st) ws := j_iadd n hd hn (by rw [nI_add]; exact kk)
theorem j_isubN (a b : Nat) (n : Nat) (hd : decode y.2.1 pc = .ok (.isub, 1)) (hn : pc + 1 = n) (h : b ≤ a) (kk : gJ g y d rc rs Post k j n lv (.int (nI (a - b)) :: st) ws) : gJ g y d rc rs Post k j pc lv (.int (nI b) :: .int (nI a) :: st) ws := j_isub n hd hn (by rw [pk_sub h]; exact kk)
theorem j_imulN (a b : Nat) (n : Nat) (hd : decode y.2.1 pc = .ok (.imul, 1)) (hn : pc + 1 = n)  (kk : gJ g y d rc rs Post k j n lv (.int (nI (a * b)) :: st) ws) : gJ g y d rc rs Post k j pc lv (.int (nI b) :: .int (nI a) :: st) ws := j_imul n hd hn (by rw [pk_mul]; exact kk)
theorem j_idivN (a b : Nat) (n : Nat) (hd : decode y.2.1 pc = .ok (.idiv, 1)) (hn : pc + 1 = n) (ha : a < 2147483648) (h0 : 0 < b) (hb : b < 2147483648) (kk : gJ g y d rc rs Post k j n lv (.int (nI (a / b)) :: st) ws) : gJ g y d rc rs Post k j pc lv (.int (nI b) :: .int (nI a) :: st) ws := j_idiv n hd hn (nI_ne0 h0 hb) (by rw [pk_div ha h0 hb]; exact kk)
theorem j_iremN (a b : Nat) (n : Nat) (hd : decode y.2.1 pc = .ok (.irem, 1)) (hn : pc + 1 = n) (ha : a < 2147483648) (h0 : 0 < b) (hb : b < 2147483648) (kk : gJ g y d rc rs Post k j n lv (.int (nI (a % b)) :: st) ws) : gJ g y d rc rs Post k j pc lv (.int (nI b) :: .int (nI a) :: st) ws := j_irem n hd hn (nI_ne0 h0 hb) (by rw [pk_rem ha h0 hb]; exact kk)
theorem j_iandN (a b : Nat) (n : Nat) (hd : decode y.2.1 pc = .ok (.iand, 1)) (hn : pc + 1 = n)  (kk : gJ g y d rc rs Post k j n lv (.int (nI (a &&& b)) :: st) ws) : gJ g y d rc rs Post k j pc lv (.int (nI b) :: .int (nI a) :: st) ws := j_iand n hd hn (by rw [gm_and]; exact kk)
theorem j_iorN (a b : Nat) (n : Nat) (hd : decode y.2.1 pc = .ok (.ior, 1)) (hn : pc + 1 = n)  (kk : gJ g y d rc rs Post k j n lv (.int (nI (a ||| b)) :: st) ws) : gJ g y d rc rs Post k j pc lv (.int (nI b) :: .int (nI a) :: st) ws := j_ior n hd hn (by rw [gm_or]; exact kk)
theorem j_ixorN (a b : Nat) (n : Nat) (hd : decode y.2.1 pc = .ok (.ixor, 1)) (hn : pc + 1 = n)  (kk : gJ g y d rc rs Post k j n lv (.int (nI (a ^^^ b)) :: st) ws) : gJ g y d rc rs Post k j pc lv (.int (nI b) :: .int (nI a) :: st) ws := j_ixor n hd hn (by rw [gm_xor]; exact kk)
theorem j_ishlN (a b : Nat) (n : Nat) (hd : decode y.2.1 pc = .ok (.ishl, 1)) (hn : pc + 1 = n) (hb : b < 32) (h : a * 2 ^ b < 4294967296) (kk : gJ g y d rc rs Post k j n lv (.int (nI (a * 2 ^ b)) :: st) ws) : gJ g y d rc rs Post k j pc lv (.int (nI b) :: .int (nI a) :: st) ws := j_ishl n hd hn (by rw [gm_shl hb h]; exact kk)
theorem j_ishrN (a b : Nat) (n : Nat) (hd : decode y.2.1 pc = .ok (.ishr, 1)) (hn : pc + 1 = n) (hb : b < 32) (h : a < 2147483648) (kk : gJ g y d rc rs Post k j n lv (.int (nI (a / 2 ^ b)) :: st) ws) : gJ g y d rc rs Post k j pc lv (.int (nI b) :: .int (nI a) :: st) ws := j_ishr n hd hn (by rw [gm_shr hb h]; exact kk)
theorem j_iincN {i : Nat} (a c : Nat) (n : Nat) (lv2 : List (Nat × Value)) (hd : decode y.2.1 pc = .ok (.iinc i (c : Int), 3)) (hn : pc + 3 = n) (kp : Nat) (hk : lv[kp]? = some (i, .int (nI a))) (hi : i < y.2.2.1) (hv : (i, Value.int (nI (a + c))) :: lv.filter (fun q => !(q.1 == i) && !(q.1 + 1 == i && q.2.category == 2)) = lv2) (kk : gJ g y d rc rs Post k j n lv2 st ws) : gJ g y d rc rs Post k j pc lv st ws := j_iinc n lv2 hd hn kp hk (by rw [← nI_add]; rfl) hi hv kk
theorem j_iincM {i : Nat} (a : Nat) (n : Nat) (lv2 : List (Nat × Value)) (hd : decode y.2.1 pc = .ok (.iinc i (-1), 3)) (hn : pc + 3 = n) (kp : Nat) (hk : lv[kp]? = some (i, .int (nI (a + 1)))) (hi : i < y.2.2.1) (hv : (i, Value.int (nI a)) :: lv.filter (fun q => !(q.1 == i) && !(q.1 + 1 == i && q.2.category == 2)) = lv2) (kk : gJ g y d rc rs Post k j n lv2 st ws) : gJ g y d rc rs Post k j pc lv st ws := j_iinc n lv2 hd hn kp hk (pk_m1 a) hi hv kk
theorem j_icmp_eqN (a b : Nat) {off : Int} (n t : Nat) (hd : decode y.2.1 pc = .ok (.if_icmp .eq off, 3)) (hn : pc + 3 = n) (ht : (pc : Int) + off = (t : Int)) (ha : a < 2147483648) (hb : b < 2147483648) (kt : a = b → gJ g y d rc rs Post k j t lv st ws) (kf : ¬ a = b → gJ g y d rc rs Post k j n lv st ws) : gJ g y d rc rs Post k j pc lv (.int (nI b) :: .int (nI a) :: st) ws := j_icmp_eq n t hd hn ht (fun z => kt ((nI_eq ha hb).mp z)) (fun z => kf (fun q => z ((nI_eq ha hb).mpr q)))
theorem j_icmp_neN (a b : Nat) {off : Int} (n t : Nat) (hd : decode y.2.1 pc = .ok (.if_icmp .ne off, 3)) (hn : pc + 3 = n) (ht : (pc : Int) + off = (t : Int)) (ha : a < 2147483648) (hb : b < 2147483648) (kt : ¬ a = b → gJ g y d rc rs Post k j t lv st ws) (kf : a = b → gJ g y d rc rs Post k j n lv st ws) : gJ g y d rc rs Post k j pc lv (.int (nI b) :: .int (nI a) :: st) ws := j_icmp_ne n t hd hn ht (fun z => kt (fun q => z ((nI_eq ha hb).mpr q))) (fun z => kf ((nI_eq ha hb).mp z))
theorem j_icmp_ltN (a b : Nat) {off : Int} (n t : Nat) (hd : decode y.2.1 pc = .ok (.if_icmp .lt off, 3)) (hn : pc + 3 = n) (ht : (pc : Int) + off = (t : Int)) (ha : a < 2147483648) (hb : b < 2147483648) (kt : a < b → gJ g y d rc rs Post k j t lv st ws) (kf : ¬ a < b → gJ g y d rc rs Post k j n lv st ws) : gJ g y d rc rs Post k j pc lv (.int (nI b) :: .int (nI a) :: st) ws := j_icmp_lt n t hd hn ht (fun z => kt ((nI_ltI ha hb).mp z)) (fun z => kf (fun q => z ((nI_ltI ha hb).mpr q)))
theorem j_icmp_geN (a b : Nat) {off : Int} (n t : Nat) (hd : decode y.2.1 pc = .ok (.if_icmp .ge off, 3)) (hn : pc + 3 = n) (ht : (pc : Int) + off = (t : Int)) (ha : a < 2147483648) (hb : b < 2147483648) (kt : b ≤ a → gJ g y d rc rs Post k j t lv st ws) (kf : ¬ b ≤ a → gJ g y d rc rs Post k j n lv st ws) : gJ g y d rc rs Post k j pc lv (.int (nI b) :: .int (nI a) :: st) ws := j_icmp_ge n t hd hn ht (fun z => kt ((nI_leI hb ha).mp z)) (fun z => kf (fun q => z ((nI_leI hb ha).mpr q)))
theorem j_icmp_gtN (a b : Nat) {off : Int} (n t : Nat) (hd : decode y.2.1 pc = .ok (.if_icmp .gt off, 3)) (hn : pc + 3 = n) (ht : (pc : Int) + off = (t : Int)) (ha : a < 2147483648) (hb : b < 2147483648) (kt : b < a → gJ g y d rc rs Post k j t lv st ws) (kf : ¬ b < a → gJ g y d rc rs Post k j n lv st ws) : gJ g y d rc rs Post k j pc lv (.int (nI b) :: .int (nI a) :: st) ws := j_icmp_gt n t hd hn ht (fun z => kt ((nI_ltI hb ha).mp z)) (fun z => kf (fun q => z ((nI_ltI hb ha).mpr q)))
theorem j_icmp_leN (a b : Nat) {off : Int} (n t : Nat) (hd : decode y.2.1 pc = .ok (.if_icmp .le off, 3)) (hn : pc + 3 = n) (ht : (pc : Int) + off = (t : Int)) (ha : a < 2147483648) (hb : b < 2147483648) (kt : a ≤ b → gJ g y d rc rs Post k j t lv st ws) (kf : ¬ a ≤ b → gJ g y d rc rs Post k j n lv st ws) : gJ g y d rc rs Post k j pc lv (.int (nI b) :: .int (nI a) :: st) ws := j_icmp_le n t hd hn ht (fun z => kt ((nI_leI ha hb).mp z)) (fun z => kf (fun q => z ((nI_leI ha hb).mpr q)))
theorem j_if_eqN (a : Nat) {off : Int} (n t : Nat) (hd : decode y.2.1 pc = .ok (.ifCond .eq off, 3)) (hn : pc + 3 = n) (ht : (pc : Int) + off = (t : Int)) (ha : a < 2147483648) (kt : a = 0 → gJ g y d rc rs Post k j t lv st ws) (kf : ¬ a = 0 → gJ g y d rc rs Post k j n lv st ws) : gJ g y d rc rs Post k j pc lv (.int (nI a) :: st) ws := j_if_eq n t hd hn ht (fun z => kt ((nI_eq ha (show 0 < 2 ^ 31 by decide)).mp z)) (fun z => kf (fun q => z ((nI_eq ha (show 0 < 2 ^ 31 by decide)).mpr q)))
theorem j_if_neN (a : Nat) {off : Int} (n t : Nat) (hd : decode y.2.1 pc = .ok (.ifCond .ne off, 3)) (hn : pc + 3 = n) (ht : (pc : Int) + off = (t : Int)) (ha : a < 2147483648) (kt : ¬ a = 0 → gJ g y d rc rs Post k j t lv st ws) (kf : a = 0 → gJ g y d rc rs Post k j n lv st ws) : gJ g y d rc rs Post k j pc lv (.int (nI a) :: st) ws := j_if_ne n t hd hn ht (fun z => kt (fun q => z ((nI_eq ha (show 0 < 2 ^ 31 by decide)).mpr q))) (fun z => kf ((nI_eq ha (show 0 < 2 ^ 31 by decide)).mp z))
theorem j_if_gtN (a : Nat) {off : Int} (n t : Nat) (hd : decode y.2.1 pc = .ok (.ifCond .gt off, 3)) (hn : pc + 3 = n) (ht : (pc : Int) + off = (t : Int)) (ha : a < 2147483648) (kt : 0 < a → gJ g y d rc rs Post k j t lv st ws) (kf : ¬ 0 < a → gJ g y d rc rs Post k j n lv st ws) : gJ g y d rc rs Post k j pc lv (.int (nI a) :: st) ws := j_if_gt n t hd hn ht (fun z => kt ((nI_ltI (show 0 < 2 ^ 31 by decide) ha).mp z)) (fun z => kf (fun q => z ((nI_ltI (show 0 < 2 ^ 31 by decide) ha).mpr q)))
theorem j_if_leN (a : Nat) {off : Int} (n t : Nat) (hd : decode y.2.1 pc = .ok (.ifCond .le off, 3)) (hn : pc + 3 = n) (ht : (pc : Int) + off = (t : Int)) (ha : a < 2147483648) (kt : a ≤ 0 → gJ g y d rc rs Post k j t lv st ws) (kf : ¬ a ≤ 0 → gJ g y d rc rs Post k j n lv st ws) : gJ g y d rc rs Post k j pc lv (.int (nI a) :: st) ws := j_if_le n t hd hn ht (fun z => kt ((nI_leI ha (show 0 < 2 ^ 31 by decide)).mp z)) (fun z => kf (fun q => z ((nI_leI ha (show 0 < 2 ^ 31 by decide)).mpr q)))
theorem j_if_ltN (a : Nat) {off : Int} (n : Nat) (hd : decode y.2.1 pc = .ok (.ifCond .lt off, 3)) (hn : pc + 3 = n) {t : Nat} (ht : (pc : Int) + off = (t : Int)) (ha : a < 2147483648) (kf : gJ g y d rc rs Post k j n lv st ws) : gJ g y d rc rs Post k j pc lv (.int (nI a) :: st) ws := j_if_lt n t hd hn ht (fun z => absurd z (nI_pos ha)) (fun _ => kf)
theorem j_if_geN (a : Nat) {off : Int} (t : Nat) {n : Nat} (hd : decode y.2.1 pc = .ok (.ifCond .ge off, 3)) (hn : pc + 3 = n) (ht : (pc : Int) + off = (t : Int)) (ha : a < 2147483648) (kt : gJ g y d rc rs Post k j t lv st ws) : gJ g y d rc rs Post k j pc lv (.int (nI a) :: st) ws := j_if_ge n t hd hn ht (fun _ => kt) (fun z => absurd (nI_pos' ha) z)
theorem j_if_eqB {c : Prop} {ic : Decidable c} {off : Int} (n t : Nat) (hd : decode y.2.1 pc = .ok (.ifCond .eq off, 3)) (hn : pc + 3 = n) (ht : (pc : Int) + off = (t : Int)) (kt : ¬ c → gJ g y d rc rs Post k j t lv st ws) (kf : c → gJ g y d rc rs Post k j n lv st ws) : gJ g y d rc rs Post k j pc lv (.int (@gB c ic) :: st) ws := j_if_eq n t hd hn ht (fun z => kt (gB_0.mp z)) (fun z => kf (Classical.byContradiction fun q => z (gB_0.mpr q)))
theorem j_if_neB {c : Prop} {ic : Decidable c} {off : Int} (n t : Nat) (hd : decode y.2.1 pc = .ok (.ifCond .ne off, 3)) (hn : pc + 3 = n) (ht : (pc : Int) + off = (t : Int)) (kt : c → gJ g y d rc rs Post k j t lv st ws) (kf : ¬ c → gJ g y d rc rs Post k j n lv st ws) : gJ g y d rc rs Post k j pc lv (.int (@gB c ic) :: st) ws := j_if_ne n t hd hn ht (fun z => kt (Classical.byContradiction fun q => z (gB_0.mpr q))) (fun z => kf (gB_0.mp z))
theorem j_ialdR {a N : Nat} {f : Nat → Int32} (i : Nat) (n q0 : Nat) (hd : decode y.2.1 pc = .ok (.iaload, 1)) (hn : pc + 1 = n) (he : ws[q0]? = some (a, .inl (g.2.1 0, N, .inl f))) (hi : i < N) (hN : N < 2147483648) (kk : gJ g y d rc rs Post k j n lv (.int (f i) :: st) ws) : gJ g y d rc rs Post k j pc lv (.int (nI i) :: .ref a :: st) ws := j_iald n q0 hd hn he (vp_in_nI hi hN) (by rw [nI_clamp (by omega)]; exact kk)
theorem j_ialdN {a N : Nat} {f : Nat → Nat} (i : Nat) (n q0 : Nat) (hd : decode y.2.1 pc = .ok (.iaload, 1)) (hn : pc + 1 = n) (he : ws[q0]? = some (a, .inl (g.2.1 0, N, .inl (nF f)))) (hi : i < N) (hN : N < 2147483648) (kk : gJ g y d rc rs Post k j n lv (.int (nI (f i)) :: st) ws) : gJ g y d rc rs Post k j pc lv (.int (nI i) :: .ref a :: st) ws := j_ialdR i n q0 hd hn he hi hN kk
theorem j_baldR {a N : Nat} {f : Nat → Int32} (i : Nat) (n q0 : Nat) (hd : decode y.2.1 pc = .ok (.baload, 1)) (hn : pc + 1 = n) (he : ws[q0]? = some (a, .inl (g.2.1 1, N, .inl f))) (hi : i < N) (hN : N < 2147483648) (kk : gJ g y d rc rs Post k j n lv (.int (f i) :: st) ws) : gJ g y d rc rs Post k j pc lv (.int (nI i) :: .ref a :: st) ws := j_bald n q0 hd hn he (vp_in_nI hi hN) (by rw [nI_clamp (by omega)]; exact kk)
theorem j_baldN {a N : Nat} {f : Nat → Nat} (i : Nat) (n q0 : Nat) (hd : decode y.2.1 pc = .ok (.baload, 1)) (hn : pc + 1 = n) (he : ws[q0]? = some (a, .inl (g.2.1 1, N, .inl (nF f)))) (hi : i < N) (hN : N < 2147483648) (kk : gJ g y d rc rs Post k j n lv (.int (nI (f i)) :: st) ws) : gJ g y d rc rs Post k j pc lv (.int (nI i) :: .ref a :: st) ws := j_baldR i n q0 hd hn he hi hN kk
theorem j_zaldR {a N : Nat} {f : Nat → Int32} (i : Nat) (n q0 : Nat) (hd : decode y.2.1 pc = .ok (.baload, 1)) (hn : pc + 1 = n) (he : ws[q0]? = some (a, .inl (g.2.1 2, N, .inl f))) (hi : i < N) (hN : N < 2147483648) (kk : gJ g y d rc rs Post k j n lv (.int (f i) :: st) ws) : gJ g y d rc rs Post k j pc lv (.int (nI i) :: .ref a :: st) ws := j_zald n q0 hd hn he (vp_in_nI hi hN) (by rw [nI_clamp (by omega)]; exact kk)
theorem j_zaldN {a N : Nat} {f : Nat → Nat} (i : Nat) (n q0 : Nat) (hd : decode y.2.1 pc = .ok (.baload, 1)) (hn : pc + 1 = n) (he : ws[q0]? = some (a, .inl (g.2.1 2, N, .inl (nF f)))) (hi : i < N) (hN : N < 2147483648) (kk : gJ g y d rc rs Post k j n lv (.int (nI (f i)) :: st) ws) : gJ g y d rc rs Post k j pc lv (.int (nI i) :: .ref a :: st) ws := j_zaldR i n q0 hd hn he hi hN kk
theorem j_iastR {a N : Nat} {f : Nat → Int32} {x : Int32} (i : Nat) (n q0 : Nat) (ws2 : va_W) (hd : decode y.2.1 pc = .ok (.iastore, 1)) (hn : pc + 1 = n) (he : ws[q0]? = some (a, .inl (g.2.1 0, N, .inl f))) (hi : i < N) (hN : N < 2147483648) (hw2 : ws.set q0 (a, .inl (g.2.1 0, N, .inl (upd f i x))) = ws2) (kk : gJ g y d rc rs Post k j n lv st ws2) : gJ g y d rc rs Post k j pc lv (.int x :: .int (nI i) :: .ref a :: st) ws := j_iast n q0 ws2 hd hn he (vp_in_nI hi hN) (by rw [nI_clamp (by omega)]; exact hw2) kk
theorem j_iastN {a N : Nat} {f : Nat → Nat} (x i : Nat) (n q0 : Nat) (ws2 : va_W) (hd : decode y.2.1 pc = .ok (.iastore, 1)) (hn : pc + 1 = n) (he : ws[q0]? = some (a, .inl (g.2.1 0, N, .inl (nF f)))) (hi : i < N) (hN : N < 2147483648) (hw2 : ws.set q0 (a, .inl (g.2.1 0, N, .inl (nF (va_up f i x)))) = ws2) (kk : gJ g y d rc rs Post k j n lv st ws2) : gJ g y d rc rs Post k j pc lv (.int (nI x) :: .int (nI i) :: .ref a :: st) ws := j_iastR i n q0 ws2 hd hn he hi hN (by rw [nF_up]; exact hw2) kk
theorem j_zastN {a N : Nat} {f : Nat → Nat} (x i : Nat) (n q0 : Nat) (ws2 : va_W) (hd : decode y.2.1 pc = .ok (.bastore, 1)) (hn : pc + 1 = n) (he : ws[q0]? = some (a, .inl (g.2.1 2, N, .inl (nF f)))) (hi : i < N) (hN : N < 2147483648) (hx : x ≤ 1) (hw2 : ws.set q0 (a, .inl (g.2.1 2, N, .inl (nF (va_up f i x)))) = ws2) (kk : gJ g y d rc rs Post k j n lv st ws2) : gJ g y d rc rs Post k j pc lv (.int (nI x) :: .int (nI i) :: .ref a :: st) ws := j_zast n q0 ws2 hd hn he (vp_in_nI hi hN) (by rw [nI_clamp (by omega), nB_nar hx, nF_up]; exact hw2) kk
theorem j_iretN {x : Nat} (hd : decode y.2.1 pc = .ok (.ireturn, 1)) (hr : y.2.2.2 = some .int) (hp : Post k j (some (.int (nI x))) ws) : gJ g y d rc rs Post k j pc lv [.int (nI x)] ws := j_iret hd hr rfl hp
theorem j_iretI {x : Int32} (hd : decode y.2.1 pc = .ok (.ireturn, 1)) (hr : y.2.2.2 = some .int) (hp : Post k j (some (.int x)) ws) : gJ g y d rc rs Post k j pc lv [.int x] ws := j_iret hd hr rfl hp
theorem j_iretB {c : Prop} {ic : Decidable c} (hd : decode y.2.1 pc = .ok (.ireturn, 1)) (hr : y.2.2.2 = some .boolean) (hp : Post k j (some (.int (@gB c ic))) ws) : gJ g y d rc rs Post k j pc lv [.int (@gB c ic)] ws := j_iret hd hr gB_nar hp
theorem j_iret1 {c : Prop} {ic : Decidable c} (hd : decode y.2.1 pc = .ok (.ireturn, 1)) (hr : y.2.2.2 = some .boolean) (hc : c) (hp : Post k j (some (.int (@gB c ic))) ws) : gJ g y d rc rs Post k j pc lv [.int 1] ws := by
  have h := gB_t hc
  rw [← h]
  exact j_iretB hd hr hp
theorem j_iret0 {c : Prop} {ic : Decidable c} (hd : decode y.2.1 pc = .ok (.ireturn, 1)) (hr : y.2.2.2 = some .boolean) (hc : ¬ c) (hp : Post k j (some (.int (@gB c ic))) ws) : gJ g y d rc rs Post k j pc lv [.int 0] ws := by
  have h := gB_f hc
  rw [← h]
  exact j_iretB hd hr hp
end GNN
