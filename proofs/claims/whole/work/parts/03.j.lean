abbrev gG : Type := va_G × (Nat → ClassId) × (Nat → Nat) × Nat × (Nat → Int32)
abbrev gM : Type := MethodName × ByteArray × Nat × Option FieldType
/-- the array classes: ints, bytes, booleans, Rows, Standings -/
def gT (g : gG) : List (ClassId × FieldType) := [(g.2.1 0, .int), (g.2.1 1, .byte), (g.2.1 2, .boolean), (g.2.1 3, .object RX1), (g.2.1 4, .object RX3)]
def gW (y : gM) : List Cond := .code y.1 y.2.1 y.2.2.1 y.2.2.2 :: gWS
def gR (d mc ms : Nat) : Room := { frames := d, cells := mc, slots := ms, locals := 48 * d }
-- the String constants: their places in the pool of Tape, their texts, lengths, bytes
def gKi : List Nat := [50, 71, 98, 114, 116, 118, 120, 122, 124, 126, 128]
def gKt : List String := ["fold", "hurdle", "beast", "swing", "stiff", "post", "ewe", "ram", "lamb", "blind", "marked"]
def gKl : List Nat := [4, 6, 5, 5, 5, 4, 3, 3, 4, 5, 6]
def gKb : List (List Int32) := [[102, 111, 108, 100], [104, 117, 114, 100, 108, 101], [98, 101, 97, 115, 116], [115, 119, 105, 110, 103], [115, 116, 105, 102, 102], [112, 111, 115, 116], [101, 119, 101], [114, 97, 109], [108, 97, 109, 98], [98, 108, 105, 110, 100], [109, 97, 114, 107, 101, 100]]
def gAbove : List Int32 := [0, 0, 1, 1, 0, 4]
def gSizeB : List Int32 := [10, 11, 12, 0, 13, 14]
def gMarkB : List Int32 := [20, 21, 24, 22, 23, 0]
def gK (g : gG) (i : Nat) : Nat := g.2.2.1 i
def gV (g : gG) (i : Nat) : Nat := g.2.2.1 (20 + i)
def gA (g : gG) (i : Nat) : Nat := g.2.2.1 (40 + i)
def gNest : List Cond := [(Jvm.Cond.methodLinkNest "FoldGates" (17 : Nat) ({ cls := "FoldGates$Tape", name := "<init>", desc := "()V" } : Jvm.MethodName) "FoldGates"), (Jvm.Cond.methodLinkNest "FoldGates" (57 : Nat) ({ cls := "FoldGates$Plan", name := "<init>", desc := "()V" } : Jvm.MethodName) "FoldGates"), (Jvm.Cond.methodLinkNest "FoldGates" (71 : Nat) ({ cls := "FoldGates$Row", name := "<init>", desc := "()V" } : Jvm.MethodName) "FoldGates"), (Jvm.Cond.methodLinkNest "FoldGates$Tape" (36 : Nat) ({ cls := "FoldGates$Plan", name := "<init>", desc := "()V" } : Jvm.MethodName) "FoldGates")]
/-- what stays as it was at the start: constants, static arrays, the words that no table keeps -/
def gC (g : gG) (A : Nat → Prop) (s : State) : Prop :=
  vk_S 11 gKl gKb (gK g) (gV g) A s s.heap ∧ (∀ i : Nat, i < 11 → vk_R RX4 (gKi.getD i 0) (gKt.getD i "") (gK g i) s) ∧
  va_Z RX5 "KIND_ABOVE" "[I" (.ref (gA g 0)) A s s.heap ∧ va_T .int (gA g 0) 6 (fun j => .int (gAbove.getD j 0)) A s s.heap ∧
  va_Z RX5 "SIZE_BODIES" "[I" (.ref (gA g 1)) A s s.heap ∧ va_T .int (gA g 1) 6 (fun j => .int (gSizeB.getD j 0)) A s s.heap ∧
  va_Z RX5 "MARK_BODIES" "[I" (.ref (gA g 2)) A s s.heap ∧ va_T .int (gA g 2) 6 (fun j => .int (gMarkB.getD j 0)) A s s.heap ∧
  va_Z RJ0 "COMPACT_STRINGS" "Z" (.int 1) A s s.heap ∧ va_Zq RJ3 "SIOOBE_FORMATTER" "Ljava/util/function/BiFunction;" A s s.heap ∧
  (va_AO RX1 s ∧ va_AO RX3 s ∧ va_T .int (gA g 5) g.2.2.2.1 (fun j => .int (g.2.2.2.2 j)) A s s.heap) ∧ ∀ w ∈ gNest, va_Nw w s
theorem gNest_warm {w : Cond} (hw : w ∈ gNest) {s U : State} (hW : s.WarmedH U.vm) (h : va_Nw w s) : va_Nw w U := by
  simp only [gNest, List.mem_cons, List.not_mem_nil, or_false] at hw
  rcases hw with rfl | rfl | rfl | rfl
  all_goals exact va_Nw.warmM hW h
theorem gNest_same {w : Cond} (hw : w ∈ gNest) {s U : State} (hW : s.vm = U.vm) (h : va_Nw w s) : va_Nw w U := by
  simp only [gNest, List.mem_cons, List.not_mem_nil, or_false] at hw
  rcases hw with rfl | rfl | rfl | rfl
  all_goals exact va_Nw.same rfl hW h
theorem gC.go {g : gG} {A B : Nat → Prop} {s U : State} {H : Heap} {locs : List Loc} (h : gC g A s) (hS : va_S A s.heap H locs) (hU : U.heap = H) (hW : s.WarmedH U.vm) (hAB : ∀ q, B q → A q) : gC g B U := by
  obtain ⟨h1, h2, h3, h4, h5, h6, h7, h8, h9, h10, ⟨h11, h12, h14⟩, h13⟩ := h
  have hk : ∀ a : Nat, a < s.heap.size → ¬ A a → U.heap[a]? = s.heap[a]? := by rw [hU]; exact hS.2.1
  have ha := hW.alike
  exact ⟨(h1.kept hk).moved ha |>.narrow hAB, fun i hi => (h2 i hi).warm hW, ((h3.kept hk).moved ha).narrow hAB, ((h4.kept hk).moved ha).narrow hAB, ((h5.kept hk).moved ha).narrow hAB, ((h6.kept hk).moved ha).narrow hAB, ((h7.kept hk).moved ha).narrow hAB, ((h8.kept hk).moved ha).narrow hAB, ((h9.kept hk).moved ha).narrow hAB, ((h10.kept hk).moved ha).narrow hAB, ⟨h11.moved ha, h12.moved ha, ((h14.kept hk).moved ha).narrow hAB⟩, fun w hw => gNest_warm hw hW (h13 w hw)⟩
theorem gC.calling {g : gG} {A : Nat → Prop} {U : State} {f : JFrame} {mk : MethodId} {a : Array Value} (h : gC g A U) : gC g A (U.calling f mk a) := by
  obtain ⟨h1, h2, h3, h4, h5, h6, h7, h8, h9, h10, ⟨h11, h12, h14⟩, h13⟩ := h
  have ha : U.vm.Alike (U.calling f mk a).vm := Vm.Alike.refl U.vm
  exact ⟨h1.moved ha, fun i hi => (h2 i hi).same rfl, h3.moved ha, h4.moved ha, h5.moved ha, h6.moved ha, h7.moved ha, h8.moved ha, h9.moved ha, h10.moved ha, ⟨h11.moved ha, h12.moved ha, h14.moved ha⟩, fun w hw => gNest_same (s := U) (U := U.calling f mk a) hw rfl (h13 w hw)⟩
/-- where a method's body stands: the machine, the code, the words, the room that is left (d frames deep) -/
def gX (g : gG) (y : gM) (d rc rs : Nat) (p : Program) (R : Room) (s : State) (m : MethodId) (args : Array Value) (meth : Method) (c : Code) (A : Nat → Prop) : Prop :=
  p.tables.exec = Jvm.exec ∧ c.code = y.2.1 ∧ c.maxLocals = y.2.2.1 ∧ s.vm.findClass y.1.cls = some m.cls ∧ (∀ w ∈ gWS, w.before args s = true) ∧ va_K g.1 vwCl (gT g) s ∧ gC g A s ∧ (∀ q, s.heap.size ≤ q → A q) ∧ d ≤ R.frames ∧ 48 * d ≤ R.locals ∧ R.cells = rc ∧ R.slots = rs ∧ meth.name = y.1.name
def gRet (y : gM) (pc : Nat) (rv : Option Value) : Prop :=
  (rv = none ∧ y.2.2.2 = none ∧ decode y.2.1 pc = .ok (.return_, 1)) ∨ (∃ (x : Int32) (rt : FieldType), rv = some (.int x) ∧ y.2.2.2 = some rt ∧ narrow rt (.int x) = .int x ∧ decode y.2.1 pc = .ok (.ireturn, 1)) ∨
  (∃ (v : Value) (rt : FieldType), rv = some v ∧ y.2.2.2 = some rt ∧ ((∃ n, rt = .object n) ∨ ∃ t, rt = .array t) ∧ (v = .null ∨ ∃ a, v = .ref a) ∧ decode y.2.1 pc = .ok (.areturn, 1))
/-- from pc on, with these locals, this stack and this world, the body comes to a return at which Post holds (k, j: cells, slots made so far) -/
def gJ (g : gG) (y : gM) (d rc rs : Nat) (Post : Nat → Nat → Option Value → va_W → Prop) (k j pc : Nat) (lv : List (Nat × Value)) (st : List Value) (ws : va_W) : Prop :=
  ∀ (p : Program) (l : Launch) (e : Env) (R : Room) (s : State) (m : MethodId) (args : Array Value) (below : List Frame) (meth : Method) (c : Code) (A : Nat → Prop) (Q : State → Prop),
    gX g y d rc rs p R s m args meth c A →
    (∀ (H : Heap) (locs : List Loc) (k' j' : Nat) (ls : Array Slot) (pc' : Nat) (rv : Option Value) (ws' : va_W), Post k' j' rv ws' → gRet y pc' rv → va_P g.1 vwCl ws' H → va_D A ws' → va_S A s.heap H locs → W p l e R s m args below meth c H locs k' j' Q (F0 m pc' ls rv.toList)) →
    ∀ (H : Heap) (locs : List Loc) (ls : Array Slot), lv_has ls y.2.2.1 lv → va_P g.1 vwCl ws H → va_D A ws → va_S A s.heap H locs → W p l e R s m args below meth c H locs k j Q (F0 m pc ls st)
def gPre (g : gG) (ws : va_W) (sz : Nat) (U : State) : Prop := U.heap.size = sz ∧ va_P g.1 vwCl ws U.heap ∧ va_K g.1 vwCl (gT g) U ∧ va_D (fun _ => True) ws ∧ gC g (va_A ws sz) U
def gQc (g : gG) (ws : va_W) (sz : Nat) (Post : Option Value → va_W → Prop) : Array Value → State → Outcome → State → Prop := fun _ st oc t =>
  ∃ (rv : Option Value) (ws' : va_W), oc = .returned rv ∧ Post rv ws' ∧ va_P g.1 vwCl ws' t.heap ∧ va_D (va_A ws sz) ws' ∧ va_F (va_A ws sz) st t
/-- a method's contract: from the world ws with these arguments it returns as Post says; d frames, mc cells, ms slots are enough -/
def gCon (g : gG) (y : gM) (d mc ms : Nat) (av : List Value) (ws : va_W) (Post : Option Value → va_W → Prop) : Prop :=
  ∀ (l : Launch) (sz : Nat), Met l y.1 (gW y) (gR d mc ms) (va_Pc av (gPre g ws sz)) (gQc g ws sz Post) mc ms (va_A ws sz)
set_option maxHeartbeats 1000000 in
theorem gCon.of {g : gG} {y : gM} {d mc ms : Nat} {av : List Value} {ws : va_W} {Post : Option Value → va_W → Prop} {lv : List (Nat × Value)} (hy : plainName y.1.cls = true) (hlen : (lg_sl av).length ≤ y.2.2.1) (hlv : lv_args 0 av = lv)
    (h : gJ g y d mc ms (fun k' j' rv ws' => k' ≤ mc ∧ j' ≤ ms ∧ Post rv ws') 0 0 0 lv [] ws) : gCon g y d mc ms av ws Post := by
  intro l sz
  refine Met.ofW (cc := y.2.1) (maxL := y.2.2.1) (ret := y.2.2.2) hy rfl ?_
  intro p e s m args below meth c s₁ B hml hv
  obtain ⟨rfl, hsz, hP, hK, hD0, hC⟩ := hv
  have hx := B.exec
  have hb := B.bytes
  have hr := B.returns
  have hts := atoms_spec (ws := gW y) B.pre
  have hown : s.vm.findClass y.1.cls = some m.cls := findClass_of_methodNamed B.named
  have hlocks := B.notSynchronized
  have hin : meth.name = y.1.name := (name_of_methodNamed B.named B.method).1
  subst hsz
  have hD := hD0.self (sz := s.heap.size)
  have hl := lv_entry av (n := y.2.2.1) hlen
  rw [lg_entry_eq]
  rw [hlv] at hl
  refine h p l e _ s m _ below meth c (va_A ws s.heap.size) _ ⟨hx, hb, hml, hown, fun w hw => hts w (List.mem_cons_of_mem _ hw), hK, hC, fun q hq => Or.inr hq, Nat.le_refl d, Nat.le_refl _, rfl, rfl, hin⟩ ?_ s.heap [] _ hl hP hD va_S.rf
  intro H locs k' j' ls pc' rv ws' hpost hret hP' hD' hS'
  obtain ⟨hk, hj, hpost⟩ := hpost
  refine W.widen (k := mc) (n := ms) hk hj ?_
  have hq : ∀ t : State, t.heap = H → s.WarmedH t.vm → gQc g ws s.heap.size Post av.toArray s (.returned rv) t := fun t ht hW => ⟨rv, ws', rfl, hpost, by rw [ht]; exact hP', hD', hS'.F ht⟩
  rcases hret with ⟨rfl, h1, hdg⟩ | ⟨x, rt, rfl, h1, h2, hdg⟩ | ⟨v, rt, rfl, h1, h2, h3, hdg⟩
  · exact W.vret hx hb (by rw [hr, h1]) hq hS'.2.2 hdg
  · exact W.zret hx hb (by rw [hr, h1]) h2 hq hS'.2.2 hdg
  · exact W.aret hx hb (by rw [hr, h1]) h2 h3 hq hS'.2.2 hdg
section GJ
variable {g : gG} {y : gM} {d rc rs : Nat} {Post : Nat → Nat → Option Value → va_W → Prop} {k j pc : Nat} {lv : List (Nat × Value)} {st : List Value} {ws : va_W}
theorem j_iconst {i : Int} {v : Int32} (n : Nat) (hd : decode y.2.1 pc = .ok (.iconst i, 1)) (hn : pc + 1 = n) (hv : Int32.ofInt i = v) (kk : gJ g y d rc rs Post k j n lv (.int v :: st) ws) : gJ g y d rc rs Post k j pc lv (st) ws := by
  subst hn
  intro p l e R s m args below meth c A Q X ex H locs ls hl hP hD hS
  exact lv_iconst X.1 X.2.1 hd hv (kk p l e R s m args below meth c A Q X ex H locs ls hl hP hD hS)
theorem j_bipush {i : Int} {v : Int32} (n : Nat) (hd : decode y.2.1 pc = .ok (.bipush i, 2)) (hn : pc + 2 = n) (hv : (Int8.ofInt i).toInt32 = v) (kk : gJ g y d rc rs Post k j n lv (.int v :: st) ws) : gJ g y d rc rs Post k j pc lv (st) ws := by
  subst hn
  intro p l e R s m args below meth c A Q X ex H locs ls hl hP hD hS
  exact lv_bipush X.1 X.2.1 hd hv (kk p l e R s m args below meth c A Q X ex H locs ls hl hP hD hS)
theorem j_sipush {i : Int} {v : Int32} (n : Nat) (hd : decode y.2.1 pc = .ok (.sipush i, 3)) (hn : pc + 3 = n) (hv : (Int16.ofInt i).toInt32 = v) (kk : gJ g y d rc rs Post k j n lv (.int v :: st) ws) : gJ g y d rc rs Post k j pc lv (st) ws := by
  subst hn
  intro p l e R s m args below meth c A Q X ex H locs ls hl hP hD hS
  exact lv_sipush X.1 X.2.1 hd hv (kk p l e R s m args below meth c A Q X ex H locs ls hl hP hD hS)
theorem j_lconst {i : Fin 2} {v : Int64} (n : Nat) (hd : decode y.2.1 pc = .ok (.lconst i, 1)) (hn : pc + 1 = n) (hv : Int64.ofNat (i : Nat) = v) (kk : gJ g y d rc rs Post k j n lv (.long v :: st) ws) : gJ g y d rc rs Post k j pc lv (st) ws := by
  subst hn
  intro p l e R s m args below meth c A Q X ex H locs ls hl hP hD hS
  exact lv_lconst X.1 X.2.1 hd hv (kk p l e R s m args below meth c A Q X ex H locs ls hl hP hD hS)
theorem j_null  (n : Nat) (hd : decode y.2.1 pc = .ok (.aconst_null, 1)) (hn : pc + 1 = n)  (kk : gJ g y d rc rs Post k j n lv (.null :: st) ws) : gJ g y d rc rs Post k j pc lv (st) ws := by
  subst hn
  intro p l e R s m args below meth c A Q X ex H locs ls hl hP hD hS
  exact lv_null X.1 X.2.1 hd (kk p l e R s m args below meth c A Q X ex H locs ls hl hP hD hS)
theorem j_iload_n {q : Fin 4} {x : Int32} (n : Nat) (hd : decode y.2.1 pc = .ok (.iload_n q, 1)) (hn : pc + 1 = n) (kp : Nat) (hk : lv[kp]? = some ((q : Nat), .int x)) (kk : gJ g y d rc rs Post k j n lv (.int x :: st) ws) : gJ g y d rc rs Post k j pc lv (st) ws := by
  subst hn
  intro p l e R s m args below meth c A Q X ex H locs ls hl hP hD hS
  exact lv_iload_n X.1 X.2.1 hd rfl (lv_at hl kp hk) (kk p l e R s m args below meth c A Q X ex H locs ls hl hP hD hS)
theorem j_iload {i : Nat} {x : Int32} (n : Nat) (hd : decode y.2.1 pc = .ok (.iload i, 2)) (hn : pc + 2 = n) (kp : Nat) (hk : lv[kp]? = some (i, .int x)) (kk : gJ g y d rc rs Post k j n lv (.int x :: st) ws) : gJ g y d rc rs Post k j pc lv (st) ws := by
  subst hn
  intro p l e R s m args below meth c A Q X ex H locs ls hl hP hD hS
  exact lv_iload X.1 X.2.1 hd (lv_at hl kp hk) (kk p l e R s m args below meth c A Q X ex H locs ls hl hP hD hS)
theorem j_lload_n {q : Fin 4} {x : Int64} (n : Nat) (hd : decode y.2.1 pc = .ok (.lload_n q, 1)) (hn : pc + 1 = n) (kp : Nat) (hk : lv[kp]? = some ((q : Nat), .long x)) (kk : gJ g y d rc rs Post k j n lv (.long x :: st) ws) : gJ g y d rc rs Post k j pc lv (st) ws := by
  subst hn
  intro p l e R s m args below meth c A Q X ex H locs ls hl hP hD hS
  exact lv_lload_n X.1 X.2.1 hd rfl (lv_at hl kp hk) (kk p l e R s m args below meth c A Q X ex H locs ls hl hP hD hS)
theorem j_lload {i : Nat} {x : Int64} (n : Nat) (hd : decode y.2.1 pc = .ok (.lload i, 2)) (hn : pc + 2 = n) (kp : Nat) (hk : lv[kp]? = some (i, .long x)) (kk : gJ g y d rc rs Post k j n lv (.long x :: st) ws) : gJ g y d rc rs Post k j pc lv (st) ws := by
  subst hn
  intro p l e R s m args below meth c A Q X ex H locs ls hl hP hD hS
  exact lv_lload X.1 X.2.1 hd (lv_at hl kp hk) (kk p l e R s m args below meth c A Q X ex H locs ls hl hP hD hS)
theorem j_aload_n {q : Fin 4} {x : Nat} (n : Nat) (hd : decode y.2.1 pc = .ok (.aload_n q, 1)) (hn : pc + 1 = n) (kp : Nat) (hk : lv[kp]? = some ((q : Nat), .ref x)) (kk : gJ g y d rc rs Post k j n lv (.ref x :: st) ws) : gJ g y d rc rs Post k j pc lv (st) ws := by
  subst hn
  intro p l e R s m args below meth c A Q X ex H locs ls hl hP hD hS
  exact lv_aload_n X.1 X.2.1 hd rfl (lv_at hl kp hk) (kk p l e R s m args below meth c A Q X ex H locs ls hl hP hD hS)
theorem j_aload {i : Nat} {x : Nat} (n : Nat) (hd : decode y.2.1 pc = .ok (.aload i, 2)) (hn : pc + 2 = n) (kp : Nat) (hk : lv[kp]? = some (i, .ref x)) (kk : gJ g y d rc rs Post k j n lv (.ref x :: st) ws) : gJ g y d rc rs Post k j pc lv (st) ws := by
  subst hn
  intro p l e R s m args below meth c A Q X ex H locs ls hl hP hD hS
  exact lv_aload X.1 X.2.1 hd (lv_at hl kp hk) (kk p l e R s m args below meth c A Q X ex H locs ls hl hP hD hS)
theorem j_aload_nN {q : Fin 4} (n : Nat) (hd : decode y.2.1 pc = .ok (.aload_n q, 1)) (hn : pc + 1 = n) (kp : Nat) (hk : lv[kp]? = some ((q : Nat), .null)) (kk : gJ g y d rc rs Post k j n lv (.null :: st) ws) : gJ g y d rc rs Post k j pc lv (st) ws := by
  subst hn
  intro p l e R s m args below meth c A Q X ex H locs ls hl hP hD hS
  exact lv_aload_nN X.1 X.2.1 hd rfl (lv_at hl kp hk) (kk p l e R s m args below meth c A Q X ex H locs ls hl hP hD hS)
theorem j_istore_n {q4 : Fin 4} {x : Int32} (n : Nat) (lv2 : List (Nat × Value)) (hd : decode y.2.1 pc = .ok (.istore_n q4, 1)) (hn : pc + 1 = n) (hi : (q4 : Nat) < y.2.2.1) (hv : ((q4 : Nat), Value.int x) :: lv.filter (fun q => !(q.1 == (q4 : Nat)) && !(q.1 + 1 == (q4 : Nat) && q.2.category == 2)) = lv2) (kk : gJ g y d rc rs Post k j n lv2 st ws) : gJ g y d rc rs Post k j pc lv (.int x :: st) ws := by
  subst hn
  intro p l e R s m args below meth c A Q X ex H locs ls hl hP hD hS
  exact lv_istore_n X.1 X.2.1 hd rfl hl hi hv (fun ls hl => kk p l e R s m args below meth c A Q X ex H locs ls hl hP hD hS)
theorem j_istore {i : Nat} {x : Int32} (n : Nat) (lv2 : List (Nat × Value)) (hd : decode y.2.1 pc = .ok (.istore i, 2)) (hn : pc + 2 = n) (hi : i < y.2.2.1) (hv : (i, Value.int x) :: lv.filter (fun q => !(q.1 == i) && !(q.1 + 1 == i && q.2.category == 2)) = lv2) (kk : gJ g y d rc rs Post k j n lv2 st ws) : gJ g y d rc rs Post k j pc lv (.int x :: st) ws := by
  subst hn
  intro p l e R s m args below meth c A Q X ex H locs ls hl hP hD hS
  exact lv_istore X.1 X.2.1 hd hl hi hv (fun ls hl => kk p l e R s m args below meth c A Q X ex H locs ls hl hP hD hS)
theorem j_lstore_n {q4 : Fin 4} {x : Int64} (n : Nat) (lv2 : List (Nat × Value)) (hd : decode y.2.1 pc = .ok (.lstore_n q4, 1)) (hn : pc + 1 = n) (hi : (q4 : Nat) + 1 < y.2.2.1) (hv : ((q4 : Nat), Value.long x) :: lv.filter (fun q => !(q.1 == (q4 : Nat)) && (!(q.1 == (q4 : Nat) + 1) && !(q.1 + 1 == (q4 : Nat) && q.2.category == 2))) = lv2) (kk : gJ g y d rc rs Post k j n lv2 st ws) : gJ g y d rc rs Post k j pc lv (.long x :: st) ws := by
  subst hn
  intro p l e R s m args below meth c A Q X ex H locs ls hl hP hD hS
  exact lv_lstore_n X.1 X.2.1 hd rfl hl hi hv (fun ls hl => kk p l e R s m args below meth c A Q X ex H locs ls hl hP hD hS)
theorem j_lstore {i : Nat} {x : Int64} (n : Nat) (lv2 : List (Nat × Value)) (hd : decode y.2.1 pc = .ok (.lstore i, 2)) (hn : pc + 2 = n) (hi : i + 1 < y.2.2.1) (hv : (i, Value.long x) :: lv.filter (fun q => !(q.1 == i) && (!(q.1 == i + 1) && !(q.1 + 1 == i && q.2.category == 2))) = lv2) (kk : gJ g y d rc rs Post k j n lv2 st ws) : gJ g y d rc rs Post k j pc lv (.long x :: st) ws := by
  subst hn
  intro p l e R s m args below meth c A Q X ex H locs ls hl hP hD hS
  exact lv_lstore X.1 X.2.1 hd hl hi hv (fun ls hl => kk p l e R s m args below meth c A Q X ex H locs ls hl hP hD hS)
theorem j_astore_n {q4 : Fin 4} {x : Nat} (n : Nat) (lv2 : List (Nat × Value)) (hd : decode y.2.1 pc = .ok (.astore_n q4, 1)) (hn : pc + 1 = n) (hi : (q4 : Nat) < y.2.2.1) (hv : ((q4 : Nat), Value.ref x) :: lv.filter (fun q => !(q.1 == (q4 : Nat)) && !(q.1 + 1 == (q4 : Nat) && q.2.category == 2)) = lv2) (kk : gJ g y d rc rs Post k j n lv2 st ws) : gJ g y d rc rs Post k j pc lv (.ref x :: st) ws := by
  subst hn
  intro p l e R s m args below meth c A Q X ex H locs ls hl hP hD hS
  exact lv_astore_n X.1 X.2.1 hd rfl hl hi hv (fun ls hl => kk p l e R s m args below meth c A Q X ex H locs ls hl hP hD hS)
theorem j_astore {i : Nat} {x : Nat} (n : Nat) (lv2 : List (Nat × Value)) (hd : decode y.2.1 pc = .ok (.astore i, 2)) (hn : pc + 2 = n) (hi : i < y.2.2.1) (hv : (i, Value.ref x) :: lv.filter (fun q => !(q.1 == i) && !(q.1 + 1 == i && q.2.category == 2)) = lv2) (kk : gJ g y d rc rs Post k j n lv2 st ws) : gJ g y d rc rs Post k j pc lv (.ref x :: st) ws := by
  subst hn
  intro p l e R s m args below meth c A Q X ex H locs ls hl hP hD hS
  exact lv_astore X.1 X.2.1 hd hl hi hv (fun ls hl => kk p l e R s m args below meth c A Q X ex H locs ls hl hP hD hS)
theorem j_astore_nN {q4 : Fin 4} (n : Nat) (lv2 : List (Nat × Value)) (hd : decode y.2.1 pc = .ok (.astore_n q4, 1)) (hn : pc + 1 = n) (hi : (q4 : Nat) < y.2.2.1) (hv : ((q4 : Nat), Value.null) :: lv.filter (fun q => !(q.1 == (q4 : Nat)) && !(q.1 + 1 == (q4 : Nat) && q.2.category == 2)) = lv2) (kk : gJ g y d rc rs Post k j n lv2 st ws) : gJ g y d rc rs Post k j pc lv (.null :: st) ws := by
  subst hn
  intro p l e R s m args below meth c A Q X ex H locs ls hl hP hD hS
  exact lv_astore_nN X.1 X.2.1 hd rfl hl hi hv (fun ls hl => kk p l e R s m args below meth c A Q X ex H locs ls hl hP hD hS)
theorem j_astoreN {i : Nat} (n : Nat) (lv2 : List (Nat × Value)) (hd : decode y.2.1 pc = .ok (.astore i, 2)) (hn : pc + 2 = n) (hi : i < y.2.2.1) (hv : (i, Value.null) :: lv.filter (fun q => !(q.1 == i) && !(q.1 + 1 == i && q.2.category == 2)) = lv2) (kk : gJ g y d rc rs Post k j n lv2 st ws) : gJ g y d rc rs Post k j pc lv (.null :: st) ws := by
  subst hn
  intro p l e R s m args below meth c A Q X ex H locs ls hl hP hD hS
  exact lv_astoreN X.1 X.2.1 hd hl hi hv (fun ls hl => kk p l e R s m args below meth c A Q X ex H locs ls hl hP hD hS)
theorem j_iinc {i : Nat} {z : Int} {x v : Int32} (n : Nat) (lv2 : List (Nat × Value)) (hd : decode y.2.1 pc = .ok (.iinc i z, 3)) (hn : pc + 3 = n) (kp : Nat) (hk : lv[kp]? = some (i, .int x)) (hx : x + Int32.ofInt z = v) (hi : i < y.2.2.1) (hv : (i, Value.int v) :: lv.filter (fun q => !(q.1 == i) && !(q.1 + 1 == i && q.2.category == 2)) = lv2) (kk : gJ g y d rc rs Post k j n lv2 st ws) : gJ g y d rc rs Post k j pc lv st ws := by
  subst hn
  intro p l e R s m args below meth c A Q X ex H locs ls hl hP hD hS
  exact lv_iinc X.1 X.2.1 hd hl hk hx hi hv (fun ls hl => kk p l e R s m args below meth c A Q X ex H locs ls hl hP hD hS)
theorem j_iadd {x z : Int32} (n : Nat) (hd : decode y.2.1 pc = .ok (.iadd, 1)) (hn : pc + 1 = n)  (kk : gJ g y d rc rs Post k j n lv (.int (x + z) :: st) ws) : gJ g y d rc rs Post k j pc lv (.int z :: .int x :: st) ws := by
  subst hn
  intro p l e R s m args below meth c A Q X ex H locs ls hl hP hD hS
  exact lv_iadd X.1 X.2.1 hd (kk p l e R s m args below meth c A Q X ex H locs ls hl hP hD hS)
theorem j_isub {x z : Int32} (n : Nat) (hd : decode y.2.1 pc = .ok (.isub, 1)) (hn : pc + 1 = n)  (kk : gJ g y d rc rs Post k j n lv (.int (x - z) :: st) ws) : gJ g y d rc rs Post k j pc lv (.int z :: .int x :: st) ws := by
  subst hn
  intro p l e R s m args below meth c A Q X ex H locs ls hl hP hD hS
  exact lv_isub X.1 X.2.1 hd (kk p l e R s m args below meth c A Q X ex H locs ls hl hP hD hS)
theorem j_imul {x z : Int32} (n : Nat) (hd : decode y.2.1 pc = .ok (.imul, 1)) (hn : pc + 1 = n)  (kk : gJ g y d rc rs Post k j n lv (.int (x * z) :: st) ws) : gJ g y d rc rs Post k j pc lv (.int z :: .int x :: st) ws := by
  subst hn
  intro p l e R s m args below meth c A Q X ex H locs ls hl hP hD hS
  exact lv_imul X.1 X.2.1 hd (kk p l e R s m args below meth c A Q X ex H locs ls hl hP hD hS)
theorem j_iand {x z : Int32} (n : Nat) (hd : decode y.2.1 pc = .ok (.iand, 1)) (hn : pc + 1 = n)  (kk : gJ g y d rc rs Post k j n lv (.int (x &&& z) :: st) ws) : gJ g y d rc rs Post k j pc lv (.int z :: .int x :: st) ws := by
  subst hn
  intro p l e R s m args below meth c A Q X ex H locs ls hl hP hD hS
  exact lv_iand X.1 X.2.1 hd (kk p l e R s m args below meth c A Q X ex H locs ls hl hP hD hS)
theorem j_ior {x z : Int32} (n : Nat) (hd : decode y.2.1 pc = .ok (.ior, 1)) (hn : pc + 1 = n)  (kk : gJ g y d rc rs Post k j n lv (.int (x ||| z) :: st) ws) : gJ g y d rc rs Post k j pc lv (.int z :: .int x :: st) ws := by
  subst hn
  intro p l e R s m args below meth c A Q X ex H locs ls hl hP hD hS
  exact lv_ior X.1 X.2.1 hd (kk p l e R s m args below meth c A Q X ex H locs ls hl hP hD hS)
theorem j_ixor {x z : Int32} (n : Nat) (hd : decode y.2.1 pc = .ok (.ixor, 1)) (hn : pc + 1 = n)  (kk : gJ g y d rc rs Post k j n lv (.int (x ^^^ z) :: st) ws) : gJ g y d rc rs Post k j pc lv (.int z :: .int x :: st) ws := by
  subst hn
  intro p l e R s m args below meth c A Q X ex H locs ls hl hP hD hS
  exact lv_ixor X.1 X.2.1 hd (kk p l e R s m args below meth c A Q X ex H locs ls hl hP hD hS)
theorem j_ishl {x z : Int32} (n : Nat) (hd : decode y.2.1 pc = .ok (.ishl, 1)) (hn : pc + 1 = n)  (kk : gJ g y d rc rs Post k j n lv (.int (x <<< (z &&& 31)) :: st) ws) : gJ g y d rc rs Post k j pc lv (.int z :: .int x :: st) ws := by
  subst hn
  intro p l e R s m args below meth c A Q X ex H locs ls hl hP hD hS
  exact lv_ishl X.1 X.2.1 hd (kk p l e R s m args below meth c A Q X ex H locs ls hl hP hD hS)
theorem j_ishr {x z : Int32} (n : Nat) (hd : decode y.2.1 pc = .ok (.ishr, 1)) (hn : pc + 1 = n)  (kk : gJ g y d rc rs Post k j n lv (.int (x >>> (z &&& 31)) :: st) ws) : gJ g y d rc rs Post k j pc lv (.int z :: .int x :: st) ws := by
  subst hn
  intro p l e R s m args below meth c A Q X ex H locs ls hl hP hD hS
  exact lv_ishr X.1 X.2.1 hd (kk p l e R s m args below meth c A Q X ex H locs ls hl hP hD hS)
theorem j_idiv {x z : Int32} (n : Nat) (hd : decode y.2.1 pc = .ok (.idiv, 1)) (hn : pc + 1 = n) (hz : ¬ z = 0) (kk : gJ g y d rc rs Post k j n lv (.int (x / z) :: st) ws) : gJ g y d rc rs Post k j pc lv (.int z :: .int x :: st) ws := by
  subst hn
  intro p l e R s m args below meth c A Q X ex H locs ls hl hP hD hS
  exact lv_idiv X.1 X.2.1 hd hz (kk p l e R s m args below meth c A Q X ex H locs ls hl hP hD hS)
theorem j_irem {x z : Int32} (n : Nat) (hd : decode y.2.1 pc = .ok (.irem, 1)) (hn : pc + 1 = n) (hz : ¬ z = 0) (kk : gJ g y d rc rs Post k j n lv (.int (x - x / z * z) :: st) ws) : gJ g y d rc rs Post k j pc lv (.int z :: .int x :: st) ws := by
  subst hn
  intro p l e R s m args below meth c A Q X ex H locs ls hl hP hD hS
  exact lv_irem X.1 X.2.1 hd hz (kk p l e R s m args below meth c A Q X ex H locs ls hl hP hD hS)
theorem j_ineg {x : Int32} (n : Nat) (hd : decode y.2.1 pc = .ok (.ineg, 1)) (hn : pc + 1 = n)  (kk : gJ g y d rc rs Post k j n lv (.int (-x) :: st) ws) : gJ g y d rc rs Post k j pc lv (.int x :: st) ws := by
  subst hn
  intro p l e R s m args below meth c A Q X ex H locs ls hl hP hD hS
  exact lv_ineg X.1 X.2.1 hd (kk p l e R s m args below meth c A Q X ex H locs ls hl hP hD hS)
theorem j_ladd {x z : Int64} (n : Nat) (hd : decode y.2.1 pc = .ok (.ladd, 1)) (hn : pc + 1 = n)  (kk : gJ g y d rc rs Post k j n lv (.long (x + z) :: st) ws) : gJ g y d rc rs Post k j pc lv (.long z :: .long x :: st) ws := by
  subst hn
  intro p l e R s m args below meth c A Q X ex H locs ls hl hP hD hS
  exact lv_ladd X.1 X.2.1 hd (kk p l e R s m args below meth c A Q X ex H locs ls hl hP hD hS)
theorem j_lsub {x z : Int64} (n : Nat) (hd : decode y.2.1 pc = .ok (.lsub, 1)) (hn : pc + 1 = n)  (kk : gJ g y d rc rs Post k j n lv (.long (x - z) :: st) ws) : gJ g y d rc rs Post k j pc lv (.long z :: .long x :: st) ws := by
  subst hn
  intro p l e R s m args below meth c A Q X ex H locs ls hl hP hD hS
  exact lv_lsub X.1 X.2.1 hd (kk p l e R s m args below meth c A Q X ex H locs ls hl hP hD hS)
theorem j_lmul {x z : Int64} (n : Nat) (hd : decode y.2.1 pc = .ok (.lmul, 1)) (hn : pc + 1 = n)  (kk : gJ g y d rc rs Post k j n lv (.long (x * z) :: st) ws) : gJ g y d rc rs Post k j pc lv (.long z :: .long x :: st) ws := by
  subst hn
  intro p l e R s m args below meth c A Q X ex H locs ls hl hP hD hS
  exact lv_lmul X.1 X.2.1 hd (kk p l e R s m args below meth c A Q X ex H locs ls hl hP hD hS)
theorem j_land {x z : Int64} (n : Nat) (hd : decode y.2.1 pc = .ok (.land, 1)) (hn : pc + 1 = n)  (kk : gJ g y d rc rs Post k j n lv (.long (x &&& z) :: st) ws) : gJ g y d rc rs Post k j pc lv (.long z :: .long x :: st) ws := by
  subst hn
  intro p l e R s m args below meth c A Q X ex H locs ls hl hP hD hS
  exact lv_land X.1 X.2.1 hd (kk p l e R s m args below meth c A Q X ex H locs ls hl hP hD hS)
theorem j_lor {x z : Int64} (n : Nat) (hd : decode y.2.1 pc = .ok (.lor, 1)) (hn : pc + 1 = n)  (kk : gJ g y d rc rs Post k j n lv (.long (x ||| z) :: st) ws) : gJ g y d rc rs Post k j pc lv (.long z :: .long x :: st) ws := by
  subst hn
  intro p l e R s m args below meth c A Q X ex H locs ls hl hP hD hS
  exact lv_lor X.1 X.2.1 hd (kk p l e R s m args below meth c A Q X ex H locs ls hl hP hD hS)
theorem j_lxor {x z : Int64} (n : Nat) (hd : decode y.2.1 pc = .ok (.lxor, 1)) (hn : pc + 1 = n)  (kk : gJ g y d rc rs Post k j n lv (.long (x ^^^ z) :: st) ws) : gJ g y d rc rs Post k j pc lv (.long z :: .long x :: st) ws := by
  subst hn
  intro p l e R s m args below meth c A Q X ex H locs ls hl hP hD hS
  exact lv_lxor X.1 X.2.1 hd (kk p l e R s m args below meth c A Q X ex H locs ls hl hP hD hS)
theorem j_lcmp {x z : Int64} (n : Nat) (hd : decode y.2.1 pc = .ok (.lcmp, 1)) (hn : pc + 1 = n)  (kk : gJ g y d rc rs Post k j n lv (.int (lg_cmp x z) :: st) ws) : gJ g y d rc rs Post k j pc lv (.long z :: .long x :: st) ws := by
  subst hn
  intro p l e R s m args below meth c A Q X ex H locs ls hl hP hD hS
  exact W.lcmp X.1 X.2.1 hd (kk p l e R s m args below meth c A Q X ex H locs ls hl hP hD hS)
theorem j_i2l {x : Int32} (n : Nat) (hd : decode y.2.1 pc = .ok (.i2l, 1)) (hn : pc + 1 = n)  (kk : gJ g y d rc rs Post k j n lv (.long x.toInt64 :: st) ws) : gJ g y d rc rs Post k j pc lv (.int x :: st) ws := by
  subst hn
  intro p l e R s m args below meth c A Q X ex H locs ls hl hP hD hS
  exact lv_i2l X.1 X.2.1 hd rfl (kk p l e R s m args below meth c A Q X ex H locs ls hl hP hD hS)
theorem j_l2i {x : Int64} (n : Nat) (hd : decode y.2.1 pc = .ok (.l2i, 1)) (hn : pc + 1 = n)  (kk : gJ g y d rc rs Post k j n lv (.int x.toInt32 :: st) ws) : gJ g y d rc rs Post k j pc lv (.long x :: st) ws := by
  subst hn
  intro p l e R s m args below meth c A Q X ex H locs ls hl hP hD hS
  exact lv_l2i X.1 X.2.1 hd rfl (kk p l e R s m args below meth c A Q X ex H locs ls hl hP hD hS)
theorem j_i2b {x : Int32} (n : Nat) (hd : decode y.2.1 pc = .ok (.i2b, 1)) (hn : pc + 1 = n)  (kk : gJ g y d rc rs Post k j n lv (.int x.toInt8.toInt32 :: st) ws) : gJ g y d rc rs Post k j pc lv (.int x :: st) ws := by
  subst hn
  intro p l e R s m args below meth c A Q X ex H locs ls hl hP hD hS
  exact lv_i2b X.1 X.2.1 hd rfl (kk p l e R s m args below meth c A Q X ex H locs ls hl hP hD hS)
theorem j_i2s {x : Int32} (n : Nat) (hd : decode y.2.1 pc = .ok (.i2s, 1)) (hn : pc + 1 = n)  (kk : gJ g y d rc rs Post k j n lv (.int x.toInt16.toInt32 :: st) ws) : gJ g y d rc rs Post k j pc lv (.int x :: st) ws := by
  subst hn
  intro p l e R s m args below meth c A Q X ex H locs ls hl hP hD hS
  exact lv_i2s X.1 X.2.1 hd rfl (kk p l e R s m args below meth c A Q X ex H locs ls hl hP hD hS)
theorem j_i2c {x : Int32} (n : Nat) (hd : decode y.2.1 pc = .ok (.i2c, 1)) (hn : pc + 1 = n)  (kk : gJ g y d rc rs Post k j n lv (.int (x.toUInt32 % 65536).toInt32 :: st) ws) : gJ g y d rc rs Post k j pc lv (.int x :: st) ws := by
  subst hn
  intro p l e R s m args below meth c A Q X ex H locs ls hl hP hD hS
  exact lv_i2c X.1 X.2.1 hd rfl (kk p l e R s m args below meth c A Q X ex H locs ls hl hP hD hS)
theorem j_lushr {x : Int64} {z : Int32} (n : Nat) (hd : decode y.2.1 pc = .ok (.lushr, 1)) (hn : pc + 1 = n)  (kk : gJ g y d rc rs Post k j n lv (.long (x.toUInt64 >>> (z.toInt64.toUInt64 &&& Int64.toUInt64 63)).toInt64 :: st) ws) : gJ g y d rc rs Post k j pc lv (.int z :: .long x :: st) ws := by
  subst hn
  intro p l e R s m args below meth c A Q X ex H locs ls hl hP hD hS
  exact lv_lushr X.1 X.2.1 hd rfl (kk p l e R s m args below meth c A Q X ex H locs ls hl hP hD hS)
theorem j_lshl {x : Int64} {z : Int32} (n : Nat) (hd : decode y.2.1 pc = .ok (.lshl, 1)) (hn : pc + 1 = n)  (kk : gJ g y d rc rs Post k j n lv (.long (x <<< (z.toInt64 &&& 63)) :: st) ws) : gJ g y d rc rs Post k j pc lv (.int z :: .long x :: st) ws := by
  subst hn
  intro p l e R s m args below meth c A Q X ex H locs ls hl hP hD hS
  exact lv_lshl X.1 X.2.1 hd rfl (kk p l e R s m args below meth c A Q X ex H locs ls hl hP hD hS)
theorem j_lshr {x : Int64} {z : Int32} (n : Nat) (hd : decode y.2.1 pc = .ok (.lshr, 1)) (hn : pc + 1 = n)  (kk : gJ g y d rc rs Post k j n lv (.long (x >>> (z.toInt64 &&& 63)) :: st) ws) : gJ g y d rc rs Post k j pc lv (.int z :: .long x :: st) ws := by
  subst hn
  intro p l e R s m args below meth c A Q X ex H locs ls hl hP hD hS
  exact lv_lshr X.1 X.2.1 hd rfl (kk p l e R s m args below meth c A Q X ex H locs ls hl hP hD hS)
theorem j_iushr {x z : Int32} (n : Nat) (hd : decode y.2.1 pc = .ok (.iushr, 1)) (hn : pc + 1 = n)  (kk : gJ g y d rc rs Post k j n lv (.int (x.toUInt32 >>> (z.toUInt32 &&& Int32.toUInt32 31)).toInt32 :: st) ws) : gJ g y d rc rs Post k j pc lv (.int z :: .int x :: st) ws := by
  subst hn
  intro p l e R s m args below meth c A Q X ex H locs ls hl hP hD hS
  exact lv_iushr X.1 X.2.1 hd rfl (kk p l e R s m args below meth c A Q X ex H locs ls hl hP hD hS)
theorem j_dup {va : Value} (n : Nat) (hd : decode y.2.1 pc = .ok (.dup, 1)) (hn : pc + 1 = n) (ha : va.category = 1) (kk : gJ g y d rc rs Post k j n lv (va :: va :: st) ws) : gJ g y d rc rs Post k j pc lv (va :: st) ws := by
  subst hn
  intro p l e R s m args below meth c A Q X ex H locs ls hl hP hD hS
  exact lv_dup X.1 X.2.1 hd ha (kk p l e R s m args below meth c A Q X ex H locs ls hl hP hD hS)
theorem j_pop {va : Value} (n : Nat) (hd : decode y.2.1 pc = .ok (.pop, 1)) (hn : pc + 1 = n) (ha : va.category = 1) (kk : gJ g y d rc rs Post k j n lv (st) ws) : gJ g y d rc rs Post k j pc lv (va :: st) ws := by
  subst hn
  intro p l e R s m args below meth c A Q X ex H locs ls hl hP hD hS
  exact lv_pop X.1 X.2.1 hd ha (kk p l e R s m args below meth c A Q X ex H locs ls hl hP hD hS)
theorem j_dup_x1 {va vb : Value} (n : Nat) (hd : decode y.2.1 pc = .ok (.dup_x1, 1)) (hn : pc + 1 = n) (ha : va.category = 1) (hb : vb.category = 1) (kk : gJ g y d rc rs Post k j n lv (va :: vb :: va :: st) ws) : gJ g y d rc rs Post k j pc lv (va :: vb :: st) ws := by
  subst hn
  intro p l e R s m args below meth c A Q X ex H locs ls hl hP hD hS
  exact lv_dup_x1 X.1 X.2.1 hd ha hb (kk p l e R s m args below meth c A Q X ex H locs ls hl hP hD hS)
theorem j_dup2 {va vb : Value} (n : Nat) (hd : decode y.2.1 pc = .ok (.dup2, 1)) (hn : pc + 1 = n) (ha : va.category = 1) (hb : vb.category = 1) (kk : gJ g y d rc rs Post k j n lv (va :: vb :: va :: vb :: st) ws) : gJ g y d rc rs Post k j pc lv (va :: vb :: st) ws := by
  subst hn
  intro p l e R s m args below meth c A Q X ex H locs ls hl hP hD hS
  exact lv_dup2_11 X.1 X.2.1 hd ha hb (kk p l e R s m args below meth c A Q X ex H locs ls hl hP hD hS)
theorem j_if_eq {x : Int32} {off : Int} (n t : Nat) (hd : decode y.2.1 pc = .ok (.ifCond .eq off, 3)) (hn : pc + 3 = n) (ht : (pc : Int) + off = (t : Int)) (kt : x = 0 → gJ g y d rc rs Post k j t lv st ws) (kf : ¬ x = 0 → gJ g y d rc rs Post k j n lv st ws) : gJ g y d rc rs Post k j pc lv (.int x :: st) ws := by
  subst hn
  intro p l e R s m args below meth c A Q X ex H locs ls hl hP hD hS
  exact lv_if_eq X.1 X.2.1 hd ht (fun z => kt z p l e R s m args below meth c A Q X ex H locs ls hl hP hD hS) (fun z => kf z p l e R s m args below meth c A Q X ex H locs ls hl hP hD hS)
theorem j_icmp_eq {x z : Int32} {off : Int} (n t : Nat) (hd : decode y.2.1 pc = .ok (.if_icmp .eq off, 3)) (hn : pc + 3 = n) (ht : (pc : Int) + off = (t : Int)) (kt : x = z → gJ g y d rc rs Post k j t lv st ws) (kf : ¬ x = z → gJ g y d rc rs Post k j n lv st ws) : gJ g y d rc rs Post k j pc lv (.int z :: .int x :: st) ws := by
  subst hn
  intro p l e R s m args below meth c A Q X ex H locs ls hl hP hD hS
  exact lv_icmp_eq X.1 X.2.1 hd ht (fun z => kt z p l e R s m args below meth c A Q X ex H locs ls hl hP hD hS) (fun z => kf z p l e R s m args below meth c A Q X ex H locs ls hl hP hD hS)
theorem j_if_ne {x : Int32} {off : Int} (n t : Nat) (hd : decode y.2.1 pc = .ok (.ifCond .ne off, 3)) (hn : pc + 3 = n) (ht : (pc : Int) + off = (t : Int)) (kt : ¬ x = 0 → gJ g y d rc rs Post k j t lv st ws) (kf : x = 0 → gJ g y d rc rs Post k j n lv st ws) : gJ g y d rc rs Post k j pc lv (.int x :: st) ws := by
  subst hn
  intro p l e R s m args below meth c A Q X ex H locs ls hl hP hD hS
  exact lv_if_ne X.1 X.2.1 hd ht (fun z => kt z p l e R s m args below meth c A Q X ex H locs ls hl hP hD hS) (fun z => kf z p l e R s m args below meth c A Q X ex H locs ls hl hP hD hS)
theorem j_icmp_ne {x z : Int32} {off : Int} (n t : Nat) (hd : decode y.2.1 pc = .ok (.if_icmp .ne off, 3)) (hn : pc + 3 = n) (ht : (pc : Int) + off = (t : Int)) (kt : ¬ x = z → gJ g y d rc rs Post k j t lv st ws) (kf : x = z → gJ g y d rc rs Post k j n lv st ws) : gJ g y d rc rs Post k j pc lv (.int z :: .int x :: st) ws := by
  subst hn
  intro p l e R s m args below meth c A Q X ex H locs ls hl hP hD hS
  exact lv_icmp_ne X.1 X.2.1 hd ht (fun z => kt z p l e R s m args below meth c A Q X ex H locs ls hl hP hD hS) (fun z => kf z p l e R s m args below meth c A Q X ex H locs ls hl hP hD hS)
theorem j_if_lt {x : Int32} {off : Int} (n t : Nat) (hd : decode y.2.1 pc = .ok (.ifCond .lt off, 3)) (hn : pc + 3 = n) (ht : (pc : Int) + off = (t : Int)) (kt : x < 0 → gJ g y d rc rs Post k j t lv st ws) (kf : ¬ x < 0 → gJ g y d rc rs Post k j n lv st ws) : gJ g y d rc rs Post k j pc lv (.int x :: st) ws := by
  subst hn
  intro p l e R s m args below meth c A Q X ex H locs ls hl hP hD hS
  exact lv_if_lt X.1 X.2.1 hd ht (fun z => kt z p l e R s m args below meth c A Q X ex H locs ls hl hP hD hS) (fun z => kf z p l e R s m args below meth c A Q X ex H locs ls hl hP hD hS)
theorem j_icmp_lt {x z : Int32} {off : Int} (n t : Nat) (hd : decode y.2.1 pc = .ok (.if_icmp .lt off, 3)) (hn : pc + 3 = n) (ht : (pc : Int) + off = (t : Int)) (kt : x < z → gJ g y d rc rs Post k j t lv st ws) (kf : ¬ x < z → gJ g y d rc rs Post k j n lv st ws) : gJ g y d rc rs Post k j pc lv (.int z :: .int x :: st) ws := by
  subst hn
  intro p l e R s m args below meth c A Q X ex H locs ls hl hP hD hS
  exact lv_icmp_lt X.1 X.2.1 hd ht (fun z => kt z p l e R s m args below meth c A Q X ex H locs ls hl hP hD hS) (fun z => kf z p l e R s m args below meth c A Q X ex H locs ls hl hP hD hS)
theorem j_if_ge {x : Int32} {off : Int} (n t : Nat) (hd : decode y.2.1 pc = .ok (.ifCond .ge off, 3)) (hn : pc + 3 = n) (ht : (pc : Int) + off = (t : Int)) (kt : 0 ≤ x → gJ g y d rc rs Post k j t lv st ws) (kf : ¬ 0 ≤ x → gJ g y d rc rs Post k j n lv st ws) : gJ g y d rc rs Post k j pc lv (.int x :: st) ws := by
  subst hn
  intro p l e R s m args below meth c A Q X ex H locs ls hl hP hD hS
  exact lv_if_ge X.1 X.2.1 hd ht (fun z => kt z p l e R s m args below meth c A Q X ex H locs ls hl hP hD hS) (fun z => kf z p l e R s m args below meth c A Q X ex H locs ls hl hP hD hS)
theorem j_icmp_ge {x z : Int32} {off : Int} (n t : Nat) (hd : decode y.2.1 pc = .ok (.if_icmp .ge off, 3)) (hn : pc + 3 = n) (ht : (pc : Int) + off = (t : Int)) (kt : z ≤ x → gJ g y d rc rs Post k j t lv st ws) (kf : ¬ z ≤ x → gJ g y d rc rs Post k j n lv st ws) : gJ g y d rc rs Post k j pc lv (.int z :: .int x :: st) ws := by
  subst hn
  intro p l e R s m args below meth c A Q X ex H locs ls hl hP hD hS
  exact lv_icmp_ge X.1 X.2.1 hd ht (fun z => kt z p l e R s m args below meth c A Q X ex H locs ls hl hP hD hS) (fun z => kf z p l e R s m args below meth c A Q X ex H locs ls hl hP hD hS)
theorem j_if_gt {x : Int32} {off : Int} (n t : Nat) (hd : decode y.2.1 pc = .ok (.ifCond .gt off, 3)) (hn : pc + 3 = n) (ht : (pc : Int) + off = (t : Int)) (kt : 0 < x → gJ g y d rc rs Post k j t lv st ws) (kf : ¬ 0 < x → gJ g y d rc rs Post k j n lv st ws) : gJ g y d rc rs Post k j pc lv (.int x :: st) ws := by
  subst hn
  intro p l e R s m args below meth c A Q X ex H locs ls hl hP hD hS
  exact lv_if_gt X.1 X.2.1 hd ht (fun z => kt z p l e R s m args below meth c A Q X ex H locs ls hl hP hD hS) (fun z => kf z p l e R s m args below meth c A Q X ex H locs ls hl hP hD hS)
theorem j_icmp_gt {x z : Int32} {off : Int} (n t : Nat) (hd : decode y.2.1 pc = .ok (.if_icmp .gt off, 3)) (hn : pc + 3 = n) (ht : (pc : Int) + off = (t : Int)) (kt : z < x → gJ g y d rc rs Post k j t lv st ws) (kf : ¬ z < x → gJ g y d rc rs Post k j n lv st ws) : gJ g y d rc rs Post k j pc lv (.int z :: .int x :: st) ws := by
  subst hn
  intro p l e R s m args below meth c A Q X ex H locs ls hl hP hD hS
  exact lv_icmp_gt X.1 X.2.1 hd ht (fun z => kt z p l e R s m args below meth c A Q X ex H locs ls hl hP hD hS) (fun z => kf z p l e R s m args below meth c A Q X ex H locs ls hl hP hD hS)
theorem j_if_le {x : Int32} {off : Int} (n t : Nat) (hd : decode y.2.1 pc = .ok (.ifCond .le off, 3)) (hn : pc + 3 = n) (ht : (pc : Int) + off = (t : Int)) (kt : x ≤ 0 → gJ g y d rc rs Post k j t lv st ws) (kf : ¬ x ≤ 0 → gJ g y d rc rs Post k j n lv st ws) : gJ g y d rc rs Post k j pc lv (.int x :: st) ws := by
  subst hn
  intro p l e R s m args below meth c A Q X ex H locs ls hl hP hD hS
  exact lv_if_le X.1 X.2.1 hd ht (fun z => kt z p l e R s m args below meth c A Q X ex H locs ls hl hP hD hS) (fun z => kf z p l e R s m args below meth c A Q X ex H locs ls hl hP hD hS)
theorem j_icmp_le {x z : Int32} {off : Int} (n t : Nat) (hd : decode y.2.1 pc = .ok (.if_icmp .le off, 3)) (hn : pc + 3 = n) (ht : (pc : Int) + off = (t : Int)) (kt : x ≤ z → gJ g y d rc rs Post k j t lv st ws) (kf : ¬ x ≤ z → gJ g y d rc rs Post k j n lv st ws) : gJ g y d rc rs Post k j pc lv (.int z :: .int x :: st) ws := by
  subst hn
  intro p l e R s m args below meth c A Q X ex H locs ls hl hP hD hS
  exact lv_icmp_le X.1 X.2.1 hd ht (fun z => kt z p l e R s m args below meth c A Q X ex H locs ls hl hP hD hS) (fun z => kf z p l e R s m args below meth c A Q X ex H locs ls hl hP hD hS)
theorem j_acmp_eq {x z : Option Nat} {off : Int} (n t : Nat) (hd : decode y.2.1 pc = .ok (.if_acmp .eq off, 3)) (hn : pc + 3 = n) (ht : (pc : Int) + off = (t : Int)) (kt : x = z → gJ g y d rc rs Post k j t lv st ws) (kf : ¬ x = z → gJ g y d rc rs Post k j n lv st ws) : gJ g y d rc rs Post k j pc lv (va_rf z :: va_rf x :: st) ws := by
  subst hn
  intro p l e R s m args below meth c A Q X ex H locs ls hl hP hD hS
  exact lv_acmp_eq X.1 X.2.1 hd ht (fun z => kt z p l e R s m args below meth c A Q X ex H locs ls hl hP hD hS) (fun z => kf z p l e R s m args below meth c A Q X ex H locs ls hl hP hD hS)
theorem j_acmp_ne {x z : Option Nat} {off : Int} (n t : Nat) (hd : decode y.2.1 pc = .ok (.if_acmp .ne off, 3)) (hn : pc + 3 = n) (ht : (pc : Int) + off = (t : Int)) (kt : ¬ x = z → gJ g y d rc rs Post k j t lv st ws) (kf : x = z → gJ g y d rc rs Post k j n lv st ws) : gJ g y d rc rs Post k j pc lv (va_rf z :: va_rf x :: st) ws := by
  subst hn
  intro p l e R s m args below meth c A Q X ex H locs ls hl hP hD hS
  exact lv_acmp_ne X.1 X.2.1 hd ht (fun z => kt z p l e R s m args below meth c A Q X ex H locs ls hl hP hD hS) (fun z => kf z p l e R s m args below meth c A Q X ex H locs ls hl hP hD hS)
theorem j_goto  {off : Int} (t : Nat) (hd : decode y.2.1 pc = .ok (.goto off, 3)) (ht : (pc : Int) + off = (t : Int))  (kk : gJ g y d rc rs Post k j t lv st ws) : gJ g y d rc rs Post k j pc lv (st) ws := by
  intro p l e R s m args below meth c A Q X ex H locs ls hl hP hD hS
  exact lv_goto X.1 X.2.1 hd ht (kk p l e R s m args below meth c A Q X ex H locs ls hl hP hD hS)
theorem j_ifnonnull {x : Nat} {off : Int} (t : Nat) (hd : decode y.2.1 pc = .ok (.ifnonnull off, 3)) (ht : (pc : Int) + off = (t : Int))  (kk : gJ g y d rc rs Post k j t lv st ws) : gJ g y d rc rs Post k j pc lv (.ref x :: st) ws := by
  intro p l e R s m args below meth c A Q X ex H locs ls hl hP hD hS
  exact lv_ifnonnull X.1 X.2.1 hd ht (kk p l e R s m args below meth c A Q X ex H locs ls hl hP hD hS)
theorem j_ifnonnullN  {off : Int} (n : Nat) (hd : decode y.2.1 pc = .ok (.ifnonnull off, 3)) (hn : pc + 3 = n)  (kk : gJ g y d rc rs Post k j n lv st ws) : gJ g y d rc rs Post k j pc lv (.null :: st) ws := by
  subst hn
  intro p l e R s m args below meth c A Q X ex H locs ls hl hP hD hS
  exact lv_ifnonnullN X.1 X.2.1 hd (kk p l e R s m args below meth c A Q X ex H locs ls hl hP hD hS)
theorem j_ifnull {x : Nat} {off : Int} (n : Nat) (hd : decode y.2.1 pc = .ok (.ifnull off, 3)) (hn : pc + 3 = n)  (kk : gJ g y d rc rs Post k j n lv st ws) : gJ g y d rc rs Post k j pc lv (.ref x :: st) ws := by
  subst hn
  intro p l e R s m args below meth c A Q X ex H locs ls hl hP hD hS
  exact lv_ifnull X.1 X.2.1 hd (kk p l e R s m args below meth c A Q X ex H locs ls hl hP hD hS)
theorem j_ifnullN  {off : Int} (t : Nat) (hd : decode y.2.1 pc = .ok (.ifnull off, 3)) (ht : (pc : Int) + off = (t : Int))  (kk : gJ g y d rc rs Post k j t lv st ws) : gJ g y d rc rs Post k j pc lv (.null :: st) ws := by
  intro p l e R s m args below meth c A Q X ex H locs ls hl hP hD hS
  exact lv_ifnullN X.1 X.2.1 hd ht (kk p l e R s m args below meth c A Q X ex H locs ls hl hP hD hS)
theorem j_tabOut {dflt lo hi : Int} {offs : Array Int} {len : Nat} {x : Int32} (t : Nat) (hd : decode y.2.1 pc = .ok (.tableswitch dflt lo hi offs, len)) (h : x.toInt < lo ∨ hi < x.toInt) (ht : (pc : Int) + dflt = (t : Int)) (kk : gJ g y d rc rs Post k j t lv st ws) : gJ g y d rc rs Post k j pc lv (.int x :: st) ws := by
  intro p l e R s m args below meth c A Q X ex H locs ls hl hP hD hS
  exact lv_tableOut X.1 X.2.1 hd h ht (kk p l e R s m args below meth c A Q X ex H locs ls hl hP hD hS)
theorem j_tabIn {dflt lo hi : Int} {offs : Array Int} {len : Nat} {x : Int32} {off : Int} (t : Nat) (hd : decode y.2.1 pc = .ok (.tableswitch dflt lo hi offs, len)) (h1 : ¬ x.toInt < lo) (h2 : ¬ hi < x.toInt) (ho : offs[(x.toInt - lo).toNat]? = some off) (ht : (pc : Int) + off = (t : Int)) (kk : gJ g y d rc rs Post k j t lv st ws) : gJ g y d rc rs Post k j pc lv (.int x :: st) ws := by
  intro p l e R s m args below meth c A Q X ex H locs ls hl hP hD hS
  exact lv_tableIn X.1 X.2.1 hd h1 h2 ho ht (kk p l e R s m args below meth c A Q X ex H locs ls hl hP hD hS)
theorem j_ldc {i : Nat} {v : Int32} (n : Nat) (hd : decode y.2.1 pc = .ok (.ldc i, 2)) (hn : pc + 2 = n) (hw : Cond.constant y.1.cls i v ∈ gWS) (kk : gJ g y d rc rs Post k j n lv (.int v :: st) ws) : gJ g y d rc rs Post k j pc lv (st) ws := by
  subst hn
  intro p l e R s m args below meth c A Q X ex H locs ls hl hP hD hS
  exact lv_ldc X.1 X.2.1 X.2.2.2.1 (X.2.2.2.2.1 _ hw) hd (kk p l e R s m args below meth c A Q X ex H locs ls hl hP hD hS)
theorem j_ldcw {i : Nat} {v : Int32} (n : Nat) (hd : decode y.2.1 pc = .ok (.ldc_w i, 3)) (hn : pc + 3 = n) (hw : Cond.constant y.1.cls i v ∈ gWS) (kk : gJ g y d rc rs Post k j n lv (.int v :: st) ws) : gJ g y d rc rs Post k j pc lv (st) ws := by
  subst hn
  intro p l e R s m args below meth c A Q X ex H locs ls hl hP hD hS
  exact lv_ldcw X.1 X.2.1 X.2.2.2.1 (X.2.2.2.2.1 _ hw) hd (kk p l e R s m args below meth c A Q X ex H locs ls hl hP hD hS)
theorem j_ldc2 {i : Nat} {v : Int64} (n : Nat) (hd : decode y.2.1 pc = .ok (.ldc2_w i, 3)) (hn : pc + 3 = n) (hw : Cond.constantLong y.1.cls i v ∈ gWS) (kk : gJ g y d rc rs Post k j n lv (.long v :: st) ws) : gJ g y d rc rs Post k j pc lv (st) ws := by
  subst hn
  intro p l e R s m args below meth c A Q X ex H locs ls hl hP hD hS
  exact lv_ldc2 X.1 X.2.1 X.2.2.2.1 (X.2.2.2.2.1 _ hw) hd (kk p l e R s m args below meth c A Q X ex H locs ls hl hP hD hS)
theorem j_ldcS {ix : Nat} (n i : Nat) (hd : decode y.2.1 pc = .ok (.ldc ix, 2)) (hn : pc + 2 = n) (hi : i < 11) (hy : y.1.cls = RX4) (hx : gKi.getD i 0 = ix) (kk : gJ g y d rc rs Post k j n lv (.ref (gK g i) :: st) ws) : gJ g y d rc rs Post k j pc lv st ws := by
  subst hn
  subst hx
  intro p l e R s m args below meth c A Q X ex H locs ls hl hP hD hS
  exact va_ldcS X.1 X.2.1 (by rw [← hy]; exact X.2.2.2.1) (X.2.2.2.2.2.2.1.2.1 i hi) hd (kk p l e R s m args below meth c A Q X ex H locs ls hl hP hD hS)
/-- a field of our classes, as a place of the pool names it: class ci of vwCl, its field kf, its type, final or not -/
def gFd (own : String) (idx ci kf : Nat) (ty : FieldType) (fin : Bool) : Prop := ∃ (C : String) (T : u_T) (N : Nat) (ty0 : Nat → FieldType), vwCl[ci]? = some (C, T, N) ∧ kf < N ∧ Cond.fieldLink own idx C (T kf).2.1 (T kf).2.2.1 ∈ gWS ∧ (∀ w ∈ u_ws C T N, w ∈ gWS) ∧ (T kf).1 = C ∧ (∀ k, k < N → parseFieldDescriptor (T k).2.2.1 = some (ty0 k)) ∧ (∀ a, a < N → ∀ b, b < N → a ≠ b → (T a).2.1 ≠ (T b).2.1) ∧ parseFieldDescriptor (T kf).2.2.1 = some ty ∧ (T kf).2.2.2 = fin
theorem j_getf {a ci kf idx : Nat} {ty : FieldType} {fin : Bool} {fs : List Value} {v : Value} (n q0 : Nat) (hd : decode y.2.1 pc = .ok (.getfield idx, 3)) (hn : pc + 3 = n) (hF : gFd y.1.cls idx ci kf ty fin) (he : ws[q0]? = some (a, .inr (ci, fs))) (hv : fs[kf]? = some v) (kk : gJ g y d rc rs Post k j n lv (v :: st) ws) : gJ g y d rc rs Post k j pc lv (.ref a :: st) ws := by
  subst hn
  intro p l e R s m args below meth c A Q X ex H locs ls hl hP hD hS
  obtain ⟨C, T, N, ty0, hc, hk, hl1, hin, hsm, -⟩ := hF
  exact va_get X.1 X.2.1 X.2.2.2.2.1 hin X.2.2.2.1 X.2.2.2.2.2.1 hP q0 he hc kf hk (X.2.2.2.2.1 _ hl1) (fun _ h9 => by rw [← hsm]; exact h9) hv hd (kk p l e R s m args below meth c A Q X ex H locs ls hl hP hD hS)
theorem j_putf {a ci kf idx : Nat} {ty : FieldType} {fs : List Value} {v : Value} (n q0 : Nat) (ws2 : va_W) (hd : decode y.2.1 pc = .ok (.putfield idx, 3)) (hn : pc + 3 = n) (hF : gFd y.1.cls idx ci kf ty false) (he : ws[q0]? = some (a, .inr (ci, fs))) (hnr : narrow ty v = v) (hft : fits ty v = true) (hlt : kf < fs.length) (hw2 : ws.set q0 (a, .inr (ci, fs.set kf v)) = ws2) (kk : gJ g y d rc rs Post k j n lv st ws2) : gJ g y d rc rs Post k j pc lv (v :: .ref a :: st) ws := by
  subst hn
  subst hw2
  intro p l e R s m args below meth c A Q X ex H locs ls hl hP hD hS
  obtain ⟨C, T, N, ty0, hc, hk, hl1, hin, hsm, hty, hnm, hp, hfin⟩ := hF
  exact va_put X.1 X.2.1 X.2.2.2.2.1 hin ty0 hty hnm X.2.2.2.1 X.2.2.2.2.2.1 hP hD hS q0 he hc kf hk (X.2.2.2.2.1 _ hl1) (fun _ h9 => by rw [← hsm]; exact h9) hfin hp hnr hft hlt hd (fun H locs hP hD hS => kk p l e R s m args below meth c A Q X ex H locs ls hl hP hD hS)
theorem j_putF {a ci kf idx : Nat} {ty : FieldType} {fs : List Value} {v : Value} (n q0 : Nat) (ws2 : va_W) (hd : decode y.2.1 pc = .ok (.putfield idx, 3)) (hn : pc + 3 = n) (hF : gFd y.1.cls idx ci kf ty true) (hcl : (vwCl[ci]?).map (fun q => q.1) = some y.1.cls) (hini : y.1.name = "<init>") (he : ws[q0]? = some (a, .inr (ci, fs))) (hnr : narrow ty v = v) (hft : fits ty v = true) (hlt : kf < fs.length) (hw2 : ws.set q0 (a, .inr (ci, fs.set kf v)) = ws2) (kk : gJ g y d rc rs Post k j n lv st ws2) : gJ g y d rc rs Post k j pc lv (v :: .ref a :: st) ws := by
  subst hn
  subst hw2
  intro p l e R s m args below meth c A Q X ex H locs ls hl hP hD hS
  obtain ⟨C, T, N, ty0, hc, hk, hl1, hin, hsm, hty, hnm, hp, hfin⟩ := hF
  have hCo : C = y.1.cls := by rw [hc] at hcl; exact Option.some.inj hcl
  exact va_putF X.1 X.2.1 X.2.2.2.2.1 hin ty0 hty hnm X.2.2.2.1 X.2.2.2.2.2.1 hP hD hS q0 he hc kf hk (X.2.2.2.2.1 _ hl1) (fun _ h9 => by rw [← hsm]; exact h9) hfin (X.2.2.2.2.2.2.2.2.2.2.2.2.trans hini) (hsm.trans hCo) hp hnr hft hlt hd (fun H locs hP hD hS => kk p l e R s m args below meth c A Q X ex H locs ls hl hP hD hS)
theorem j_iald {a N : Nat} {f : Nat → Int32} {i : Int32} (n q0 : Nat) (hd : decode y.2.1 pc = .ok (.iaload, 1)) (hn : pc + 1 = n) (he : ws[q0]? = some (a, .inl (g.2.1 0, N, .inl f))) (hin : vp_in i N) (kk : gJ g y d rc rs Post k j n lv (.int (f i.toNatClampNeg) :: st) ws) : gJ g y d rc rs Post k j pc lv (.int i :: .ref a :: st) ws := by
  subst hn
  intro p l e R s m args below meth c A Q X ex H locs ls hl hP hD hS
  exact va_iald X.1 X.2.1 X.2.2.2.2.2.1 hP q0 0 he rfl hin hd (kk p l e R s m args below meth c A Q X ex H locs ls hl hP hD hS)
theorem j_bald {a N : Nat} {f : Nat → Int32} {i : Int32} (n q0 : Nat) (hd : decode y.2.1 pc = .ok (.baload, 1)) (hn : pc + 1 = n) (he : ws[q0]? = some (a, .inl (g.2.1 1, N, .inl f))) (hin : vp_in i N) (kk : gJ g y d rc rs Post k j n lv (.int (f i.toNatClampNeg) :: st) ws) : gJ g y d rc rs Post k j pc lv (.int i :: .ref a :: st) ws := by
  subst hn
  intro p l e R s m args below meth c A Q X ex H locs ls hl hP hD hS
  exact va_bald X.1 X.2.1 X.2.2.2.2.2.1 hP q0 1 he rfl hin hd (kk p l e R s m args below meth c A Q X ex H locs ls hl hP hD hS)
theorem j_zald {a N : Nat} {f : Nat → Int32} {i : Int32} (n q0 : Nat) (hd : decode y.2.1 pc = .ok (.baload, 1)) (hn : pc + 1 = n) (he : ws[q0]? = some (a, .inl (g.2.1 2, N, .inl f))) (hin : vp_in i N) (kk : gJ g y d rc rs Post k j n lv (.int (f i.toNatClampNeg) :: st) ws) : gJ g y d rc rs Post k j pc lv (.int i :: .ref a :: st) ws := by
  subst hn
  intro p l e R s m args below meth c A Q X ex H locs ls hl hP hD hS
  exact va_zald X.1 X.2.1 X.2.2.2.2.2.1 hP q0 2 he rfl hin hd (kk p l e R s m args below meth c A Q X ex H locs ls hl hP hD hS)
theorem j_iast {a N : Nat} {f : Nat → Int32} {i x : Int32} (n q0 : Nat) (ws2 : va_W) (hd : decode y.2.1 pc = .ok (.iastore, 1)) (hn : pc + 1 = n) (he : ws[q0]? = some (a, .inl (g.2.1 0, N, .inl f))) (hin : vp_in i N) (hw2 : ws.set q0 (a, .inl (g.2.1 0, N, .inl (upd f i.toNatClampNeg x))) = ws2) (kk : gJ g y d rc rs Post k j n lv st ws2) : gJ g y d rc rs Post k j pc lv (.int x :: .int i :: .ref a :: st) ws := by
  subst hn
  subst hw2
  intro p l e R s m args below meth c A Q X ex H locs ls hl hP hD hS
  exact va_iast X.1 X.2.1 X.2.2.2.2.2.1 hP hD hS q0 0 he rfl hin hd (fun H locs hP hD hS => kk p l e R s m args below meth c A Q X ex H locs ls hl hP hD hS)
theorem j_bast {a N : Nat} {f : Nat → Int32} {i x : Int32} (n q0 : Nat) (ws2 : va_W) (hd : decode y.2.1 pc = .ok (.bastore, 1)) (hn : pc + 1 = n) (he : ws[q0]? = some (a, .inl (g.2.1 1, N, .inl f))) (hin : vp_in i N) (hw2 : ws.set q0 (a, .inl (g.2.1 1, N, .inl (upd f i.toNatClampNeg (vp_nar .byte x)))) = ws2) (kk : gJ g y d rc rs Post k j n lv st ws2) : gJ g y d rc rs Post k j pc lv (.int x :: .int i :: .ref a :: st) ws := by
  subst hn
  subst hw2
  intro p l e R s m args below meth c A Q X ex H locs ls hl hP hD hS
  exact va_bast X.1 X.2.1 X.2.2.2.2.2.1 hP hD hS q0 1 he rfl hin hd (fun H locs hP hD hS => kk p l e R s m args below meth c A Q X ex H locs ls hl hP hD hS)
theorem j_zast {a N : Nat} {f : Nat → Int32} {i x : Int32} (n q0 : Nat) (ws2 : va_W) (hd : decode y.2.1 pc = .ok (.bastore, 1)) (hn : pc + 1 = n) (he : ws[q0]? = some (a, .inl (g.2.1 2, N, .inl f))) (hin : vp_in i N) (hw2 : ws.set q0 (a, .inl (g.2.1 2, N, .inl (upd f i.toNatClampNeg (vp_nar .boolean x)))) = ws2) (kk : gJ g y d rc rs Post k j n lv st ws2) : gJ g y d rc rs Post k j pc lv (.int x :: .int i :: .ref a :: st) ws := by
  subst hn
  subst hw2
  intro p l e R s m args below meth c A Q X ex H locs ls hl hP hD hS
  exact va_zast X.1 X.2.1 X.2.2.2.2.2.1 hP hD hS q0 2 he rfl hin hd (fun H locs hP hD hS => kk p l e R s m args below meth c A Q X ex H locs ls hl hP hD hS)
theorem j_aaldR {a N b : Nat} {f : Nat → Option Nat} {i : Int32} (n q0 : Nat) (hd : decode y.2.1 pc = .ok (.aaload, 1)) (hn : pc + 1 = n) (he : ws[q0]? = some (a, .inl (g.2.1 3, N, .inr (.inr (.inr (.inr f)))))) (hin : vp_in i N) (hb : f i.toNatClampNeg = some b) (kk : gJ g y d rc rs Post k j n lv (.ref b :: st) ws) : gJ g y d rc rs Post k j pc lv (.int i :: .ref a :: st) ws := by
  subst hn
  intro p l e R s m args below meth c A Q X ex H locs ls hl hP hD hS
  refine va_aldq (C := RX1) X.1 X.2.1 X.2.2.2.2.2.1 hP q0 3 he rfl hin hd ?_
  rw [hb]
  exact (kk p l e R s m args below meth c A Q X ex H locs ls hl hP hD hS)
theorem j_aaldS {a N b : Nat} {f : Nat → Option Nat} {i : Int32} (n q0 : Nat) (hd : decode y.2.1 pc = .ok (.aaload, 1)) (hn : pc + 1 = n) (he : ws[q0]? = some (a, .inl (g.2.1 4, N, .inr (.inr (.inr (.inr f)))))) (hin : vp_in i N) (hb : f i.toNatClampNeg = some b) (kk : gJ g y d rc rs Post k j n lv (.ref b :: st) ws) : gJ g y d rc rs Post k j pc lv (.int i :: .ref a :: st) ws := by
  subst hn
  intro p l e R s m args below meth c A Q X ex H locs ls hl hP hD hS
  refine va_aldq (C := RX3) X.1 X.2.1 X.2.2.2.2.2.1 hP q0 4 he rfl hin hd ?_
  rw [hb]
  exact (kk p l e R s m args below meth c A Q X ex H locs ls hl hP hD hS)
theorem j_aastR {a N b : Nat} {f : Nat → Option Nat} {vs : List Value} {i : Int32} (n q0 qk : Nat) (ws2 : va_W) (hd : decode y.2.1 pc = .ok (.aastore, 1)) (hn : pc + 1 = n) (he : ws[q0]? = some (a, .inl (g.2.1 3, N, .inr (.inr (.inr (.inr f)))))) (hv : ws[qk]? = some (b, .inr (1, vs))) (hin : vp_in i N) (hw2 : ws.set q0 (a, .inl (g.2.1 3, N, .inr (.inr (.inr (.inr (va_up f i.toNatClampNeg (some b))))))) = ws2) (kk : gJ g y d rc rs Post k j n lv st ws2) : gJ g y d rc rs Post k j pc lv (.ref b :: .int i :: .ref a :: st) ws := by
  subst hn
  subst hw2
  intro p l e R s m args below meth c A Q X ex H locs ls hl hP hD hS
  exact va_astq (r := (RX1, TX1, 3)) X.1 X.2.1 X.2.2.2.2.2.1 hP hD hS q0 3 qk 1 he rfl hv rfl hin hd (fun H locs hP hD hS => kk p l e R s m args below meth c A Q X ex H locs ls hl hP hD hS)
theorem j_aastS {a N b : Nat} {f : Nat → Option Nat} {vs : List Value} {i : Int32} (n q0 qk : Nat) (ws2 : va_W) (hd : decode y.2.1 pc = .ok (.aastore, 1)) (hn : pc + 1 = n) (he : ws[q0]? = some (a, .inl (g.2.1 4, N, .inr (.inr (.inr (.inr f)))))) (hv : ws[qk]? = some (b, .inr (3, vs))) (hin : vp_in i N) (hw2 : ws.set q0 (a, .inl (g.2.1 4, N, .inr (.inr (.inr (.inr (va_up f i.toNatClampNeg (some b))))))) = ws2) (kk : gJ g y d rc rs Post k j n lv st ws2) : gJ g y d rc rs Post k j pc lv (.ref b :: .int i :: .ref a :: st) ws := by
  subst hn
  subst hw2
  intro p l e R s m args below meth c A Q X ex H locs ls hl hP hD hS
  exact va_astq (r := (RX3, TX3, 5)) X.1 X.2.1 X.2.2.2.2.2.1 hP hD hS q0 4 qk 3 he rfl hv rfl hin hd (fun H locs hP hD hS => kk p l e R s m args below meth c A Q X ex H locs ls hl hP hD hS)
theorem j_alen {a t0 : Nat} {cA : ClassId} {x : vp_A} {ty : FieldType} {v : Int32} (n q0 : Nat) (hd : decode y.2.1 pc = .ok (.arraylength, 1)) (hn : pc + 1 = n) (he : ws[q0]? = some (a, .inl (cA, x))) (ht : (gT g)[t0]? = some (cA, ty)) (hv : Int32.ofNat x.1 = v) (kk : gJ g y d rc rs Post k j n lv (.int v :: st) ws) : gJ g y d rc rs Post k j pc lv (.ref a :: st) ws := by
  subst hn
  intro p l e R s m args below meth c A Q X ex H locs ls hl hP hD hS
  exact va_alen X.1 X.2.1 X.2.2.2.2.2.1 hP q0 t0 he ht hv hd (kk p l e R s m args below meth c A Q X ex H locs ls hl hP hD hS)
end GJ
