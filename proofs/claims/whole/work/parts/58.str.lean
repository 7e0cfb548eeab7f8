section GSTR
variable {g : gG} {y : gM} {d rc rs : Nat} {Post : Nat → Nat → Option Value → va_W → Prop} {k j pc : Nat} {lv : List (Nat × Value)} {st : List Value} {ws : va_W}
/-- a call on a String constant, which needs no world -/
theorem j_callVs {yc : gM} {dc idx na : Nat} {As rest : List Value} {r : Option Value} (i n : Nat) (hi : i < 11) (hc : gCon g yc dc 0 0 (.ref (gK g i) :: As) [] (fun rv ws' => rv = r ∧ ws' = [])) (st2 : List Value) (hd : decode y.2.1 pc = .ok (.invokevirtual idx, 3)) (hn : pc + 3 = n) (hl : gCv y.1.cls idx yc na) (hs : st = As.reverse ++ .ref (gK g i) :: rest) (hna : As.length = na) (hcls : yc.1.cls = "java/lang/String")
    (hdp : dc + 1 ≤ d) (hst : (rest.map fun v => v.category).sum ≤ 8) (hk : k ≤ rc) (hj : j ≤ rs) (hst2 : r.toList ++ rest = st2) (kk : gJ g y d rc rs Post k j n lv st2 ws) : gJ g y d rc rs Post k j pc lv st ws := by
  subst hn; subst hs
  intro p l e R s m args below meth c A Q X ex H locs ls hlv hP hD hS
  obtain ⟨hx, hb, hml, hown, hts, hK, hC, hA, hfr, hlo, hrc, hrs, hnm⟩ := id X
  obtain ⟨hl1, hl2, hl3, hl4⟩ := hl
  have hR := gRoom (mc := 0) (ms := 0) hl4 hdp hfr hlo
  obtain ⟨hb1, hb2, hb3, hb4, hb5, hb6⟩ := hl4
  have hcw : CallW R s args y.1.cls yc.1.cls idx yc.1 yc.2.1 yc.2.2.1 yc.2.2.2 (gW yc) (gR dc 0 0) 0 0 na := cwV na hts (gGI (fun w hw => by
    simp only [wsV, gW, List.cons_append, List.nil_append, List.mem_cons] at hw
    rcases hw with rfl | rfl | rfl | rfl | rfl | hw
    · exact hl1
    · exact hl2
    · exact hl3
    · exact hb1
    · exact hb2
    · exact hw)) rfl rfl rfl ⟨rfl, hb3, hb4, hb5⟩ hR
  have hrecv : ∃ cellB : Cell, H[gK g i]? = some cellB ∧ cellB.vm.isStatics = false ∧ s.vm.findClass yc.1.cls = some cellB.cls := by
    rw [hcls]
    exact vk_recv hC.1 hi hS
  refine gBack (is := []) (wc := []) (va_runV (As := As) (rest := rest) ⟨hx, hb, hml, hown, hts⟩ (hc l H.size) hcw ⟨gPre_blind, hrecv, fun U hU hW => ⟨rfl, gPre_at (is := []) (wc := []) rfl hK hC hP hD hS hA rfl rfl hU hW⟩⟩ rfl hna hlv.1 rfl (lv_room hst) hd ⟨by rw [hrc]; exact hk, by rw [hrs]; exact hj⟩) hP hD hS hA rfl rfl ?_
  intro rv w1 hp
  obtain ⟨rfl, rfl⟩ := hp
  exact ⟨Nat.le_refl 0, fun H1 locs1 hP1 hD1 hS1 => (by rw [hst2]; exact kk : gJ g y d rc rs Post k j (pc + 3) lv (rv.toList ++ rest) ws) p l e R s m args below meth c A Q X ex H1 locs1 ls hlv (by simpa [gPut] using hP1) (by simpa [gPut] using hD1) hS1⟩
theorem j_gcs {idx : Nat} (n : Nat) (hd : decode y.2.1 pc = .ok (.getstatic idx, 3)) (hn : pc + 3 = n) (hw : Cond.fieldLink y.1.cls idx RJ0 "COMPACT_STRINGS" "Z" ∈ gWS) (kk : gJ g y d rc rs Post k j n lv (.int 1 :: st) ws) : gJ g y d rc rs Post k j pc lv st ws := by
  subst hn
  intro p l e R s m args below meth c A Q X ex H locs ls hlv hP hD hS
  obtain ⟨hx, hb, hml, hown, hts, hK, hCc, hA, hfr, hlo, hrc, hrs, hnm⟩ := id X
  exact va_gets hx hb hCc.2.2.2.2.2.2.2.2.1 hS hown (hts _ hw) (fun _ h => h) hd (kk p l e R s m args below meth c A Q X ex H locs ls hlv hP hD hS)
theorem j_gfm {idx : Nat} (n : Nat) (hd : decode y.2.1 pc = .ok (.getstatic idx, 3)) (hn : pc + 3 = n) (hw : Cond.fieldLink y.1.cls idx RJ3 "SIOOBE_FORMATTER" "Ljava/util/function/BiFunction;" ∈ gWS) (kk : ∀ z : Option Nat, gJ g y d rc rs Post k j n lv (va_rf z :: st) ws) : gJ g y d rc rs Post k j pc lv st ws := by
  subst hn
  intro p l e R s m args below meth c A Q X ex H locs ls hlv hP hD hS
  obtain ⟨hx, hb, hml, hown, hts, hK, hCc, hA, hfr, hlo, hrc, hrs, hnm⟩ := id X
  rcases hCc.2.2.2.2.2.2.2.2.2.1 with hZ | ⟨t, hZ⟩
  · exact va_gets hx hb hZ hS hown (hts _ hw) (fun _ h => h) hd (kk none p l e R s m args below meth c A Q X ex H locs ls hlv hP hD hS)
  · exact va_gets hx hb hZ hS hown (hts _ hw) (fun _ h => h) hd (kk (some t) p l e R s m args below meth c A Q X ex H locs ls hlv hP hD hS)
theorem j_sval {idx : Nat} (i n : Nat) (hi : i < 11) (hd : decode y.2.1 pc = .ok (.getfield idx, 3)) (hn : pc + 3 = n) (hw : Cond.fieldLink y.1.cls idx RJ0 "value" "[B" ∈ gWS) (kk : gJ g y d rc rs Post k j n lv (.ref (gV g i) :: st) ws) : gJ g y d rc rs Post k j pc lv (.ref (gK g i) :: st) ws := by
  subst hn
  intro p l e R s m args below meth c A Q X ex H locs ls hlv hP hD hS
  obtain ⟨hx, hb, hml, hown, hts, hK, hCc, hA, hfr, hlo, hrc, hrs, hnm⟩ := id X
  exact vk_getf hx hb (hCc.1.1 i hi).2.2.1 hS hown (hts _ hw) (fun _ h => h) hd (kk p l e R s m args below meth c A Q X ex H locs ls hlv hP hD hS)
theorem j_scod {idx : Nat} (i n : Nat) (hi : i < 11) (hd : decode y.2.1 pc = .ok (.getfield idx, 3)) (hn : pc + 3 = n) (hw : Cond.fieldLink y.1.cls idx RJ0 "coder" "B" ∈ gWS) (kk : gJ g y d rc rs Post k j n lv (.int 0 :: st) ws) : gJ g y d rc rs Post k j pc lv (.ref (gK g i) :: st) ws := by
  subst hn
  intro p l e R s m args below meth c A Q X ex H locs ls hlv hP hD hS
  obtain ⟨hx, hb, hml, hown, hts, hK, hCc, hA, hfr, hlo, hrc, hrs, hnm⟩ := id X
  exact vk_getf hx hb (hCc.1.1 i hi).2.1 hS hown (hts _ hw) (fun _ h => h) hd (kk p l e R s m args below meth c A Q X ex H locs ls hlv hP hD hS)
theorem j_svl (i n : Nat) (hi : i < 11) (hd : decode y.2.1 pc = .ok (.arraylength, 1)) (hn : pc + 1 = n) (kk : gJ g y d rc rs Post k j n lv (.int (nI (gKl.getD i 0)) :: st) ws) : gJ g y d rc rs Post k j pc lv (.ref (gV g i) :: st) ws := by
  subst hn
  intro p l e R s m args below meth c A Q X ex H locs ls hlv hP hD hS
  obtain ⟨hx, hb, hml, hown, hts, hK, hCc, hA, hfr, hlo, hrc, hrs, hnm⟩ := id X
  exact va_tlen hx hb (hCc.1.1 i hi).2.2.2 hS rfl hd (kk p l e R s m args below meth c A Q X ex H locs ls hlv hP hD hS)
theorem j_svb (i x n : Nat) (hi : i < 11) (hx6 : x < gKl.getD i 0) (h6 : gKl.getD i 0 ≤ 6) (hd : decode y.2.1 pc = .ok (.baload, 1)) (hn : pc + 1 = n) (kk : gJ g y d rc rs Post k j n lv (.int ((gKb.getD i []).getD x 0) :: st) ws) : gJ g y d rc rs Post k j pc lv (.int (nI x) :: .ref (gV g i) :: st) ws := by
  subst hn
  intro p l e R s m args below meth c A Q X ex H locs ls hlv hP hD hS
  obtain ⟨hx, hb, hml, hown, hts, hK, hCc, hA, hfr, hlo, hrc, hrs, hnm⟩ := id X
  exact va_tb hx hb (hCc.1.1 i hi).2.2.2 hS (vp_in_nI hx6 (by omega)) (by rw [nI_clamp (by omega)]) hd (kk p l e R s m args below meth c A Q X ex H locs ls hlv hP hD hS)
end GSTR
theorem gKl_6 : ∀ i, i < 11 → gKl.getD i 0 ≤ 6 ∧ 3 ≤ gKl.getD i 0 := by decide
theorem gKb_c : ∀ i, i < 11 → ∀ x, x < 6 → x < gKl.getD i 0 → ((((gKb.getD i []).getD x 0) &&& 255).toUInt32 % 65536).toInt32 = (gKb.getD i []).getD x 0 := by decide
theorem gKb_n : ∀ i, i < 11 → ∀ x, x < 6 → x < gKl.getD i 0 → narrow .char (.int ((gKb.getD i []).getD x 0)) = .int ((gKb.getD i []).getD x 0) := by decide
theorem gKl_s : ∀ i, i < 11 → nI (gKl.getD i 0) >>> ((0 : Int32) &&& 31) = nI (gKl.getD i 0) := by decide
theorem c_coder (g : gG) (i : Nat) (hi : i < 11) : gCon g mJ0_coder_7d493 0 0 0 [.ref (gK g i)] [] (fun rv ws' => rv = some (.int 0) ∧ ws' = []) := by
  refine gCon.of (lv := [(0, .ref (gK g i))]) (by decide) (gLe rfl) rfl ?_
  refine j_gcs 3 dJ0_coder_7d493_0 rfl wd_2_83 ?_
  refine j_if_eq 6 13 dJ0_coder_7d493_3 rfl rfl (fun h => absurd h (by decide)) (fun _ => ?_)
  refine j_aload_n 7 dJ0_coder_7d493_6 rfl 0 rfl ?_
  refine j_scod i 10 hi dJ0_coder_7d493_7 rfl wd_6_13 ?_
  refine j_goto 14 dJ0_coder_7d493_10 rfl ?_
  exact j_iret dJ0_coder_7d493_14 rfl (by decide) ⟨gLe rfl, gLe rfl, rfl, rfl⟩
theorem c_latin (g : gG) (i : Nat) (hi : i < 11) : gCon g mJ0_isLatin1_aae02 0 0 0 [.ref (gK g i)] [] (fun rv ws' => rv = some (.int 1) ∧ ws' = []) := by
  refine gCon.of (lv := [(0, .ref (gK g i))]) (by decide) (gLe rfl) rfl ?_
  refine j_gcs 3 dJ0_isLatin1_aae02_0 rfl wd_2_83 ?_
  refine j_if_eq 6 17 dJ0_isLatin1_aae02_3 rfl rfl (fun h => absurd h (by decide)) (fun _ => ?_)
  refine j_aload_n 7 dJ0_isLatin1_aae02_6 rfl 0 rfl ?_
  refine j_scod i 10 hi dJ0_isLatin1_aae02_7 rfl wd_6_13 ?_
  refine j_if_ne 13 17 dJ0_isLatin1_aae02_10 rfl rfl (fun h => absurd rfl h) (fun _ => ?_)
  refine j_iconst (v := (1 : Int32)) 14 dJ0_isLatin1_aae02_13 rfl (by decide) ?_
  refine j_goto 18 dJ0_isLatin1_aae02_14 rfl ?_
  exact j_iret dJ0_isLatin1_aae02_18 rfl (by decide) ⟨gLe rfl, gLe rfl, rfl, rfl⟩
theorem c_slen (g : gG) (i : Nat) (hi : i < 11) : gCon g mJ0_length_8abf5 1 0 0 [.ref (gK g i)] [] (fun rv ws' => rv = some (.int (nI (gKl.getD i 0))) ∧ ws' = []) := by
  refine gCon.of (lv := [(0, .ref (gK g i))]) (by decide) (gLe rfl) rfl ?_
  refine j_aload_n 1 dJ0_length_8abf5_0 rfl 0 rfl ?_
  refine j_sval i 4 hi dJ0_length_8abf5_1 rfl wd_6_12 ?_
  refine j_svl i 5 hi dJ0_length_8abf5_4 rfl ?_
  refine j_aload_n 6 dJ0_length_8abf5_5 rfl 0 rfl ?_
  refine j_callVs (As := []) (rest := [.int (nI (gKl.getD i 0))]) i 9 hi (c_coder g i hi) [.int 0, .int (nI (gKl.getD i 0))] dJ0_length_8abf5_6 rfl cv_J0_335 rfl rfl rfl (gLe rfl) (gLe rfl) (gLe rfl) (gLe rfl) rfl ?_
  refine j_ishr 10 dJ0_length_8abf5_9 rfl ?_
  refine j_topI _ _ (gKl_s i hi) ?_
  exact j_iretI dJ0_length_8abf5_10 rfl ⟨gLe rfl, gLe rfl, rfl, rfl⟩
theorem c_chk3 (g : gG) (a b : Nat) (z : Option Nat) (h : a < b) (hb : b < 100) : gCon g mJ3_checkIndex_8e157 0 0 0 [.int (nI a), .int (nI b), va_rf z] [] (fun rv ws' => rv = some (.int (nI a)) ∧ ws' = []) := by
  refine gCon.of (lv := [(0, .int (nI a)), (1, .int (nI b)), (2, va_rf z)]) (by decide) (by cases z <;> exact gLe rfl) (by cases z <;> rfl) ?_
  refine j_iload_n 1 dJ3_checkIndex_8e157_0 rfl 0 rfl ?_
  refine j_if_ltN a 4 dJ3_checkIndex_8e157_1 rfl (t := 9) rfl (by omega) ?_
  refine j_iload_n 5 dJ3_checkIndex_8e157_4 rfl 0 rfl ?_
  refine j_iload_n 6 dJ3_checkIndex_8e157_5 rfl 1 rfl ?_
  refine j_icmp_ltN a b 9 16 dJ3_checkIndex_8e157_6 rfl rfl (by omega) (by omega) (fun _ => ?_) (fun y => absurd h y)
  refine j_iload_n 17 dJ3_checkIndex_8e157_16 rfl 0 rfl ?_
  exact j_iretI dJ3_checkIndex_8e157_17 rfl ⟨gLe rfl, gLe rfl, rfl, rfl⟩
theorem c_chk2 (g : gG) (a b : Nat) (h : a < b) (hb : b < 100) : gCon g mJ0_checkIndex_df160 1 0 0 [.int (nI a), .int (nI b)] [] (fun rv ws' => rv = none ∧ ws' = []) := by
  refine gCon.of (lv := [(0, .int (nI a)), (1, .int (nI b))]) (by decide) (gLe rfl) rfl ?_
  refine j_iload_n 1 dJ0_checkIndex_df160_0 rfl 0 rfl ?_
  refine j_iload_n 2 dJ0_checkIndex_df160_1 rfl 1 rfl ?_
  refine j_gfm 5 dJ0_checkIndex_df160_2 rfl wd_2_99 (fun z => ?_)
  refine j_callSE (rest := []) 8 (c_chk3 g a b z h hb) [.int (nI a)] dJ0_checkIndex_df160_5 rfl cs_J0_1059 rfl rfl (gLe rfl) (gLe rfl) (gLe rfl) (gLe rfl) rfl ?_
  refine j_pop 9 dJ0_checkIndex_df160_8 rfl rfl ?_
  exact j_vret dJ0_checkIndex_df160_9 rfl ⟨gLe rfl, gLe rfl, rfl, rfl⟩
theorem c_latAt (g : gG) (i x : Nat) (hi : i < 11) (hx : x < gKl.getD i 0) : gCon g mJ1_charAt_3b067 2 0 0 [.ref (gV g i), .int (nI x)] [] (fun rv ws' => rv = some (.int ((gKb.getD i []).getD x 0)) ∧ ws' = []) := by
  have h6 := (gKl_6 i hi).1
  refine gCon.of (lv := [(0, .ref (gV g i)), (1, .int (nI x))]) (by decide) (gLe rfl) rfl ?_
  refine j_iload_n 1 dJ1_charAt_3b067_0 rfl 1 rfl ?_
  refine j_aload_n 2 dJ1_charAt_3b067_1 rfl 0 rfl ?_
  refine j_svl i 3 hi dJ1_charAt_3b067_2 rfl ?_
  refine j_callSE (rest := []) 6 (c_chk2 g x (gKl.getD i 0) hx (by omega)) [] dJ1_charAt_3b067_3 rfl cs_J1_9 rfl rfl (gLe rfl) (gLe rfl) (gLe rfl) (gLe rfl) rfl ?_
  refine j_aload_n 7 dJ1_charAt_3b067_6 rfl 0 rfl ?_
  refine j_iload_n 8 dJ1_charAt_3b067_7 rfl 1 rfl ?_
  refine j_svb i x 9 hi hx h6 dJ1_charAt_3b067_8 rfl ?_
  refine j_sipush (v := (255 : Int32)) 12 dJ1_charAt_3b067_9 rfl (by decide) ?_
  refine j_iand 13 dJ1_charAt_3b067_12 rfl ?_
  refine j_i2c 14 dJ1_charAt_3b067_13 rfl ?_
  refine j_topI _ _ (gKb_c i hi x (by omega) hx) ?_
  exact j_iret dJ1_charAt_3b067_14 rfl (gKb_n i hi x (by omega) hx) ⟨gLe rfl, gLe rfl, rfl, rfl⟩
theorem c_chAt (g : gG) (i x : Nat) (hi : i < 11) (hx : x < gKl.getD i 0) : gCon g mJ0_charAt_5068e 3 0 0 [.ref (gK g i), .int (nI x)] [] (fun rv ws' => rv = some (.int ((gKb.getD i []).getD x 0)) ∧ ws' = []) := by
  have h6 := (gKl_6 i hi).1
  refine gCon.of (lv := [(0, .ref (gK g i)), (1, .int (nI x))]) (by decide) (gLe rfl) rfl ?_
  refine j_aload_n 1 dJ0_charAt_5068e_0 rfl 0 rfl ?_
  refine j_callVs (As := []) (rest := []) i 4 hi (c_latin g i hi) [.int 1] dJ0_charAt_5068e_1 rfl cv_J0_492 rfl rfl rfl (gLe rfl) (gLe rfl) (gLe rfl) (gLe rfl) rfl ?_
  refine j_if_eq 7 16 dJ0_charAt_5068e_4 rfl rfl (fun h => absurd h (by decide)) (fun _ => ?_)
  refine j_aload_n 8 dJ0_charAt_5068e_7 rfl 0 rfl ?_
  refine j_sval i 11 hi dJ0_charAt_5068e_8 rfl wd_6_12 ?_
  refine j_iload_n 12 dJ0_charAt_5068e_11 rfl 1 rfl ?_
  refine j_callSE (rest := []) 15 (c_latAt g i x hi hx) [.int ((gKb.getD i []).getD x 0)] dJ0_charAt_5068e_12 rfl cs_J0_495 rfl rfl (gLe rfl) (gLe rfl) (gLe rfl) (gLe rfl) rfl ?_
  exact j_iret dJ0_charAt_5068e_15 rfl (gKb_n i hi x (by omega) hx) ⟨gLe rfl, gLe rfl, rfl, rfl⟩
