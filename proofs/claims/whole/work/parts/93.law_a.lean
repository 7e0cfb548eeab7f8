set_option maxRecDepth 20000 in
theorem lw_c0 (g : gG) (nm : String) (u q : Nat → Nat) (zS : RS) (zc : va_W) (zi kk jj : Nat) (hi : zi + 6 ≤ g.2.2.2.1) (hL : g.2.2.2.1 ≤ 384) (hI : RI zS) (hC : cR g u zS zc) (hk : kk + 10 ≤ 600000) (hj : jj + 23392 ≤ 7302250) (cont : ∀ (S2 : RS) (z2 : va_W), RI S2 → cR g u S2 z2 → gJ g (mLn nm) 60 600000 7302250 (fun k' j' rv ws' => k' ≤ 600000 ∧ j' ≤ 7302250 ∧ rv = some (.int 1)) (kk + 10) (jj + 23392) 1128 [(3, .int (nI zi)), (2, .ref (q 26)), (1, .ref (u 0)), (0, .ref (gA g 5))] [] (z2 ++ wS g q S2)) : gJ g (mLn nm) 60 600000 7302250 (fun k' j' rv ws' => k' ≤ 600000 ∧ j' ≤ 7302250 ∧ rv = some (.int 1)) kk jj 168 [(3, .int (nI zi)), (2, .ref (q 26)), (1, .ref (u 0)), (0, .ref (gA g 5))] [] (zc ++ wS g q zS) := by
  refine j_aload_n 169 dL_law_168 rfl 2 rfl ?_
  refine j_aload_n 170 dL_law_169 rfl 3 rfl ?_
  refine j_iload_n 171 dL_law_170 rfl 0 rfl ?_
  refine j_iconst (v := (1 : Int32)) 172 dL_law_171 rfl (by decide) ?_
  refine j_iaddN zi 1 173 dL_law_172 rfl ?_
  refine j_sld 174 dL_law_173 rfl (vp_in_nI (by omega) (by omega)) ?_
  refine j_aload_n 175 dL_law_174 rfl 3 rfl ?_
  refine j_iload_n 176 dL_law_175 rfl 0 rfl ?_
  refine j_iconst (v := (2 : Int32)) 177 dL_law_176 rfl (by decide) ?_
  refine j_iaddN zi 2 178 dL_law_177 rfl ?_
  refine j_sld 179 dL_law_178 rfl (vp_in_nI (by omega) (by omega)) ?_
  refine j_aload_n 180 dL_law_179 rfl 3 rfl ?_
  refine j_iload_n 181 dL_law_180 rfl 0 rfl ?_
  refine j_iconst (v := (3 : Int32)) 182 dL_law_181 rfl (by decide) ?_
  refine j_iaddN zi 3 183 dL_law_182 rfl ?_
  refine j_sld 184 dL_law_183 rfl (vp_in_nI (by omega) (by omega)) ?_
  obtain ⟨zfs, zmm⟩ := cR_mem hC
  refine j_callVP (As := [.int (g.2.2.2.2 (nI (zi + 1)).toNatClampNeg), .int (g.2.2.2.2 (nI (zi + 2)).toNatClampNeg), .int (g.2.2.2.2 (nI (zi + 3)).toNatClampNeg)]) (rest := []) (wc := zc) (wr := wS g q zS) 187 (k_row g u zS zc (g.2.2.2.2 (nI (zi + 1)).toNatClampNeg) (g.2.2.2.2 (nI (zi + 2)).toNatClampNeg) (g.2.2.2.2 (nI (zi + 3)).toNatClampNeg) hI hC) dL_law_184 rfl cv_L_13 rfl rfl zmm rfl (gLe rfl) (gLe rfl) (by omega) (by omega) (fun rv w1 hp => ?_)
  obtain ⟨rfl, hC2⟩ := hp
  refine j_eq (lv2 := [(3, .int (nI zi)), (2, .ref (q 26)), (1, .ref (u 0)), (0, .ref (gA g 5))]) (st2 := [.int ((pM_row (g.2.2.2.2 (nI (zi + 1)).toNatClampNeg) (g.2.2.2.2 (nI (zi + 2)).toNatClampNeg) (g.2.2.2.2 (nI (zi + 3)).toNatClampNeg) zS).1)]) (ws2 := w1 ++ wS g q zS) rfl rfl rfl ?_
  refine j_aload_n 188 dL_law_187 rfl 1 rfl ?_
  refine j_aload_n 189 dL_law_188 rfl 3 rfl ?_
  refine j_iload_n 190 dL_law_189 rfl 0 rfl ?_
  refine j_iconst (v := (1 : Int32)) 191 dL_law_190 rfl (by decide) ?_
  refine j_iaddN zi 1 192 dL_law_191 rfl ?_
  refine j_sld 193 dL_law_192 rfl (vp_in_nI (by omega) (by omega)) ?_
  refine j_aload_n 194 dL_law_193 rfl 3 rfl ?_
  refine j_iload_n 195 dL_law_194 rfl 0 rfl ?_
  refine j_iconst (v := (2 : Int32)) 196 dL_law_195 rfl (by decide) ?_
  refine j_iaddN zi 2 197 dL_law_196 rfl ?_
  refine j_sld 198 dL_law_197 rfl (vp_in_nI (by omega) (by omega)) ?_
  refine j_aload_n 199 dL_law_198 rfl 3 rfl ?_
  refine j_iload_n 200 dL_law_199 rfl 0 rfl ?_
  refine j_iconst (v := (3 : Int32)) 201 dL_law_200 rfl (by decide) ?_
  refine j_iaddN zi 3 202 dL_law_201 rfl ?_
  refine j_sld 203 dL_law_202 rfl (vp_in_nI (by omega) (by omega)) ?_
  refine j_perm (wS g q zS ++ w1) List.perm_append_comm ?_
  refine j_callVP (As := [.int (g.2.2.2.2 (nI (zi + 1)).toNatClampNeg), .int (g.2.2.2.2 (nI (zi + 2)).toNatClampNeg), .int (g.2.2.2.2 (nI (zi + 3)).toNatClampNeg)]) (rest := [.int ((pM_row (g.2.2.2.2 (nI (zi + 1)).toNatClampNeg) (g.2.2.2.2 (nI (zi + 2)).toNatClampNeg) (g.2.2.2.2 (nI (zi + 3)).toNatClampNeg) zS).1)]) (wc := wS g q zS) (wr := w1) 206 (c_X6_row g q zS.1 zS.2.1 zS.2.2.1 zS.2.2.2 (g.2.2.2.2 (nI (zi + 1)).toNatClampNeg) (g.2.2.2.2 (nI (zi + 2)).toNatClampNeg) (g.2.2.2.2 (nI (zi + 3)).toNatClampNeg) hI) dL_law_203 rfl cv_L_17 rfl rfl (List.mem_cons_self (l := (wS g q zS).tail)) rfl (gLe rfl) (gLe rfl) (by omega) (by omega) (fun rv w2 hp => ?_)
  obtain ⟨rfl, rfl⟩ := hp
  refine j_eq (lv2 := [(3, .int (nI zi)), (2, .ref (q 26)), (1, .ref (u 0)), (0, .ref (gA g 5))]) (st2 := [.int ((pM_row (g.2.2.2.2 (nI (zi + 1)).toNatClampNeg) (g.2.2.2.2 (nI (zi + 2)).toNatClampNeg) (g.2.2.2.2 (nI (zi + 3)).toNatClampNeg) zS).1), .int ((pM_row (g.2.2.2.2 (nI (zi + 1)).toNatClampNeg) (g.2.2.2.2 (nI (zi + 2)).toNatClampNeg) (g.2.2.2.2 (nI (zi + 3)).toNatClampNeg) zS).1)]) (ws2 := wS g q (pM_row (g.2.2.2.2 (nI (zi + 1)).toNatClampNeg) (g.2.2.2.2 (nI (zi + 2)).toNatClampNeg) (g.2.2.2.2 (nI (zi + 3)).toNatClampNeg) zS).2 ++ w1) rfl rfl rfl ?_
  refine j_perm (w1 ++ wS g q (pM_row (g.2.2.2.2 (nI (zi + 1)).toNatClampNeg) (g.2.2.2.2 (nI (zi + 2)).toNatClampNeg) (g.2.2.2.2 (nI (zi + 3)).toNatClampNeg) zS).2) List.perm_append_comm ?_
  refine j_icmp_eq 209 1128 dL_law_206 rfl rfl (fun _ => ?_) (fun hne => absurd rfl hne)
  refine j_widen (kk + 10) (jj + 23392) (by omega) (by omega) ?_
  exact cont (pM_row (g.2.2.2.2 (nI (zi + 1)).toNatClampNeg) (g.2.2.2.2 (nI (zi + 2)).toNatClampNeg) (g.2.2.2.2 (nI (zi + 3)).toNatClampNeg) zS).2 w1 (RI_row hI (g.2.2.2.2 (nI (zi + 1)).toNatClampNeg) (g.2.2.2.2 (nI (zi + 2)).toNatClampNeg) (g.2.2.2.2 (nI (zi + 3)).toNatClampNeg)) hC2
set_option maxRecDepth 20000 in
theorem lw_c1 (g : gG) (nm : String) (u q : Nat → Nat) (zS : RS) (zc : va_W) (zi kk jj : Nat) (hi : zi + 6 ≤ g.2.2.2.1) (hL : g.2.2.2.1 ≤ 384) (hI : RI zS) (hC : cR g u zS zc) (hk : kk + 10 ≤ 600000) (hj : jj + 23392 ≤ 7302250) (cont : ∀ (S2 : RS) (z2 : va_W), RI S2 → cR g u S2 z2 → gJ g (mLn nm) 60 600000 7302250 (fun k' j' rv ws' => k' ≤ 600000 ∧ j' ≤ 7302250 ∧ rv = some (.int 1)) (kk + 10) (jj + 23392) 1128 [(3, .int (nI zi)), (2, .ref (q 26)), (1, .ref (u 0)), (0, .ref (gA g 5))] [] (z2 ++ wS g q S2)) : gJ g (mLn nm) 60 600000 7302250 (fun k' j' rv ws' => k' ≤ 600000 ∧ j' ≤ 7302250 ∧ rv = some (.int 1)) kk jj 211 [(3, .int (nI zi)), (2, .ref (q 26)), (1, .ref (u 0)), (0, .ref (gA g 5))] [] (zc ++ wS g q zS) := by
  refine j_aload_n 212 dL_law_211 rfl 2 rfl ?_
  refine j_aload_n 213 dL_law_212 rfl 3 rfl ?_
  refine j_iload_n 214 dL_law_213 rfl 0 rfl ?_
  refine j_iconst (v := (1 : Int32)) 215 dL_law_214 rfl (by decide) ?_
  refine j_iaddN zi 1 216 dL_law_215 rfl ?_
  refine j_sld 217 dL_law_216 rfl (vp_in_nI (by omega) (by omega)) ?_
  refine j_aload_n 218 dL_law_217 rfl 3 rfl ?_
  refine j_iload_n 219 dL_law_218 rfl 0 rfl ?_
  refine j_iconst (v := (2 : Int32)) 220 dL_law_219 rfl (by decide) ?_
  refine j_iaddN zi 2 221 dL_law_220 rfl ?_
  refine j_sld 222 dL_law_221 rfl (vp_in_nI (by omega) (by omega)) ?_
  refine j_aload_n 223 dL_law_222 rfl 3 rfl ?_
  refine j_iload_n 224 dL_law_223 rfl 0 rfl ?_
  refine j_iconst (v := (3 : Int32)) 225 dL_law_224 rfl (by decide) ?_
  refine j_iaddN zi 3 226 dL_law_225 rfl ?_
  refine j_sld 227 dL_law_226 rfl (vp_in_nI (by omega) (by omega)) ?_
  obtain ⟨zfs, zmm⟩ := cR_mem hC
  refine j_callVP (As := [.int (g.2.2.2.2 (nI (zi + 1)).toNatClampNeg), .int (g.2.2.2.2 (nI (zi + 2)).toNatClampNeg), .int (g.2.2.2.2 (nI (zi + 3)).toNatClampNeg)]) (rest := []) (wc := zc) (wr := wS g q zS) 230 (k_set g u zS zc (g.2.2.2.2 (nI (zi + 1)).toNatClampNeg) (g.2.2.2.2 (nI (zi + 2)).toNatClampNeg) (g.2.2.2.2 (nI (zi + 3)).toNatClampNeg) hI hC) dL_law_227 rfl cv_L_18 rfl rfl zmm rfl (gLe rfl) (gLe rfl) (by omega) (by omega) (fun rv w1 hp => ?_)
  obtain ⟨rfl, hC2⟩ := hp
  refine j_eq (lv2 := [(3, .int (nI zi)), (2, .ref (q 26)), (1, .ref (u 0)), (0, .ref (gA g 5))]) (st2 := [.int ((pM_set (g.2.2.2.2 (nI (zi + 1)).toNatClampNeg) (g.2.2.2.2 (nI (zi + 2)).toNatClampNeg) (g.2.2.2.2 (nI (zi + 3)).toNatClampNeg) zS).1)]) (ws2 := w1 ++ wS g q zS) rfl rfl rfl ?_
  refine j_aload_n 231 dL_law_230 rfl 1 rfl ?_
  refine j_aload_n 232 dL_law_231 rfl 3 rfl ?_
  refine j_iload_n 233 dL_law_232 rfl 0 rfl ?_
  refine j_iconst (v := (1 : Int32)) 234 dL_law_233 rfl (by decide) ?_
  refine j_iaddN zi 1 235 dL_law_234 rfl ?_
  refine j_sld 236 dL_law_235 rfl (vp_in_nI (by omega) (by omega)) ?_
  refine j_aload_n 237 dL_law_236 rfl 3 rfl ?_
  refine j_iload_n 238 dL_law_237 rfl 0 rfl ?_
  refine j_iconst (v := (2 : Int32)) 239 dL_law_238 rfl (by decide) ?_
  refine j_iaddN zi 2 240 dL_law_239 rfl ?_
  refine j_sld 241 dL_law_240 rfl (vp_in_nI (by omega) (by omega)) ?_
  refine j_aload_n 242 dL_law_241 rfl 3 rfl ?_
  refine j_iload_n 243 dL_law_242 rfl 0 rfl ?_
  refine j_iconst (v := (3 : Int32)) 244 dL_law_243 rfl (by decide) ?_
  refine j_iaddN zi 3 245 dL_law_244 rfl ?_
  refine j_sld 246 dL_law_245 rfl (vp_in_nI (by omega) (by omega)) ?_
  refine j_perm (wS g q zS ++ w1) List.perm_append_comm ?_
  refine j_callVP (As := [.int (g.2.2.2.2 (nI (zi + 1)).toNatClampNeg), .int (g.2.2.2.2 (nI (zi + 2)).toNatClampNeg), .int (g.2.2.2.2 (nI (zi + 3)).toNatClampNeg)]) (rest := [.int ((pM_set (g.2.2.2.2 (nI (zi + 1)).toNatClampNeg) (g.2.2.2.2 (nI (zi + 2)).toNatClampNeg) (g.2.2.2.2 (nI (zi + 3)).toNatClampNeg) zS).1)]) (wc := wS g q zS) (wr := w1) 249 (c_X6_set g q zS.1 zS.2.1 zS.2.2.1 zS.2.2.2 (g.2.2.2.2 (nI (zi + 1)).toNatClampNeg) (g.2.2.2.2 (nI (zi + 2)).toNatClampNeg) (g.2.2.2.2 (nI (zi + 3)).toNatClampNeg) hI) dL_law_246 rfl cv_L_21 rfl rfl (List.mem_cons_self (l := (wS g q zS).tail)) rfl (gLe rfl) (gLe rfl) (by omega) (by omega) (fun rv w2 hp => ?_)
  obtain ⟨rfl, rfl⟩ := hp
  refine j_eq (lv2 := [(3, .int (nI zi)), (2, .ref (q 26)), (1, .ref (u 0)), (0, .ref (gA g 5))]) (st2 := [.int ((pM_set (g.2.2.2.2 (nI (zi + 1)).toNatClampNeg) (g.2.2.2.2 (nI (zi + 2)).toNatClampNeg) (g.2.2.2.2 (nI (zi + 3)).toNatClampNeg) zS).1), .int ((pM_set (g.2.2.2.2 (nI (zi + 1)).toNatClampNeg) (g.2.2.2.2 (nI (zi + 2)).toNatClampNeg) (g.2.2.2.2 (nI (zi + 3)).toNatClampNeg) zS).1)]) (ws2 := wS g q (pM_set (g.2.2.2.2 (nI (zi + 1)).toNatClampNeg) (g.2.2.2.2 (nI (zi + 2)).toNatClampNeg) (g.2.2.2.2 (nI (zi + 3)).toNatClampNeg) zS).2 ++ w1) rfl rfl rfl ?_
  refine j_perm (w1 ++ wS g q (pM_set (g.2.2.2.2 (nI (zi + 1)).toNatClampNeg) (g.2.2.2.2 (nI (zi + 2)).toNatClampNeg) (g.2.2.2.2 (nI (zi + 3)).toNatClampNeg) zS).2) List.perm_append_comm ?_
  refine j_icmp_eq 252 1128 dL_law_249 rfl rfl (fun _ => ?_) (fun hne => absurd rfl hne)
  refine j_widen (kk + 10) (jj + 23392) (by omega) (by omega) ?_
  exact cont (pM_set (g.2.2.2.2 (nI (zi + 1)).toNatClampNeg) (g.2.2.2.2 (nI (zi + 2)).toNatClampNeg) (g.2.2.2.2 (nI (zi + 3)).toNatClampNeg) zS).2 w1 (RI_set hI (g.2.2.2.2 (nI (zi + 1)).toNatClampNeg) (g.2.2.2.2 (nI (zi + 2)).toNatClampNeg) (g.2.2.2.2 (nI (zi + 3)).toNatClampNeg)) hC2
set_option maxRecDepth 20000 in
theorem lw_c2 (g : gG) (nm : String) (u q : Nat → Nat) (zS : RS) (zc : va_W) (zi kk jj : Nat) (hi : zi + 6 ≤ g.2.2.2.1) (hL : g.2.2.2.1 ≤ 384) (hI : RI zS) (hC : cR g u zS zc) (hk : kk + 10 ≤ 600000) (hj : jj + 23392 ≤ 7302250) (cont : ∀ (S2 : RS) (z2 : va_W), RI S2 → cR g u S2 z2 → gJ g (mLn nm) 60 600000 7302250 (fun k' j' rv ws' => k' ≤ 600000 ∧ j' ≤ 7302250 ∧ rv = some (.int 1)) (kk + 10) (jj + 23392) 1128 [(3, .int (nI zi)), (2, .ref (q 26)), (1, .ref (u 0)), (0, .ref (gA g 5))] [] (z2 ++ wS g q S2)) : gJ g (mLn nm) 60 600000 7302250 (fun k' j' rv ws' => k' ≤ 600000 ∧ j' ≤ 7302250 ∧ rv = some (.int 1)) kk jj 254 [(3, .int (nI zi)), (2, .ref (q 26)), (1, .ref (u 0)), (0, .ref (gA g 5))] [] (zc ++ wS g q zS) := by
  refine j_aload_n 255 dL_law_254 rfl 2 rfl ?_
  refine j_aload_n 256 dL_law_255 rfl 3 rfl ?_
  refine j_iload_n 257 dL_law_256 rfl 0 rfl ?_
  refine j_iconst (v := (1 : Int32)) 258 dL_law_257 rfl (by decide) ?_
  refine j_iaddN zi 1 259 dL_law_258 rfl ?_
  refine j_sld 260 dL_law_259 rfl (vp_in_nI (by omega) (by omega)) ?_
  refine j_aload_n 261 dL_law_260 rfl 3 rfl ?_
  refine j_iload_n 262 dL_law_261 rfl 0 rfl ?_
  refine j_iconst (v := (2 : Int32)) 263 dL_law_262 rfl (by decide) ?_
  refine j_iaddN zi 2 264 dL_law_263 rfl ?_
  refine j_sld 265 dL_law_264 rfl (vp_in_nI (by omega) (by omega)) ?_
  refine j_aload_n 266 dL_law_265 rfl 3 rfl ?_
  refine j_iload_n 267 dL_law_266 rfl 0 rfl ?_
  refine j_iconst (v := (3 : Int32)) 268 dL_law_267 rfl (by decide) ?_
  refine j_iaddN zi 3 269 dL_law_268 rfl ?_
  refine j_sld 270 dL_law_269 rfl (vp_in_nI (by omega) (by omega)) ?_
  refine j_aload_n 271 dL_law_270 rfl 3 rfl ?_
  refine j_iload_n 272 dL_law_271 rfl 0 rfl ?_
  refine j_iconst (v := (4 : Int32)) 273 dL_law_272 rfl (by decide) ?_
  refine j_iaddN zi 4 274 dL_law_273 rfl ?_
  refine j_sld 275 dL_law_274 rfl (vp_in_nI (by omega) (by omega)) ?_
  refine j_aload_n 276 dL_law_275 rfl 3 rfl ?_
  refine j_iload_n 277 dL_law_276 rfl 0 rfl ?_
  refine j_iconst (v := (5 : Int32)) 278 dL_law_277 rfl (by decide) ?_
  refine j_iaddN zi 5 279 dL_law_278 rfl ?_
  refine j_sld 280 dL_law_279 rfl (vp_in_nI (by omega) (by omega)) ?_
  obtain ⟨zfs, zmm⟩ := cR_mem hC
  refine j_callVP (As := [.int (g.2.2.2.2 (nI (zi + 1)).toNatClampNeg), .int (g.2.2.2.2 (nI (zi + 2)).toNatClampNeg), .int (g.2.2.2.2 (nI (zi + 3)).toNatClampNeg), .int (g.2.2.2.2 (nI (zi + 4)).toNatClampNeg), .int (g.2.2.2.2 (nI (zi + 5)).toNatClampNeg)]) (rest := []) (wc := zc) (wr := wS g q zS) 283 (k_copy g u zS zc (g.2.2.2.2 (nI (zi + 1)).toNatClampNeg) (g.2.2.2.2 (nI (zi + 2)).toNatClampNeg) (g.2.2.2.2 (nI (zi + 3)).toNatClampNeg) (g.2.2.2.2 (nI (zi + 4)).toNatClampNeg) (g.2.2.2.2 (nI (zi + 5)).toNatClampNeg) hI hC) dL_law_280 rfl cv_L_22 rfl rfl zmm rfl (gLe rfl) (gLe rfl) (by omega) (by omega) (fun rv w1 hp => ?_)
  obtain ⟨rfl, hC2⟩ := hp
  refine j_eq (lv2 := [(3, .int (nI zi)), (2, .ref (q 26)), (1, .ref (u 0)), (0, .ref (gA g 5))]) (st2 := [.int ((pM_copy (g.2.2.2.2 (nI (zi + 1)).toNatClampNeg) (g.2.2.2.2 (nI (zi + 2)).toNatClampNeg) (g.2.2.2.2 (nI (zi + 3)).toNatClampNeg) (g.2.2.2.2 (nI (zi + 4)).toNatClampNeg) (g.2.2.2.2 (nI (zi + 5)).toNatClampNeg) zS).1)]) (ws2 := w1 ++ wS g q zS) rfl rfl rfl ?_
  refine j_aload_n 284 dL_law_283 rfl 1 rfl ?_
  refine j_aload_n 285 dL_law_284 rfl 3 rfl ?_
  refine j_iload_n 286 dL_law_285 rfl 0 rfl ?_
  refine j_iconst (v := (1 : Int32)) 287 dL_law_286 rfl (by decide) ?_
  refine j_iaddN zi 1 288 dL_law_287 rfl ?_
  refine j_sld 289 dL_law_288 rfl (vp_in_nI (by omega) (by omega)) ?_
  refine j_aload_n 290 dL_law_289 rfl 3 rfl ?_
  refine j_iload_n 291 dL_law_290 rfl 0 rfl ?_
  refine j_iconst (v := (2 : Int32)) 292 dL_law_291 rfl (by decide) ?_
  refine j_iaddN zi 2 293 dL_law_292 rfl ?_
  refine j_sld 294 dL_law_293 rfl (vp_in_nI (by omega) (by omega)) ?_
  refine j_aload_n 295 dL_law_294 rfl 3 rfl ?_
  refine j_iload_n 296 dL_law_295 rfl 0 rfl ?_
  refine j_iconst (v := (3 : Int32)) 297 dL_law_296 rfl (by decide) ?_
  refine j_iaddN zi 3 298 dL_law_297 rfl ?_
  refine j_sld 299 dL_law_298 rfl (vp_in_nI (by omega) (by omega)) ?_
  refine j_aload_n 300 dL_law_299 rfl 3 rfl ?_
  refine j_iload_n 301 dL_law_300 rfl 0 rfl ?_
  refine j_iconst (v := (4 : Int32)) 302 dL_law_301 rfl (by decide) ?_
  refine j_iaddN zi 4 303 dL_law_302 rfl ?_
  refine j_sld 304 dL_law_303 rfl (vp_in_nI (by omega) (by omega)) ?_
  refine j_aload_n 305 dL_law_304 rfl 3 rfl ?_
  refine j_iload_n 306 dL_law_305 rfl 0 rfl ?_
  refine j_iconst (v := (5 : Int32)) 307 dL_law_306 rfl (by decide) ?_
  refine j_iaddN zi 5 308 dL_law_307 rfl ?_
  refine j_sld 309 dL_law_308 rfl (vp_in_nI (by omega) (by omega)) ?_
  refine j_perm (wS g q zS ++ w1) List.perm_append_comm ?_
  refine j_callVP (As := [.int (g.2.2.2.2 (nI (zi + 1)).toNatClampNeg), .int (g.2.2.2.2 (nI (zi + 2)).toNatClampNeg), .int (g.2.2.2.2 (nI (zi + 3)).toNatClampNeg), .int (g.2.2.2.2 (nI (zi + 4)).toNatClampNeg), .int (g.2.2.2.2 (nI (zi + 5)).toNatClampNeg)]) (rest := [.int ((pM_copy (g.2.2.2.2 (nI (zi + 1)).toNatClampNeg) (g.2.2.2.2 (nI (zi + 2)).toNatClampNeg) (g.2.2.2.2 (nI (zi + 3)).toNatClampNeg) (g.2.2.2.2 (nI (zi + 4)).toNatClampNeg) (g.2.2.2.2 (nI (zi + 5)).toNatClampNeg) zS).1)]) (wc := wS g q zS) (wr := w1) 312 (c_X6_copy g q zS.1 zS.2.1 zS.2.2.1 zS.2.2.2 (g.2.2.2.2 (nI (zi + 1)).toNatClampNeg) (g.2.2.2.2 (nI (zi + 2)).toNatClampNeg) (g.2.2.2.2 (nI (zi + 3)).toNatClampNeg) (g.2.2.2.2 (nI (zi + 4)).toNatClampNeg) (g.2.2.2.2 (nI (zi + 5)).toNatClampNeg) hI) dL_law_309 rfl cv_L_26 rfl rfl (List.mem_cons_self (l := (wS g q zS).tail)) rfl (gLe rfl) (gLe rfl) (by omega) (by omega) (fun rv w2 hp => ?_)
  obtain ⟨rfl, rfl⟩ := hp
  refine j_eq (lv2 := [(3, .int (nI zi)), (2, .ref (q 26)), (1, .ref (u 0)), (0, .ref (gA g 5))]) (st2 := [.int ((pM_copy (g.2.2.2.2 (nI (zi + 1)).toNatClampNeg) (g.2.2.2.2 (nI (zi + 2)).toNatClampNeg) (g.2.2.2.2 (nI (zi + 3)).toNatClampNeg) (g.2.2.2.2 (nI (zi + 4)).toNatClampNeg) (g.2.2.2.2 (nI (zi + 5)).toNatClampNeg) zS).1), .int ((pM_copy (g.2.2.2.2 (nI (zi + 1)).toNatClampNeg) (g.2.2.2.2 (nI (zi + 2)).toNatClampNeg) (g.2.2.2.2 (nI (zi + 3)).toNatClampNeg) (g.2.2.2.2 (nI (zi + 4)).toNatClampNeg) (g.2.2.2.2 (nI (zi + 5)).toNatClampNeg) zS).1)]) (ws2 := wS g q (pM_copy (g.2.2.2.2 (nI (zi + 1)).toNatClampNeg) (g.2.2.2.2 (nI (zi + 2)).toNatClampNeg) (g.2.2.2.2 (nI (zi + 3)).toNatClampNeg) (g.2.2.2.2 (nI (zi + 4)).toNatClampNeg) (g.2.2.2.2 (nI (zi + 5)).toNatClampNeg) zS).2 ++ w1) rfl rfl rfl ?_
  refine j_perm (w1 ++ wS g q (pM_copy (g.2.2.2.2 (nI (zi + 1)).toNatClampNeg) (g.2.2.2.2 (nI (zi + 2)).toNatClampNeg) (g.2.2.2.2 (nI (zi + 3)).toNatClampNeg) (g.2.2.2.2 (nI (zi + 4)).toNatClampNeg) (g.2.2.2.2 (nI (zi + 5)).toNatClampNeg) zS).2) List.perm_append_comm ?_
  refine j_icmp_eq 315 1128 dL_law_312 rfl rfl (fun _ => ?_) (fun hne => absurd rfl hne)
  refine j_widen (kk + 10) (jj + 23392) (by omega) (by omega) ?_
  exact cont (pM_copy (g.2.2.2.2 (nI (zi + 1)).toNatClampNeg) (g.2.2.2.2 (nI (zi + 2)).toNatClampNeg) (g.2.2.2.2 (nI (zi + 3)).toNatClampNeg) (g.2.2.2.2 (nI (zi + 4)).toNatClampNeg) (g.2.2.2.2 (nI (zi + 5)).toNatClampNeg) zS).2 w1 (RI_copy hI (g.2.2.2.2 (nI (zi + 1)).toNatClampNeg) (g.2.2.2.2 (nI (zi + 2)).toNatClampNeg) (g.2.2.2.2 (nI (zi + 3)).toNatClampNeg) (g.2.2.2.2 (nI (zi + 4)).toNatClampNeg) (g.2.2.2.2 (nI (zi + 5)).toNatClampNeg)) hC2
set_option maxRecDepth 20000 in
theorem lw_c3 (g : gG) (nm : String) (u q : Nat → Nat) (zS : RS) (zc : va_W) (zi kk jj : Nat) (hi : zi + 6 ≤ g.2.2.2.1) (hL : g.2.2.2.1 ≤ 384) (hI : RI zS) (hC : cR g u zS zc) (hk : kk + 10 ≤ 600000) (hj : jj + 23392 ≤ 7302250) (cont : ∀ (S2 : RS) (z2 : va_W), RI S2 → cR g u S2 z2 → gJ g (mLn nm) 60 600000 7302250 (fun k' j' rv ws' => k' ≤ 600000 ∧ j' ≤ 7302250 ∧ rv = some (.int 1)) (kk + 10) (jj + 23392) 1128 [(3, .int (nI zi)), (2, .ref (q 26)), (1, .ref (u 0)), (0, .ref (gA g 5))] [] (z2 ++ wS g q S2)) : gJ g (mLn nm) 60 600000 7302250 (fun k' j' rv ws' => k' ≤ 600000 ∧ j' ≤ 7302250 ∧ rv = some (.int 1)) kk jj 317 [(3, .int (nI zi)), (2, .ref (q 26)), (1, .ref (u 0)), (0, .ref (gA g 5))] [] (zc ++ wS g q zS) := by
  refine j_aload_n 318 dL_law_317 rfl 2 rfl ?_
  refine j_aload_n 319 dL_law_318 rfl 3 rfl ?_
  refine j_iload_n 320 dL_law_319 rfl 0 rfl ?_
  refine j_iconst (v := (1 : Int32)) 321 dL_law_320 rfl (by decide) ?_
  refine j_iaddN zi 1 322 dL_law_321 rfl ?_
  refine j_sld 323 dL_law_322 rfl (vp_in_nI (by omega) (by omega)) ?_
  obtain ⟨zfs, zmm⟩ := cR_mem hC
  refine j_callVP (As := [.int (g.2.2.2.2 (nI (zi + 1)).toNatClampNeg)]) (rest := []) (wc := zc) (wr := wS g q zS) 326 (k_drop g u zS zc (g.2.2.2.2 (nI (zi + 1)).toNatClampNeg) hI hC) dL_law_323 rfl cv_L_27 rfl rfl zmm rfl (gLe rfl) (gLe rfl) (by omega) (by omega) (fun rv w1 hp => ?_)
  obtain ⟨rfl, hC2⟩ := hp
  refine j_eq (lv2 := [(3, .int (nI zi)), (2, .ref (q 26)), (1, .ref (u 0)), (0, .ref (gA g 5))]) (st2 := [.int ((pM_drop (g.2.2.2.2 (nI (zi + 1)).toNatClampNeg) zS).1)]) (ws2 := w1 ++ wS g q zS) rfl rfl rfl ?_
  refine j_aload_n 327 dL_law_326 rfl 1 rfl ?_
  refine j_aload_n 328 dL_law_327 rfl 3 rfl ?_
  refine j_iload_n 329 dL_law_328 rfl 0 rfl ?_
  refine j_iconst (v := (1 : Int32)) 330 dL_law_329 rfl (by decide) ?_
  refine j_iaddN zi 1 331 dL_law_330 rfl ?_
  refine j_sld 332 dL_law_331 rfl (vp_in_nI (by omega) (by omega)) ?_
  refine j_perm (wS g q zS ++ w1) List.perm_append_comm ?_
  refine j_callVP (As := [.int (g.2.2.2.2 (nI (zi + 1)).toNatClampNeg)]) (rest := [.int ((pM_drop (g.2.2.2.2 (nI (zi + 1)).toNatClampNeg) zS).1)]) (wc := wS g q zS) (wr := w1) 335 (c_X6_drop g q zS.1 zS.2.1 zS.2.2.1 zS.2.2.2 (g.2.2.2.2 (nI (zi + 1)).toNatClampNeg) hI) dL_law_332 rfl cv_L_31 rfl rfl (List.mem_cons_self (l := (wS g q zS).tail)) rfl (gLe rfl) (gLe rfl) (by omega) (by omega) (fun rv w2 hp => ?_)
  obtain ⟨rfl, rfl⟩ := hp
  refine j_eq (lv2 := [(3, .int (nI zi)), (2, .ref (q 26)), (1, .ref (u 0)), (0, .ref (gA g 5))]) (st2 := [.int ((pM_drop (g.2.2.2.2 (nI (zi + 1)).toNatClampNeg) zS).1), .int ((pM_drop (g.2.2.2.2 (nI (zi + 1)).toNatClampNeg) zS).1)]) (ws2 := wS g q (pM_drop (g.2.2.2.2 (nI (zi + 1)).toNatClampNeg) zS).2 ++ w1) rfl rfl rfl ?_
  refine j_perm (w1 ++ wS g q (pM_drop (g.2.2.2.2 (nI (zi + 1)).toNatClampNeg) zS).2) List.perm_append_comm ?_
  refine j_icmp_eq 338 1128 dL_law_335 rfl rfl (fun _ => ?_) (fun hne => absurd rfl hne)
  refine j_widen (kk + 10) (jj + 23392) (by omega) (by omega) ?_
  exact cont (pM_drop (g.2.2.2.2 (nI (zi + 1)).toNatClampNeg) zS).2 w1 (RI_drop hI (g.2.2.2.2 (nI (zi + 1)).toNatClampNeg)) hC2
set_option maxRecDepth 20000 in
theorem lw_c4 (g : gG) (nm : String) (u q : Nat → Nat) (zS : RS) (zc : va_W) (zi kk jj : Nat) (hi : zi + 6 ≤ g.2.2.2.1) (hL : g.2.2.2.1 ≤ 384) (hI : RI zS) (hC : cR g u zS zc) (hk : kk + 10 ≤ 600000) (hj : jj + 23392 ≤ 7302250) (cont : ∀ (S2 : RS) (z2 : va_W), RI S2 → cR g u S2 z2 → gJ g (mLn nm) 60 600000 7302250 (fun k' j' rv ws' => k' ≤ 600000 ∧ j' ≤ 7302250 ∧ rv = some (.int 1)) (kk + 10) (jj + 23392) 1128 [(3, .int (nI zi)), (2, .ref (q 26)), (1, .ref (u 0)), (0, .ref (gA g 5))] [] (z2 ++ wS g q S2)) : gJ g (mLn nm) 60 600000 7302250 (fun k' j' rv ws' => k' ≤ 600000 ∧ j' ≤ 7302250 ∧ rv = some (.int 1)) kk jj 340 [(3, .int (nI zi)), (2, .ref (q 26)), (1, .ref (u 0)), (0, .ref (gA g 5))] [] (zc ++ wS g q zS) := by
  refine j_aload_n 341 dL_law_340 rfl 2 rfl ?_
  refine j_aload_n 342 dL_law_341 rfl 3 rfl ?_
  refine j_iload_n 343 dL_law_342 rfl 0 rfl ?_
  refine j_iconst (v := (1 : Int32)) 344 dL_law_343 rfl (by decide) ?_
  refine j_iaddN zi 1 345 dL_law_344 rfl ?_
  refine j_sld 346 dL_law_345 rfl (vp_in_nI (by omega) (by omega)) ?_
  refine j_i2l 347 dL_law_346 rfl ?_
  refine j_bipush (v := (32 : Int32)) 349 dL_law_347 rfl (by decide) ?_
  refine j_lshl 350 dL_law_349 rfl ?_
  refine j_aload_n 351 dL_law_350 rfl 3 rfl ?_
  refine j_iload_n 352 dL_law_351 rfl 0 rfl ?_
  refine j_iconst (v := (2 : Int32)) 353 dL_law_352 rfl (by decide) ?_
  refine j_iaddN zi 2 354 dL_law_353 rfl ?_
  refine j_sld 355 dL_law_354 rfl (vp_in_nI (by omega) (by omega)) ?_
  refine j_i2l 356 dL_law_355 rfl ?_
  refine j_ldc2 (v := (4294967295 : Int64)) 359 dL_law_356 rfl wd_6_11 ?_
  refine j_land 360 dL_law_359 rfl ?_
  refine j_lor 361 dL_law_360 rfl ?_
  refine j_aload_n 362 dL_law_361 rfl 3 rfl ?_
  refine j_iload_n 363 dL_law_362 rfl 0 rfl ?_
  refine j_iconst (v := (3 : Int32)) 364 dL_law_363 rfl (by decide) ?_
  refine j_iaddN zi 3 365 dL_law_364 rfl ?_
  refine j_sld 366 dL_law_365 rfl (vp_in_nI (by omega) (by omega)) ?_
  obtain ⟨zfs, zmm⟩ := cR_mem hC
  refine j_callVP (As := [.long ((((g.2.2.2.2 (nI (zi + 1)).toNatClampNeg).toInt64) <<< ((32 : Int32).toInt64 &&& 63)) ||| (((g.2.2.2.2 (nI (zi + 2)).toNatClampNeg).toInt64) &&& (4294967295 : Int64))), .int (g.2.2.2.2 (nI (zi + 3)).toNatClampNeg)]) (rest := []) (wc := zc) (wr := wS g q zS) 369 (k_feed g u zS zc ((((g.2.2.2.2 (nI (zi + 1)).toNatClampNeg).toInt64) <<< ((32 : Int32).toInt64 &&& 63)) ||| (((g.2.2.2.2 (nI (zi + 2)).toNatClampNeg).toInt64) &&& (4294967295 : Int64))) (g.2.2.2.2 (nI (zi + 3)).toNatClampNeg) hI hC) dL_law_366 rfl cv_L_34 rfl rfl zmm rfl (gLe rfl) (gLe rfl) (by omega) (by omega) (fun rv w1 hp => ?_)
  obtain ⟨rfl, hC2⟩ := hp
  refine j_eq (lv2 := [(3, .int (nI zi)), (2, .ref (q 26)), (1, .ref (u 0)), (0, .ref (gA g 5))]) (st2 := [.int ((pM_feed ((((g.2.2.2.2 (nI (zi + 1)).toNatClampNeg).toInt64) <<< ((32 : Int32).toInt64 &&& 63)) ||| (((g.2.2.2.2 (nI (zi + 2)).toNatClampNeg).toInt64) &&& (4294967295 : Int64))) (g.2.2.2.2 (nI (zi + 3)).toNatClampNeg) zS).1)]) (ws2 := w1 ++ wS g q zS) rfl rfl rfl ?_
  refine j_aload_n 370 dL_law_369 rfl 1 rfl ?_
  refine j_aload_n 371 dL_law_370 rfl 3 rfl ?_
  refine j_iload_n 372 dL_law_371 rfl 0 rfl ?_
  refine j_iconst (v := (1 : Int32)) 373 dL_law_372 rfl (by decide) ?_
  refine j_iaddN zi 1 374 dL_law_373 rfl ?_
  refine j_sld 375 dL_law_374 rfl (vp_in_nI (by omega) (by omega)) ?_
  refine j_i2l 376 dL_law_375 rfl ?_
  refine j_bipush (v := (32 : Int32)) 378 dL_law_376 rfl (by decide) ?_
  refine j_lshl 379 dL_law_378 rfl ?_
  refine j_aload_n 380 dL_law_379 rfl 3 rfl ?_
  refine j_iload_n 381 dL_law_380 rfl 0 rfl ?_
  refine j_iconst (v := (2 : Int32)) 382 dL_law_381 rfl (by decide) ?_
  refine j_iaddN zi 2 383 dL_law_382 rfl ?_
  refine j_sld 384 dL_law_383 rfl (vp_in_nI (by omega) (by omega)) ?_
  refine j_i2l 385 dL_law_384 rfl ?_
  refine j_ldc2 (v := (4294967295 : Int64)) 388 dL_law_385 rfl wd_6_11 ?_
  refine j_land 389 dL_law_388 rfl ?_
  refine j_lor 390 dL_law_389 rfl ?_
  refine j_aload_n 391 dL_law_390 rfl 3 rfl ?_
  refine j_iload_n 392 dL_law_391 rfl 0 rfl ?_
  refine j_iconst (v := (3 : Int32)) 393 dL_law_392 rfl (by decide) ?_
  refine j_iaddN zi 3 394 dL_law_393 rfl ?_
  refine j_sld 395 dL_law_394 rfl (vp_in_nI (by omega) (by omega)) ?_
  refine j_perm (wS g q zS ++ w1) List.perm_append_comm ?_
  refine j_callVP (As := [.long ((((g.2.2.2.2 (nI (zi + 1)).toNatClampNeg).toInt64) <<< ((32 : Int32).toInt64 &&& 63)) ||| (((g.2.2.2.2 (nI (zi + 2)).toNatClampNeg).toInt64) &&& (4294967295 : Int64))), .int (g.2.2.2.2 (nI (zi + 3)).toNatClampNeg)]) (rest := [.int ((pM_feed ((((g.2.2.2.2 (nI (zi + 1)).toNatClampNeg).toInt64) <<< ((32 : Int32).toInt64 &&& 63)) ||| (((g.2.2.2.2 (nI (zi + 2)).toNatClampNeg).toInt64) &&& (4294967295 : Int64))) (g.2.2.2.2 (nI (zi + 3)).toNatClampNeg) zS).1)]) (wc := wS g q zS) (wr := w1) 398 (c_X6_feed g q zS.1 zS.2.1 zS.2.2.1 zS.2.2.2 ((((g.2.2.2.2 (nI (zi + 1)).toNatClampNeg).toInt64) <<< ((32 : Int32).toInt64 &&& 63)) ||| (((g.2.2.2.2 (nI (zi + 2)).toNatClampNeg).toInt64) &&& (4294967295 : Int64))) (g.2.2.2.2 (nI (zi + 3)).toNatClampNeg) hI) dL_law_395 rfl cv_L_38 rfl rfl (List.mem_cons_self (l := (wS g q zS).tail)) rfl (gLe rfl) (gLe rfl) (by omega) (by omega) (fun rv w2 hp => ?_)
  obtain ⟨rfl, rfl⟩ := hp
  refine j_eq (lv2 := [(3, .int (nI zi)), (2, .ref (q 26)), (1, .ref (u 0)), (0, .ref (gA g 5))]) (st2 := [.int ((pM_feed ((((g.2.2.2.2 (nI (zi + 1)).toNatClampNeg).toInt64) <<< ((32 : Int32).toInt64 &&& 63)) ||| (((g.2.2.2.2 (nI (zi + 2)).toNatClampNeg).toInt64) &&& (4294967295 : Int64))) (g.2.2.2.2 (nI (zi + 3)).toNatClampNeg) zS).1), .int ((pM_feed ((((g.2.2.2.2 (nI (zi + 1)).toNatClampNeg).toInt64) <<< ((32 : Int32).toInt64 &&& 63)) ||| (((g.2.2.2.2 (nI (zi + 2)).toNatClampNeg).toInt64) &&& (4294967295 : Int64))) (g.2.2.2.2 (nI (zi + 3)).toNatClampNeg) zS).1)]) (ws2 := wS g q (pM_feed ((((g.2.2.2.2 (nI (zi + 1)).toNatClampNeg).toInt64) <<< ((32 : Int32).toInt64 &&& 63)) ||| (((g.2.2.2.2 (nI (zi + 2)).toNatClampNeg).toInt64) &&& (4294967295 : Int64))) (g.2.2.2.2 (nI (zi + 3)).toNatClampNeg) zS).2 ++ w1) rfl rfl rfl ?_
  refine j_perm (w1 ++ wS g q (pM_feed ((((g.2.2.2.2 (nI (zi + 1)).toNatClampNeg).toInt64) <<< ((32 : Int32).toInt64 &&& 63)) ||| (((g.2.2.2.2 (nI (zi + 2)).toNatClampNeg).toInt64) &&& (4294967295 : Int64))) (g.2.2.2.2 (nI (zi + 3)).toNatClampNeg) zS).2) List.perm_append_comm ?_
  refine j_icmp_eq 401 1128 dL_law_398 rfl rfl (fun _ => ?_) (fun hne => absurd rfl hne)
  refine j_widen (kk + 10) (jj + 23392) (by omega) (by omega) ?_
  exact cont (pM_feed ((((g.2.2.2.2 (nI (zi + 1)).toNatClampNeg).toInt64) <<< ((32 : Int32).toInt64 &&& 63)) ||| (((g.2.2.2.2 (nI (zi + 2)).toNatClampNeg).toInt64) &&& (4294967295 : Int64))) (g.2.2.2.2 (nI (zi + 3)).toNatClampNeg) zS).2 w1 (RI_feed hI ((((g.2.2.2.2 (nI (zi + 1)).toNatClampNeg).toInt64) <<< ((32 : Int32).toInt64 &&& 63)) ||| (((g.2.2.2.2 (nI (zi + 2)).toNatClampNeg).toInt64) &&& (4294967295 : Int64))) (g.2.2.2.2 (nI (zi + 3)).toNatClampNeg)) hC2
set_option maxRecDepth 20000 in
theorem lw_c5 (g : gG) (nm : String) (u q : Nat → Nat) (zS : RS) (zc : va_W) (zi kk jj : Nat) (hi : zi + 6 ≤ g.2.2.2.1) (hL : g.2.2.2.1 ≤ 384) (hI : RI zS) (hC : cR g u zS zc) (hk : kk + 10 ≤ 600000) (hj : jj + 23392 ≤ 7302250) (cont : ∀ (S2 : RS) (z2 : va_W), RI S2 → cR g u S2 z2 → gJ g (mLn nm) 60 600000 7302250 (fun k' j' rv ws' => k' ≤ 600000 ∧ j' ≤ 7302250 ∧ rv = some (.int 1)) (kk + 10) (jj + 23392) 1128 [(3, .int (nI zi)), (2, .ref (q 26)), (1, .ref (u 0)), (0, .ref (gA g 5))] [] (z2 ++ wS g q S2)) : gJ g (mLn nm) 60 600000 7302250 (fun k' j' rv ws' => k' ≤ 600000 ∧ j' ≤ 7302250 ∧ rv = some (.int 1)) kk jj 403 [(3, .int (nI zi)), (2, .ref (q 26)), (1, .ref (u 0)), (0, .ref (gA g 5))] [] (zc ++ wS g q zS) := by
  refine j_aload_n 404 dL_law_403 rfl 2 rfl ?_
  obtain ⟨zfs, zmm⟩ := cR_mem hC
  refine j_callVP (As := []) (rest := []) (wc := zc) (wr := wS g q zS) 407 (k_fold g u zS zc  hI hC) dL_law_404 rfl cv_L_39 rfl rfl zmm rfl (gLe rfl) (gLe rfl) (by omega) (by omega) (fun rv w1 hp => ?_)
  obtain ⟨rfl, hC2⟩ := hp
  refine j_eq (lv2 := [(3, .int (nI zi)), (2, .ref (q 26)), (1, .ref (u 0)), (0, .ref (gA g 5))]) (st2 := [.int ((pM_fold  zS).1)]) (ws2 := w1 ++ wS g q zS) rfl rfl rfl ?_
  refine j_aload_n 408 dL_law_407 rfl 1 rfl ?_
  refine j_perm (wS g q zS ++ w1) List.perm_append_comm ?_
  refine j_callVP (As := []) (rest := [.int ((pM_fold  zS).1)]) (wc := wS g q zS) (wr := w1) 411 (c_X6_fold g q zS.1 zS.2.1 zS.2.2.1 zS.2.2.2  hI) dL_law_408 rfl cv_L_43 rfl rfl (List.mem_cons_self (l := (wS g q zS).tail)) rfl (gLe rfl) (gLe rfl) (by omega) (by omega) (fun rv w2 hp => ?_)
  obtain ⟨S9, hG, rfl, rfl⟩ := hp
  refine j_eq (lv2 := [(3, .int (nI zi)), (2, .ref (q 26)), (1, .ref (u 0)), (0, .ref (gA g 5))]) (st2 := [.int ((pM_fold  zS).1), .int ((pM_fold  zS).1)]) (ws2 := wS g q S9 ++ w1) rfl rfl rfl ?_
  refine j_perm (w1 ++ wS g q S9) List.perm_append_comm ?_
  refine j_icmp_eq 414 1128 dL_law_411 rfl rfl (fun _ => ?_) (fun hne => absurd rfl hne)
  refine j_widen (kk + 10) (jj + 23392) (by omega) (by omega) ?_
  exact cont S9 w1 (RI_Gq (RI_fold hI ) hG) (cR_Gq (RI_fold hI ) hG hC2)
set_option maxRecDepth 20000 in
theorem lw_c6 (g : gG) (nm : String) (u q : Nat → Nat) (zS : RS) (zc : va_W) (zi kk jj : Nat) (hi : zi + 6 ≤ g.2.2.2.1) (hL : g.2.2.2.1 ≤ 384) (hI : RI zS) (hC : cR g u zS zc) (hk : kk + 10 ≤ 600000) (hj : jj + 23392 ≤ 7302250) (cont : ∀ (S2 : RS) (z2 : va_W), RI S2 → cR g u S2 z2 → gJ g (mLn nm) 60 600000 7302250 (fun k' j' rv ws' => k' ≤ 600000 ∧ j' ≤ 7302250 ∧ rv = some (.int 1)) (kk + 10) (jj + 23392) 1128 [(3, .int (nI zi)), (2, .ref (q 26)), (1, .ref (u 0)), (0, .ref (gA g 5))] [] (z2 ++ wS g q S2)) : gJ g (mLn nm) 60 600000 7302250 (fun k' j' rv ws' => k' ≤ 600000 ∧ j' ≤ 7302250 ∧ rv = some (.int 1)) kk jj 416 [(3, .int (nI zi)), (2, .ref (q 26)), (1, .ref (u 0)), (0, .ref (gA g 5))] [] (zc ++ wS g q zS) := by
  refine j_aload_n 417 dL_law_416 rfl 2 rfl ?_
  obtain ⟨zfs, zmm⟩ := cR_mem hC
  refine j_callVP (As := []) (rest := []) (wc := zc) (wr := wS g q zS) 420 (k_fault g u zS zc  hI hC) dL_law_417 rfl cv_L_44 rfl rfl zmm rfl (gLe rfl) (gLe rfl) (by omega) (by omega) (fun rv w1 hp => ?_)
  obtain ⟨rfl, hC2⟩ := hp
  refine j_eq (lv2 := [(3, .int (nI zi)), (2, .ref (q 26)), (1, .ref (u 0)), (0, .ref (gA g 5))]) (st2 := [.int ((pM_fault  zS).1)]) (ws2 := w1 ++ wS g q zS) rfl rfl rfl ?_
  refine j_aload_n 421 dL_law_420 rfl 1 rfl ?_
  refine j_perm (wS g q zS ++ w1) List.perm_append_comm ?_
  refine j_callVP (As := []) (rest := [.int ((pM_fault  zS).1)]) (wc := wS g q zS) (wr := w1) 424 (c_X6_fault g q zS.1 zS.2.1 zS.2.2.1 zS.2.2.2  hI) dL_law_421 rfl cv_L_47 rfl rfl (List.mem_cons_self (l := (wS g q zS).tail)) rfl (gLe rfl) (gLe rfl) (by omega) (by omega) (fun rv w2 hp => ?_)
  obtain ⟨rfl, rfl⟩ := hp
  refine j_eq (lv2 := [(3, .int (nI zi)), (2, .ref (q 26)), (1, .ref (u 0)), (0, .ref (gA g 5))]) (st2 := [.int ((pM_fault  zS).1), .int ((pM_fault  zS).1)]) (ws2 := wS g q (pM_fault  zS).2 ++ w1) rfl rfl rfl ?_
  refine j_perm (w1 ++ wS g q (pM_fault  zS).2) List.perm_append_comm ?_
  refine j_icmp_eq 427 1128 dL_law_424 rfl rfl (fun _ => ?_) (fun hne => absurd rfl hne)
  refine j_widen (kk + 10) (jj + 23392) (by omega) (by omega) ?_
  exact cont (pM_fault  zS).2 w1 hI hC2
set_option maxRecDepth 20000 in
theorem lw_c7 (g : gG) (nm : String) (u q : Nat → Nat) (zS : RS) (zc : va_W) (zi kk jj : Nat) (hi : zi + 6 ≤ g.2.2.2.1) (hL : g.2.2.2.1 ≤ 384) (hI : RI zS) (hC : cR g u zS zc) (hk : kk + 10 ≤ 600000) (hj : jj + 23392 ≤ 7302250) (cont : ∀ (S2 : RS) (z2 : va_W), RI S2 → cR g u S2 z2 → gJ g (mLn nm) 60 600000 7302250 (fun k' j' rv ws' => k' ≤ 600000 ∧ j' ≤ 7302250 ∧ rv = some (.int 1)) (kk + 10) (jj + 23392) 1128 [(3, .int (nI zi)), (2, .ref (q 26)), (1, .ref (u 0)), (0, .ref (gA g 5))] [] (z2 ++ wS g q S2)) : gJ g (mLn nm) 60 600000 7302250 (fun k' j' rv ws' => k' ≤ 600000 ∧ j' ≤ 7302250 ∧ rv = some (.int 1)) kk jj 429 [(3, .int (nI zi)), (2, .ref (q 26)), (1, .ref (u 0)), (0, .ref (gA g 5))] [] (zc ++ wS g q zS) := by
  refine j_aload_n 430 dL_law_429 rfl 2 rfl ?_
  refine j_aload_n 431 dL_law_430 rfl 3 rfl ?_
  refine j_iload_n 432 dL_law_431 rfl 0 rfl ?_
  refine j_iconst (v := (1 : Int32)) 433 dL_law_432 rfl (by decide) ?_
  refine j_iaddN zi 1 434 dL_law_433 rfl ?_
  refine j_sld 435 dL_law_434 rfl (vp_in_nI (by omega) (by omega)) ?_
  obtain ⟨zfs, zmm⟩ := cR_mem hC
  refine j_callVP (As := [.int (g.2.2.2.2 (nI (zi + 1)).toNatClampNeg)]) (rest := []) (wc := zc) (wr := wS g q zS) 438 (k_run g u zS zc (g.2.2.2.2 (nI (zi + 1)).toNatClampNeg) hI hC) dL_law_435 rfl cv_L_48 rfl rfl zmm rfl (gLe rfl) (gLe rfl) (by omega) (by omega) (fun rv w1 hp => ?_)
  obtain ⟨rfl, hC2⟩ := hp
  refine j_eq (lv2 := [(3, .int (nI zi)), (2, .ref (q 26)), (1, .ref (u 0)), (0, .ref (gA g 5))]) (st2 := [.int ((pM_run (g.2.2.2.2 (nI (zi + 1)).toNatClampNeg) zS).1)]) (ws2 := w1 ++ wS g q zS) rfl rfl rfl ?_
  refine j_aload_n 439 dL_law_438 rfl 1 rfl ?_
  refine j_aload_n 440 dL_law_439 rfl 3 rfl ?_
  refine j_iload_n 441 dL_law_440 rfl 0 rfl ?_
  refine j_iconst (v := (1 : Int32)) 442 dL_law_441 rfl (by decide) ?_
  refine j_iaddN zi 1 443 dL_law_442 rfl ?_
  refine j_sld 444 dL_law_443 rfl (vp_in_nI (by omega) (by omega)) ?_
  refine j_perm (wS g q zS ++ w1) List.perm_append_comm ?_
  refine j_callVP (As := [.int (g.2.2.2.2 (nI (zi + 1)).toNatClampNeg)]) (rest := [.int ((pM_run (g.2.2.2.2 (nI (zi + 1)).toNatClampNeg) zS).1)]) (wc := wS g q zS) (wr := w1) 447 (c_X6_run g q zS.1 zS.2.1 zS.2.2.1 zS.2.2.2 (g.2.2.2.2 (nI (zi + 1)).toNatClampNeg) hI) dL_law_444 rfl cv_L_51 rfl rfl (List.mem_cons_self (l := (wS g q zS).tail)) rfl (gLe rfl) (gLe rfl) (by omega) (by omega) (fun rv w2 hp => ?_)
  obtain ⟨rfl, rfl⟩ := hp
  refine j_eq (lv2 := [(3, .int (nI zi)), (2, .ref (q 26)), (1, .ref (u 0)), (0, .ref (gA g 5))]) (st2 := [.int ((pM_run (g.2.2.2.2 (nI (zi + 1)).toNatClampNeg) zS).1), .int ((pM_run (g.2.2.2.2 (nI (zi + 1)).toNatClampNeg) zS).1)]) (ws2 := wS g q (pM_run (g.2.2.2.2 (nI (zi + 1)).toNatClampNeg) zS).2 ++ w1) rfl rfl rfl ?_
  refine j_perm (w1 ++ wS g q (pM_run (g.2.2.2.2 (nI (zi + 1)).toNatClampNeg) zS).2) List.perm_append_comm ?_
  refine j_icmp_eq 450 1128 dL_law_447 rfl rfl (fun _ => ?_) (fun hne => absurd rfl hne)
  refine j_widen (kk + 10) (jj + 23392) (by omega) (by omega) ?_
  exact cont (pM_run (g.2.2.2.2 (nI (zi + 1)).toNatClampNeg) zS).2 w1 (RI_run hI (g.2.2.2.2 (nI (zi + 1)).toNatClampNeg)) hC2
set_option maxRecDepth 20000 in
theorem lw_c8 (g : gG) (nm : String) (u q : Nat → Nat) (zS : RS) (zc : va_W) (zi kk jj : Nat) (hi : zi + 6 ≤ g.2.2.2.1) (hL : g.2.2.2.1 ≤ 384) (hI : RI zS) (hC : cR g u zS zc) (hk : kk + 10 ≤ 600000) (hj : jj + 23392 ≤ 7302250) (cont : ∀ (S2 : RS) (z2 : va_W), RI S2 → cR g u S2 z2 → gJ g (mLn nm) 60 600000 7302250 (fun k' j' rv ws' => k' ≤ 600000 ∧ j' ≤ 7302250 ∧ rv = some (.int 1)) (kk + 10) (jj + 23392) 1128 [(3, .int (nI zi)), (2, .ref (q 26)), (1, .ref (u 0)), (0, .ref (gA g 5))] [] (z2 ++ wS g q S2)) : gJ g (mLn nm) 60 600000 7302250 (fun k' j' rv ws' => k' ≤ 600000 ∧ j' ≤ 7302250 ∧ rv = some (.int 1)) kk jj 452 [(3, .int (nI zi)), (2, .ref (q 26)), (1, .ref (u 0)), (0, .ref (gA g 5))] [] (zc ++ wS g q zS) := by
  refine j_aload_n 453 dL_law_452 rfl 2 rfl ?_
  refine j_aload_n 454 dL_law_453 rfl 3 rfl ?_
  refine j_iload_n 455 dL_law_454 rfl 0 rfl ?_
  refine j_iconst (v := (1 : Int32)) 456 dL_law_455 rfl (by decide) ?_
  refine j_iaddN zi 1 457 dL_law_456 rfl ?_
  refine j_sld 458 dL_law_457 rfl (vp_in_nI (by omega) (by omega)) ?_
  refine j_aload_n 459 dL_law_458 rfl 3 rfl ?_
  refine j_iload_n 460 dL_law_459 rfl 0 rfl ?_
  refine j_iconst (v := (2 : Int32)) 461 dL_law_460 rfl (by decide) ?_
  refine j_iaddN zi 2 462 dL_law_461 rfl ?_
  refine j_sld 463 dL_law_462 rfl (vp_in_nI (by omega) (by omega)) ?_
  refine j_aload_n 464 dL_law_463 rfl 3 rfl ?_
  refine j_iload_n 465 dL_law_464 rfl 0 rfl ?_
  refine j_iconst (v := (3 : Int32)) 466 dL_law_465 rfl (by decide) ?_
  refine j_iaddN zi 3 467 dL_law_466 rfl ?_
  refine j_sld 468 dL_law_467 rfl (vp_in_nI (by omega) (by omega)) ?_
  obtain ⟨zfs, zmm⟩ := cR_mem hC
  refine j_callVP (As := [.int (g.2.2.2.2 (nI (zi + 1)).toNatClampNeg), .int (g.2.2.2.2 (nI (zi + 2)).toNatClampNeg), .int (g.2.2.2.2 (nI (zi + 3)).toNatClampNeg)]) (rest := []) (wc := zc) (wr := wS g q zS) 471 (k_runs g u zS zc (g.2.2.2.2 (nI (zi + 1)).toNatClampNeg) (g.2.2.2.2 (nI (zi + 2)).toNatClampNeg) (g.2.2.2.2 (nI (zi + 3)).toNatClampNeg) hI hC) dL_law_468 rfl cv_L_52 rfl rfl zmm rfl (gLe rfl) (gLe rfl) (by omega) (by omega) (fun rv w1 hp => ?_)
  obtain ⟨rfl, hC2⟩ := hp
  refine j_eq (lv2 := [(3, .int (nI zi)), (2, .ref (q 26)), (1, .ref (u 0)), (0, .ref (gA g 5))]) (st2 := [.int ((pM_runs (g.2.2.2.2 (nI (zi + 1)).toNatClampNeg) (g.2.2.2.2 (nI (zi + 2)).toNatClampNeg) (g.2.2.2.2 (nI (zi + 3)).toNatClampNeg) zS).1)]) (ws2 := w1 ++ wS g q zS) rfl rfl rfl ?_
  refine j_aload_n 472 dL_law_471 rfl 1 rfl ?_
  refine j_aload_n 473 dL_law_472 rfl 3 rfl ?_
  refine j_iload_n 474 dL_law_473 rfl 0 rfl ?_
  refine j_iconst (v := (1 : Int32)) 475 dL_law_474 rfl (by decide) ?_
  refine j_iaddN zi 1 476 dL_law_475 rfl ?_
  refine j_sld 477 dL_law_476 rfl (vp_in_nI (by omega) (by omega)) ?_
  refine j_aload_n 478 dL_law_477 rfl 3 rfl ?_
  refine j_iload_n 479 dL_law_478 rfl 0 rfl ?_
  refine j_iconst (v := (2 : Int32)) 480 dL_law_479 rfl (by decide) ?_
  refine j_iaddN zi 2 481 dL_law_480 rfl ?_
  refine j_sld 482 dL_law_481 rfl (vp_in_nI (by omega) (by omega)) ?_
  refine j_aload_n 483 dL_law_482 rfl 3 rfl ?_
  refine j_iload_n 484 dL_law_483 rfl 0 rfl ?_
  refine j_iconst (v := (3 : Int32)) 485 dL_law_484 rfl (by decide) ?_
  refine j_iaddN zi 3 486 dL_law_485 rfl ?_
  refine j_sld 487 dL_law_486 rfl (vp_in_nI (by omega) (by omega)) ?_
  refine j_perm (wS g q zS ++ w1) List.perm_append_comm ?_
  refine j_callVP (As := [.int (g.2.2.2.2 (nI (zi + 1)).toNatClampNeg), .int (g.2.2.2.2 (nI (zi + 2)).toNatClampNeg), .int (g.2.2.2.2 (nI (zi + 3)).toNatClampNeg)]) (rest := [.int ((pM_runs (g.2.2.2.2 (nI (zi + 1)).toNatClampNeg) (g.2.2.2.2 (nI (zi + 2)).toNatClampNeg) (g.2.2.2.2 (nI (zi + 3)).toNatClampNeg) zS).1)]) (wc := wS g q zS) (wr := w1) 490 (c_X6_runs g q zS.1 zS.2.1 zS.2.2.1 zS.2.2.2 (g.2.2.2.2 (nI (zi + 1)).toNatClampNeg) (g.2.2.2.2 (nI (zi + 2)).toNatClampNeg) (g.2.2.2.2 (nI (zi + 3)).toNatClampNeg) hI) dL_law_487 rfl cv_L_55 rfl rfl (List.mem_cons_self (l := (wS g q zS).tail)) rfl (gLe rfl) (gLe rfl) (by omega) (by omega) (fun rv w2 hp => ?_)
  obtain ⟨rfl, rfl⟩ := hp
  refine j_eq (lv2 := [(3, .int (nI zi)), (2, .ref (q 26)), (1, .ref (u 0)), (0, .ref (gA g 5))]) (st2 := [.int ((pM_runs (g.2.2.2.2 (nI (zi + 1)).toNatClampNeg) (g.2.2.2.2 (nI (zi + 2)).toNatClampNeg) (g.2.2.2.2 (nI (zi + 3)).toNatClampNeg) zS).1), .int ((pM_runs (g.2.2.2.2 (nI (zi + 1)).toNatClampNeg) (g.2.2.2.2 (nI (zi + 2)).toNatClampNeg) (g.2.2.2.2 (nI (zi + 3)).toNatClampNeg) zS).1)]) (ws2 := wS g q (pM_runs (g.2.2.2.2 (nI (zi + 1)).toNatClampNeg) (g.2.2.2.2 (nI (zi + 2)).toNatClampNeg) (g.2.2.2.2 (nI (zi + 3)).toNatClampNeg) zS).2 ++ w1) rfl rfl rfl ?_
  refine j_perm (w1 ++ wS g q (pM_runs (g.2.2.2.2 (nI (zi + 1)).toNatClampNeg) (g.2.2.2.2 (nI (zi + 2)).toNatClampNeg) (g.2.2.2.2 (nI (zi + 3)).toNatClampNeg) zS).2) List.perm_append_comm ?_
  refine j_icmp_eq 493 1128 dL_law_490 rfl rfl (fun _ => ?_) (fun hne => absurd rfl hne)
  refine j_widen (kk + 10) (jj + 23392) (by omega) (by omega) ?_
  exact cont (pM_runs (g.2.2.2.2 (nI (zi + 1)).toNatClampNeg) (g.2.2.2.2 (nI (zi + 2)).toNatClampNeg) (g.2.2.2.2 (nI (zi + 3)).toNatClampNeg) zS).2 w1 (RI_runs hI (g.2.2.2.2 (nI (zi + 1)).toNatClampNeg) (g.2.2.2.2 (nI (zi + 2)).toNatClampNeg) (g.2.2.2.2 (nI (zi + 3)).toNatClampNeg)) hC2
set_option maxRecDepth 20000 in
theorem lw_c9 (g : gG) (nm : String) (u q : Nat → Nat) (zS : RS) (zc : va_W) (zi kk jj : Nat) (hi : zi + 6 ≤ g.2.2.2.1) (hL : g.2.2.2.1 ≤ 384) (hI : RI zS) (hC : cR g u zS zc) (hk : kk + 10 ≤ 600000) (hj : jj + 23392 ≤ 7302250) (cont : ∀ (S2 : RS) (z2 : va_W), RI S2 → cR g u S2 z2 → gJ g (mLn nm) 60 600000 7302250 (fun k' j' rv ws' => k' ≤ 600000 ∧ j' ≤ 7302250 ∧ rv = some (.int 1)) (kk + 10) (jj + 23392) 1128 [(3, .int (nI zi)), (2, .ref (q 26)), (1, .ref (u 0)), (0, .ref (gA g 5))] [] (z2 ++ wS g q S2)) : gJ g (mLn nm) 60 600000 7302250 (fun k' j' rv ws' => k' ≤ 600000 ∧ j' ≤ 7302250 ∧ rv = some (.int 1)) kk jj 495 [(3, .int (nI zi)), (2, .ref (q 26)), (1, .ref (u 0)), (0, .ref (gA g 5))] [] (zc ++ wS g q zS) := by
  refine j_aload_n 496 dL_law_495 rfl 2 rfl ?_
  refine j_aload_n 497 dL_law_496 rfl 3 rfl ?_
  refine j_iload_n 498 dL_law_497 rfl 0 rfl ?_
  refine j_iconst (v := (1 : Int32)) 499 dL_law_498 rfl (by decide) ?_
  refine j_iaddN zi 1 500 dL_law_499 rfl ?_
  refine j_sld 501 dL_law_500 rfl (vp_in_nI (by omega) (by omega)) ?_
  obtain ⟨zfs, zmm⟩ := cR_mem hC
  refine j_callVP (As := [.int (g.2.2.2.2 (nI (zi + 1)).toNatClampNeg)]) (rest := []) (wc := zc) (wr := wS g q zS) 504 (k_dawn g u zS zc (g.2.2.2.2 (nI (zi + 1)).toNatClampNeg) hI hC) dL_law_501 rfl cv_L_56 rfl rfl zmm rfl (gLe rfl) (gLe rfl) (by omega) (by omega) (fun rv w1 hp => ?_)
  obtain ⟨rfl, hC2⟩ := hp
  refine j_eq (lv2 := [(3, .int (nI zi)), (2, .ref (q 26)), (1, .ref (u 0)), (0, .ref (gA g 5))]) (st2 := [.int ((pM_dawn (g.2.2.2.2 (nI (zi + 1)).toNatClampNeg) zS).1)]) (ws2 := w1 ++ wS g q zS) rfl rfl rfl ?_
  refine j_aload_n 505 dL_law_504 rfl 1 rfl ?_
  refine j_aload_n 506 dL_law_505 rfl 3 rfl ?_
  refine j_iload_n 507 dL_law_506 rfl 0 rfl ?_
  refine j_iconst (v := (1 : Int32)) 508 dL_law_507 rfl (by decide) ?_
  refine j_iaddN zi 1 509 dL_law_508 rfl ?_
  refine j_sld 510 dL_law_509 rfl (vp_in_nI (by omega) (by omega)) ?_
  refine j_perm (wS g q zS ++ w1) List.perm_append_comm ?_
  refine j_callVP (As := [.int (g.2.2.2.2 (nI (zi + 1)).toNatClampNeg)]) (rest := [.int ((pM_dawn (g.2.2.2.2 (nI (zi + 1)).toNatClampNeg) zS).1)]) (wc := wS g q zS) (wr := w1) 513 (c_X6_dawn g q zS.1 zS.2.1 zS.2.2.1 zS.2.2.2 (g.2.2.2.2 (nI (zi + 1)).toNatClampNeg) hI) dL_law_510 rfl cv_L_59 rfl rfl (List.mem_cons_self (l := (wS g q zS).tail)) rfl (gLe rfl) (gLe rfl) (by omega) (by omega) (fun rv w2 hp => ?_)
  obtain ⟨rfl, rfl⟩ := hp
  refine j_eq (lv2 := [(3, .int (nI zi)), (2, .ref (q 26)), (1, .ref (u 0)), (0, .ref (gA g 5))]) (st2 := [.int ((pM_dawn (g.2.2.2.2 (nI (zi + 1)).toNatClampNeg) zS).1), .int ((pM_dawn (g.2.2.2.2 (nI (zi + 1)).toNatClampNeg) zS).1)]) (ws2 := wS g q (pM_dawn (g.2.2.2.2 (nI (zi + 1)).toNatClampNeg) zS).2 ++ w1) rfl rfl rfl ?_
  refine j_perm (w1 ++ wS g q (pM_dawn (g.2.2.2.2 (nI (zi + 1)).toNatClampNeg) zS).2) List.perm_append_comm ?_
  refine j_icmp_eq 516 1128 dL_law_513 rfl rfl (fun _ => ?_) (fun hne => absurd rfl hne)
  refine j_widen (kk + 10) (jj + 23392) (by omega) (by omega) ?_
  exact cont (pM_dawn (g.2.2.2.2 (nI (zi + 1)).toNatClampNeg) zS).2 w1 (RI_dawn hI (g.2.2.2.2 (nI (zi + 1)).toNatClampNeg)) hC2
