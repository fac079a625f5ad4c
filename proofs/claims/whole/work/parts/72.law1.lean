/-! THE LAW: a call on both sides -/
set_option maxRecDepth 20000 in
theorem law_write {G : jG} {Q : Option Value → jH → Prop} {κ : Nat → jK} {ρ : Nat → Nat → Option Nat} (hs : shC 181 κ ρ) (hr : shR 181 κ ρ) {μ : jMem} {ν : jNu} {i : Nat} (hi : i + 5 ≤ jsL G) (hL : jsL G ≤ 320) (hR : ∃ p x u q n tl, Rel p x u q n tl μ μ) (K : ∀ μ' ν', (∃ p x u q n tl, Rel p x u q n tl μ' μ') → J G RL cL_law 4 false 26 Q 0 0 (181, κ, ρ, μ', ν') 820 [some (.float 0), some (.ref 0), some (.ref 165), some (.int (nI i))] []) : J G RL cL_law 4 false 26 Q 0 0 (181, κ, ρ, μ, ν) 152 [some (.float 0), some (.ref 0), some (.ref 165), some (.int (nI i))] [] := by
  obtain ⟨p, x, u, q, n, tl, h⟩ := hR
  have hm := OKc.mid h (s_write h (jsx G (i + 1)))
  have h2 := s_write hm (jsx G (i + 1))
  obtain ⟨e, hF⟩ := h2.fin
  refine j_aload_n dL_law_152 rfl ?_
  refine j_aload_nF dL_law_153 rfl ?_
  refine j_iload_n dL_law_154 rfl ?_
  refine j_iconst (v := 1) dL_law_155 (by decide) ?_
  refine j_iadd dL_law_156 ?_
  refine j_topi (w := nI (i + 1)) (nI_add i 1) ?_
  refine j_sld (k := i + 1) dL_law_157 rfl (by omega) (by omega) ?_
  refine j_cV1r dL_law_158 (t_write hs h.2.2.2.2.2.2.1) tw_335 my_X6_write mi_X6_write (o_0 hs) rfl (by omega) (Nat.le_of_ble_eq_true rfl) (Nat.le_of_ble_eq_true rfl) ?_
  refine j_aload_n dL_law_161 rfl ?_
  refine j_aload_nF dL_law_162 rfl ?_
  refine j_iload_n dL_law_163 rfl ?_
  refine j_iconst (v := 1) dL_law_164 (by decide) ?_
  refine j_iadd dL_law_165 ?_
  refine j_topi (w := nI (i + 1)) (nI_add i 1) ?_
  refine j_sld (k := i + 1) dL_law_166 rfl (by omega) (by omega) ?_
  refine j_cV1r dL_law_167 (r_write hr hm.2.2.2.2.2.2.2.1 hm.2.2.2.2.2.2.1.2.1) tw_697 my_X7_write mi_X7_write (o_165 hr) rfl (by omega) (Nat.le_of_ble_eq_true rfl) (Nat.le_of_ble_eq_true rfl) ?_
  exact j_icmp_eq (tgt := 820) dL_law_170 (by decide) (fun _ => K _ _ hF) (fun w => absurd e w)
set_option maxRecDepth 20000 in
theorem law_wipe {G : jG} {Q : Option Value → jH → Prop} {κ : Nat → jK} {ρ : Nat → Nat → Option Nat} (hs : shC 181 κ ρ) (hr : shR 181 κ ρ) {μ : jMem} {ν : jNu} {i : Nat} (hi : i + 5 ≤ jsL G) (hL : jsL G ≤ 320) (hR : ∃ p x u q n tl, Rel p x u q n tl μ μ) (K : ∀ μ' ν', (∃ p x u q n tl, Rel p x u q n tl μ' μ') → J G RL cL_law 4 false 26 Q 0 0 (181, κ, ρ, μ', ν') 820 [some (.float 0), some (.ref 0), some (.ref 165), some (.int (nI i))] []) : J G RL cL_law 4 false 26 Q 0 0 (181, κ, ρ, μ, ν) 175 [some (.float 0), some (.ref 0), some (.ref 165), some (.int (nI i))] [] := by
  obtain ⟨p, x, u, q, n, tl, h⟩ := hR
  have hm := OKc.mid h (s_wipe h )
  have h2 := s_wipe hm 
  obtain ⟨e, hF⟩ := h2.fin
  refine j_aload_n dL_law_175 rfl ?_
  refine j_cV0r dL_law_176 (t_wipe hs) tw_339 my_X6_wipe mi_X6_wipe (o_0 hs) rfl (by omega) (Nat.le_of_ble_eq_true rfl) (Nat.le_of_ble_eq_true rfl) ?_
  refine j_aload_n dL_law_179 rfl ?_
  refine j_cV0r dL_law_180 (r_wipe hr) tw_706 my_X7_wipe mi_X7_wipe (o_165 hr) rfl (by omega) (Nat.le_of_ble_eq_true rfl) (Nat.le_of_ble_eq_true rfl) ?_
  exact j_icmp_eq (tgt := 820) dL_law_183 (by decide) (fun _ => K _ _ hF) (fun w => absurd e w)
set_option maxRecDepth 20000 in
theorem law_fault {G : jG} {Q : Option Value → jH → Prop} {κ : Nat → jK} {ρ : Nat → Nat → Option Nat} (hs : shC 181 κ ρ) (hr : shR 181 κ ρ) {μ : jMem} {ν : jNu} {i : Nat} (hi : i + 5 ≤ jsL G) (hL : jsL G ≤ 320) (hR : ∃ p x u q n tl, Rel p x u q n tl μ μ) (K : ∀ μ' ν', (∃ p x u q n tl, Rel p x u q n tl μ' μ') → J G RL cL_law 4 false 26 Q 0 0 (181, κ, ρ, μ', ν') 820 [some (.float 0), some (.ref 0), some (.ref 165), some (.int (nI i))] []) : J G RL cL_law 4 false 26 Q 0 0 (181, κ, ρ, μ, ν) 188 [some (.float 0), some (.ref 0), some (.ref 165), some (.int (nI i))] [] := by
  obtain ⟨p, x, u, q, n, tl, h⟩ := hR
  have hm := OKc.mid h (s_fault h )
  have h2 := s_fault hm 
  obtain ⟨e, hF⟩ := h2.fin
  refine j_aload_n dL_law_188 rfl ?_
  refine j_cV0r dL_law_189 (t_fault hs h.2.2.2.2.2.2.1) tw_343 my_X6_fault mi_X6_fault (o_0 hs) rfl (by omega) (Nat.le_of_ble_eq_true rfl) (Nat.le_of_ble_eq_true rfl) ?_
  refine j_aload_n dL_law_192 rfl ?_
  refine j_cV0r dL_law_193 (r_fault hr hm.2.2.2.2.2.2.2.1 hm.2.2.2.2.2.2.1.2.1) tw_710 my_X7_fault mi_X7_fault (o_165 hr) rfl (by omega) (Nat.le_of_ble_eq_true rfl) (Nat.le_of_ble_eq_true rfl) ?_
  exact j_icmp_eq (tgt := 820) dL_law_196 (by decide) (fun _ => K _ _ hF) (fun w => absurd e w)
set_option maxRecDepth 20000 in
theorem law_lay {G : jG} {Q : Option Value → jH → Prop} {κ : Nat → jK} {ρ : Nat → Nat → Option Nat} (hs : shC 181 κ ρ) (hr : shR 181 κ ρ) {μ : jMem} {ν : jNu} {i : Nat} (hi : i + 5 ≤ jsL G) (hL : jsL G ≤ 320) (hR : ∃ p x u q n tl, Rel p x u q n tl μ μ) (K : ∀ μ' ν', (∃ p x u q n tl, Rel p x u q n tl μ' μ') → J G RL cL_law 4 false 26 Q 0 0 (181, κ, ρ, μ', ν') 820 [some (.float 0), some (.ref 0), some (.ref 165), some (.int (nI i))] []) : J G RL cL_law 4 false 26 Q 0 0 (181, κ, ρ, μ, ν) 201 [some (.float 0), some (.ref 0), some (.ref 165), some (.int (nI i))] [] := by
  obtain ⟨p, x, u, q, n, tl, h⟩ := hR
  have hm := OKc.mid h (s_lay h )
  have h2 := s_lay hm 
  obtain ⟨e, hF⟩ := h2.fin
  refine j_aload_n dL_law_201 rfl ?_
  refine j_cV0r dL_law_202 (tc_lay hs h.2.2.2.2.2.2.1) tw_347 my_X6_lay mi_X6_lay (o_0 hs) rfl (by omega) (Nat.le_of_ble_eq_true rfl) (Nat.le_of_ble_eq_true rfl) ?_
  refine j_aload_n dL_law_205 rfl ?_
  refine j_cV0r dL_law_206 (r_lay hr hm.2.2.2.2.2.2.2.1 hm.2.2.2.2.2.2.1.2.1) tw_744 my_X7_lay mi_X7_lay (o_165 hr) rfl (by omega) (Nat.le_of_ble_eq_true rfl) (Nat.le_of_ble_eq_true rfl) ?_
  exact j_icmp_eq (tgt := 820) dL_law_209 (by decide) (fun _ => K _ _ hF) (fun w => absurd e w)
set_option maxRecDepth 20000 in
theorem law_wall {G : jG} {Q : Option Value → jH → Prop} {κ : Nat → jK} {ρ : Nat → Nat → Option Nat} (hs : shC 181 κ ρ) (hr : shR 181 κ ρ) {μ : jMem} {ν : jNu} {i : Nat} (hi : i + 5 ≤ jsL G) (hL : jsL G ≤ 320) (hR : ∃ p x u q n tl, Rel p x u q n tl μ μ) (K : ∀ μ' ν', (∃ p x u q n tl, Rel p x u q n tl μ' μ') → J G RL cL_law 4 false 26 Q 0 0 (181, κ, ρ, μ', ν') 820 [some (.float 0), some (.ref 0), some (.ref 165), some (.int (nI i))] []) : J G RL cL_law 4 false 26 Q 0 0 (181, κ, ρ, μ, ν) 214 [some (.float 0), some (.ref 0), some (.ref 165), some (.int (nI i))] [] := by
  obtain ⟨p, x, u, q, n, tl, h⟩ := hR
  have hm := OKc.mid h (s_wall h (jsx G (i + 1)) (jsx G (i + 2)))
  have h2 := s_wall hm (jsx G (i + 1)) (jsx G (i + 2))
  obtain ⟨e, hF⟩ := h2.fin
  refine j_aload_n dL_law_214 rfl ?_
  refine j_aload_nF dL_law_215 rfl ?_
  refine j_iload_n dL_law_216 rfl ?_
  refine j_iconst (v := 1) dL_law_217 (by decide) ?_
  refine j_iadd dL_law_218 ?_
  refine j_topi (w := nI (i + 1)) (nI_add i 1) ?_
  refine j_sld (k := i + 1) dL_law_219 rfl (by omega) (by omega) ?_
  refine j_aload_nF dL_law_220 rfl ?_
  refine j_iload_n dL_law_221 rfl ?_
  refine j_iconst (v := 2) dL_law_222 (by decide) ?_
  refine j_iadd dL_law_223 ?_
  refine j_topi (w := nI (i + 2)) (nI_add i 2) ?_
  refine j_sld (k := i + 2) dL_law_224 rfl (by omega) (by omega) ?_
  refine j_cV2r dL_law_225 (t_wall hs h.1.cp h.1.p5) tw_351 my_X6_wall mi_X6_wall (o_0 hs) rfl (by omega) (Nat.le_of_ble_eq_true rfl) (Nat.le_of_ble_eq_true rfl) ?_
  refine j_aload_n dL_law_228 rfl ?_
  refine j_aload_nF dL_law_229 rfl ?_
  refine j_iload_n dL_law_230 rfl ?_
  refine j_iconst (v := 1) dL_law_231 (by decide) ?_
  refine j_iadd dL_law_232 ?_
  refine j_topi (w := nI (i + 1)) (nI_add i 1) ?_
  refine j_sld (k := i + 1) dL_law_233 rfl (by omega) (by omega) ?_
  refine j_aload_nF dL_law_234 rfl ?_
  refine j_iload_n dL_law_235 rfl ?_
  refine j_iconst (v := 2) dL_law_236 (by decide) ?_
  refine j_iadd dL_law_237 ?_
  refine j_topi (w := nI (i + 2)) (nI_add i 2) ?_
  refine j_sld (k := i + 2) dL_law_238 rfl (by omega) (by omega) ?_
  refine j_cV2r dL_law_239 (r_wall hr hm.1.mp hm.1.p5) tw_748 my_X7_wall mi_X7_wall (o_165 hr) rfl (by omega) (Nat.le_of_ble_eq_true rfl) (Nat.le_of_ble_eq_true rfl) ?_
  exact j_icmp_eq (tgt := 820) dL_law_242 (by decide) (fun _ => K _ _ hF) (fun w => absurd e w)
set_option maxRecDepth 20000 in
theorem law_holds {G : jG} {Q : Option Value → jH → Prop} {κ : Nat → jK} {ρ : Nat → Nat → Option Nat} (hs : shC 181 κ ρ) (hr : shR 181 κ ρ) {μ : jMem} {ν : jNu} {i : Nat} (hi : i + 5 ≤ jsL G) (hL : jsL G ≤ 320) (hR : ∃ p x u q n tl, Rel p x u q n tl μ μ) (K : ∀ μ' ν', (∃ p x u q n tl, Rel p x u q n tl μ' μ') → J G RL cL_law 4 false 26 Q 0 0 (181, κ, ρ, μ', ν') 820 [some (.float 0), some (.ref 0), some (.ref 165), some (.int (nI i))] []) : J G RL cL_law 4 false 26 Q 0 0 (181, κ, ρ, μ, ν) 247 [some (.float 0), some (.ref 0), some (.ref 165), some (.int (nI i))] [] := by
  obtain ⟨p, x, u, q, n, tl, h⟩ := hR
  have hm := OKc.mid h (s_holds h (jsx G (i + 1)) (jsx G (i + 2)))
  have h2 := s_holds hm (jsx G (i + 1)) (jsx G (i + 2))
  obtain ⟨e, hF⟩ := h2.fin
  refine j_aload_n dL_law_247 rfl ?_
  refine j_aload_nF dL_law_248 rfl ?_
  refine j_iload_n dL_law_249 rfl ?_
  refine j_iconst (v := 1) dL_law_250 (by decide) ?_
  refine j_iadd dL_law_251 ?_
  refine j_topi (w := nI (i + 1)) (nI_add i 1) ?_
  refine j_sld (k := i + 1) dL_law_252 rfl (by omega) (by omega) ?_
  refine j_aload_nF dL_law_253 rfl ?_
  refine j_iload_n dL_law_254 rfl ?_
  refine j_iconst (v := 2) dL_law_255 (by decide) ?_
  refine j_iadd dL_law_256 ?_
  refine j_topi (w := nI (i + 2)) (nI_add i 2) ?_
  refine j_sld (k := i + 2) dL_law_257 rfl (by omega) (by omega) ?_
  refine j_cV2r dL_law_258 (t_holds hs h.1.cp h.1.p5) tw_364 my_X6_holds mi_X6_holds (o_0 hs) rfl (by omega) (Nat.le_of_ble_eq_true rfl) (Nat.le_of_ble_eq_true rfl) ?_
  refine j_aload_n dL_law_261 rfl ?_
  refine j_aload_nF dL_law_262 rfl ?_
  refine j_iload_n dL_law_263 rfl ?_
  refine j_iconst (v := 1) dL_law_264 (by decide) ?_
  refine j_iadd dL_law_265 ?_
  refine j_topi (w := nI (i + 1)) (nI_add i 1) ?_
  refine j_sld (k := i + 1) dL_law_266 rfl (by omega) (by omega) ?_
  refine j_aload_nF dL_law_267 rfl ?_
  refine j_iload_n dL_law_268 rfl ?_
  refine j_iconst (v := 2) dL_law_269 (by decide) ?_
  refine j_iadd dL_law_270 ?_
  refine j_topi (w := nI (i + 2)) (nI_add i 2) ?_
  refine j_sld (k := i + 2) dL_law_271 rfl (by omega) (by omega) ?_
  refine j_cV2r dL_law_272 (r_holds hr hm.1.mp hm.1.p5) tw_758 my_X7_holds mi_X7_holds (o_165 hr) rfl (by omega) (Nat.le_of_ble_eq_true rfl) (Nat.le_of_ble_eq_true rfl) ?_
  exact j_icmp_eq (tgt := 820) dL_law_275 (by decide) (fun _ => K _ _ hF) (fun w => absurd e w)
set_option maxRecDepth 20000 in
theorem law_round {G : jG} {Q : Option Value → jH → Prop} {κ : Nat → jK} {ρ : Nat → Nat → Option Nat} (hs : shC 181 κ ρ) (hr : shR 181 κ ρ) {μ : jMem} {ν : jNu} {i : Nat} (hi : i + 5 ≤ jsL G) (hL : jsL G ≤ 320) (hR : ∃ p x u q n tl, Rel p x u q n tl μ μ) (K : ∀ μ' ν', (∃ p x u q n tl, Rel p x u q n tl μ' μ') → J G RL cL_law 4 false 26 Q 0 0 (181, κ, ρ, μ', ν') 820 [some (.float 0), some (.ref 0), some (.ref 165), some (.int (nI i))] []) : J G RL cL_law 4 false 26 Q 0 0 (181, κ, ρ, μ, ν) 280 [some (.float 0), some (.ref 0), some (.ref 165), some (.int (nI i))] [] := by
  obtain ⟨p, x, u, q, n, tl, h⟩ := hR
  have hm := OKc.mid h (s_round h (jsx G (i + 1)))
  have h2 := s_round hm (jsx G (i + 1))
  obtain ⟨e, hF⟩ := h2.fin
  refine j_aload_n dL_law_280 rfl ?_
  refine j_aload_nF dL_law_281 rfl ?_
  refine j_iload_n dL_law_282 rfl ?_
  refine j_iconst (v := 1) dL_law_283 (by decide) ?_
  refine j_iadd dL_law_284 ?_
  refine j_topi (w := nI (i + 1)) (nI_add i 1) ?_
  refine j_sld (k := i + 1) dL_law_285 rfl (by omega) (by omega) ?_
  refine j_cV1r dL_law_286 (t_round hs h.1.cp h.1.p5 h.2.2.2.1.1 h.2.2.2.1.2.1) tw_376 my_X6_round mi_X6_round (o_0 hs) rfl (by omega) (Nat.le_of_ble_eq_true rfl) (Nat.le_of_ble_eq_true rfl) ?_
  refine j_aload_n dL_law_289 rfl ?_
  refine j_aload_nF dL_law_290 rfl ?_
  refine j_iload_n dL_law_291 rfl ?_
  refine j_iconst (v := 1) dL_law_292 (by decide) ?_
  refine j_iadd dL_law_293 ?_
  refine j_topi (w := nI (i + 1)) (nI_add i 1) ?_
  refine j_sld (k := i + 1) dL_law_294 rfl (by omega) (by omega) ?_
  refine j_cV1r dL_law_295 (r_round hr hm.2.2.2.1.2.2.2.1 hm.2.2.2.1.2.2.2.2.1 hm.1.mp hm.1.p5) tw_762 my_X7_round mi_X7_round (o_165 hr) rfl (by omega) (Nat.le_of_ble_eq_true rfl) (Nat.le_of_ble_eq_true rfl) ?_
  exact j_icmp_eq (tgt := 820) dL_law_298 (by decide) (fun _ => K _ _ hF) (fun w => absurd e w)
set_option maxRecDepth 20000 in
theorem law_blast {G : jG} {Q : Option Value → jH → Prop} {κ : Nat → jK} {ρ : Nat → Nat → Option Nat} (hs : shC 181 κ ρ) (hr : shR 181 κ ρ) {μ : jMem} {ν : jNu} {i : Nat} (hi : i + 5 ≤ jsL G) (hL : jsL G ≤ 320) (hR : ∃ p x u q n tl, Rel p x u q n tl μ μ) (K : ∀ μ' ν', (∃ p x u q n tl, Rel p x u q n tl μ' μ') → J G RL cL_law 4 false 26 Q 0 0 (181, κ, ρ, μ', ν') 820 [some (.float 0), some (.ref 0), some (.ref 165), some (.int (nI i))] []) : J G RL cL_law 4 false 26 Q 0 0 (181, κ, ρ, μ, ν) 303 [some (.float 0), some (.ref 0), some (.ref 165), some (.int (nI i))] [] := by
  obtain ⟨p, x, u, q, n, tl, h⟩ := hR
  obtain ⟨_, _, _, h1⟩ := s_blast h (jsx G (i + 1)) (jsx G (i + 2))
  have hm := OKc.mid h h1
  obtain ⟨zv, zm, zh, h2⟩ := s_blast hm (jsx G (i + 1)) (jsx G (i + 2))
  obtain ⟨e, hF⟩ := h2.fin
  refine j_aload_n dL_law_303 rfl ?_
  refine j_aload_nF dL_law_304 rfl ?_
  refine j_iload_n dL_law_305 rfl ?_
  refine j_iconst (v := 1) dL_law_306 (by decide) ?_
  refine j_iadd dL_law_307 ?_
  refine j_topi (w := nI (i + 1)) (nI_add i 1) ?_
  refine j_sld (k := i + 1) dL_law_308 rfl (by omega) (by omega) ?_
  refine j_aload_nF dL_law_309 rfl ?_
  refine j_iload_n dL_law_310 rfl ?_
  refine j_iconst (v := 2) dL_law_311 (by decide) ?_
  refine j_iadd dL_law_312 ?_
  refine j_topi (w := nI (i + 2)) (nI_add i 2) ?_
  refine j_sld (k := i + 2) dL_law_313 rfl (by omega) (by omega) ?_
  refine j_cV2r dL_law_314 (t_blast hs h.1.cp h.1.p5 h.2.2.2.1.1 h.2.2.2.1.2.1) tw_396 my_X6_blast mi_X6_blast (o_0 hs) rfl (by omega) (Nat.le_of_ble_eq_true rfl) (Nat.le_of_ble_eq_true rfl) ?_
  refine j_aload_n dL_law_317 rfl ?_
  refine j_aload_nF dL_law_318 rfl ?_
  refine j_iload_n dL_law_319 rfl ?_
  refine j_iconst (v := 1) dL_law_320 (by decide) ?_
  refine j_iadd dL_law_321 ?_
  refine j_topi (w := nI (i + 1)) (nI_add i 1) ?_
  refine j_sld (k := i + 1) dL_law_322 rfl (by omega) (by omega) ?_
  refine j_aload_nF dL_law_323 rfl ?_
  refine j_iload_n dL_law_324 rfl ?_
  refine j_iconst (v := 2) dL_law_325 (by decide) ?_
  refine j_iadd dL_law_326 ?_
  refine j_topi (w := nI (i + 2)) (nI_add i 2) ?_
  refine j_sld (k := i + 2) dL_law_327 rfl (by omega) (by omega) ?_
  refine j_cV2r dL_law_328 (r_blast hr hm.2.2.2.1.2.2.2.1 hm.2.2.2.1.2.2.2.2.1 hm.1.mp hm.1.p5 zh) tw_782 my_X7_blast mi_X7_blast (o_165 hr) rfl (by omega) (Nat.le_of_ble_eq_true rfl) (Nat.le_of_ble_eq_true rfl) ?_
  exact j_icmp_eq (tgt := 820) dL_law_331 (by decide) (fun _ => K _ _ hF) (fun w => absurd e w)
set_option maxRecDepth 20000 in
theorem law_pass {G : jG} {Q : Option Value → jH → Prop} {κ : Nat → jK} {ρ : Nat → Nat → Option Nat} (hs : shC 181 κ ρ) (hr : shR 181 κ ρ) {μ : jMem} {ν : jNu} {i : Nat} (hi : i + 5 ≤ jsL G) (hL : jsL G ≤ 320) (hR : ∃ p x u q n tl, Rel p x u q n tl μ μ) (K : ∀ μ' ν', (∃ p x u q n tl, Rel p x u q n tl μ' μ') → J G RL cL_law 4 false 26 Q 0 0 (181, κ, ρ, μ', ν') 820 [some (.float 0), some (.ref 0), some (.ref 165), some (.int (nI i))] []) : J G RL cL_law 4 false 26 Q 0 0 (181, κ, ρ, μ, ν) 336 [some (.float 0), some (.ref 0), some (.ref 165), some (.int (nI i))] [] := by
  obtain ⟨p, x, u, q, n, tl, h⟩ := hR
  have hm := OKc.mid h (s_pass h (jsx G (i + 1)))
  have h2 := s_pass hm (jsx G (i + 1))
  obtain ⟨e, hF⟩ := h2.fin
  refine j_aload_n dL_law_336 rfl ?_
  refine j_aload_nF dL_law_337 rfl ?_
  refine j_iload_n dL_law_338 rfl ?_
  refine j_iconst (v := 1) dL_law_339 (by decide) ?_
  refine j_iadd dL_law_340 ?_
  refine j_topi (w := nI (i + 1)) (nI_add i 1) ?_
  refine j_sld (k := i + 1) dL_law_341 rfl (by omega) (by omega) ?_
  refine j_cV1r dL_law_342 (t_pass hs h.1.cp h.1.p5 h.2.2.2.1.1 h.2.2.2.1.2.1) tw_425 my_X6_pass mi_X6_pass (o_0 hs) rfl (by omega) (Nat.le_of_ble_eq_true rfl) (Nat.le_of_ble_eq_true rfl) ?_
  refine j_aload_n dL_law_345 rfl ?_
  refine j_aload_nF dL_law_346 rfl ?_
  refine j_iload_n dL_law_347 rfl ?_
  refine j_iconst (v := 1) dL_law_348 (by decide) ?_
  refine j_iadd dL_law_349 ?_
  refine j_topi (w := nI (i + 1)) (nI_add i 1) ?_
  refine j_sld (k := i + 1) dL_law_350 rfl (by omega) (by omega) ?_
  refine j_cV1r dL_law_351 (r_pass hr hm.2.2.2.1.2.2.2.1 hm.2.2.2.1.2.2.2.2.1 hm.1.mp hm.1.p5) tw_803 my_X7_pass mi_X7_pass (o_165 hr) rfl (by omega) (Nat.le_of_ble_eq_true rfl) (Nat.le_of_ble_eq_true rfl) ?_
  exact j_icmp_eq (tgt := 820) dL_law_354 (by decide) (fun _ => K _ _ hF) (fun w => absurd e w)
set_option maxRecDepth 20000 in
theorem law_prop {G : jG} {Q : Option Value → jH → Prop} {κ : Nat → jK} {ρ : Nat → Nat → Option Nat} (hs : shC 181 κ ρ) (hr : shR 181 κ ρ) {μ : jMem} {ν : jNu} {i : Nat} (hi : i + 5 ≤ jsL G) (hL : jsL G ≤ 320) (hR : ∃ p x u q n tl, Rel p x u q n tl μ μ) (K : ∀ μ' ν', (∃ p x u q n tl, Rel p x u q n tl μ' μ') → J G RL cL_law 4 false 26 Q 0 0 (181, κ, ρ, μ', ν') 820 [some (.float 0), some (.ref 0), some (.ref 165), some (.int (nI i))] []) : J G RL cL_law 4 false 26 Q 0 0 (181, κ, ρ, μ, ν) 359 [some (.float 0), some (.ref 0), some (.ref 165), some (.int (nI i))] [] := by
  obtain ⟨p, x, u, q, n, tl, h⟩ := hR
  have hm := OKc.mid h (s_prop h (jsx G (i + 1)) (jsx G (i + 2)) (jsx G (i + 3)))
  have h2 := s_prop hm (jsx G (i + 1)) (jsx G (i + 2)) (jsx G (i + 3))
  obtain ⟨e, hF⟩ := h2.fin
  refine j_aload_n dL_law_359 rfl ?_
  refine j_aload_nF dL_law_360 rfl ?_
  refine j_iload_n dL_law_361 rfl ?_
  refine j_iconst (v := 1) dL_law_362 (by decide) ?_
  refine j_iadd dL_law_363 ?_
  refine j_topi (w := nI (i + 1)) (nI_add i 1) ?_
  refine j_sld (k := i + 1) dL_law_364 rfl (by omega) (by omega) ?_
  refine j_aload_nF dL_law_365 rfl ?_
  refine j_iload_n dL_law_366 rfl ?_
  refine j_iconst (v := 2) dL_law_367 (by decide) ?_
  refine j_iadd dL_law_368 ?_
  refine j_topi (w := nI (i + 2)) (nI_add i 2) ?_
  refine j_sld (k := i + 2) dL_law_369 rfl (by omega) (by omega) ?_
  refine j_aload_nF dL_law_370 rfl ?_
  refine j_iload_n dL_law_371 rfl ?_
  refine j_iconst (v := 3) dL_law_372 (by decide) ?_
  refine j_iadd dL_law_373 ?_
  refine j_topi (w := nI (i + 3)) (nI_add i 3) ?_
  refine j_sld (k := i + 3) dL_law_374 rfl (by omega) (by omega) ?_
  refine j_cV3r dL_law_375 (t_prop hs h.1.cp h.1.p5 h.2.2.2.1.1 h.2.2.2.1.2.1) tw_433 my_X6_prop mi_X6_prop (o_0 hs) rfl (by omega) (Nat.le_of_ble_eq_true rfl) (Nat.le_of_ble_eq_true rfl) ?_
  refine j_aload_n dL_law_378 rfl ?_
  refine j_aload_nF dL_law_379 rfl ?_
  refine j_iload_n dL_law_380 rfl ?_
  refine j_iconst (v := 1) dL_law_381 (by decide) ?_
  refine j_iadd dL_law_382 ?_
  refine j_topi (w := nI (i + 1)) (nI_add i 1) ?_
  refine j_sld (k := i + 1) dL_law_383 rfl (by omega) (by omega) ?_
  refine j_aload_nF dL_law_384 rfl ?_
  refine j_iload_n dL_law_385 rfl ?_
  refine j_iconst (v := 2) dL_law_386 (by decide) ?_
  refine j_iadd dL_law_387 ?_
  refine j_topi (w := nI (i + 2)) (nI_add i 2) ?_
  refine j_sld (k := i + 2) dL_law_388 rfl (by omega) (by omega) ?_
  refine j_aload_nF dL_law_389 rfl ?_
  refine j_iload_n dL_law_390 rfl ?_
  refine j_iconst (v := 3) dL_law_391 (by decide) ?_
  refine j_iadd dL_law_392 ?_
  refine j_topi (w := nI (i + 3)) (nI_add i 3) ?_
  refine j_sld (k := i + 3) dL_law_393 rfl (by omega) (by omega) ?_
  refine j_cV3r dL_law_394 (r_prop hr hm.2.2.2.1.2.2.2.1 hm.2.2.2.1.2.2.2.2.1 hm.1.mp hm.1.p5) tw_812 my_X7_prop mi_X7_prop (o_165 hr) rfl (by omega) (Nat.le_of_ble_eq_true rfl) (Nat.le_of_ble_eq_true rfl) ?_
  exact j_icmp_eq (tgt := 820) dL_law_397 (by decide) (fun _ => K _ _ hF) (fun w => absurd e w)
set_option maxRecDepth 20000 in
theorem law_use {G : jG} {Q : Option Value → jH → Prop} {κ : Nat → jK} {ρ : Nat → Nat → Option Nat} (hs : shC 181 κ ρ) (hr : shR 181 κ ρ) {μ : jMem} {ν : jNu} {i : Nat} (hi : i + 5 ≤ jsL G) (hL : jsL G ≤ 320) (hR : ∃ p x u q n tl, Rel p x u q n tl μ μ) (K : ∀ μ' ν', (∃ p x u q n tl, Rel p x u q n tl μ' μ') → J G RL cL_law 4 false 26 Q 0 0 (181, κ, ρ, μ', ν') 820 [some (.float 0), some (.ref 0), some (.ref 165), some (.int (nI i))] []) : J G RL cL_law 4 false 26 Q 0 0 (181, κ, ρ, μ, ν) 402 [some (.float 0), some (.ref 0), some (.ref 165), some (.int (nI i))] [] := by
  obtain ⟨p, x, u, q, n, tl, h⟩ := hR
  have hm := OKc.mid h (s_use h (jsx G (i + 1)))
  have h2 := s_use hm (jsx G (i + 1))
  obtain ⟨e, hF⟩ := h2.fin
  refine j_aload_n dL_law_402 rfl ?_
  refine j_aload_nF dL_law_403 rfl ?_
  refine j_iload_n dL_law_404 rfl ?_
  refine j_iconst (v := 1) dL_law_405 (by decide) ?_
  refine j_iadd dL_law_406 ?_
  refine j_topi (w := nI (i + 1)) (nI_add i 1) ?_
  refine j_sld (k := i + 1) dL_law_407 rfl (by omega) (by omega) ?_
  refine j_cV1r dL_law_408 (t_use hs h.2.2.2.1.1 h.2.2.2.1.2.1) tw_441 my_X6_use mi_X6_use (o_0 hs) rfl (by omega) (Nat.le_of_ble_eq_true rfl) (Nat.le_of_ble_eq_true rfl) ?_
  refine j_aload_n dL_law_411 rfl ?_
  refine j_aload_nF dL_law_412 rfl ?_
  refine j_iload_n dL_law_413 rfl ?_
  refine j_iconst (v := 1) dL_law_414 (by decide) ?_
  refine j_iadd dL_law_415 ?_
  refine j_topi (w := nI (i + 1)) (nI_add i 1) ?_
  refine j_sld (k := i + 1) dL_law_416 rfl (by omega) (by omega) ?_
  refine j_cV1r dL_law_417 (r_use hr hm.2.2.2.1.2.2.2.1 hm.2.2.2.1.2.2.2.2.1) tw_817 my_X7_use mi_X7_use (o_165 hr) rfl (by omega) (Nat.le_of_ble_eq_true rfl) (Nat.le_of_ble_eq_true rfl) ?_
  exact j_icmp_eq (tgt := 820) dL_law_420 (by decide) (fun _ => K _ _ hF) (fun w => absurd e w)
set_option maxRecDepth 20000 in
theorem law_undo {G : jG} {Q : Option Value → jH → Prop} {κ : Nat → jK} {ρ : Nat → Nat → Option Nat} (hs : shC 181 κ ρ) (hr : shR 181 κ ρ) {μ : jMem} {ν : jNu} {i : Nat} (hi : i + 5 ≤ jsL G) (hL : jsL G ≤ 320) (hR : ∃ p x u q n tl, Rel p x u q n tl μ μ) (K : ∀ μ' ν', (∃ p x u q n tl, Rel p x u q n tl μ' μ') → J G RL cL_law 4 false 26 Q 0 0 (181, κ, ρ, μ', ν') 820 [some (.float 0), some (.ref 0), some (.ref 165), some (.int (nI i))] []) : J G RL cL_law 4 false 26 Q 0 0 (181, κ, ρ, μ, ν) 425 [some (.float 0), some (.ref 0), some (.ref 165), some (.int (nI i))] [] := by
  obtain ⟨p, x, u, q, n, tl, h⟩ := hR
  have hm := OKc.mid h (s_undo h )
  have h2 := s_undo hm 
  obtain ⟨e, hF⟩ := h2.fin
  refine j_aload_n dL_law_425 rfl ?_
  refine j_cV0r dL_law_426 (t_undo hs h.2.2.2.1.1 h.2.2.2.1.2.1) tw_445 my_X6_undo mi_X6_undo (o_0 hs) rfl (by omega) (Nat.le_of_ble_eq_true rfl) (Nat.le_of_ble_eq_true rfl) ?_
  refine j_aload_n dL_law_429 rfl ?_
  refine j_cV0r dL_law_430 (r_undo hr hm.2.2.2.1.2.2.2.1 hm.2.2.2.1.2.2.2.2.1) tw_822 my_X7_undo mi_X7_undo (o_165 hr) rfl (by omega) (Nat.le_of_ble_eq_true rfl) (Nat.le_of_ble_eq_true rfl) ?_
  exact j_icmp_eq (tgt := 820) dL_law_433 (by decide) (fun _ => K _ _ hF) (fun w => absurd e w)
set_option maxRecDepth 20000 in
theorem law_calls {G : jG} {Q : Option Value → jH → Prop} {κ : Nat → jK} {ρ : Nat → Nat → Option Nat} (hs : shC 181 κ ρ) (hr : shR 181 κ ρ) {μ : jMem} {ν : jNu} {i : Nat} (hi : i + 5 ≤ jsL G) (hL : jsL G ≤ 320) (hR : ∃ p x u q n tl, Rel p x u q n tl μ μ) (K : ∀ μ' ν', (∃ p x u q n tl, Rel p x u q n tl μ' μ') → J G RL cL_law 4 false 26 Q 0 0 (181, κ, ρ, μ', ν') 820 [some (.float 0), some (.ref 0), some (.ref 165), some (.int (nI i))] []) : J G RL cL_law 4 false 26 Q 0 0 (181, κ, ρ, μ, ν) 438 [some (.float 0), some (.ref 0), some (.ref 165), some (.int (nI i))] [] := by
  obtain ⟨p, x, u, q, n, tl, h⟩ := hR
  have hm := OKc.mid h (s_calls h (jsx G (i + 1)))
  have h2 := s_calls hm (jsx G (i + 1))
  obtain ⟨e, hF⟩ := h2.fin
  refine j_aload_n dL_law_438 rfl ?_
  refine j_aload_nF dL_law_439 rfl ?_
  refine j_iload_n dL_law_440 rfl ?_
  refine j_iconst (v := 1) dL_law_441 (by decide) ?_
  refine j_iadd dL_law_442 ?_
  refine j_topi (w := nI (i + 1)) (nI_add i 1) ?_
  refine j_sld (k := i + 1) dL_law_443 rfl (by omega) (by omega) ?_
  refine j_cV1r dL_law_444 (t_calls hs h.1.cp h.1.p5) tw_453 my_X6_calls mi_X6_calls (o_0 hs) rfl (by omega) (Nat.le_of_ble_eq_true rfl) (Nat.le_of_ble_eq_true rfl) ?_
  refine j_aload_n dL_law_447 rfl ?_
  refine j_aload_nF dL_law_448 rfl ?_
  refine j_iload_n dL_law_449 rfl ?_
  refine j_iconst (v := 1) dL_law_450 (by decide) ?_
  refine j_iadd dL_law_451 ?_
  refine j_topi (w := nI (i + 1)) (nI_add i 1) ?_
  refine j_sld (k := i + 1) dL_law_452 rfl (by omega) (by omega) ?_
  refine j_cV1r dL_law_453 (r_calls hr hm.1.mp hm.1.p5) tw_826 my_X7_calls mi_X7_calls (o_165 hr) rfl (by omega) (Nat.le_of_ble_eq_true rfl) (Nat.le_of_ble_eq_true rfl) ?_
  exact j_icmp_eq (tgt := 820) dL_law_456 (by decide) (fun _ => K _ _ hF) (fun w => absurd e w)
set_option maxRecDepth 20000 in
theorem law_rounds {G : jG} {Q : Option Value → jH → Prop} {κ : Nat → jK} {ρ : Nat → Nat → Option Nat} (hs : shC 181 κ ρ) (hr : shR 181 κ ρ) {μ : jMem} {ν : jNu} {i : Nat} (hi : i + 5 ≤ jsL G) (hL : jsL G ≤ 320) (hR : ∃ p x u q n tl, Rel p x u q n tl μ μ) (K : ∀ μ' ν', (∃ p x u q n tl, Rel p x u q n tl μ' μ') → J G RL cL_law 4 false 26 Q 0 0 (181, κ, ρ, μ', ν') 820 [some (.float 0), some (.ref 0), some (.ref 165), some (.int (nI i))] []) : J G RL cL_law 4 false 26 Q 0 0 (181, κ, ρ, μ, ν) 461 [some (.float 0), some (.ref 0), some (.ref 165), some (.int (nI i))] [] := by
  obtain ⟨p, x, u, q, n, tl, h⟩ := hR
  have hm := OKc.mid h (s_rounds h (jsx G (i + 1)) (jsx G (i + 2)))
  have h2 := s_rounds hm (jsx G (i + 1)) (jsx G (i + 2))
  obtain ⟨e, hF⟩ := h2.fin
  refine j_aload_n dL_law_461 rfl ?_
  refine j_aload_nF dL_law_462 rfl ?_
  refine j_iload_n dL_law_463 rfl ?_
  refine j_iconst (v := 1) dL_law_464 (by decide) ?_
  refine j_iadd dL_law_465 ?_
  refine j_topi (w := nI (i + 1)) (nI_add i 1) ?_
  refine j_sld (k := i + 1) dL_law_466 rfl (by omega) (by omega) ?_
  refine j_aload_nF dL_law_467 rfl ?_
  refine j_iload_n dL_law_468 rfl ?_
  refine j_iconst (v := 2) dL_law_469 (by decide) ?_
  refine j_iadd dL_law_470 ?_
  refine j_topi (w := nI (i + 2)) (nI_add i 2) ?_
  refine j_sld (k := i + 2) dL_law_471 rfl (by omega) (by omega) ?_
  refine j_cV2r dL_law_472 (t_rounds hs h.1.cp h.1.p5) tw_461 my_X6_rounds mi_X6_rounds (o_0 hs) rfl (by omega) (Nat.le_of_ble_eq_true rfl) (Nat.le_of_ble_eq_true rfl) ?_
  refine j_aload_n dL_law_475 rfl ?_
  refine j_aload_nF dL_law_476 rfl ?_
  refine j_iload_n dL_law_477 rfl ?_
  refine j_iconst (v := 1) dL_law_478 (by decide) ?_
  refine j_iadd dL_law_479 ?_
  refine j_topi (w := nI (i + 1)) (nI_add i 1) ?_
  refine j_sld (k := i + 1) dL_law_480 rfl (by omega) (by omega) ?_
  refine j_aload_nF dL_law_481 rfl ?_
  refine j_iload_n dL_law_482 rfl ?_
  refine j_iconst (v := 2) dL_law_483 (by decide) ?_
  refine j_iadd dL_law_484 ?_
  refine j_topi (w := nI (i + 2)) (nI_add i 2) ?_
  refine j_sld (k := i + 2) dL_law_485 rfl (by omega) (by omega) ?_
  refine j_cV2r dL_law_486 (r_rounds hr hm.1.mp hm.1.p5) tw_834 my_X7_rounds mi_X7_rounds (o_165 hr) rfl (by omega) (Nat.le_of_ble_eq_true rfl) (Nat.le_of_ble_eq_true rfl) ?_
  exact j_icmp_eq (tgt := 820) dL_law_489 (by decide) (fun _ => K _ _ hF) (fun w => absurd e w)
set_option maxRecDepth 20000 in
theorem law_key {G : jG} {Q : Option Value → jH → Prop} {κ : Nat → jK} {ρ : Nat → Nat → Option Nat} (hs : shC 181 κ ρ) (hr : shR 181 κ ρ) {μ : jMem} {ν : jNu} {i : Nat} (hi : i + 5 ≤ jsL G) (hL : jsL G ≤ 320) (hR : ∃ p x u q n tl, Rel p x u q n tl μ μ) (K : ∀ μ' ν', (∃ p x u q n tl, Rel p x u q n tl μ' μ') → J G RL cL_law 4 false 26 Q 0 0 (181, κ, ρ, μ', ν') 820 [some (.float 0), some (.ref 0), some (.ref 165), some (.int (nI i))] []) : J G RL cL_law 4 false 26 Q 0 0 (181, κ, ρ, μ, ν) 494 [some (.float 0), some (.ref 0), some (.ref 165), some (.int (nI i))] [] := by
  obtain ⟨p, x, u, q, n, tl, h⟩ := hR
  obtain ⟨_, _, _, h1⟩ := s_key h (jsx G (i + 1))
  have hm := OKc.mid h h1
  obtain ⟨zv, zm, zh, h2⟩ := s_key hm (jsx G (i + 1))
  obtain ⟨e, hF⟩ := h2.fin
  refine j_aload_n dL_law_494 rfl ?_
  refine j_aload_nF dL_law_495 rfl ?_
  refine j_iload_n dL_law_496 rfl ?_
  refine j_iconst (v := 1) dL_law_497 (by decide) ?_
  refine j_iadd dL_law_498 ?_
  refine j_topi (w := nI (i + 1)) (nI_add i 1) ?_
  refine j_sld (k := i + 1) dL_law_499 rfl (by omega) (by omega) ?_
  refine j_cV1r dL_law_500 (t_key hs h.1.cp h.1.p5) tw_468 my_X6_key mi_X6_key (o_0 hs) rfl (by omega) (Nat.le_of_ble_eq_true rfl) (Nat.le_of_ble_eq_true rfl) ?_
  refine j_aload_n dL_law_503 rfl ?_
  refine j_aload_nF dL_law_504 rfl ?_
  refine j_iload_n dL_law_505 rfl ?_
  refine j_iconst (v := 1) dL_law_506 (by decide) ?_
  refine j_iadd dL_law_507 ?_
  refine j_topi (w := nI (i + 1)) (nI_add i 1) ?_
  refine j_sld (k := i + 1) dL_law_508 rfl (by omega) (by omega) ?_
  refine j_cV1r dL_law_509 (r_key hr hm.1.mp hm.1.p5 zh) tw_842 my_X7_key mi_X7_key (o_165 hr) rfl (by omega) (Nat.le_of_ble_eq_true rfl) (Nat.le_of_ble_eq_true rfl) ?_
  exact j_icmp_eq (tgt := 820) dL_law_512 (by decide) (fun _ => K _ _ hF) (fun w => absurd e w)
set_option maxRecDepth 20000 in
theorem law_order {G : jG} {Q : Option Value → jH → Prop} {κ : Nat → jK} {ρ : Nat → Nat → Option Nat} (hs : shC 181 κ ρ) (hr : shR 181 κ ρ) {μ : jMem} {ν : jNu} {i : Nat} (hi : i + 5 ≤ jsL G) (hL : jsL G ≤ 320) (hR : ∃ p x u q n tl, Rel p x u q n tl μ μ) (K : ∀ μ' ν', (∃ p x u q n tl, Rel p x u q n tl μ' μ') → J G RL cL_law 4 false 26 Q 0 0 (181, κ, ρ, μ', ν') 820 [some (.float 0), some (.ref 0), some (.ref 165), some (.int (nI i))] []) : J G RL cL_law 4 false 26 Q 0 0 (181, κ, ρ, μ, ν) 517 [some (.float 0), some (.ref 0), some (.ref 165), some (.int (nI i))] [] := by
  obtain ⟨p, x, u, q, n, tl, h⟩ := hR
  obtain ⟨_, _, _, h1⟩ := s_order h ν (jsx G (i + 1))
  have hm := OKc.mid h h1
  obtain ⟨zv, zm, zh, h2⟩ := s_order hm ν (jsx G (i + 1))
  obtain ⟨e, hF⟩ := h2.fin
  refine j_aload_n dL_law_517 rfl ?_
  refine j_aload_nF dL_law_518 rfl ?_
  refine j_iload_n dL_law_519 rfl ?_
  refine j_iconst (v := 1) dL_law_520 (by decide) ?_
  refine j_iadd dL_law_521 ?_
  refine j_topi (w := nI (i + 1)) (nI_add i 1) ?_
  refine j_sld (k := i + 1) dL_law_522 rfl (by omega) (by omega) ?_
  refine j_cV1r dL_law_523 (t_order hs h.1.cp h.1.p5) tw_481 my_X6_order mi_X6_order (o_0 hs) rfl (by omega) (Nat.le_of_ble_eq_true rfl) (Nat.le_of_ble_eq_true rfl) ?_
  refine j_aload_n dL_law_526 rfl ?_
  refine j_aload_nF dL_law_527 rfl ?_
  refine j_iload_n dL_law_528 rfl ?_
  refine j_iconst (v := 1) dL_law_529 (by decide) ?_
  refine j_iadd dL_law_530 ?_
  refine j_topi (w := nI (i + 1)) (nI_add i 1) ?_
  refine j_sld (k := i + 1) dL_law_531 rfl (by omega) (by omega) ?_
  refine j_cV1r dL_law_532 (r_order hr hm.1.mp hm.1.p5 zh) tw_853 my_X7_order mi_X7_order (o_165 hr) rfl (by omega) (Nat.le_of_ble_eq_true rfl) (Nat.le_of_ble_eq_true rfl) ?_
  exact j_icmp_eq (tgt := 820) dL_law_535 (by decide) (fun _ => K _ _ hF) (fun w => absurd e w)
set_option maxRecDepth 20000 in
theorem law_save {G : jG} {Q : Option Value → jH → Prop} {κ : Nat → jK} {ρ : Nat → Nat → Option Nat} (hs : shC 181 κ ρ) (hr : shR 181 κ ρ) {μ : jMem} {ν : jNu} {i : Nat} (hi : i + 5 ≤ jsL G) (hL : jsL G ≤ 320) (hR : ∃ p x u q n tl, Rel p x u q n tl μ μ) (K : ∀ μ' ν', (∃ p x u q n tl, Rel p x u q n tl μ' μ') → J G RL cL_law 4 false 26 Q 0 0 (181, κ, ρ, μ', ν') 820 [some (.float 0), some (.ref 0), some (.ref 165), some (.int (nI i))] []) : J G RL cL_law 4 false 26 Q 0 0 (181, κ, ρ, μ, ν) 540 [some (.float 0), some (.ref 0), some (.ref 165), some (.int (nI i))] [] := by
  obtain ⟨p, x, u, q, n, tl, h⟩ := hR
  obtain ⟨_, _, _, h1⟩ := s_save h (jsx G (i + 1)) (jsx G (i + 2))
  have hm := OKc.mid h h1
  obtain ⟨zv, zm, zh, h2⟩ := s_save hm (jsx G (i + 1)) (jsx G (i + 2))
  obtain ⟨e, hF⟩ := h2.fin
  refine j_aload_n dL_law_540 rfl ?_
  refine j_aload_nF dL_law_541 rfl ?_
  refine j_iload_n dL_law_542 rfl ?_
  refine j_iconst (v := 1) dL_law_543 (by decide) ?_
  refine j_iadd dL_law_544 ?_
  refine j_topi (w := nI (i + 1)) (nI_add i 1) ?_
  refine j_sld (k := i + 1) dL_law_545 rfl (by omega) (by omega) ?_
  refine j_aload_nF dL_law_546 rfl ?_
  refine j_iload_n dL_law_547 rfl ?_
  refine j_iconst (v := 2) dL_law_548 (by decide) ?_
  refine j_iadd dL_law_549 ?_
  refine j_topi (w := nI (i + 2)) (nI_add i 2) ?_
  refine j_sld (k := i + 2) dL_law_550 rfl (by omega) (by omega) ?_
  refine j_cV2r dL_law_551 (t_save hs h.1.cp h.1.p5) tw_515 my_X6_save mi_X6_save (o_0 hs) rfl (by omega) (Nat.le_of_ble_eq_true rfl) (Nat.le_of_ble_eq_true rfl) ?_
  refine j_aload_n dL_law_554 rfl ?_
  refine j_aload_nF dL_law_555 rfl ?_
  refine j_iload_n dL_law_556 rfl ?_
  refine j_iconst (v := 1) dL_law_557 (by decide) ?_
  refine j_iadd dL_law_558 ?_
  refine j_topi (w := nI (i + 1)) (nI_add i 1) ?_
  refine j_sld (k := i + 1) dL_law_559 rfl (by omega) (by omega) ?_
  refine j_aload_nF dL_law_560 rfl ?_
  refine j_iload_n dL_law_561 rfl ?_
  refine j_iconst (v := 2) dL_law_562 (by decide) ?_
  refine j_iadd dL_law_563 ?_
  refine j_topi (w := nI (i + 2)) (nI_add i 2) ?_
  refine j_sld (k := i + 2) dL_law_564 rfl (by omega) (by omega) ?_
  refine j_cV2r dL_law_565 (r_save hr hm.1.mp hm.1.p5 zh) tw_863 my_X7_save mi_X7_save (o_165 hr) rfl (by omega) (Nat.le_of_ble_eq_true rfl) (Nat.le_of_ble_eq_true rfl) ?_
  exact j_icmp_eq (tgt := 820) dL_law_568 (by decide) (fun _ => K _ _ hF) (fun w => absurd e w)
set_option maxRecDepth 20000 in
theorem law_built {G : jG} {Q : Option Value → jH → Prop} {κ : Nat → jK} {ρ : Nat → Nat → Option Nat} (hs : shC 181 κ ρ) (hr : shR 181 κ ρ) {μ : jMem} {ν : jNu} {i : Nat} (hi : i + 5 ≤ jsL G) (hL : jsL G ≤ 320) (hR : ∃ p x u q n tl, Rel p x u q n tl μ μ) (K : ∀ μ' ν', (∃ p x u q n tl, Rel p x u q n tl μ' μ') → J G RL cL_law 4 false 26 Q 0 0 (181, κ, ρ, μ', ν') 820 [some (.float 0), some (.ref 0), some (.ref 165), some (.int (nI i))] []) : J G RL cL_law 4 false 26 Q 0 0 (181, κ, ρ, μ, ν) 573 [some (.float 0), some (.ref 0), some (.ref 165), some (.int (nI i))] [] := by
  obtain ⟨p, x, u, q, n, tl, h⟩ := hR
  obtain ⟨S, hS, hS2⟩ := h.stones
  have hm := OKc.mid h (s_built h (jsx G (i + 1)) hS hS2)
  have h2 := s_built hm (jsx G (i + 1)) hS hS2
  obtain ⟨e, hF⟩ := h2.fin
  refine j_aload_n dL_law_573 rfl ?_
  refine j_aload_nF dL_law_574 rfl ?_
  refine j_iload_n dL_law_575 rfl ?_
  refine j_iconst (v := 1) dL_law_576 (by decide) ?_
  refine j_iadd dL_law_577 ?_
  refine j_topi (w := nI (i + 1)) (nI_add i 1) ?_
  refine j_sld (k := i + 1) dL_law_578 rfl (by omega) (by omega) ?_
  refine j_cV1r dL_law_579 (t_built hs hS (by omega)) tw_533 my_X6_built mi_X6_built (o_0 hs) rfl (by omega) (Nat.le_of_ble_eq_true rfl) (Nat.le_of_ble_eq_true rfl) ?_
  refine j_aload_n dL_law_582 rfl ?_
  refine j_aload_nF dL_law_583 rfl ?_
  refine j_iload_n dL_law_584 rfl ?_
  refine j_iconst (v := 1) dL_law_585 (by decide) ?_
  refine j_iadd dL_law_586 ?_
  refine j_topi (w := nI (i + 1)) (nI_add i 1) ?_
  refine j_sld (k := i + 1) dL_law_587 rfl (by omega) (by omega) ?_
  refine j_cV1r dL_law_588 (r_built hr ((hm.2.2.1.1.sto trivial).symm.trans hS) (by omega)) tw_870 my_X7_built mi_X7_built (o_165 hr) rfl (by omega) (Nat.le_of_ble_eq_true rfl) (Nat.le_of_ble_eq_true rfl) ?_
  exact j_icmp_eq (tgt := 820) dL_law_591 (by decide) (fun _ => K _ _ hF) (fun w => absurd e w)
set_option maxRecDepth 20000 in
theorem law_note {G : jG} {Q : Option Value → jH → Prop} {κ : Nat → jK} {ρ : Nat → Nat → Option Nat} (hs : shC 181 κ ρ) (hr : shR 181 κ ρ) {μ : jMem} {ν : jNu} {i : Nat} (hi : i + 5 ≤ jsL G) (hL : jsL G ≤ 320) (hR : ∃ p x u q n tl, Rel p x u q n tl μ μ) (K : ∀ μ' ν', (∃ p x u q n tl, Rel p x u q n tl μ' μ') → J G RL cL_law 4 false 26 Q 0 0 (181, κ, ρ, μ', ν') 820 [some (.float 0), some (.ref 0), some (.ref 165), some (.int (nI i))] []) : J G RL cL_law 4 false 26 Q 0 0 (181, κ, ρ, μ, ν) 596 [some (.float 0), some (.ref 0), some (.ref 165), some (.int (nI i))] [] := by
  obtain ⟨p, x, u, q, n, tl, h⟩ := hR
  have hm := OKc.mid h (s_note h (jsx G (i + 1)) (jsx G (i + 2)) (jsx G (i + 3)))
  have h2 := s_note hm (jsx G (i + 1)) (jsx G (i + 2)) (jsx G (i + 3))
  obtain ⟨e, hF⟩ := h2.fin
  refine j_aload_n dL_law_596 rfl ?_
  refine j_aload_nF dL_law_597 rfl ?_
  refine j_iload_n dL_law_598 rfl ?_
  refine j_iconst (v := 1) dL_law_599 (by decide) ?_
  refine j_iadd dL_law_600 ?_
  refine j_topi (w := nI (i + 1)) (nI_add i 1) ?_
  refine j_sld (k := i + 1) dL_law_601 rfl (by omega) (by omega) ?_
  refine j_aload_nF dL_law_602 rfl ?_
  refine j_iload_n dL_law_603 rfl ?_
  refine j_iconst (v := 2) dL_law_604 (by decide) ?_
  refine j_iadd dL_law_605 ?_
  refine j_topi (w := nI (i + 2)) (nI_add i 2) ?_
  refine j_sld (k := i + 2) dL_law_606 rfl (by omega) (by omega) ?_
  refine j_aload_nF dL_law_607 rfl ?_
  refine j_iload_n dL_law_608 rfl ?_
  refine j_iconst (v := 3) dL_law_609 (by decide) ?_
  refine j_iadd dL_law_610 ?_
  refine j_topi (w := nI (i + 3)) (nI_add i 3) ?_
  refine j_sld (k := i + 3) dL_law_611 rfl (by omega) (by omega) ?_
  refine j_cV3r dL_law_612 (t_note hs h.2.2.2.2.2.1.1 h.2.2.2.2.2.1.2.2.1) tw_537 my_X6_note mi_X6_note (o_0 hs) rfl (by omega) (Nat.le_of_ble_eq_true rfl) (Nat.le_of_ble_eq_true rfl) ?_
  refine j_aload_n dL_law_615 rfl ?_
  refine j_aload_nF dL_law_616 rfl ?_
  refine j_iload_n dL_law_617 rfl ?_
  refine j_iconst (v := 1) dL_law_618 (by decide) ?_
  refine j_iadd dL_law_619 ?_
  refine j_topi (w := nI (i + 1)) (nI_add i 1) ?_
  refine j_sld (k := i + 1) dL_law_620 rfl (by omega) (by omega) ?_
  refine j_aload_nF dL_law_621 rfl ?_
  refine j_iload_n dL_law_622 rfl ?_
  refine j_iconst (v := 2) dL_law_623 (by decide) ?_
  refine j_iadd dL_law_624 ?_
  refine j_topi (w := nI (i + 2)) (nI_add i 2) ?_
  refine j_sld (k := i + 2) dL_law_625 rfl (by omega) (by omega) ?_
  refine j_aload_nF dL_law_626 rfl ?_
  refine j_iload_n dL_law_627 rfl ?_
  refine j_iconst (v := 3) dL_law_628 (by decide) ?_
  refine j_iadd dL_law_629 ?_
  refine j_topi (w := nI (i + 3)) (nI_add i 3) ?_
  refine j_sld (k := i + 3) dL_law_630 rfl (by omega) (by omega) ?_
  refine j_cV3r dL_law_631 (r_note hr hm.2.2.2.2.2.1.2.1 hm.2.2.2.2.2.1.2.2.1) tw_874 my_X7_note mi_X7_note (o_165 hr) rfl (by omega) (Nat.le_of_ble_eq_true rfl) (Nat.le_of_ble_eq_true rfl) ?_
  exact j_icmp_eq (tgt := 820) dL_law_634 (by decide) (fun _ => K _ _ hF) (fun w => absurd e w)
set_option maxRecDepth 20000 in
theorem law_forget {G : jG} {Q : Option Value → jH → Prop} {κ : Nat → jK} {ρ : Nat → Nat → Option Nat} (hs : shC 181 κ ρ) (hr : shR 181 κ ρ) {μ : jMem} {ν : jNu} {i : Nat} (hi : i + 5 ≤ jsL G) (hL : jsL G ≤ 320) (hR : ∃ p x u q n tl, Rel p x u q n tl μ μ) (K : ∀ μ' ν', (∃ p x u q n tl, Rel p x u q n tl μ' μ') → J G RL cL_law 4 false 26 Q 0 0 (181, κ, ρ, μ', ν') 820 [some (.float 0), some (.ref 0), some (.ref 165), some (.int (nI i))] []) : J G RL cL_law 4 false 26 Q 0 0 (181, κ, ρ, μ, ν) 639 [some (.float 0), some (.ref 0), some (.ref 165), some (.int (nI i))] [] := by
  obtain ⟨p, x, u, q, n, tl, h⟩ := hR
  have hm := OKc.mid h (s_forget h )
  have h2 := s_forget hm 
  obtain ⟨e, hF⟩ := h2.fin
  refine j_aload_n dL_law_639 rfl ?_
  refine j_cV0r dL_law_640 (t_forget hs) tw_549 my_X6_forget mi_X6_forget (o_0 hs) rfl (by omega) (Nat.le_of_ble_eq_true rfl) (Nat.le_of_ble_eq_true rfl) ?_
  refine j_aload_n dL_law_643 rfl ?_
  refine j_cV0r dL_law_644 (r_forget hr) tw_878 my_X7_forget mi_X7_forget (o_165 hr) rfl (by omega) (Nat.le_of_ble_eq_true rfl) (Nat.le_of_ble_eq_true rfl) ?_
  exact j_icmp_eq (tgt := 820) dL_law_647 (by decide) (fun _ => K _ _ hF) (fun w => absurd e w)
set_option maxRecDepth 20000 in
theorem law_thick {G : jG} {Q : Option Value → jH → Prop} {κ : Nat → jK} {ρ : Nat → Nat → Option Nat} (hs : shC 181 κ ρ) (hr : shR 181 κ ρ) {μ : jMem} {ν : jNu} {i : Nat} (hi : i + 5 ≤ jsL G) (hL : jsL G ≤ 320) (hR : ∃ p x u q n tl, Rel p x u q n tl μ μ) (K : ∀ μ' ν', (∃ p x u q n tl, Rel p x u q n tl μ' μ') → J G RL cL_law 4 false 26 Q 0 0 (181, κ, ρ, μ', ν') 820 [some (.float 0), some (.ref 0), some (.ref 165), some (.int (nI i))] []) : J G RL cL_law 4 false 26 Q 0 0 (181, κ, ρ, μ, ν) 652 [some (.float 0), some (.ref 0), some (.ref 165), some (.int (nI i))] [] := by
  obtain ⟨p, x, u, q, n, tl, h⟩ := hR
  have hm := OKc.mid h (s_thick h (jsx G (i + 1)))
  have h2 := s_thick hm (jsx G (i + 1))
  obtain ⟨e, hF⟩ := h2.fin
  refine j_aload_n dL_law_652 rfl ?_
  refine j_aload_nF dL_law_653 rfl ?_
  refine j_iload_n dL_law_654 rfl ?_
  refine j_iconst (v := 1) dL_law_655 (by decide) ?_
  refine j_iadd dL_law_656 ?_
  refine j_topi (w := nI (i + 1)) (nI_add i 1) ?_
  refine j_sld (k := i + 1) dL_law_657 rfl (by omega) (by omega) ?_
  refine j_cV1r dL_law_658 (t_thick hs h.2.2.2.2.2.1.1 h.2.2.2.2.2.1.2.2.1) tw_553 my_X6_thick mi_X6_thick (o_0 hs) rfl (by omega) (Nat.le_of_ble_eq_true rfl) (Nat.le_of_ble_eq_true rfl) ?_
  refine j_aload_n dL_law_661 rfl ?_
  refine j_aload_nF dL_law_662 rfl ?_
  refine j_iload_n dL_law_663 rfl ?_
  refine j_iconst (v := 1) dL_law_664 (by decide) ?_
  refine j_iadd dL_law_665 ?_
  refine j_topi (w := nI (i + 1)) (nI_add i 1) ?_
  refine j_sld (k := i + 1) dL_law_666 rfl (by omega) (by omega) ?_
  refine j_cV1r dL_law_667 (r_thick hr hm.2.2.2.2.2.1.2.1 hm.2.2.2.2.2.1.2.2.1) tw_882 my_X7_thick mi_X7_thick (o_165 hr) rfl (by omega) (Nat.le_of_ble_eq_true rfl) (Nat.le_of_ble_eq_true rfl) ?_
  exact j_icmp_eq (tgt := 820) dL_law_670 (by decide) (fun _ => K _ _ hF) (fun w => absurd e w)
set_option maxRecDepth 20000 in
theorem law_fail {G : jG} {Q : Option Value → jH → Prop} {κ : Nat → jK} {ρ : Nat → Nat → Option Nat} (hs : shC 181 κ ρ) (hr : shR 181 κ ρ) {μ : jMem} {ν : jNu} {i : Nat} (hi : i + 5 ≤ jsL G) (hL : jsL G ≤ 320) (hR : ∃ p x u q n tl, Rel p x u q n tl μ μ) (K : ∀ μ' ν', (∃ p x u q n tl, Rel p x u q n tl μ' μ') → J G RL cL_law 4 false 26 Q 0 0 (181, κ, ρ, μ', ν') 820 [some (.float 0), some (.ref 0), some (.ref 165), some (.int (nI i))] []) : J G RL cL_law 4 false 26 Q 0 0 (181, κ, ρ, μ, ν) 675 [some (.float 0), some (.ref 0), some (.ref 165), some (.int (nI i))] [] := by
  obtain ⟨p, x, u, q, n, tl, h⟩ := hR
  obtain ⟨_, _, _, h1⟩ := s_fail h (jsx G (i + 1)) (jsx G (i + 2)) (jsx G (i + 3)) (jsx G (i + 4))
  have hm := OKc.mid h h1
  obtain ⟨zv, zm, zh, h2⟩ := s_fail hm (jsx G (i + 1)) (jsx G (i + 2)) (jsx G (i + 3)) (jsx G (i + 4))
  obtain ⟨e, hF⟩ := h2.fin
  refine j_aload_n dL_law_675 rfl ?_
  refine j_aload_nF dL_law_676 rfl ?_
  refine j_iload_n dL_law_677 rfl ?_
  refine j_iconst (v := 1) dL_law_678 (by decide) ?_
  refine j_iadd dL_law_679 ?_
  refine j_topi (w := nI (i + 1)) (nI_add i 1) ?_
  refine j_sld (k := i + 1) dL_law_680 rfl (by omega) (by omega) ?_
  refine j_aload_nF dL_law_681 rfl ?_
  refine j_iload_n dL_law_682 rfl ?_
  refine j_iconst (v := 2) dL_law_683 (by decide) ?_
  refine j_iadd dL_law_684 ?_
  refine j_topi (w := nI (i + 2)) (nI_add i 2) ?_
  refine j_sld (k := i + 2) dL_law_685 rfl (by omega) (by omega) ?_
  refine j_aload_nF dL_law_686 rfl ?_
  refine j_iload_n dL_law_687 rfl ?_
  refine j_iconst (v := 3) dL_law_688 (by decide) ?_
  refine j_iadd dL_law_689 ?_
  refine j_topi (w := nI (i + 3)) (nI_add i 3) ?_
  refine j_sld (k := i + 3) dL_law_690 rfl (by omega) (by omega) ?_
  refine j_aload_nF dL_law_691 rfl ?_
  refine j_iload_n dL_law_692 rfl ?_
  refine j_iconst (v := 4) dL_law_693 (by decide) ?_
  refine j_iadd dL_law_694 ?_
  refine j_topi (w := nI (i + 4)) (nI_add i 4) ?_
  refine j_sld (k := i + 4) dL_law_695 rfl (by omega) (by omega) ?_
  refine j_cV4r dL_law_696 (t_cfail hs h.1.cp h.1.p5) tw_562 my_X6_fail mi_X6_fail (o_0 hs) rfl (by omega) (Nat.le_of_ble_eq_true rfl) (Nat.le_of_ble_eq_true rfl) ?_
  refine j_aload_n dL_law_699 rfl ?_
  refine j_aload_nF dL_law_700 rfl ?_
  refine j_iload_n dL_law_701 rfl ?_
  refine j_iconst (v := 1) dL_law_702 (by decide) ?_
  refine j_iadd dL_law_703 ?_
  refine j_topi (w := nI (i + 1)) (nI_add i 1) ?_
  refine j_sld (k := i + 1) dL_law_704 rfl (by omega) (by omega) ?_
  refine j_aload_nF dL_law_705 rfl ?_
  refine j_iload_n dL_law_706 rfl ?_
  refine j_iconst (v := 2) dL_law_707 (by decide) ?_
  refine j_iadd dL_law_708 ?_
  refine j_topi (w := nI (i + 2)) (nI_add i 2) ?_
  refine j_sld (k := i + 2) dL_law_709 rfl (by omega) (by omega) ?_
  refine j_aload_nF dL_law_710 rfl ?_
  refine j_iload_n dL_law_711 rfl ?_
  refine j_iconst (v := 3) dL_law_712 (by decide) ?_
  refine j_iadd dL_law_713 ?_
  refine j_topi (w := nI (i + 3)) (nI_add i 3) ?_
  refine j_sld (k := i + 3) dL_law_714 rfl (by omega) (by omega) ?_
  refine j_aload_nF dL_law_715 rfl ?_
  refine j_iload_n dL_law_716 rfl ?_
  refine j_iconst (v := 4) dL_law_717 (by decide) ?_
  refine j_iadd dL_law_718 ?_
  refine j_topi (w := nI (i + 4)) (nI_add i 4) ?_
  refine j_sld (k := i + 4) dL_law_719 rfl (by omega) (by omega) ?_
  refine j_cV4r dL_law_720 (r_fail hr hm.1.mp hm.1.p5 zh) tw_890 my_X7_fail mi_X7_fail (o_165 hr) rfl (by omega) (Nat.le_of_ble_eq_true rfl) (Nat.le_of_ble_eq_true rfl) ?_
  exact j_icmp_eq (tgt := 820) dL_law_723 (by decide) (fun _ => K _ _ hF) (fun w => absurd e w)
set_option maxRecDepth 20000 in
theorem law_year {G : jG} {Q : Option Value → jH → Prop} {κ : Nat → jK} {ρ : Nat → Nat → Option Nat} (hs : shC 181 κ ρ) (hr : shR 181 κ ρ) {μ : jMem} {ν : jNu} {i : Nat} (hi : i + 5 ≤ jsL G) (hL : jsL G ≤ 320) (hR : ∃ p x u q n tl, Rel p x u q n tl μ μ) (K : ∀ μ' ν', (∃ p x u q n tl, Rel p x u q n tl μ' μ') → J G RL cL_law 4 false 26 Q 0 0 (181, κ, ρ, μ', ν') 820 [some (.float 0), some (.ref 0), some (.ref 165), some (.int (nI i))] []) : J G RL cL_law 4 false 26 Q 0 0 (181, κ, ρ, μ, ν) 728 [some (.float 0), some (.ref 0), some (.ref 165), some (.int (nI i))] [] := by
  obtain ⟨p, x, u, q, n, tl, h⟩ := hR
  obtain ⟨_, _, _, h1⟩ := s_year h (jsx G (i + 1)) (jsx G (i + 2)) (jsx G (i + 3))
  have hm := OKc.mid h h1
  obtain ⟨zv, zm, zh, h2⟩ := s_year hm (jsx G (i + 1)) (jsx G (i + 2)) (jsx G (i + 3))
  obtain ⟨e, hF⟩ := h2.fin
  refine j_aload_n dL_law_728 rfl ?_
  refine j_aload_nF dL_law_729 rfl ?_
  refine j_iload_n dL_law_730 rfl ?_
  refine j_iconst (v := 1) dL_law_731 (by decide) ?_
  refine j_iadd dL_law_732 ?_
  refine j_topi (w := nI (i + 1)) (nI_add i 1) ?_
  refine j_sld (k := i + 1) dL_law_733 rfl (by omega) (by omega) ?_
  refine j_aload_nF dL_law_734 rfl ?_
  refine j_iload_n dL_law_735 rfl ?_
  refine j_iconst (v := 2) dL_law_736 (by decide) ?_
  refine j_iadd dL_law_737 ?_
  refine j_topi (w := nI (i + 2)) (nI_add i 2) ?_
  refine j_sld (k := i + 2) dL_law_738 rfl (by omega) (by omega) ?_
  refine j_aload_nF dL_law_739 rfl ?_
  refine j_iload_n dL_law_740 rfl ?_
  refine j_iconst (v := 3) dL_law_741 (by decide) ?_
  refine j_iadd dL_law_742 ?_
  refine j_topi (w := nI (i + 3)) (nI_add i 3) ?_
  refine j_sld (k := i + 3) dL_law_743 rfl (by omega) (by omega) ?_
  refine j_cV3r dL_law_744 (t_year hs h.1.cp h.1.p5 h.1.p1) tw_572 my_X6_year mi_X6_year (o_0 hs) rfl (by omega) (Nat.le_of_ble_eq_true rfl) (Nat.le_of_ble_eq_true rfl) ?_
  refine j_aload_n dL_law_747 rfl ?_
  refine j_aload_nF dL_law_748 rfl ?_
  refine j_iload_n dL_law_749 rfl ?_
  refine j_iconst (v := 1) dL_law_750 (by decide) ?_
  refine j_iadd dL_law_751 ?_
  refine j_topi (w := nI (i + 1)) (nI_add i 1) ?_
  refine j_sld (k := i + 1) dL_law_752 rfl (by omega) (by omega) ?_
  refine j_aload_nF dL_law_753 rfl ?_
  refine j_iload_n dL_law_754 rfl ?_
  refine j_iconst (v := 2) dL_law_755 (by decide) ?_
  refine j_iadd dL_law_756 ?_
  refine j_topi (w := nI (i + 2)) (nI_add i 2) ?_
  refine j_sld (k := i + 2) dL_law_757 rfl (by omega) (by omega) ?_
  refine j_aload_nF dL_law_758 rfl ?_
  refine j_iload_n dL_law_759 rfl ?_
  refine j_iconst (v := 3) dL_law_760 (by decide) ?_
  refine j_iadd dL_law_761 ?_
  refine j_topi (w := nI (i + 3)) (nI_add i 3) ?_
  refine j_sld (k := i + 3) dL_law_762 rfl (by omega) (by omega) ?_
  refine j_cV3r dL_law_763 (r_year hr hm.1.mp hm.1.p5 hm.1.p1 zh) tw_895 my_X7_year mi_X7_year (o_165 hr) rfl (by omega) (Nat.le_of_ble_eq_true rfl) (Nat.le_of_ble_eq_true rfl) ?_
  exact j_icmp_eq (tgt := 820) dL_law_766 (by decide) (fun _ => K _ _ hF) (fun w => absurd e w)
set_option maxRecDepth 20000 in
theorem law_keep {G : jG} {Q : Option Value → jH → Prop} {κ : Nat → jK} {ρ : Nat → Nat → Option Nat} (hs : shC 181 κ ρ) (hr : shR 181 κ ρ) {μ : jMem} {ν : jNu} {i : Nat} (hi : i + 5 ≤ jsL G) (hL : jsL G ≤ 320) (hR : ∃ p x u q n tl, Rel p x u q n tl μ μ) (K : ∀ μ' ν', (∃ p x u q n tl, Rel p x u q n tl μ' μ') → J G RL cL_law 4 false 26 Q 0 0 (181, κ, ρ, μ', ν') 820 [some (.float 0), some (.ref 0), some (.ref 165), some (.int (nI i))] []) : J G RL cL_law 4 false 26 Q 0 0 (181, κ, ρ, μ, ν) 771 [some (.float 0), some (.ref 0), some (.ref 165), some (.int (nI i))] [] := by
  obtain ⟨p, x, u, q, n, tl, h⟩ := hR
  have hm := OKc.mid h (s_keep h )
  have h2 := s_keep hm 
  obtain ⟨e, hF⟩ := h2.fin
  refine j_aload_n dL_law_771 rfl ?_
  refine j_cV0r dL_law_772 (t_keep hs h.2.2.2.2.1.1 h.2.2.2.2.1.2.2.1) tw_587 my_X6_keep mi_X6_keep (o_0 hs) rfl (by omega) (Nat.le_of_ble_eq_true rfl) (Nat.le_of_ble_eq_true rfl) ?_
  refine j_aload_n dL_law_775 rfl ?_
  refine j_cV0r dL_law_776 (r_keep hr hm.2.2.2.2.1.2.1 hm.2.2.2.2.1.2.2.1) tw_908 my_X7_keep mi_X7_keep (o_165 hr) rfl (by omega) (Nat.le_of_ble_eq_true rfl) (Nat.le_of_ble_eq_true rfl) ?_
  exact j_icmp_eq (tgt := 820) dL_law_779 (by decide) (fun _ => K _ _ hF) (fun w => absurd e w)
set_option maxRecDepth 20000 in
theorem law_back {G : jG} {Q : Option Value → jH → Prop} {κ : Nat → jK} {ρ : Nat → Nat → Option Nat} (hs : shC 181 κ ρ) (hr : shR 181 κ ρ) {μ : jMem} {ν : jNu} {i : Nat} (hi : i + 5 ≤ jsL G) (hL : jsL G ≤ 320) (hR : ∃ p x u q n tl, Rel p x u q n tl μ μ) (K : ∀ μ' ν', (∃ p x u q n tl, Rel p x u q n tl μ' μ') → J G RL cL_law 4 false 26 Q 0 0 (181, κ, ρ, μ', ν') 820 [some (.float 0), some (.ref 0), some (.ref 165), some (.int (nI i))] []) : J G RL cL_law 4 false 26 Q 0 0 (181, κ, ρ, μ, ν) 784 [some (.float 0), some (.ref 0), some (.ref 165), some (.int (nI i))] [] := by
  obtain ⟨p, x, u, q, n, tl, h⟩ := hR
  have hm := OKc.mid h (s_back h )
  have h2 := s_back hm 
  obtain ⟨e, hF⟩ := h2.fin
  refine j_aload_n dL_law_784 rfl ?_
  refine j_cV0r dL_law_785 (t_back hs h.2.2.2.2.1.1 h.2.2.2.2.1.2.2.1) tw_591 my_X6_back mi_X6_back (o_0 hs) rfl (by omega) (Nat.le_of_ble_eq_true rfl) (Nat.le_of_ble_eq_true rfl) ?_
  refine j_aload_n dL_law_788 rfl ?_
  refine j_cV0r dL_law_789 (r_back hr hm.2.2.2.2.1.2.1 hm.2.2.2.2.1.2.2.1) tw_912 my_X7_back mi_X7_back (o_165 hr) rfl (by omega) (Nat.le_of_ble_eq_true rfl) (Nat.le_of_ble_eq_true rfl) ?_
  exact j_icmp_eq (tgt := 820) dL_law_792 (by decide) (fun _ => K _ _ hF) (fun w => absurd e w)
set_option maxRecDepth 20000 in
theorem law_count {G : jG} {Q : Option Value → jH → Prop} {κ : Nat → jK} {ρ : Nat → Nat → Option Nat} (hs : shC 181 κ ρ) (hr : shR 181 κ ρ) {μ : jMem} {ν : jNu} {i : Nat} (hi : i + 5 ≤ jsL G) (hL : jsL G ≤ 320) (hR : ∃ p x u q n tl, Rel p x u q n tl μ μ) (K : ∀ μ' ν', (∃ p x u q n tl, Rel p x u q n tl μ' μ') → J G RL cL_law 4 false 26 Q 0 0 (181, κ, ρ, μ', ν') 820 [some (.float 0), some (.ref 0), some (.ref 165), some (.int (nI i))] []) : J G RL cL_law 4 false 26 Q 0 0 (181, κ, ρ, μ, ν) 797 [some (.float 0), some (.ref 0), some (.ref 165), some (.int (nI i))] [] := by
  obtain ⟨p, x, u, q, n, tl, h⟩ := hR
  have hm := OKc.mid h (s_count h (jsx G (i + 1)))
  have h2 := s_count hm (jsx G (i + 1))
  obtain ⟨e, hF⟩ := h2.fin
  refine j_aload_n dL_law_797 rfl ?_
  refine j_aload_nF dL_law_798 rfl ?_
  refine j_iload_n dL_law_799 rfl ?_
  refine j_iconst (v := 1) dL_law_800 (by decide) ?_
  refine j_iadd dL_law_801 ?_
  refine j_topi (w := nI (i + 1)) (nI_add i 1) ?_
  refine j_sld (k := i + 1) dL_law_802 rfl (by omega) (by omega) ?_
  refine j_cV1r dL_law_803 (t_count hs h.1.cp h.1.p5) tw_595 my_X6_count mi_X6_count (o_0 hs) rfl (by omega) (Nat.le_of_ble_eq_true rfl) (Nat.le_of_ble_eq_true rfl) ?_
  refine j_aload_n dL_law_806 rfl ?_
  refine j_aload_nF dL_law_807 rfl ?_
  refine j_iload_n dL_law_808 rfl ?_
  refine j_iconst (v := 1) dL_law_809 (by decide) ?_
  refine j_iadd dL_law_810 ?_
  refine j_topi (w := nI (i + 1)) (nI_add i 1) ?_
  refine j_sld (k := i + 1) dL_law_811 rfl (by omega) (by omega) ?_
  refine j_cV1r dL_law_812 (r_count hr hm.1.mp hm.1.p5) tw_916 my_X7_count mi_X7_count (o_165 hr) rfl (by omega) (Nat.le_of_ble_eq_true rfl) (Nat.le_of_ble_eq_true rfl) ?_
  exact j_icmp_eq (tgt := 820) dL_law_815 (by decide) (fun _ => K _ _ hF) (fun w => absurd e w)
