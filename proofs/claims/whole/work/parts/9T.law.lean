/-! THE LAW: one turn of its loop -/
def sc (G : mG) (n : Nat) : Int := (G.2.2.2.2.2 n).toInt
theorem sc_in (G : mG) (n : Nat) : inR (sc G n) := by
  have h1 := Int32.le_toInt (G.2.2.2.2.2 n)
  have h2 := Int32.toInt_lt (G.2.2.2.2.2 n)
  unfold sc
  exact ⟨by omega, by omega⟩
section LAW
variable {l : Launch} {G : mG} {μ : mM} {d nf : Nat} {I : mI} {X : mX} {pc : Nat} {ls : List (Option mV)} {st : List mV} {Q : mQ}
theorem wp_scr {z : Int} (n : Nat) (hd : decode μ.2.1 pc = .ok (.iaload, 1)) (hz : z = (n : Int)) (hn : n < G.2.2.2.2.1) (h2 : n ≤ 100000) (k : WP l G μ d nf I X (pc + 1) ls (vI (sc G n) :: st) Q) : WP l G μ d nf I X pc ls (vI z :: vR 1000 :: st) Q := by
  subst hz
  refine wp_sld hd (by omega) (by omega) (by omega) ?_
  rw [Int.toNat_natCast]
  exact k
theorem wp_same {z off : Int} (tgt : Nat) (hd : decode μ.2.1 pc = .ok (.if_icmp .eq off, 3)) (ht : (pc : Int) + off = (tgt : Int)) (k : WP l G μ d nf I X tgt ls st Q) : WP l G μ d nf I X pc ls (vI z :: vI z :: st) Q := by
  intro p e R s m args below meth c H locs cells slots n0 cl hF hR hH hL
  exact lv_icmp_eq (x := Int32.ofInt z) (y := Int32.ofInt z) hF.1 hF.2.1 hd ht (fun _ => k p e R s m args below meth c H locs cells slots n0 cl hF hR hH hL) (fun q => absurd rfl q)
end LAW
abbrev lwL (i : Nat) : List (Option mV) := [some (vR 1000), some (vR 0), some (vR 111), some (vI (i : Int))]
theorem lw_c0 {l : Launch} {G : mG} {d i : Nat} {I : mI} {X : mX} {Q : mQ} (hd : 200 ≤ d) (hN : G.2.2.2.2.1 ≤ 3072) (hi : i + 6 ≤ G.2.2.2.2.1) (hI : INV I X) (hX : X.2.2 = 153) (hQ : ∀ K Y, Y.2.2 = 153 → INV K Y → WP l G m_L_law d 153 K Y 1194 (lwL i) [] Q) : WP l G m_L_law d 153 I X 184 (lwL i) [] Q := by
  refine wp_aload_n (pc := 184) 1 dL_law_184 rfl rfl ?_
  refine wp_aload_n (pc := 185) 0 dL_law_185 rfl rfl ?_
  refine wp_iload_n (pc := 186) 3 dL_law_186 rfl rfl ?_
  refine wp_iconst (pc := 187) dL_law_187 ?_
  refine wp_iadd (pc := 188) dL_law_188 ?_
  refine wp_scr (pc := 189) (i + 1) dL_law_189 (by omega) (by omega) (by omega) ?_
  refine wp_aload_n (pc := 190) 0 dL_law_190 rfl rfl ?_
  refine wp_iload_n (pc := 191) 3 dL_law_191 rfl rfl ?_
  refine wp_iconst (pc := 192) dL_law_192 ?_
  refine wp_iadd (pc := 193) dL_law_193 ?_
  refine wp_scr (pc := 194) (i + 2) dL_law_194 (by omega) (by omega) (by omega) ?_
  refine wp_aload_n (pc := 195) 0 dL_law_195 rfl rfl ?_
  refine wp_iload_n (pc := 196) 3 dL_law_196 rfl rfl ?_
  refine wp_iconst (pc := 197) dL_law_197 ?_
  refine wp_iadd (pc := 198) dL_law_198 ?_
  refine wp_scr (pc := 199) (i + 3) dL_law_199 (by omega) (by omega) (by omega) ?_
  refine wp_aload_n (pc := 200) 0 dL_law_200 rfl rfl ?_
  refine wp_iload_n (pc := 201) 3 dL_law_201 rfl rfl ?_
  refine wp_iconst (pc := 202) dL_law_202 ?_
  refine wp_iadd (pc := 203) dL_law_203 ?_
  refine wp_scr (pc := 204) (i + 4) dL_law_204 (by omega) (by omega) (by omega) ?_
  refine wp_aload_n (pc := 205) 0 dL_law_205 rfl rfl ?_
  refine wp_iload_n (pc := 206) 3 dL_law_206 rfl rfl ?_
  refine wp_iconst (pc := 207) dL_law_207 ?_
  refine wp_iadd (pc := 208) dL_law_208 ?_
  refine wp_scr (pc := 209) (i + 5) dL_law_209 (by omega) (by omega) (by omega) ?_
  refine wp_callV (pc := 210) (st := []) (nf' := 153) [vI (sc G (i + 1)), vI (sc G (i + 2)), vI (sc G (i + 3)), vI (sc G (i + 4)), vI (sc G (i + 5))] [some (vR 0), some (vI (sc G (i + 1))), some (vI (sc G (i + 2))), some (vI (sc G (i + 3))), some (vI (sc G (i + 4))), some (vI (sc G (i + 5)))] dL_law_210 rfl c_L_13 rfl kd_0 (by decide) rfl (by rw [hX]; decide) rfl (Nat.le_of_ble_eq_true rfl) rfl (Nat.le_of_ble_eq_true rfl) (by omega) (by rw [hX]; decide) (Nat.le_refl _) ?_
  refine wp_mono (bo_feed (by omega) hI (sc_in G _) (sc_in G _) (sc_in G _) (sc_in G _) (sc_in G _)) ?_
  rintro _ J Y ⟨z, rfl, hY, hW⟩
  refine wp_eqst (st' := [vI z]) rfl ?_
  refine wp_aload_n (pc := 213) 2 dL_law_213 rfl rfl ?_
  refine wp_aload_n (pc := 214) 0 dL_law_214 rfl rfl ?_
  refine wp_iload_n (pc := 215) 3 dL_law_215 rfl rfl ?_
  refine wp_iconst (pc := 216) dL_law_216 ?_
  refine wp_iadd (pc := 217) dL_law_217 ?_
  refine wp_scr (pc := 218) (i + 1) dL_law_218 (by omega) (by omega) (by omega) ?_
  refine wp_aload_n (pc := 219) 0 dL_law_219 rfl rfl ?_
  refine wp_iload_n (pc := 220) 3 dL_law_220 rfl rfl ?_
  refine wp_iconst (pc := 221) dL_law_221 ?_
  refine wp_iadd (pc := 222) dL_law_222 ?_
  refine wp_scr (pc := 223) (i + 2) dL_law_223 (by omega) (by omega) (by omega) ?_
  refine wp_aload_n (pc := 224) 0 dL_law_224 rfl rfl ?_
  refine wp_iload_n (pc := 225) 3 dL_law_225 rfl rfl ?_
  refine wp_iconst (pc := 226) dL_law_226 ?_
  refine wp_iadd (pc := 227) dL_law_227 ?_
  refine wp_scr (pc := 228) (i + 3) dL_law_228 (by omega) (by omega) (by omega) ?_
  refine wp_aload_n (pc := 229) 0 dL_law_229 rfl rfl ?_
  refine wp_iload_n (pc := 230) 3 dL_law_230 rfl rfl ?_
  refine wp_iconst (pc := 231) dL_law_231 ?_
  refine wp_iadd (pc := 232) dL_law_232 ?_
  refine wp_scr (pc := 233) (i + 4) dL_law_233 (by omega) (by omega) (by omega) ?_
  refine wp_aload_n (pc := 234) 0 dL_law_234 rfl rfl ?_
  refine wp_iload_n (pc := 235) 3 dL_law_235 rfl rfl ?_
  refine wp_iconst (pc := 236) dL_law_236 ?_
  refine wp_iadd (pc := 237) dL_law_237 ?_
  refine wp_scr (pc := 238) (i + 5) dL_law_238 (by omega) (by omega) (by omega) ?_
  refine wp_callV (pc := 239) (st := [vI z]) (nf' := 153) [vI (sc G (i + 1)), vI (sc G (i + 2)), vI (sc G (i + 3)), vI (sc G (i + 4)), vI (sc G (i + 5))] [some (vR 111), some (vI (sc G (i + 1))), some (vI (sc G (i + 2))), some (vI (sc G (i + 3))), some (vI (sc G (i + 4))), some (vI (sc G (i + 5)))] dL_law_239 rfl c_L_17 rfl kd_111 (by decide) rfl (by rw [hY]; decide) rfl (Nat.le_of_ble_eq_true rfl) rfl (Nat.le_of_ble_eq_true rfl) (by omega) (by rw [hY]; decide) (Nat.le_refl _) ?_
  refine wp_mono hW ?_
  rintro _ K Y2 ⟨rfl, hY2, hI2⟩
  refine wp_eqst (st' := [vI z, vI z]) rfl ?_
  refine wp_same (pc := 242) 1194 dL_law_242 (by decide) ?_
  exact hQ K Y2 hY2 hI2
theorem lw_c1 {l : Launch} {G : mG} {d i : Nat} {I : mI} {X : mX} {Q : mQ} (hd : 200 ≤ d) (hN : G.2.2.2.2.1 ≤ 3072) (hi : i + 6 ≤ G.2.2.2.2.1) (hI : INV I X) (hX : X.2.2 = 153) (hQ : ∀ K Y, Y.2.2 = 153 → INV K Y → WP l G m_L_law d 153 K Y 1194 (lwL i) [] Q) : WP l G m_L_law d 153 I X 247 (lwL i) [] Q := by
  refine wp_aload_n (pc := 247) 1 dL_law_247 rfl rfl ?_
  refine wp_aload_n (pc := 248) 0 dL_law_248 rfl rfl ?_
  refine wp_iload_n (pc := 249) 3 dL_law_249 rfl rfl ?_
  refine wp_iconst (pc := 250) dL_law_250 ?_
  refine wp_iadd (pc := 251) dL_law_251 ?_
  refine wp_scr (pc := 252) (i + 1) dL_law_252 (by omega) (by omega) (by omega) ?_
  refine wp_callV (pc := 253) (st := []) (nf' := 153) [vI (sc G (i + 1))] [some (vR 0), some (vI (sc G (i + 1)))] dL_law_253 rfl c_L_18 rfl kd_0 (by decide) rfl (by rw [hX]; decide) rfl (Nat.le_of_ble_eq_true rfl) rfl (Nat.le_of_ble_eq_true rfl) (by omega) (by rw [hX]; decide) (Nat.le_refl _) ?_
  refine wp_mono (bo_end (by omega) hI (sc_in G _)) ?_
  rintro _ J Y ⟨z, rfl, hY, hW⟩
  refine wp_eqst (st' := [vI z]) rfl ?_
  refine wp_aload_n (pc := 256) 2 dL_law_256 rfl rfl ?_
  refine wp_aload_n (pc := 257) 0 dL_law_257 rfl rfl ?_
  refine wp_iload_n (pc := 258) 3 dL_law_258 rfl rfl ?_
  refine wp_iconst (pc := 259) dL_law_259 ?_
  refine wp_iadd (pc := 260) dL_law_260 ?_
  refine wp_scr (pc := 261) (i + 1) dL_law_261 (by omega) (by omega) (by omega) ?_
  refine wp_callV (pc := 262) (st := [vI z]) (nf' := 153) [vI (sc G (i + 1))] [some (vR 111), some (vI (sc G (i + 1)))] dL_law_262 rfl c_L_22 rfl kd_111 (by decide) rfl (by rw [hY]; decide) rfl (Nat.le_of_ble_eq_true rfl) rfl (Nat.le_of_ble_eq_true rfl) (by omega) (by rw [hY]; decide) (Nat.le_refl _) ?_
  refine wp_mono hW ?_
  rintro _ K Y2 ⟨rfl, hY2, hI2⟩
  refine wp_eqst (st' := [vI z, vI z]) rfl ?_
  refine wp_same (pc := 265) 1194 dL_law_265 (by decide) ?_
  exact hQ K Y2 hY2 hI2
theorem lw_c2 {l : Launch} {G : mG} {d i : Nat} {I : mI} {X : mX} {Q : mQ} (hd : 200 ≤ d) (hN : G.2.2.2.2.1 ≤ 3072) (hi : i + 6 ≤ G.2.2.2.2.1) (hI : INV I X) (hX : X.2.2 = 153) (hQ : ∀ K Y, Y.2.2 = 153 → INV K Y → WP l G m_L_law d 153 K Y 1194 (lwL i) [] Q) : WP l G m_L_law d 153 I X 270 (lwL i) [] Q := by
  refine wp_aload_n (pc := 270) 1 dL_law_270 rfl rfl ?_
  refine wp_callV (pc := 271) (st := []) (nf' := 153) [] [some (vR 0), none, none] dL_law_271 rfl c_L_23 rfl kd_0 (by decide) rfl (by rw [hX]; decide) rfl (Nat.le_of_ble_eq_true rfl) rfl (Nat.le_of_ble_eq_true rfl) (by omega) (by rw [hX]; decide) (Nat.le_refl _) ?_
  refine wp_mono (bo_town (by omega) hI ) ?_
  rintro _ J Y ⟨z, rfl, hY, hW⟩
  refine wp_eqst (st' := [vI z]) rfl ?_
  refine wp_aload_n (pc := 274) 2 dL_law_274 rfl rfl ?_
  refine wp_callV (pc := 275) (st := [vI z]) (nf' := 153) [] [some (vR 111), none] dL_law_275 rfl c_L_27 rfl kd_111 (by decide) rfl (by rw [hY]; decide) rfl (Nat.le_of_ble_eq_true rfl) rfl (Nat.le_of_ble_eq_true rfl) (by omega) (by rw [hY]; decide) (Nat.le_refl _) ?_
  refine wp_mono hW ?_
  rintro _ K Y2 ⟨rfl, hY2, hI2⟩
  refine wp_eqst (st' := [vI z, vI z]) rfl ?_
  refine wp_same (pc := 278) 1194 dL_law_278 (by decide) ?_
  exact hQ K Y2 hY2 hI2
theorem lw_c3 {l : Launch} {G : mG} {d i : Nat} {I : mI} {X : mX} {Q : mQ} (hd : 200 ≤ d) (hN : G.2.2.2.2.1 ≤ 3072) (hi : i + 6 ≤ G.2.2.2.2.1) (hI : INV I X) (hX : X.2.2 = 153) (hQ : ∀ K Y, Y.2.2 = 153 → INV K Y → WP l G m_L_law d 153 K Y 1194 (lwL i) [] Q) : WP l G m_L_law d 153 I X 283 (lwL i) [] Q := by
  refine wp_aload_n (pc := 283) 1 dL_law_283 rfl rfl ?_
  refine wp_aload_n (pc := 284) 0 dL_law_284 rfl rfl ?_
  refine wp_iload_n (pc := 285) 3 dL_law_285 rfl rfl ?_
  refine wp_iconst (pc := 286) dL_law_286 ?_
  refine wp_iadd (pc := 287) dL_law_287 ?_
  refine wp_scr (pc := 288) (i + 1) dL_law_288 (by omega) (by omega) (by omega) ?_
  refine wp_callV (pc := 289) (st := []) (nf' := 153) [vI (sc G (i + 1))] [some (vR 0), some (vI (sc G (i + 1)))] dL_law_289 rfl c_L_28 rfl kd_0 (by decide) rfl (by rw [hX]; decide) rfl (Nat.le_of_ble_eq_true rfl) rfl (Nat.le_of_ble_eq_true rfl) (by omega) (by rw [hX]; decide) (Nat.le_refl _) ?_
  refine wp_mono (bo_fault (by omega) hI (sc_in G _)) ?_
  rintro _ J Y ⟨z, rfl, hY, hW⟩
  refine wp_eqst (st' := [vI z]) rfl ?_
  refine wp_aload_n (pc := 292) 2 dL_law_292 rfl rfl ?_
  refine wp_aload_n (pc := 293) 0 dL_law_293 rfl rfl ?_
  refine wp_iload_n (pc := 294) 3 dL_law_294 rfl rfl ?_
  refine wp_iconst (pc := 295) dL_law_295 ?_
  refine wp_iadd (pc := 296) dL_law_296 ?_
  refine wp_scr (pc := 297) (i + 1) dL_law_297 (by omega) (by omega) (by omega) ?_
  refine wp_callV (pc := 298) (st := [vI z]) (nf' := 153) [vI (sc G (i + 1))] [some (vR 111), some (vI (sc G (i + 1)))] dL_law_298 rfl c_L_31 rfl kd_111 (by decide) rfl (by rw [hY]; decide) rfl (Nat.le_of_ble_eq_true rfl) rfl (Nat.le_of_ble_eq_true rfl) (by omega) (by rw [hY]; decide) (Nat.le_refl _) ?_
  refine wp_mono hW ?_
  rintro _ K Y2 ⟨rfl, hY2, hI2⟩
  refine wp_eqst (st' := [vI z, vI z]) rfl ?_
  refine wp_same (pc := 301) 1194 dL_law_301 (by decide) ?_
  exact hQ K Y2 hY2 hI2
theorem lw_c4 {l : Launch} {G : mG} {d i : Nat} {I : mI} {X : mX} {Q : mQ} (hd : 200 ≤ d) (hN : G.2.2.2.2.1 ≤ 3072) (hi : i + 6 ≤ G.2.2.2.2.1) (hI : INV I X) (hX : X.2.2 = 153) (hQ : ∀ K Y, Y.2.2 = 153 → INV K Y → WP l G m_L_law d 153 K Y 1194 (lwL i) [] Q) : WP l G m_L_law d 153 I X 306 (lwL i) [] Q := by
  refine wp_aload_n (pc := 306) 1 dL_law_306 rfl rfl ?_
  refine wp_aload_n (pc := 307) 0 dL_law_307 rfl rfl ?_
  refine wp_iload_n (pc := 308) 3 dL_law_308 rfl rfl ?_
  refine wp_iconst (pc := 309) dL_law_309 ?_
  refine wp_iadd (pc := 310) dL_law_310 ?_
  refine wp_scr (pc := 311) (i + 1) dL_law_311 (by omega) (by omega) (by omega) ?_
  refine wp_aload_n (pc := 312) 0 dL_law_312 rfl rfl ?_
  refine wp_iload_n (pc := 313) 3 dL_law_313 rfl rfl ?_
  refine wp_iconst (pc := 314) dL_law_314 ?_
  refine wp_iadd (pc := 315) dL_law_315 ?_
  refine wp_scr (pc := 316) (i + 2) dL_law_316 (by omega) (by omega) (by omega) ?_
  refine wp_callV (pc := 317) (st := []) (nf' := 153) [vI (sc G (i + 1)), vI (sc G (i + 2))] [some (vR 0), some (vI (sc G (i + 1))), some (vI (sc G (i + 2)))] dL_law_317 rfl c_L_32 rfl kd_0 (by decide) rfl (by rw [hX]; decide) rfl (Nat.le_of_ble_eq_true rfl) rfl (Nat.le_of_ble_eq_true rfl) (by omega) (by rw [hX]; decide) (Nat.le_refl _) ?_
  refine wp_mono (bo_person (by omega) hI (sc_in G _) (sc_in G _)) ?_
  rintro _ J Y ⟨z, rfl, hY, hW⟩
  refine wp_eqst (st' := [vI z]) rfl ?_
  refine wp_aload_n (pc := 320) 2 dL_law_320 rfl rfl ?_
  refine wp_aload_n (pc := 321) 0 dL_law_321 rfl rfl ?_
  refine wp_iload_n (pc := 322) 3 dL_law_322 rfl rfl ?_
  refine wp_iconst (pc := 323) dL_law_323 ?_
  refine wp_iadd (pc := 324) dL_law_324 ?_
  refine wp_scr (pc := 325) (i + 1) dL_law_325 (by omega) (by omega) (by omega) ?_
  refine wp_aload_n (pc := 326) 0 dL_law_326 rfl rfl ?_
  refine wp_iload_n (pc := 327) 3 dL_law_327 rfl rfl ?_
  refine wp_iconst (pc := 328) dL_law_328 ?_
  refine wp_iadd (pc := 329) dL_law_329 ?_
  refine wp_scr (pc := 330) (i + 2) dL_law_330 (by omega) (by omega) (by omega) ?_
  refine wp_callV (pc := 331) (st := [vI z]) (nf' := 153) [vI (sc G (i + 1)), vI (sc G (i + 2))] [some (vR 111), some (vI (sc G (i + 1))), some (vI (sc G (i + 2)))] dL_law_331 rfl c_L_36 rfl kd_111 (by decide) rfl (by rw [hY]; decide) rfl (Nat.le_of_ble_eq_true rfl) rfl (Nat.le_of_ble_eq_true rfl) (by omega) (by rw [hY]; decide) (Nat.le_refl _) ?_
  refine wp_mono hW ?_
  rintro _ K Y2 ⟨rfl, hY2, hI2⟩
  refine wp_eqst (st' := [vI z, vI z]) rfl ?_
  refine wp_same (pc := 334) 1194 dL_law_334 (by decide) ?_
  exact hQ K Y2 hY2 hI2
theorem lw_c5 {l : Launch} {G : mG} {d i : Nat} {I : mI} {X : mX} {Q : mQ} (hd : 200 ≤ d) (hN : G.2.2.2.2.1 ≤ 3072) (hi : i + 6 ≤ G.2.2.2.2.1) (hI : INV I X) (hX : X.2.2 = 153) (hQ : ∀ K Y, Y.2.2 = 153 → INV K Y → WP l G m_L_law d 153 K Y 1194 (lwL i) [] Q) : WP l G m_L_law d 153 I X 339 (lwL i) [] Q := by
  refine wp_aload_n (pc := 339) 1 dL_law_339 rfl rfl ?_
  refine wp_aload_n (pc := 340) 0 dL_law_340 rfl rfl ?_
  refine wp_iload_n (pc := 341) 3 dL_law_341 rfl rfl ?_
  refine wp_iconst (pc := 342) dL_law_342 ?_
  refine wp_iadd (pc := 343) dL_law_343 ?_
  refine wp_scr (pc := 344) (i + 1) dL_law_344 (by omega) (by omega) (by omega) ?_
  refine wp_aload_n (pc := 345) 0 dL_law_345 rfl rfl ?_
  refine wp_iload_n (pc := 346) 3 dL_law_346 rfl rfl ?_
  refine wp_iconst (pc := 347) dL_law_347 ?_
  refine wp_iadd (pc := 348) dL_law_348 ?_
  refine wp_scr (pc := 349) (i + 2) dL_law_349 (by omega) (by omega) (by omega) ?_
  refine wp_callV (pc := 350) (st := []) (nf' := 153) [vI (sc G (i + 1)), vI (sc G (i + 2))] [some (vR 0), some (vI (sc G (i + 1))), some (vI (sc G (i + 2)))] dL_law_350 rfl c_L_37 rfl kd_0 (by decide) rfl (by rw [hX]; decide) rfl (Nat.le_of_ble_eq_true rfl) rfl (Nat.le_of_ble_eq_true rfl) (by omega) (by rw [hX]; decide) (Nat.le_refl _) ?_
  refine wp_mono (bo_pair (by omega) hI (sc_in G _) (sc_in G _)) ?_
  rintro _ J Y ⟨z, rfl, hY, hW⟩
  refine wp_eqst (st' := [vI z]) rfl ?_
  refine wp_aload_n (pc := 353) 2 dL_law_353 rfl rfl ?_
  refine wp_aload_n (pc := 354) 0 dL_law_354 rfl rfl ?_
  refine wp_iload_n (pc := 355) 3 dL_law_355 rfl rfl ?_
  refine wp_iconst (pc := 356) dL_law_356 ?_
  refine wp_iadd (pc := 357) dL_law_357 ?_
  refine wp_scr (pc := 358) (i + 1) dL_law_358 (by omega) (by omega) (by omega) ?_
  refine wp_aload_n (pc := 359) 0 dL_law_359 rfl rfl ?_
  refine wp_iload_n (pc := 360) 3 dL_law_360 rfl rfl ?_
  refine wp_iconst (pc := 361) dL_law_361 ?_
  refine wp_iadd (pc := 362) dL_law_362 ?_
  refine wp_scr (pc := 363) (i + 2) dL_law_363 (by omega) (by omega) (by omega) ?_
  refine wp_callV (pc := 364) (st := [vI z]) (nf' := 153) [vI (sc G (i + 1)), vI (sc G (i + 2))] [some (vR 111), some (vI (sc G (i + 1))), some (vI (sc G (i + 2)))] dL_law_364 rfl c_L_40 rfl kd_111 (by decide) rfl (by rw [hY]; decide) rfl (Nat.le_of_ble_eq_true rfl) rfl (Nat.le_of_ble_eq_true rfl) (by omega) (by rw [hY]; decide) (Nat.le_refl _) ?_
  refine wp_mono hW ?_
  rintro _ K Y2 ⟨rfl, hY2, hI2⟩
  refine wp_eqst (st' := [vI z, vI z]) rfl ?_
  refine wp_same (pc := 367) 1194 dL_law_367 (by decide) ?_
  exact hQ K Y2 hY2 hI2
theorem lw_c6 {l : Launch} {G : mG} {d i : Nat} {I : mI} {X : mX} {Q : mQ} (hd : 200 ≤ d) (hN : G.2.2.2.2.1 ≤ 3072) (hi : i + 6 ≤ G.2.2.2.2.1) (hI : INV I X) (hX : X.2.2 = 153) (hQ : ∀ K Y, Y.2.2 = 153 → INV K Y → WP l G m_L_law d 153 K Y 1194 (lwL i) [] Q) : WP l G m_L_law d 153 I X 372 (lwL i) [] Q := by
  refine wp_aload_n (pc := 372) 1 dL_law_372 rfl rfl ?_
  refine wp_aload_n (pc := 373) 0 dL_law_373 rfl rfl ?_
  refine wp_iload_n (pc := 374) 3 dL_law_374 rfl rfl ?_
  refine wp_iconst (pc := 375) dL_law_375 ?_
  refine wp_iadd (pc := 376) dL_law_376 ?_
  refine wp_scr (pc := 377) (i + 1) dL_law_377 (by omega) (by omega) (by omega) ?_
  refine wp_aload_n (pc := 378) 0 dL_law_378 rfl rfl ?_
  refine wp_iload_n (pc := 379) 3 dL_law_379 rfl rfl ?_
  refine wp_iconst (pc := 380) dL_law_380 ?_
  refine wp_iadd (pc := 381) dL_law_381 ?_
  refine wp_scr (pc := 382) (i + 2) dL_law_382 (by omega) (by omega) (by omega) ?_
  refine wp_callV (pc := 383) (st := []) (nf' := 153) [vI (sc G (i + 1)), vI (sc G (i + 2))] [some (vR 0), some (vI (sc G (i + 1))), some (vI (sc G (i + 2)))] dL_law_383 rfl c_L_41 rfl kd_0 (by decide) rfl (by rw [hX]; decide) rfl (Nat.le_of_ble_eq_true rfl) rfl (Nat.le_of_ble_eq_true rfl) (by omega) (by rw [hX]; decide) (Nat.le_refl _) ?_
  refine wp_mono (bo_degree (by omega) hI (sc_in G _) (sc_in G _)) ?_
  rintro _ J Y ⟨z, rfl, hY, hW⟩
  refine wp_eqst (st' := [vI z]) rfl ?_
  refine wp_aload_n (pc := 386) 2 dL_law_386 rfl rfl ?_
  refine wp_aload_n (pc := 387) 0 dL_law_387 rfl rfl ?_
  refine wp_iload_n (pc := 388) 3 dL_law_388 rfl rfl ?_
  refine wp_iconst (pc := 389) dL_law_389 ?_
  refine wp_iadd (pc := 390) dL_law_390 ?_
  refine wp_scr (pc := 391) (i + 1) dL_law_391 (by omega) (by omega) (by omega) ?_
  refine wp_aload_n (pc := 392) 0 dL_law_392 rfl rfl ?_
  refine wp_iload_n (pc := 393) 3 dL_law_393 rfl rfl ?_
  refine wp_iconst (pc := 394) dL_law_394 ?_
  refine wp_iadd (pc := 395) dL_law_395 ?_
  refine wp_scr (pc := 396) (i + 2) dL_law_396 (by omega) (by omega) (by omega) ?_
  refine wp_callV (pc := 397) (st := [vI z]) (nf' := 153) [vI (sc G (i + 1)), vI (sc G (i + 2))] [some (vR 111), some (vI (sc G (i + 1))), some (vI (sc G (i + 2)))] dL_law_397 rfl c_L_44 rfl kd_111 (by decide) rfl (by rw [hY]; decide) rfl (Nat.le_of_ble_eq_true rfl) rfl (Nat.le_of_ble_eq_true rfl) (by omega) (by rw [hY]; decide) (Nat.le_refl _) ?_
  refine wp_mono hW ?_
  rintro _ K Y2 ⟨rfl, hY2, hI2⟩
  refine wp_eqst (st' := [vI z, vI z]) rfl ?_
  refine wp_same (pc := 400) 1194 dL_law_400 (by decide) ?_
  exact hQ K Y2 hY2 hI2
theorem lw_c7 {l : Launch} {G : mG} {d i : Nat} {I : mI} {X : mX} {Q : mQ} (hd : 200 ≤ d) (hN : G.2.2.2.2.1 ≤ 3072) (hi : i + 6 ≤ G.2.2.2.2.1) (hI : INV I X) (hX : X.2.2 = 153) (hQ : ∀ K Y, Y.2.2 = 153 → INV K Y → WP l G m_L_law d 153 K Y 1194 (lwL i) [] Q) : WP l G m_L_law d 153 I X 405 (lwL i) [] Q := by
  refine wp_aload_n (pc := 405) 1 dL_law_405 rfl rfl ?_
  refine wp_aload_n (pc := 406) 0 dL_law_406 rfl rfl ?_
  refine wp_iload_n (pc := 407) 3 dL_law_407 rfl rfl ?_
  refine wp_iconst (pc := 408) dL_law_408 ?_
  refine wp_iadd (pc := 409) dL_law_409 ?_
  refine wp_scr (pc := 410) (i + 1) dL_law_410 (by omega) (by omega) (by omega) ?_
  refine wp_callV (pc := 411) (st := []) (nf' := 153) [vI (sc G (i + 1))] [some (vR 0), some (vI (sc G (i + 1)))] dL_law_411 rfl c_L_45 rfl kd_0 (by decide) rfl (by rw [hX]; decide) rfl (Nat.le_of_ble_eq_true rfl) rfl (Nat.le_of_ble_eq_true rfl) (by omega) (by rw [hX]; decide) (Nat.le_refl _) ?_
  refine wp_mono (bo_ancestors (by omega) hI (sc_in G _)) ?_
  rintro _ J Y ⟨z, rfl, hY, hW⟩
  refine wp_eqst (st' := [vI z]) rfl ?_
  refine wp_aload_n (pc := 414) 2 dL_law_414 rfl rfl ?_
  refine wp_aload_n (pc := 415) 0 dL_law_415 rfl rfl ?_
  refine wp_iload_n (pc := 416) 3 dL_law_416 rfl rfl ?_
  refine wp_iconst (pc := 417) dL_law_417 ?_
  refine wp_iadd (pc := 418) dL_law_418 ?_
  refine wp_scr (pc := 419) (i + 1) dL_law_419 (by omega) (by omega) (by omega) ?_
  refine wp_callV (pc := 420) (st := [vI z]) (nf' := 153) [vI (sc G (i + 1))] [some (vR 111), some (vI (sc G (i + 1))), none, none] dL_law_420 rfl c_L_48 rfl kd_111 (by decide) rfl (by rw [hY]; decide) rfl (Nat.le_of_ble_eq_true rfl) rfl (Nat.le_of_ble_eq_true rfl) (by omega) (by rw [hY]; decide) (Nat.le_refl _) ?_
  refine wp_mono hW ?_
  rintro _ K Y2 ⟨rfl, hY2, hI2⟩
  refine wp_eqst (st' := [vI z, vI z]) rfl ?_
  refine wp_same (pc := 423) 1194 dL_law_423 (by decide) ?_
  exact hQ K Y2 hY2 hI2
theorem lw_c8 {l : Launch} {G : mG} {d i : Nat} {I : mI} {X : mX} {Q : mQ} (hd : 200 ≤ d) (hN : G.2.2.2.2.1 ≤ 3072) (hi : i + 6 ≤ G.2.2.2.2.1) (hI : INV I X) (hX : X.2.2 = 153) (hQ : ∀ K Y, Y.2.2 = 153 → INV K Y → WP l G m_L_law d 153 K Y 1194 (lwL i) [] Q) : WP l G m_L_law d 153 I X 428 (lwL i) [] Q := by
  refine wp_aload_n (pc := 428) 1 dL_law_428 rfl rfl ?_
  refine wp_aload_n (pc := 429) 0 dL_law_429 rfl rfl ?_
  refine wp_iload_n (pc := 430) 3 dL_law_430 rfl rfl ?_
  refine wp_iconst (pc := 431) dL_law_431 ?_
  refine wp_iadd (pc := 432) dL_law_432 ?_
  refine wp_scr (pc := 433) (i + 1) dL_law_433 (by omega) (by omega) (by omega) ?_
  refine wp_callV (pc := 434) (st := []) (nf' := 153) [vI (sc G (i + 1))] [some (vR 0), some (vI (sc G (i + 1)))] dL_law_434 rfl c_L_49 rfl kd_0 (by decide) rfl (by rw [hX]; decide) rfl (Nat.le_of_ble_eq_true rfl) rfl (Nat.le_of_ble_eq_true rfl) (by omega) (by rw [hX]; decide) (Nat.le_refl _) ?_
  refine wp_mono (bo_hearing (by omega) hI (sc_in G _)) ?_
  rintro _ J Y ⟨z, rfl, hY, hW⟩
  refine wp_eqst (st' := [vI z]) rfl ?_
  refine wp_aload_n (pc := 437) 2 dL_law_437 rfl rfl ?_
  refine wp_aload_n (pc := 438) 0 dL_law_438 rfl rfl ?_
  refine wp_iload_n (pc := 439) 3 dL_law_439 rfl rfl ?_
  refine wp_iconst (pc := 440) dL_law_440 ?_
  refine wp_iadd (pc := 441) dL_law_441 ?_
  refine wp_scr (pc := 442) (i + 1) dL_law_442 (by omega) (by omega) (by omega) ?_
  refine wp_callV (pc := 443) (st := [vI z]) (nf' := 153) [vI (sc G (i + 1))] [some (vR 111), some (vI (sc G (i + 1)))] dL_law_443 rfl c_L_52 rfl kd_111 (by decide) rfl (by rw [hY]; decide) rfl (Nat.le_of_ble_eq_true rfl) rfl (Nat.le_of_ble_eq_true rfl) (by omega) (by rw [hY]; decide) (Nat.le_refl _) ?_
  refine wp_mono hW ?_
  rintro _ K Y2 ⟨rfl, hY2, hI2⟩
  refine wp_eqst (st' := [vI z, vI z]) rfl ?_
  refine wp_same (pc := 446) 1194 dL_law_446 (by decide) ?_
  exact hQ K Y2 hY2 hI2
theorem lw_c9 {l : Launch} {G : mG} {d i : Nat} {I : mI} {X : mX} {Q : mQ} (hd : 200 ≤ d) (hN : G.2.2.2.2.1 ≤ 3072) (hi : i + 6 ≤ G.2.2.2.2.1) (hI : INV I X) (hX : X.2.2 = 153) (hQ : ∀ K Y, Y.2.2 = 153 → INV K Y → WP l G m_L_law d 153 K Y 1194 (lwL i) [] Q) : WP l G m_L_law d 153 I X 451 (lwL i) [] Q := by
  refine wp_aload_n (pc := 451) 1 dL_law_451 rfl rfl ?_
  refine wp_aload_n (pc := 452) 0 dL_law_452 rfl rfl ?_
  refine wp_iload_n (pc := 453) 3 dL_law_453 rfl rfl ?_
  refine wp_iconst (pc := 454) dL_law_454 ?_
  refine wp_iadd (pc := 455) dL_law_455 ?_
  refine wp_scr (pc := 456) (i + 1) dL_law_456 (by omega) (by omega) (by omega) ?_
  refine wp_aload_n (pc := 457) 0 dL_law_457 rfl rfl ?_
  refine wp_iload_n (pc := 458) 3 dL_law_458 rfl rfl ?_
  refine wp_iconst (pc := 459) dL_law_459 ?_
  refine wp_iadd (pc := 460) dL_law_460 ?_
  refine wp_scr (pc := 461) (i + 2) dL_law_461 (by omega) (by omega) (by omega) ?_
  refine wp_callV (pc := 462) (st := []) (nf' := 153) [vI (sc G (i + 1)), vI (sc G (i + 2))] [some (vR 0), some (vI (sc G (i + 1))), some (vI (sc G (i + 2)))] dL_law_462 rfl c_L_53 rfl kd_0 (by decide) rfl (by rw [hX]; decide) rfl (Nat.le_of_ble_eq_true rfl) rfl (Nat.le_of_ble_eq_true rfl) (by omega) (by rw [hX]; decide) (Nat.le_refl _) ?_
  refine wp_mono (bo_church (by omega) hI (sc_in G _) (sc_in G _)) ?_
  rintro _ J Y ⟨z, rfl, hY, hW⟩
  refine wp_eqst (st' := [vI z]) rfl ?_
  refine wp_aload_n (pc := 465) 2 dL_law_465 rfl rfl ?_
  refine wp_aload_n (pc := 466) 0 dL_law_466 rfl rfl ?_
  refine wp_iload_n (pc := 467) 3 dL_law_467 rfl rfl ?_
  refine wp_iconst (pc := 468) dL_law_468 ?_
  refine wp_iadd (pc := 469) dL_law_469 ?_
  refine wp_scr (pc := 470) (i + 1) dL_law_470 (by omega) (by omega) (by omega) ?_
  refine wp_aload_n (pc := 471) 0 dL_law_471 rfl rfl ?_
  refine wp_iload_n (pc := 472) 3 dL_law_472 rfl rfl ?_
  refine wp_iconst (pc := 473) dL_law_473 ?_
  refine wp_iadd (pc := 474) dL_law_474 ?_
  refine wp_scr (pc := 475) (i + 2) dL_law_475 (by omega) (by omega) (by omega) ?_
  refine wp_callV (pc := 476) (st := [vI z]) (nf' := 153) [vI (sc G (i + 1)), vI (sc G (i + 2))] [some (vR 111), some (vI (sc G (i + 1))), some (vI (sc G (i + 2))), none, none] dL_law_476 rfl c_L_56 rfl kd_111 (by decide) rfl (by rw [hY]; decide) rfl (Nat.le_of_ble_eq_true rfl) rfl (Nat.le_of_ble_eq_true rfl) (by omega) (by rw [hY]; decide) (Nat.le_refl _) ?_
  refine wp_mono hW ?_
  rintro _ K Y2 ⟨rfl, hY2, hI2⟩
  refine wp_eqst (st' := [vI z, vI z]) rfl ?_
  refine wp_same (pc := 479) 1194 dL_law_479 (by decide) ?_
  exact hQ K Y2 hY2 hI2
theorem lw_c10 {l : Launch} {G : mG} {d i : Nat} {I : mI} {X : mX} {Q : mQ} (hd : 200 ≤ d) (hN : G.2.2.2.2.1 ≤ 3072) (hi : i + 6 ≤ G.2.2.2.2.1) (hI : INV I X) (hX : X.2.2 = 153) (hQ : ∀ K Y, Y.2.2 = 153 → INV K Y → WP l G m_L_law d 153 K Y 1194 (lwL i) [] Q) : WP l G m_L_law d 153 I X 484 (lwL i) [] Q := by
  refine wp_aload_n (pc := 484) 1 dL_law_484 rfl rfl ?_
  refine wp_aload_n (pc := 485) 0 dL_law_485 rfl rfl ?_
  refine wp_iload_n (pc := 486) 3 dL_law_486 rfl rfl ?_
  refine wp_iconst (pc := 487) dL_law_487 ?_
  refine wp_iadd (pc := 488) dL_law_488 ?_
  refine wp_scr (pc := 489) (i + 1) dL_law_489 (by omega) (by omega) (by omega) ?_
  refine wp_aload_n (pc := 490) 0 dL_law_490 rfl rfl ?_
  refine wp_iload_n (pc := 491) 3 dL_law_491 rfl rfl ?_
  refine wp_iconst (pc := 492) dL_law_492 ?_
  refine wp_iadd (pc := 493) dL_law_493 ?_
  refine wp_scr (pc := 494) (i + 2) dL_law_494 (by omega) (by omega) (by omega) ?_
  refine wp_callV (pc := 495) (st := []) (nf' := 153) [vI (sc G (i + 1)), vI (sc G (i + 2))] [some (vR 0), some (vI (sc G (i + 1))), some (vI (sc G (i + 2))), none] dL_law_495 rfl c_L_57 rfl kd_0 (by decide) rfl (by rw [hX]; decide) rfl (Nat.le_of_ble_eq_true rfl) rfl (Nat.le_of_ble_eq_true rfl) (by omega) (by rw [hX]; decide) (Nat.le_refl _) ?_
  refine wp_mono (bo_sit (by omega) hI (sc_in G _) (sc_in G _)) ?_
  rintro _ J Y ⟨z, rfl, hY, hW⟩
  refine wp_eqst (st' := [vI z]) rfl ?_
  refine wp_aload_n (pc := 498) 2 dL_law_498 rfl rfl ?_
  refine wp_aload_n (pc := 499) 0 dL_law_499 rfl rfl ?_
  refine wp_iload_n (pc := 500) 3 dL_law_500 rfl rfl ?_
  refine wp_iconst (pc := 501) dL_law_501 ?_
  refine wp_iadd (pc := 502) dL_law_502 ?_
  refine wp_scr (pc := 503) (i + 1) dL_law_503 (by omega) (by omega) (by omega) ?_
  refine wp_aload_n (pc := 504) 0 dL_law_504 rfl rfl ?_
  refine wp_iload_n (pc := 505) 3 dL_law_505 rfl rfl ?_
  refine wp_iconst (pc := 506) dL_law_506 ?_
  refine wp_iadd (pc := 507) dL_law_507 ?_
  refine wp_scr (pc := 508) (i + 2) dL_law_508 (by omega) (by omega) (by omega) ?_
  refine wp_callV (pc := 509) (st := [vI z]) (nf' := 153) [vI (sc G (i + 1)), vI (sc G (i + 2))] [some (vR 111), some (vI (sc G (i + 1))), some (vI (sc G (i + 2))), none] dL_law_509 rfl c_L_60 rfl kd_111 (by decide) rfl (by rw [hY]; decide) rfl (Nat.le_of_ble_eq_true rfl) rfl (Nat.le_of_ble_eq_true rfl) (by omega) (by rw [hY]; decide) (Nat.le_refl _) ?_
  refine wp_mono hW ?_
  rintro _ K Y2 ⟨rfl, hY2, hI2⟩
  refine wp_eqst (st' := [vI z, vI z]) rfl ?_
  refine wp_same (pc := 512) 1194 dL_law_512 (by decide) ?_
  exact hQ K Y2 hY2 hI2
theorem lw_c11 {l : Launch} {G : mG} {d i : Nat} {I : mI} {X : mX} {Q : mQ} (hd : 200 ≤ d) (hN : G.2.2.2.2.1 ≤ 3072) (hi : i + 6 ≤ G.2.2.2.2.1) (hI : INV I X) (hX : X.2.2 = 153) (hQ : ∀ K Y, Y.2.2 = 153 → INV K Y → WP l G m_L_law d 153 K Y 1194 (lwL i) [] Q) : WP l G m_L_law d 153 I X 517 (lwL i) [] Q := by
  refine wp_aload_n (pc := 517) 1 dL_law_517 rfl rfl ?_
  refine wp_aload_n (pc := 518) 0 dL_law_518 rfl rfl ?_
  refine wp_iload_n (pc := 519) 3 dL_law_519 rfl rfl ?_
  refine wp_iconst (pc := 520) dL_law_520 ?_
  refine wp_iadd (pc := 521) dL_law_521 ?_
  refine wp_scr (pc := 522) (i + 1) dL_law_522 (by omega) (by omega) (by omega) ?_
  refine wp_aload_n (pc := 523) 0 dL_law_523 rfl rfl ?_
  refine wp_iload_n (pc := 524) 3 dL_law_524 rfl rfl ?_
  refine wp_iconst (pc := 525) dL_law_525 ?_
  refine wp_iadd (pc := 526) dL_law_526 ?_
  refine wp_scr (pc := 527) (i + 2) dL_law_527 (by omega) (by omega) (by omega) ?_
  refine wp_aload_n (pc := 528) 0 dL_law_528 rfl rfl ?_
  refine wp_iload_n (pc := 529) 3 dL_law_529 rfl rfl ?_
  refine wp_iconst (pc := 530) dL_law_530 ?_
  refine wp_iadd (pc := 531) dL_law_531 ?_
  refine wp_scr (pc := 532) (i + 3) dL_law_532 (by omega) (by omega) (by omega) ?_
  refine wp_callV (pc := 533) (st := []) (nf' := 153) [vI (sc G (i + 1)), vI (sc G (i + 2)), vI (sc G (i + 3))] [some (vR 0), some (vI (sc G (i + 1))), some (vI (sc G (i + 2))), some (vI (sc G (i + 3)))] dL_law_533 rfl c_L_61 rfl kd_0 (by decide) rfl (by rw [hX]; decide) rfl (Nat.le_of_ble_eq_true rfl) rfl (Nat.le_of_ble_eq_true rfl) (by omega) (by rw [hX]; decide) (Nat.le_refl _) ?_
  refine wp_mono (bo_move (by omega) hI (sc_in G _) (sc_in G _) (sc_in G _)) ?_
  rintro _ J Y ⟨z, rfl, hY, hW⟩
  refine wp_eqst (st' := [vI z]) rfl ?_
  refine wp_aload_n (pc := 536) 2 dL_law_536 rfl rfl ?_
  refine wp_aload_n (pc := 537) 0 dL_law_537 rfl rfl ?_
  refine wp_iload_n (pc := 538) 3 dL_law_538 rfl rfl ?_
  refine wp_iconst (pc := 539) dL_law_539 ?_
  refine wp_iadd (pc := 540) dL_law_540 ?_
  refine wp_scr (pc := 541) (i + 1) dL_law_541 (by omega) (by omega) (by omega) ?_
  refine wp_aload_n (pc := 542) 0 dL_law_542 rfl rfl ?_
  refine wp_iload_n (pc := 543) 3 dL_law_543 rfl rfl ?_
  refine wp_iconst (pc := 544) dL_law_544 ?_
  refine wp_iadd (pc := 545) dL_law_545 ?_
  refine wp_scr (pc := 546) (i + 2) dL_law_546 (by omega) (by omega) (by omega) ?_
  refine wp_aload_n (pc := 547) 0 dL_law_547 rfl rfl ?_
  refine wp_iload_n (pc := 548) 3 dL_law_548 rfl rfl ?_
  refine wp_iconst (pc := 549) dL_law_549 ?_
  refine wp_iadd (pc := 550) dL_law_550 ?_
  refine wp_scr (pc := 551) (i + 3) dL_law_551 (by omega) (by omega) (by omega) ?_
  refine wp_callV (pc := 552) (st := [vI z]) (nf' := 153) [vI (sc G (i + 1)), vI (sc G (i + 2)), vI (sc G (i + 3))] [some (vR 111), some (vI (sc G (i + 1))), some (vI (sc G (i + 2))), some (vI (sc G (i + 3)))] dL_law_552 rfl c_L_65 rfl kd_111 (by decide) rfl (by rw [hY]; decide) rfl (Nat.le_of_ble_eq_true rfl) rfl (Nat.le_of_ble_eq_true rfl) (by omega) (by rw [hY]; decide) (Nat.le_refl _) ?_
  refine wp_mono hW ?_
  rintro _ K Y2 ⟨rfl, hY2, hI2⟩
  refine wp_eqst (st' := [vI z, vI z]) rfl ?_
  refine wp_same (pc := 555) 1194 dL_law_555 (by decide) ?_
  exact hQ K Y2 hY2 hI2
theorem lw_c12 {l : Launch} {G : mG} {d i : Nat} {I : mI} {X : mX} {Q : mQ} (hd : 200 ≤ d) (hN : G.2.2.2.2.1 ≤ 3072) (hi : i + 6 ≤ G.2.2.2.2.1) (hI : INV I X) (hX : X.2.2 = 153) (hQ : ∀ K Y, Y.2.2 = 153 → INV K Y → WP l G m_L_law d 153 K Y 1194 (lwL i) [] Q) : WP l G m_L_law d 153 I X 560 (lwL i) [] Q := by
  refine wp_aload_n (pc := 560) 1 dL_law_560 rfl rfl ?_
  refine wp_aload_n (pc := 561) 0 dL_law_561 rfl rfl ?_
  refine wp_iload_n (pc := 562) 3 dL_law_562 rfl rfl ?_
  refine wp_iconst (pc := 563) dL_law_563 ?_
  refine wp_iadd (pc := 564) dL_law_564 ?_
  refine wp_scr (pc := 565) (i + 1) dL_law_565 (by omega) (by omega) (by omega) ?_
  refine wp_callV (pc := 566) (st := []) (nf' := 153) [vI (sc G (i + 1))] [some (vR 0), some (vI (sc G (i + 1)))] dL_law_566 rfl c_L_66 rfl kd_0 (by decide) rfl (by rw [hX]; decide) rfl (Nat.le_of_ble_eq_true rfl) rfl (Nat.le_of_ble_eq_true rfl) (by omega) (by rw [hX]; decide) (Nat.le_refl _) ?_
  refine wp_mono (bo_licence (by omega) hI (sc_in G _)) ?_
  rintro _ J Y ⟨z, rfl, hY, hW⟩
  refine wp_eqst (st' := [vI z]) rfl ?_
  refine wp_aload_n (pc := 569) 2 dL_law_569 rfl rfl ?_
  refine wp_aload_n (pc := 570) 0 dL_law_570 rfl rfl ?_
  refine wp_iload_n (pc := 571) 3 dL_law_571 rfl rfl ?_
  refine wp_iconst (pc := 572) dL_law_572 ?_
  refine wp_iadd (pc := 573) dL_law_573 ?_
  refine wp_scr (pc := 574) (i + 1) dL_law_574 (by omega) (by omega) (by omega) ?_
  refine wp_callV (pc := 575) (st := [vI z]) (nf' := 153) [vI (sc G (i + 1))] [some (vR 111), some (vI (sc G (i + 1)))] dL_law_575 rfl c_L_70 rfl kd_111 (by decide) rfl (by rw [hY]; decide) rfl (Nat.le_of_ble_eq_true rfl) rfl (Nat.le_of_ble_eq_true rfl) (by omega) (by rw [hY]; decide) (Nat.le_refl _) ?_
  refine wp_mono hW ?_
  rintro _ K Y2 ⟨rfl, hY2, hI2⟩
  refine wp_eqst (st' := [vI z, vI z]) rfl ?_
  refine wp_same (pc := 578) 1194 dL_law_578 (by decide) ?_
  exact hQ K Y2 hY2 hI2
theorem lw_c13 {l : Launch} {G : mG} {d i : Nat} {I : mI} {X : mX} {Q : mQ} (hd : 200 ≤ d) (hN : G.2.2.2.2.1 ≤ 3072) (hi : i + 6 ≤ G.2.2.2.2.1) (hI : INV I X) (hX : X.2.2 = 153) (hQ : ∀ K Y, Y.2.2 = 153 → INV K Y → WP l G m_L_law d 153 K Y 1194 (lwL i) [] Q) : WP l G m_L_law d 153 I X 583 (lwL i) [] Q := by
  refine wp_aload_n (pc := 583) 1 dL_law_583 rfl rfl ?_
  refine wp_callV (pc := 584) (st := []) (nf' := 153) [] [some (vR 0), none] dL_law_584 rfl c_L_71 rfl kd_0 (by decide) rfl (by rw [hX]; decide) rfl (Nat.le_of_ble_eq_true rfl) rfl (Nat.le_of_ble_eq_true rfl) (by omega) (by rw [hX]; decide) (Nat.le_refl _) ?_
  refine wp_mono (bo_sunday (by omega) hI ) ?_
  rintro _ J Y ⟨z, rfl, hY, hW⟩
  refine wp_eqst (st' := [vI z]) rfl ?_
  refine wp_aload_n (pc := 587) 2 dL_law_587 rfl rfl ?_
  refine wp_callV (pc := 588) (st := [vI z]) (nf' := 153) [] [some (vR 111), none, none] dL_law_588 rfl c_L_74 rfl kd_111 (by decide) rfl (by rw [hY]; decide) rfl (Nat.le_of_ble_eq_true rfl) rfl (Nat.le_of_ble_eq_true rfl) (by omega) (by rw [hY]; decide) (Nat.le_refl _) ?_
  refine wp_mono hW ?_
  rintro _ K Y2 ⟨rfl, hY2, hI2⟩
  refine wp_eqst (st' := [vI z, vI z]) rfl ?_
  refine wp_same (pc := 591) 1194 dL_law_591 (by decide) ?_
  exact hQ K Y2 hY2 hI2
theorem lw_c14 {l : Launch} {G : mG} {d i : Nat} {I : mI} {X : mX} {Q : mQ} (hd : 200 ≤ d) (hN : G.2.2.2.2.1 ≤ 3072) (hi : i + 6 ≤ G.2.2.2.2.1) (hI : INV I X) (hX : X.2.2 = 153) (hQ : ∀ K Y, Y.2.2 = 153 → INV K Y → WP l G m_L_law d 153 K Y 1194 (lwL i) [] Q) : WP l G m_L_law d 153 I X 596 (lwL i) [] Q := by
  refine wp_aload_n (pc := 596) 1 dL_law_596 rfl rfl ?_
  refine wp_callV (pc := 597) (st := []) (nf' := 153) [] [some (vR 0)] dL_law_597 rfl c_L_75 rfl kd_0 (by decide) rfl (by rw [hX]; decide) rfl (Nat.le_of_ble_eq_true rfl) rfl (Nat.le_of_ble_eq_true rfl) (by omega) (by rw [hX]; decide) (Nat.le_refl _) ?_
  refine wp_mono (bo_undo (by omega) hI ) ?_
  rintro _ J Y ⟨z, rfl, hY, hW⟩
  refine wp_eqst (st' := [vI z]) rfl ?_
  refine wp_aload_n (pc := 600) 2 dL_law_600 rfl rfl ?_
  refine wp_callV (pc := 601) (st := [vI z]) (nf' := 153) [] [some (vR 111)] dL_law_601 rfl c_L_79 rfl kd_111 (by decide) rfl (by rw [hY]; decide) rfl (Nat.le_of_ble_eq_true rfl) rfl (Nat.le_of_ble_eq_true rfl) (by omega) (by rw [hY]; decide) (Nat.le_refl _) ?_
  refine wp_mono hW ?_
  rintro _ K Y2 ⟨rfl, hY2, hI2⟩
  refine wp_eqst (st' := [vI z, vI z]) rfl ?_
  refine wp_same (pc := 604) 1194 dL_law_604 (by decide) ?_
  exact hQ K Y2 hY2 hI2
theorem lw_c15 {l : Launch} {G : mG} {d i : Nat} {I : mI} {X : mX} {Q : mQ} (hd : 200 ≤ d) (hN : G.2.2.2.2.1 ≤ 3072) (hi : i + 6 ≤ G.2.2.2.2.1) (hI : INV I X) (hX : X.2.2 = 153) (hQ : ∀ K Y, Y.2.2 = 153 → INV K Y → WP l G m_L_law d 153 K Y 1194 (lwL i) [] Q) : WP l G m_L_law d 153 I X 609 (lwL i) [] Q := by
  refine wp_aload_n (pc := 609) 1 dL_law_609 rfl rfl ?_
  refine wp_callV (pc := 610) (st := []) (nf' := 153) [] [some (vR 0)] dL_law_610 rfl c_L_80 rfl kd_0 (by decide) rfl (by rw [hX]; decide) rfl (Nat.le_of_ble_eq_true rfl) rfl (Nat.le_of_ble_eq_true rfl) (by omega) (by rw [hX]; decide) (Nat.le_refl _) ?_
  refine wp_mono (bo_redo (by omega) hI ) ?_
  rintro _ J Y ⟨z, rfl, hY, hW⟩
  refine wp_eqst (st' := [vI z]) rfl ?_
  refine wp_aload_n (pc := 613) 2 dL_law_613 rfl rfl ?_
  refine wp_callV (pc := 614) (st := [vI z]) (nf' := 153) [] [some (vR 111)] dL_law_614 rfl c_L_83 rfl kd_111 (by decide) rfl (by rw [hY]; decide) rfl (Nat.le_of_ble_eq_true rfl) rfl (Nat.le_of_ble_eq_true rfl) (by omega) (by rw [hY]; decide) (Nat.le_refl _) ?_
  refine wp_mono hW ?_
  rintro _ K Y2 ⟨rfl, hY2, hI2⟩
  refine wp_eqst (st' := [vI z, vI z]) rfl ?_
  refine wp_same (pc := 617) 1194 dL_law_617 (by decide) ?_
  exact hQ K Y2 hY2 hI2
theorem lw_c16 {l : Launch} {G : mG} {d i : Nat} {I : mI} {X : mX} {Q : mQ} (hd : 200 ≤ d) (hN : G.2.2.2.2.1 ≤ 3072) (hi : i + 6 ≤ G.2.2.2.2.1) (hI : INV I X) (hX : X.2.2 = 153) (hQ : ∀ K Y, Y.2.2 = 153 → INV K Y → WP l G m_L_law d 153 K Y 1194 (lwL i) [] Q) : WP l G m_L_law d 153 I X 622 (lwL i) [] Q := by
  refine wp_aload_n (pc := 622) 1 dL_law_622 rfl rfl ?_
  refine wp_aload_n (pc := 623) 0 dL_law_623 rfl rfl ?_
  refine wp_iload_n (pc := 624) 3 dL_law_624 rfl rfl ?_
  refine wp_iconst (pc := 625) dL_law_625 ?_
  refine wp_iadd (pc := 626) dL_law_626 ?_
  refine wp_scr (pc := 627) (i + 1) dL_law_627 (by omega) (by omega) (by omega) ?_
  refine wp_aload_n (pc := 628) 0 dL_law_628 rfl rfl ?_
  refine wp_iload_n (pc := 629) 3 dL_law_629 rfl rfl ?_
  refine wp_iconst (pc := 630) dL_law_630 ?_
  refine wp_iadd (pc := 631) dL_law_631 ?_
  refine wp_scr (pc := 632) (i + 2) dL_law_632 (by omega) (by omega) (by omega) ?_
  refine wp_aload_n (pc := 633) 0 dL_law_633 rfl rfl ?_
  refine wp_iload_n (pc := 634) 3 dL_law_634 rfl rfl ?_
  refine wp_iconst (pc := 635) dL_law_635 ?_
  refine wp_iadd (pc := 636) dL_law_636 ?_
  refine wp_scr (pc := 637) (i + 3) dL_law_637 (by omega) (by omega) (by omega) ?_
  refine wp_aload_n (pc := 638) 0 dL_law_638 rfl rfl ?_
  refine wp_iload_n (pc := 639) 3 dL_law_639 rfl rfl ?_
  refine wp_iconst (pc := 640) dL_law_640 ?_
  refine wp_iadd (pc := 641) dL_law_641 ?_
  refine wp_scr (pc := 642) (i + 4) dL_law_642 (by omega) (by omega) (by omega) ?_
  refine wp_callV (pc := 643) (st := []) (nf' := 153) [vI (sc G (i + 1)), vI (sc G (i + 2)), vI (sc G (i + 3)), vI (sc G (i + 4))] [some (vR 0), some (vI (sc G (i + 1))), some (vI (sc G (i + 2))), some (vI (sc G (i + 3))), some (vI (sc G (i + 4))), none, none] dL_law_643 rfl c_L_84 rfl kd_0 (by decide) rfl (by rw [hX]; decide) rfl (Nat.le_of_ble_eq_true rfl) rfl (Nat.le_of_ble_eq_true rfl) (by omega) (by rw [hX]; decide) (Nat.le_refl _) ?_
  refine wp_mono (bo_quiet (by omega) hI (sc_in G _) (sc_in G _) (sc_in G _) (sc_in G _)) ?_
  rintro _ J Y ⟨z, rfl, hY, hW⟩
  refine wp_eqst (st' := [vI z]) rfl ?_
  refine wp_aload_n (pc := 646) 2 dL_law_646 rfl rfl ?_
  refine wp_aload_n (pc := 647) 0 dL_law_647 rfl rfl ?_
  refine wp_iload_n (pc := 648) 3 dL_law_648 rfl rfl ?_
  refine wp_iconst (pc := 649) dL_law_649 ?_
  refine wp_iadd (pc := 650) dL_law_650 ?_
  refine wp_scr (pc := 651) (i + 1) dL_law_651 (by omega) (by omega) (by omega) ?_
  refine wp_aload_n (pc := 652) 0 dL_law_652 rfl rfl ?_
  refine wp_iload_n (pc := 653) 3 dL_law_653 rfl rfl ?_
  refine wp_iconst (pc := 654) dL_law_654 ?_
  refine wp_iadd (pc := 655) dL_law_655 ?_
  refine wp_scr (pc := 656) (i + 2) dL_law_656 (by omega) (by omega) (by omega) ?_
  refine wp_aload_n (pc := 657) 0 dL_law_657 rfl rfl ?_
  refine wp_iload_n (pc := 658) 3 dL_law_658 rfl rfl ?_
  refine wp_iconst (pc := 659) dL_law_659 ?_
  refine wp_iadd (pc := 660) dL_law_660 ?_
  refine wp_scr (pc := 661) (i + 3) dL_law_661 (by omega) (by omega) (by omega) ?_
  refine wp_aload_n (pc := 662) 0 dL_law_662 rfl rfl ?_
  refine wp_iload_n (pc := 663) 3 dL_law_663 rfl rfl ?_
  refine wp_iconst (pc := 664) dL_law_664 ?_
  refine wp_iadd (pc := 665) dL_law_665 ?_
  refine wp_scr (pc := 666) (i + 4) dL_law_666 (by omega) (by omega) (by omega) ?_
  refine wp_callV (pc := 667) (st := [vI z]) (nf' := 153) [vI (sc G (i + 1)), vI (sc G (i + 2)), vI (sc G (i + 3)), vI (sc G (i + 4))] [some (vR 111), some (vI (sc G (i + 1))), some (vI (sc G (i + 2))), some (vI (sc G (i + 3))), some (vI (sc G (i + 4))), none] dL_law_667 rfl c_L_88 rfl kd_111 (by decide) rfl (by rw [hY]; decide) rfl (Nat.le_of_ble_eq_true rfl) rfl (Nat.le_of_ble_eq_true rfl) (by omega) (by rw [hY]; decide) (Nat.le_refl _) ?_
  refine wp_mono hW ?_
  rintro _ K Y2 ⟨rfl, hY2, hI2⟩
  refine wp_eqst (st' := [vI z, vI z]) rfl ?_
  refine wp_same (pc := 670) 1194 dL_law_670 (by decide) ?_
  exact hQ K Y2 hY2 hI2
theorem lw_c17 {l : Launch} {G : mG} {d i : Nat} {I : mI} {X : mX} {Q : mQ} (hd : 200 ≤ d) (hN : G.2.2.2.2.1 ≤ 3072) (hi : i + 6 ≤ G.2.2.2.2.1) (hI : INV I X) (hX : X.2.2 = 153) (hQ : ∀ K Y, Y.2.2 = 153 → INV K Y → WP l G m_L_law d 153 K Y 1194 (lwL i) [] Q) : WP l G m_L_law d 153 I X 675 (lwL i) [] Q := by
  refine wp_aload_n (pc := 675) 1 dL_law_675 rfl rfl ?_
  refine wp_aload_n (pc := 676) 0 dL_law_676 rfl rfl ?_
  refine wp_iload_n (pc := 677) 3 dL_law_677 rfl rfl ?_
  refine wp_iconst (pc := 678) dL_law_678 ?_
  refine wp_iadd (pc := 679) dL_law_679 ?_
  refine wp_scr (pc := 680) (i + 1) dL_law_680 (by omega) (by omega) (by omega) ?_
  refine wp_aload_n (pc := 681) 0 dL_law_681 rfl rfl ?_
  refine wp_iload_n (pc := 682) 3 dL_law_682 rfl rfl ?_
  refine wp_iconst (pc := 683) dL_law_683 ?_
  refine wp_iadd (pc := 684) dL_law_684 ?_
  refine wp_scr (pc := 685) (i + 2) dL_law_685 (by omega) (by omega) (by omega) ?_
  refine wp_callV (pc := 686) (st := []) (nf' := 153) [vI (sc G (i + 1)), vI (sc G (i + 2))] [some (vR 0), some (vI (sc G (i + 1))), some (vI (sc G (i + 2))), none, none, none, none, none] dL_law_686 rfl c_L_89 rfl kd_0 (by decide) rfl (by rw [hX]; decide) rfl (Nat.le_of_ble_eq_true rfl) rfl (Nat.le_of_ble_eq_true rfl) (by omega) (by rw [hX]; decide) (Nat.le_refl _) ?_
  refine wp_mono (bo_quietest (by omega) hI (sc_in G _) (sc_in G _)) ?_
  rintro _ J Y ⟨z, rfl, hY, hW⟩
  refine wp_eqst (st' := [vI z]) rfl ?_
  refine wp_aload_n (pc := 689) 2 dL_law_689 rfl rfl ?_
  refine wp_aload_n (pc := 690) 0 dL_law_690 rfl rfl ?_
  refine wp_iload_n (pc := 691) 3 dL_law_691 rfl rfl ?_
  refine wp_iconst (pc := 692) dL_law_692 ?_
  refine wp_iadd (pc := 693) dL_law_693 ?_
  refine wp_scr (pc := 694) (i + 1) dL_law_694 (by omega) (by omega) (by omega) ?_
  refine wp_aload_n (pc := 695) 0 dL_law_695 rfl rfl ?_
  refine wp_iload_n (pc := 696) 3 dL_law_696 rfl rfl ?_
  refine wp_iconst (pc := 697) dL_law_697 ?_
  refine wp_iadd (pc := 698) dL_law_698 ?_
  refine wp_scr (pc := 699) (i + 2) dL_law_699 (by omega) (by omega) (by omega) ?_
  refine wp_callV (pc := 700) (st := [vI z]) (nf' := 153) [vI (sc G (i + 1)), vI (sc G (i + 2))] [some (vR 111), some (vI (sc G (i + 1))), some (vI (sc G (i + 2))), none, none, none, none, none, none, none] dL_law_700 rfl c_L_92 rfl kd_111 (by decide) rfl (by rw [hY]; decide) rfl (Nat.le_of_ble_eq_true rfl) rfl (Nat.le_of_ble_eq_true rfl) (by omega) (by rw [hY]; decide) (Nat.le_refl _) ?_
  refine wp_mono hW ?_
  rintro _ K Y2 ⟨rfl, hY2, hI2⟩
  refine wp_eqst (st' := [vI z, vI z]) rfl ?_
  refine wp_same (pc := 703) 1194 dL_law_703 (by decide) ?_
  exact hQ K Y2 hY2 hI2
theorem lw_c18 {l : Launch} {G : mG} {d i : Nat} {I : mI} {X : mX} {Q : mQ} (hd : 200 ≤ d) (hN : G.2.2.2.2.1 ≤ 3072) (hi : i + 6 ≤ G.2.2.2.2.1) (hI : INV I X) (hX : X.2.2 = 153) (hQ : ∀ K Y, Y.2.2 = 153 → INV K Y → WP l G m_L_law d 153 K Y 1194 (lwL i) [] Q) : WP l G m_L_law d 153 I X 708 (lwL i) [] Q := by
  refine wp_aload_n (pc := 708) 1 dL_law_708 rfl rfl ?_
  refine wp_aload_n (pc := 709) 0 dL_law_709 rfl rfl ?_
  refine wp_iload_n (pc := 710) 3 dL_law_710 rfl rfl ?_
  refine wp_iconst (pc := 711) dL_law_711 ?_
  refine wp_iadd (pc := 712) dL_law_712 ?_
  refine wp_scr (pc := 713) (i + 1) dL_law_713 (by omega) (by omega) (by omega) ?_
  refine wp_aload_n (pc := 714) 0 dL_law_714 rfl rfl ?_
  refine wp_iload_n (pc := 715) 3 dL_law_715 rfl rfl ?_
  refine wp_iconst (pc := 716) dL_law_716 ?_
  refine wp_iadd (pc := 717) dL_law_717 ?_
  refine wp_scr (pc := 718) (i + 2) dL_law_718 (by omega) (by omega) (by omega) ?_
  refine wp_callV (pc := 719) (st := []) (nf' := 153) [vI (sc G (i + 1)), vI (sc G (i + 2))] [some (vR 0), some (vI (sc G (i + 1))), some (vI (sc G (i + 2))), none] dL_law_719 rfl c_L_93 rfl kd_0 (by decide) rfl (by rw [hX]; decide) rfl (Nat.le_of_ble_eq_true rfl) rfl (Nat.le_of_ble_eq_true rfl) (by omega) (by rw [hX]; decide) (Nat.le_refl _) ?_
  refine wp_mono (bo_hush (by omega) hI (sc_in G _) (sc_in G _)) ?_
  rintro _ J Y ⟨z, rfl, hY, hW⟩
  refine wp_eqst (st' := [vI z]) rfl ?_
  refine wp_aload_n (pc := 722) 2 dL_law_722 rfl rfl ?_
  refine wp_aload_n (pc := 723) 0 dL_law_723 rfl rfl ?_
  refine wp_iload_n (pc := 724) 3 dL_law_724 rfl rfl ?_
  refine wp_iconst (pc := 725) dL_law_725 ?_
  refine wp_iadd (pc := 726) dL_law_726 ?_
  refine wp_scr (pc := 727) (i + 1) dL_law_727 (by omega) (by omega) (by omega) ?_
  refine wp_aload_n (pc := 728) 0 dL_law_728 rfl rfl ?_
  refine wp_iload_n (pc := 729) 3 dL_law_729 rfl rfl ?_
  refine wp_iconst (pc := 730) dL_law_730 ?_
  refine wp_iadd (pc := 731) dL_law_731 ?_
  refine wp_scr (pc := 732) (i + 2) dL_law_732 (by omega) (by omega) (by omega) ?_
  refine wp_callV (pc := 733) (st := [vI z]) (nf' := 153) [vI (sc G (i + 1)), vI (sc G (i + 2))] [some (vR 111), some (vI (sc G (i + 1))), some (vI (sc G (i + 2))), none, none, none] dL_law_733 rfl c_L_96 rfl kd_111 (by decide) rfl (by rw [hY]; decide) rfl (Nat.le_of_ble_eq_true rfl) rfl (Nat.le_of_ble_eq_true rfl) (by omega) (by rw [hY]; decide) (Nat.le_refl _) ?_
  refine wp_mono hW ?_
  rintro _ K Y2 ⟨rfl, hY2, hI2⟩
  refine wp_eqst (st' := [vI z, vI z]) rfl ?_
  refine wp_same (pc := 736) 1194 dL_law_736 (by decide) ?_
  exact hQ K Y2 hY2 hI2
theorem lw_c19 {l : Launch} {G : mG} {d i : Nat} {I : mI} {X : mX} {Q : mQ} (hd : 200 ≤ d) (hN : G.2.2.2.2.1 ≤ 3072) (hi : i + 6 ≤ G.2.2.2.2.1) (hI : INV I X) (hX : X.2.2 = 153) (hQ : ∀ K Y, Y.2.2 = 153 → INV K Y → WP l G m_L_law d 153 K Y 1194 (lwL i) [] Q) : WP l G m_L_law d 153 I X 741 (lwL i) [] Q := by
  refine wp_aload_n (pc := 741) 1 dL_law_741 rfl rfl ?_
  refine wp_aload_n (pc := 742) 0 dL_law_742 rfl rfl ?_
  refine wp_iload_n (pc := 743) 3 dL_law_743 rfl rfl ?_
  refine wp_iconst (pc := 744) dL_law_744 ?_
  refine wp_iadd (pc := 745) dL_law_745 ?_
  refine wp_scr (pc := 746) (i + 1) dL_law_746 (by omega) (by omega) (by omega) ?_
  refine wp_aload_n (pc := 747) 0 dL_law_747 rfl rfl ?_
  refine wp_iload_n (pc := 748) 3 dL_law_748 rfl rfl ?_
  refine wp_iconst (pc := 749) dL_law_749 ?_
  refine wp_iadd (pc := 750) dL_law_750 ?_
  refine wp_scr (pc := 751) (i + 2) dL_law_751 (by omega) (by omega) (by omega) ?_
  refine wp_aload_n (pc := 752) 0 dL_law_752 rfl rfl ?_
  refine wp_iload_n (pc := 753) 3 dL_law_753 rfl rfl ?_
  refine wp_iconst (pc := 754) dL_law_754 ?_
  refine wp_iadd (pc := 755) dL_law_755 ?_
  refine wp_scr (pc := 756) (i + 3) dL_law_756 (by omega) (by omega) (by omega) ?_
  refine wp_callV (pc := 757) (st := []) (nf' := 153) [vI (sc G (i + 1)), vI (sc G (i + 2)), vI (sc G (i + 3))] [some (vR 0), some (vI (sc G (i + 1))), some (vI (sc G (i + 2))), some (vI (sc G (i + 3))), none] dL_law_757 rfl c_L_97 rfl kd_0 (by decide) rfl (by rw [hX]; decide) rfl (Nat.le_of_ble_eq_true rfl) rfl (Nat.le_of_ble_eq_true rfl) (by omega) (by rw [hX]; decide) (Nat.le_refl _) ?_
  refine wp_mono (bo_will (by omega) hI (sc_in G _) (sc_in G _) (sc_in G _)) ?_
  rintro _ J Y ⟨z, rfl, hY, hW⟩
  refine wp_eqst (st' := [vI z]) rfl ?_
  refine wp_aload_n (pc := 760) 2 dL_law_760 rfl rfl ?_
  refine wp_aload_n (pc := 761) 0 dL_law_761 rfl rfl ?_
  refine wp_iload_n (pc := 762) 3 dL_law_762 rfl rfl ?_
  refine wp_iconst (pc := 763) dL_law_763 ?_
  refine wp_iadd (pc := 764) dL_law_764 ?_
  refine wp_scr (pc := 765) (i + 1) dL_law_765 (by omega) (by omega) (by omega) ?_
  refine wp_aload_n (pc := 766) 0 dL_law_766 rfl rfl ?_
  refine wp_iload_n (pc := 767) 3 dL_law_767 rfl rfl ?_
  refine wp_iconst (pc := 768) dL_law_768 ?_
  refine wp_iadd (pc := 769) dL_law_769 ?_
  refine wp_scr (pc := 770) (i + 2) dL_law_770 (by omega) (by omega) (by omega) ?_
  refine wp_aload_n (pc := 771) 0 dL_law_771 rfl rfl ?_
  refine wp_iload_n (pc := 772) 3 dL_law_772 rfl rfl ?_
  refine wp_iconst (pc := 773) dL_law_773 ?_
  refine wp_iadd (pc := 774) dL_law_774 ?_
  refine wp_scr (pc := 775) (i + 3) dL_law_775 (by omega) (by omega) (by omega) ?_
  refine wp_callV (pc := 776) (st := [vI z]) (nf' := 153) [vI (sc G (i + 1)), vI (sc G (i + 2)), vI (sc G (i + 3))] [some (vR 111), some (vI (sc G (i + 1))), some (vI (sc G (i + 2))), some (vI (sc G (i + 3))), none] dL_law_776 rfl c_L_100 rfl kd_111 (by decide) rfl (by rw [hY]; decide) rfl (Nat.le_of_ble_eq_true rfl) rfl (Nat.le_of_ble_eq_true rfl) (by omega) (by rw [hY]; decide) (Nat.le_refl _) ?_
  refine wp_mono hW ?_
  rintro _ K Y2 ⟨rfl, hY2, hI2⟩
  refine wp_eqst (st' := [vI z, vI z]) rfl ?_
  refine wp_same (pc := 779) 1194 dL_law_779 (by decide) ?_
  exact hQ K Y2 hY2 hI2
theorem lw_c20 {l : Launch} {G : mG} {d i : Nat} {I : mI} {X : mX} {Q : mQ} (hd : 200 ≤ d) (hN : G.2.2.2.2.1 ≤ 3072) (hi : i + 6 ≤ G.2.2.2.2.1) (hI : INV I X) (hX : X.2.2 = 153) (hQ : ∀ K Y, Y.2.2 = 153 → INV K Y → WP l G m_L_law d 153 K Y 1194 (lwL i) [] Q) : WP l G m_L_law d 153 I X 784 (lwL i) [] Q := by
  refine wp_aload_n (pc := 784) 1 dL_law_784 rfl rfl ?_
  refine wp_aload_n (pc := 785) 0 dL_law_785 rfl rfl ?_
  refine wp_iload_n (pc := 786) 3 dL_law_786 rfl rfl ?_
  refine wp_iconst (pc := 787) dL_law_787 ?_
  refine wp_iadd (pc := 788) dL_law_788 ?_
  refine wp_scr (pc := 789) (i + 1) dL_law_789 (by omega) (by omega) (by omega) ?_
  refine wp_callV (pc := 790) (st := []) (nf' := 153) [vI (sc G (i + 1))] [some (vR 0), some (vI (sc G (i + 1))), none] dL_law_790 rfl c_L_101 rfl kd_0 (by decide) rfl (by rw [hX]; decide) rfl (Nat.le_of_ble_eq_true rfl) rfl (Nat.le_of_ble_eq_true rfl) (by omega) (by rw [hX]; decide) (Nat.le_refl _) ?_
  refine wp_mono (bo_settles (by omega) hI (sc_in G _)) ?_
  rintro _ J Y ⟨z, rfl, hY, hW⟩
  refine wp_eqst (st' := [vI z]) rfl ?_
  refine wp_aload_n (pc := 793) 2 dL_law_793 rfl rfl ?_
  refine wp_aload_n (pc := 794) 0 dL_law_794 rfl rfl ?_
  refine wp_iload_n (pc := 795) 3 dL_law_795 rfl rfl ?_
  refine wp_iconst (pc := 796) dL_law_796 ?_
  refine wp_iadd (pc := 797) dL_law_797 ?_
  refine wp_scr (pc := 798) (i + 1) dL_law_798 (by omega) (by omega) (by omega) ?_
  refine wp_callV (pc := 799) (st := [vI z]) (nf' := 153) [vI (sc G (i + 1))] [some (vR 111), some (vI (sc G (i + 1))), none] dL_law_799 rfl c_L_104 rfl kd_111 (by decide) rfl (by rw [hY]; decide) rfl (Nat.le_of_ble_eq_true rfl) rfl (Nat.le_of_ble_eq_true rfl) (by omega) (by rw [hY]; decide) (Nat.le_refl _) ?_
  refine wp_mono hW ?_
  rintro _ K Y2 ⟨rfl, hY2, hI2⟩
  refine wp_eqst (st' := [vI z, vI z]) rfl ?_
  refine wp_same (pc := 802) 1194 dL_law_802 (by decide) ?_
  exact hQ K Y2 hY2 hI2
theorem lw_c21 {l : Launch} {G : mG} {d i : Nat} {I : mI} {X : mX} {Q : mQ} (hd : 200 ≤ d) (hN : G.2.2.2.2.1 ≤ 3072) (hi : i + 6 ≤ G.2.2.2.2.1) (hI : INV I X) (hX : X.2.2 = 153) (hQ : ∀ K Y, Y.2.2 = 153 → INV K Y → WP l G m_L_law d 153 K Y 1194 (lwL i) [] Q) : WP l G m_L_law d 153 I X 807 (lwL i) [] Q := by
  refine wp_aload_n (pc := 807) 1 dL_law_807 rfl rfl ?_
  refine wp_aload_n (pc := 808) 0 dL_law_808 rfl rfl ?_
  refine wp_iload_n (pc := 809) 3 dL_law_809 rfl rfl ?_
  refine wp_iconst (pc := 810) dL_law_810 ?_
  refine wp_iadd (pc := 811) dL_law_811 ?_
  refine wp_scr (pc := 812) (i + 1) dL_law_812 (by omega) (by omega) (by omega) ?_
  refine wp_callV (pc := 813) (st := []) (nf' := 153) [vI (sc G (i + 1))] [some (vR 0), some (vI (sc G (i + 1))), none] dL_law_813 rfl c_L_105 rfl kd_0 (by decide) rfl (by rw [hX]; decide) rfl (Nat.le_of_ble_eq_true rfl) rfl (Nat.le_of_ble_eq_true rfl) (by omega) (by rw [hX]; decide) (Nat.le_refl _) ?_
  refine wp_mono (bo_season (by omega) hI (sc_in G _)) ?_
  rintro _ J Y ⟨z, rfl, hY, hW⟩
  refine wp_eqst (st' := [vI z]) rfl ?_
  refine wp_aload_n (pc := 816) 2 dL_law_816 rfl rfl ?_
  refine wp_aload_n (pc := 817) 0 dL_law_817 rfl rfl ?_
  refine wp_iload_n (pc := 818) 3 dL_law_818 rfl rfl ?_
  refine wp_iconst (pc := 819) dL_law_819 ?_
  refine wp_iadd (pc := 820) dL_law_820 ?_
  refine wp_scr (pc := 821) (i + 1) dL_law_821 (by omega) (by omega) (by omega) ?_
  refine wp_callV (pc := 822) (st := [vI z]) (nf' := 153) [vI (sc G (i + 1))] [some (vR 111), some (vI (sc G (i + 1))), none, none, none] dL_law_822 rfl c_L_108 rfl kd_111 (by decide) rfl (by rw [hY]; decide) rfl (Nat.le_of_ble_eq_true rfl) rfl (Nat.le_of_ble_eq_true rfl) (by omega) (by rw [hY]; decide) (Nat.le_refl _) ?_
  refine wp_mono hW ?_
  rintro _ K Y2 ⟨rfl, hY2, hI2⟩
  refine wp_eqst (st' := [vI z, vI z]) rfl ?_
  refine wp_same (pc := 825) 1194 dL_law_825 (by decide) ?_
  exact hQ K Y2 hY2 hI2
theorem lw_c22 {l : Launch} {G : mG} {d i : Nat} {I : mI} {X : mX} {Q : mQ} (hd : 200 ≤ d) (hN : G.2.2.2.2.1 ≤ 3072) (hi : i + 6 ≤ G.2.2.2.2.1) (hI : INV I X) (hX : X.2.2 = 153) (hQ : ∀ K Y, Y.2.2 = 153 → INV K Y → WP l G m_L_law d 153 K Y 1194 (lwL i) [] Q) : WP l G m_L_law d 153 I X 830 (lwL i) [] Q := by
  refine wp_aload_n (pc := 830) 1 dL_law_830 rfl rfl ?_
  refine wp_aload_n (pc := 831) 0 dL_law_831 rfl rfl ?_
  refine wp_iload_n (pc := 832) 3 dL_law_832 rfl rfl ?_
  refine wp_iconst (pc := 833) dL_law_833 ?_
  refine wp_iadd (pc := 834) dL_law_834 ?_
  refine wp_scr (pc := 835) (i + 1) dL_law_835 (by omega) (by omega) (by omega) ?_
  refine wp_callV (pc := 836) (st := []) (nf' := 153) [vI (sc G (i + 1))] [some (vR 0), some (vI (sc G (i + 1)))] dL_law_836 rfl c_L_109 rfl kd_0 (by decide) rfl (by rw [hX]; decide) rfl (Nat.le_of_ble_eq_true rfl) rfl (Nat.le_of_ble_eq_true rfl) (by omega) (by rw [hX]; decide) (Nat.le_refl _) ?_
  refine wp_mono (bo_law (by omega) hI (sc_in G _)) ?_
  rintro _ J Y ⟨z, rfl, hY, hW⟩
  refine wp_eqst (st' := [vI z]) rfl ?_
  refine wp_aload_n (pc := 839) 2 dL_law_839 rfl rfl ?_
  refine wp_aload_n (pc := 840) 0 dL_law_840 rfl rfl ?_
  refine wp_iload_n (pc := 841) 3 dL_law_841 rfl rfl ?_
  refine wp_iconst (pc := 842) dL_law_842 ?_
  refine wp_iadd (pc := 843) dL_law_843 ?_
  refine wp_scr (pc := 844) (i + 1) dL_law_844 (by omega) (by omega) (by omega) ?_
  refine wp_callV (pc := 845) (st := [vI z]) (nf' := 153) [vI (sc G (i + 1))] [some (vR 111), some (vI (sc G (i + 1)))] dL_law_845 rfl c_L_112 rfl kd_111 (by decide) rfl (by rw [hY]; decide) rfl (Nat.le_of_ble_eq_true rfl) rfl (Nat.le_of_ble_eq_true rfl) (by omega) (by rw [hY]; decide) (Nat.le_refl _) ?_
  refine wp_mono hW ?_
  rintro _ K Y2 ⟨rfl, hY2, hI2⟩
  refine wp_eqst (st' := [vI z, vI z]) rfl ?_
  refine wp_same (pc := 848) 1194 dL_law_848 (by decide) ?_
  exact hQ K Y2 hY2 hI2
theorem lw_c23 {l : Launch} {G : mG} {d i : Nat} {I : mI} {X : mX} {Q : mQ} (hd : 200 ≤ d) (hN : G.2.2.2.2.1 ≤ 3072) (hi : i + 6 ≤ G.2.2.2.2.1) (hI : INV I X) (hX : X.2.2 = 153) (hQ : ∀ K Y, Y.2.2 = 153 → INV K Y → WP l G m_L_law d 153 K Y 1194 (lwL i) [] Q) : WP l G m_L_law d 153 I X 853 (lwL i) [] Q := by
  refine wp_aload_n (pc := 853) 1 dL_law_853 rfl rfl ?_
  refine wp_callV (pc := 854) (st := []) (nf' := 153) [] [some (vR 0), none, none, none] dL_law_854 rfl c_L_113 rfl kd_0 (by decide) rfl (by rw [hX]; decide) rfl (Nat.le_of_ble_eq_true rfl) rfl (Nat.le_of_ble_eq_true rfl) (by omega) (by rw [hX]; decide) (Nat.le_refl _) ?_
  refine wp_mono (bo_free (by omega) hI ) ?_
  rintro _ J Y ⟨z, rfl, hY, hW⟩
  refine wp_eqst (st' := [vI z]) rfl ?_
  refine wp_aload_n (pc := 857) 2 dL_law_857 rfl rfl ?_
  refine wp_callV (pc := 858) (st := [vI z]) (nf' := 153) [] [some (vR 111), none, none, none] dL_law_858 rfl c_L_116 rfl kd_111 (by decide) rfl (by rw [hY]; decide) rfl (Nat.le_of_ble_eq_true rfl) rfl (Nat.le_of_ble_eq_true rfl) (by omega) (by rw [hY]; decide) (Nat.le_refl _) ?_
  refine wp_mono hW ?_
  rintro _ K Y2 ⟨rfl, hY2, hI2⟩
  refine wp_eqst (st' := [vI z, vI z]) rfl ?_
  refine wp_same (pc := 861) 1194 dL_law_861 (by decide) ?_
  exact hQ K Y2 hY2 hI2
theorem lw_c24 {l : Launch} {G : mG} {d i : Nat} {I : mI} {X : mX} {Q : mQ} (hd : 200 ≤ d) (hN : G.2.2.2.2.1 ≤ 3072) (hi : i + 6 ≤ G.2.2.2.2.1) (hI : INV I X) (hX : X.2.2 = 153) (hQ : ∀ K Y, Y.2.2 = 153 → INV K Y → WP l G m_L_law d 153 K Y 1194 (lwL i) [] Q) : WP l G m_L_law d 153 I X 866 (lwL i) [] Q := by
  by_cases hb : sc G (i + 2) = 0
  · skip
    refine wp_aload_n (pc := 866) 1 dL_law_866 rfl rfl ?_
    refine wp_aload_n (pc := 867) 0 dL_law_867 rfl rfl ?_
    refine wp_iload_n (pc := 868) 3 dL_law_868 rfl rfl ?_
    refine wp_iconst (pc := 869) dL_law_869 ?_
    refine wp_iadd (pc := 870) dL_law_870 ?_
    refine wp_scr (pc := 871) (i + 1) dL_law_871 (by omega) (by omega) (by omega) ?_
    refine wp_aload_n (pc := 872) 0 dL_law_872 rfl rfl ?_
    refine wp_iload_n (pc := 873) 3 dL_law_873 rfl rfl ?_
    refine wp_iconst (pc := 874) dL_law_874 ?_
    refine wp_iadd (pc := 875) dL_law_875 ?_
    refine wp_scr (pc := 876) (i + 2) dL_law_876 (by omega) (by omega) (by omega) ?_
    refine wp_if_eq (pc := 877) 884 dL_law_877 (by decide) (sc_in G _) (fun _ => ?_) (fun hh => absurd hb hh)
    refine wp_iconst (pc := 884) dL_law_884 ?_
    refine wp_callV (pc := 885) (st := []) (nf' := 153) [vI (sc G (i + 1)), vI 0] [some (vR 0), some (vI (sc G (i + 1))), some (vI 0)] dL_law_885 rfl c_L_117 rfl kd_0 (by decide) rfl (by rw [hX]; decide) rfl (Nat.le_of_ble_eq_true rfl) rfl (Nat.le_of_ble_eq_true rfl) (by omega) (by rw [hX]; decide) (Nat.le_refl _) ?_
    refine wp_mono (bo_sits (by omega) hI (sc_in G _) (Or.inl rfl)) ?_
    rintro _ J Y ⟨z, rfl, hY, hW⟩
    refine wp_eqst (st' := [vI z]) rfl ?_
    refine wp_aload_n (pc := 888) 2 dL_law_888 rfl rfl ?_
    refine wp_aload_n (pc := 889) 0 dL_law_889 rfl rfl ?_
    refine wp_iload_n (pc := 890) 3 dL_law_890 rfl rfl ?_
    refine wp_iconst (pc := 891) dL_law_891 ?_
    refine wp_iadd (pc := 892) dL_law_892 ?_
    refine wp_scr (pc := 893) (i + 1) dL_law_893 (by omega) (by omega) (by omega) ?_
    refine wp_aload_n (pc := 894) 0 dL_law_894 rfl rfl ?_
    refine wp_iload_n (pc := 895) 3 dL_law_895 rfl rfl ?_
    refine wp_iconst (pc := 896) dL_law_896 ?_
    refine wp_iadd (pc := 897) dL_law_897 ?_
    refine wp_scr (pc := 898) (i + 2) dL_law_898 (by omega) (by omega) (by omega) ?_
    refine wp_if_eq (pc := 899) 906 dL_law_899 (by decide) (sc_in G _) (fun _ => ?_) (fun hh => absurd hb hh)
    refine wp_iconst (pc := 906) dL_law_906 ?_
    refine wp_callV (pc := 907) (st := [vI z]) (nf' := 153) [vI (sc G (i + 1)), vI 0] [some (vR 111), some (vI (sc G (i + 1))), some (vI 0)] dL_law_907 rfl c_L_121 rfl kd_111 (by decide) rfl (by rw [hY]; decide) rfl (Nat.le_of_ble_eq_true rfl) rfl (Nat.le_of_ble_eq_true rfl) (by omega) (by rw [hY]; decide) (Nat.le_refl _) ?_
    refine wp_mono hW ?_
    rintro _ K Y2 ⟨rfl, hY2, hI2⟩
    refine wp_eqst (st' := [vI z, vI z]) rfl ?_
    refine wp_same (pc := 910) 1194 dL_law_910 (by decide) ?_
    exact hQ K Y2 hY2 hI2
  · skip
    refine wp_aload_n (pc := 866) 1 dL_law_866 rfl rfl ?_
    refine wp_aload_n (pc := 867) 0 dL_law_867 rfl rfl ?_
    refine wp_iload_n (pc := 868) 3 dL_law_868 rfl rfl ?_
    refine wp_iconst (pc := 869) dL_law_869 ?_
    refine wp_iadd (pc := 870) dL_law_870 ?_
    refine wp_scr (pc := 871) (i + 1) dL_law_871 (by omega) (by omega) (by omega) ?_
    refine wp_aload_n (pc := 872) 0 dL_law_872 rfl rfl ?_
    refine wp_iload_n (pc := 873) 3 dL_law_873 rfl rfl ?_
    refine wp_iconst (pc := 874) dL_law_874 ?_
    refine wp_iadd (pc := 875) dL_law_875 ?_
    refine wp_scr (pc := 876) (i + 2) dL_law_876 (by omega) (by omega) (by omega) ?_
    refine wp_if_eq (pc := 877) 884 dL_law_877 (by decide) (sc_in G _) (fun hh => absurd hh hb) (fun _ => ?_)
    refine wp_iconst (pc := 880) dL_law_880 ?_
    refine wp_goto (pc := 881) 885 dL_law_881 (by decide) ?_
    refine wp_callV (pc := 885) (st := []) (nf' := 153) [vI (sc G (i + 1)), vI 1] [some (vR 0), some (vI (sc G (i + 1))), some (vI 1)] dL_law_885 rfl c_L_117 rfl kd_0 (by decide) rfl (by rw [hX]; decide) rfl (Nat.le_of_ble_eq_true rfl) rfl (Nat.le_of_ble_eq_true rfl) (by omega) (by rw [hX]; decide) (Nat.le_refl _) ?_
    refine wp_mono (bo_sits (by omega) hI (sc_in G _) (Or.inr rfl)) ?_
    rintro _ J Y ⟨z, rfl, hY, hW⟩
    refine wp_eqst (st' := [vI z]) rfl ?_
    refine wp_aload_n (pc := 888) 2 dL_law_888 rfl rfl ?_
    refine wp_aload_n (pc := 889) 0 dL_law_889 rfl rfl ?_
    refine wp_iload_n (pc := 890) 3 dL_law_890 rfl rfl ?_
    refine wp_iconst (pc := 891) dL_law_891 ?_
    refine wp_iadd (pc := 892) dL_law_892 ?_
    refine wp_scr (pc := 893) (i + 1) dL_law_893 (by omega) (by omega) (by omega) ?_
    refine wp_aload_n (pc := 894) 0 dL_law_894 rfl rfl ?_
    refine wp_iload_n (pc := 895) 3 dL_law_895 rfl rfl ?_
    refine wp_iconst (pc := 896) dL_law_896 ?_
    refine wp_iadd (pc := 897) dL_law_897 ?_
    refine wp_scr (pc := 898) (i + 2) dL_law_898 (by omega) (by omega) (by omega) ?_
    refine wp_if_eq (pc := 899) 906 dL_law_899 (by decide) (sc_in G _) (fun hh => absurd hh hb) (fun _ => ?_)
    refine wp_iconst (pc := 902) dL_law_902 ?_
    refine wp_goto (pc := 903) 907 dL_law_903 (by decide) ?_
    refine wp_callV (pc := 907) (st := [vI z]) (nf' := 153) [vI (sc G (i + 1)), vI 1] [some (vR 111), some (vI (sc G (i + 1))), some (vI 1)] dL_law_907 rfl c_L_121 rfl kd_111 (by decide) rfl (by rw [hY]; decide) rfl (Nat.le_of_ble_eq_true rfl) rfl (Nat.le_of_ble_eq_true rfl) (by omega) (by rw [hY]; decide) (Nat.le_refl _) ?_
    refine wp_mono hW ?_
    rintro _ K Y2 ⟨rfl, hY2, hI2⟩
    refine wp_eqst (st' := [vI z, vI z]) rfl ?_
    refine wp_same (pc := 910) 1194 dL_law_910 (by decide) ?_
    exact hQ K Y2 hY2 hI2
theorem lw_c25 {l : Launch} {G : mG} {d i : Nat} {I : mI} {X : mX} {Q : mQ} (hd : 200 ≤ d) (hN : G.2.2.2.2.1 ≤ 3072) (hi : i + 6 ≤ G.2.2.2.2.1) (hI : INV I X) (hX : X.2.2 = 153) (hQ : ∀ K Y, Y.2.2 = 153 → INV K Y → WP l G m_L_law d 153 K Y 1194 (lwL i) [] Q) : WP l G m_L_law d 153 I X 915 (lwL i) [] Q := by
  by_cases hb : sc G (i + 2) = 0
  · skip
    refine wp_aload_n (pc := 915) 1 dL_law_915 rfl rfl ?_
    refine wp_aload_n (pc := 916) 0 dL_law_916 rfl rfl ?_
    refine wp_iload_n (pc := 917) 3 dL_law_917 rfl rfl ?_
    refine wp_iconst (pc := 918) dL_law_918 ?_
    refine wp_iadd (pc := 919) dL_law_919 ?_
    refine wp_scr (pc := 920) (i + 1) dL_law_920 (by omega) (by omega) (by omega) ?_
    refine wp_aload_n (pc := 921) 0 dL_law_921 rfl rfl ?_
    refine wp_iload_n (pc := 922) 3 dL_law_922 rfl rfl ?_
    refine wp_iconst (pc := 923) dL_law_923 ?_
    refine wp_iadd (pc := 924) dL_law_924 ?_
    refine wp_scr (pc := 925) (i + 2) dL_law_925 (by omega) (by omega) (by omega) ?_
    refine wp_if_eq (pc := 926) 933 dL_law_926 (by decide) (sc_in G _) (fun _ => ?_) (fun hh => absurd hb hh)
    refine wp_iconst (pc := 933) dL_law_933 ?_
    refine wp_callV (pc := 934) (st := []) (nf' := 153) [vI (sc G (i + 1)), vI 0] [some (vR 0), some (vI (sc G (i + 1))), some (vI 0)] dL_law_934 rfl c_L_122 rfl kd_0 (by decide) rfl (by rw [hX]; decide) rfl (Nat.le_of_ble_eq_true rfl) rfl (Nat.le_of_ble_eq_true rfl) (by omega) (by rw [hX]; decide) (Nat.le_refl _) ?_
    refine wp_mono (bo_knew (by omega) hI (sc_in G _) (Or.inl rfl)) ?_
    rintro _ J Y ⟨z, rfl, hY, hW⟩
    refine wp_eqst (st' := [vI z]) rfl ?_
    refine wp_aload_n (pc := 937) 2 dL_law_937 rfl rfl ?_
    refine wp_aload_n (pc := 938) 0 dL_law_938 rfl rfl ?_
    refine wp_iload_n (pc := 939) 3 dL_law_939 rfl rfl ?_
    refine wp_iconst (pc := 940) dL_law_940 ?_
    refine wp_iadd (pc := 941) dL_law_941 ?_
    refine wp_scr (pc := 942) (i + 1) dL_law_942 (by omega) (by omega) (by omega) ?_
    refine wp_aload_n (pc := 943) 0 dL_law_943 rfl rfl ?_
    refine wp_iload_n (pc := 944) 3 dL_law_944 rfl rfl ?_
    refine wp_iconst (pc := 945) dL_law_945 ?_
    refine wp_iadd (pc := 946) dL_law_946 ?_
    refine wp_scr (pc := 947) (i + 2) dL_law_947 (by omega) (by omega) (by omega) ?_
    refine wp_if_eq (pc := 948) 955 dL_law_948 (by decide) (sc_in G _) (fun _ => ?_) (fun hh => absurd hb hh)
    refine wp_iconst (pc := 955) dL_law_955 ?_
    refine wp_callV (pc := 956) (st := [vI z]) (nf' := 153) [vI (sc G (i + 1)), vI 0] [some (vR 111), some (vI (sc G (i + 1))), some (vI 0)] dL_law_956 rfl c_L_125 rfl kd_111 (by decide) rfl (by rw [hY]; decide) rfl (Nat.le_of_ble_eq_true rfl) rfl (Nat.le_of_ble_eq_true rfl) (by omega) (by rw [hY]; decide) (Nat.le_refl _) ?_
    refine wp_mono hW ?_
    rintro _ K Y2 ⟨rfl, hY2, hI2⟩
    refine wp_eqst (st' := [vI z, vI z]) rfl ?_
    refine wp_same (pc := 959) 1194 dL_law_959 (by decide) ?_
    exact hQ K Y2 hY2 hI2
  · skip
    refine wp_aload_n (pc := 915) 1 dL_law_915 rfl rfl ?_
    refine wp_aload_n (pc := 916) 0 dL_law_916 rfl rfl ?_
    refine wp_iload_n (pc := 917) 3 dL_law_917 rfl rfl ?_
    refine wp_iconst (pc := 918) dL_law_918 ?_
    refine wp_iadd (pc := 919) dL_law_919 ?_
    refine wp_scr (pc := 920) (i + 1) dL_law_920 (by omega) (by omega) (by omega) ?_
    refine wp_aload_n (pc := 921) 0 dL_law_921 rfl rfl ?_
    refine wp_iload_n (pc := 922) 3 dL_law_922 rfl rfl ?_
    refine wp_iconst (pc := 923) dL_law_923 ?_
    refine wp_iadd (pc := 924) dL_law_924 ?_
    refine wp_scr (pc := 925) (i + 2) dL_law_925 (by omega) (by omega) (by omega) ?_
    refine wp_if_eq (pc := 926) 933 dL_law_926 (by decide) (sc_in G _) (fun hh => absurd hh hb) (fun _ => ?_)
    refine wp_iconst (pc := 929) dL_law_929 ?_
    refine wp_goto (pc := 930) 934 dL_law_930 (by decide) ?_
    refine wp_callV (pc := 934) (st := []) (nf' := 153) [vI (sc G (i + 1)), vI 1] [some (vR 0), some (vI (sc G (i + 1))), some (vI 1)] dL_law_934 rfl c_L_122 rfl kd_0 (by decide) rfl (by rw [hX]; decide) rfl (Nat.le_of_ble_eq_true rfl) rfl (Nat.le_of_ble_eq_true rfl) (by omega) (by rw [hX]; decide) (Nat.le_refl _) ?_
    refine wp_mono (bo_knew (by omega) hI (sc_in G _) (Or.inr rfl)) ?_
    rintro _ J Y ⟨z, rfl, hY, hW⟩
    refine wp_eqst (st' := [vI z]) rfl ?_
    refine wp_aload_n (pc := 937) 2 dL_law_937 rfl rfl ?_
    refine wp_aload_n (pc := 938) 0 dL_law_938 rfl rfl ?_
    refine wp_iload_n (pc := 939) 3 dL_law_939 rfl rfl ?_
    refine wp_iconst (pc := 940) dL_law_940 ?_
    refine wp_iadd (pc := 941) dL_law_941 ?_
    refine wp_scr (pc := 942) (i + 1) dL_law_942 (by omega) (by omega) (by omega) ?_
    refine wp_aload_n (pc := 943) 0 dL_law_943 rfl rfl ?_
    refine wp_iload_n (pc := 944) 3 dL_law_944 rfl rfl ?_
    refine wp_iconst (pc := 945) dL_law_945 ?_
    refine wp_iadd (pc := 946) dL_law_946 ?_
    refine wp_scr (pc := 947) (i + 2) dL_law_947 (by omega) (by omega) (by omega) ?_
    refine wp_if_eq (pc := 948) 955 dL_law_948 (by decide) (sc_in G _) (fun hh => absurd hh hb) (fun _ => ?_)
    refine wp_iconst (pc := 951) dL_law_951 ?_
    refine wp_goto (pc := 952) 956 dL_law_952 (by decide) ?_
    refine wp_callV (pc := 956) (st := [vI z]) (nf' := 153) [vI (sc G (i + 1)), vI 1] [some (vR 111), some (vI (sc G (i + 1))), some (vI 1)] dL_law_956 rfl c_L_125 rfl kd_111 (by decide) rfl (by rw [hY]; decide) rfl (Nat.le_of_ble_eq_true rfl) rfl (Nat.le_of_ble_eq_true rfl) (by omega) (by rw [hY]; decide) (Nat.le_refl _) ?_
    refine wp_mono hW ?_
    rintro _ K Y2 ⟨rfl, hY2, hI2⟩
    refine wp_eqst (st' := [vI z, vI z]) rfl ?_
    refine wp_same (pc := 959) 1194 dL_law_959 (by decide) ?_
    exact hQ K Y2 hY2 hI2
theorem lw_c26 {l : Launch} {G : mG} {d i : Nat} {I : mI} {X : mX} {Q : mQ} (hd : 200 ≤ d) (hN : G.2.2.2.2.1 ≤ 3072) (hi : i + 6 ≤ G.2.2.2.2.1) (hI : INV I X) (hX : X.2.2 = 153) (hQ : ∀ K Y, Y.2.2 = 153 → INV K Y → WP l G m_L_law d 153 K Y 1194 (lwL i) [] Q) : WP l G m_L_law d 153 I X 964 (lwL i) [] Q := by
  by_cases hb : sc G (i + 3) = 0
  · skip
    refine wp_aload_n (pc := 964) 1 dL_law_964 rfl rfl ?_
    refine wp_aload_n (pc := 965) 0 dL_law_965 rfl rfl ?_
    refine wp_iload_n (pc := 966) 3 dL_law_966 rfl rfl ?_
    refine wp_iconst (pc := 967) dL_law_967 ?_
    refine wp_iadd (pc := 968) dL_law_968 ?_
    refine wp_scr (pc := 969) (i + 1) dL_law_969 (by omega) (by omega) (by omega) ?_
    refine wp_aload_n (pc := 970) 0 dL_law_970 rfl rfl ?_
    refine wp_iload_n (pc := 971) 3 dL_law_971 rfl rfl ?_
    refine wp_iconst (pc := 972) dL_law_972 ?_
    refine wp_iadd (pc := 973) dL_law_973 ?_
    refine wp_scr (pc := 974) (i + 2) dL_law_974 (by omega) (by omega) (by omega) ?_
    refine wp_aload_n (pc := 975) 0 dL_law_975 rfl rfl ?_
    refine wp_iload_n (pc := 976) 3 dL_law_976 rfl rfl ?_
    refine wp_iconst (pc := 977) dL_law_977 ?_
    refine wp_iadd (pc := 978) dL_law_978 ?_
    refine wp_scr (pc := 979) (i + 3) dL_law_979 (by omega) (by omega) (by omega) ?_
    refine wp_if_eq (pc := 980) 987 dL_law_980 (by decide) (sc_in G _) (fun _ => ?_) (fun hh => absurd hb hh)
    refine wp_iconst (pc := 987) dL_law_987 ?_
    refine wp_callV (pc := 988) (st := []) (nf' := 153) [vI (sc G (i + 1)), vI (sc G (i + 2)), vI 0] [some (vR 0), some (vI (sc G (i + 1))), some (vI (sc G (i + 2))), some (vI 0)] dL_law_988 rfl c_L_126 rfl kd_0 (by decide) rfl (by rw [hX]; decide) rfl (Nat.le_of_ble_eq_true rfl) rfl (Nat.le_of_ble_eq_true rfl) (by omega) (by rw [hX]; decide) (Nat.le_refl _) ?_
    refine wp_mono (bo_kin (by omega) hI (sc_in G _) (sc_in G _) (Or.inl rfl)) ?_
    rintro _ J Y ⟨z, rfl, hY, hW⟩
    refine wp_eqst (st' := [vI z]) rfl ?_
    refine wp_aload_n (pc := 991) 2 dL_law_991 rfl rfl ?_
    refine wp_aload_n (pc := 992) 0 dL_law_992 rfl rfl ?_
    refine wp_iload_n (pc := 993) 3 dL_law_993 rfl rfl ?_
    refine wp_iconst (pc := 994) dL_law_994 ?_
    refine wp_iadd (pc := 995) dL_law_995 ?_
    refine wp_scr (pc := 996) (i + 1) dL_law_996 (by omega) (by omega) (by omega) ?_
    refine wp_aload_n (pc := 997) 0 dL_law_997 rfl rfl ?_
    refine wp_iload_n (pc := 998) 3 dL_law_998 rfl rfl ?_
    refine wp_iconst (pc := 999) dL_law_999 ?_
    refine wp_iadd (pc := 1000) dL_law_1000 ?_
    refine wp_scr (pc := 1001) (i + 2) dL_law_1001 (by omega) (by omega) (by omega) ?_
    refine wp_aload_n (pc := 1002) 0 dL_law_1002 rfl rfl ?_
    refine wp_iload_n (pc := 1003) 3 dL_law_1003 rfl rfl ?_
    refine wp_iconst (pc := 1004) dL_law_1004 ?_
    refine wp_iadd (pc := 1005) dL_law_1005 ?_
    refine wp_scr (pc := 1006) (i + 3) dL_law_1006 (by omega) (by omega) (by omega) ?_
    refine wp_if_eq (pc := 1007) 1014 dL_law_1007 (by decide) (sc_in G _) (fun _ => ?_) (fun hh => absurd hb hh)
    refine wp_iconst (pc := 1014) dL_law_1014 ?_
    refine wp_callV (pc := 1015) (st := [vI z]) (nf' := 153) [vI (sc G (i + 1)), vI (sc G (i + 2)), vI 0] [some (vR 111), some (vI (sc G (i + 1))), some (vI (sc G (i + 2))), some (vI 0)] dL_law_1015 rfl c_L_130 rfl kd_111 (by decide) rfl (by rw [hY]; decide) rfl (Nat.le_of_ble_eq_true rfl) rfl (Nat.le_of_ble_eq_true rfl) (by omega) (by rw [hY]; decide) (Nat.le_refl _) ?_
    refine wp_mono hW ?_
    rintro _ K Y2 ⟨rfl, hY2, hI2⟩
    refine wp_eqst (st' := [vI z, vI z]) rfl ?_
    refine wp_same (pc := 1018) 1194 dL_law_1018 (by decide) ?_
    exact hQ K Y2 hY2 hI2
  · skip
    refine wp_aload_n (pc := 964) 1 dL_law_964 rfl rfl ?_
    refine wp_aload_n (pc := 965) 0 dL_law_965 rfl rfl ?_
    refine wp_iload_n (pc := 966) 3 dL_law_966 rfl rfl ?_
    refine wp_iconst (pc := 967) dL_law_967 ?_
    refine wp_iadd (pc := 968) dL_law_968 ?_
    refine wp_scr (pc := 969) (i + 1) dL_law_969 (by omega) (by omega) (by omega) ?_
    refine wp_aload_n (pc := 970) 0 dL_law_970 rfl rfl ?_
    refine wp_iload_n (pc := 971) 3 dL_law_971 rfl rfl ?_
    refine wp_iconst (pc := 972) dL_law_972 ?_
    refine wp_iadd (pc := 973) dL_law_973 ?_
    refine wp_scr (pc := 974) (i + 2) dL_law_974 (by omega) (by omega) (by omega) ?_
    refine wp_aload_n (pc := 975) 0 dL_law_975 rfl rfl ?_
    refine wp_iload_n (pc := 976) 3 dL_law_976 rfl rfl ?_
    refine wp_iconst (pc := 977) dL_law_977 ?_
    refine wp_iadd (pc := 978) dL_law_978 ?_
    refine wp_scr (pc := 979) (i + 3) dL_law_979 (by omega) (by omega) (by omega) ?_
    refine wp_if_eq (pc := 980) 987 dL_law_980 (by decide) (sc_in G _) (fun hh => absurd hh hb) (fun _ => ?_)
    refine wp_iconst (pc := 983) dL_law_983 ?_
    refine wp_goto (pc := 984) 988 dL_law_984 (by decide) ?_
    refine wp_callV (pc := 988) (st := []) (nf' := 153) [vI (sc G (i + 1)), vI (sc G (i + 2)), vI 1] [some (vR 0), some (vI (sc G (i + 1))), some (vI (sc G (i + 2))), some (vI 1)] dL_law_988 rfl c_L_126 rfl kd_0 (by decide) rfl (by rw [hX]; decide) rfl (Nat.le_of_ble_eq_true rfl) rfl (Nat.le_of_ble_eq_true rfl) (by omega) (by rw [hX]; decide) (Nat.le_refl _) ?_
    refine wp_mono (bo_kin (by omega) hI (sc_in G _) (sc_in G _) (Or.inr rfl)) ?_
    rintro _ J Y ⟨z, rfl, hY, hW⟩
    refine wp_eqst (st' := [vI z]) rfl ?_
    refine wp_aload_n (pc := 991) 2 dL_law_991 rfl rfl ?_
    refine wp_aload_n (pc := 992) 0 dL_law_992 rfl rfl ?_
    refine wp_iload_n (pc := 993) 3 dL_law_993 rfl rfl ?_
    refine wp_iconst (pc := 994) dL_law_994 ?_
    refine wp_iadd (pc := 995) dL_law_995 ?_
    refine wp_scr (pc := 996) (i + 1) dL_law_996 (by omega) (by omega) (by omega) ?_
    refine wp_aload_n (pc := 997) 0 dL_law_997 rfl rfl ?_
    refine wp_iload_n (pc := 998) 3 dL_law_998 rfl rfl ?_
    refine wp_iconst (pc := 999) dL_law_999 ?_
    refine wp_iadd (pc := 1000) dL_law_1000 ?_
    refine wp_scr (pc := 1001) (i + 2) dL_law_1001 (by omega) (by omega) (by omega) ?_
    refine wp_aload_n (pc := 1002) 0 dL_law_1002 rfl rfl ?_
    refine wp_iload_n (pc := 1003) 3 dL_law_1003 rfl rfl ?_
    refine wp_iconst (pc := 1004) dL_law_1004 ?_
    refine wp_iadd (pc := 1005) dL_law_1005 ?_
    refine wp_scr (pc := 1006) (i + 3) dL_law_1006 (by omega) (by omega) (by omega) ?_
    refine wp_if_eq (pc := 1007) 1014 dL_law_1007 (by decide) (sc_in G _) (fun hh => absurd hh hb) (fun _ => ?_)
    refine wp_iconst (pc := 1010) dL_law_1010 ?_
    refine wp_goto (pc := 1011) 1015 dL_law_1011 (by decide) ?_
    refine wp_callV (pc := 1015) (st := [vI z]) (nf' := 153) [vI (sc G (i + 1)), vI (sc G (i + 2)), vI 1] [some (vR 111), some (vI (sc G (i + 1))), some (vI (sc G (i + 2))), some (vI 1)] dL_law_1015 rfl c_L_130 rfl kd_111 (by decide) rfl (by rw [hY]; decide) rfl (Nat.le_of_ble_eq_true rfl) rfl (Nat.le_of_ble_eq_true rfl) (by omega) (by rw [hY]; decide) (Nat.le_refl _) ?_
    refine wp_mono hW ?_
    rintro _ K Y2 ⟨rfl, hY2, hI2⟩
    refine wp_eqst (st' := [vI z, vI z]) rfl ?_
    refine wp_same (pc := 1018) 1194 dL_law_1018 (by decide) ?_
    exact hQ K Y2 hY2 hI2
theorem lw_c27 {l : Launch} {G : mG} {d i : Nat} {I : mI} {X : mX} {Q : mQ} (hd : 200 ≤ d) (hN : G.2.2.2.2.1 ≤ 3072) (hi : i + 6 ≤ G.2.2.2.2.1) (hI : INV I X) (hX : X.2.2 = 153) (hQ : ∀ K Y, Y.2.2 = 153 → INV K Y → WP l G m_L_law d 153 K Y 1194 (lwL i) [] Q) : WP l G m_L_law d 153 I X 1023 (lwL i) [] Q := by
  refine wp_aload_n (pc := 1023) 1 dL_law_1023 rfl rfl ?_
  refine wp_aload_n (pc := 1024) 0 dL_law_1024 rfl rfl ?_
  refine wp_iload_n (pc := 1025) 3 dL_law_1025 rfl rfl ?_
  refine wp_iconst (pc := 1026) dL_law_1026 ?_
  refine wp_iadd (pc := 1027) dL_law_1027 ?_
  refine wp_scr (pc := 1028) (i + 1) dL_law_1028 (by omega) (by omega) (by omega) ?_
  refine wp_callV (pc := 1029) (st := []) (nf' := 153) [vI (sc G (i + 1))] [some (vR 0), some (vI (sc G (i + 1)))] dL_law_1029 rfl c_L_131 rfl kd_0 (by decide) rfl (by rw [hX]; decide) rfl (Nat.le_of_ble_eq_true rfl) rfl (Nat.le_of_ble_eq_true rfl) (by omega) (by rw [hX]; decide) (Nat.le_refl _) ?_
  refine wp_mono (bo_untell (by omega) hI (sc_in G _)) ?_
  rintro _ J Y ⟨z, rfl, hY, hW⟩
  refine wp_eqst (st' := [vI z]) rfl ?_
  refine wp_aload_n (pc := 1032) 2 dL_law_1032 rfl rfl ?_
  refine wp_aload_n (pc := 1033) 0 dL_law_1033 rfl rfl ?_
  refine wp_iload_n (pc := 1034) 3 dL_law_1034 rfl rfl ?_
  refine wp_iconst (pc := 1035) dL_law_1035 ?_
  refine wp_iadd (pc := 1036) dL_law_1036 ?_
  refine wp_scr (pc := 1037) (i + 1) dL_law_1037 (by omega) (by omega) (by omega) ?_
  refine wp_callV (pc := 1038) (st := [vI z]) (nf' := 153) [vI (sc G (i + 1))] [some (vR 111), some (vI (sc G (i + 1)))] dL_law_1038 rfl c_L_134 rfl kd_111 (by decide) rfl (by rw [hY]; decide) rfl (Nat.le_of_ble_eq_true rfl) rfl (Nat.le_of_ble_eq_true rfl) (by omega) (by rw [hY]; decide) (Nat.le_refl _) ?_
  refine wp_mono hW ?_
  rintro _ K Y2 ⟨rfl, hY2, hI2⟩
  refine wp_eqst (st' := [vI z, vI z]) rfl ?_
  refine wp_same (pc := 1041) 1194 dL_law_1041 (by decide) ?_
  exact hQ K Y2 hY2 hI2
theorem lw_c28 {l : Launch} {G : mG} {d i : Nat} {I : mI} {X : mX} {Q : mQ} (hd : 200 ≤ d) (hN : G.2.2.2.2.1 ≤ 3072) (hi : i + 6 ≤ G.2.2.2.2.1) (hI : INV I X) (hX : X.2.2 = 153) (hQ : ∀ K Y, Y.2.2 = 153 → INV K Y → WP l G m_L_law d 153 K Y 1194 (lwL i) [] Q) : WP l G m_L_law d 153 I X 1046 (lwL i) [] Q := by
  refine wp_aload_n (pc := 1046) 1 dL_law_1046 rfl rfl ?_
  refine wp_aload_n (pc := 1047) 0 dL_law_1047 rfl rfl ?_
  refine wp_iload_n (pc := 1048) 3 dL_law_1048 rfl rfl ?_
  refine wp_iconst (pc := 1049) dL_law_1049 ?_
  refine wp_iadd (pc := 1050) dL_law_1050 ?_
  refine wp_scr (pc := 1051) (i + 1) dL_law_1051 (by omega) (by omega) (by omega) ?_
  refine wp_callV (pc := 1052) (st := []) (nf' := 153) [vI (sc G (i + 1))] [some (vR 0), some (vI (sc G (i + 1)))] dL_law_1052 rfl c_L_135 rfl kd_0 (by decide) rfl (by rw [hX]; decide) rfl (Nat.le_of_ble_eq_true rfl) rfl (Nat.le_of_ble_eq_true rfl) (by omega) (by rw [hX]; decide) (Nat.le_refl _) ?_
  refine wp_mono (bo_later (by omega) hI (sc_in G _)) ?_
  rintro _ J Y ⟨z, rfl, hY, hW⟩
  refine wp_eqst (st' := [vI z]) rfl ?_
  refine wp_aload_n (pc := 1055) 2 dL_law_1055 rfl rfl ?_
  refine wp_aload_n (pc := 1056) 0 dL_law_1056 rfl rfl ?_
  refine wp_iload_n (pc := 1057) 3 dL_law_1057 rfl rfl ?_
  refine wp_iconst (pc := 1058) dL_law_1058 ?_
  refine wp_iadd (pc := 1059) dL_law_1059 ?_
  refine wp_scr (pc := 1060) (i + 1) dL_law_1060 (by omega) (by omega) (by omega) ?_
  refine wp_callV (pc := 1061) (st := [vI z]) (nf' := 153) [vI (sc G (i + 1))] [some (vR 111), some (vI (sc G (i + 1)))] dL_law_1061 rfl c_L_138 rfl kd_111 (by decide) rfl (by rw [hY]; decide) rfl (Nat.le_of_ble_eq_true rfl) rfl (Nat.le_of_ble_eq_true rfl) (by omega) (by rw [hY]; decide) (Nat.le_refl _) ?_
  refine wp_mono hW ?_
  rintro _ K Y2 ⟨rfl, hY2, hI2⟩
  refine wp_eqst (st' := [vI z, vI z]) rfl ?_
  refine wp_same (pc := 1064) 1194 dL_law_1064 (by decide) ?_
  exact hQ K Y2 hY2 hI2
theorem lw_c29 {l : Launch} {G : mG} {d i : Nat} {I : mI} {X : mX} {Q : mQ} (hd : 200 ≤ d) (hN : G.2.2.2.2.1 ≤ 3072) (hi : i + 6 ≤ G.2.2.2.2.1) (hI : INV I X) (hX : X.2.2 = 153) (hQ : ∀ K Y, Y.2.2 = 153 → INV K Y → WP l G m_L_law d 153 K Y 1194 (lwL i) [] Q) : WP l G m_L_law d 153 I X 1069 (lwL i) [] Q := by
  refine wp_aload_n (pc := 1069) 1 dL_law_1069 rfl rfl ?_
  refine wp_aload_n (pc := 1070) 0 dL_law_1070 rfl rfl ?_
  refine wp_iload_n (pc := 1071) 3 dL_law_1071 rfl rfl ?_
  refine wp_iconst (pc := 1072) dL_law_1072 ?_
  refine wp_iadd (pc := 1073) dL_law_1073 ?_
  refine wp_scr (pc := 1074) (i + 1) dL_law_1074 (by omega) (by omega) (by omega) ?_
  refine wp_callV (pc := 1075) (st := []) (nf' := 153) [vI (sc G (i + 1))] [some (vR 0), some (vI (sc G (i + 1)))] dL_law_1075 rfl c_L_139 rfl kd_0 (by decide) rfl (by rw [hX]; decide) rfl (Nat.le_of_ble_eq_true rfl) rfl (Nat.le_of_ble_eq_true rfl) (by omega) (by rw [hX]; decide) (Nat.le_refl _) ?_
  refine wp_mono (bo_meant (by omega) hI (sc_in G _)) ?_
  rintro _ J Y ⟨z, rfl, hY, hW⟩
  refine wp_eqst (st' := [vI z]) rfl ?_
  refine wp_aload_n (pc := 1078) 2 dL_law_1078 rfl rfl ?_
  refine wp_aload_n (pc := 1079) 0 dL_law_1079 rfl rfl ?_
  refine wp_iload_n (pc := 1080) 3 dL_law_1080 rfl rfl ?_
  refine wp_iconst (pc := 1081) dL_law_1081 ?_
  refine wp_iadd (pc := 1082) dL_law_1082 ?_
  refine wp_scr (pc := 1083) (i + 1) dL_law_1083 (by omega) (by omega) (by omega) ?_
  refine wp_callV (pc := 1084) (st := [vI z]) (nf' := 153) [vI (sc G (i + 1))] [some (vR 111), some (vI (sc G (i + 1))), none, none] dL_law_1084 rfl c_L_142 rfl kd_111 (by decide) rfl (by rw [hY]; decide) rfl (Nat.le_of_ble_eq_true rfl) rfl (Nat.le_of_ble_eq_true rfl) (by omega) (by rw [hY]; decide) (Nat.le_refl _) ?_
  refine wp_mono hW ?_
  rintro _ K Y2 ⟨rfl, hY2, hI2⟩
  refine wp_eqst (st' := [vI z, vI z]) rfl ?_
  refine wp_same (pc := 1087) 1194 dL_law_1087 (by decide) ?_
  exact hQ K Y2 hY2 hI2
theorem lw_c30 {l : Launch} {G : mG} {d i : Nat} {I : mI} {X : mX} {Q : mQ} (hd : 200 ≤ d) (hN : G.2.2.2.2.1 ≤ 3072) (hi : i + 6 ≤ G.2.2.2.2.1) (hI : INV I X) (hX : X.2.2 = 153) (hQ : ∀ K Y, Y.2.2 = 153 → INV K Y → WP l G m_L_law d 153 K Y 1194 (lwL i) [] Q) : WP l G m_L_law d 153 I X 1092 (lwL i) [] Q := by
  refine wp_aload_n (pc := 1092) 1 dL_law_1092 rfl rfl ?_
  refine wp_aload_n (pc := 1093) 0 dL_law_1093 rfl rfl ?_
  refine wp_iload_n (pc := 1094) 3 dL_law_1094 rfl rfl ?_
  refine wp_iconst (pc := 1095) dL_law_1095 ?_
  refine wp_iadd (pc := 1096) dL_law_1096 ?_
  refine wp_scr (pc := 1097) (i + 1) dL_law_1097 (by omega) (by omega) (by omega) ?_
  refine wp_aload_n (pc := 1098) 0 dL_law_1098 rfl rfl ?_
  refine wp_iload_n (pc := 1099) 3 dL_law_1099 rfl rfl ?_
  refine wp_iconst (pc := 1100) dL_law_1100 ?_
  refine wp_iadd (pc := 1101) dL_law_1101 ?_
  refine wp_scr (pc := 1102) (i + 2) dL_law_1102 (by omega) (by omega) (by omega) ?_
  refine wp_callV (pc := 1103) (st := []) (nf' := 153) [vI (sc G (i + 1)), vI (sc G (i + 2))] [some (vR 0), some (vI (sc G (i + 1))), some (vI (sc G (i + 2))), none, none, none, none, none, none] dL_law_1103 rfl c_L_143 rfl kd_0 (by decide) rfl (by rw [hX]; decide) rfl (Nat.le_of_ble_eq_true rfl) rfl (Nat.le_of_ble_eq_true rfl) (by omega) (by rw [hX]; decide) (Nat.le_refl _) ?_
  refine wp_mono (bo_ask (by omega) hI (sc_in G _) (sc_in G _)) ?_
  rintro _ J Y ⟨z, rfl, hY, hW⟩
  refine wp_eqst (st' := [vI z]) rfl ?_
  refine wp_aload_n (pc := 1106) 2 dL_law_1106 rfl rfl ?_
  refine wp_aload_n (pc := 1107) 0 dL_law_1107 rfl rfl ?_
  refine wp_iload_n (pc := 1108) 3 dL_law_1108 rfl rfl ?_
  refine wp_iconst (pc := 1109) dL_law_1109 ?_
  refine wp_iadd (pc := 1110) dL_law_1110 ?_
  refine wp_scr (pc := 1111) (i + 1) dL_law_1111 (by omega) (by omega) (by omega) ?_
  refine wp_aload_n (pc := 1112) 0 dL_law_1112 rfl rfl ?_
  refine wp_iload_n (pc := 1113) 3 dL_law_1113 rfl rfl ?_
  refine wp_iconst (pc := 1114) dL_law_1114 ?_
  refine wp_iadd (pc := 1115) dL_law_1115 ?_
  refine wp_scr (pc := 1116) (i + 2) dL_law_1116 (by omega) (by omega) (by omega) ?_
  refine wp_callV (pc := 1117) (st := [vI z]) (nf' := 153) [vI (sc G (i + 1)), vI (sc G (i + 2))] [some (vR 111), some (vI (sc G (i + 1))), some (vI (sc G (i + 2))), none, none, none, none, none, none] dL_law_1117 rfl c_L_146 rfl kd_111 (by decide) rfl (by rw [hY]; decide) rfl (Nat.le_of_ble_eq_true rfl) rfl (Nat.le_of_ble_eq_true rfl) (by omega) (by rw [hY]; decide) (Nat.le_refl _) ?_
  refine wp_mono hW ?_
  rintro _ K Y2 ⟨rfl, hY2, hI2⟩
  refine wp_eqst (st' := [vI z, vI z]) rfl ?_
  refine wp_same (pc := 1120) 1194 dL_law_1120 (by decide) ?_
  exact hQ K Y2 hY2 hI2
theorem lw_c31 {l : Launch} {G : mG} {d i : Nat} {I : mI} {X : mX} {Q : mQ} (hd : 200 ≤ d) (hN : G.2.2.2.2.1 ≤ 3072) (hi : i + 6 ≤ G.2.2.2.2.1) (hI : INV I X) (hX : X.2.2 = 153) (hQ : ∀ K Y, Y.2.2 = 153 → INV K Y → WP l G m_L_law d 153 K Y 1194 (lwL i) [] Q) : WP l G m_L_law d 153 I X 1125 (lwL i) [] Q := by
  refine wp_aload_n (pc := 1125) 1 dL_law_1125 rfl rfl ?_
  refine wp_aload_n (pc := 1126) 0 dL_law_1126 rfl rfl ?_
  refine wp_iload_n (pc := 1127) 3 dL_law_1127 rfl rfl ?_
  refine wp_iconst (pc := 1128) dL_law_1128 ?_
  refine wp_iadd (pc := 1129) dL_law_1129 ?_
  refine wp_scr (pc := 1130) (i + 1) dL_law_1130 (by omega) (by omega) (by omega) ?_
  refine wp_callV (pc := 1131) (st := []) (nf' := 153) [vI (sc G (i + 1))] [some (vR 0), some (vI (sc G (i + 1)))] dL_law_1131 rfl c_L_147 rfl kd_0 (by decide) rfl (by rw [hX]; decide) rfl (Nat.le_of_ble_eq_true rfl) rfl (Nat.le_of_ble_eq_true rfl) (by omega) (by rw [hX]; decide) (Nat.le_refl _) ?_
  refine wp_mono (bo_image (by omega) hI (sc_in G _)) ?_
  rintro _ J Y ⟨z, rfl, hY, hW⟩
  refine wp_eqst (st' := [vI z]) rfl ?_
  refine wp_aload_n (pc := 1134) 2 dL_law_1134 rfl rfl ?_
  refine wp_aload_n (pc := 1135) 0 dL_law_1135 rfl rfl ?_
  refine wp_iload_n (pc := 1136) 3 dL_law_1136 rfl rfl ?_
  refine wp_iconst (pc := 1137) dL_law_1137 ?_
  refine wp_iadd (pc := 1138) dL_law_1138 ?_
  refine wp_scr (pc := 1139) (i + 1) dL_law_1139 (by omega) (by omega) (by omega) ?_
  refine wp_callV (pc := 1140) (st := [vI z]) (nf' := 153) [vI (sc G (i + 1))] [some (vR 111), some (vI (sc G (i + 1))), none] dL_law_1140 rfl c_L_150 rfl kd_111 (by decide) rfl (by rw [hY]; decide) rfl (Nat.le_of_ble_eq_true rfl) rfl (Nat.le_of_ble_eq_true rfl) (by omega) (by rw [hY]; decide) (Nat.le_refl _) ?_
  refine wp_mono hW ?_
  rintro _ K Y2 ⟨rfl, hY2, hI2⟩
  refine wp_eqst (st' := [vI z, vI z]) rfl ?_
  refine wp_same (pc := 1143) 1194 dL_law_1143 (by decide) ?_
  exact hQ K Y2 hY2 hI2
theorem lw_c32 {l : Launch} {G : mG} {d i : Nat} {I : mI} {X : mX} {Q : mQ} (hd : 200 ≤ d) (hN : G.2.2.2.2.1 ≤ 3072) (hi : i + 6 ≤ G.2.2.2.2.1) (hI : INV I X) (hX : X.2.2 = 153) (hQ : ∀ K Y, Y.2.2 = 153 → INV K Y → WP l G m_L_law d 153 K Y 1194 (lwL i) [] Q) : WP l G m_L_law d 153 I X 1148 (lwL i) [] Q := by
  refine wp_aload_n (pc := 1148) 1 dL_law_1148 rfl rfl ?_
  refine wp_aload_n (pc := 1149) 0 dL_law_1149 rfl rfl ?_
  refine wp_iload_n (pc := 1150) 3 dL_law_1150 rfl rfl ?_
  refine wp_iconst (pc := 1151) dL_law_1151 ?_
  refine wp_iadd (pc := 1152) dL_law_1152 ?_
  refine wp_scr (pc := 1153) (i + 1) dL_law_1153 (by omega) (by omega) (by omega) ?_
  refine wp_callV (pc := 1154) (st := []) (nf' := 153) [vI (sc G (i + 1))] [some (vR 0), some (vI (sc G (i + 1)))] dL_law_1154 rfl c_L_151 rfl kd_0 (by decide) rfl (by rw [hX]; decide) rfl (Nat.le_of_ble_eq_true rfl) rfl (Nat.le_of_ble_eq_true rfl) (by omega) (by rw [hX]; decide) (Nat.le_refl _) ?_
  refine wp_mono (bo_back (by omega) hI (sc_in G _)) ?_
  rintro _ J Y ⟨z, rfl, hY, hW⟩
  refine wp_eqst (st' := [vI z]) rfl ?_
  refine wp_aload_n (pc := 1157) 2 dL_law_1157 rfl rfl ?_
  refine wp_aload_n (pc := 1158) 0 dL_law_1158 rfl rfl ?_
  refine wp_iload_n (pc := 1159) 3 dL_law_1159 rfl rfl ?_
  refine wp_iconst (pc := 1160) dL_law_1160 ?_
  refine wp_iadd (pc := 1161) dL_law_1161 ?_
  refine wp_scr (pc := 1162) (i + 1) dL_law_1162 (by omega) (by omega) (by omega) ?_
  refine wp_callV (pc := 1163) (st := [vI z]) (nf' := 153) [vI (sc G (i + 1))] [some (vR 111), some (vI (sc G (i + 1))), none] dL_law_1163 rfl c_L_154 rfl kd_111 (by decide) rfl (by rw [hY]; decide) rfl (Nat.le_of_ble_eq_true rfl) rfl (Nat.le_of_ble_eq_true rfl) (by omega) (by rw [hY]; decide) (Nat.le_refl _) ?_
  refine wp_mono hW ?_
  rintro _ K Y2 ⟨rfl, hY2, hI2⟩
  refine wp_eqst (st' := [vI z, vI z]) rfl ?_
  refine wp_same (pc := 1166) 1194 dL_law_1166 (by decide) ?_
  exact hQ K Y2 hY2 hI2
theorem lw_c33 {l : Launch} {G : mG} {d i : Nat} {I : mI} {X : mX} {Q : mQ} (hd : 200 ≤ d) (hN : G.2.2.2.2.1 ≤ 3072) (hi : i + 6 ≤ G.2.2.2.2.1) (hI : INV I X) (hX : X.2.2 = 153) (hQ : ∀ K Y, Y.2.2 = 153 → INV K Y → WP l G m_L_law d 153 K Y 1194 (lwL i) [] Q) : WP l G m_L_law d 153 I X 1171 (lwL i) [] Q := by
  refine wp_aload_n (pc := 1171) 1 dL_law_1171 rfl rfl ?_
  refine wp_aload_n (pc := 1172) 0 dL_law_1172 rfl rfl ?_
  refine wp_iload_n (pc := 1173) 3 dL_law_1173 rfl rfl ?_
  refine wp_iconst (pc := 1174) dL_law_1174 ?_
  refine wp_iadd (pc := 1175) dL_law_1175 ?_
  refine wp_scr (pc := 1176) (i + 1) dL_law_1176 (by omega) (by omega) (by omega) ?_
  refine wp_callV (pc := 1177) (st := []) (nf' := 153) [vI (sc G (i + 1))] [some (vR 0), some (vI (sc G (i + 1)))] dL_law_1177 rfl c_L_155 rfl kd_0 (by decide) rfl (by rw [hX]; decide) rfl (Nat.le_of_ble_eq_true rfl) rfl (Nat.le_of_ble_eq_true rfl) (by omega) (by rw [hX]; decide) (Nat.le_refl _) ?_
  refine wp_mono (bo_about (by omega) hI (sc_in G _)) ?_
  rintro _ J Y ⟨z, rfl, hY, hW⟩
  refine wp_eqst (st' := [vI z]) rfl ?_
  refine wp_aload_n (pc := 1180) 2 dL_law_1180 rfl rfl ?_
  refine wp_aload_n (pc := 1181) 0 dL_law_1181 rfl rfl ?_
  refine wp_iload_n (pc := 1182) 3 dL_law_1182 rfl rfl ?_
  refine wp_iconst (pc := 1183) dL_law_1183 ?_
  refine wp_iadd (pc := 1184) dL_law_1184 ?_
  refine wp_scr (pc := 1185) (i + 1) dL_law_1185 (by omega) (by omega) (by omega) ?_
  refine wp_callV (pc := 1186) (st := [vI z]) (nf' := 153) [vI (sc G (i + 1))] [some (vR 111), some (vI (sc G (i + 1)))] dL_law_1186 rfl c_L_158 rfl kd_111 (by decide) rfl (by rw [hY]; decide) rfl (Nat.le_of_ble_eq_true rfl) rfl (Nat.le_of_ble_eq_true rfl) (by omega) (by rw [hY]; decide) (Nat.le_refl _) ?_
  refine wp_mono hW ?_
  rintro _ K Y2 ⟨rfl, hY2, hI2⟩
  refine wp_eqst (st' := [vI z, vI z]) rfl ?_
  refine wp_same (pc := 1189) 1194 dL_law_1189 (by decide) ?_
  exact hQ K Y2 hY2 hI2
theorem lw_loop {l : Launch} {G : mG} {d : Nat} {Q : mQ} (hd : 200 ≤ d) (hN : G.2.2.2.2.1 ≤ 3072) (hQ : ∀ K Y, Y.2.2 = 153 → Q (some (vI 1)) K Y) : ∀ r i : Nat, G.2.2.2.2.1 ≤ i + r → i ≤ 3100 → ∀ (I : mI) (X : mX), INV I X → X.2.2 = 153 → WP l G m_L_law d 153 I X 18 (lwL i) [] Q := by
  intro r
  induction r using Nat.strongRecOn with
  | ind r ih =>
  intro i hr hi9 I X hI hX
  refine wp_iload_n (pc := 18) 3 dL_law_18 rfl rfl ?_
  refine wp_aload_n (pc := 19) 0 dL_law_19 rfl rfl ?_
  refine wp_slen (pc := 20) dL_law_20 ?_
  refine wp_bipush (pc := 21) dL_law_21 (by decide) ?_
  refine wp_isub (pc := 23) dL_law_23 ?_
  refine wp_icmp_gt (pc := 24) 1200 dL_law_24 (by decide) (by omega) (by omega) (fun h1 => ?_) (fun h1 => ?_)
  · refine wp_iconst (pc := 1200) dL_law_1200 ?_
    exact wp_zret (pc := 1201) dL_law_1201 rfl hX (Or.inr rfl) (hQ I X hX)
  · have hi : i + 6 ≤ G.2.2.2.2.1 := by omega
    have hn : ∀ K Y, Y.2.2 = 153 → INV K Y → WP l G m_L_law d 153 K Y 1194 (lwL i) [] Q := by
      intro K Y hY hK
      refine wq_iinc (pc := 1194) [some (vR 1000), some (vR 0), some (vR 111), some (vI ((i : Int) + 6))] dL_law_1194 rfl rfl (by decide) rfl ?_
      refine wp_goto (pc := 1197) 18 dL_law_1197 (by decide) ?_
      refine wp_eqls (ls' := lwL (i + 6)) rfl ?_
      exact ih (r - 1) (by omega) (i + 6) (by omega) (by omega) K Y hK hY
    refine wp_aload_n (pc := 27) 0 dL_law_27 rfl rfl ?_
    refine wp_iload_n (pc := 28) 3 dL_law_28 rfl rfl ?_
    refine wp_scr (pc := 29) i dL_law_29 rfl (by omega) (by omega) ?_
    refine wp_bipush (pc := 30) dL_law_30 (by decide) ?_
    refine wp_imask (pc := 32) 6 dL_law_32 rfl (by decide) ?_
    have hx : 0 ≤ sc G i % ((2 ^ 6 : Nat) : Int) ∧ sc G i % ((2 ^ 6 : Nat) : Int) < 64 := ⟨Int.emod_nonneg _ (by decide), Int.emod_lt_of_pos _ (by decide)⟩
    generalize sc G i % ((2 ^ 6 : Nat) : Int) = x at hx ⊢
    by_cases c0 : x = 0
    · exact wp_tin (pc := 33) 0 184 dL_law_33 (by omega) (by rw [c0]; decide) (by decide) rfl (by decide) (lw_c0 hd hN hi hI hX hn)
    by_cases c1 : x = 1
    · exact wp_tin (pc := 33) 1 247 dL_law_33 (by omega) (by rw [c1]; decide) (by decide) rfl (by decide) (lw_c1 hd hN hi hI hX hn)
    by_cases c2 : x = 2
    · exact wp_tin (pc := 33) 2 270 dL_law_33 (by omega) (by rw [c2]; decide) (by decide) rfl (by decide) (lw_c2 hd hN hi hI hX hn)
    by_cases c3 : x = 3
    · exact wp_tin (pc := 33) 3 283 dL_law_33 (by omega) (by rw [c3]; decide) (by decide) rfl (by decide) (lw_c3 hd hN hi hI hX hn)
    by_cases c4 : x = 4
    · exact wp_tin (pc := 33) 4 306 dL_law_33 (by omega) (by rw [c4]; decide) (by decide) rfl (by decide) (lw_c4 hd hN hi hI hX hn)
    by_cases c5 : x = 5
    · exact wp_tin (pc := 33) 5 339 dL_law_33 (by omega) (by rw [c5]; decide) (by decide) rfl (by decide) (lw_c5 hd hN hi hI hX hn)
    by_cases c6 : x = 6
    · exact wp_tin (pc := 33) 6 372 dL_law_33 (by omega) (by rw [c6]; decide) (by decide) rfl (by decide) (lw_c6 hd hN hi hI hX hn)
    by_cases c7 : x = 7
    · exact wp_tin (pc := 33) 7 405 dL_law_33 (by omega) (by rw [c7]; decide) (by decide) rfl (by decide) (lw_c7 hd hN hi hI hX hn)
    by_cases c8 : x = 8
    · exact wp_tin (pc := 33) 8 428 dL_law_33 (by omega) (by rw [c8]; decide) (by decide) rfl (by decide) (lw_c8 hd hN hi hI hX hn)
    by_cases c9 : x = 9
    · exact wp_tin (pc := 33) 9 451 dL_law_33 (by omega) (by rw [c9]; decide) (by decide) rfl (by decide) (lw_c9 hd hN hi hI hX hn)
    by_cases c10 : x = 10
    · exact wp_tin (pc := 33) 10 484 dL_law_33 (by omega) (by rw [c10]; decide) (by decide) rfl (by decide) (lw_c10 hd hN hi hI hX hn)
    by_cases c11 : x = 11
    · exact wp_tin (pc := 33) 11 517 dL_law_33 (by omega) (by rw [c11]; decide) (by decide) rfl (by decide) (lw_c11 hd hN hi hI hX hn)
    by_cases c12 : x = 12
    · exact wp_tin (pc := 33) 12 560 dL_law_33 (by omega) (by rw [c12]; decide) (by decide) rfl (by decide) (lw_c12 hd hN hi hI hX hn)
    by_cases c13 : x = 13
    · exact wp_tin (pc := 33) 13 583 dL_law_33 (by omega) (by rw [c13]; decide) (by decide) rfl (by decide) (lw_c13 hd hN hi hI hX hn)
    by_cases c14 : x = 14
    · exact wp_tin (pc := 33) 14 596 dL_law_33 (by omega) (by rw [c14]; decide) (by decide) rfl (by decide) (lw_c14 hd hN hi hI hX hn)
    by_cases c15 : x = 15
    · exact wp_tin (pc := 33) 15 609 dL_law_33 (by omega) (by rw [c15]; decide) (by decide) rfl (by decide) (lw_c15 hd hN hi hI hX hn)
    by_cases c16 : x = 16
    · exact wp_tin (pc := 33) 16 622 dL_law_33 (by omega) (by rw [c16]; decide) (by decide) rfl (by decide) (lw_c16 hd hN hi hI hX hn)
    by_cases c17 : x = 17
    · exact wp_tin (pc := 33) 17 675 dL_law_33 (by omega) (by rw [c17]; decide) (by decide) rfl (by decide) (lw_c17 hd hN hi hI hX hn)
    by_cases c18 : x = 18
    · exact wp_tin (pc := 33) 18 708 dL_law_33 (by omega) (by rw [c18]; decide) (by decide) rfl (by decide) (lw_c18 hd hN hi hI hX hn)
    by_cases c19 : x = 19
    · exact wp_tin (pc := 33) 19 741 dL_law_33 (by omega) (by rw [c19]; decide) (by decide) rfl (by decide) (lw_c19 hd hN hi hI hX hn)
    by_cases c20 : x = 20
    · exact wp_tin (pc := 33) 20 784 dL_law_33 (by omega) (by rw [c20]; decide) (by decide) rfl (by decide) (lw_c20 hd hN hi hI hX hn)
    by_cases c21 : x = 21
    · exact wp_tin (pc := 33) 21 807 dL_law_33 (by omega) (by rw [c21]; decide) (by decide) rfl (by decide) (lw_c21 hd hN hi hI hX hn)
    by_cases c22 : x = 22
    · exact wp_tin (pc := 33) 22 830 dL_law_33 (by omega) (by rw [c22]; decide) (by decide) rfl (by decide) (lw_c22 hd hN hi hI hX hn)
    by_cases c23 : x = 23
    · exact wp_tin (pc := 33) 23 853 dL_law_33 (by omega) (by rw [c23]; decide) (by decide) rfl (by decide) (lw_c23 hd hN hi hI hX hn)
    by_cases c24 : x = 24
    · exact wp_tin (pc := 33) 24 866 dL_law_33 (by omega) (by rw [c24]; decide) (by decide) rfl (by decide) (lw_c24 hd hN hi hI hX hn)
    by_cases c25 : x = 25
    · exact wp_tin (pc := 33) 25 915 dL_law_33 (by omega) (by rw [c25]; decide) (by decide) rfl (by decide) (lw_c25 hd hN hi hI hX hn)
    by_cases c26 : x = 26
    · exact wp_tin (pc := 33) 26 964 dL_law_33 (by omega) (by rw [c26]; decide) (by decide) rfl (by decide) (lw_c26 hd hN hi hI hX hn)
    by_cases c27 : x = 27
    · exact wp_tin (pc := 33) 27 1023 dL_law_33 (by omega) (by rw [c27]; decide) (by decide) rfl (by decide) (lw_c27 hd hN hi hI hX hn)
    by_cases c28 : x = 28
    · exact wp_tin (pc := 33) 28 1046 dL_law_33 (by omega) (by rw [c28]; decide) (by decide) rfl (by decide) (lw_c28 hd hN hi hI hX hn)
    by_cases c29 : x = 29
    · exact wp_tin (pc := 33) 29 1069 dL_law_33 (by omega) (by rw [c29]; decide) (by decide) rfl (by decide) (lw_c29 hd hN hi hI hX hn)
    by_cases c30 : x = 30
    · exact wp_tin (pc := 33) 30 1092 dL_law_33 (by omega) (by rw [c30]; decide) (by decide) rfl (by decide) (lw_c30 hd hN hi hI hX hn)
    by_cases c31 : x = 31
    · exact wp_tin (pc := 33) 31 1125 dL_law_33 (by omega) (by rw [c31]; decide) (by decide) rfl (by decide) (lw_c31 hd hN hi hI hX hn)
    by_cases c32 : x = 32
    · exact wp_tin (pc := 33) 32 1148 dL_law_33 (by omega) (by rw [c32]; decide) (by decide) rfl (by decide) (lw_c32 hd hN hi hI hX hn)
    by_cases c33 : x = 33
    · exact wp_tin (pc := 33) 33 1171 dL_law_33 (by omega) (by rw [c33]; decide) (by decide) rfl (by decide) (lw_c33 hd hN hi hI hX hn)
    exact wp_tout (pc := 33) 1194 dL_law_33 (by omega) (by omega) (by decide) (hn I X hX hI)
